/-- a contract of a method whose class has members that the machine does itself, while this one is plain -/
theorem met_ofWF {l : Launch} {y : MethodName} {ws ws' : List Cond} {rm : Room} {Pc : Array Value → State → Prop} {Qc : Array Value → State → Outcome → State → Prop} {mc ms : Nat} {free : Addr → Prop} {cc : ByteArray} {maxL : Nat} {ret : Option FieldType}
    (hy : plainFor y = true) (hw : ws = Cond.code y cc maxL ret :: ws')
    (body : ∀ p e s m args below meth c s₁, BodyLoose p l y (headSpec ws rm) cc maxL ret e s m args below meth c s₁ → c.maxLocals = maxL → Pc args s →
      W p l e (headSpec ws rm).room s m args below meth c s.heap [] 0 0 (MQ below Qc args s mc ms free) (entryFrame m args maxL)) : Met l y ws rm Pc Qc mc ms free := by
  refine MetFree.of_bodySF (code := cc) (maxLocals := maxL) (ret := ret) hy ?_ ?_
  · intro args s m h hn
    obtain ⟨meth, c, h1, h2, h3, h4, h5, h6, -, -⟩ := Cond.code_spec hn (atoms_spec (ws := ws) h _ (by rw [hw]; exact List.mem_cons_self))
    exact ⟨meth, c, h1, h2, h3, h4, h5, h6⟩
  · intro p e s m args below meth c s₁ B hml hP _
    have hh0 : s₁.heap = s.heap := by rw [B.state]; rfl
    obtain ⟨t, a1, o, b1, b2, b3⟩ := body p e s m args below meth c s₁ B hml hP s₁ hh0 (Stand.of_body B)
    exact ⟨t, o, a1, b1, b2, ⟨b3.1, b3.2⟩⟩

def f_X3_lengthOfMonth (p0 : Int32) (p1 : Int32) : Int32 :=
  if p1 = 2 then
    if (p0 - p0 / 4 * 4) = 0 then
      if (p0 - p0 / 100 * 100) = 0 then
        if (p0 - p0 / 400 * 400) = 0 then
          29
        else
          28
      else
        29
    else
      28
  else
    if p1 = 4 then
      30
    else
      if p1 = 6 then
        30
      else
        if p1 = 9 then
          30
        else
          if p1 = 11 then
            30
          else
            31
set_option maxHeartbeats 4000000 in
set_option maxRecDepth 100000 in
theorem k_X3_lengthOfMonth (l : Launch) (dC : Nat → ClassId) (dI : Nat → Nat → Nat) (sz : Nat) (p0 : Int32) (p1 : Int32) : Met l yX3_lengthOfMonth wsX3_lengthOfMonth ({ frames := 0, cells := 0, slots := 0, locals := 0 }) (va_Pc [.int p0, .int p1] (fun U => U.heap.size = sz ∧ va_P (dC, dI) vwCl [] U.heap ∧ va_K (dC, dI) vwCl [] U ∧ va_D (fun _ => True) [])) (va_Qi (fun (r : Int32) (_ : Unit) => r = f_X3_lengthOfMonth p0 p1) (fun _ t => va_P (dC, dI) vwCl [] t.heap ∧ va_K (dC, dI) vwCl [] t ∧ va_D (va_A [] sz) []) (va_A [] sz)) 0 0 (va_A [] sz) := by
  refine Met.ofW (cc := cX3_lengthOfMonth) (maxL := 3) (ret := (some .int)) (by decide) rfl ?_
  intro p e s m args below meth c s₁ B hml hv
  obtain ⟨rfl, hsz, hP, hK, hD0⟩ := hv
  have hx := B.exec
  have hb := B.bytes
  have hr := B.returns
  have hts := atoms_spec (ws := wsX3_lengthOfMonth) B.pre
  have hown : s.vm.findClass RX3 = some m.cls := findClass_of_methodNamed B.named
  have hlocks := B.notSynchronized
  subst hsz
  have hD := hD0.self (sz := s.heap.size)
  generalize hAe : va_A [] s.heap.size = A at hD ⊢
  have hA : ∀ q : Nat, s.heap.size ≤ q → A q := fun q h => by rw [← hAe]; exact Or.inr h
  have hS : va_S A s.heap s.heap [] := va_S.rf
  have hP : va_P (dC, dI) vwCl [] s.heap := hP
  have hl := lv_entry ([.int p0, .int p1]) (n := 3) (Nat.le_of_ble_eq_true rfl)
  rw [lg_entry_eq]
  generalize (lg_sl ([.int p0, .int p1]) ++ List.replicate (3 - (lg_sl ([.int p0, .int p1])).length) Slot.unset).toArray = ls at hl ⊢
  have hl : lv_has ls 3 [(0, .int p0), (1, .int p1)] := hl
  refine lv_iload_n hx hb dX3_lengthOfMonth_0 rfl (lv_at hl 1 rfl) ?_
  refine lv_iconst (v := 2) hx hb dX3_lengthOfMonth_1 (by decide) ?_
  refine lv_icmp_ne (tgt := 44) hx hb dX3_lengthOfMonth_2 (by decide) (fun c_1 => ?_) (fun c_1 => ?_)
  · refine lv_iload_n hx hb dX3_lengthOfMonth_44 rfl (lv_at hl 1 rfl) ?_
    refine lv_iconst (v := 4) hx hb dX3_lengthOfMonth_45 (by decide) ?_
    refine lv_icmp_eq (tgt := 67) hx hb dX3_lengthOfMonth_46 (by decide) (fun c_2 => ?_) (fun c_2 => ?_)
    · refine lv_bipush (v := 30) hx hb dX3_lengthOfMonth_67 (by decide) ?_
      refine lv_goto (tgt := 74) hx hb dX3_lengthOfMonth_69 (by decide) ?_
      have hpost : 30 = f_X3_lengthOfMonth p0 p1 := by refine Eq.symm ?_; refine (if_neg c_1).trans ?_; refine (if_pos c_2).trans ?_; rfl
      have hP9 := hP.sub (ws' := []) [] rfl
      have hD9 := hD.sub (ws' := []) [] (by decide) rfl
      have hK9 := hK.sub (tys' := []) [] rfl
      exact W.iret (v := 30) hx hb hr (fun t ht hW => ⟨⟨30, (), rfl, hpost, by rw [ht]; exact hP9, va_K.moved hW.alike hK9, hD9⟩, hS.F ht⟩) hS.2.2 dX3_lengthOfMonth_74
    · refine lv_iload_n hx hb dX3_lengthOfMonth_49 rfl (lv_at hl 1 rfl) ?_
      refine lv_bipush (v := 6) hx hb dX3_lengthOfMonth_50 (by decide) ?_
      refine lv_icmp_eq (tgt := 67) hx hb dX3_lengthOfMonth_52 (by decide) (fun c_3 => ?_) (fun c_3 => ?_)
      · refine lv_bipush (v := 30) hx hb dX3_lengthOfMonth_67 (by decide) ?_
        refine lv_goto (tgt := 74) hx hb dX3_lengthOfMonth_69 (by decide) ?_
        have hpost : 30 = f_X3_lengthOfMonth p0 p1 := by refine Eq.symm ?_; refine (if_neg c_1).trans ?_; refine (if_neg c_2).trans ?_; refine (if_pos c_3).trans ?_; rfl
        have hP9 := hP.sub (ws' := []) [] rfl
        have hD9 := hD.sub (ws' := []) [] (by decide) rfl
        have hK9 := hK.sub (tys' := []) [] rfl
        exact W.iret (v := 30) hx hb hr (fun t ht hW => ⟨⟨30, (), rfl, hpost, by rw [ht]; exact hP9, va_K.moved hW.alike hK9, hD9⟩, hS.F ht⟩) hS.2.2 dX3_lengthOfMonth_74
      · refine lv_iload_n hx hb dX3_lengthOfMonth_55 rfl (lv_at hl 1 rfl) ?_
        refine lv_bipush (v := 9) hx hb dX3_lengthOfMonth_56 (by decide) ?_
        refine lv_icmp_eq (tgt := 67) hx hb dX3_lengthOfMonth_58 (by decide) (fun c_4 => ?_) (fun c_4 => ?_)
        · refine lv_bipush (v := 30) hx hb dX3_lengthOfMonth_67 (by decide) ?_
          refine lv_goto (tgt := 74) hx hb dX3_lengthOfMonth_69 (by decide) ?_
          have hpost : 30 = f_X3_lengthOfMonth p0 p1 := by refine Eq.symm ?_; refine (if_neg c_1).trans ?_; refine (if_neg c_2).trans ?_; refine (if_neg c_3).trans ?_; refine (if_pos c_4).trans ?_; rfl
          have hP9 := hP.sub (ws' := []) [] rfl
          have hD9 := hD.sub (ws' := []) [] (by decide) rfl
          have hK9 := hK.sub (tys' := []) [] rfl
          exact W.iret (v := 30) hx hb hr (fun t ht hW => ⟨⟨30, (), rfl, hpost, by rw [ht]; exact hP9, va_K.moved hW.alike hK9, hD9⟩, hS.F ht⟩) hS.2.2 dX3_lengthOfMonth_74
        · refine lv_iload_n hx hb dX3_lengthOfMonth_61 rfl (lv_at hl 1 rfl) ?_
          refine lv_bipush (v := 11) hx hb dX3_lengthOfMonth_62 (by decide) ?_
          refine lv_icmp_ne (tgt := 72) hx hb dX3_lengthOfMonth_64 (by decide) (fun c_5 => ?_) (fun c_5 => ?_)
          · refine lv_bipush (v := 31) hx hb dX3_lengthOfMonth_72 (by decide) ?_
            have hpost : 31 = f_X3_lengthOfMonth p0 p1 := by refine Eq.symm ?_; refine (if_neg c_1).trans ?_; refine (if_neg c_2).trans ?_; refine (if_neg c_3).trans ?_; refine (if_neg c_4).trans ?_; refine (if_neg c_5).trans ?_; rfl
            have hP9 := hP.sub (ws' := []) [] rfl
            have hD9 := hD.sub (ws' := []) [] (by decide) rfl
            have hK9 := hK.sub (tys' := []) [] rfl
            exact W.iret (v := 31) hx hb hr (fun t ht hW => ⟨⟨31, (), rfl, hpost, by rw [ht]; exact hP9, va_K.moved hW.alike hK9, hD9⟩, hS.F ht⟩) hS.2.2 dX3_lengthOfMonth_74
          · refine lv_bipush (v := 30) hx hb dX3_lengthOfMonth_67 (by decide) ?_
            refine lv_goto (tgt := 74) hx hb dX3_lengthOfMonth_69 (by decide) ?_
            have hpost : 30 = f_X3_lengthOfMonth p0 p1 := by refine Eq.symm ?_; refine (if_neg c_1).trans ?_; refine (if_neg c_2).trans ?_; refine (if_neg c_3).trans ?_; refine (if_neg c_4).trans ?_; refine (if_pos c_5).trans ?_; rfl
            have hP9 := hP.sub (ws' := []) [] rfl
            have hD9 := hD.sub (ws' := []) [] (by decide) rfl
            have hK9 := hK.sub (tys' := []) [] rfl
            exact W.iret (v := 30) hx hb hr (fun t ht hW => ⟨⟨30, (), rfl, hpost, by rw [ht]; exact hP9, va_K.moved hW.alike hK9, hD9⟩, hS.F ht⟩) hS.2.2 dX3_lengthOfMonth_74
  · refine lv_iload_n hx hb dX3_lengthOfMonth_5 rfl (lv_at hl 0 rfl) ?_
    refine lv_iconst (v := 4) hx hb dX3_lengthOfMonth_6 (by decide) ?_
    refine lv_irem hx hb dX3_lengthOfMonth_7 (by decide) ?_
    refine lv_if_ne (tgt := 30) hx hb dX3_lengthOfMonth_8 (by decide) (fun c_6 => ?_) (fun c_6 => ?_)
    · refine lv_iconst (v := 0) hx hb dX3_lengthOfMonth_30 (by decide) ?_
      refine lv_istore_n (lv' := [(2, .int 0), (0, .int p0), (1, .int p1)]) hx hb dX3_lengthOfMonth_31 rfl hl (by decide) rfl (fun ls hl => ?_)
      refine lv_iload_n hx hb dX3_lengthOfMonth_32 rfl (lv_at hl 0 rfl) ?_
      refine lv_if_eq (tgt := 41) hx hb dX3_lengthOfMonth_33 (by decide) (fun c_7 => ?_) (fun c_7 => ?_)
      · refine lv_bipush (v := 28) hx hb dX3_lengthOfMonth_41 (by decide) ?_
        have hpost : 28 = f_X3_lengthOfMonth p0 p1 := by refine Eq.symm ?_; refine (if_pos c_1).trans ?_; refine (if_neg c_6).trans ?_; rfl
        have hP9 := hP.sub (ws' := []) [] rfl
        have hD9 := hD.sub (ws' := []) [] (by decide) rfl
        have hK9 := hK.sub (tys' := []) [] rfl
        exact W.iret (v := 28) hx hb hr (fun t ht hW => ⟨⟨28, (), rfl, hpost, by rw [ht]; exact hP9, va_K.moved hW.alike hK9, hD9⟩, hS.F ht⟩) hS.2.2 dX3_lengthOfMonth_43
      · exact absurd (by decide) c_7
    · refine lv_iload_n hx hb dX3_lengthOfMonth_11 rfl (lv_at hl 0 rfl) ?_
      refine lv_bipush (v := 100) hx hb dX3_lengthOfMonth_12 (by decide) ?_
      refine lv_irem hx hb dX3_lengthOfMonth_14 (by decide) ?_
      refine lv_if_ne (tgt := 26) hx hb dX3_lengthOfMonth_15 (by decide) (fun c_8 => ?_) (fun c_8 => ?_)
      · refine lv_iconst (v := 1) hx hb dX3_lengthOfMonth_26 (by decide) ?_
        refine lv_goto (tgt := 31) hx hb dX3_lengthOfMonth_27 (by decide) ?_
        refine lv_istore_n (lv' := [(2, .int 1), (0, .int p0), (1, .int p1)]) hx hb dX3_lengthOfMonth_31 rfl hl (by decide) rfl (fun ls hl => ?_)
        refine lv_iload_n hx hb dX3_lengthOfMonth_32 rfl (lv_at hl 0 rfl) ?_
        refine lv_if_eq (tgt := 41) hx hb dX3_lengthOfMonth_33 (by decide) (fun c_9 => ?_) (fun c_9 => ?_)
        · exact absurd c_9 (by decide)
        · refine lv_bipush (v := 29) hx hb dX3_lengthOfMonth_36 (by decide) ?_
          refine lv_goto (tgt := 43) hx hb dX3_lengthOfMonth_38 (by decide) ?_
          have hpost : 29 = f_X3_lengthOfMonth p0 p1 := by refine Eq.symm ?_; refine (if_pos c_1).trans ?_; refine (if_pos c_6).trans ?_; refine (if_neg c_8).trans ?_; rfl
          have hP9 := hP.sub (ws' := []) [] rfl
          have hD9 := hD.sub (ws' := []) [] (by decide) rfl
          have hK9 := hK.sub (tys' := []) [] rfl
          exact W.iret (v := 29) hx hb hr (fun t ht hW => ⟨⟨29, (), rfl, hpost, by rw [ht]; exact hP9, va_K.moved hW.alike hK9, hD9⟩, hS.F ht⟩) hS.2.2 dX3_lengthOfMonth_43
      · refine lv_iload_n hx hb dX3_lengthOfMonth_18 rfl (lv_at hl 0 rfl) ?_
        refine lv_sipush (v := 400) hx hb dX3_lengthOfMonth_19 (by decide) ?_
        refine lv_irem hx hb dX3_lengthOfMonth_22 (by decide) ?_
        refine lv_if_ne (tgt := 30) hx hb dX3_lengthOfMonth_23 (by decide) (fun c_10 => ?_) (fun c_10 => ?_)
        · refine lv_iconst (v := 0) hx hb dX3_lengthOfMonth_30 (by decide) ?_
          refine lv_istore_n (lv' := [(2, .int 0), (0, .int p0), (1, .int p1)]) hx hb dX3_lengthOfMonth_31 rfl hl (by decide) rfl (fun ls hl => ?_)
          refine lv_iload_n hx hb dX3_lengthOfMonth_32 rfl (lv_at hl 0 rfl) ?_
          refine lv_if_eq (tgt := 41) hx hb dX3_lengthOfMonth_33 (by decide) (fun c_11 => ?_) (fun c_11 => ?_)
          · refine lv_bipush (v := 28) hx hb dX3_lengthOfMonth_41 (by decide) ?_
            have hpost : 28 = f_X3_lengthOfMonth p0 p1 := by refine Eq.symm ?_; refine (if_pos c_1).trans ?_; refine (if_pos c_6).trans ?_; refine (if_pos c_8).trans ?_; refine (if_neg c_10).trans ?_; rfl
            have hP9 := hP.sub (ws' := []) [] rfl
            have hD9 := hD.sub (ws' := []) [] (by decide) rfl
            have hK9 := hK.sub (tys' := []) [] rfl
            exact W.iret (v := 28) hx hb hr (fun t ht hW => ⟨⟨28, (), rfl, hpost, by rw [ht]; exact hP9, va_K.moved hW.alike hK9, hD9⟩, hS.F ht⟩) hS.2.2 dX3_lengthOfMonth_43
          · exact absurd (by decide) c_11
        · refine lv_iconst (v := 1) hx hb dX3_lengthOfMonth_26 (by decide) ?_
          refine lv_goto (tgt := 31) hx hb dX3_lengthOfMonth_27 (by decide) ?_
          refine lv_istore_n (lv' := [(2, .int 1), (0, .int p0), (1, .int p1)]) hx hb dX3_lengthOfMonth_31 rfl hl (by decide) rfl (fun ls hl => ?_)
          refine lv_iload_n hx hb dX3_lengthOfMonth_32 rfl (lv_at hl 0 rfl) ?_
          refine lv_if_eq (tgt := 41) hx hb dX3_lengthOfMonth_33 (by decide) (fun c_12 => ?_) (fun c_12 => ?_)
          · exact absurd c_12 (by decide)
          · refine lv_bipush (v := 29) hx hb dX3_lengthOfMonth_36 (by decide) ?_
            refine lv_goto (tgt := 43) hx hb dX3_lengthOfMonth_38 (by decide) ?_
            have hpost : 29 = f_X3_lengthOfMonth p0 p1 := by refine Eq.symm ?_; refine (if_pos c_1).trans ?_; refine (if_pos c_6).trans ?_; refine (if_pos c_8).trans ?_; refine (if_pos c_10).trans ?_; rfl
            have hP9 := hP.sub (ws' := []) [] rfl
            have hD9 := hD.sub (ws' := []) [] (by decide) rfl
            have hK9 := hK.sub (tys' := []) [] rfl
            exact W.iret (v := 29) hx hb hr (fun t ht hW => ⟨⟨29, (), rfl, hpost, by rw [ht]; exact hP9, va_K.moved hW.alike hK9, hD9⟩, hS.F ht⟩) hS.2.2 dX3_lengthOfMonth_43
def f_X3_isDate (p0 : Int32) : Int32 :=
  if p0 < 19800101 then
    0
  else
    if p0 ≤ 20791231 then
      let x_3 : Int32 := ((p0 / 100) - (p0 / 100) / 100 * 100)
      let x_4 : Int32 := (p0 - p0 / 100 * 100)
      if x_3 < 1 then
        0
      else
        if 12 < x_3 then
          0
        else
          if x_4 < 1 then
            0
          else
            let r_8 : Int32 := f_X3_lengthOfMonth (p0 / 10000) x_3
            if r_8 < x_4 then
              0
            else
              1
    else
      0
set_option maxHeartbeats 4000000 in
set_option maxRecDepth 100000 in
theorem k_X3_isDate (l : Launch) (dC : Nat → ClassId) (dI : Nat → Nat → Nat) (sz : Nat) (p0 : Int32) : Met l yX3_isDate wsX3_isDate ({ frames := 1, cells := 0, slots := 0, locals := 22 }) (va_Pc [.int p0] (fun U => U.heap.size = sz ∧ va_P (dC, dI) vwCl [] U.heap ∧ va_K (dC, dI) vwCl [] U ∧ va_D (fun _ => True) [])) (va_Qi (fun (r : Int32) (_ : Unit) => r = f_X3_isDate p0) (fun _ t => va_P (dC, dI) vwCl [] t.heap ∧ va_K (dC, dI) vwCl [] t ∧ va_D (va_A [] sz) []) (va_A [] sz)) 0 0 (va_A [] sz) := by
  refine Met.ofW (cc := cX3_isDate) (maxL := 3) (ret := (some .boolean)) (by decide) rfl ?_
  intro p e s m args below meth c s₁ B hml hv
  obtain ⟨rfl, hsz, hP, hK, hD0⟩ := hv
  have hx := B.exec
  have hb := B.bytes
  have hr := B.returns
  have hts := atoms_spec (ws := wsX3_isDate) B.pre
  have hown : s.vm.findClass RX3 = some m.cls := findClass_of_methodNamed B.named
  have hlocks := B.notSynchronized
  subst hsz
  have hD := hD0.self (sz := s.heap.size)
  generalize hAe : va_A [] s.heap.size = A at hD ⊢
  have hA : ∀ q : Nat, s.heap.size ≤ q → A q := fun q h => by rw [← hAe]; exact Or.inr h
  have hS : va_S A s.heap s.heap [] := va_S.rf
  have hP : va_P (dC, dI) vwCl [] s.heap := hP
  have hl := lv_entry ([.int p0]) (n := 3) (Nat.le_of_ble_eq_true rfl)
  rw [lg_entry_eq]
  generalize (lg_sl ([.int p0]) ++ List.replicate (3 - (lg_sl ([.int p0])).length) Slot.unset).toArray = ls at hl ⊢
  have hl : lv_has ls 3 [(0, .int p0)] := hl
  refine lv_iload_n hx hb dX3_isDate_0 rfl (lv_at hl 0 rfl) ?_
  refine lv_ldc (v := 19800101) hx hb hown (hts (.constant RX3 9 (19800101)) (by decide +kernel)) dX3_isDate_1 ?_
  refine lv_icmp_lt (tgt := 12) hx hb dX3_isDate_3 (by decide) (fun c_1 => ?_) (fun c_1 => ?_)
  · refine lv_iconst (v := 0) hx hb dX3_isDate_12 (by decide) ?_
    have hpost : 0 = f_X3_isDate p0 := by refine Eq.symm ?_; refine (if_pos c_1).trans ?_; rfl
    have hP9 := hP.sub (ws' := []) [] rfl
    have hD9 := hD.sub (ws' := []) [] (by decide) rfl
    have hK9 := hK.sub (tys' := []) [] rfl
    exact W.zret (v := 0) hx hb hr (by decide) (fun t ht hW => ⟨⟨0, (), rfl, hpost, by rw [ht]; exact hP9, va_K.moved hW.alike hK9, hD9⟩, hS.F ht⟩) hS.2.2 dX3_isDate_13
  · refine lv_iload_n hx hb dX3_isDate_6 rfl (lv_at hl 0 rfl) ?_
    refine lv_ldc (v := 20791231) hx hb hown (hts (.constant RX3 10 (20791231)) (by decide +kernel)) dX3_isDate_7 ?_
    refine lv_icmp_le (tgt := 14) hx hb dX3_isDate_9 (by decide) (fun c_2 => ?_) (fun c_2 => ?_)
    · refine lv_iload_n hx hb dX3_isDate_14 rfl (lv_at hl 0 rfl) ?_
      refine lv_bipush (v := 100) hx hb dX3_isDate_15 (by decide) ?_
      refine lv_idiv hx hb dX3_isDate_17 (by decide) ?_
      refine lv_bipush (v := 100) hx hb dX3_isDate_18 (by decide) ?_
      refine lv_irem hx hb dX3_isDate_20 (by decide) ?_
      refine lv_topi (fun x_3 ex_3 => ?_)
      refine lv_istore_n (lv' := [(1, .int x_3), (0, .int p0)]) hx hb dX3_isDate_21 rfl hl (by decide) rfl (fun ls hl => ?_)
      refine lv_iload_n hx hb dX3_isDate_22 rfl (lv_at hl 1 rfl) ?_
      refine lv_bipush (v := 100) hx hb dX3_isDate_23 (by decide) ?_
      refine lv_irem hx hb dX3_isDate_25 (by decide) ?_
      refine lv_topi (fun x_4 ex_4 => ?_)
      refine lv_istore_n (lv' := [(2, .int x_4), (1, .int x_3), (0, .int p0)]) hx hb dX3_isDate_26 rfl hl (by decide) rfl (fun ls hl => ?_)
      refine lv_iload_n hx hb dX3_isDate_27 rfl (lv_at hl 1 rfl) ?_
      refine lv_iconst (v := 1) hx hb dX3_isDate_28 (by decide) ?_
      refine lv_icmp_lt (tgt := 60) hx hb dX3_isDate_29 (by decide) (fun c_5 => ?_) (fun c_5 => ?_)
      · refine lv_iconst (v := 0) hx hb dX3_isDate_60 (by decide) ?_
        have hpost : 0 = f_X3_isDate p0 := by subst ex_3 ex_4; refine Eq.symm ?_; refine (if_neg c_1).trans ?_; refine (if_pos c_2).trans ?_; refine (if_pos c_5).trans ?_; rfl
        have hP9 := hP.sub (ws' := []) [] rfl
        have hD9 := hD.sub (ws' := []) [] (by decide) rfl
        have hK9 := hK.sub (tys' := []) [] rfl
        exact W.zret (v := 0) hx hb hr (by decide) (fun t ht hW => ⟨⟨0, (), rfl, hpost, by rw [ht]; exact hP9, va_K.moved hW.alike hK9, hD9⟩, hS.F ht⟩) hS.2.2 dX3_isDate_61
      · refine lv_iload_n hx hb dX3_isDate_32 rfl (lv_at hl 1 rfl) ?_
        refine lv_bipush (v := 12) hx hb dX3_isDate_33 (by decide) ?_
        refine lv_icmp_gt (tgt := 60) hx hb dX3_isDate_35 (by decide) (fun c_6 => ?_) (fun c_6 => ?_)
        · refine lv_iconst (v := 0) hx hb dX3_isDate_60 (by decide) ?_
          have hpost : 0 = f_X3_isDate p0 := by subst ex_3 ex_4; refine Eq.symm ?_; refine (if_neg c_1).trans ?_; refine (if_pos c_2).trans ?_; refine (if_neg c_5).trans ?_; refine (if_pos c_6).trans ?_; rfl
          have hP9 := hP.sub (ws' := []) [] rfl
          have hD9 := hD.sub (ws' := []) [] (by decide) rfl
          have hK9 := hK.sub (tys' := []) [] rfl
          exact W.zret (v := 0) hx hb hr (by decide) (fun t ht hW => ⟨⟨0, (), rfl, hpost, by rw [ht]; exact hP9, va_K.moved hW.alike hK9, hD9⟩, hS.F ht⟩) hS.2.2 dX3_isDate_61
        · refine lv_iload_n hx hb dX3_isDate_38 rfl (lv_at hl 0 rfl) ?_
          refine lv_iconst (v := 1) hx hb dX3_isDate_39 (by decide) ?_
          refine lv_icmp_lt (tgt := 60) hx hb dX3_isDate_40 (by decide) (fun c_7 => ?_) (fun c_7 => ?_)
          · refine lv_iconst (v := 0) hx hb dX3_isDate_60 (by decide) ?_
            have hpost : 0 = f_X3_isDate p0 := by subst ex_3 ex_4; refine Eq.symm ?_; refine (if_neg c_1).trans ?_; refine (if_pos c_2).trans ?_; refine (if_neg c_5).trans ?_; refine (if_neg c_6).trans ?_; refine (if_pos c_7).trans ?_; rfl
            have hP9 := hP.sub (ws' := []) [] rfl
            have hD9 := hD.sub (ws' := []) [] (by decide) rfl
            have hK9 := hK.sub (tys' := []) [] rfl
            exact W.zret (v := 0) hx hb hr (by decide) (fun t ht hW => ⟨⟨0, (), rfl, hpost, by rw [ht]; exact hP9, va_K.moved hW.alike hK9, hD9⟩, hS.F ht⟩) hS.2.2 dX3_isDate_61
          · refine lv_iload_n hx hb dX3_isDate_43 rfl (lv_at hl 0 rfl) ?_
            refine lv_iload_n hx hb dX3_isDate_44 rfl (lv_at hl 2 rfl) ?_
            refine lv_sipush (v := 10000) hx hb dX3_isDate_45 (by decide) ?_
            refine lv_idiv hx hb dX3_isDate_48 (by decide) ?_
            refine lv_iload_n hx hb dX3_isDate_49 rfl (lv_at hl 1 rfl) ?_
            have hPc := hP.sub (ws' := []) [] rfl
            have hDc := hD.sub (ws' := []) [] (by decide) rfl
            have hKc := hK.sub (tys' := []) [] rfl
            have hFc := va_free (wc := []) hD hS hA [] rfl
            refine va_calli (va_runS (As := [.int (p0 / 10000), .int x_3]) (rest := [.int x_4]) ⟨hx, hb, hml, hown, hts⟩ (k_X3_lengthOfMonth l dC dI s.heap.size (p0 / 10000) x_3) (va_cwS 2 hts gX3_isDate_X3_lengthOfMonth rfl rfl rfl (by decide +kernel) ⟨Nat.le_of_ble_eq_true rfl, Nat.le_of_ble_eq_true rfl⟩) ⟨fun a U g mk q => by obtain ⟨q0, q1, qP, qK, qD⟩ := q; exact ⟨q0, q1, qP, va_K.moved (u := U) (U := U.calling g mk a) (Vm.Alike.refl U.vm) qK, qD⟩, fun U hU hW => ⟨rfl, by rw [hU], by rw [hU]; exact hPc, va_K.moved hW.alike hKc, hDc.weaken (fun _ _ _ _ => trivial)⟩⟩ rfl rfl hl.1 rfl (lv_room (Nat.le_of_ble_eq_true rfl)) dX3_isDate_50 ⟨Nat.le_of_ble_eq_true rfl, Nat.le_of_ble_eq_true rfl⟩) hS (fun q _ h => hFc q h) hFc (fun r_8 u t H1 locs ht hvm hw hB hz1 hk1 hS => ?_)
            obtain ⟨hP1, hK1, hD1⟩ := hB
            rw [ht] at hP1
            have hK1 := va_K.moved hvm.symm hK1
            obtain ⟨hP, hD⟩ := va_join (wr := []) (w1 := []) hP hD [] [] rfl rfl (by decide) (by decide) hk1 hFc hP1 hD1
            generalize H1 = H at hP hS ⊢
            have hP : va_P (dC, dI) vwCl [] H := hP
            have hD : va_D A [] := hD
            have er_8 : r_8 = f_X3_lengthOfMonth (p0 / 10000) x_3 := hw
            refine lv_icmp_gt (tgt := 60) hx hb dX3_isDate_53 (by decide) (fun c_9 => ?_) (fun c_9 => ?_)
            · refine lv_iconst (v := 0) hx hb dX3_isDate_60 (by decide) ?_
              have hpost : 0 = f_X3_isDate p0 := by subst ex_3 ex_4 er_8; refine Eq.symm ?_; refine (if_neg c_1).trans ?_; refine (if_pos c_2).trans ?_; refine (if_neg c_5).trans ?_; refine (if_neg c_6).trans ?_; refine (if_neg c_7).trans ?_; refine (if_pos c_9).trans ?_; rfl
              have hP9 := hP.sub (ws' := []) [] rfl
              have hD9 := hD.sub (ws' := []) [] (by decide) rfl
              have hK9 := hK.sub (tys' := []) [] rfl
              exact W.zret (v := 0) hx hb hr (by decide) (fun t ht hW => ⟨⟨0, (), rfl, hpost, by rw [ht]; exact hP9, va_K.moved hW.alike hK9, hD9⟩, hS.F ht⟩) hS.2.2 dX3_isDate_61
            · refine lv_iconst (v := 1) hx hb dX3_isDate_56 (by decide) ?_
              refine lv_goto (tgt := 61) hx hb dX3_isDate_57 (by decide) ?_
              have hpost : 1 = f_X3_isDate p0 := by subst ex_3 ex_4 er_8; refine Eq.symm ?_; refine (if_neg c_1).trans ?_; refine (if_pos c_2).trans ?_; refine (if_neg c_5).trans ?_; refine (if_neg c_6).trans ?_; refine (if_neg c_7).trans ?_; refine (if_neg c_9).trans ?_; rfl
              have hP9 := hP.sub (ws' := []) [] rfl
              have hD9 := hD.sub (ws' := []) [] (by decide) rfl
              have hK9 := hK.sub (tys' := []) [] rfl
              exact W.zret (v := 1) hx hb hr (by decide) (fun t ht hW => ⟨⟨1, (), rfl, hpost, by rw [ht]; exact hP9, va_K.moved hW.alike hK9, hD9⟩, hS.F ht⟩) hS.2.2 dX3_isDate_61
    · refine lv_iconst (v := 0) hx hb dX3_isDate_12 (by decide) ?_
      have hpost : 0 = f_X3_isDate p0 := by refine Eq.symm ?_; refine (if_neg c_1).trans ?_; refine (if_neg c_2).trans ?_; rfl
      have hP9 := hP.sub (ws' := []) [] rfl
      have hD9 := hD.sub (ws' := []) [] (by decide) rfl
      have hK9 := hK.sub (tys' := []) [] rfl
      exact W.zret (v := 0) hx hb hr (by decide) (fun t ht hW => ⟨⟨0, (), rfl, hpost, by rw [ht]; exact hP9, va_K.moved hW.alike hK9, hD9⟩, hS.F ht⟩) hS.2.2 dX3_isDate_13
def f_X3_dayOf (p0 : Int32) : Int32 :=
  let x_1 : Int32 := ((p0 / 100) - (p0 / 100) / 100 * 100)
  if 2 < x_1 then
    let x_3 : Int32 := (p0 / 10000)
    let x_5 : Int32 := (x_1 - 3)
    let x_6 : Int32 := (((((153 * x_5) + 2) / 5) + (p0 - p0 / 100 * 100)) - 1)
    ((((((x_3 * 365) + (x_3 / 4)) - (x_3 / 100)) + (x_3 / 400)) + x_6) - 723120)
  else
    let x_7 : Int32 := ((p0 / 10000) - 1)
    let x_9 : Int32 := (x_1 + 9)
    let x_10 : Int32 := (((((153 * x_9) + 2) / 5) + (p0 - p0 / 100 * 100)) - 1)
    ((((((x_7 * 365) + (x_7 / 4)) - (x_7 / 100)) + (x_7 / 400)) + x_10) - 723120)
set_option maxHeartbeats 4000000 in
set_option maxRecDepth 100000 in
theorem k_X3_dayOf (l : Launch) (dC : Nat → ClassId) (dI : Nat → Nat → Nat) (sz : Nat) (p0 : Int32) : Met l yX3_dayOf wsX3_dayOf ({ frames := 0, cells := 0, slots := 0, locals := 0 }) (va_Pc [.int p0] (fun U => U.heap.size = sz ∧ va_P (dC, dI) vwCl [] U.heap ∧ va_K (dC, dI) vwCl [] U ∧ va_D (fun _ => True) [])) (va_Qi (fun (r : Int32) (_ : Unit) => r = f_X3_dayOf p0) (fun _ t => va_P (dC, dI) vwCl [] t.heap ∧ va_K (dC, dI) vwCl [] t ∧ va_D (va_A [] sz) []) (va_A [] sz)) 0 0 (va_A [] sz) := by
  refine Met.ofW (cc := cX3_dayOf) (maxL := 5) (ret := (some .int)) (by decide) rfl ?_
  intro p e s m args below meth c s₁ B hml hv
  obtain ⟨rfl, hsz, hP, hK, hD0⟩ := hv
  have hx := B.exec
  have hb := B.bytes
  have hr := B.returns
  have hts := atoms_spec (ws := wsX3_dayOf) B.pre
  have hown : s.vm.findClass RX3 = some m.cls := findClass_of_methodNamed B.named
  have hlocks := B.notSynchronized
  subst hsz
  have hD := hD0.self (sz := s.heap.size)
  generalize hAe : va_A [] s.heap.size = A at hD ⊢
  have hA : ∀ q : Nat, s.heap.size ≤ q → A q := fun q h => by rw [← hAe]; exact Or.inr h
  have hS : va_S A s.heap s.heap [] := va_S.rf
  have hP : va_P (dC, dI) vwCl [] s.heap := hP
  have hl := lv_entry ([.int p0]) (n := 5) (Nat.le_of_ble_eq_true rfl)
  rw [lg_entry_eq]
  generalize (lg_sl ([.int p0]) ++ List.replicate (5 - (lg_sl ([.int p0])).length) Slot.unset).toArray = ls at hl ⊢
  have hl : lv_has ls 5 [(0, .int p0)] := hl
  refine lv_iload_n hx hb dX3_dayOf_0 rfl (lv_at hl 0 rfl) ?_
  refine lv_bipush (v := 100) hx hb dX3_dayOf_1 (by decide) ?_
  refine lv_idiv hx hb dX3_dayOf_3 (by decide) ?_
  refine lv_bipush (v := 100) hx hb dX3_dayOf_4 (by decide) ?_
  refine lv_irem hx hb dX3_dayOf_6 (by decide) ?_
  refine lv_topi (fun x_1 ex_1 => ?_)
  refine lv_istore_n (lv' := [(1, .int x_1), (0, .int p0)]) hx hb dX3_dayOf_7 rfl hl (by decide) rfl (fun ls hl => ?_)
  refine lv_iload_n hx hb dX3_dayOf_8 rfl (lv_at hl 0 rfl) ?_
  refine lv_iconst (v := 2) hx hb dX3_dayOf_9 (by decide) ?_
  refine lv_icmp_gt (tgt := 23) hx hb dX3_dayOf_10 (by decide) (fun c_2 => ?_) (fun c_2 => ?_)
  · refine lv_iload_n hx hb dX3_dayOf_23 rfl (lv_at hl 1 rfl) ?_
    refine lv_sipush (v := 10000) hx hb dX3_dayOf_24 (by decide) ?_
    refine lv_idiv hx hb dX3_dayOf_27 (by decide) ?_
    refine lv_topi (fun x_3 ex_3 => ?_)
    refine lv_istore_n (lv' := [(2, .int x_3), (1, .int x_1), (0, .int p0)]) hx hb dX3_dayOf_28 rfl hl (by decide) rfl (fun ls hl => ?_)
    refine lv_iload_n hx hb dX3_dayOf_29 rfl (lv_at hl 1 rfl) ?_
    refine lv_iconst (v := 2) hx hb dX3_dayOf_30 (by decide) ?_
    refine lv_icmp_gt (tgt := 41) hx hb dX3_dayOf_31 (by decide) (fun c_4 => ?_) (fun c_4 => ?_)
    · refine lv_iload_n hx hb dX3_dayOf_41 rfl (lv_at hl 1 rfl) ?_
      refine lv_iconst (v := 3) hx hb dX3_dayOf_42 (by decide) ?_
      refine lv_isub hx hb dX3_dayOf_43 ?_
      refine lv_topi (fun x_5 ex_5 => ?_)
      refine lv_istore_n (lv' := [(3, .int x_5), (2, .int x_3), (1, .int x_1), (0, .int p0)]) hx hb dX3_dayOf_44 rfl hl (by decide) rfl (fun ls hl => ?_)
      refine lv_sipush (v := 153) hx hb dX3_dayOf_45 (by decide) ?_
      refine lv_iload_n hx hb dX3_dayOf_48 rfl (lv_at hl 0 rfl) ?_
      refine lv_imul hx hb dX3_dayOf_49 ?_
      refine lv_iconst (v := 2) hx hb dX3_dayOf_50 (by decide) ?_
      refine lv_iadd hx hb dX3_dayOf_51 ?_
      refine lv_iconst (v := 5) hx hb dX3_dayOf_52 (by decide) ?_
      refine lv_idiv hx hb dX3_dayOf_53 (by decide) ?_
      refine lv_iload_n hx hb dX3_dayOf_54 rfl (lv_at hl 3 rfl) ?_
      refine lv_bipush (v := 100) hx hb dX3_dayOf_55 (by decide) ?_
      refine lv_irem hx hb dX3_dayOf_57 (by decide) ?_
      refine lv_iadd hx hb dX3_dayOf_58 ?_
      refine lv_iconst (v := 1) hx hb dX3_dayOf_59 (by decide) ?_
      refine lv_isub hx hb dX3_dayOf_60 ?_
      refine lv_topi (fun x_6 ex_6 => ?_)
      refine lv_istore (lv' := [(4, .int x_6), (3, .int x_5), (2, .int x_3), (1, .int x_1), (0, .int p0)]) hx hb dX3_dayOf_61 hl (by decide) rfl (fun ls hl => ?_)
      refine lv_iload_n hx hb dX3_dayOf_63 rfl (lv_at hl 2 rfl) ?_
      refine lv_sipush (v := 365) hx hb dX3_dayOf_64 (by decide) ?_
      refine lv_imul hx hb dX3_dayOf_67 ?_
      refine lv_iload_n hx hb dX3_dayOf_68 rfl (lv_at hl 2 rfl) ?_
      refine lv_iconst (v := 4) hx hb dX3_dayOf_69 (by decide) ?_
      refine lv_idiv hx hb dX3_dayOf_70 (by decide) ?_
      refine lv_iadd hx hb dX3_dayOf_71 ?_
      refine lv_iload_n hx hb dX3_dayOf_72 rfl (lv_at hl 2 rfl) ?_
      refine lv_bipush (v := 100) hx hb dX3_dayOf_73 (by decide) ?_
      refine lv_idiv hx hb dX3_dayOf_75 (by decide) ?_
      refine lv_isub hx hb dX3_dayOf_76 ?_
      refine lv_iload_n hx hb dX3_dayOf_77 rfl (lv_at hl 2 rfl) ?_
      refine lv_sipush (v := 400) hx hb dX3_dayOf_78 (by decide) ?_
      refine lv_idiv hx hb dX3_dayOf_81 (by decide) ?_
      refine lv_iadd hx hb dX3_dayOf_82 ?_
      refine lv_iload hx hb dX3_dayOf_83 (lv_at hl 0 rfl) ?_
      refine lv_iadd hx hb dX3_dayOf_85 ?_
      refine lv_ldc (v := 723120) hx hb hown (hts (.constant RX3 15 (723120)) (by decide +kernel)) dX3_dayOf_86 ?_
      refine lv_isub hx hb dX3_dayOf_88 ?_
      have hpost : ((((((x_3 * 365) + (x_3 / 4)) - (x_3 / 100)) + (x_3 / 400)) + x_6) - 723120) = f_X3_dayOf p0 := by subst ex_1 ex_3 ex_5 ex_6; refine Eq.symm ?_; refine (if_pos c_2).trans ?_; rfl
      have hP9 := hP.sub (ws' := []) [] rfl
      have hD9 := hD.sub (ws' := []) [] (by decide) rfl
      have hK9 := hK.sub (tys' := []) [] rfl
      exact W.iret (v := ((((((x_3 * 365) + (x_3 / 4)) - (x_3 / 100)) + (x_3 / 400)) + x_6) - 723120)) hx hb hr (fun t ht hW => ⟨⟨((((((x_3 * 365) + (x_3 / 4)) - (x_3 / 100)) + (x_3 / 400)) + x_6) - 723120), (), rfl, hpost, by rw [ht]; exact hP9, va_K.moved hW.alike hK9, hD9⟩, hS.F ht⟩) hS.2.2 dX3_dayOf_89
    · exact absurd c_2 c_4
  · refine lv_iload_n hx hb dX3_dayOf_13 rfl (lv_at hl 1 rfl) ?_
    refine lv_sipush (v := 10000) hx hb dX3_dayOf_14 (by decide) ?_
    refine lv_idiv hx hb dX3_dayOf_17 (by decide) ?_
    refine lv_iconst (v := 1) hx hb dX3_dayOf_18 (by decide) ?_
    refine lv_isub hx hb dX3_dayOf_19 ?_
    refine lv_goto (tgt := 28) hx hb dX3_dayOf_20 (by decide) ?_
    refine lv_topi (fun x_7 ex_7 => ?_)
    refine lv_istore_n (lv' := [(2, .int x_7), (1, .int x_1), (0, .int p0)]) hx hb dX3_dayOf_28 rfl hl (by decide) rfl (fun ls hl => ?_)
    refine lv_iload_n hx hb dX3_dayOf_29 rfl (lv_at hl 1 rfl) ?_
    refine lv_iconst (v := 2) hx hb dX3_dayOf_30 (by decide) ?_
    refine lv_icmp_gt (tgt := 41) hx hb dX3_dayOf_31 (by decide) (fun c_8 => ?_) (fun c_8 => ?_)
    · exact absurd c_8 c_2
    · refine lv_iload_n hx hb dX3_dayOf_34 rfl (lv_at hl 1 rfl) ?_
      refine lv_bipush (v := 9) hx hb dX3_dayOf_35 (by decide) ?_
      refine lv_iadd hx hb dX3_dayOf_37 ?_
      refine lv_goto (tgt := 44) hx hb dX3_dayOf_38 (by decide) ?_
      refine lv_topi (fun x_9 ex_9 => ?_)
      refine lv_istore_n (lv' := [(3, .int x_9), (2, .int x_7), (1, .int x_1), (0, .int p0)]) hx hb dX3_dayOf_44 rfl hl (by decide) rfl (fun ls hl => ?_)
      refine lv_sipush (v := 153) hx hb dX3_dayOf_45 (by decide) ?_
      refine lv_iload_n hx hb dX3_dayOf_48 rfl (lv_at hl 0 rfl) ?_
      refine lv_imul hx hb dX3_dayOf_49 ?_
      refine lv_iconst (v := 2) hx hb dX3_dayOf_50 (by decide) ?_
      refine lv_iadd hx hb dX3_dayOf_51 ?_
      refine lv_iconst (v := 5) hx hb dX3_dayOf_52 (by decide) ?_
      refine lv_idiv hx hb dX3_dayOf_53 (by decide) ?_
      refine lv_iload_n hx hb dX3_dayOf_54 rfl (lv_at hl 3 rfl) ?_
      refine lv_bipush (v := 100) hx hb dX3_dayOf_55 (by decide) ?_
      refine lv_irem hx hb dX3_dayOf_57 (by decide) ?_
      refine lv_iadd hx hb dX3_dayOf_58 ?_
      refine lv_iconst (v := 1) hx hb dX3_dayOf_59 (by decide) ?_
      refine lv_isub hx hb dX3_dayOf_60 ?_
      refine lv_topi (fun x_10 ex_10 => ?_)
      refine lv_istore (lv' := [(4, .int x_10), (3, .int x_9), (2, .int x_7), (1, .int x_1), (0, .int p0)]) hx hb dX3_dayOf_61 hl (by decide) rfl (fun ls hl => ?_)
      refine lv_iload_n hx hb dX3_dayOf_63 rfl (lv_at hl 2 rfl) ?_
      refine lv_sipush (v := 365) hx hb dX3_dayOf_64 (by decide) ?_
      refine lv_imul hx hb dX3_dayOf_67 ?_
      refine lv_iload_n hx hb dX3_dayOf_68 rfl (lv_at hl 2 rfl) ?_
      refine lv_iconst (v := 4) hx hb dX3_dayOf_69 (by decide) ?_
      refine lv_idiv hx hb dX3_dayOf_70 (by decide) ?_
      refine lv_iadd hx hb dX3_dayOf_71 ?_
      refine lv_iload_n hx hb dX3_dayOf_72 rfl (lv_at hl 2 rfl) ?_
      refine lv_bipush (v := 100) hx hb dX3_dayOf_73 (by decide) ?_
      refine lv_idiv hx hb dX3_dayOf_75 (by decide) ?_
      refine lv_isub hx hb dX3_dayOf_76 ?_
      refine lv_iload_n hx hb dX3_dayOf_77 rfl (lv_at hl 2 rfl) ?_
      refine lv_sipush (v := 400) hx hb dX3_dayOf_78 (by decide) ?_
      refine lv_idiv hx hb dX3_dayOf_81 (by decide) ?_
      refine lv_iadd hx hb dX3_dayOf_82 ?_
      refine lv_iload hx hb dX3_dayOf_83 (lv_at hl 0 rfl) ?_
      refine lv_iadd hx hb dX3_dayOf_85 ?_
      refine lv_ldc (v := 723120) hx hb hown (hts (.constant RX3 15 (723120)) (by decide +kernel)) dX3_dayOf_86 ?_
      refine lv_isub hx hb dX3_dayOf_88 ?_
      have hpost : ((((((x_7 * 365) + (x_7 / 4)) - (x_7 / 100)) + (x_7 / 400)) + x_10) - 723120) = f_X3_dayOf p0 := by subst ex_1 ex_7 ex_9 ex_10; refine Eq.symm ?_; refine (if_neg c_2).trans ?_; rfl
      have hP9 := hP.sub (ws' := []) [] rfl
      have hD9 := hD.sub (ws' := []) [] (by decide) rfl
      have hK9 := hK.sub (tys' := []) [] rfl
      exact W.iret (v := ((((((x_7 * 365) + (x_7 / 4)) - (x_7 / 100)) + (x_7 / 400)) + x_10) - 723120)) hx hb hr (fun t ht hW => ⟨⟨((((((x_7 * 365) + (x_7 / 4)) - (x_7 / 100)) + (x_7 / 400)) + x_10) - 723120), (), rfl, hpost, by rw [ht]; exact hP9, va_K.moved hW.alike hK9, hD9⟩, hS.F ht⟩) hS.2.2 dX3_dayOf_89
def f_X3_numberOf (p0 : Int32) : Int32 :=
  let x_1 : Int32 := (p0 + 723120)
  let x_2 : Int32 := (x_1 / 146097)
  let x_3 : Int32 := (x_1 - (x_2 * 146097))
  let x_4 : Int32 := ((((x_3 - (x_3 / 1460)) + (x_3 / 36524)) - (x_3 / 146096)) / 365)
  let x_5 : Int32 := (x_3 - (((365 * x_4) + (x_4 / 4)) - (x_4 / 100)))
  let x_6 : Int32 := (((5 * x_5) + 2) / 153)
  let x_7 : Int32 := ((x_5 - (((153 * x_6) + 2) / 5)) + 1)
  if 10 ≤ x_6 then
    let x_9 : Int32 := (x_6 - 9)
    if 2 < x_9 then
      let x_11 : Int32 := (((x_2 * 400) + x_4) + 0)
      (((x_11 * 10000) + (x_9 * 100)) + x_7)
    else
      let x_12 : Int32 := (((x_2 * 400) + x_4) + 1)
      (((x_12 * 10000) + (x_9 * 100)) + x_7)
  else
    let x_13 : Int32 := (x_6 + 3)
    if 2 < x_13 then
      let x_15 : Int32 := (((x_2 * 400) + x_4) + 0)
      (((x_15 * 10000) + (x_13 * 100)) + x_7)
    else
      let x_16 : Int32 := (((x_2 * 400) + x_4) + 1)
      (((x_16 * 10000) + (x_13 * 100)) + x_7)
set_option maxHeartbeats 4000000 in
set_option maxRecDepth 100000 in
theorem k_X3_numberOf (l : Launch) (dC : Nat → ClassId) (dI : Nat → Nat → Nat) (sz : Nat) (p0 : Int32) : Met l yX3_numberOf wsX3_numberOf ({ frames := 0, cells := 0, slots := 0, locals := 0 }) (va_Pc [.int p0] (fun U => U.heap.size = sz ∧ va_P (dC, dI) vwCl [] U.heap ∧ va_K (dC, dI) vwCl [] U ∧ va_D (fun _ => True) [])) (va_Qi (fun (r : Int32) (_ : Unit) => r = f_X3_numberOf p0) (fun _ t => va_P (dC, dI) vwCl [] t.heap ∧ va_K (dC, dI) vwCl [] t ∧ va_D (va_A [] sz) []) (va_A [] sz)) 0 0 (va_A [] sz) := by
  refine Met.ofW (cc := cX3_numberOf) (maxL := 10) (ret := (some .int)) (by decide) rfl ?_
  intro p e s m args below meth c s₁ B hml hv
  obtain ⟨rfl, hsz, hP, hK, hD0⟩ := hv
  have hx := B.exec
  have hb := B.bytes
  have hr := B.returns
  have hts := atoms_spec (ws := wsX3_numberOf) B.pre
  have hown : s.vm.findClass RX3 = some m.cls := findClass_of_methodNamed B.named
  have hlocks := B.notSynchronized
  subst hsz
  have hD := hD0.self (sz := s.heap.size)
  generalize hAe : va_A [] s.heap.size = A at hD ⊢
  have hA : ∀ q : Nat, s.heap.size ≤ q → A q := fun q h => by rw [← hAe]; exact Or.inr h
  have hS : va_S A s.heap s.heap [] := va_S.rf
  have hP : va_P (dC, dI) vwCl [] s.heap := hP
  have hl := lv_entry ([.int p0]) (n := 10) (Nat.le_of_ble_eq_true rfl)
  rw [lg_entry_eq]
  generalize (lg_sl ([.int p0]) ++ List.replicate (10 - (lg_sl ([.int p0])).length) Slot.unset).toArray = ls at hl ⊢
  have hl : lv_has ls 10 [(0, .int p0)] := hl
  refine lv_iload_n hx hb dX3_numberOf_0 rfl (lv_at hl 0 rfl) ?_
  refine lv_ldc (v := 723120) hx hb hown (hts (.constant RX3 15 (723120)) (by decide +kernel)) dX3_numberOf_1 ?_
  refine lv_iadd hx hb dX3_numberOf_3 ?_
  refine lv_topi (fun x_1 ex_1 => ?_)
  refine lv_istore_n (lv' := [(1, .int x_1), (0, .int p0)]) hx hb dX3_numberOf_4 rfl hl (by decide) rfl (fun ls hl => ?_)
  refine lv_iload_n hx hb dX3_numberOf_5 rfl (lv_at hl 0 rfl) ?_
  refine lv_ldc (v := 146097) hx hb hown (hts (.constant RX3 16 (146097)) (by decide +kernel)) dX3_numberOf_6 ?_
  refine lv_idiv hx hb dX3_numberOf_8 (by decide) ?_
  refine lv_topi (fun x_2 ex_2 => ?_)
  refine lv_istore_n (lv' := [(2, .int x_2), (1, .int x_1), (0, .int p0)]) hx hb dX3_numberOf_9 rfl hl (by decide) rfl (fun ls hl => ?_)
  refine lv_iload_n hx hb dX3_numberOf_10 rfl (lv_at hl 1 rfl) ?_
  refine lv_iload_n hx hb dX3_numberOf_11 rfl (lv_at hl 0 rfl) ?_
  refine lv_ldc (v := 146097) hx hb hown (hts (.constant RX3 16 (146097)) (by decide +kernel)) dX3_numberOf_12 ?_
  refine lv_imul hx hb dX3_numberOf_14 ?_
  refine lv_isub hx hb dX3_numberOf_15 ?_
  refine lv_topi (fun x_3 ex_3 => ?_)
  refine lv_istore_n (lv' := [(3, .int x_3), (2, .int x_2), (1, .int x_1), (0, .int p0)]) hx hb dX3_numberOf_16 rfl hl (by decide) rfl (fun ls hl => ?_)
  refine lv_iload_n hx hb dX3_numberOf_17 rfl (lv_at hl 0 rfl) ?_
  refine lv_iload_n hx hb dX3_numberOf_18 rfl (lv_at hl 0 rfl) ?_
  refine lv_sipush (v := 1460) hx hb dX3_numberOf_19 (by decide) ?_
  refine lv_idiv hx hb dX3_numberOf_22 (by decide) ?_
  refine lv_isub hx hb dX3_numberOf_23 ?_
  refine lv_iload_n hx hb dX3_numberOf_24 rfl (lv_at hl 0 rfl) ?_
  refine lv_ldc (v := 36524) hx hb hown (hts (.constant RX3 17 (36524)) (by decide +kernel)) dX3_numberOf_25 ?_
  refine lv_idiv hx hb dX3_numberOf_27 (by decide) ?_
  refine lv_iadd hx hb dX3_numberOf_28 ?_
  refine lv_iload_n hx hb dX3_numberOf_29 rfl (lv_at hl 0 rfl) ?_
  refine lv_ldc (v := 146096) hx hb hown (hts (.constant RX3 18 (146096)) (by decide +kernel)) dX3_numberOf_30 ?_
  refine lv_idiv hx hb dX3_numberOf_32 (by decide) ?_
  refine lv_isub hx hb dX3_numberOf_33 ?_
  refine lv_sipush (v := 365) hx hb dX3_numberOf_34 (by decide) ?_
  refine lv_idiv hx hb dX3_numberOf_37 (by decide) ?_
  refine lv_topi (fun x_4 ex_4 => ?_)
  refine lv_istore (lv' := [(4, .int x_4), (3, .int x_3), (2, .int x_2), (1, .int x_1), (0, .int p0)]) hx hb dX3_numberOf_38 hl (by decide) rfl (fun ls hl => ?_)
  refine lv_iload_n hx hb dX3_numberOf_40 rfl (lv_at hl 1 rfl) ?_
  refine lv_sipush (v := 365) hx hb dX3_numberOf_41 (by decide) ?_
  refine lv_iload hx hb dX3_numberOf_44 (lv_at hl 0 rfl) ?_
  refine lv_imul hx hb dX3_numberOf_46 ?_
  refine lv_iload hx hb dX3_numberOf_47 (lv_at hl 0 rfl) ?_
  refine lv_iconst (v := 4) hx hb dX3_numberOf_49 (by decide) ?_
  refine lv_idiv hx hb dX3_numberOf_50 (by decide) ?_
  refine lv_iadd hx hb dX3_numberOf_51 ?_
  refine lv_iload hx hb dX3_numberOf_52 (lv_at hl 0 rfl) ?_
  refine lv_bipush (v := 100) hx hb dX3_numberOf_54 (by decide) ?_
  refine lv_idiv hx hb dX3_numberOf_56 (by decide) ?_
  refine lv_isub hx hb dX3_numberOf_57 ?_
  refine lv_isub hx hb dX3_numberOf_58 ?_
  refine lv_topi (fun x_5 ex_5 => ?_)
  refine lv_istore (lv' := [(5, .int x_5), (4, .int x_4), (3, .int x_3), (2, .int x_2), (1, .int x_1), (0, .int p0)]) hx hb dX3_numberOf_59 hl (by decide) rfl (fun ls hl => ?_)
  refine lv_iconst (v := 5) hx hb dX3_numberOf_61 (by decide) ?_
  refine lv_iload hx hb dX3_numberOf_62 (lv_at hl 0 rfl) ?_
  refine lv_imul hx hb dX3_numberOf_64 ?_
  refine lv_iconst (v := 2) hx hb dX3_numberOf_65 (by decide) ?_
  refine lv_iadd hx hb dX3_numberOf_66 ?_
  refine lv_sipush (v := 153) hx hb dX3_numberOf_67 (by decide) ?_
  refine lv_idiv hx hb dX3_numberOf_70 (by decide) ?_
  refine lv_topi (fun x_6 ex_6 => ?_)
  refine lv_istore (lv' := [(6, .int x_6), (5, .int x_5), (4, .int x_4), (3, .int x_3), (2, .int x_2), (1, .int x_1), (0, .int p0)]) hx hb dX3_numberOf_71 hl (by decide) rfl (fun ls hl => ?_)
  refine lv_iload hx hb dX3_numberOf_73 (lv_at hl 1 rfl) ?_
  refine lv_sipush (v := 153) hx hb dX3_numberOf_75 (by decide) ?_
  refine lv_iload hx hb dX3_numberOf_78 (lv_at hl 0 rfl) ?_
  refine lv_imul hx hb dX3_numberOf_80 ?_
  refine lv_iconst (v := 2) hx hb dX3_numberOf_81 (by decide) ?_
  refine lv_iadd hx hb dX3_numberOf_82 ?_
  refine lv_iconst (v := 5) hx hb dX3_numberOf_83 (by decide) ?_
  refine lv_idiv hx hb dX3_numberOf_84 (by decide) ?_
  refine lv_isub hx hb dX3_numberOf_85 ?_
  refine lv_iconst (v := 1) hx hb dX3_numberOf_86 (by decide) ?_
  refine lv_iadd hx hb dX3_numberOf_87 ?_
  refine lv_topi (fun x_7 ex_7 => ?_)
  refine lv_istore (lv' := [(7, .int x_7), (6, .int x_6), (5, .int x_5), (4, .int x_4), (3, .int x_3), (2, .int x_2), (1, .int x_1), (0, .int p0)]) hx hb dX3_numberOf_88 hl (by decide) rfl (fun ls hl => ?_)
  refine lv_iload hx hb dX3_numberOf_90 (lv_at hl 1 rfl) ?_
  refine lv_bipush (v := 10) hx hb dX3_numberOf_92 (by decide) ?_
  refine lv_icmp_ge (tgt := 104) hx hb dX3_numberOf_94 (by decide) (fun c_8 => ?_) (fun c_8 => ?_)
  · refine lv_iload hx hb dX3_numberOf_104 (lv_at hl 1 rfl) ?_
    refine lv_bipush (v := 9) hx hb dX3_numberOf_106 (by decide) ?_
    refine lv_isub hx hb dX3_numberOf_108 ?_
    refine lv_topi (fun x_9 ex_9 => ?_)
    refine lv_istore (lv' := [(8, .int x_9), (7, .int x_7), (6, .int x_6), (5, .int x_5), (4, .int x_4), (3, .int x_3), (2, .int x_2), (1, .int x_1), (0, .int p0)]) hx hb dX3_numberOf_109 hl (by decide) rfl (fun ls hl => ?_)
    refine lv_iload_n hx hb dX3_numberOf_111 rfl (lv_at hl 6 rfl) ?_
    refine lv_sipush (v := 400) hx hb dX3_numberOf_112 (by decide) ?_
    refine lv_imul hx hb dX3_numberOf_115 ?_
    refine lv_iload hx hb dX3_numberOf_116 (lv_at hl 4 rfl) ?_
    refine lv_iadd hx hb dX3_numberOf_118 ?_
    refine lv_iload hx hb dX3_numberOf_119 (lv_at hl 0 rfl) ?_
    refine lv_iconst (v := 2) hx hb dX3_numberOf_121 (by decide) ?_
    refine lv_icmp_gt (tgt := 129) hx hb dX3_numberOf_122 (by decide) (fun c_10 => ?_) (fun c_10 => ?_)
    · refine lv_iconst (v := 0) hx hb dX3_numberOf_129 (by decide) ?_
      refine lv_iadd hx hb dX3_numberOf_130 ?_
      refine lv_topi (fun x_11 ex_11 => ?_)
      refine lv_istore (lv' := [(9, .int x_11), (8, .int x_9), (7, .int x_7), (6, .int x_6), (5, .int x_5), (4, .int x_4), (3, .int x_3), (2, .int x_2), (1, .int x_1), (0, .int p0)]) hx hb dX3_numberOf_131 hl (by decide) rfl (fun ls hl => ?_)
      refine lv_iload hx hb dX3_numberOf_133 (lv_at hl 0 rfl) ?_
      refine lv_sipush (v := 10000) hx hb dX3_numberOf_135 (by decide) ?_
      refine lv_imul hx hb dX3_numberOf_138 ?_
      refine lv_iload hx hb dX3_numberOf_139 (lv_at hl 1 rfl) ?_
      refine lv_bipush (v := 100) hx hb dX3_numberOf_141 (by decide) ?_
      refine lv_imul hx hb dX3_numberOf_143 ?_
      refine lv_iadd hx hb dX3_numberOf_144 ?_
      refine lv_iload hx hb dX3_numberOf_145 (lv_at hl 2 rfl) ?_
      refine lv_iadd hx hb dX3_numberOf_147 ?_
      have hpost : (((x_11 * 10000) + (x_9 * 100)) + x_7) = f_X3_numberOf p0 := by subst ex_1 ex_2 ex_3 ex_4 ex_5 ex_6 ex_7 ex_9 ex_11; refine Eq.symm ?_; refine (if_pos c_8).trans ?_; refine (if_pos c_10).trans ?_; rfl
      have hP9 := hP.sub (ws' := []) [] rfl
      have hD9 := hD.sub (ws' := []) [] (by decide) rfl
      have hK9 := hK.sub (tys' := []) [] rfl
      exact W.iret (v := (((x_11 * 10000) + (x_9 * 100)) + x_7)) hx hb hr (fun t ht hW => ⟨⟨(((x_11 * 10000) + (x_9 * 100)) + x_7), (), rfl, hpost, by rw [ht]; exact hP9, va_K.moved hW.alike hK9, hD9⟩, hS.F ht⟩) hS.2.2 dX3_numberOf_148
    · refine lv_iconst (v := 1) hx hb dX3_numberOf_125 (by decide) ?_
      refine lv_goto (tgt := 130) hx hb dX3_numberOf_126 (by decide) ?_
      refine lv_iadd hx hb dX3_numberOf_130 ?_
      refine lv_topi (fun x_12 ex_12 => ?_)
      refine lv_istore (lv' := [(9, .int x_12), (8, .int x_9), (7, .int x_7), (6, .int x_6), (5, .int x_5), (4, .int x_4), (3, .int x_3), (2, .int x_2), (1, .int x_1), (0, .int p0)]) hx hb dX3_numberOf_131 hl (by decide) rfl (fun ls hl => ?_)
      refine lv_iload hx hb dX3_numberOf_133 (lv_at hl 0 rfl) ?_
      refine lv_sipush (v := 10000) hx hb dX3_numberOf_135 (by decide) ?_
      refine lv_imul hx hb dX3_numberOf_138 ?_
      refine lv_iload hx hb dX3_numberOf_139 (lv_at hl 1 rfl) ?_
      refine lv_bipush (v := 100) hx hb dX3_numberOf_141 (by decide) ?_
      refine lv_imul hx hb dX3_numberOf_143 ?_
      refine lv_iadd hx hb dX3_numberOf_144 ?_
      refine lv_iload hx hb dX3_numberOf_145 (lv_at hl 2 rfl) ?_
      refine lv_iadd hx hb dX3_numberOf_147 ?_
      have hpost : (((x_12 * 10000) + (x_9 * 100)) + x_7) = f_X3_numberOf p0 := by subst ex_1 ex_2 ex_3 ex_4 ex_5 ex_6 ex_7 ex_9 ex_12; refine Eq.symm ?_; refine (if_pos c_8).trans ?_; refine (if_neg c_10).trans ?_; rfl
      have hP9 := hP.sub (ws' := []) [] rfl
      have hD9 := hD.sub (ws' := []) [] (by decide) rfl
      have hK9 := hK.sub (tys' := []) [] rfl
      exact W.iret (v := (((x_12 * 10000) + (x_9 * 100)) + x_7)) hx hb hr (fun t ht hW => ⟨⟨(((x_12 * 10000) + (x_9 * 100)) + x_7), (), rfl, hpost, by rw [ht]; exact hP9, va_K.moved hW.alike hK9, hD9⟩, hS.F ht⟩) hS.2.2 dX3_numberOf_148
  · refine lv_iload hx hb dX3_numberOf_97 (lv_at hl 1 rfl) ?_
    refine lv_iconst (v := 3) hx hb dX3_numberOf_99 (by decide) ?_
    refine lv_iadd hx hb dX3_numberOf_100 ?_
    refine lv_goto (tgt := 109) hx hb dX3_numberOf_101 (by decide) ?_
    refine lv_topi (fun x_13 ex_13 => ?_)
    refine lv_istore (lv' := [(8, .int x_13), (7, .int x_7), (6, .int x_6), (5, .int x_5), (4, .int x_4), (3, .int x_3), (2, .int x_2), (1, .int x_1), (0, .int p0)]) hx hb dX3_numberOf_109 hl (by decide) rfl (fun ls hl => ?_)
    refine lv_iload_n hx hb dX3_numberOf_111 rfl (lv_at hl 6 rfl) ?_
    refine lv_sipush (v := 400) hx hb dX3_numberOf_112 (by decide) ?_
    refine lv_imul hx hb dX3_numberOf_115 ?_
    refine lv_iload hx hb dX3_numberOf_116 (lv_at hl 4 rfl) ?_
    refine lv_iadd hx hb dX3_numberOf_118 ?_
    refine lv_iload hx hb dX3_numberOf_119 (lv_at hl 0 rfl) ?_
    refine lv_iconst (v := 2) hx hb dX3_numberOf_121 (by decide) ?_
    refine lv_icmp_gt (tgt := 129) hx hb dX3_numberOf_122 (by decide) (fun c_14 => ?_) (fun c_14 => ?_)
    · refine lv_iconst (v := 0) hx hb dX3_numberOf_129 (by decide) ?_
      refine lv_iadd hx hb dX3_numberOf_130 ?_
      refine lv_topi (fun x_15 ex_15 => ?_)
      refine lv_istore (lv' := [(9, .int x_15), (8, .int x_13), (7, .int x_7), (6, .int x_6), (5, .int x_5), (4, .int x_4), (3, .int x_3), (2, .int x_2), (1, .int x_1), (0, .int p0)]) hx hb dX3_numberOf_131 hl (by decide) rfl (fun ls hl => ?_)
      refine lv_iload hx hb dX3_numberOf_133 (lv_at hl 0 rfl) ?_
      refine lv_sipush (v := 10000) hx hb dX3_numberOf_135 (by decide) ?_
      refine lv_imul hx hb dX3_numberOf_138 ?_
      refine lv_iload hx hb dX3_numberOf_139 (lv_at hl 1 rfl) ?_
      refine lv_bipush (v := 100) hx hb dX3_numberOf_141 (by decide) ?_
      refine lv_imul hx hb dX3_numberOf_143 ?_
      refine lv_iadd hx hb dX3_numberOf_144 ?_
      refine lv_iload hx hb dX3_numberOf_145 (lv_at hl 2 rfl) ?_
      refine lv_iadd hx hb dX3_numberOf_147 ?_
      have hpost : (((x_15 * 10000) + (x_13 * 100)) + x_7) = f_X3_numberOf p0 := by subst ex_1 ex_2 ex_3 ex_4 ex_5 ex_6 ex_7 ex_13 ex_15; refine Eq.symm ?_; refine (if_neg c_8).trans ?_; refine (if_pos c_14).trans ?_; rfl
      have hP9 := hP.sub (ws' := []) [] rfl
      have hD9 := hD.sub (ws' := []) [] (by decide) rfl
      have hK9 := hK.sub (tys' := []) [] rfl
      exact W.iret (v := (((x_15 * 10000) + (x_13 * 100)) + x_7)) hx hb hr (fun t ht hW => ⟨⟨(((x_15 * 10000) + (x_13 * 100)) + x_7), (), rfl, hpost, by rw [ht]; exact hP9, va_K.moved hW.alike hK9, hD9⟩, hS.F ht⟩) hS.2.2 dX3_numberOf_148
    · refine lv_iconst (v := 1) hx hb dX3_numberOf_125 (by decide) ?_
      refine lv_goto (tgt := 130) hx hb dX3_numberOf_126 (by decide) ?_
      refine lv_iadd hx hb dX3_numberOf_130 ?_
      refine lv_topi (fun x_16 ex_16 => ?_)
      refine lv_istore (lv' := [(9, .int x_16), (8, .int x_13), (7, .int x_7), (6, .int x_6), (5, .int x_5), (4, .int x_4), (3, .int x_3), (2, .int x_2), (1, .int x_1), (0, .int p0)]) hx hb dX3_numberOf_131 hl (by decide) rfl (fun ls hl => ?_)
      refine lv_iload hx hb dX3_numberOf_133 (lv_at hl 0 rfl) ?_
      refine lv_sipush (v := 10000) hx hb dX3_numberOf_135 (by decide) ?_
      refine lv_imul hx hb dX3_numberOf_138 ?_
      refine lv_iload hx hb dX3_numberOf_139 (lv_at hl 1 rfl) ?_
      refine lv_bipush (v := 100) hx hb dX3_numberOf_141 (by decide) ?_
      refine lv_imul hx hb dX3_numberOf_143 ?_
      refine lv_iadd hx hb dX3_numberOf_144 ?_
      refine lv_iload hx hb dX3_numberOf_145 (lv_at hl 2 rfl) ?_
      refine lv_iadd hx hb dX3_numberOf_147 ?_
      have hpost : (((x_16 * 10000) + (x_13 * 100)) + x_7) = f_X3_numberOf p0 := by subst ex_1 ex_2 ex_3 ex_4 ex_5 ex_6 ex_7 ex_13 ex_16; refine Eq.symm ?_; refine (if_neg c_8).trans ?_; refine (if_neg c_14).trans ?_; rfl
      have hP9 := hP.sub (ws' := []) [] rfl
      have hD9 := hD.sub (ws' := []) [] (by decide) rfl
      have hK9 := hK.sub (tys' := []) [] rfl
      exact W.iret (v := (((x_16 * 10000) + (x_13 * 100)) + x_7)) hx hb hr (fun t ht hW => ⟨⟨(((x_16 * 10000) + (x_13 * 100)) + x_7), (), rfl, hpost, by rw [ht]; exact hP9, va_K.moved hW.alike hK9, hD9⟩, hS.F ht⟩) hS.2.2 dX3_numberOf_148
def f_X3_monthsFrom (p0 : Int32) (p1 : Int32) (p2 : Int32) : Int32 :=
  let x_1 : Int32 := (p0 / 10000)
  let x_2 : Int32 := ((p0 / 100) - (p0 / 100) / 100 * 100)
  let x_3 : Int32 := (p0 - p0 / 100 * 100)
  let x_4 : Int32 := ((((x_1 * 12) + x_2) - 1) + p1)
  let x_5 : Int32 := (x_4 / 12)
  let x_6 : Int32 := ((x_4 - x_4 / 12 * 12) + 1)
  let r_7 : Int32 := f_X3_lengthOfMonth x_5 x_6
  if r_7 < x_3 then
    (((x_5 * 10000) + (x_6 * 100)) + r_7)
  else
    if p2 = 0 then
      (((x_5 * 10000) + (x_6 * 100)) + x_3)
    else
      let r_12 : Int32 := f_X3_lengthOfMonth x_1 x_2
      if x_3 = r_12 then
        (((x_5 * 10000) + (x_6 * 100)) + r_7)
      else
        (((x_5 * 10000) + (x_6 * 100)) + x_3)
set_option maxHeartbeats 4000000 in
set_option maxRecDepth 100000 in
theorem k_X3_monthsFrom (l : Launch) (dC : Nat → ClassId) (dI : Nat → Nat → Nat) (sz : Nat) (p0 : Int32) (p1 : Int32) (p2 : Int32) : Met l yX3_monthsFrom wsX3_monthsFrom ({ frames := 1, cells := 0, slots := 0, locals := 22 }) (va_Pc [.int p0, .int p1, .int p2] (fun U => U.heap.size = sz ∧ va_P (dC, dI) vwCl [] U.heap ∧ va_K (dC, dI) vwCl [] U ∧ va_D (fun _ => True) [])) (va_Qi (fun (r : Int32) (_ : Unit) => r = f_X3_monthsFrom p0 p1 p2) (fun _ t => va_P (dC, dI) vwCl [] t.heap ∧ va_K (dC, dI) vwCl [] t ∧ va_D (va_A [] sz) []) (va_A [] sz)) 0 0 (va_A [] sz) := by
  refine Met.ofW (cc := cX3_monthsFrom) (maxL := 11) (ret := (some .int)) (by decide) rfl ?_
  intro p e s m args below meth c s₁ B hml hv
  obtain ⟨rfl, hsz, hP, hK, hD0⟩ := hv
  have hx := B.exec
  have hb := B.bytes
  have hr := B.returns
  have hts := atoms_spec (ws := wsX3_monthsFrom) B.pre
  have hown : s.vm.findClass RX3 = some m.cls := findClass_of_methodNamed B.named
  have hlocks := B.notSynchronized
  subst hsz
  have hD := hD0.self (sz := s.heap.size)
  generalize hAe : va_A [] s.heap.size = A at hD ⊢
  have hA : ∀ q : Nat, s.heap.size ≤ q → A q := fun q h => by rw [← hAe]; exact Or.inr h
  have hS : va_S A s.heap s.heap [] := va_S.rf
  have hP : va_P (dC, dI) vwCl [] s.heap := hP
  have hl := lv_entry ([.int p0, .int p1, .int p2]) (n := 11) (Nat.le_of_ble_eq_true rfl)
  rw [lg_entry_eq]
  generalize (lg_sl ([.int p0, .int p1, .int p2]) ++ List.replicate (11 - (lg_sl ([.int p0, .int p1, .int p2])).length) Slot.unset).toArray = ls at hl ⊢
  have hl : lv_has ls 11 [(0, .int p0), (1, .int p1), (2, .int p2)] := hl
  refine lv_iload_n hx hb dX3_monthsFrom_0 rfl (lv_at hl 0 rfl) ?_
  refine lv_sipush (v := 10000) hx hb dX3_monthsFrom_1 (by decide) ?_
  refine lv_idiv hx hb dX3_monthsFrom_4 (by decide) ?_
  refine lv_topi (fun x_1 ex_1 => ?_)
  refine lv_istore_n (lv' := [(3, .int x_1), (0, .int p0), (1, .int p1), (2, .int p2)]) hx hb dX3_monthsFrom_5 rfl hl (by decide) rfl (fun ls hl => ?_)
  refine lv_iload_n hx hb dX3_monthsFrom_6 rfl (lv_at hl 1 rfl) ?_
  refine lv_bipush (v := 100) hx hb dX3_monthsFrom_7 (by decide) ?_
  refine lv_idiv hx hb dX3_monthsFrom_9 (by decide) ?_
  refine lv_bipush (v := 100) hx hb dX3_monthsFrom_10 (by decide) ?_
  refine lv_irem hx hb dX3_monthsFrom_12 (by decide) ?_
  refine lv_topi (fun x_2 ex_2 => ?_)
  refine lv_istore (lv' := [(4, .int x_2), (3, .int x_1), (0, .int p0), (1, .int p1), (2, .int p2)]) hx hb dX3_monthsFrom_13 hl (by decide) rfl (fun ls hl => ?_)
  refine lv_iload_n hx hb dX3_monthsFrom_15 rfl (lv_at hl 2 rfl) ?_
  refine lv_bipush (v := 100) hx hb dX3_monthsFrom_16 (by decide) ?_
  refine lv_irem hx hb dX3_monthsFrom_18 (by decide) ?_
  refine lv_topi (fun x_3 ex_3 => ?_)
  refine lv_istore (lv' := [(5, .int x_3), (4, .int x_2), (3, .int x_1), (0, .int p0), (1, .int p1), (2, .int p2)]) hx hb dX3_monthsFrom_19 hl (by decide) rfl (fun ls hl => ?_)
  refine lv_iload_n hx hb dX3_monthsFrom_21 rfl (lv_at hl 2 rfl) ?_
  refine lv_bipush (v := 12) hx hb dX3_monthsFrom_22 (by decide) ?_
  refine lv_imul hx hb dX3_monthsFrom_24 ?_
  refine lv_iload hx hb dX3_monthsFrom_25 (lv_at hl 1 rfl) ?_
  refine lv_iadd hx hb dX3_monthsFrom_27 ?_
  refine lv_iconst (v := 1) hx hb dX3_monthsFrom_28 (by decide) ?_
  refine lv_isub hx hb dX3_monthsFrom_29 ?_
  refine lv_iload_n hx hb dX3_monthsFrom_30 rfl (lv_at hl 4 rfl) ?_
  refine lv_iadd hx hb dX3_monthsFrom_31 ?_
  refine lv_topi (fun x_4 ex_4 => ?_)
  refine lv_istore (lv' := [(6, .int x_4), (5, .int x_3), (4, .int x_2), (3, .int x_1), (0, .int p0), (1, .int p1), (2, .int p2)]) hx hb dX3_monthsFrom_32 hl (by decide) rfl (fun ls hl => ?_)
  refine lv_iload hx hb dX3_monthsFrom_34 (lv_at hl 0 rfl) ?_
  refine lv_bipush (v := 12) hx hb dX3_monthsFrom_36 (by decide) ?_
  refine lv_idiv hx hb dX3_monthsFrom_38 (by decide) ?_
  refine lv_topi (fun x_5 ex_5 => ?_)
  refine lv_istore (lv' := [(7, .int x_5), (6, .int x_4), (5, .int x_3), (4, .int x_2), (3, .int x_1), (0, .int p0), (1, .int p1), (2, .int p2)]) hx hb dX3_monthsFrom_39 hl (by decide) rfl (fun ls hl => ?_)
  refine lv_iload hx hb dX3_monthsFrom_41 (lv_at hl 1 rfl) ?_
  refine lv_bipush (v := 12) hx hb dX3_monthsFrom_43 (by decide) ?_
  refine lv_irem hx hb dX3_monthsFrom_45 (by decide) ?_
  refine lv_iconst (v := 1) hx hb dX3_monthsFrom_46 (by decide) ?_
  refine lv_iadd hx hb dX3_monthsFrom_47 ?_
  refine lv_topi (fun x_6 ex_6 => ?_)
  refine lv_istore (lv' := [(8, .int x_6), (7, .int x_5), (6, .int x_4), (5, .int x_3), (4, .int x_2), (3, .int x_1), (0, .int p0), (1, .int p1), (2, .int p2)]) hx hb dX3_monthsFrom_48 hl (by decide) rfl (fun ls hl => ?_)
  refine lv_iload hx hb dX3_monthsFrom_50 (lv_at hl 1 rfl) ?_
  refine lv_iload hx hb dX3_monthsFrom_52 (lv_at hl 0 rfl) ?_
  have hPc := hP.sub (ws' := []) [] rfl
  have hDc := hD.sub (ws' := []) [] (by decide) rfl
  have hKc := hK.sub (tys' := []) [] rfl
  have hFc := va_free (wc := []) hD hS hA [] rfl
  refine va_calli (va_runS (As := [.int x_5, .int x_6]) (rest := []) ⟨hx, hb, hml, hown, hts⟩ (k_X3_lengthOfMonth l dC dI s.heap.size x_5 x_6) (va_cwS 2 hts gX3_monthsFrom_X3_lengthOfMonth rfl rfl rfl (by decide +kernel) ⟨Nat.le_of_ble_eq_true rfl, Nat.le_of_ble_eq_true rfl⟩) ⟨fun a U g mk q => by obtain ⟨q0, q1, qP, qK, qD⟩ := q; exact ⟨q0, q1, qP, va_K.moved (u := U) (U := U.calling g mk a) (Vm.Alike.refl U.vm) qK, qD⟩, fun U hU hW => ⟨rfl, by rw [hU], by rw [hU]; exact hPc, va_K.moved hW.alike hKc, hDc.weaken (fun _ _ _ _ => trivial)⟩⟩ rfl rfl hl.1 rfl (lv_room (Nat.le_of_ble_eq_true rfl)) dX3_monthsFrom_54 ⟨Nat.le_of_ble_eq_true rfl, Nat.le_of_ble_eq_true rfl⟩) hS (fun q _ h => hFc q h) hFc (fun r_7 u t H1 locs ht hvm hw hB hz1 hk1 hS => ?_)
  obtain ⟨hP1, hK1, hD1⟩ := hB
  rw [ht] at hP1
  have hK1 := va_K.moved hvm.symm hK1
  obtain ⟨hP, hD⟩ := va_join (wr := []) (w1 := []) hP hD [] [] rfl rfl (by decide) (by decide) hk1 hFc hP1 hD1
  generalize H1 = H at hP hS ⊢
  have hP : va_P (dC, dI) vwCl [] H := hP
  have hD : va_D A [] := hD
  have er_7 : r_7 = f_X3_lengthOfMonth x_5 x_6 := hw
  refine lv_istore (lv' := [(9, .int r_7), (8, .int x_6), (7, .int x_5), (6, .int x_4), (5, .int x_3), (4, .int x_2), (3, .int x_1), (0, .int p0), (1, .int p1), (2, .int p2)]) hx hb dX3_monthsFrom_57 hl (by decide) rfl (fun ls hl => ?_)
  refine lv_iload hx hb dX3_monthsFrom_59 (lv_at hl 4 rfl) ?_
  refine lv_iload hx hb dX3_monthsFrom_61 (lv_at hl 0 rfl) ?_
  refine lv_icmp_gt (tgt := 81) hx hb dX3_monthsFrom_63 (by decide) (fun c_8 => ?_) (fun c_8 => ?_)
  · refine lv_iconst (v := 1) hx hb dX3_monthsFrom_81 (by decide) ?_
    refine lv_goto (tgt := 86) hx hb dX3_monthsFrom_82 (by decide) ?_
    refine lv_istore (lv' := [(10, .int 1), (9, .int r_7), (8, .int x_6), (7, .int x_5), (6, .int x_4), (5, .int x_3), (4, .int x_2), (3, .int x_1), (0, .int p0), (1, .int p1), (2, .int p2)]) hx hb dX3_monthsFrom_86 hl (by decide) rfl (fun ls hl => ?_)
    refine lv_iload hx hb dX3_monthsFrom_88 (lv_at hl 3 rfl) ?_
    refine lv_sipush (v := 10000) hx hb dX3_monthsFrom_90 (by decide) ?_
    refine lv_imul hx hb dX3_monthsFrom_93 ?_
    refine lv_iload hx hb dX3_monthsFrom_94 (lv_at hl 2 rfl) ?_
    refine lv_bipush (v := 100) hx hb dX3_monthsFrom_96 (by decide) ?_
    refine lv_imul hx hb dX3_monthsFrom_98 ?_
    refine lv_iadd hx hb dX3_monthsFrom_99 ?_
    refine lv_iload hx hb dX3_monthsFrom_100 (lv_at hl 0 rfl) ?_
    refine lv_if_eq (tgt := 110) hx hb dX3_monthsFrom_102 (by decide) (fun c_9 => ?_) (fun c_9 => ?_)
    · exact absurd c_9 (by decide)
    · refine lv_iload hx hb dX3_monthsFrom_105 (lv_at hl 1 rfl) ?_
      refine lv_goto (tgt := 112) hx hb dX3_monthsFrom_107 (by decide) ?_
      refine lv_iadd hx hb dX3_monthsFrom_112 ?_
      have hpost : (((x_5 * 10000) + (x_6 * 100)) + r_7) = f_X3_monthsFrom p0 p1 p2 := by subst ex_1 ex_2 ex_3 ex_4 ex_5 ex_6 er_7; refine Eq.symm ?_; refine (if_pos c_8).trans ?_; rfl
      have hP9 := hP.sub (ws' := []) [] rfl
      have hD9 := hD.sub (ws' := []) [] (by decide) rfl
      have hK9 := hK.sub (tys' := []) [] rfl
      exact W.iret (v := (((x_5 * 10000) + (x_6 * 100)) + r_7)) hx hb hr (fun t ht hW => ⟨⟨(((x_5 * 10000) + (x_6 * 100)) + r_7), (), rfl, hpost, by rw [ht]; exact hP9, va_K.moved hW.alike hK9, hD9⟩, hS.F ht⟩) hS.2.2 dX3_monthsFrom_113
  · refine lv_iload_n hx hb dX3_monthsFrom_66 rfl (lv_at hl 9 rfl) ?_
    refine lv_if_eq (tgt := 85) hx hb dX3_monthsFrom_67 (by decide) (fun c_10 => ?_) (fun c_10 => ?_)
    · refine lv_iconst (v := 0) hx hb dX3_monthsFrom_85 (by decide) ?_
      refine lv_istore (lv' := [(10, .int 0), (9, .int r_7), (8, .int x_6), (7, .int x_5), (6, .int x_4), (5, .int x_3), (4, .int x_2), (3, .int x_1), (0, .int p0), (1, .int p1), (2, .int p2)]) hx hb dX3_monthsFrom_86 hl (by decide) rfl (fun ls hl => ?_)
      refine lv_iload hx hb dX3_monthsFrom_88 (lv_at hl 3 rfl) ?_
      refine lv_sipush (v := 10000) hx hb dX3_monthsFrom_90 (by decide) ?_
      refine lv_imul hx hb dX3_monthsFrom_93 ?_
      refine lv_iload hx hb dX3_monthsFrom_94 (lv_at hl 2 rfl) ?_
      refine lv_bipush (v := 100) hx hb dX3_monthsFrom_96 (by decide) ?_
      refine lv_imul hx hb dX3_monthsFrom_98 ?_
      refine lv_iadd hx hb dX3_monthsFrom_99 ?_
      refine lv_iload hx hb dX3_monthsFrom_100 (lv_at hl 0 rfl) ?_
      refine lv_if_eq (tgt := 110) hx hb dX3_monthsFrom_102 (by decide) (fun c_11 => ?_) (fun c_11 => ?_)
      · refine lv_iload hx hb dX3_monthsFrom_110 (lv_at hl 5 rfl) ?_
        refine lv_iadd hx hb dX3_monthsFrom_112 ?_
        have hpost : (((x_5 * 10000) + (x_6 * 100)) + x_3) = f_X3_monthsFrom p0 p1 p2 := by subst ex_1 ex_2 ex_3 ex_4 ex_5 ex_6 er_7; refine Eq.symm ?_; refine (if_neg c_8).trans ?_; refine (if_pos c_10).trans ?_; rfl
        have hP9 := hP.sub (ws' := []) [] rfl
        have hD9 := hD.sub (ws' := []) [] (by decide) rfl
        have hK9 := hK.sub (tys' := []) [] rfl
        exact W.iret (v := (((x_5 * 10000) + (x_6 * 100)) + x_3)) hx hb hr (fun t ht hW => ⟨⟨(((x_5 * 10000) + (x_6 * 100)) + x_3), (), rfl, hpost, by rw [ht]; exact hP9, va_K.moved hW.alike hK9, hD9⟩, hS.F ht⟩) hS.2.2 dX3_monthsFrom_113
      · exact absurd (by decide) c_11
    · refine lv_iload hx hb dX3_monthsFrom_70 (lv_at hl 4 rfl) ?_
      refine lv_iload_n hx hb dX3_monthsFrom_72 rfl (lv_at hl 6 rfl) ?_
      refine lv_iload hx hb dX3_monthsFrom_73 (lv_at hl 5 rfl) ?_
      have hPc := hP.sub (ws' := []) [] rfl
      have hDc := hD.sub (ws' := []) [] (by decide) rfl
      have hKc := hK.sub (tys' := []) [] rfl
      have hFc := va_free (wc := []) hD hS hA [] rfl
      refine va_calli (va_runS (As := [.int x_1, .int x_2]) (rest := [.int x_3]) ⟨hx, hb, hml, hown, hts⟩ (k_X3_lengthOfMonth l dC dI H.size x_1 x_2) (va_cwS 2 hts gX3_monthsFrom_X3_lengthOfMonth rfl rfl rfl (by decide +kernel) ⟨Nat.le_of_ble_eq_true rfl, Nat.le_of_ble_eq_true rfl⟩) ⟨fun a U g mk q => by obtain ⟨q0, q1, qP, qK, qD⟩ := q; exact ⟨q0, q1, qP, va_K.moved (u := U) (U := U.calling g mk a) (Vm.Alike.refl U.vm) qK, qD⟩, fun U hU hW => ⟨rfl, by rw [hU], by rw [hU]; exact hPc, va_K.moved hW.alike hKc, hDc.weaken (fun _ _ _ _ => trivial)⟩⟩ rfl rfl hl.1 rfl (lv_room (Nat.le_of_ble_eq_true rfl)) dX3_monthsFrom_75 ⟨Nat.le_of_ble_eq_true rfl, Nat.le_of_ble_eq_true rfl⟩) hS (fun q _ h => hFc q h) hFc (fun r_12 u t H1 locs ht hvm hw hB hz1 hk1 hS => ?_)
      obtain ⟨hP1, hK1, hD1⟩ := hB
      rw [ht] at hP1
      have hK1 := va_K.moved hvm.symm hK1
      obtain ⟨hP, hD⟩ := va_join (wr := []) (w1 := []) hP hD [] [] rfl rfl (by decide) (by decide) hk1 hFc hP1 hD1
      generalize H1 = H at hP hS ⊢
      have hP : va_P (dC, dI) vwCl [] H := hP
      have hD : va_D A [] := hD
      have er_12 : r_12 = f_X3_lengthOfMonth x_1 x_2 := hw
      refine lv_icmp_ne (tgt := 85) hx hb dX3_monthsFrom_78 (by decide) (fun c_13 => ?_) (fun c_13 => ?_)
      · refine lv_iconst (v := 0) hx hb dX3_monthsFrom_85 (by decide) ?_
        refine lv_istore (lv' := [(10, .int 0), (9, .int r_7), (8, .int x_6), (7, .int x_5), (6, .int x_4), (5, .int x_3), (4, .int x_2), (3, .int x_1), (0, .int p0), (1, .int p1), (2, .int p2)]) hx hb dX3_monthsFrom_86 hl (by decide) rfl (fun ls hl => ?_)
        refine lv_iload hx hb dX3_monthsFrom_88 (lv_at hl 3 rfl) ?_
        refine lv_sipush (v := 10000) hx hb dX3_monthsFrom_90 (by decide) ?_
        refine lv_imul hx hb dX3_monthsFrom_93 ?_
        refine lv_iload hx hb dX3_monthsFrom_94 (lv_at hl 2 rfl) ?_
        refine lv_bipush (v := 100) hx hb dX3_monthsFrom_96 (by decide) ?_
        refine lv_imul hx hb dX3_monthsFrom_98 ?_
        refine lv_iadd hx hb dX3_monthsFrom_99 ?_
        refine lv_iload hx hb dX3_monthsFrom_100 (lv_at hl 0 rfl) ?_
        refine lv_if_eq (tgt := 110) hx hb dX3_monthsFrom_102 (by decide) (fun c_14 => ?_) (fun c_14 => ?_)
        · refine lv_iload hx hb dX3_monthsFrom_110 (lv_at hl 5 rfl) ?_
          refine lv_iadd hx hb dX3_monthsFrom_112 ?_
          have hpost : (((x_5 * 10000) + (x_6 * 100)) + x_3) = f_X3_monthsFrom p0 p1 p2 := by subst ex_1 ex_2 ex_3 ex_4 ex_5 ex_6 er_7 er_12; refine Eq.symm ?_; refine (if_neg c_8).trans ?_; refine (if_neg c_10).trans ?_; refine (if_neg c_13).trans ?_; rfl
          have hP9 := hP.sub (ws' := []) [] rfl
          have hD9 := hD.sub (ws' := []) [] (by decide) rfl
          have hK9 := hK.sub (tys' := []) [] rfl
          exact W.iret (v := (((x_5 * 10000) + (x_6 * 100)) + x_3)) hx hb hr (fun t ht hW => ⟨⟨(((x_5 * 10000) + (x_6 * 100)) + x_3), (), rfl, hpost, by rw [ht]; exact hP9, va_K.moved hW.alike hK9, hD9⟩, hS.F ht⟩) hS.2.2 dX3_monthsFrom_113
        · exact absurd (by decide) c_14
      · refine lv_iconst (v := 1) hx hb dX3_monthsFrom_81 (by decide) ?_
        refine lv_goto (tgt := 86) hx hb dX3_monthsFrom_82 (by decide) ?_
        refine lv_istore (lv' := [(10, .int 1), (9, .int r_7), (8, .int x_6), (7, .int x_5), (6, .int x_4), (5, .int x_3), (4, .int x_2), (3, .int x_1), (0, .int p0), (1, .int p1), (2, .int p2)]) hx hb dX3_monthsFrom_86 hl (by decide) rfl (fun ls hl => ?_)
        refine lv_iload hx hb dX3_monthsFrom_88 (lv_at hl 3 rfl) ?_
        refine lv_sipush (v := 10000) hx hb dX3_monthsFrom_90 (by decide) ?_
        refine lv_imul hx hb dX3_monthsFrom_93 ?_
        refine lv_iload hx hb dX3_monthsFrom_94 (lv_at hl 2 rfl) ?_
        refine lv_bipush (v := 100) hx hb dX3_monthsFrom_96 (by decide) ?_
        refine lv_imul hx hb dX3_monthsFrom_98 ?_
        refine lv_iadd hx hb dX3_monthsFrom_99 ?_
        refine lv_iload hx hb dX3_monthsFrom_100 (lv_at hl 0 rfl) ?_
        refine lv_if_eq (tgt := 110) hx hb dX3_monthsFrom_102 (by decide) (fun c_15 => ?_) (fun c_15 => ?_)
        · exact absurd c_15 (by decide)
        · refine lv_iload hx hb dX3_monthsFrom_105 (lv_at hl 1 rfl) ?_
          refine lv_goto (tgt := 112) hx hb dX3_monthsFrom_107 (by decide) ?_
          refine lv_iadd hx hb dX3_monthsFrom_112 ?_
          have hpost : (((x_5 * 10000) + (x_6 * 100)) + r_7) = f_X3_monthsFrom p0 p1 p2 := by subst ex_1 ex_2 ex_3 ex_4 ex_5 ex_6 er_7 er_12; refine Eq.symm ?_; refine (if_neg c_8).trans ?_; refine (if_neg c_10).trans ?_; refine (if_pos c_13).trans ?_; rfl
          have hP9 := hP.sub (ws' := []) [] rfl
          have hD9 := hD.sub (ws' := []) [] (by decide) rfl
          have hK9 := hK.sub (tys' := []) [] rfl
          exact W.iret (v := (((x_5 * 10000) + (x_6 * 100)) + r_7)) hx hb hr (fun t ht hW => ⟨⟨(((x_5 * 10000) + (x_6 * 100)) + r_7), (), rfl, hpost, by rw [ht]; exact hP9, va_K.moved hW.alike hK9, hD9⟩, hS.F ht⟩) hS.2.2 dX3_monthsFrom_113
def f_J9_floorMod_7cf53 (p0 : Int32) (p1 : Int32) : Int32 :=
  let x_1 : Int32 := (p0 - p0 / p1 * p1)
  if 0 ≤ (p0 ^^^ p1) then
    x_1
  else
    if x_1 = 0 then
      x_1
    else
      (x_1 + p1)
set_option maxHeartbeats 4000000 in
set_option maxRecDepth 100000 in
theorem k_J9_floorMod_7cf53 (l : Launch) (dC : Nat → ClassId) (dI : Nat → Nat → Nat) (sz : Nat) (p0 : Int32) (p1 : Int32) (hne : ¬ p1 = 0) : Met l yJ9_floorMod_7cf53 wsJ9_floorMod_7cf53 ({ frames := 0, cells := 0, slots := 0, locals := 0 }) (va_Pc [.int p0, .int p1] (fun U => U.heap.size = sz ∧ va_P (dC, dI) vwCl [] U.heap ∧ va_K (dC, dI) vwCl [] U ∧ va_D (fun _ => True) [])) (va_Qi (fun (r : Int32) (_ : Unit) => r = f_J9_floorMod_7cf53 p0 p1) (fun _ t => va_P (dC, dI) vwCl [] t.heap ∧ va_K (dC, dI) vwCl [] t ∧ va_D (va_A [] sz) []) (va_A [] sz)) 0 0 (va_A [] sz) := by
  refine met_ofWF (cc := cJ9_floorMod_7cf53) (maxL := 3) (ret := (some .int)) (by decide +kernel) rfl ?_
  intro p e s m args below meth c s₁ B hml hv
  obtain ⟨rfl, hsz, hP, hK, hD0⟩ := hv
  have hx := B.exec
  have hb := B.bytes
  have hr := B.returns
  have hts := atoms_spec (ws := wsJ9_floorMod_7cf53) B.pre
  have hown : s.vm.findClass RJ9 = some m.cls := findClass_of_methodNamed B.named
  have hlocks := B.notSynchronized
  subst hsz
  have hD := hD0.self (sz := s.heap.size)
  generalize hAe : va_A [] s.heap.size = A at hD ⊢
  have hA : ∀ q : Nat, s.heap.size ≤ q → A q := fun q h => by rw [← hAe]; exact Or.inr h
  have hS : va_S A s.heap s.heap [] := va_S.rf
  have hP : va_P (dC, dI) vwCl [] s.heap := hP
  have hl := lv_entry ([.int p0, .int p1]) (n := 3) (Nat.le_of_ble_eq_true rfl)
  rw [lg_entry_eq]
  generalize (lg_sl ([.int p0, .int p1]) ++ List.replicate (3 - (lg_sl ([.int p0, .int p1])).length) Slot.unset).toArray = ls at hl ⊢
  have hl : lv_has ls 3 [(0, .int p0), (1, .int p1)] := hl
  refine lv_iload_n hx hb dJ9_floorMod_7cf53_0 rfl (lv_at hl 0 rfl) ?_
  refine lv_iload_n hx hb dJ9_floorMod_7cf53_1 rfl (lv_at hl 1 rfl) ?_
  refine lv_irem hx hb dJ9_floorMod_7cf53_2 hne ?_
  refine lv_topi (fun x_1 ex_1 => ?_)
  refine lv_istore_n (lv' := [(2, .int x_1), (0, .int p0), (1, .int p1)]) hx hb dJ9_floorMod_7cf53_3 rfl hl (by decide) rfl (fun ls hl => ?_)
  refine lv_iload_n hx hb dJ9_floorMod_7cf53_4 rfl (lv_at hl 1 rfl) ?_
  refine lv_iload_n hx hb dJ9_floorMod_7cf53_5 rfl (lv_at hl 2 rfl) ?_
  refine lv_ixor hx hb dJ9_floorMod_7cf53_6 ?_
  refine lv_if_ge (tgt := 18) hx hb dJ9_floorMod_7cf53_7 (by decide) (fun c_2 => ?_) (fun c_2 => ?_)
  · refine lv_iload_n hx hb dJ9_floorMod_7cf53_18 rfl (lv_at hl 0 rfl) ?_
    have hpost : x_1 = f_J9_floorMod_7cf53 p0 p1 := by subst ex_1; refine Eq.symm ?_; refine (if_pos c_2).trans ?_; rfl
    have hP9 := hP.sub (ws' := []) [] rfl
    have hD9 := hD.sub (ws' := []) [] (by decide) rfl
    have hK9 := hK.sub (tys' := []) [] rfl
    exact W.iret (v := x_1) hx hb hr (fun t ht hW => ⟨⟨x_1, (), rfl, hpost, by rw [ht]; exact hP9, va_K.moved hW.alike hK9, hD9⟩, hS.F ht⟩) hS.2.2 dJ9_floorMod_7cf53_19
  · refine lv_iload_n hx hb dJ9_floorMod_7cf53_10 rfl (lv_at hl 0 rfl) ?_
    refine lv_if_eq (tgt := 18) hx hb dJ9_floorMod_7cf53_11 (by decide) (fun c_3 => ?_) (fun c_3 => ?_)
    · refine lv_iload_n hx hb dJ9_floorMod_7cf53_18 rfl (lv_at hl 0 rfl) ?_
      have hpost : x_1 = f_J9_floorMod_7cf53 p0 p1 := by subst ex_1; refine Eq.symm ?_; refine (if_neg c_2).trans ?_; refine (if_pos c_3).trans ?_; rfl
      have hP9 := hP.sub (ws' := []) [] rfl
      have hD9 := hD.sub (ws' := []) [] (by decide) rfl
      have hK9 := hK.sub (tys' := []) [] rfl
      exact W.iret (v := x_1) hx hb hr (fun t ht hW => ⟨⟨x_1, (), rfl, hpost, by rw [ht]; exact hP9, va_K.moved hW.alike hK9, hD9⟩, hS.F ht⟩) hS.2.2 dJ9_floorMod_7cf53_19
    · refine lv_iload_n hx hb dJ9_floorMod_7cf53_14 rfl (lv_at hl 0 rfl) ?_
      refine lv_iload_n hx hb dJ9_floorMod_7cf53_15 rfl (lv_at hl 2 rfl) ?_
      refine lv_iadd hx hb dJ9_floorMod_7cf53_16 ?_
      have hpost : (x_1 + p1) = f_J9_floorMod_7cf53 p0 p1 := by subst ex_1; refine Eq.symm ?_; refine (if_neg c_2).trans ?_; refine (if_neg c_3).trans ?_; rfl
      have hP9 := hP.sub (ws' := []) [] rfl
      have hD9 := hD.sub (ws' := []) [] (by decide) rfl
      have hK9 := hK.sub (tys' := []) [] rfl
      exact W.iret (v := (x_1 + p1)) hx hb hr (fun t ht hW => ⟨⟨(x_1 + p1), (), rfl, hpost, by rw [ht]; exact hP9, va_K.moved hW.alike hK9, hD9⟩, hS.F ht⟩) hS.2.2 dJ9_floorMod_7cf53_17
def f_X3_weekdayOf (p0 : Int32) : Int32 :=
  let r_1 : Int32 := f_J9_floorMod_7cf53 (p0 + 1) 7
  r_1
set_option maxHeartbeats 4000000 in
set_option maxRecDepth 100000 in
theorem k_X3_weekdayOf (l : Launch) (dC : Nat → ClassId) (dI : Nat → Nat → Nat) (sz : Nat) (p0 : Int32) : Met l yX3_weekdayOf wsX3_weekdayOf ({ frames := 1, cells := 0, slots := 0, locals := 22 }) (va_Pc [.int p0] (fun U => U.heap.size = sz ∧ va_P (dC, dI) vwCl [] U.heap ∧ va_K (dC, dI) vwCl [] U ∧ va_D (fun _ => True) [])) (va_Qi (fun (r : Int32) (_ : Unit) => r = f_X3_weekdayOf p0) (fun _ t => va_P (dC, dI) vwCl [] t.heap ∧ va_K (dC, dI) vwCl [] t ∧ va_D (va_A [] sz) []) (va_A [] sz)) 0 0 (va_A [] sz) := by
  refine Met.ofW (cc := cX3_weekdayOf) (maxL := 1) (ret := (some .int)) (by decide) rfl ?_
  intro p e s m args below meth c s₁ B hml hv
  obtain ⟨rfl, hsz, hP, hK, hD0⟩ := hv
  have hx := B.exec
  have hb := B.bytes
  have hr := B.returns
  have hts := atoms_spec (ws := wsX3_weekdayOf) B.pre
  have hown : s.vm.findClass RX3 = some m.cls := findClass_of_methodNamed B.named
  have hlocks := B.notSynchronized
  subst hsz
  have hD := hD0.self (sz := s.heap.size)
  generalize hAe : va_A [] s.heap.size = A at hD ⊢
  have hA : ∀ q : Nat, s.heap.size ≤ q → A q := fun q h => by rw [← hAe]; exact Or.inr h
  have hS : va_S A s.heap s.heap [] := va_S.rf
  have hP : va_P (dC, dI) vwCl [] s.heap := hP
  have hl := lv_entry ([.int p0]) (n := 1) (Nat.le_of_ble_eq_true rfl)
  rw [lg_entry_eq]
  generalize (lg_sl ([.int p0]) ++ List.replicate (1 - (lg_sl ([.int p0])).length) Slot.unset).toArray = ls at hl ⊢
  have hl : lv_has ls 1 [(0, .int p0)] := hl
  refine lv_iload_n hx hb dX3_weekdayOf_0 rfl (lv_at hl 0 rfl) ?_
  refine lv_iconst (v := 1) hx hb dX3_weekdayOf_1 (by decide) ?_
  refine lv_iadd hx hb dX3_weekdayOf_2 ?_
  refine lv_bipush (v := 7) hx hb dX3_weekdayOf_3 (by decide) ?_
  have hPc := hP.sub (ws' := []) [] rfl
  have hDc := hD.sub (ws' := []) [] (by decide) rfl
  have hKc := hK.sub (tys' := []) [] rfl
  have hFc := va_free (wc := []) hD hS hA [] rfl
  refine va_calli (va_runS (As := [.int (p0 + 1), .int 7]) (rest := []) ⟨hx, hb, hml, hown, hts⟩ (k_J9_floorMod_7cf53 l dC dI s.heap.size (p0 + 1) 7 (by decide)) (va_cwS 2 hts gX3_weekdayOf_J9_floorMod_7cf53 rfl rfl rfl (by decide +kernel) ⟨Nat.le_of_ble_eq_true rfl, Nat.le_of_ble_eq_true rfl⟩) ⟨fun a U g mk q => by obtain ⟨q0, q1, qP, qK, qD⟩ := q; exact ⟨q0, q1, qP, va_K.moved (u := U) (U := U.calling g mk a) (Vm.Alike.refl U.vm) qK, qD⟩, fun U hU hW => ⟨rfl, by rw [hU], by rw [hU]; exact hPc, va_K.moved hW.alike hKc, hDc.weaken (fun _ _ _ _ => trivial)⟩⟩ rfl rfl hl.1 rfl (lv_room (Nat.le_of_ble_eq_true rfl)) dX3_weekdayOf_5 ⟨Nat.le_of_ble_eq_true rfl, Nat.le_of_ble_eq_true rfl⟩) hS (fun q _ h => hFc q h) hFc (fun r_1 u t H1 locs ht hvm hw hB hz1 hk1 hS => ?_)
  obtain ⟨hP1, hK1, hD1⟩ := hB
  rw [ht] at hP1
  have hK1 := va_K.moved hvm.symm hK1
  obtain ⟨hP, hD⟩ := va_join (wr := []) (w1 := []) hP hD [] [] rfl rfl (by decide) (by decide) hk1 hFc hP1 hD1
  generalize H1 = H at hP hS ⊢
  have hP : va_P (dC, dI) vwCl [] H := hP
  have hD : va_D A [] := hD
  have er_1 : r_1 = f_J9_floorMod_7cf53 (p0 + 1) 7 := hw
  have hpost : r_1 = f_X3_weekdayOf p0 := by subst er_1; refine Eq.symm ?_; rfl
  have hP9 := hP.sub (ws' := []) [] rfl
  have hD9 := hD.sub (ws' := []) [] (by decide) rfl
  have hK9 := hK.sub (tys' := []) [] rfl
  exact W.iret (v := r_1) hx hb hr (fun t ht hW => ⟨⟨r_1, (), rfl, hpost, by rw [ht]; exact hP9, va_K.moved hW.alike hK9, hD9⟩, hS.F ht⟩) hS.2.2 dX3_weekdayOf_8
