def f_X6_thirtyDays (p0 : Int32) (p1 : Int32) (p2 : Int32) : Int32 :=
  let x_1 : Int32 := (if 30 < (p1 - p1 / 100 * 100) then 30 else (p1 - p1 / 100 * 100))
  let x_2 : Int32 := (p2 - p2 / 100 * 100)
  if x_2 = 31 then
    if p0 = 1 then
      let x_7 : Int32 := ((p2 / 10000) - (p1 / 10000))
      let x_8 : Int32 := (((p2 / 100) - (p2 / 100) / 100 * 100) - ((p1 / 100) - (p1 / 100) / 100 * 100))
      ((((360 * x_7) + (30 * x_8)) + 30) - x_1)
    else
      if x_1 = 30 then
        let x_12 : Int32 := ((p2 / 10000) - (p1 / 10000))
        let x_13 : Int32 := (((p2 / 100) - (p2 / 100) / 100 * 100) - ((p1 / 100) - (p1 / 100) / 100 * 100))
        ((((360 * x_12) + (30 * x_13)) + 30) - x_1)
      else
        let x_10 : Int32 := ((p2 / 10000) - (p1 / 10000))
        let x_11 : Int32 := (((p2 / 100) - (p2 / 100) / 100 * 100) - ((p1 / 100) - (p1 / 100) / 100 * 100))
        ((((360 * x_10) + (30 * x_11)) + x_2) - x_1)
  else
    let x_4 : Int32 := ((p2 / 10000) - (p1 / 10000))
    let x_5 : Int32 := (((p2 / 100) - (p2 / 100) / 100 * 100) - ((p1 / 100) - (p1 / 100) / 100 * 100))
    ((((360 * x_4) + (30 * x_5)) + x_2) - x_1)
set_option maxHeartbeats 4000000 in
set_option maxRecDepth 100000 in
theorem k_X6_thirtyDays (l : Launch) (dC : Nat → ClassId) (dI : Nat → Nat → Nat) (sz : Nat) (p0 : Int32) (p1 : Int32) (p2 : Int32) : Met l yX6_thirtyDays wsX6_thirtyDays ({ frames := 1, cells := 0, slots := 0, locals := 21 }) (va_Pc [.int p0, .int p1, .int p2] (fun U => U.heap.size = sz ∧ va_P (dC, dI) vwCl [] U.heap ∧ va_K (dC, dI) vwCl [] U ∧ va_D (fun _ => True) [])) (va_Qi (fun (r : Int32) (_ : Unit) => r = f_X6_thirtyDays p0 p1 p2) (fun _ t => va_P (dC, dI) vwCl [] t.heap ∧ va_K (dC, dI) vwCl [] t ∧ va_D (va_A [] sz) []) (va_A [] sz)) 0 0 (va_A [] sz) := by
  refine Met.ofW (cc := cX6_thirtyDays) (maxL := 7) (ret := (some .int)) (by decide) rfl ?_
  intro p e s m args below meth c s₁ B hml hv
  obtain ⟨rfl, hsz, hP, hK, hD0⟩ := hv
  have hx := B.exec
  have hb := B.bytes
  have hr := B.returns
  have hts := atoms_spec (ws := wsX6_thirtyDays) B.pre
  have hown : s.vm.findClass RX6 = some m.cls := findClass_of_methodNamed B.named
  have hlocks := B.notSynchronized
  subst hsz
  have hD := hD0.self (sz := s.heap.size)
  generalize hAe : va_A [] s.heap.size = A at hD ⊢
  have hA : ∀ q : Nat, s.heap.size ≤ q → A q := fun q h => by rw [← hAe]; exact Or.inr h
  have hS : va_S A s.heap s.heap [] := va_S.rf
  have hP : va_P (dC, dI) vwCl [] s.heap := hP
  have hl := lv_entry ([.int p0, .int p1, .int p2]) (n := 7) (Nat.le_of_ble_eq_true rfl)
  rw [lg_entry_eq]
  generalize (lg_sl ([.int p0, .int p1, .int p2]) ++ List.replicate (7 - (lg_sl ([.int p0, .int p1, .int p2])).length) Slot.unset).toArray = ls at hl ⊢
  have hl : lv_has ls 7 [(0, .int p0), (1, .int p1), (2, .int p2)] := hl
  refine lv_iload_n hx hb dX6_thirtyDays_0 rfl (lv_at hl 1 rfl) ?_
  refine lv_bipush (v := 100) hx hb dX6_thirtyDays_1 (by decide) ?_
  refine lv_irem hx hb dX6_thirtyDays_3 (by decide) ?_
  refine lv_bipush (v := 30) hx hb dX6_thirtyDays_4 (by decide) ?_
  refine va_mmin hx hb (hml.trans hl.1.symm) hown (hts (.methodLink RX6 40 Lib.Math.min.name) (by decide +kernel)) (hts (.static Lib.Math.min.name) (by decide +kernel)) (hts (.initialized "java/lang/Math") (by decide +kernel)) (hts (.code Lib.Math.min.name Lib.Math.min.code 2 (some .int)) (by decide +kernel)) (Nat.le_of_ble_eq_true rfl) (Nat.le_of_ble_eq_true rfl) (Nat.zero_le _) (Nat.zero_le _) dX6_thirtyDays_6 ?_
  refine lv_topi (fun x_1 ex_1 => ?_)
  refine lv_istore_n (lv' := [(3, .int x_1), (0, .int p0), (1, .int p1), (2, .int p2)]) hx hb dX6_thirtyDays_9 rfl hl (by decide) rfl (fun ls hl => ?_)
  refine lv_iload_n hx hb dX6_thirtyDays_10 rfl (lv_at hl 3 rfl) ?_
  refine lv_bipush (v := 100) hx hb dX6_thirtyDays_11 (by decide) ?_
  refine lv_irem hx hb dX6_thirtyDays_13 (by decide) ?_
  refine lv_topi (fun x_2 ex_2 => ?_)
  refine lv_istore (lv' := [(4, .int x_2), (3, .int x_1), (0, .int p0), (1, .int p1), (2, .int p2)]) hx hb dX6_thirtyDays_14 hl (by decide) rfl (fun ls hl => ?_)
  refine lv_iload hx hb dX6_thirtyDays_16 (lv_at hl 0 rfl) ?_
  refine lv_bipush (v := 31) hx hb dX6_thirtyDays_18 (by decide) ?_
  refine lv_icmp_ne (tgt := 38) hx hb dX6_thirtyDays_20 (by decide) (fun c_3 => ?_) (fun c_3 => ?_)
  · refine lv_iload_n hx hb dX6_thirtyDays_38 rfl (lv_at hl 4 rfl) ?_
    refine lv_sipush (v := 10000) hx hb dX6_thirtyDays_39 (by decide) ?_
    refine lv_idiv hx hb dX6_thirtyDays_42 (by decide) ?_
    refine lv_iload_n hx hb dX6_thirtyDays_43 rfl (lv_at hl 3 rfl) ?_
    refine lv_sipush (v := 10000) hx hb dX6_thirtyDays_44 (by decide) ?_
    refine lv_idiv hx hb dX6_thirtyDays_47 (by decide) ?_
    refine lv_isub hx hb dX6_thirtyDays_48 ?_
    refine lv_topi (fun x_4 ex_4 => ?_)
    refine lv_istore (lv' := [(5, .int x_4), (4, .int x_2), (3, .int x_1), (0, .int p0), (1, .int p1), (2, .int p2)]) hx hb dX6_thirtyDays_49 hl (by decide) rfl (fun ls hl => ?_)
    refine lv_iload_n hx hb dX6_thirtyDays_51 rfl (lv_at hl 5 rfl) ?_
    refine lv_bipush (v := 100) hx hb dX6_thirtyDays_52 (by decide) ?_
    refine lv_idiv hx hb dX6_thirtyDays_54 (by decide) ?_
    refine lv_bipush (v := 100) hx hb dX6_thirtyDays_55 (by decide) ?_
    refine lv_irem hx hb dX6_thirtyDays_57 (by decide) ?_
    refine lv_iload_n hx hb dX6_thirtyDays_58 rfl (lv_at hl 4 rfl) ?_
    refine lv_bipush (v := 100) hx hb dX6_thirtyDays_59 (by decide) ?_
    refine lv_idiv hx hb dX6_thirtyDays_61 (by decide) ?_
    refine lv_bipush (v := 100) hx hb dX6_thirtyDays_62 (by decide) ?_
    refine lv_irem hx hb dX6_thirtyDays_64 (by decide) ?_
    refine lv_isub hx hb dX6_thirtyDays_65 ?_
    refine lv_topi (fun x_5 ex_5 => ?_)
    refine lv_istore (lv' := [(6, .int x_5), (5, .int x_4), (4, .int x_2), (3, .int x_1), (0, .int p0), (1, .int p1), (2, .int p2)]) hx hb dX6_thirtyDays_66 hl (by decide) rfl (fun ls hl => ?_)
    refine lv_sipush (v := 360) hx hb dX6_thirtyDays_68 (by decide) ?_
    refine lv_iload hx hb dX6_thirtyDays_71 (lv_at hl 1 rfl) ?_
    refine lv_imul hx hb dX6_thirtyDays_73 ?_
    refine lv_bipush (v := 30) hx hb dX6_thirtyDays_74 (by decide) ?_
    refine lv_iload hx hb dX6_thirtyDays_76 (lv_at hl 0 rfl) ?_
    refine lv_imul hx hb dX6_thirtyDays_78 ?_
    refine lv_iadd hx hb dX6_thirtyDays_79 ?_
    refine lv_iload hx hb dX6_thirtyDays_80 (lv_at hl 2 rfl) ?_
    refine lv_iadd hx hb dX6_thirtyDays_82 ?_
    refine lv_iload_n hx hb dX6_thirtyDays_83 rfl (lv_at hl 3 rfl) ?_
    refine lv_isub hx hb dX6_thirtyDays_84 ?_
    have hpost : ((((360 * x_4) + (30 * x_5)) + x_2) - x_1) = f_X6_thirtyDays p0 p1 p2 := by subst ex_1 ex_2 ex_4 ex_5; refine Eq.symm ?_; refine (if_neg c_3).trans ?_; rfl
    have hP9 := hP.sub (ws' := []) [] rfl
    have hD9 := hD.sub (ws' := []) [] (by decide) rfl
    have hK9 := hK.sub (tys' := []) [] rfl
    exact W.iret (v := ((((360 * x_4) + (30 * x_5)) + x_2) - x_1)) hx hb hr (fun t ht hW => ⟨⟨((((360 * x_4) + (30 * x_5)) + x_2) - x_1), (), rfl, hpost, by rw [ht]; exact hP9, va_K.moved hW.alike hK9, hD9⟩, hS.F ht⟩) hS.2.2 dX6_thirtyDays_85
  · refine lv_iload_n hx hb dX6_thirtyDays_23 rfl (lv_at hl 2 rfl) ?_
    refine lv_iconst (v := 1) hx hb dX6_thirtyDays_24 (by decide) ?_
    refine lv_icmp_eq (tgt := 34) hx hb dX6_thirtyDays_25 (by decide) (fun c_6 => ?_) (fun c_6 => ?_)
    · refine lv_bipush (v := 30) hx hb dX6_thirtyDays_34 (by decide) ?_
      refine lv_istore (lv' := [(4, .int 30), (3, .int x_1), (0, .int p0), (1, .int p1), (2, .int p2)]) hx hb dX6_thirtyDays_36 hl (by decide) rfl (fun ls hl => ?_)
      refine lv_iload_n hx hb dX6_thirtyDays_38 rfl (lv_at hl 4 rfl) ?_
      refine lv_sipush (v := 10000) hx hb dX6_thirtyDays_39 (by decide) ?_
      refine lv_idiv hx hb dX6_thirtyDays_42 (by decide) ?_
      refine lv_iload_n hx hb dX6_thirtyDays_43 rfl (lv_at hl 3 rfl) ?_
      refine lv_sipush (v := 10000) hx hb dX6_thirtyDays_44 (by decide) ?_
      refine lv_idiv hx hb dX6_thirtyDays_47 (by decide) ?_
      refine lv_isub hx hb dX6_thirtyDays_48 ?_
      refine lv_topi (fun x_7 ex_7 => ?_)
      refine lv_istore (lv' := [(5, .int x_7), (4, .int 30), (3, .int x_1), (0, .int p0), (1, .int p1), (2, .int p2)]) hx hb dX6_thirtyDays_49 hl (by decide) rfl (fun ls hl => ?_)
      refine lv_iload_n hx hb dX6_thirtyDays_51 rfl (lv_at hl 5 rfl) ?_
      refine lv_bipush (v := 100) hx hb dX6_thirtyDays_52 (by decide) ?_
      refine lv_idiv hx hb dX6_thirtyDays_54 (by decide) ?_
      refine lv_bipush (v := 100) hx hb dX6_thirtyDays_55 (by decide) ?_
      refine lv_irem hx hb dX6_thirtyDays_57 (by decide) ?_
      refine lv_iload_n hx hb dX6_thirtyDays_58 rfl (lv_at hl 4 rfl) ?_
      refine lv_bipush (v := 100) hx hb dX6_thirtyDays_59 (by decide) ?_
      refine lv_idiv hx hb dX6_thirtyDays_61 (by decide) ?_
      refine lv_bipush (v := 100) hx hb dX6_thirtyDays_62 (by decide) ?_
      refine lv_irem hx hb dX6_thirtyDays_64 (by decide) ?_
      refine lv_isub hx hb dX6_thirtyDays_65 ?_
      refine lv_topi (fun x_8 ex_8 => ?_)
      refine lv_istore (lv' := [(6, .int x_8), (5, .int x_7), (4, .int 30), (3, .int x_1), (0, .int p0), (1, .int p1), (2, .int p2)]) hx hb dX6_thirtyDays_66 hl (by decide) rfl (fun ls hl => ?_)
      refine lv_sipush (v := 360) hx hb dX6_thirtyDays_68 (by decide) ?_
      refine lv_iload hx hb dX6_thirtyDays_71 (lv_at hl 1 rfl) ?_
      refine lv_imul hx hb dX6_thirtyDays_73 ?_
      refine lv_bipush (v := 30) hx hb dX6_thirtyDays_74 (by decide) ?_
      refine lv_iload hx hb dX6_thirtyDays_76 (lv_at hl 0 rfl) ?_
      refine lv_imul hx hb dX6_thirtyDays_78 ?_
      refine lv_iadd hx hb dX6_thirtyDays_79 ?_
      refine lv_iload hx hb dX6_thirtyDays_80 (lv_at hl 2 rfl) ?_
      refine lv_iadd hx hb dX6_thirtyDays_82 ?_
      refine lv_iload_n hx hb dX6_thirtyDays_83 rfl (lv_at hl 3 rfl) ?_
      refine lv_isub hx hb dX6_thirtyDays_84 ?_
      have hpost : ((((360 * x_7) + (30 * x_8)) + 30) - x_1) = f_X6_thirtyDays p0 p1 p2 := by subst ex_1 ex_2 ex_7 ex_8; refine Eq.symm ?_; refine (if_pos c_3).trans ?_; refine (if_pos c_6).trans ?_; rfl
      have hP9 := hP.sub (ws' := []) [] rfl
      have hD9 := hD.sub (ws' := []) [] (by decide) rfl
      have hK9 := hK.sub (tys' := []) [] rfl
      exact W.iret (v := ((((360 * x_7) + (30 * x_8)) + 30) - x_1)) hx hb hr (fun t ht hW => ⟨⟨((((360 * x_7) + (30 * x_8)) + 30) - x_1), (), rfl, hpost, by rw [ht]; exact hP9, va_K.moved hW.alike hK9, hD9⟩, hS.F ht⟩) hS.2.2 dX6_thirtyDays_85
    · refine lv_iload_n hx hb dX6_thirtyDays_28 rfl (lv_at hl 1 rfl) ?_
      refine lv_bipush (v := 30) hx hb dX6_thirtyDays_29 (by decide) ?_
      refine lv_icmp_ne (tgt := 38) hx hb dX6_thirtyDays_31 (by decide) (fun c_9 => ?_) (fun c_9 => ?_)
      · refine lv_iload_n hx hb dX6_thirtyDays_38 rfl (lv_at hl 4 rfl) ?_
        refine lv_sipush (v := 10000) hx hb dX6_thirtyDays_39 (by decide) ?_
        refine lv_idiv hx hb dX6_thirtyDays_42 (by decide) ?_
        refine lv_iload_n hx hb dX6_thirtyDays_43 rfl (lv_at hl 3 rfl) ?_
        refine lv_sipush (v := 10000) hx hb dX6_thirtyDays_44 (by decide) ?_
        refine lv_idiv hx hb dX6_thirtyDays_47 (by decide) ?_
        refine lv_isub hx hb dX6_thirtyDays_48 ?_
        refine lv_topi (fun x_10 ex_10 => ?_)
        refine lv_istore (lv' := [(5, .int x_10), (4, .int x_2), (3, .int x_1), (0, .int p0), (1, .int p1), (2, .int p2)]) hx hb dX6_thirtyDays_49 hl (by decide) rfl (fun ls hl => ?_)
        refine lv_iload_n hx hb dX6_thirtyDays_51 rfl (lv_at hl 5 rfl) ?_
        refine lv_bipush (v := 100) hx hb dX6_thirtyDays_52 (by decide) ?_
        refine lv_idiv hx hb dX6_thirtyDays_54 (by decide) ?_
        refine lv_bipush (v := 100) hx hb dX6_thirtyDays_55 (by decide) ?_
        refine lv_irem hx hb dX6_thirtyDays_57 (by decide) ?_
        refine lv_iload_n hx hb dX6_thirtyDays_58 rfl (lv_at hl 4 rfl) ?_
        refine lv_bipush (v := 100) hx hb dX6_thirtyDays_59 (by decide) ?_
        refine lv_idiv hx hb dX6_thirtyDays_61 (by decide) ?_
        refine lv_bipush (v := 100) hx hb dX6_thirtyDays_62 (by decide) ?_
        refine lv_irem hx hb dX6_thirtyDays_64 (by decide) ?_
        refine lv_isub hx hb dX6_thirtyDays_65 ?_
        refine lv_topi (fun x_11 ex_11 => ?_)
        refine lv_istore (lv' := [(6, .int x_11), (5, .int x_10), (4, .int x_2), (3, .int x_1), (0, .int p0), (1, .int p1), (2, .int p2)]) hx hb dX6_thirtyDays_66 hl (by decide) rfl (fun ls hl => ?_)
        refine lv_sipush (v := 360) hx hb dX6_thirtyDays_68 (by decide) ?_
        refine lv_iload hx hb dX6_thirtyDays_71 (lv_at hl 1 rfl) ?_
        refine lv_imul hx hb dX6_thirtyDays_73 ?_
        refine lv_bipush (v := 30) hx hb dX6_thirtyDays_74 (by decide) ?_
        refine lv_iload hx hb dX6_thirtyDays_76 (lv_at hl 0 rfl) ?_
        refine lv_imul hx hb dX6_thirtyDays_78 ?_
        refine lv_iadd hx hb dX6_thirtyDays_79 ?_
        refine lv_iload hx hb dX6_thirtyDays_80 (lv_at hl 2 rfl) ?_
        refine lv_iadd hx hb dX6_thirtyDays_82 ?_
        refine lv_iload_n hx hb dX6_thirtyDays_83 rfl (lv_at hl 3 rfl) ?_
        refine lv_isub hx hb dX6_thirtyDays_84 ?_
        have hpost : ((((360 * x_10) + (30 * x_11)) + x_2) - x_1) = f_X6_thirtyDays p0 p1 p2 := by subst ex_1 ex_2 ex_10 ex_11; refine Eq.symm ?_; refine (if_pos c_3).trans ?_; refine (if_neg c_6).trans ?_; refine (if_neg c_9).trans ?_; rfl
        have hP9 := hP.sub (ws' := []) [] rfl
        have hD9 := hD.sub (ws' := []) [] (by decide) rfl
        have hK9 := hK.sub (tys' := []) [] rfl
        exact W.iret (v := ((((360 * x_10) + (30 * x_11)) + x_2) - x_1)) hx hb hr (fun t ht hW => ⟨⟨((((360 * x_10) + (30 * x_11)) + x_2) - x_1), (), rfl, hpost, by rw [ht]; exact hP9, va_K.moved hW.alike hK9, hD9⟩, hS.F ht⟩) hS.2.2 dX6_thirtyDays_85
      · refine lv_bipush (v := 30) hx hb dX6_thirtyDays_34 (by decide) ?_
        refine lv_istore (lv' := [(4, .int 30), (3, .int x_1), (0, .int p0), (1, .int p1), (2, .int p2)]) hx hb dX6_thirtyDays_36 hl (by decide) rfl (fun ls hl => ?_)
        refine lv_iload_n hx hb dX6_thirtyDays_38 rfl (lv_at hl 4 rfl) ?_
        refine lv_sipush (v := 10000) hx hb dX6_thirtyDays_39 (by decide) ?_
        refine lv_idiv hx hb dX6_thirtyDays_42 (by decide) ?_
        refine lv_iload_n hx hb dX6_thirtyDays_43 rfl (lv_at hl 3 rfl) ?_
        refine lv_sipush (v := 10000) hx hb dX6_thirtyDays_44 (by decide) ?_
        refine lv_idiv hx hb dX6_thirtyDays_47 (by decide) ?_
        refine lv_isub hx hb dX6_thirtyDays_48 ?_
        refine lv_topi (fun x_12 ex_12 => ?_)
        refine lv_istore (lv' := [(5, .int x_12), (4, .int 30), (3, .int x_1), (0, .int p0), (1, .int p1), (2, .int p2)]) hx hb dX6_thirtyDays_49 hl (by decide) rfl (fun ls hl => ?_)
        refine lv_iload_n hx hb dX6_thirtyDays_51 rfl (lv_at hl 5 rfl) ?_
        refine lv_bipush (v := 100) hx hb dX6_thirtyDays_52 (by decide) ?_
        refine lv_idiv hx hb dX6_thirtyDays_54 (by decide) ?_
        refine lv_bipush (v := 100) hx hb dX6_thirtyDays_55 (by decide) ?_
        refine lv_irem hx hb dX6_thirtyDays_57 (by decide) ?_
        refine lv_iload_n hx hb dX6_thirtyDays_58 rfl (lv_at hl 4 rfl) ?_
        refine lv_bipush (v := 100) hx hb dX6_thirtyDays_59 (by decide) ?_
        refine lv_idiv hx hb dX6_thirtyDays_61 (by decide) ?_
        refine lv_bipush (v := 100) hx hb dX6_thirtyDays_62 (by decide) ?_
        refine lv_irem hx hb dX6_thirtyDays_64 (by decide) ?_
        refine lv_isub hx hb dX6_thirtyDays_65 ?_
        refine lv_topi (fun x_13 ex_13 => ?_)
        refine lv_istore (lv' := [(6, .int x_13), (5, .int x_12), (4, .int 30), (3, .int x_1), (0, .int p0), (1, .int p1), (2, .int p2)]) hx hb dX6_thirtyDays_66 hl (by decide) rfl (fun ls hl => ?_)
        refine lv_sipush (v := 360) hx hb dX6_thirtyDays_68 (by decide) ?_
        refine lv_iload hx hb dX6_thirtyDays_71 (lv_at hl 1 rfl) ?_
        refine lv_imul hx hb dX6_thirtyDays_73 ?_
        refine lv_bipush (v := 30) hx hb dX6_thirtyDays_74 (by decide) ?_
        refine lv_iload hx hb dX6_thirtyDays_76 (lv_at hl 0 rfl) ?_
        refine lv_imul hx hb dX6_thirtyDays_78 ?_
        refine lv_iadd hx hb dX6_thirtyDays_79 ?_
        refine lv_iload hx hb dX6_thirtyDays_80 (lv_at hl 2 rfl) ?_
        refine lv_iadd hx hb dX6_thirtyDays_82 ?_
        refine lv_iload_n hx hb dX6_thirtyDays_83 rfl (lv_at hl 3 rfl) ?_
        refine lv_isub hx hb dX6_thirtyDays_84 ?_
        have hpost : ((((360 * x_12) + (30 * x_13)) + 30) - x_1) = f_X6_thirtyDays p0 p1 p2 := by subst ex_1 ex_2 ex_12 ex_13; refine Eq.symm ?_; refine (if_pos c_3).trans ?_; refine (if_neg c_6).trans ?_; refine (if_pos c_9).trans ?_; rfl
        have hP9 := hP.sub (ws' := []) [] rfl
        have hD9 := hD.sub (ws' := []) [] (by decide) rfl
        have hK9 := hK.sub (tys' := []) [] rfl
        exact W.iret (v := ((((360 * x_12) + (30 * x_13)) + 30) - x_1)) hx hb hr (fun t ht hW => ⟨⟨((((360 * x_12) + (30 * x_13)) + 30) - x_1), (), rfl, hpost, by rw [ht]; exact hP9, va_K.moved hW.alike hK9, hD9⟩, hS.F ht⟩) hS.2.2 dX6_thirtyDays_85
def f_X6_part (u0 : Int64) (w0 : Int64) (p0 : Int32) : Int64 :=
  if p0 = 0 then
    u0
  else
    w0
set_option maxHeartbeats 4000000 in
set_option maxRecDepth 100000 in
theorem k_X6_part (l : Launch) (dC : Nat → ClassId) (dI : Nat → Nat → Nat) (sz : Nat) (h0 : Nat) (u0 : Int64) (w0 : Int64) (p0 : Int32) : Met l yX6_part wsX6_part ({ frames := 0, cells := 0, slots := 0, locals := 0 }) (va_Pc [.ref h0, .int p0] (fun U => U.heap.size = sz ∧ va_P (dC, dI) vwCl [(h0, .inr (5, [.long u0, .long w0]))] U.heap ∧ va_K (dC, dI) vwCl [] U ∧ va_D (fun _ => True) [(h0, .inr (5, [.long u0, .long w0]))])) (va_Ql (fun (r : Int64) (_ : Unit) => r = f_X6_part u0 w0 p0) (fun _ t => va_P (dC, dI) vwCl [] t.heap ∧ va_K (dC, dI) vwCl [] t ∧ va_D (va_A [(h0, .inr (5, [.long u0, .long w0]))] sz) []) (va_A [(h0, .inr (5, [.long u0, .long w0]))] sz)) 0 0 (va_A [(h0, .inr (5, [.long u0, .long w0]))] sz) := by
  refine Met.ofW (cc := cX6_part) (maxL := 2) (ret := (some .long)) (by decide) rfl ?_
  intro p e s m args below meth c s₁ B hml hv
  obtain ⟨rfl, hsz, hP, hK, hD0⟩ := hv
  have hx := B.exec
  have hb := B.bytes
  have hr := B.returns
  have hts := atoms_spec (ws := wsX6_part) B.pre
  have hown : s.vm.findClass RX6 = some m.cls := findClass_of_methodNamed B.named
  have hlocks := B.notSynchronized
  have hinX6 : ∀ w ∈ u_ws RX6 TX6 2, w ∈ wsX6_part := (fun _ h9 => List.mem_cons_of_mem _ (List.mem_append_right _ h9))
  subst hsz
  have hD := hD0.self (sz := s.heap.size)
  generalize hAe : va_A [(h0, .inr (5, [.long u0, .long w0]))] s.heap.size = A at hD ⊢
  have hA : ∀ q : Nat, s.heap.size ≤ q → A q := fun q h => by rw [← hAe]; exact Or.inr h
  have hS : va_S A s.heap s.heap [] := va_S.rf
  have hP : va_P (dC, dI) vwCl [(h0, .inr (5, [.long u0, .long w0]))] s.heap := hP
  have hl := lv_entry ([.ref h0, .int p0]) (n := 2) (Nat.le_of_ble_eq_true rfl)
  rw [lg_entry_eq]
  generalize (lg_sl ([.ref h0, .int p0]) ++ List.replicate (2 - (lg_sl ([.ref h0, .int p0])).length) Slot.unset).toArray = ls at hl ⊢
  have hl : lv_has ls 2 [(0, .ref h0), (1, .int p0)] := hl
  refine lv_iload_n hx hb dX6_part_0 rfl (lv_at hl 1 rfl) ?_
  refine lv_if_eq (tgt := 11) hx hb dX6_part_1 (by decide) (fun c_1 => ?_) (fun c_1 => ?_)
  · refine lv_aload_n hx hb dX6_part_11 rfl (lv_at hl 0 rfl) ?_
    refine va_get (D := (dC, dI)) (ci := 5) (v := .long u0) (C := RX6) (T := TX6) (N := 2) hx hb hts hinX6 hown hK hP 0 rfl rfl 0 (by decide) (hts (.fieldLink RX6 7 "BondCalendars$Ratio" "upper" "J") (by decide +kernel)) (fun _ h9 => h9) rfl dX6_part_12 ?_
    have hpost : u0 = f_X6_part u0 w0 p0 := by refine Eq.symm ?_; refine (if_pos c_1).trans ?_; rfl
    have hP9 := hP.sub (ws' := []) [] rfl
    have hD9 := hD.sub (ws' := []) [] (by decide) rfl
    have hK9 := hK.sub (tys' := []) [] rfl
    exact W.lret (v := u0) hx hb hr (fun t ht hW => ⟨⟨u0, (), rfl, hpost, by rw [ht]; exact hP9, va_K.moved hW.alike hK9, hD9⟩, hS.F ht⟩) hS.2.2 dX6_part_15
  · refine lv_aload_n hx hb dX6_part_4 rfl (lv_at hl 0 rfl) ?_
    refine va_get (D := (dC, dI)) (ci := 5) (v := .long w0) (C := RX6) (T := TX6) (N := 2) hx hb hts hinX6 hown hK hP 0 rfl rfl 1 (by decide) (hts (.fieldLink RX6 13 "BondCalendars$Ratio" "lower" "J") (by decide +kernel)) (fun _ h9 => h9) rfl dX6_part_5 ?_
    refine lv_goto (tgt := 15) hx hb dX6_part_8 (by decide) ?_
    have hpost : w0 = f_X6_part u0 w0 p0 := by refine Eq.symm ?_; refine (if_neg c_1).trans ?_; rfl
    have hP9 := hP.sub (ws' := []) [] rfl
    have hD9 := hD.sub (ws' := []) [] (by decide) rfl
    have hK9 := hK.sub (tys' := []) [] rfl
    exact W.lret (v := w0) hx hb hr (fun t ht hW => ⟨⟨w0, (), rfl, hpost, by rw [ht]; exact hP9, va_K.moved hW.alike hK9, hD9⟩, hS.F ht⟩) hS.2.2 dX6_part_15
def f_X6_setCounted (u0 : Int64) (w0 : Int64) (p0 : Int32) (p1 : Int32) (p2 : Int32) : Int64 × Int64 :=
  if p0 = 2 then
    ((f_X6_set u0 w0 ((p2 - p1).toInt64) 360).1, (f_X6_set u0 w0 ((p2 - p1).toInt64) 360).2)
  else
    if p0 = 3 then
      ((f_X6_set u0 w0 ((p2 - p1).toInt64) 365).1, (f_X6_set u0 w0 ((p2 - p1).toInt64) 365).2)
    else
      let r_3 : Int32 := f_X3_numberOf p1
      let r_4 : Int32 := f_X3_numberOf p2
      let r_5 : Int32 := f_X6_thirtyDays p0 r_3 r_4
      ((f_X6_set u0 w0 (r_5.toInt64) 360).1, (f_X6_set u0 w0 (r_5.toInt64) 360).2)
set_option maxHeartbeats 4000000 in
set_option maxRecDepth 100000 in
theorem k_X6_setCounted (l : Launch) (dC : Nat → ClassId) (dI : Nat → Nat → Nat) (sz : Nat) (h0 : Nat) (u0 : Int64) (w0 : Int64) (p0 : Int32) (p1 : Int32) (p2 : Int32) : Met l yX6_setCounted wsX6_setCounted ({ frames := 2, cells := 0, slots := 0, locals := 56 }) (va_Pc [.ref h0, .int p0, .int p1, .int p2] (fun U => U.heap.size = sz ∧ va_P (dC, dI) vwCl [(h0, .inr (5, [.long u0, .long w0]))] U.heap ∧ va_K (dC, dI) vwCl [] U ∧ va_D (fun _ => True) [(h0, .inr (5, [.long u0, .long w0]))])) (va_Qv (fun (_ : Unit) => True) (fun _ t => va_P (dC, dI) vwCl [(h0, .inr (5, [.long ((f_X6_setCounted u0 w0 p0 p1 p2).1), .long ((f_X6_setCounted u0 w0 p0 p1 p2).2)]))] t.heap ∧ va_K (dC, dI) vwCl [] t ∧ va_D (va_A [(h0, .inr (5, [.long u0, .long w0]))] sz) [(h0, .inr (5, [.long ((f_X6_setCounted u0 w0 p0 p1 p2).1), .long ((f_X6_setCounted u0 w0 p0 p1 p2).2)]))]) (va_A [(h0, .inr (5, [.long u0, .long w0]))] sz)) 0 0 (va_A [(h0, .inr (5, [.long u0, .long w0]))] sz) := by
  refine Met.ofW (cc := cX6_setCounted) (maxL := 4) (ret := none) (by decide) rfl ?_
  intro p e s m args below meth c s₁ B hml hv
  obtain ⟨rfl, hsz, hP, hK, hD0⟩ := hv
  have hx := B.exec
  have hb := B.bytes
  have hr := B.returns
  have hts := atoms_spec (ws := wsX6_setCounted) B.pre
  have hown : s.vm.findClass RX6 = some m.cls := findClass_of_methodNamed B.named
  have hlocks := B.notSynchronized
  subst hsz
  have hD := hD0.self (sz := s.heap.size)
  generalize hAe : va_A [(h0, .inr (5, [.long u0, .long w0]))] s.heap.size = A at hD ⊢
  have hA : ∀ q : Nat, s.heap.size ≤ q → A q := fun q h => by rw [← hAe]; exact Or.inr h
  have hS : va_S A s.heap s.heap [] := va_S.rf
  have hP : va_P (dC, dI) vwCl [(h0, .inr (5, [.long u0, .long w0]))] s.heap := hP
  have hl := lv_entry ([.ref h0, .int p0, .int p1, .int p2]) (n := 4) (Nat.le_of_ble_eq_true rfl)
  rw [lg_entry_eq]
  generalize (lg_sl ([.ref h0, .int p0, .int p1, .int p2]) ++ List.replicate (4 - (lg_sl ([.ref h0, .int p0, .int p1, .int p2])).length) Slot.unset).toArray = ls at hl ⊢
  have hl : lv_has ls 4 [(0, .ref h0), (1, .int p0), (2, .int p1), (3, .int p2)] := hl
  refine lv_iload_n hx hb dX6_setCounted_0 rfl (lv_at hl 1 rfl) ?_
  refine lv_iconst (v := 2) hx hb dX6_setCounted_1 (by decide) ?_
  refine lv_icmp_ne (tgt := 19) hx hb dX6_setCounted_2 (by decide) (fun c_1 => ?_) (fun c_1 => ?_)
  · refine lv_iload_n hx hb dX6_setCounted_19 rfl (lv_at hl 1 rfl) ?_
    refine lv_iconst (v := 3) hx hb dX6_setCounted_20 (by decide) ?_
    refine lv_icmp_ne (tgt := 38) hx hb dX6_setCounted_21 (by decide) (fun c_2 => ?_) (fun c_2 => ?_)
    · refine lv_aload_n hx hb dX6_setCounted_38 rfl (lv_at hl 0 rfl) ?_
      refine lv_iload_n hx hb dX6_setCounted_39 rfl (lv_at hl 1 rfl) ?_
      refine lv_iload_n hx hb dX6_setCounted_40 rfl (lv_at hl 2 rfl) ?_
      have hPc := hP.sub (ws' := []) [] rfl
      have hDc := hD.sub (ws' := []) [] (by decide) rfl
      have hKc := hK.sub (tys' := []) [] rfl
      have hFc := va_free (wc := []) hD hS hA [] rfl
      refine va_calli (va_runS (As := [.int p1]) (rest := [.int p0, .ref h0]) ⟨hx, hb, hml, hown, hts⟩ (k_X3_numberOf l dC dI s.heap.size p1) (va_cwS 1 hts gX6_setCounted_X3_numberOf rfl rfl rfl (by decide +kernel) ⟨Nat.le_of_ble_eq_true rfl, Nat.le_of_ble_eq_true rfl⟩) ⟨fun a U g mk q => by obtain ⟨q0, q1, qP, qK, qD⟩ := q; exact ⟨q0, q1, qP, va_K.moved (u := U) (U := U.calling g mk a) (Vm.Alike.refl U.vm) qK, qD⟩, fun U hU hW => ⟨rfl, by rw [hU], by rw [hU]; exact hPc, va_K.moved hW.alike hKc, hDc.weaken (fun _ _ _ _ => trivial)⟩⟩ rfl rfl hl.1 rfl (lv_room (Nat.le_of_ble_eq_true rfl)) dX6_setCounted_41 ⟨Nat.le_of_ble_eq_true rfl, Nat.le_of_ble_eq_true rfl⟩) hS (fun q _ h => hFc q h) hFc (fun r_3 u t H1 locs ht hvm hw hB hz1 hk1 hS => ?_)
      obtain ⟨hP1, hK1, hD1⟩ := hB
      rw [ht] at hP1
      have hK1 := va_K.moved hvm.symm hK1
      obtain ⟨hP, hD⟩ := va_join (wr := [(h0, .inr (5, [.long u0, .long w0]))]) (w1 := []) hP hD [] [0] rfl rfl (by decide) (by decide) hk1 hFc hP1 hD1
      generalize H1 = H at hP hS ⊢
      have hP : va_P (dC, dI) vwCl [(h0, .inr (5, [.long u0, .long w0]))] H := hP
      have hD : va_D A [(h0, .inr (5, [.long u0, .long w0]))] := hD
      have er_3 : r_3 = f_X3_numberOf p1 := hw
      refine lv_iload_n hx hb dX6_setCounted_44 rfl (lv_at hl 3 rfl) ?_
      have hPc := hP.sub (ws' := []) [] rfl
      have hDc := hD.sub (ws' := []) [] (by decide) rfl
      have hKc := hK.sub (tys' := []) [] rfl
      have hFc := va_free (wc := []) hD hS hA [] rfl
      refine va_calli (va_runS (As := [.int p2]) (rest := [.int r_3, .int p0, .ref h0]) ⟨hx, hb, hml, hown, hts⟩ (k_X3_numberOf l dC dI H.size p2) (va_cwS 1 hts gX6_setCounted_X3_numberOf rfl rfl rfl (by decide +kernel) ⟨Nat.le_of_ble_eq_true rfl, Nat.le_of_ble_eq_true rfl⟩) ⟨fun a U g mk q => by obtain ⟨q0, q1, qP, qK, qD⟩ := q; exact ⟨q0, q1, qP, va_K.moved (u := U) (U := U.calling g mk a) (Vm.Alike.refl U.vm) qK, qD⟩, fun U hU hW => ⟨rfl, by rw [hU], by rw [hU]; exact hPc, va_K.moved hW.alike hKc, hDc.weaken (fun _ _ _ _ => trivial)⟩⟩ rfl rfl hl.1 rfl (lv_room (Nat.le_of_ble_eq_true rfl)) dX6_setCounted_45 ⟨Nat.le_of_ble_eq_true rfl, Nat.le_of_ble_eq_true rfl⟩) hS (fun q _ h => hFc q h) hFc (fun r_4 u t H1 locs ht hvm hw hB hz1 hk1 hS => ?_)
      obtain ⟨hP1, hK1, hD1⟩ := hB
      rw [ht] at hP1
      have hK1 := va_K.moved hvm.symm hK1
      obtain ⟨hP, hD⟩ := va_join (wr := [(h0, .inr (5, [.long u0, .long w0]))]) (w1 := []) hP hD [] [0] rfl rfl (by decide) (by decide) hk1 hFc hP1 hD1
      generalize H1 = H at hP hS ⊢
      have hP : va_P (dC, dI) vwCl [(h0, .inr (5, [.long u0, .long w0]))] H := hP
      have hD : va_D A [(h0, .inr (5, [.long u0, .long w0]))] := hD
      have er_4 : r_4 = f_X3_numberOf p2 := hw
      have hPc := hP.sub (ws' := []) [] rfl
      have hDc := hD.sub (ws' := []) [] (by decide) rfl
      have hKc := hK.sub (tys' := []) [] rfl
      have hFc := va_free (wc := []) hD hS hA [] rfl
      refine va_calli (va_runS (As := [.int p0, .int r_3, .int r_4]) (rest := [.ref h0]) ⟨hx, hb, hml, hown, hts⟩ (k_X6_thirtyDays l dC dI H.size p0 r_3 r_4) (va_cwS 3 hts gX6_setCounted_X6_thirtyDays rfl rfl rfl (by decide +kernel) ⟨Nat.le_of_ble_eq_true rfl, Nat.le_of_ble_eq_true rfl⟩) ⟨fun a U g mk q => by obtain ⟨q0, q1, qP, qK, qD⟩ := q; exact ⟨q0, q1, qP, va_K.moved (u := U) (U := U.calling g mk a) (Vm.Alike.refl U.vm) qK, qD⟩, fun U hU hW => ⟨rfl, by rw [hU], by rw [hU]; exact hPc, va_K.moved hW.alike hKc, hDc.weaken (fun _ _ _ _ => trivial)⟩⟩ rfl rfl hl.1 rfl (lv_room (Nat.le_of_ble_eq_true rfl)) dX6_setCounted_48 ⟨Nat.le_of_ble_eq_true rfl, Nat.le_of_ble_eq_true rfl⟩) hS (fun q _ h => hFc q h) hFc (fun r_5 u t H1 locs ht hvm hw hB hz1 hk1 hS => ?_)
      obtain ⟨hP1, hK1, hD1⟩ := hB
      rw [ht] at hP1
      have hK1 := va_K.moved hvm.symm hK1
      obtain ⟨hP, hD⟩ := va_join (wr := [(h0, .inr (5, [.long u0, .long w0]))]) (w1 := []) hP hD [] [0] rfl rfl (by decide) (by decide) hk1 hFc hP1 hD1
      generalize H1 = H at hP hS ⊢
      have hP : va_P (dC, dI) vwCl [(h0, .inr (5, [.long u0, .long w0]))] H := hP
      have hD : va_D A [(h0, .inr (5, [.long u0, .long w0]))] := hD
      have er_5 : r_5 = f_X6_thirtyDays p0 r_3 r_4 := hw
      refine lv_i2l hx hb dX6_setCounted_51 rfl ?_
      refine lv_ldc2 (v := 360) hx hb hown (hts (.constantLong RX6 26 (360)) (by decide +kernel)) dX6_setCounted_52 ?_
      have hPc := hP.sub (ws' := [(h0, .inr (5, [.long u0, .long w0]))]) [0] rfl
      have hDc := hD.sub (ws' := [(h0, .inr (5, [.long u0, .long w0]))]) [0] (by decide) rfl
      have hKc := hK.sub (tys' := []) [] rfl
      have hFc := va_free (wc := [(h0, .inr (5, [.long u0, .long w0]))]) hD hS hA [0] rfl
      refine va_callv (va_runV (As := [.long (r_5.toInt64), .long 360]) (rest := []) ⟨hx, hb, hml, hown, hts⟩ (k_X6_set l dC dI H.size h0 u0 w0 (r_5.toInt64) 360) (cwV 2 hts gX6_setCounted_X6_set rfl rfl rfl (by decide +kernel) ⟨Nat.le_of_ble_eq_true rfl, Nat.le_of_ble_eq_true rfl⟩) ⟨fun a U g mk q => by obtain ⟨q0, q1, qP, qK, qD⟩ := q; exact ⟨q0, q1, qP, va_K.moved (u := U) (U := U.calling g mk a) (Vm.Alike.refl U.vm) qK, qD⟩, va_recv hKc hPc (ci := 5) (q0 := 0) rfl rfl, fun U hU hW => ⟨rfl, by rw [hU], by rw [hU]; exact hPc, va_K.moved hW.alike hKc, hDc.weaken (fun _ _ _ _ => trivial)⟩⟩ rfl rfl hl.1 rfl (lv_room (Nat.le_of_ble_eq_true rfl)) dX6_setCounted_55 ⟨Nat.le_of_ble_eq_true rfl, Nat.le_of_ble_eq_true rfl⟩) hS (fun q _ h => hFc q h) hFc (fun u t H1 locs ht hvm hw hB hz1 hk1 hS => ?_)
      obtain ⟨hP1, hK1, hD1⟩ := hB
      rw [ht] at hP1
      have hK1 := va_K.moved hvm.symm hK1
      obtain ⟨hP, hD⟩ := va_join (wr := []) (w1 := [(h0, .inr (5, [.long ((f_X6_set u0 w0 (r_5.toInt64) 360).1), .long ((f_X6_set u0 w0 (r_5.toInt64) 360).2)]))]) hP hD [0] [] rfl rfl (by decide) (by decide) hk1 hFc hP1 hD1
      generalize H1 = H at hP hS ⊢
      have hP : va_P (dC, dI) vwCl [(h0, .inr (5, [.long ((f_X6_set u0 w0 (r_5.toInt64) 360).1), .long ((f_X6_set u0 w0 (r_5.toInt64) 360).2)]))] H := hP
      have hD : va_D A [(h0, .inr (5, [.long ((f_X6_set u0 w0 (r_5.toInt64) 360).1), .long ((f_X6_set u0 w0 (r_5.toInt64) 360).2)]))] := hD
      have hout : ((f_X6_set u0 w0 (r_5.toInt64) 360).1, (f_X6_set u0 w0 (r_5.toInt64) 360).2) = f_X6_setCounted u0 w0 p0 p1 p2 := by subst er_3 er_4 er_5; refine Eq.symm ?_; refine (if_neg c_1).trans ?_; refine (if_neg c_2).trans ?_; rfl
      have hP9 : va_P (dC, dI) vwCl [(h0, .inr (5, [.long ((f_X6_setCounted u0 w0 p0 p1 p2).1), .long ((f_X6_setCounted u0 w0 p0 p1 p2).2)]))] H := by rw [← hout]; exact hP.sub (ws' := [(h0, .inr (5, [.long ((f_X6_set u0 w0 (r_5.toInt64) 360).1), .long ((f_X6_set u0 w0 (r_5.toInt64) 360).2)]))]) [0] rfl
      have hD9 : va_D A [(h0, .inr (5, [.long ((f_X6_setCounted u0 w0 p0 p1 p2).1), .long ((f_X6_setCounted u0 w0 p0 p1 p2).2)]))] := by rw [← hout]; exact hD.sub (ws' := [(h0, .inr (5, [.long ((f_X6_set u0 w0 (r_5.toInt64) 360).1), .long ((f_X6_set u0 w0 (r_5.toInt64) 360).2)]))]) [0] (by decide) rfl
      have hK9 := hK.sub (tys' := []) [] rfl
      exact W.vret hx hb hr (fun t ht hW => ⟨⟨(), rfl, trivial, by rw [ht]; exact hP9, va_K.moved hW.alike hK9, hD9⟩, hS.F ht⟩) hS.2.2 dX6_setCounted_58
    · refine lv_aload_n hx hb dX6_setCounted_24 rfl (lv_at hl 0 rfl) ?_
      refine lv_iload_n hx hb dX6_setCounted_25 rfl (lv_at hl 3 rfl) ?_
      refine lv_iload_n hx hb dX6_setCounted_26 rfl (lv_at hl 2 rfl) ?_
      refine lv_isub hx hb dX6_setCounted_27 ?_
      refine lv_i2l hx hb dX6_setCounted_28 rfl ?_
      refine lv_ldc2 (v := 365) hx hb hown (hts (.constantLong RX6 28 (365)) (by decide +kernel)) dX6_setCounted_29 ?_
      have hPc := hP.sub (ws' := [(h0, .inr (5, [.long u0, .long w0]))]) [0] rfl
      have hDc := hD.sub (ws' := [(h0, .inr (5, [.long u0, .long w0]))]) [0] (by decide) rfl
      have hKc := hK.sub (tys' := []) [] rfl
      have hFc := va_free (wc := [(h0, .inr (5, [.long u0, .long w0]))]) hD hS hA [0] rfl
      refine va_callv (va_runV (As := [.long ((p2 - p1).toInt64), .long 365]) (rest := []) ⟨hx, hb, hml, hown, hts⟩ (k_X6_set l dC dI s.heap.size h0 u0 w0 ((p2 - p1).toInt64) 365) (cwV 2 hts gX6_setCounted_X6_set rfl rfl rfl (by decide +kernel) ⟨Nat.le_of_ble_eq_true rfl, Nat.le_of_ble_eq_true rfl⟩) ⟨fun a U g mk q => by obtain ⟨q0, q1, qP, qK, qD⟩ := q; exact ⟨q0, q1, qP, va_K.moved (u := U) (U := U.calling g mk a) (Vm.Alike.refl U.vm) qK, qD⟩, va_recv hKc hPc (ci := 5) (q0 := 0) rfl rfl, fun U hU hW => ⟨rfl, by rw [hU], by rw [hU]; exact hPc, va_K.moved hW.alike hKc, hDc.weaken (fun _ _ _ _ => trivial)⟩⟩ rfl rfl hl.1 rfl (lv_room (Nat.le_of_ble_eq_true rfl)) dX6_setCounted_32 ⟨Nat.le_of_ble_eq_true rfl, Nat.le_of_ble_eq_true rfl⟩) hS (fun q _ h => hFc q h) hFc (fun u t H1 locs ht hvm hw hB hz1 hk1 hS => ?_)
      obtain ⟨hP1, hK1, hD1⟩ := hB
      rw [ht] at hP1
      have hK1 := va_K.moved hvm.symm hK1
      obtain ⟨hP, hD⟩ := va_join (wr := []) (w1 := [(h0, .inr (5, [.long ((f_X6_set u0 w0 ((p2 - p1).toInt64) 365).1), .long ((f_X6_set u0 w0 ((p2 - p1).toInt64) 365).2)]))]) hP hD [0] [] rfl rfl (by decide) (by decide) hk1 hFc hP1 hD1
      generalize H1 = H at hP hS ⊢
      have hP : va_P (dC, dI) vwCl [(h0, .inr (5, [.long ((f_X6_set u0 w0 ((p2 - p1).toInt64) 365).1), .long ((f_X6_set u0 w0 ((p2 - p1).toInt64) 365).2)]))] H := hP
      have hD : va_D A [(h0, .inr (5, [.long ((f_X6_set u0 w0 ((p2 - p1).toInt64) 365).1), .long ((f_X6_set u0 w0 ((p2 - p1).toInt64) 365).2)]))] := hD
      refine lv_goto (tgt := 58) hx hb dX6_setCounted_35 (by decide) ?_
      have hout : ((f_X6_set u0 w0 ((p2 - p1).toInt64) 365).1, (f_X6_set u0 w0 ((p2 - p1).toInt64) 365).2) = f_X6_setCounted u0 w0 p0 p1 p2 := by refine Eq.symm ?_; refine (if_neg c_1).trans ?_; refine (if_pos c_2).trans ?_; rfl
      have hP9 : va_P (dC, dI) vwCl [(h0, .inr (5, [.long ((f_X6_setCounted u0 w0 p0 p1 p2).1), .long ((f_X6_setCounted u0 w0 p0 p1 p2).2)]))] H := by rw [← hout]; exact hP.sub (ws' := [(h0, .inr (5, [.long ((f_X6_set u0 w0 ((p2 - p1).toInt64) 365).1), .long ((f_X6_set u0 w0 ((p2 - p1).toInt64) 365).2)]))]) [0] rfl
      have hD9 : va_D A [(h0, .inr (5, [.long ((f_X6_setCounted u0 w0 p0 p1 p2).1), .long ((f_X6_setCounted u0 w0 p0 p1 p2).2)]))] := by rw [← hout]; exact hD.sub (ws' := [(h0, .inr (5, [.long ((f_X6_set u0 w0 ((p2 - p1).toInt64) 365).1), .long ((f_X6_set u0 w0 ((p2 - p1).toInt64) 365).2)]))]) [0] (by decide) rfl
      have hK9 := hK.sub (tys' := []) [] rfl
      exact W.vret hx hb hr (fun t ht hW => ⟨⟨(), rfl, trivial, by rw [ht]; exact hP9, va_K.moved hW.alike hK9, hD9⟩, hS.F ht⟩) hS.2.2 dX6_setCounted_58
  · refine lv_aload_n hx hb dX6_setCounted_5 rfl (lv_at hl 0 rfl) ?_
    refine lv_iload_n hx hb dX6_setCounted_6 rfl (lv_at hl 3 rfl) ?_
    refine lv_iload_n hx hb dX6_setCounted_7 rfl (lv_at hl 2 rfl) ?_
    refine lv_isub hx hb dX6_setCounted_8 ?_
    refine lv_i2l hx hb dX6_setCounted_9 rfl ?_
    refine lv_ldc2 (v := 360) hx hb hown (hts (.constantLong RX6 26 (360)) (by decide +kernel)) dX6_setCounted_10 ?_
    have hPc := hP.sub (ws' := [(h0, .inr (5, [.long u0, .long w0]))]) [0] rfl
    have hDc := hD.sub (ws' := [(h0, .inr (5, [.long u0, .long w0]))]) [0] (by decide) rfl
    have hKc := hK.sub (tys' := []) [] rfl
    have hFc := va_free (wc := [(h0, .inr (5, [.long u0, .long w0]))]) hD hS hA [0] rfl
    refine va_callv (va_runV (As := [.long ((p2 - p1).toInt64), .long 360]) (rest := []) ⟨hx, hb, hml, hown, hts⟩ (k_X6_set l dC dI s.heap.size h0 u0 w0 ((p2 - p1).toInt64) 360) (cwV 2 hts gX6_setCounted_X6_set rfl rfl rfl (by decide +kernel) ⟨Nat.le_of_ble_eq_true rfl, Nat.le_of_ble_eq_true rfl⟩) ⟨fun a U g mk q => by obtain ⟨q0, q1, qP, qK, qD⟩ := q; exact ⟨q0, q1, qP, va_K.moved (u := U) (U := U.calling g mk a) (Vm.Alike.refl U.vm) qK, qD⟩, va_recv hKc hPc (ci := 5) (q0 := 0) rfl rfl, fun U hU hW => ⟨rfl, by rw [hU], by rw [hU]; exact hPc, va_K.moved hW.alike hKc, hDc.weaken (fun _ _ _ _ => trivial)⟩⟩ rfl rfl hl.1 rfl (lv_room (Nat.le_of_ble_eq_true rfl)) dX6_setCounted_13 ⟨Nat.le_of_ble_eq_true rfl, Nat.le_of_ble_eq_true rfl⟩) hS (fun q _ h => hFc q h) hFc (fun u t H1 locs ht hvm hw hB hz1 hk1 hS => ?_)
    obtain ⟨hP1, hK1, hD1⟩ := hB
    rw [ht] at hP1
    have hK1 := va_K.moved hvm.symm hK1
    obtain ⟨hP, hD⟩ := va_join (wr := []) (w1 := [(h0, .inr (5, [.long ((f_X6_set u0 w0 ((p2 - p1).toInt64) 360).1), .long ((f_X6_set u0 w0 ((p2 - p1).toInt64) 360).2)]))]) hP hD [0] [] rfl rfl (by decide) (by decide) hk1 hFc hP1 hD1
    generalize H1 = H at hP hS ⊢
    have hP : va_P (dC, dI) vwCl [(h0, .inr (5, [.long ((f_X6_set u0 w0 ((p2 - p1).toInt64) 360).1), .long ((f_X6_set u0 w0 ((p2 - p1).toInt64) 360).2)]))] H := hP
    have hD : va_D A [(h0, .inr (5, [.long ((f_X6_set u0 w0 ((p2 - p1).toInt64) 360).1), .long ((f_X6_set u0 w0 ((p2 - p1).toInt64) 360).2)]))] := hD
    refine lv_goto (tgt := 58) hx hb dX6_setCounted_16 (by decide) ?_
    have hout : ((f_X6_set u0 w0 ((p2 - p1).toInt64) 360).1, (f_X6_set u0 w0 ((p2 - p1).toInt64) 360).2) = f_X6_setCounted u0 w0 p0 p1 p2 := by refine Eq.symm ?_; refine (if_pos c_1).trans ?_; rfl
    have hP9 : va_P (dC, dI) vwCl [(h0, .inr (5, [.long ((f_X6_setCounted u0 w0 p0 p1 p2).1), .long ((f_X6_setCounted u0 w0 p0 p1 p2).2)]))] H := by rw [← hout]; exact hP.sub (ws' := [(h0, .inr (5, [.long ((f_X6_set u0 w0 ((p2 - p1).toInt64) 360).1), .long ((f_X6_set u0 w0 ((p2 - p1).toInt64) 360).2)]))]) [0] rfl
    have hD9 : va_D A [(h0, .inr (5, [.long ((f_X6_setCounted u0 w0 p0 p1 p2).1), .long ((f_X6_setCounted u0 w0 p0 p1 p2).2)]))] := by rw [← hout]; exact hD.sub (ws' := [(h0, .inr (5, [.long ((f_X6_set u0 w0 ((p2 - p1).toInt64) 360).1), .long ((f_X6_set u0 w0 ((p2 - p1).toInt64) 360).2)]))]) [0] (by decide) rfl
    have hK9 := hK.sub (tys' := []) [] rfl
    exact W.vret hx hb hr (fun t ht hW => ⟨⟨(), rfl, trivial, by rw [ht]; exact hP9, va_K.moved hW.alike hK9, hD9⟩, hS.F ht⟩) hS.2.2 dX6_setCounted_58
def f_X11_counted (u0 : Int64) (w0 : Int64) (p0 : Int32) (p1 : Int32) (p2 : Int32) (p3 : Int32) : Int64 :=
  if p0 < 0 then
    (-1)
  else
    if p0 ≤ 3 then
      let r_4 : Int32 := f_X3_isDate p1
      if r_4 = 0 then
        (-1)
      else
        let r_7 : Int32 := f_X3_isDate p2
        if r_7 = 0 then
          (-1)
        else
          if p1 ≤ p2 then
            let r_11 : Int32 := f_X3_dayOf p1
            let r_12 : Int32 := f_X3_dayOf p2
            let r_14 : Int64 := f_X6_part ((f_X6_setCounted u0 w0 p0 r_11 r_12).1) ((f_X6_setCounted u0 w0 p0 r_11 r_12).2) p3
            r_14
          else
            (-1)
    else
      (-1)
set_option maxHeartbeats 4000000 in
set_option maxRecDepth 100000 in
theorem k_X11_counted (l : Launch) (dC : Nat → ClassId) (dI : Nat → Nat → Nat) (sz : Nat) (h0 : Nat) (fs_h0 : List Value) (ra : Nat) (u0 : Int64) (w0 : Int64) (p0 : Int32) (p1 : Int32) (p2 : Int32) (p3 : Int32) (hn_h0 : fs_h0.length = 15) (hf_h0_3 : fs_h0[3]? = some (.ref ra)) : Met l yX11_counted wsX11_counted ({ frames := 3, cells := 0, slots := 0, locals := 79 }) (va_Pc [.ref h0, .int p0, .int p1, .int p2, .int p3] (fun U => U.heap.size = sz ∧ va_P (dC, dI) vwCl [(h0, .inr (10, fs_h0)), (ra, .inr (5, [.long u0, .long w0]))] U.heap ∧ va_K (dC, dI) vwCl [] U ∧ va_D (fun _ => True) [(h0, .inr (10, fs_h0)), (ra, .inr (5, [.long u0, .long w0]))])) (va_Ql (fun (r : Int64) (_ : Unit) => r = f_X11_counted u0 w0 p0 p1 p2 p3) (fun _ t => va_P (dC, dI) vwCl [] t.heap ∧ va_K (dC, dI) vwCl [] t ∧ va_D (va_A [(h0, .inr (10, fs_h0)), (ra, .inr (5, [.long u0, .long w0]))] sz) []) (va_A [(h0, .inr (10, fs_h0)), (ra, .inr (5, [.long u0, .long w0]))] sz)) 0 0 (va_A [(h0, .inr (10, fs_h0)), (ra, .inr (5, [.long u0, .long w0]))] sz) := by
  refine Met.ofW (cc := cX11_counted) (maxL := 5) (ret := (some .long)) (by decide) rfl ?_
  intro p e s m args below meth c s₁ B hml hv
  obtain ⟨rfl, hsz, hP, hK, hD0⟩ := hv
  have hx := B.exec
  have hb := B.bytes
  have hr := B.returns
  have hts := atoms_spec (ws := wsX11_counted) B.pre
  have hown : s.vm.findClass RX11 = some m.cls := findClass_of_methodNamed B.named
  have hlocks := B.notSynchronized
  have hinX11 : ∀ w ∈ u_ws RX11 TX11 15, w ∈ wsX11_counted := (fun _ h9 => List.mem_cons_of_mem _ (List.mem_append_left _ (List.mem_append_right _ h9)))
  subst hsz
  have hD := hD0.self (sz := s.heap.size)
  generalize hAe : va_A [(h0, .inr (10, fs_h0)), (ra, .inr (5, [.long u0, .long w0]))] s.heap.size = A at hD ⊢
  have hA : ∀ q : Nat, s.heap.size ≤ q → A q := fun q h => by rw [← hAe]; exact Or.inr h
  have hS : va_S A s.heap s.heap [] := va_S.rf
  have hP : va_P (dC, dI) vwCl [(h0, .inr (10, fs_h0)), (ra, .inr (5, [.long u0, .long w0]))] s.heap := hP
  have hl := lv_entry ([.ref h0, .int p0, .int p1, .int p2, .int p3]) (n := 5) (Nat.le_of_ble_eq_true rfl)
  rw [lg_entry_eq]
  generalize (lg_sl ([.ref h0, .int p0, .int p1, .int p2, .int p3]) ++ List.replicate (5 - (lg_sl ([.ref h0, .int p0, .int p1, .int p2, .int p3])).length) Slot.unset).toArray = ls at hl ⊢
  have hl : lv_has ls 5 [(0, .ref h0), (1, .int p0), (2, .int p1), (3, .int p2), (4, .int p3)] := hl
  refine lv_iload_n hx hb dX11_counted_0 rfl (lv_at hl 1 rfl) ?_
  refine lv_if_lt (tgt := 9) hx hb dX11_counted_1 (by decide) (fun c_1 => ?_) (fun c_1 => ?_)
  · refine lv_aload_n hx hb dX11_counted_9 rfl (lv_at hl 0 rfl) ?_
    refine lv_iconst (v := 1) hx hb dX11_counted_10 (by decide) ?_
    have hPc := hP.sub (ws' := [(h0, .inr (10, fs_h0))]) [0] rfl
    have hDc := hD.sub (ws' := [(h0, .inr (10, fs_h0))]) [0] (by decide) rfl
    have hKc := hK.sub (tys' := []) [] rfl
    have hFc := va_free (wc := [(h0, .inr (10, fs_h0))]) hD hS hA [0] rfl
    refine va_calli (va_runV (As := [.int 1]) (rest := []) ⟨hx, hb, hml, hown, hts⟩ (k_X11_refuse l dC dI s.heap.size h0 fs_h0 1 hn_h0) (cwV 1 hts gX11_counted_X11_refuse rfl rfl rfl (by decide +kernel) ⟨Nat.le_of_ble_eq_true rfl, Nat.le_of_ble_eq_true rfl⟩) ⟨fun a U g mk q => by obtain ⟨q0, q1, qP, qK, qD⟩ := q; exact ⟨q0, q1, qP, va_K.moved (u := U) (U := U.calling g mk a) (Vm.Alike.refl U.vm) qK, qD⟩, va_recv hKc hPc (ci := 10) (q0 := 0) rfl rfl, fun U hU hW => ⟨rfl, by rw [hU], by rw [hU]; exact hPc, va_K.moved hW.alike hKc, hDc.weaken (fun _ _ _ _ => trivial)⟩⟩ rfl rfl hl.1 rfl (lv_room (Nat.le_of_ble_eq_true rfl)) dX11_counted_11 ⟨Nat.le_of_ble_eq_true rfl, Nat.le_of_ble_eq_true rfl⟩) hS (fun q _ h => hFc q h) hFc (fun r_2 u t H1 locs ht hvm hw hB hz1 hk1 hS => ?_)
    obtain ⟨hP1, hK1, hD1⟩ := hB
    rw [ht] at hP1
    have hK1 := va_K.moved hvm.symm hK1
    obtain ⟨hP, hD⟩ := va_join (wr := [(ra, .inr (5, [.long u0, .long w0]))]) (w1 := []) hP hD [0] [1] rfl rfl (by decide) (by decide) hk1 hFc hP1 hD1
    generalize H1 = H at hP hS ⊢
    have hP : va_P (dC, dI) vwCl [(ra, .inr (5, [.long u0, .long w0]))] H := hP
    have hD : va_D A [(ra, .inr (5, [.long u0, .long w0]))] := hD
    have er_2 : r_2 = (-1) := hw
    subst er_2
    refine lv_i2l (v := (-1)) hx hb dX11_counted_14 (by decide) ?_
    have hpost : (-1) = f_X11_counted u0 w0 p0 p1 p2 p3 := by refine Eq.symm ?_; refine (if_pos c_1).trans ?_; rfl
    have hP9 := hP.sub (ws' := []) [] rfl
    have hD9 := hD.sub (ws' := []) [] (by decide) rfl
    have hK9 := hK.sub (tys' := []) [] rfl
    exact W.lret (v := (-1)) hx hb hr (fun t ht hW => ⟨⟨(-1), (), rfl, hpost, by rw [ht]; exact hP9, va_K.moved hW.alike hK9, hD9⟩, hS.F ht⟩) hS.2.2 dX11_counted_15
  · refine lv_iload_n hx hb dX11_counted_4 rfl (lv_at hl 1 rfl) ?_
    refine lv_iconst (v := 3) hx hb dX11_counted_5 (by decide) ?_
    refine lv_icmp_le (tgt := 16) hx hb dX11_counted_6 (by decide) (fun c_3 => ?_) (fun c_3 => ?_)
    · refine lv_iload_n hx hb dX11_counted_16 rfl (lv_at hl 2 rfl) ?_
      have hPc := hP.sub (ws' := []) [] rfl
      have hDc := hD.sub (ws' := []) [] (by decide) rfl
      have hKc := hK.sub (tys' := []) [] rfl
      have hFc := va_free (wc := []) hD hS hA [] rfl
      refine va_calli (va_runS (As := [.int p1]) (rest := []) ⟨hx, hb, hml, hown, hts⟩ (k_X3_isDate l dC dI s.heap.size p1) (va_cwS 1 hts gX11_counted_X3_isDate rfl rfl rfl (by decide +kernel) ⟨Nat.le_of_ble_eq_true rfl, Nat.le_of_ble_eq_true rfl⟩) ⟨fun a U g mk q => by obtain ⟨q0, q1, qP, qK, qD⟩ := q; exact ⟨q0, q1, qP, va_K.moved (u := U) (U := U.calling g mk a) (Vm.Alike.refl U.vm) qK, qD⟩, fun U hU hW => ⟨rfl, by rw [hU], by rw [hU]; exact hPc, va_K.moved hW.alike hKc, hDc.weaken (fun _ _ _ _ => trivial)⟩⟩ rfl rfl hl.1 rfl (lv_room (Nat.le_of_ble_eq_true rfl)) dX11_counted_17 ⟨Nat.le_of_ble_eq_true rfl, Nat.le_of_ble_eq_true rfl⟩) hS (fun q _ h => hFc q h) hFc (fun r_4 u t H1 locs ht hvm hw hB hz1 hk1 hS => ?_)
      obtain ⟨hP1, hK1, hD1⟩ := hB
      rw [ht] at hP1
      have hK1 := va_K.moved hvm.symm hK1
      obtain ⟨hP, hD⟩ := va_join (wr := [(h0, .inr (10, fs_h0)), (ra, .inr (5, [.long u0, .long w0]))]) (w1 := []) hP hD [] [0, 1] rfl rfl (by decide) (by decide) hk1 hFc hP1 hD1
      generalize H1 = H at hP hS ⊢
      have hP : va_P (dC, dI) vwCl [(h0, .inr (10, fs_h0)), (ra, .inr (5, [.long u0, .long w0]))] H := hP
      have hD : va_D A [(h0, .inr (10, fs_h0)), (ra, .inr (5, [.long u0, .long w0]))] := hD
      have er_4 : r_4 = f_X3_isDate p1 := hw
      refine lv_if_eq (tgt := 35) hx hb dX11_counted_20 (by decide) (fun c_5 => ?_) (fun c_5 => ?_)
      · refine lv_aload_n hx hb dX11_counted_35 rfl (lv_at hl 0 rfl) ?_
        refine lv_iconst (v := 2) hx hb dX11_counted_36 (by decide) ?_
        have hPc := hP.sub (ws' := [(h0, .inr (10, fs_h0))]) [0] rfl
        have hDc := hD.sub (ws' := [(h0, .inr (10, fs_h0))]) [0] (by decide) rfl
        have hKc := hK.sub (tys' := []) [] rfl
        have hFc := va_free (wc := [(h0, .inr (10, fs_h0))]) hD hS hA [0] rfl
        refine va_calli (va_runV (As := [.int 2]) (rest := []) ⟨hx, hb, hml, hown, hts⟩ (k_X11_refuse l dC dI H.size h0 fs_h0 2 hn_h0) (cwV 1 hts gX11_counted_X11_refuse rfl rfl rfl (by decide +kernel) ⟨Nat.le_of_ble_eq_true rfl, Nat.le_of_ble_eq_true rfl⟩) ⟨fun a U g mk q => by obtain ⟨q0, q1, qP, qK, qD⟩ := q; exact ⟨q0, q1, qP, va_K.moved (u := U) (U := U.calling g mk a) (Vm.Alike.refl U.vm) qK, qD⟩, va_recv hKc hPc (ci := 10) (q0 := 0) rfl rfl, fun U hU hW => ⟨rfl, by rw [hU], by rw [hU]; exact hPc, va_K.moved hW.alike hKc, hDc.weaken (fun _ _ _ _ => trivial)⟩⟩ rfl rfl hl.1 rfl (lv_room (Nat.le_of_ble_eq_true rfl)) dX11_counted_37 ⟨Nat.le_of_ble_eq_true rfl, Nat.le_of_ble_eq_true rfl⟩) hS (fun q _ h => hFc q h) hFc (fun r_6 u t H1 locs ht hvm hw hB hz1 hk1 hS => ?_)
        obtain ⟨hP1, hK1, hD1⟩ := hB
        rw [ht] at hP1
        have hK1 := va_K.moved hvm.symm hK1
        obtain ⟨hP, hD⟩ := va_join (wr := [(ra, .inr (5, [.long u0, .long w0]))]) (w1 := []) hP hD [0] [1] rfl rfl (by decide) (by decide) hk1 hFc hP1 hD1
        generalize H1 = H at hP hS ⊢
        have hP : va_P (dC, dI) vwCl [(ra, .inr (5, [.long u0, .long w0]))] H := hP
        have hD : va_D A [(ra, .inr (5, [.long u0, .long w0]))] := hD
        have er_6 : r_6 = (-1) := hw
        subst er_6
        refine lv_i2l (v := (-1)) hx hb dX11_counted_40 (by decide) ?_
        have hpost : (-1) = f_X11_counted u0 w0 p0 p1 p2 p3 := by subst er_4; refine Eq.symm ?_; refine (if_neg c_1).trans ?_; refine (if_pos c_3).trans ?_; refine (if_pos c_5).trans ?_; rfl
        have hP9 := hP.sub (ws' := []) [] rfl
        have hD9 := hD.sub (ws' := []) [] (by decide) rfl
        have hK9 := hK.sub (tys' := []) [] rfl
        exact W.lret (v := (-1)) hx hb hr (fun t ht hW => ⟨⟨(-1), (), rfl, hpost, by rw [ht]; exact hP9, va_K.moved hW.alike hK9, hD9⟩, hS.F ht⟩) hS.2.2 dX11_counted_41
      · refine lv_iload_n hx hb dX11_counted_23 rfl (lv_at hl 3 rfl) ?_
        have hPc := hP.sub (ws' := []) [] rfl
        have hDc := hD.sub (ws' := []) [] (by decide) rfl
        have hKc := hK.sub (tys' := []) [] rfl
        have hFc := va_free (wc := []) hD hS hA [] rfl
        refine va_calli (va_runS (As := [.int p2]) (rest := []) ⟨hx, hb, hml, hown, hts⟩ (k_X3_isDate l dC dI H.size p2) (va_cwS 1 hts gX11_counted_X3_isDate rfl rfl rfl (by decide +kernel) ⟨Nat.le_of_ble_eq_true rfl, Nat.le_of_ble_eq_true rfl⟩) ⟨fun a U g mk q => by obtain ⟨q0, q1, qP, qK, qD⟩ := q; exact ⟨q0, q1, qP, va_K.moved (u := U) (U := U.calling g mk a) (Vm.Alike.refl U.vm) qK, qD⟩, fun U hU hW => ⟨rfl, by rw [hU], by rw [hU]; exact hPc, va_K.moved hW.alike hKc, hDc.weaken (fun _ _ _ _ => trivial)⟩⟩ rfl rfl hl.1 rfl (lv_room (Nat.le_of_ble_eq_true rfl)) dX11_counted_24 ⟨Nat.le_of_ble_eq_true rfl, Nat.le_of_ble_eq_true rfl⟩) hS (fun q _ h => hFc q h) hFc (fun r_7 u t H1 locs ht hvm hw hB hz1 hk1 hS => ?_)
        obtain ⟨hP1, hK1, hD1⟩ := hB
        rw [ht] at hP1
        have hK1 := va_K.moved hvm.symm hK1
        obtain ⟨hP, hD⟩ := va_join (wr := [(h0, .inr (10, fs_h0)), (ra, .inr (5, [.long u0, .long w0]))]) (w1 := []) hP hD [] [0, 1] rfl rfl (by decide) (by decide) hk1 hFc hP1 hD1
        generalize H1 = H at hP hS ⊢
        have hP : va_P (dC, dI) vwCl [(h0, .inr (10, fs_h0)), (ra, .inr (5, [.long u0, .long w0]))] H := hP
        have hD : va_D A [(h0, .inr (10, fs_h0)), (ra, .inr (5, [.long u0, .long w0]))] := hD
        have er_7 : r_7 = f_X3_isDate p2 := hw
        refine lv_if_eq (tgt := 35) hx hb dX11_counted_27 (by decide) (fun c_8 => ?_) (fun c_8 => ?_)
        · refine lv_aload_n hx hb dX11_counted_35 rfl (lv_at hl 0 rfl) ?_
          refine lv_iconst (v := 2) hx hb dX11_counted_36 (by decide) ?_
          have hPc := hP.sub (ws' := [(h0, .inr (10, fs_h0))]) [0] rfl
          have hDc := hD.sub (ws' := [(h0, .inr (10, fs_h0))]) [0] (by decide) rfl
          have hKc := hK.sub (tys' := []) [] rfl
          have hFc := va_free (wc := [(h0, .inr (10, fs_h0))]) hD hS hA [0] rfl
          refine va_calli (va_runV (As := [.int 2]) (rest := []) ⟨hx, hb, hml, hown, hts⟩ (k_X11_refuse l dC dI H.size h0 fs_h0 2 hn_h0) (cwV 1 hts gX11_counted_X11_refuse rfl rfl rfl (by decide +kernel) ⟨Nat.le_of_ble_eq_true rfl, Nat.le_of_ble_eq_true rfl⟩) ⟨fun a U g mk q => by obtain ⟨q0, q1, qP, qK, qD⟩ := q; exact ⟨q0, q1, qP, va_K.moved (u := U) (U := U.calling g mk a) (Vm.Alike.refl U.vm) qK, qD⟩, va_recv hKc hPc (ci := 10) (q0 := 0) rfl rfl, fun U hU hW => ⟨rfl, by rw [hU], by rw [hU]; exact hPc, va_K.moved hW.alike hKc, hDc.weaken (fun _ _ _ _ => trivial)⟩⟩ rfl rfl hl.1 rfl (lv_room (Nat.le_of_ble_eq_true rfl)) dX11_counted_37 ⟨Nat.le_of_ble_eq_true rfl, Nat.le_of_ble_eq_true rfl⟩) hS (fun q _ h => hFc q h) hFc (fun r_9 u t H1 locs ht hvm hw hB hz1 hk1 hS => ?_)
          obtain ⟨hP1, hK1, hD1⟩ := hB
          rw [ht] at hP1
          have hK1 := va_K.moved hvm.symm hK1
          obtain ⟨hP, hD⟩ := va_join (wr := [(ra, .inr (5, [.long u0, .long w0]))]) (w1 := []) hP hD [0] [1] rfl rfl (by decide) (by decide) hk1 hFc hP1 hD1
          generalize H1 = H at hP hS ⊢
          have hP : va_P (dC, dI) vwCl [(ra, .inr (5, [.long u0, .long w0]))] H := hP
          have hD : va_D A [(ra, .inr (5, [.long u0, .long w0]))] := hD
          have er_9 : r_9 = (-1) := hw
          subst er_9
          refine lv_i2l (v := (-1)) hx hb dX11_counted_40 (by decide) ?_
          have hpost : (-1) = f_X11_counted u0 w0 p0 p1 p2 p3 := by subst er_4 er_7; refine Eq.symm ?_; refine (if_neg c_1).trans ?_; refine (if_pos c_3).trans ?_; refine (if_neg c_5).trans ?_; refine (if_pos c_8).trans ?_; rfl
          have hP9 := hP.sub (ws' := []) [] rfl
          have hD9 := hD.sub (ws' := []) [] (by decide) rfl
          have hK9 := hK.sub (tys' := []) [] rfl
          exact W.lret (v := (-1)) hx hb hr (fun t ht hW => ⟨⟨(-1), (), rfl, hpost, by rw [ht]; exact hP9, va_K.moved hW.alike hK9, hD9⟩, hS.F ht⟩) hS.2.2 dX11_counted_41
        · refine lv_iload_n hx hb dX11_counted_30 rfl (lv_at hl 3 rfl) ?_
          refine lv_iload_n hx hb dX11_counted_31 rfl (lv_at hl 2 rfl) ?_
          refine lv_icmp_ge (tgt := 42) hx hb dX11_counted_32 (by decide) (fun c_10 => ?_) (fun c_10 => ?_)
          · refine lv_aload_n hx hb dX11_counted_42 rfl (lv_at hl 0 rfl) ?_
            refine lv_iconst (v := 0) hx hb dX11_counted_43 (by decide) ?_
            refine va_put (D := (dC, dI)) (ci := 10) (v := .int 0) (C := RX11) (T := TX11) (N := 15) hx hb hts hinX11 tyX11 tyX11_ok nmX11 hown hK hP hD hS 0 rfl rfl 12 (by decide) (hts (.fieldLink RX11 74 "BondCalendars" "refusal" "I") (by decide +kernel)) (fun _ h9 => h9) rfl (ty := .int) (by decide +kernel) rfl rfl (by rw [hn_h0]; decide) dX11_counted_44 (fun H locs hP hD hS => ?_)
            have hP : va_P (dC, dI) vwCl [(h0, .inr (10, (fs_h0.set 12 (.int 0)))), (ra, .inr (5, [.long u0, .long w0]))] H := hP
            have hD : va_D A [(h0, .inr (10, (fs_h0.set 12 (.int 0)))), (ra, .inr (5, [.long u0, .long w0]))] := hD
            refine lv_aload_n hx hb dX11_counted_47 rfl (lv_at hl 0 rfl) ?_
            refine va_get (D := (dC, dI)) (ci := 10) (v := .ref ra) (C := RX11) (T := TX11) (N := 15) hx hb hts hinX11 hown hK hP 0 rfl rfl 3 (by decide) (hts (.fieldLink RX11 33 "BondCalendars" "ratio" "LBondCalendars$Ratio;") (by decide +kernel)) (fun _ h9 => h9) ((List.getElem?_set_ne (by decide)).trans hf_h0_3) dX11_counted_48 ?_
            refine lv_iload_n hx hb dX11_counted_51 rfl (lv_at hl 1 rfl) ?_
            refine lv_iload_n hx hb dX11_counted_52 rfl (lv_at hl 2 rfl) ?_
            have hPc := hP.sub (ws' := []) [] rfl
            have hDc := hD.sub (ws' := []) [] (by decide) rfl
            have hKc := hK.sub (tys' := []) [] rfl
            have hFc := va_free (wc := []) hD hS hA [] rfl
            refine va_calli (va_runS (As := [.int p1]) (rest := [.int p0, .ref ra]) ⟨hx, hb, hml, hown, hts⟩ (k_X3_dayOf l dC dI H.size p1) (va_cwS 1 hts gX11_counted_X3_dayOf rfl rfl rfl (by decide +kernel) ⟨Nat.le_of_ble_eq_true rfl, Nat.le_of_ble_eq_true rfl⟩) ⟨fun a U g mk q => by obtain ⟨q0, q1, qP, qK, qD⟩ := q; exact ⟨q0, q1, qP, va_K.moved (u := U) (U := U.calling g mk a) (Vm.Alike.refl U.vm) qK, qD⟩, fun U hU hW => ⟨rfl, by rw [hU], by rw [hU]; exact hPc, va_K.moved hW.alike hKc, hDc.weaken (fun _ _ _ _ => trivial)⟩⟩ rfl rfl hl.1 rfl (lv_room (Nat.le_of_ble_eq_true rfl)) dX11_counted_53 ⟨Nat.le_of_ble_eq_true rfl, Nat.le_of_ble_eq_true rfl⟩) hS (fun q _ h => hFc q h) hFc (fun r_11 u t H1 locs ht hvm hw hB hz1 hk1 hS => ?_)
            obtain ⟨hP1, hK1, hD1⟩ := hB
            rw [ht] at hP1
            have hK1 := va_K.moved hvm.symm hK1
            obtain ⟨hP, hD⟩ := va_join (wr := [(h0, .inr (10, (fs_h0.set 12 (.int 0)))), (ra, .inr (5, [.long u0, .long w0]))]) (w1 := []) hP hD [] [0, 1] rfl rfl (by decide) (by decide) hk1 hFc hP1 hD1
            generalize H1 = H at hP hS ⊢
            have hP : va_P (dC, dI) vwCl [(h0, .inr (10, (fs_h0.set 12 (.int 0)))), (ra, .inr (5, [.long u0, .long w0]))] H := hP
            have hD : va_D A [(h0, .inr (10, (fs_h0.set 12 (.int 0)))), (ra, .inr (5, [.long u0, .long w0]))] := hD
            have er_11 : r_11 = f_X3_dayOf p1 := hw
            refine lv_iload_n hx hb dX11_counted_56 rfl (lv_at hl 3 rfl) ?_
            have hPc := hP.sub (ws' := []) [] rfl
            have hDc := hD.sub (ws' := []) [] (by decide) rfl
            have hKc := hK.sub (tys' := []) [] rfl
            have hFc := va_free (wc := []) hD hS hA [] rfl
            refine va_calli (va_runS (As := [.int p2]) (rest := [.int r_11, .int p0, .ref ra]) ⟨hx, hb, hml, hown, hts⟩ (k_X3_dayOf l dC dI H.size p2) (va_cwS 1 hts gX11_counted_X3_dayOf rfl rfl rfl (by decide +kernel) ⟨Nat.le_of_ble_eq_true rfl, Nat.le_of_ble_eq_true rfl⟩) ⟨fun a U g mk q => by obtain ⟨q0, q1, qP, qK, qD⟩ := q; exact ⟨q0, q1, qP, va_K.moved (u := U) (U := U.calling g mk a) (Vm.Alike.refl U.vm) qK, qD⟩, fun U hU hW => ⟨rfl, by rw [hU], by rw [hU]; exact hPc, va_K.moved hW.alike hKc, hDc.weaken (fun _ _ _ _ => trivial)⟩⟩ rfl rfl hl.1 rfl (lv_room (Nat.le_of_ble_eq_true rfl)) dX11_counted_57 ⟨Nat.le_of_ble_eq_true rfl, Nat.le_of_ble_eq_true rfl⟩) hS (fun q _ h => hFc q h) hFc (fun r_12 u t H1 locs ht hvm hw hB hz1 hk1 hS => ?_)
            obtain ⟨hP1, hK1, hD1⟩ := hB
            rw [ht] at hP1
            have hK1 := va_K.moved hvm.symm hK1
            obtain ⟨hP, hD⟩ := va_join (wr := [(h0, .inr (10, (fs_h0.set 12 (.int 0)))), (ra, .inr (5, [.long u0, .long w0]))]) (w1 := []) hP hD [] [0, 1] rfl rfl (by decide) (by decide) hk1 hFc hP1 hD1
            generalize H1 = H at hP hS ⊢
            have hP : va_P (dC, dI) vwCl [(h0, .inr (10, (fs_h0.set 12 (.int 0)))), (ra, .inr (5, [.long u0, .long w0]))] H := hP
            have hD : va_D A [(h0, .inr (10, (fs_h0.set 12 (.int 0)))), (ra, .inr (5, [.long u0, .long w0]))] := hD
            have er_12 : r_12 = f_X3_dayOf p2 := hw
            have hPc := hP.sub (ws' := [(ra, .inr (5, [.long u0, .long w0]))]) [1] rfl
            have hDc := hD.sub (ws' := [(ra, .inr (5, [.long u0, .long w0]))]) [1] (by decide) rfl
            have hKc := hK.sub (tys' := []) [] rfl
            have hFc := va_free (wc := [(ra, .inr (5, [.long u0, .long w0]))]) hD hS hA [1] rfl
            refine va_callv (va_runV (As := [.int p0, .int r_11, .int r_12]) (rest := []) ⟨hx, hb, hml, hown, hts⟩ (k_X6_setCounted l dC dI H.size ra u0 w0 p0 r_11 r_12) (cwV 3 hts gX11_counted_X6_setCounted rfl rfl rfl (by decide +kernel) ⟨Nat.le_of_ble_eq_true rfl, Nat.le_of_ble_eq_true rfl⟩) ⟨fun a U g mk q => by obtain ⟨q0, q1, qP, qK, qD⟩ := q; exact ⟨q0, q1, qP, va_K.moved (u := U) (U := U.calling g mk a) (Vm.Alike.refl U.vm) qK, qD⟩, va_recv hKc hPc (ci := 5) (q0 := 0) rfl rfl, fun U hU hW => ⟨rfl, by rw [hU], by rw [hU]; exact hPc, va_K.moved hW.alike hKc, hDc.weaken (fun _ _ _ _ => trivial)⟩⟩ rfl rfl hl.1 rfl (lv_room (Nat.le_of_ble_eq_true rfl)) dX11_counted_60 ⟨Nat.le_of_ble_eq_true rfl, Nat.le_of_ble_eq_true rfl⟩) hS (fun q _ h => hFc q h) hFc (fun u t H1 locs ht hvm hw hB hz1 hk1 hS => ?_)
            obtain ⟨hP1, hK1, hD1⟩ := hB
            rw [ht] at hP1
            have hK1 := va_K.moved hvm.symm hK1
            obtain ⟨hP, hD⟩ := va_join (wr := [(h0, .inr (10, (fs_h0.set 12 (.int 0))))]) (w1 := [(ra, .inr (5, [.long ((f_X6_setCounted u0 w0 p0 r_11 r_12).1), .long ((f_X6_setCounted u0 w0 p0 r_11 r_12).2)]))]) hP hD [1] [0] rfl rfl (by decide) (by decide) hk1 hFc hP1 hD1
            generalize H1 = H at hP hS ⊢
            have hP : va_P (dC, dI) vwCl [(h0, .inr (10, (fs_h0.set 12 (.int 0)))), (ra, .inr (5, [.long ((f_X6_setCounted u0 w0 p0 r_11 r_12).1), .long ((f_X6_setCounted u0 w0 p0 r_11 r_12).2)]))] H := hP
            have hD : va_D A [(h0, .inr (10, (fs_h0.set 12 (.int 0)))), (ra, .inr (5, [.long ((f_X6_setCounted u0 w0 p0 r_11 r_12).1), .long ((f_X6_setCounted u0 w0 p0 r_11 r_12).2)]))] := hD
            refine lv_aload_n hx hb dX11_counted_63 rfl (lv_at hl 0 rfl) ?_
            refine va_get (D := (dC, dI)) (ci := 10) (v := .ref ra) (C := RX11) (T := TX11) (N := 15) hx hb hts hinX11 hown hK hP 0 rfl rfl 3 (by decide) (hts (.fieldLink RX11 33 "BondCalendars" "ratio" "LBondCalendars$Ratio;") (by decide +kernel)) (fun _ h9 => h9) ((List.getElem?_set_ne (by decide)).trans hf_h0_3) dX11_counted_64 ?_
            refine lv_iload hx hb dX11_counted_67 (lv_at hl 4 rfl) ?_
            have hPc := hP.sub (ws' := [(ra, .inr (5, [.long ((f_X6_setCounted u0 w0 p0 r_11 r_12).1), .long ((f_X6_setCounted u0 w0 p0 r_11 r_12).2)]))]) [1] rfl
            have hDc := hD.sub (ws' := [(ra, .inr (5, [.long ((f_X6_setCounted u0 w0 p0 r_11 r_12).1), .long ((f_X6_setCounted u0 w0 p0 r_11 r_12).2)]))]) [1] (by decide) rfl
            have hKc := hK.sub (tys' := []) [] rfl
            have hFc := va_free (wc := [(ra, .inr (5, [.long ((f_X6_setCounted u0 w0 p0 r_11 r_12).1), .long ((f_X6_setCounted u0 w0 p0 r_11 r_12).2)]))]) hD hS hA [1] rfl
            refine va_calll (va_runV (As := [.int p3]) (rest := []) ⟨hx, hb, hml, hown, hts⟩ (k_X6_part l dC dI H.size ra ((f_X6_setCounted u0 w0 p0 r_11 r_12).1) ((f_X6_setCounted u0 w0 p0 r_11 r_12).2) p3) (cwV 1 hts gX11_counted_X6_part rfl rfl rfl (by decide +kernel) ⟨Nat.le_of_ble_eq_true rfl, Nat.le_of_ble_eq_true rfl⟩) ⟨fun a U g mk q => by obtain ⟨q0, q1, qP, qK, qD⟩ := q; exact ⟨q0, q1, qP, va_K.moved (u := U) (U := U.calling g mk a) (Vm.Alike.refl U.vm) qK, qD⟩, va_recv hKc hPc (ci := 5) (q0 := 0) rfl rfl, fun U hU hW => ⟨rfl, by rw [hU], by rw [hU]; exact hPc, va_K.moved hW.alike hKc, hDc.weaken (fun _ _ _ _ => trivial)⟩⟩ rfl rfl hl.1 rfl (lv_room (Nat.le_of_ble_eq_true rfl)) dX11_counted_69 ⟨Nat.le_of_ble_eq_true rfl, Nat.le_of_ble_eq_true rfl⟩) hS (fun q _ h => hFc q h) hFc (fun r_14 u t H1 locs ht hvm hw hB hz1 hk1 hS => ?_)
            obtain ⟨hP1, hK1, hD1⟩ := hB
            rw [ht] at hP1
            have hK1 := va_K.moved hvm.symm hK1
            obtain ⟨hP, hD⟩ := va_join (wr := [(h0, .inr (10, (fs_h0.set 12 (.int 0))))]) (w1 := []) hP hD [1] [0] rfl rfl (by decide) (by decide) hk1 hFc hP1 hD1
            generalize H1 = H at hP hS ⊢
            have hP : va_P (dC, dI) vwCl [(h0, .inr (10, (fs_h0.set 12 (.int 0))))] H := hP
            have hD : va_D A [(h0, .inr (10, (fs_h0.set 12 (.int 0))))] := hD
            have er_14 : r_14 = f_X6_part ((f_X6_setCounted u0 w0 p0 r_11 r_12).1) ((f_X6_setCounted u0 w0 p0 r_11 r_12).2) p3 := hw
            have hpost : r_14 = f_X11_counted u0 w0 p0 p1 p2 p3 := by subst er_4 er_7 er_11 er_12 er_14; refine Eq.symm ?_; refine (if_neg c_1).trans ?_; refine (if_pos c_3).trans ?_; refine (if_neg c_5).trans ?_; refine (if_neg c_8).trans ?_; refine (if_pos c_10).trans ?_; rfl
            have hP9 := hP.sub (ws' := []) [] rfl
            have hD9 := hD.sub (ws' := []) [] (by decide) rfl
            have hK9 := hK.sub (tys' := []) [] rfl
            exact W.lret (v := r_14) hx hb hr (fun t ht hW => ⟨⟨r_14, (), rfl, hpost, by rw [ht]; exact hP9, va_K.moved hW.alike hK9, hD9⟩, hS.F ht⟩) hS.2.2 dX11_counted_72
          · refine lv_aload_n hx hb dX11_counted_35 rfl (lv_at hl 0 rfl) ?_
            refine lv_iconst (v := 2) hx hb dX11_counted_36 (by decide) ?_
            have hPc := hP.sub (ws' := [(h0, .inr (10, fs_h0))]) [0] rfl
            have hDc := hD.sub (ws' := [(h0, .inr (10, fs_h0))]) [0] (by decide) rfl
            have hKc := hK.sub (tys' := []) [] rfl
            have hFc := va_free (wc := [(h0, .inr (10, fs_h0))]) hD hS hA [0] rfl
            refine va_calli (va_runV (As := [.int 2]) (rest := []) ⟨hx, hb, hml, hown, hts⟩ (k_X11_refuse l dC dI H.size h0 fs_h0 2 hn_h0) (cwV 1 hts gX11_counted_X11_refuse rfl rfl rfl (by decide +kernel) ⟨Nat.le_of_ble_eq_true rfl, Nat.le_of_ble_eq_true rfl⟩) ⟨fun a U g mk q => by obtain ⟨q0, q1, qP, qK, qD⟩ := q; exact ⟨q0, q1, qP, va_K.moved (u := U) (U := U.calling g mk a) (Vm.Alike.refl U.vm) qK, qD⟩, va_recv hKc hPc (ci := 10) (q0 := 0) rfl rfl, fun U hU hW => ⟨rfl, by rw [hU], by rw [hU]; exact hPc, va_K.moved hW.alike hKc, hDc.weaken (fun _ _ _ _ => trivial)⟩⟩ rfl rfl hl.1 rfl (lv_room (Nat.le_of_ble_eq_true rfl)) dX11_counted_37 ⟨Nat.le_of_ble_eq_true rfl, Nat.le_of_ble_eq_true rfl⟩) hS (fun q _ h => hFc q h) hFc (fun r_15 u t H1 locs ht hvm hw hB hz1 hk1 hS => ?_)
            obtain ⟨hP1, hK1, hD1⟩ := hB
            rw [ht] at hP1
            have hK1 := va_K.moved hvm.symm hK1
            obtain ⟨hP, hD⟩ := va_join (wr := [(ra, .inr (5, [.long u0, .long w0]))]) (w1 := []) hP hD [0] [1] rfl rfl (by decide) (by decide) hk1 hFc hP1 hD1
            generalize H1 = H at hP hS ⊢
            have hP : va_P (dC, dI) vwCl [(ra, .inr (5, [.long u0, .long w0]))] H := hP
            have hD : va_D A [(ra, .inr (5, [.long u0, .long w0]))] := hD
            have er_15 : r_15 = (-1) := hw
            subst er_15
            refine lv_i2l (v := (-1)) hx hb dX11_counted_40 (by decide) ?_
            have hpost : (-1) = f_X11_counted u0 w0 p0 p1 p2 p3 := by subst er_4 er_7; refine Eq.symm ?_; refine (if_neg c_1).trans ?_; refine (if_pos c_3).trans ?_; refine (if_neg c_5).trans ?_; refine (if_neg c_8).trans ?_; refine (if_neg c_10).trans ?_; rfl
            have hP9 := hP.sub (ws' := []) [] rfl
            have hD9 := hD.sub (ws' := []) [] (by decide) rfl
            have hK9 := hK.sub (tys' := []) [] rfl
            exact W.lret (v := (-1)) hx hb hr (fun t ht hW => ⟨⟨(-1), (), rfl, hpost, by rw [ht]; exact hP9, va_K.moved hW.alike hK9, hD9⟩, hS.F ht⟩) hS.2.2 dX11_counted_41
    · refine lv_aload_n hx hb dX11_counted_9 rfl (lv_at hl 0 rfl) ?_
      refine lv_iconst (v := 1) hx hb dX11_counted_10 (by decide) ?_
      have hPc := hP.sub (ws' := [(h0, .inr (10, fs_h0))]) [0] rfl
      have hDc := hD.sub (ws' := [(h0, .inr (10, fs_h0))]) [0] (by decide) rfl
      have hKc := hK.sub (tys' := []) [] rfl
      have hFc := va_free (wc := [(h0, .inr (10, fs_h0))]) hD hS hA [0] rfl
      refine va_calli (va_runV (As := [.int 1]) (rest := []) ⟨hx, hb, hml, hown, hts⟩ (k_X11_refuse l dC dI s.heap.size h0 fs_h0 1 hn_h0) (cwV 1 hts gX11_counted_X11_refuse rfl rfl rfl (by decide +kernel) ⟨Nat.le_of_ble_eq_true rfl, Nat.le_of_ble_eq_true rfl⟩) ⟨fun a U g mk q => by obtain ⟨q0, q1, qP, qK, qD⟩ := q; exact ⟨q0, q1, qP, va_K.moved (u := U) (U := U.calling g mk a) (Vm.Alike.refl U.vm) qK, qD⟩, va_recv hKc hPc (ci := 10) (q0 := 0) rfl rfl, fun U hU hW => ⟨rfl, by rw [hU], by rw [hU]; exact hPc, va_K.moved hW.alike hKc, hDc.weaken (fun _ _ _ _ => trivial)⟩⟩ rfl rfl hl.1 rfl (lv_room (Nat.le_of_ble_eq_true rfl)) dX11_counted_11 ⟨Nat.le_of_ble_eq_true rfl, Nat.le_of_ble_eq_true rfl⟩) hS (fun q _ h => hFc q h) hFc (fun r_16 u t H1 locs ht hvm hw hB hz1 hk1 hS => ?_)
      obtain ⟨hP1, hK1, hD1⟩ := hB
      rw [ht] at hP1
      have hK1 := va_K.moved hvm.symm hK1
      obtain ⟨hP, hD⟩ := va_join (wr := [(ra, .inr (5, [.long u0, .long w0]))]) (w1 := []) hP hD [0] [1] rfl rfl (by decide) (by decide) hk1 hFc hP1 hD1
      generalize H1 = H at hP hS ⊢
      have hP : va_P (dC, dI) vwCl [(ra, .inr (5, [.long u0, .long w0]))] H := hP
      have hD : va_D A [(ra, .inr (5, [.long u0, .long w0]))] := hD
      have er_16 : r_16 = (-1) := hw
      subst er_16
      refine lv_i2l (v := (-1)) hx hb dX11_counted_14 (by decide) ?_
      have hpost : (-1) = f_X11_counted u0 w0 p0 p1 p2 p3 := by refine Eq.symm ?_; refine (if_neg c_1).trans ?_; refine (if_neg c_3).trans ?_; rfl
      have hP9 := hP.sub (ws' := []) [] rfl
      have hD9 := hD.sub (ws' := []) [] (by decide) rfl
      have hK9 := hK.sub (tys' := []) [] rfl
      exact W.lret (v := (-1)) hx hb hr (fun t ht hW => ⟨⟨(-1), (), rfl, hpost, by rw [ht]; exact hP9, va_K.moved hW.alike hK9, hD9⟩, hS.F ht⟩) hS.2.2 dX11_counted_15
def f_X12_part (vu : Int64) (vl : Int64) (p0 : Int32) : Int64 :=
  if p0 = 0 then
    let r_2 : Int64 := f_X12_goodLong vu
    r_2
  else
    let r_3 : Int64 := f_X12_goodLong vl
    r_3
set_option maxHeartbeats 4000000 in
set_option maxRecDepth 100000 in
theorem k_X12_part (l : Launch) (dC : Nat → ClassId) (dI : Nat → Nat → Nat) (sz : Nat) (h0 : Nat) (fs_h0 : List Value) (vu : Int64) (vl : Int64) (p0 : Int32) (hn_h0 : fs_h0.length = 69) (hf_h0_3 : fs_h0[3]? = some (.long vu)) (hf_h0_4 : fs_h0[4]? = some (.long vl)) : Met l yX12_part wsX12_part ({ frames := 2, cells := 0, slots := 0, locals := 43 }) (va_Pc [.ref h0, .int p0] (fun U => U.heap.size = sz ∧ va_P (dC, dI) vwCl [(h0, .inr (11, fs_h0))] U.heap ∧ va_K (dC, dI) vwCl [] U ∧ va_D (fun _ => True) [(h0, .inr (11, fs_h0))])) (va_Ql (fun (r : Int64) (_ : Unit) => r = f_X12_part vu vl p0) (fun _ t => va_P (dC, dI) vwCl [] t.heap ∧ va_K (dC, dI) vwCl [] t ∧ va_D (va_A [(h0, .inr (11, fs_h0))] sz) []) (va_A [(h0, .inr (11, fs_h0))] sz)) 0 0 (va_A [(h0, .inr (11, fs_h0))] sz) := by
  refine Met.ofW (cc := cX12_part) (maxL := 2) (ret := (some .long)) (by decide) rfl ?_
  intro p e s m args below meth c s₁ B hml hv
  obtain ⟨rfl, hsz, hP, hK, hD0⟩ := hv
  have hx := B.exec
  have hb := B.bytes
  have hr := B.returns
  have hts := atoms_spec (ws := wsX12_part) B.pre
  have hown : s.vm.findClass RX12 = some m.cls := findClass_of_methodNamed B.named
  have hlocks := B.notSynchronized
  have hinX12 : ∀ w ∈ u_ws RX12 TX12 69, w ∈ wsX12_part := (fun _ h9 => List.mem_cons_of_mem _ (List.mem_append_right _ h9))
  subst hsz
  have hD := hD0.self (sz := s.heap.size)
  generalize hAe : va_A [(h0, .inr (11, fs_h0))] s.heap.size = A at hD ⊢
  have hA : ∀ q : Nat, s.heap.size ≤ q → A q := fun q h => by rw [← hAe]; exact Or.inr h
  have hS : va_S A s.heap s.heap [] := va_S.rf
  have hP : va_P (dC, dI) vwCl [(h0, .inr (11, fs_h0))] s.heap := hP
  have hl := lv_entry ([.ref h0, .int p0]) (n := 2) (Nat.le_of_ble_eq_true rfl)
  rw [lg_entry_eq]
  generalize (lg_sl ([.ref h0, .int p0]) ++ List.replicate (2 - (lg_sl ([.ref h0, .int p0])).length) Slot.unset).toArray = ls at hl ⊢
  have hl : lv_has ls 2 [(0, .ref h0), (1, .int p0)] := hl
  refine lv_aload_n hx hb dX12_part_0 rfl (lv_at hl 0 rfl) ?_
  refine lv_iload_n hx hb dX12_part_1 rfl (lv_at hl 1 rfl) ?_
  refine lv_if_eq (tgt := 12) hx hb dX12_part_2 (by decide) (fun c_1 => ?_) (fun c_1 => ?_)
  · refine lv_aload_n hx hb dX12_part_12 rfl (lv_at hl 0 rfl) ?_
    refine va_get (D := (dC, dI)) (ci := 11) (v := .long vu) (C := RX12) (T := TX12) (N := 69) hx hb hts hinX12 hown hK hP 0 rfl rfl 3 (by decide) (hts (.fieldLink RX12 161 "BondCalendarsModel" "up" "J") (by decide +kernel)) (fun _ h9 => h9) hf_h0_3 dX12_part_13 ?_
    have hPc := hP.sub (ws' := [(h0, .inr (11, fs_h0))]) [0] rfl
    have hDc := hD.sub (ws' := [(h0, .inr (11, fs_h0))]) [0] (by decide) rfl
    have hKc := hK.sub (tys' := []) [] rfl
    have hFc := va_free (wc := [(h0, .inr (11, fs_h0))]) hD hS hA [0] rfl
    refine va_calll (va_runV (As := [.long vu]) (rest := []) ⟨hx, hb, hml, hown, hts⟩ (k_X12_goodLong l dC dI s.heap.size h0 fs_h0 vu hn_h0) (cwV 1 hts gX12_part_X12_goodLong rfl rfl rfl (by decide +kernel) ⟨Nat.le_of_ble_eq_true rfl, Nat.le_of_ble_eq_true rfl⟩) ⟨fun a U g mk q => by obtain ⟨q0, q1, qP, qK, qD⟩ := q; exact ⟨q0, q1, qP, va_K.moved (u := U) (U := U.calling g mk a) (Vm.Alike.refl U.vm) qK, qD⟩, va_recv hKc hPc (ci := 11) (q0 := 0) rfl rfl, fun U hU hW => ⟨rfl, by rw [hU], by rw [hU]; exact hPc, va_K.moved hW.alike hKc, hDc.weaken (fun _ _ _ _ => trivial)⟩⟩ rfl rfl hl.1 rfl (lv_room (Nat.le_of_ble_eq_true rfl)) dX12_part_16 ⟨Nat.le_of_ble_eq_true rfl, Nat.le_of_ble_eq_true rfl⟩) hS (fun q _ h => hFc q h) hFc (fun r_2 u t H1 locs ht hvm hw hB hz1 hk1 hS => ?_)
    obtain ⟨hP1, hK1, hD1⟩ := hB
    rw [ht] at hP1
    have hK1 := va_K.moved hvm.symm hK1
    obtain ⟨hP, hD⟩ := va_join (wr := []) (w1 := []) hP hD [0] [] rfl rfl (by decide) (by decide) hk1 hFc hP1 hD1
    generalize H1 = H at hP hS ⊢
    have hP : va_P (dC, dI) vwCl [] H := hP
    have hD : va_D A [] := hD
    have er_2 : r_2 = f_X12_goodLong vu := hw
    have hpost : r_2 = f_X12_part vu vl p0 := by subst er_2; refine Eq.symm ?_; refine (if_pos c_1).trans ?_; rfl
    have hP9 := hP.sub (ws' := []) [] rfl
    have hD9 := hD.sub (ws' := []) [] (by decide) rfl
    have hK9 := hK.sub (tys' := []) [] rfl
    exact W.lret (v := r_2) hx hb hr (fun t ht hW => ⟨⟨r_2, (), rfl, hpost, by rw [ht]; exact hP9, va_K.moved hW.alike hK9, hD9⟩, hS.F ht⟩) hS.2.2 dX12_part_19
  · refine lv_aload_n hx hb dX12_part_5 rfl (lv_at hl 0 rfl) ?_
    refine va_get (D := (dC, dI)) (ci := 11) (v := .long vl) (C := RX12) (T := TX12) (N := 69) hx hb hts hinX12 hown hK hP 0 rfl rfl 4 (by decide) (hts (.fieldLink RX12 165 "BondCalendarsModel" "lo" "J") (by decide +kernel)) (fun _ h9 => h9) hf_h0_4 dX12_part_6 ?_
    refine lv_goto (tgt := 16) hx hb dX12_part_9 (by decide) ?_
    have hPc := hP.sub (ws' := [(h0, .inr (11, fs_h0))]) [0] rfl
    have hDc := hD.sub (ws' := [(h0, .inr (11, fs_h0))]) [0] (by decide) rfl
    have hKc := hK.sub (tys' := []) [] rfl
    have hFc := va_free (wc := [(h0, .inr (11, fs_h0))]) hD hS hA [0] rfl
    refine va_calll (va_runV (As := [.long vl]) (rest := []) ⟨hx, hb, hml, hown, hts⟩ (k_X12_goodLong l dC dI s.heap.size h0 fs_h0 vl hn_h0) (cwV 1 hts gX12_part_X12_goodLong rfl rfl rfl (by decide +kernel) ⟨Nat.le_of_ble_eq_true rfl, Nat.le_of_ble_eq_true rfl⟩) ⟨fun a U g mk q => by obtain ⟨q0, q1, qP, qK, qD⟩ := q; exact ⟨q0, q1, qP, va_K.moved (u := U) (U := U.calling g mk a) (Vm.Alike.refl U.vm) qK, qD⟩, va_recv hKc hPc (ci := 11) (q0 := 0) rfl rfl, fun U hU hW => ⟨rfl, by rw [hU], by rw [hU]; exact hPc, va_K.moved hW.alike hKc, hDc.weaken (fun _ _ _ _ => trivial)⟩⟩ rfl rfl hl.1 rfl (lv_room (Nat.le_of_ble_eq_true rfl)) dX12_part_16 ⟨Nat.le_of_ble_eq_true rfl, Nat.le_of_ble_eq_true rfl⟩) hS (fun q _ h => hFc q h) hFc (fun r_3 u t H1 locs ht hvm hw hB hz1 hk1 hS => ?_)
    obtain ⟨hP1, hK1, hD1⟩ := hB
    rw [ht] at hP1
    have hK1 := va_K.moved hvm.symm hK1
    obtain ⟨hP, hD⟩ := va_join (wr := []) (w1 := []) hP hD [0] [] rfl rfl (by decide) (by decide) hk1 hFc hP1 hD1
    generalize H1 = H at hP hS ⊢
    have hP : va_P (dC, dI) vwCl [] H := hP
    have hD : va_D A [] := hD
    have er_3 : r_3 = f_X12_goodLong vl := hw
    have hpost : r_3 = f_X12_part vu vl p0 := by subst er_3; refine Eq.symm ?_; refine (if_neg c_1).trans ?_; rfl
    have hP9 := hP.sub (ws' := []) [] rfl
    have hD9 := hD.sub (ws' := []) [] (by decide) rfl
    have hK9 := hK.sub (tys' := []) [] rfl
    exact W.lret (v := r_3) hx hb hr (fun t ht hW => ⟨⟨r_3, (), rfl, hpost, by rw [ht]; exact hP9, va_K.moved hW.alike hK9, hD9⟩, hS.F ht⟩) hS.2.2 dX12_part_19
def f_X12_countsPlain (p0 : Int32) (p1 : Int32) (p2 : Int32) : Int64 × Int64 :=
  let r_1 : Int32 := f_X12_dayOf p2
  let r_2 : Int32 := f_X12_dayOf p1
  let x_3 : Int32 := (r_1 - r_2)
  if p0 = 2 then
    ((f_X12_sets (x_3.toInt64) 360).1, (f_X12_sets (x_3.toInt64) 360).2)
  else
    if p0 = 3 then
      ((f_X12_sets (x_3.toInt64) 365).1, (f_X12_sets (x_3.toInt64) 365).2)
    else
      if p0 = 1 then
        let r_9 : Int32 := f_X12_thirties p1 p2 1
        ((f_X12_sets (r_9.toInt64) 360).1, (f_X12_sets (r_9.toInt64) 360).2)
      else
        let r_7 : Int32 := f_X12_thirties p1 p2 0
        ((f_X12_sets (r_7.toInt64) 360).1, (f_X12_sets (r_7.toInt64) 360).2)
set_option maxHeartbeats 4000000 in
set_option maxRecDepth 100000 in
theorem k_X12_countsPlain (l : Launch) (dC : Nat → ClassId) (dI : Nat → Nat → Nat) (sz : Nat) (h0 : Nat) (fs_h0 : List Value) (p0 : Int32) (p1 : Int32) (p2 : Int32) (hn_h0 : fs_h0.length = 69) : Met l yX12_countsPlain wsX12_countsPlain ({ frames := 2, cells := 0, slots := 0, locals := 55 }) (va_Pc [.ref h0, .int p0, .int p1, .int p2] (fun U => U.heap.size = sz ∧ va_P (dC, dI) vwCl [(h0, .inr (11, fs_h0))] U.heap ∧ va_K (dC, dI) vwCl [] U ∧ va_D (fun _ => True) [(h0, .inr (11, fs_h0))])) (va_Qv (fun (_ : Unit) => True) (fun _ t => va_P (dC, dI) vwCl [(h0, .inr (11, ((fs_h0.set 3 (.long ((f_X12_countsPlain p0 p1 p2).1))).set 4 (.long ((f_X12_countsPlain p0 p1 p2).2)))))] t.heap ∧ va_K (dC, dI) vwCl [] t ∧ va_D (va_A [(h0, .inr (11, fs_h0))] sz) [(h0, .inr (11, ((fs_h0.set 3 (.long ((f_X12_countsPlain p0 p1 p2).1))).set 4 (.long ((f_X12_countsPlain p0 p1 p2).2)))))]) (va_A [(h0, .inr (11, fs_h0))] sz)) 0 0 (va_A [(h0, .inr (11, fs_h0))] sz) := by
  refine Met.ofW (cc := cX12_countsPlain) (maxL := 5) (ret := none) (by decide) rfl ?_
  intro p e s m args below meth c s₁ B hml hv
  obtain ⟨rfl, hsz, hP, hK, hD0⟩ := hv
  have hx := B.exec
  have hb := B.bytes
  have hr := B.returns
  have hts := atoms_spec (ws := wsX12_countsPlain) B.pre
  have hown : s.vm.findClass RX12 = some m.cls := findClass_of_methodNamed B.named
  have hlocks := B.notSynchronized
  subst hsz
  have hD := hD0.self (sz := s.heap.size)
  generalize hAe : va_A [(h0, .inr (11, fs_h0))] s.heap.size = A at hD ⊢
  have hA : ∀ q : Nat, s.heap.size ≤ q → A q := fun q h => by rw [← hAe]; exact Or.inr h
  have hS : va_S A s.heap s.heap [] := va_S.rf
  have hP : va_P (dC, dI) vwCl [(h0, .inr (11, fs_h0))] s.heap := hP
  have hl := lv_entry ([.ref h0, .int p0, .int p1, .int p2]) (n := 5) (Nat.le_of_ble_eq_true rfl)
  rw [lg_entry_eq]
  generalize (lg_sl ([.ref h0, .int p0, .int p1, .int p2]) ++ List.replicate (5 - (lg_sl ([.ref h0, .int p0, .int p1, .int p2])).length) Slot.unset).toArray = ls at hl ⊢
  have hl : lv_has ls 5 [(0, .ref h0), (1, .int p0), (2, .int p1), (3, .int p2)] := hl
  refine lv_iload_n hx hb dX12_countsPlain_0 rfl (lv_at hl 3 rfl) ?_
  have hPc := hP.sub (ws' := []) [] rfl
  have hDc := hD.sub (ws' := []) [] (by decide) rfl
  have hKc := hK.sub (tys' := []) [] rfl
  have hFc := va_free (wc := []) hD hS hA [] rfl
  refine va_calli (va_runS (As := [.int p2]) (rest := []) ⟨hx, hb, hml, hown, hts⟩ (k_X12_dayOf l dC dI s.heap.size p2) (va_cwS 1 hts gX12_countsPlain_X12_dayOf rfl rfl rfl (by decide +kernel) ⟨Nat.le_of_ble_eq_true rfl, Nat.le_of_ble_eq_true rfl⟩) ⟨fun a U g mk q => by obtain ⟨q0, q1, qP, qK, qD⟩ := q; exact ⟨q0, q1, qP, va_K.moved (u := U) (U := U.calling g mk a) (Vm.Alike.refl U.vm) qK, qD⟩, fun U hU hW => ⟨rfl, by rw [hU], by rw [hU]; exact hPc, va_K.moved hW.alike hKc, hDc.weaken (fun _ _ _ _ => trivial)⟩⟩ rfl rfl hl.1 rfl (lv_room (Nat.le_of_ble_eq_true rfl)) dX12_countsPlain_1 ⟨Nat.le_of_ble_eq_true rfl, Nat.le_of_ble_eq_true rfl⟩) hS (fun q _ h => hFc q h) hFc (fun r_1 u t H1 locs ht hvm hw hB hz1 hk1 hS => ?_)
  obtain ⟨hP1, hK1, hD1⟩ := hB
  rw [ht] at hP1
  have hK1 := va_K.moved hvm.symm hK1
  obtain ⟨hP, hD⟩ := va_join (wr := [(h0, .inr (11, fs_h0))]) (w1 := []) hP hD [] [0] rfl rfl (by decide) (by decide) hk1 hFc hP1 hD1
  generalize H1 = H at hP hS ⊢
  have hP : va_P (dC, dI) vwCl [(h0, .inr (11, fs_h0))] H := hP
  have hD : va_D A [(h0, .inr (11, fs_h0))] := hD
  have er_1 : r_1 = f_X12_dayOf p2 := hw
  refine lv_iload_n hx hb dX12_countsPlain_4 rfl (lv_at hl 2 rfl) ?_
  have hPc := hP.sub (ws' := []) [] rfl
  have hDc := hD.sub (ws' := []) [] (by decide) rfl
  have hKc := hK.sub (tys' := []) [] rfl
  have hFc := va_free (wc := []) hD hS hA [] rfl
  refine va_calli (va_runS (As := [.int p1]) (rest := [.int r_1]) ⟨hx, hb, hml, hown, hts⟩ (k_X12_dayOf l dC dI H.size p1) (va_cwS 1 hts gX12_countsPlain_X12_dayOf rfl rfl rfl (by decide +kernel) ⟨Nat.le_of_ble_eq_true rfl, Nat.le_of_ble_eq_true rfl⟩) ⟨fun a U g mk q => by obtain ⟨q0, q1, qP, qK, qD⟩ := q; exact ⟨q0, q1, qP, va_K.moved (u := U) (U := U.calling g mk a) (Vm.Alike.refl U.vm) qK, qD⟩, fun U hU hW => ⟨rfl, by rw [hU], by rw [hU]; exact hPc, va_K.moved hW.alike hKc, hDc.weaken (fun _ _ _ _ => trivial)⟩⟩ rfl rfl hl.1 rfl (lv_room (Nat.le_of_ble_eq_true rfl)) dX12_countsPlain_5 ⟨Nat.le_of_ble_eq_true rfl, Nat.le_of_ble_eq_true rfl⟩) hS (fun q _ h => hFc q h) hFc (fun r_2 u t H1 locs ht hvm hw hB hz1 hk1 hS => ?_)
  obtain ⟨hP1, hK1, hD1⟩ := hB
  rw [ht] at hP1
  have hK1 := va_K.moved hvm.symm hK1
  obtain ⟨hP, hD⟩ := va_join (wr := [(h0, .inr (11, fs_h0))]) (w1 := []) hP hD [] [0] rfl rfl (by decide) (by decide) hk1 hFc hP1 hD1
  generalize H1 = H at hP hS ⊢
  have hP : va_P (dC, dI) vwCl [(h0, .inr (11, fs_h0))] H := hP
  have hD : va_D A [(h0, .inr (11, fs_h0))] := hD
  have er_2 : r_2 = f_X12_dayOf p1 := hw
  refine lv_isub hx hb dX12_countsPlain_8 ?_
  refine lv_topi (fun x_3 ex_3 => ?_)
  refine lv_istore (lv' := [(4, .int x_3), (0, .ref h0), (1, .int p0), (2, .int p1), (3, .int p2)]) hx hb dX12_countsPlain_9 hl (by decide) rfl (fun ls hl => ?_)
  refine lv_iload_n hx hb dX12_countsPlain_11 rfl (lv_at hl 2 rfl) ?_
  refine lv_iconst (v := 2) hx hb dX12_countsPlain_12 (by decide) ?_
  refine lv_icmp_ne (tgt := 29) hx hb dX12_countsPlain_13 (by decide) (fun c_4 => ?_) (fun c_4 => ?_)
  · refine lv_iload_n hx hb dX12_countsPlain_29 rfl (lv_at hl 2 rfl) ?_
    refine lv_iconst (v := 3) hx hb dX12_countsPlain_30 (by decide) ?_
    refine lv_icmp_ne (tgt := 47) hx hb dX12_countsPlain_31 (by decide) (fun c_5 => ?_) (fun c_5 => ?_)
    · refine lv_aload_n hx hb dX12_countsPlain_47 rfl (lv_at hl 1 rfl) ?_
      refine lv_iload_n hx hb dX12_countsPlain_48 rfl (lv_at hl 3 rfl) ?_
      refine lv_iload_n hx hb dX12_countsPlain_49 rfl (lv_at hl 4 rfl) ?_
      refine lv_iload_n hx hb dX12_countsPlain_50 rfl (lv_at hl 2 rfl) ?_
      refine lv_iconst (v := 1) hx hb dX12_countsPlain_51 (by decide) ?_
      refine lv_icmp_ne (tgt := 59) hx hb dX12_countsPlain_52 (by decide) (fun c_6 => ?_) (fun c_6 => ?_)
      · refine lv_iconst (v := 0) hx hb dX12_countsPlain_59 (by decide) ?_
        have hPc := hP.sub (ws' := []) [] rfl
        have hDc := hD.sub (ws' := []) [] (by decide) rfl
        have hKc := hK.sub (tys' := []) [] rfl
        have hFc := va_free (wc := []) hD hS hA [] rfl
        refine va_calli (va_runS (As := [.int p1, .int p2, .int 0]) (rest := [.ref h0]) ⟨hx, hb, hml, hown, hts⟩ (k_X12_thirties l dC dI H.size p1 p2 0) (va_cwS 3 hts gX12_countsPlain_X12_thirties rfl rfl rfl (by decide +kernel) ⟨Nat.le_of_ble_eq_true rfl, Nat.le_of_ble_eq_true rfl⟩) ⟨fun a U g mk q => by obtain ⟨q0, q1, qP, qK, qD⟩ := q; exact ⟨q0, q1, qP, va_K.moved (u := U) (U := U.calling g mk a) (Vm.Alike.refl U.vm) qK, qD⟩, fun U hU hW => ⟨rfl, by rw [hU], by rw [hU]; exact hPc, va_K.moved hW.alike hKc, hDc.weaken (fun _ _ _ _ => trivial)⟩⟩ rfl rfl hl.1 rfl (lv_room (Nat.le_of_ble_eq_true rfl)) dX12_countsPlain_60 ⟨Nat.le_of_ble_eq_true rfl, Nat.le_of_ble_eq_true rfl⟩) hS (fun q _ h => hFc q h) hFc (fun r_7 u t H1 locs ht hvm hw hB hz1 hk1 hS => ?_)
        obtain ⟨hP1, hK1, hD1⟩ := hB
        rw [ht] at hP1
        have hK1 := va_K.moved hvm.symm hK1
        obtain ⟨hP, hD⟩ := va_join (wr := [(h0, .inr (11, fs_h0))]) (w1 := []) hP hD [] [0] rfl rfl (by decide) (by decide) hk1 hFc hP1 hD1
        generalize H1 = H at hP hS ⊢
        have hP : va_P (dC, dI) vwCl [(h0, .inr (11, fs_h0))] H := hP
        have hD : va_D A [(h0, .inr (11, fs_h0))] := hD
        have er_7 : r_7 = f_X12_thirties p1 p2 0 := hw
        refine lv_i2l hx hb dX12_countsPlain_63 rfl ?_
        refine lv_ldc2 (v := 360) hx hb hown (hts (.constantLong RX12 172 (360)) (by decide +kernel)) dX12_countsPlain_64 ?_
        have hPc := hP.sub (ws' := [(h0, .inr (11, fs_h0))]) [0] rfl
        have hDc := hD.sub (ws' := [(h0, .inr (11, fs_h0))]) [0] (by decide) rfl
        have hKc := hK.sub (tys' := []) [] rfl
        have hFc := va_free (wc := [(h0, .inr (11, fs_h0))]) hD hS hA [0] rfl
        refine va_callv (va_runV (As := [.long (r_7.toInt64), .long 360]) (rest := []) ⟨hx, hb, hml, hown, hts⟩ (k_X12_sets l dC dI H.size h0 fs_h0 (r_7.toInt64) 360 hn_h0 (gcd_360 _) (gcn_360 _)) (cwV 2 hts gX12_countsPlain_X12_sets rfl rfl rfl (by decide +kernel) ⟨Nat.le_of_ble_eq_true rfl, Nat.le_of_ble_eq_true rfl⟩) ⟨fun a U g mk q => by obtain ⟨q0, q1, qP, qK, qD⟩ := q; exact ⟨q0, q1, qP, va_K.moved (u := U) (U := U.calling g mk a) (Vm.Alike.refl U.vm) qK, qD⟩, va_recv hKc hPc (ci := 11) (q0 := 0) rfl rfl, fun U hU hW => ⟨rfl, by rw [hU], by rw [hU]; exact hPc, va_K.moved hW.alike hKc, hDc.weaken (fun _ _ _ _ => trivial)⟩⟩ rfl rfl hl.1 rfl (lv_room (Nat.le_of_ble_eq_true rfl)) dX12_countsPlain_67 ⟨Nat.le_of_ble_eq_true rfl, Nat.le_of_ble_eq_true rfl⟩) hS (fun q _ h => hFc q h) hFc (fun u t H1 locs ht hvm hw hB hz1 hk1 hS => ?_)
        obtain ⟨hP1, hK1, hD1⟩ := hB
        rw [ht] at hP1
        have hK1 := va_K.moved hvm.symm hK1
        obtain ⟨hP, hD⟩ := va_join (wr := []) (w1 := [(h0, .inr (11, ((fs_h0.set 3 (.long ((f_X12_sets (r_7.toInt64) 360).1))).set 4 (.long ((f_X12_sets (r_7.toInt64) 360).2)))))]) hP hD [0] [] rfl rfl (by decide) (by decide) hk1 hFc hP1 hD1
        generalize H1 = H at hP hS ⊢
        have hP : va_P (dC, dI) vwCl [(h0, .inr (11, ((fs_h0.set 3 (.long ((f_X12_sets (r_7.toInt64) 360).1))).set 4 (.long ((f_X12_sets (r_7.toInt64) 360).2)))))] H := hP
        have hD : va_D A [(h0, .inr (11, ((fs_h0.set 3 (.long ((f_X12_sets (r_7.toInt64) 360).1))).set 4 (.long ((f_X12_sets (r_7.toInt64) 360).2)))))] := hD
        have hout : ((f_X12_sets (r_7.toInt64) 360).1, (f_X12_sets (r_7.toInt64) 360).2) = f_X12_countsPlain p0 p1 p2 := by subst er_1 er_2 ex_3 er_7; refine Eq.symm ?_; refine (if_neg c_4).trans ?_; refine (if_neg c_5).trans ?_; refine (if_neg c_6).trans ?_; rfl
        have hP9 : va_P (dC, dI) vwCl [(h0, .inr (11, ((fs_h0.set 3 (.long ((f_X12_countsPlain p0 p1 p2).1))).set 4 (.long ((f_X12_countsPlain p0 p1 p2).2)))))] H := by rw [← hout]; exact hP.sub (ws' := [(h0, .inr (11, ((fs_h0.set 3 (.long ((f_X12_sets (r_7.toInt64) 360).1))).set 4 (.long ((f_X12_sets (r_7.toInt64) 360).2)))))]) [0] rfl
        have hD9 : va_D A [(h0, .inr (11, ((fs_h0.set 3 (.long ((f_X12_countsPlain p0 p1 p2).1))).set 4 (.long ((f_X12_countsPlain p0 p1 p2).2)))))] := by rw [← hout]; exact hD.sub (ws' := [(h0, .inr (11, ((fs_h0.set 3 (.long ((f_X12_sets (r_7.toInt64) 360).1))).set 4 (.long ((f_X12_sets (r_7.toInt64) 360).2)))))]) [0] (by decide) rfl
        have hK9 := hK.sub (tys' := []) [] rfl
        exact W.vret hx hb hr (fun t ht hW => ⟨⟨(), rfl, trivial, by rw [ht]; exact hP9, va_K.moved hW.alike hK9, hD9⟩, hS.F ht⟩) hS.2.2 dX12_countsPlain_70
      · refine lv_iconst (v := 1) hx hb dX12_countsPlain_55 (by decide) ?_
        refine lv_goto (tgt := 60) hx hb dX12_countsPlain_56 (by decide) ?_
        have hPc := hP.sub (ws' := []) [] rfl
        have hDc := hD.sub (ws' := []) [] (by decide) rfl
        have hKc := hK.sub (tys' := []) [] rfl
        have hFc := va_free (wc := []) hD hS hA [] rfl
        refine va_calli (va_runS (As := [.int p1, .int p2, .int 1]) (rest := [.ref h0]) ⟨hx, hb, hml, hown, hts⟩ (k_X12_thirties l dC dI H.size p1 p2 1) (va_cwS 3 hts gX12_countsPlain_X12_thirties rfl rfl rfl (by decide +kernel) ⟨Nat.le_of_ble_eq_true rfl, Nat.le_of_ble_eq_true rfl⟩) ⟨fun a U g mk q => by obtain ⟨q0, q1, qP, qK, qD⟩ := q; exact ⟨q0, q1, qP, va_K.moved (u := U) (U := U.calling g mk a) (Vm.Alike.refl U.vm) qK, qD⟩, fun U hU hW => ⟨rfl, by rw [hU], by rw [hU]; exact hPc, va_K.moved hW.alike hKc, hDc.weaken (fun _ _ _ _ => trivial)⟩⟩ rfl rfl hl.1 rfl (lv_room (Nat.le_of_ble_eq_true rfl)) dX12_countsPlain_60 ⟨Nat.le_of_ble_eq_true rfl, Nat.le_of_ble_eq_true rfl⟩) hS (fun q _ h => hFc q h) hFc (fun r_9 u t H1 locs ht hvm hw hB hz1 hk1 hS => ?_)
        obtain ⟨hP1, hK1, hD1⟩ := hB
        rw [ht] at hP1
        have hK1 := va_K.moved hvm.symm hK1
        obtain ⟨hP, hD⟩ := va_join (wr := [(h0, .inr (11, fs_h0))]) (w1 := []) hP hD [] [0] rfl rfl (by decide) (by decide) hk1 hFc hP1 hD1
        generalize H1 = H at hP hS ⊢
        have hP : va_P (dC, dI) vwCl [(h0, .inr (11, fs_h0))] H := hP
        have hD : va_D A [(h0, .inr (11, fs_h0))] := hD
        have er_9 : r_9 = f_X12_thirties p1 p2 1 := hw
        refine lv_i2l hx hb dX12_countsPlain_63 rfl ?_
        refine lv_ldc2 (v := 360) hx hb hown (hts (.constantLong RX12 172 (360)) (by decide +kernel)) dX12_countsPlain_64 ?_
        have hPc := hP.sub (ws' := [(h0, .inr (11, fs_h0))]) [0] rfl
        have hDc := hD.sub (ws' := [(h0, .inr (11, fs_h0))]) [0] (by decide) rfl
        have hKc := hK.sub (tys' := []) [] rfl
        have hFc := va_free (wc := [(h0, .inr (11, fs_h0))]) hD hS hA [0] rfl
        refine va_callv (va_runV (As := [.long (r_9.toInt64), .long 360]) (rest := []) ⟨hx, hb, hml, hown, hts⟩ (k_X12_sets l dC dI H.size h0 fs_h0 (r_9.toInt64) 360 hn_h0 (gcd_360 _) (gcn_360 _)) (cwV 2 hts gX12_countsPlain_X12_sets rfl rfl rfl (by decide +kernel) ⟨Nat.le_of_ble_eq_true rfl, Nat.le_of_ble_eq_true rfl⟩) ⟨fun a U g mk q => by obtain ⟨q0, q1, qP, qK, qD⟩ := q; exact ⟨q0, q1, qP, va_K.moved (u := U) (U := U.calling g mk a) (Vm.Alike.refl U.vm) qK, qD⟩, va_recv hKc hPc (ci := 11) (q0 := 0) rfl rfl, fun U hU hW => ⟨rfl, by rw [hU], by rw [hU]; exact hPc, va_K.moved hW.alike hKc, hDc.weaken (fun _ _ _ _ => trivial)⟩⟩ rfl rfl hl.1 rfl (lv_room (Nat.le_of_ble_eq_true rfl)) dX12_countsPlain_67 ⟨Nat.le_of_ble_eq_true rfl, Nat.le_of_ble_eq_true rfl⟩) hS (fun q _ h => hFc q h) hFc (fun u t H1 locs ht hvm hw hB hz1 hk1 hS => ?_)
        obtain ⟨hP1, hK1, hD1⟩ := hB
        rw [ht] at hP1
        have hK1 := va_K.moved hvm.symm hK1
        obtain ⟨hP, hD⟩ := va_join (wr := []) (w1 := [(h0, .inr (11, ((fs_h0.set 3 (.long ((f_X12_sets (r_9.toInt64) 360).1))).set 4 (.long ((f_X12_sets (r_9.toInt64) 360).2)))))]) hP hD [0] [] rfl rfl (by decide) (by decide) hk1 hFc hP1 hD1
        generalize H1 = H at hP hS ⊢
        have hP : va_P (dC, dI) vwCl [(h0, .inr (11, ((fs_h0.set 3 (.long ((f_X12_sets (r_9.toInt64) 360).1))).set 4 (.long ((f_X12_sets (r_9.toInt64) 360).2)))))] H := hP
        have hD : va_D A [(h0, .inr (11, ((fs_h0.set 3 (.long ((f_X12_sets (r_9.toInt64) 360).1))).set 4 (.long ((f_X12_sets (r_9.toInt64) 360).2)))))] := hD
        have hout : ((f_X12_sets (r_9.toInt64) 360).1, (f_X12_sets (r_9.toInt64) 360).2) = f_X12_countsPlain p0 p1 p2 := by subst er_1 er_2 ex_3 er_9; refine Eq.symm ?_; refine (if_neg c_4).trans ?_; refine (if_neg c_5).trans ?_; refine (if_pos c_6).trans ?_; rfl
        have hP9 : va_P (dC, dI) vwCl [(h0, .inr (11, ((fs_h0.set 3 (.long ((f_X12_countsPlain p0 p1 p2).1))).set 4 (.long ((f_X12_countsPlain p0 p1 p2).2)))))] H := by rw [← hout]; exact hP.sub (ws' := [(h0, .inr (11, ((fs_h0.set 3 (.long ((f_X12_sets (r_9.toInt64) 360).1))).set 4 (.long ((f_X12_sets (r_9.toInt64) 360).2)))))]) [0] rfl
        have hD9 : va_D A [(h0, .inr (11, ((fs_h0.set 3 (.long ((f_X12_countsPlain p0 p1 p2).1))).set 4 (.long ((f_X12_countsPlain p0 p1 p2).2)))))] := by rw [← hout]; exact hD.sub (ws' := [(h0, .inr (11, ((fs_h0.set 3 (.long ((f_X12_sets (r_9.toInt64) 360).1))).set 4 (.long ((f_X12_sets (r_9.toInt64) 360).2)))))]) [0] (by decide) rfl
        have hK9 := hK.sub (tys' := []) [] rfl
        exact W.vret hx hb hr (fun t ht hW => ⟨⟨(), rfl, trivial, by rw [ht]; exact hP9, va_K.moved hW.alike hK9, hD9⟩, hS.F ht⟩) hS.2.2 dX12_countsPlain_70
    · refine lv_aload_n hx hb dX12_countsPlain_34 rfl (lv_at hl 1 rfl) ?_
      refine lv_iload hx hb dX12_countsPlain_35 (lv_at hl 0 rfl) ?_
      refine lv_i2l hx hb dX12_countsPlain_37 rfl ?_
      refine lv_ldc2 (v := 365) hx hb hown (hts (.constantLong RX12 174 (365)) (by decide +kernel)) dX12_countsPlain_38 ?_
      have hPc := hP.sub (ws' := [(h0, .inr (11, fs_h0))]) [0] rfl
      have hDc := hD.sub (ws' := [(h0, .inr (11, fs_h0))]) [0] (by decide) rfl
      have hKc := hK.sub (tys' := []) [] rfl
      have hFc := va_free (wc := [(h0, .inr (11, fs_h0))]) hD hS hA [0] rfl
      refine va_callv (va_runV (As := [.long (x_3.toInt64), .long 365]) (rest := []) ⟨hx, hb, hml, hown, hts⟩ (k_X12_sets l dC dI H.size h0 fs_h0 (x_3.toInt64) 365 hn_h0 (gcd_365 _) (gcn_365 _)) (cwV 2 hts gX12_countsPlain_X12_sets rfl rfl rfl (by decide +kernel) ⟨Nat.le_of_ble_eq_true rfl, Nat.le_of_ble_eq_true rfl⟩) ⟨fun a U g mk q => by obtain ⟨q0, q1, qP, qK, qD⟩ := q; exact ⟨q0, q1, qP, va_K.moved (u := U) (U := U.calling g mk a) (Vm.Alike.refl U.vm) qK, qD⟩, va_recv hKc hPc (ci := 11) (q0 := 0) rfl rfl, fun U hU hW => ⟨rfl, by rw [hU], by rw [hU]; exact hPc, va_K.moved hW.alike hKc, hDc.weaken (fun _ _ _ _ => trivial)⟩⟩ rfl rfl hl.1 rfl (lv_room (Nat.le_of_ble_eq_true rfl)) dX12_countsPlain_41 ⟨Nat.le_of_ble_eq_true rfl, Nat.le_of_ble_eq_true rfl⟩) hS (fun q _ h => hFc q h) hFc (fun u t H1 locs ht hvm hw hB hz1 hk1 hS => ?_)
      obtain ⟨hP1, hK1, hD1⟩ := hB
      rw [ht] at hP1
      have hK1 := va_K.moved hvm.symm hK1
      obtain ⟨hP, hD⟩ := va_join (wr := []) (w1 := [(h0, .inr (11, ((fs_h0.set 3 (.long ((f_X12_sets (x_3.toInt64) 365).1))).set 4 (.long ((f_X12_sets (x_3.toInt64) 365).2)))))]) hP hD [0] [] rfl rfl (by decide) (by decide) hk1 hFc hP1 hD1
      generalize H1 = H at hP hS ⊢
      have hP : va_P (dC, dI) vwCl [(h0, .inr (11, ((fs_h0.set 3 (.long ((f_X12_sets (x_3.toInt64) 365).1))).set 4 (.long ((f_X12_sets (x_3.toInt64) 365).2)))))] H := hP
      have hD : va_D A [(h0, .inr (11, ((fs_h0.set 3 (.long ((f_X12_sets (x_3.toInt64) 365).1))).set 4 (.long ((f_X12_sets (x_3.toInt64) 365).2)))))] := hD
      refine lv_goto (tgt := 70) hx hb dX12_countsPlain_44 (by decide) ?_
      have hout : ((f_X12_sets (x_3.toInt64) 365).1, (f_X12_sets (x_3.toInt64) 365).2) = f_X12_countsPlain p0 p1 p2 := by subst er_1 er_2 ex_3; refine Eq.symm ?_; refine (if_neg c_4).trans ?_; refine (if_pos c_5).trans ?_; rfl
      have hP9 : va_P (dC, dI) vwCl [(h0, .inr (11, ((fs_h0.set 3 (.long ((f_X12_countsPlain p0 p1 p2).1))).set 4 (.long ((f_X12_countsPlain p0 p1 p2).2)))))] H := by rw [← hout]; exact hP.sub (ws' := [(h0, .inr (11, ((fs_h0.set 3 (.long ((f_X12_sets (x_3.toInt64) 365).1))).set 4 (.long ((f_X12_sets (x_3.toInt64) 365).2)))))]) [0] rfl
      have hD9 : va_D A [(h0, .inr (11, ((fs_h0.set 3 (.long ((f_X12_countsPlain p0 p1 p2).1))).set 4 (.long ((f_X12_countsPlain p0 p1 p2).2)))))] := by rw [← hout]; exact hD.sub (ws' := [(h0, .inr (11, ((fs_h0.set 3 (.long ((f_X12_sets (x_3.toInt64) 365).1))).set 4 (.long ((f_X12_sets (x_3.toInt64) 365).2)))))]) [0] (by decide) rfl
      have hK9 := hK.sub (tys' := []) [] rfl
      exact W.vret hx hb hr (fun t ht hW => ⟨⟨(), rfl, trivial, by rw [ht]; exact hP9, va_K.moved hW.alike hK9, hD9⟩, hS.F ht⟩) hS.2.2 dX12_countsPlain_70
  · refine lv_aload_n hx hb dX12_countsPlain_16 rfl (lv_at hl 1 rfl) ?_
    refine lv_iload hx hb dX12_countsPlain_17 (lv_at hl 0 rfl) ?_
    refine lv_i2l hx hb dX12_countsPlain_19 rfl ?_
    refine lv_ldc2 (v := 360) hx hb hown (hts (.constantLong RX12 172 (360)) (by decide +kernel)) dX12_countsPlain_20 ?_
    have hPc := hP.sub (ws' := [(h0, .inr (11, fs_h0))]) [0] rfl
    have hDc := hD.sub (ws' := [(h0, .inr (11, fs_h0))]) [0] (by decide) rfl
    have hKc := hK.sub (tys' := []) [] rfl
    have hFc := va_free (wc := [(h0, .inr (11, fs_h0))]) hD hS hA [0] rfl
    refine va_callv (va_runV (As := [.long (x_3.toInt64), .long 360]) (rest := []) ⟨hx, hb, hml, hown, hts⟩ (k_X12_sets l dC dI H.size h0 fs_h0 (x_3.toInt64) 360 hn_h0 (gcd_360 _) (gcn_360 _)) (cwV 2 hts gX12_countsPlain_X12_sets rfl rfl rfl (by decide +kernel) ⟨Nat.le_of_ble_eq_true rfl, Nat.le_of_ble_eq_true rfl⟩) ⟨fun a U g mk q => by obtain ⟨q0, q1, qP, qK, qD⟩ := q; exact ⟨q0, q1, qP, va_K.moved (u := U) (U := U.calling g mk a) (Vm.Alike.refl U.vm) qK, qD⟩, va_recv hKc hPc (ci := 11) (q0 := 0) rfl rfl, fun U hU hW => ⟨rfl, by rw [hU], by rw [hU]; exact hPc, va_K.moved hW.alike hKc, hDc.weaken (fun _ _ _ _ => trivial)⟩⟩ rfl rfl hl.1 rfl (lv_room (Nat.le_of_ble_eq_true rfl)) dX12_countsPlain_23 ⟨Nat.le_of_ble_eq_true rfl, Nat.le_of_ble_eq_true rfl⟩) hS (fun q _ h => hFc q h) hFc (fun u t H1 locs ht hvm hw hB hz1 hk1 hS => ?_)
    obtain ⟨hP1, hK1, hD1⟩ := hB
    rw [ht] at hP1
    have hK1 := va_K.moved hvm.symm hK1
    obtain ⟨hP, hD⟩ := va_join (wr := []) (w1 := [(h0, .inr (11, ((fs_h0.set 3 (.long ((f_X12_sets (x_3.toInt64) 360).1))).set 4 (.long ((f_X12_sets (x_3.toInt64) 360).2)))))]) hP hD [0] [] rfl rfl (by decide) (by decide) hk1 hFc hP1 hD1
    generalize H1 = H at hP hS ⊢
    have hP : va_P (dC, dI) vwCl [(h0, .inr (11, ((fs_h0.set 3 (.long ((f_X12_sets (x_3.toInt64) 360).1))).set 4 (.long ((f_X12_sets (x_3.toInt64) 360).2)))))] H := hP
    have hD : va_D A [(h0, .inr (11, ((fs_h0.set 3 (.long ((f_X12_sets (x_3.toInt64) 360).1))).set 4 (.long ((f_X12_sets (x_3.toInt64) 360).2)))))] := hD
    refine lv_goto (tgt := 70) hx hb dX12_countsPlain_26 (by decide) ?_
    have hout : ((f_X12_sets (x_3.toInt64) 360).1, (f_X12_sets (x_3.toInt64) 360).2) = f_X12_countsPlain p0 p1 p2 := by subst er_1 er_2 ex_3; refine Eq.symm ?_; refine (if_pos c_4).trans ?_; rfl
    have hP9 : va_P (dC, dI) vwCl [(h0, .inr (11, ((fs_h0.set 3 (.long ((f_X12_countsPlain p0 p1 p2).1))).set 4 (.long ((f_X12_countsPlain p0 p1 p2).2)))))] H := by rw [← hout]; exact hP.sub (ws' := [(h0, .inr (11, ((fs_h0.set 3 (.long ((f_X12_sets (x_3.toInt64) 360).1))).set 4 (.long ((f_X12_sets (x_3.toInt64) 360).2)))))]) [0] rfl
    have hD9 : va_D A [(h0, .inr (11, ((fs_h0.set 3 (.long ((f_X12_countsPlain p0 p1 p2).1))).set 4 (.long ((f_X12_countsPlain p0 p1 p2).2)))))] := by rw [← hout]; exact hD.sub (ws' := [(h0, .inr (11, ((fs_h0.set 3 (.long ((f_X12_sets (x_3.toInt64) 360).1))).set 4 (.long ((f_X12_sets (x_3.toInt64) 360).2)))))]) [0] (by decide) rfl
    have hK9 := hK.sub (tys' := []) [] rfl
    exact W.vret hx hb hr (fun t ht hW => ⟨⟨(), rfl, trivial, by rw [ht]; exact hP9, va_K.moved hW.alike hK9, hD9⟩, hS.F ht⟩) hS.2.2 dX12_countsPlain_70
def f_X12_counted (p0 : Int32) (p1 : Int32) (p2 : Int32) (p3 : Int32) : Int64 :=
  let r_1 : Int32 := f_X12_in p0 0 3
  if r_1 = 0 then
    let r_13 : Int64 := f_X12_refusedLong 1 (-1)
    r_13
  else
    let r_3 : Int32 := f_X12_isDate p1
    if r_3 = 0 then
      let r_5 : Int64 := f_X12_refusedLong 2 (-1)
      r_5
    else
      let r_6 : Int32 := f_X12_isDate p2
      if r_6 = 0 then
        let r_8 : Int64 := f_X12_refusedLong 2 (-1)
        r_8
      else
        if p1 ≤ p2 then
          let r_11 : Int64 := f_X12_part ((f_X12_countsPlain p0 p1 p2).1) ((f_X12_countsPlain p0 p1 p2).2) p3
          r_11
        else
          let r_12 : Int64 := f_X12_refusedLong 2 (-1)
          r_12
set_option maxHeartbeats 4000000 in
set_option maxRecDepth 100000 in
theorem k_X12_counted (l : Launch) (dC : Nat → ClassId) (dI : Nat → Nat → Nat) (sz : Nat) (h0 : Nat) (fs_h0 : List Value) (p0 : Int32) (p1 : Int32) (p2 : Int32) (p3 : Int32) (hn_h0 : fs_h0.length = 69) : Met l yX12_counted wsX12_counted ({ frames := 3, cells := 0, slots := 0, locals := 79 }) (va_Pc [.ref h0, .int p0, .int p1, .int p2, .int p3] (fun U => U.heap.size = sz ∧ va_P (dC, dI) vwCl [(h0, .inr (11, fs_h0))] U.heap ∧ va_K (dC, dI) vwCl [] U ∧ va_D (fun _ => True) [(h0, .inr (11, fs_h0))])) (va_Ql (fun (r : Int64) (_ : Unit) => r = f_X12_counted p0 p1 p2 p3) (fun _ t => va_P (dC, dI) vwCl [] t.heap ∧ va_K (dC, dI) vwCl [] t ∧ va_D (va_A [(h0, .inr (11, fs_h0))] sz) []) (va_A [(h0, .inr (11, fs_h0))] sz)) 0 0 (va_A [(h0, .inr (11, fs_h0))] sz) := by
  refine Met.ofW (cc := cX12_counted) (maxL := 5) (ret := (some .long)) (by decide) rfl ?_
  intro p e s m args below meth c s₁ B hml hv
  obtain ⟨rfl, hsz, hP, hK, hD0⟩ := hv
  have hx := B.exec
  have hb := B.bytes
  have hr := B.returns
  have hts := atoms_spec (ws := wsX12_counted) B.pre
  have hown : s.vm.findClass RX12 = some m.cls := findClass_of_methodNamed B.named
  have hlocks := B.notSynchronized
  have hinX12 : ∀ w ∈ u_ws RX12 TX12 69, w ∈ wsX12_counted := (fun _ h9 => List.mem_cons_of_mem _ (List.mem_append_right _ h9))
  subst hsz
  have hD := hD0.self (sz := s.heap.size)
  generalize hAe : va_A [(h0, .inr (11, fs_h0))] s.heap.size = A at hD ⊢
  have hA : ∀ q : Nat, s.heap.size ≤ q → A q := fun q h => by rw [← hAe]; exact Or.inr h
  have hS : va_S A s.heap s.heap [] := va_S.rf
  have hP : va_P (dC, dI) vwCl [(h0, .inr (11, fs_h0))] s.heap := hP
  have hl := lv_entry ([.ref h0, .int p0, .int p1, .int p2, .int p3]) (n := 5) (Nat.le_of_ble_eq_true rfl)
  rw [lg_entry_eq]
  generalize (lg_sl ([.ref h0, .int p0, .int p1, .int p2, .int p3]) ++ List.replicate (5 - (lg_sl ([.ref h0, .int p0, .int p1, .int p2, .int p3])).length) Slot.unset).toArray = ls at hl ⊢
  have hl : lv_has ls 5 [(0, .ref h0), (1, .int p0), (2, .int p1), (3, .int p2), (4, .int p3)] := hl
  refine lv_aload_n hx hb dX12_counted_0 rfl (lv_at hl 0 rfl) ?_
  refine lv_iconst (v := 0) hx hb dX12_counted_1 (by decide) ?_
  refine va_put (D := (dC, dI)) (ci := 11) (v := .int 0) (C := RX12) (T := TX12) (N := 69) hx hb hts hinX12 tyX12 tyX12_ok nmX12 hown hK hP hD hS 0 rfl rfl 0 (by decide) (hts (.fieldLink RX12 107 "BondCalendarsModel" "thrown" "I") (by decide +kernel)) (fun _ h9 => h9) rfl (ty := .int) (by decide +kernel) rfl rfl (by rw [hn_h0]; decide) dX12_counted_2 (fun H locs hP hD hS => ?_)
  have hP : va_P (dC, dI) vwCl [(h0, .inr (11, (fs_h0.set 0 (.int 0))))] H := hP
  have hD : va_D A [(h0, .inr (11, (fs_h0.set 0 (.int 0))))] := hD
  refine lv_iload_n hx hb dX12_counted_5 rfl (lv_at hl 1 rfl) ?_
  refine lv_iconst (v := 0) hx hb dX12_counted_6 (by decide) ?_
  refine lv_iconst (v := 3) hx hb dX12_counted_7 (by decide) ?_
  have hPc := hP.sub (ws' := []) [] rfl
  have hDc := hD.sub (ws' := []) [] (by decide) rfl
  have hKc := hK.sub (tys' := []) [] rfl
  have hFc := va_free (wc := []) hD hS hA [] rfl
  refine va_calli (va_runS (As := [.int p0, .int 0, .int 3]) (rest := []) ⟨hx, hb, hml, hown, hts⟩ (k_X12_in l dC dI H.size p0 0 3) (va_cwS 3 hts gX12_counted_X12_in rfl rfl rfl (by decide +kernel) ⟨Nat.le_of_ble_eq_true rfl, Nat.le_of_ble_eq_true rfl⟩) ⟨fun a U g mk q => by obtain ⟨q0, q1, qP, qK, qD⟩ := q; exact ⟨q0, q1, qP, va_K.moved (u := U) (U := U.calling g mk a) (Vm.Alike.refl U.vm) qK, qD⟩, fun U hU hW => ⟨rfl, by rw [hU], by rw [hU]; exact hPc, va_K.moved hW.alike hKc, hDc.weaken (fun _ _ _ _ => trivial)⟩⟩ rfl rfl hl.1 rfl (lv_room (Nat.le_of_ble_eq_true rfl)) dX12_counted_8 ⟨Nat.le_of_ble_eq_true rfl, Nat.le_of_ble_eq_true rfl⟩) hS (fun q _ h => hFc q h) hFc (fun r_1 u t H1 locs ht hvm hw hB hz1 hk1 hS => ?_)
  obtain ⟨hP1, hK1, hD1⟩ := hB
  rw [ht] at hP1
  have hK1 := va_K.moved hvm.symm hK1
  obtain ⟨hP, hD⟩ := va_join (wr := [(h0, .inr (11, (fs_h0.set 0 (.int 0))))]) (w1 := []) hP hD [] [0] rfl rfl (by decide) (by decide) hk1 hFc hP1 hD1
  generalize H1 = H at hP hS ⊢
  have hP : va_P (dC, dI) vwCl [(h0, .inr (11, (fs_h0.set 0 (.int 0))))] H := hP
  have hD : va_D A [(h0, .inr (11, (fs_h0.set 0 (.int 0))))] := hD
  have er_1 : r_1 = f_X12_in p0 0 3 := hw
  refine lv_if_ne (tgt := 23) hx hb dX12_counted_11 (by decide) (fun c_2 => ?_) (fun c_2 => ?_)
  · refine lv_iload_n hx hb dX12_counted_23 rfl (lv_at hl 2 rfl) ?_
    have hPc := hP.sub (ws' := []) [] rfl
    have hDc := hD.sub (ws' := []) [] (by decide) rfl
    have hKc := hK.sub (tys' := []) [] rfl
    have hFc := va_free (wc := []) hD hS hA [] rfl
    refine va_calli (va_runS (As := [.int p1]) (rest := []) ⟨hx, hb, hml, hown, hts⟩ (k_X12_isDate l dC dI H.size p1) (va_cwS 1 hts gX12_counted_X12_isDate rfl rfl rfl (by decide +kernel) ⟨Nat.le_of_ble_eq_true rfl, Nat.le_of_ble_eq_true rfl⟩) ⟨fun a U g mk q => by obtain ⟨q0, q1, qP, qK, qD⟩ := q; exact ⟨q0, q1, qP, va_K.moved (u := U) (U := U.calling g mk a) (Vm.Alike.refl U.vm) qK, qD⟩, fun U hU hW => ⟨rfl, by rw [hU], by rw [hU]; exact hPc, va_K.moved hW.alike hKc, hDc.weaken (fun _ _ _ _ => trivial)⟩⟩ rfl rfl hl.1 rfl (lv_room (Nat.le_of_ble_eq_true rfl)) dX12_counted_24 ⟨Nat.le_of_ble_eq_true rfl, Nat.le_of_ble_eq_true rfl⟩) hS (fun q _ h => hFc q h) hFc (fun r_3 u t H1 locs ht hvm hw hB hz1 hk1 hS => ?_)
    obtain ⟨hP1, hK1, hD1⟩ := hB
    rw [ht] at hP1
    have hK1 := va_K.moved hvm.symm hK1
    obtain ⟨hP, hD⟩ := va_join (wr := [(h0, .inr (11, (fs_h0.set 0 (.int 0))))]) (w1 := []) hP hD [] [0] rfl rfl (by decide) (by decide) hk1 hFc hP1 hD1
    generalize H1 = H at hP hS ⊢
    have hP : va_P (dC, dI) vwCl [(h0, .inr (11, (fs_h0.set 0 (.int 0))))] H := hP
    have hD : va_D A [(h0, .inr (11, (fs_h0.set 0 (.int 0))))] := hD
    have er_3 : r_3 = f_X12_isDate p1 := hw
    refine lv_if_eq (tgt := 42) hx hb dX12_counted_27 (by decide) (fun c_4 => ?_) (fun c_4 => ?_)
    · refine lv_aload_n hx hb dX12_counted_42 rfl (lv_at hl 0 rfl) ?_
      refine lv_iconst (v := 2) hx hb dX12_counted_43 (by decide) ?_
      refine lv_ldc2 (v := (-1)) hx hb hown (hts (.constantLong RX12 428 (-1)) (by decide +kernel)) dX12_counted_44 ?_
      have hPc := hP.sub (ws' := [(h0, .inr (11, (fs_h0.set 0 (.int 0))))]) [0] rfl
      have hDc := hD.sub (ws' := [(h0, .inr (11, (fs_h0.set 0 (.int 0))))]) [0] (by decide) rfl
      have hKc := hK.sub (tys' := []) [] rfl
      have hFc := va_free (wc := [(h0, .inr (11, (fs_h0.set 0 (.int 0))))]) hD hS hA [0] rfl
      refine va_calll (va_runV (As := [.int 2, .long (-1)]) (rest := []) ⟨hx, hb, hml, hown, hts⟩ (k_X12_refusedLong l dC dI H.size h0 (fs_h0.set 0 (.int 0)) 2 (-1) (List.length_set.trans hn_h0)) (cwV 2 hts gX12_counted_X12_refusedLong rfl rfl rfl (by decide +kernel) ⟨Nat.le_of_ble_eq_true rfl, Nat.le_of_ble_eq_true rfl⟩) ⟨fun a U g mk q => by obtain ⟨q0, q1, qP, qK, qD⟩ := q; exact ⟨q0, q1, qP, va_K.moved (u := U) (U := U.calling g mk a) (Vm.Alike.refl U.vm) qK, qD⟩, va_recv hKc hPc (ci := 11) (q0 := 0) rfl rfl, fun U hU hW => ⟨rfl, by rw [hU], by rw [hU]; exact hPc, va_K.moved hW.alike hKc, hDc.weaken (fun _ _ _ _ => trivial)⟩⟩ rfl rfl hl.1 rfl (lv_room (Nat.le_of_ble_eq_true rfl)) dX12_counted_47 ⟨Nat.le_of_ble_eq_true rfl, Nat.le_of_ble_eq_true rfl⟩) hS (fun q _ h => hFc q h) hFc (fun r_5 u t H1 locs ht hvm hw hB hz1 hk1 hS => ?_)
      obtain ⟨hP1, hK1, hD1⟩ := hB
      rw [ht] at hP1
      have hK1 := va_K.moved hvm.symm hK1
      obtain ⟨hP, hD⟩ := va_join (wr := []) (w1 := []) hP hD [0] [] rfl rfl (by decide) (by decide) hk1 hFc hP1 hD1
      generalize H1 = H at hP hS ⊢
      have hP : va_P (dC, dI) vwCl [] H := hP
      have hD : va_D A [] := hD
      have er_5 : r_5 = f_X12_refusedLong 2 (-1) := hw
      have hpost : r_5 = f_X12_counted p0 p1 p2 p3 := by subst er_1 er_3 er_5; refine Eq.symm ?_; refine (if_neg c_2).trans ?_; refine (if_pos c_4).trans ?_; rfl
      have hP9 := hP.sub (ws' := []) [] rfl
      have hD9 := hD.sub (ws' := []) [] (by decide) rfl
      have hK9 := hK.sub (tys' := []) [] rfl
      exact W.lret (v := r_5) hx hb hr (fun t ht hW => ⟨⟨r_5, (), rfl, hpost, by rw [ht]; exact hP9, va_K.moved hW.alike hK9, hD9⟩, hS.F ht⟩) hS.2.2 dX12_counted_50
    · refine lv_iload_n hx hb dX12_counted_30 rfl (lv_at hl 3 rfl) ?_
      have hPc := hP.sub (ws' := []) [] rfl
      have hDc := hD.sub (ws' := []) [] (by decide) rfl
      have hKc := hK.sub (tys' := []) [] rfl
      have hFc := va_free (wc := []) hD hS hA [] rfl
      refine va_calli (va_runS (As := [.int p2]) (rest := []) ⟨hx, hb, hml, hown, hts⟩ (k_X12_isDate l dC dI H.size p2) (va_cwS 1 hts gX12_counted_X12_isDate rfl rfl rfl (by decide +kernel) ⟨Nat.le_of_ble_eq_true rfl, Nat.le_of_ble_eq_true rfl⟩) ⟨fun a U g mk q => by obtain ⟨q0, q1, qP, qK, qD⟩ := q; exact ⟨q0, q1, qP, va_K.moved (u := U) (U := U.calling g mk a) (Vm.Alike.refl U.vm) qK, qD⟩, fun U hU hW => ⟨rfl, by rw [hU], by rw [hU]; exact hPc, va_K.moved hW.alike hKc, hDc.weaken (fun _ _ _ _ => trivial)⟩⟩ rfl rfl hl.1 rfl (lv_room (Nat.le_of_ble_eq_true rfl)) dX12_counted_31 ⟨Nat.le_of_ble_eq_true rfl, Nat.le_of_ble_eq_true rfl⟩) hS (fun q _ h => hFc q h) hFc (fun r_6 u t H1 locs ht hvm hw hB hz1 hk1 hS => ?_)
      obtain ⟨hP1, hK1, hD1⟩ := hB
      rw [ht] at hP1
      have hK1 := va_K.moved hvm.symm hK1
      obtain ⟨hP, hD⟩ := va_join (wr := [(h0, .inr (11, (fs_h0.set 0 (.int 0))))]) (w1 := []) hP hD [] [0] rfl rfl (by decide) (by decide) hk1 hFc hP1 hD1
      generalize H1 = H at hP hS ⊢
      have hP : va_P (dC, dI) vwCl [(h0, .inr (11, (fs_h0.set 0 (.int 0))))] H := hP
      have hD : va_D A [(h0, .inr (11, (fs_h0.set 0 (.int 0))))] := hD
      have er_6 : r_6 = f_X12_isDate p2 := hw
      refine lv_if_eq (tgt := 42) hx hb dX12_counted_34 (by decide) (fun c_7 => ?_) (fun c_7 => ?_)
      · refine lv_aload_n hx hb dX12_counted_42 rfl (lv_at hl 0 rfl) ?_
        refine lv_iconst (v := 2) hx hb dX12_counted_43 (by decide) ?_
        refine lv_ldc2 (v := (-1)) hx hb hown (hts (.constantLong RX12 428 (-1)) (by decide +kernel)) dX12_counted_44 ?_
        have hPc := hP.sub (ws' := [(h0, .inr (11, (fs_h0.set 0 (.int 0))))]) [0] rfl
        have hDc := hD.sub (ws' := [(h0, .inr (11, (fs_h0.set 0 (.int 0))))]) [0] (by decide) rfl
        have hKc := hK.sub (tys' := []) [] rfl
        have hFc := va_free (wc := [(h0, .inr (11, (fs_h0.set 0 (.int 0))))]) hD hS hA [0] rfl
        refine va_calll (va_runV (As := [.int 2, .long (-1)]) (rest := []) ⟨hx, hb, hml, hown, hts⟩ (k_X12_refusedLong l dC dI H.size h0 (fs_h0.set 0 (.int 0)) 2 (-1) (List.length_set.trans hn_h0)) (cwV 2 hts gX12_counted_X12_refusedLong rfl rfl rfl (by decide +kernel) ⟨Nat.le_of_ble_eq_true rfl, Nat.le_of_ble_eq_true rfl⟩) ⟨fun a U g mk q => by obtain ⟨q0, q1, qP, qK, qD⟩ := q; exact ⟨q0, q1, qP, va_K.moved (u := U) (U := U.calling g mk a) (Vm.Alike.refl U.vm) qK, qD⟩, va_recv hKc hPc (ci := 11) (q0 := 0) rfl rfl, fun U hU hW => ⟨rfl, by rw [hU], by rw [hU]; exact hPc, va_K.moved hW.alike hKc, hDc.weaken (fun _ _ _ _ => trivial)⟩⟩ rfl rfl hl.1 rfl (lv_room (Nat.le_of_ble_eq_true rfl)) dX12_counted_47 ⟨Nat.le_of_ble_eq_true rfl, Nat.le_of_ble_eq_true rfl⟩) hS (fun q _ h => hFc q h) hFc (fun r_8 u t H1 locs ht hvm hw hB hz1 hk1 hS => ?_)
        obtain ⟨hP1, hK1, hD1⟩ := hB
        rw [ht] at hP1
        have hK1 := va_K.moved hvm.symm hK1
        obtain ⟨hP, hD⟩ := va_join (wr := []) (w1 := []) hP hD [0] [] rfl rfl (by decide) (by decide) hk1 hFc hP1 hD1
        generalize H1 = H at hP hS ⊢
        have hP : va_P (dC, dI) vwCl [] H := hP
        have hD : va_D A [] := hD
        have er_8 : r_8 = f_X12_refusedLong 2 (-1) := hw
        have hpost : r_8 = f_X12_counted p0 p1 p2 p3 := by subst er_1 er_3 er_6 er_8; refine Eq.symm ?_; refine (if_neg c_2).trans ?_; refine (if_neg c_4).trans ?_; refine (if_pos c_7).trans ?_; rfl
        have hP9 := hP.sub (ws' := []) [] rfl
        have hD9 := hD.sub (ws' := []) [] (by decide) rfl
        have hK9 := hK.sub (tys' := []) [] rfl
        exact W.lret (v := r_8) hx hb hr (fun t ht hW => ⟨⟨r_8, (), rfl, hpost, by rw [ht]; exact hP9, va_K.moved hW.alike hK9, hD9⟩, hS.F ht⟩) hS.2.2 dX12_counted_50
      · refine lv_iload_n hx hb dX12_counted_37 rfl (lv_at hl 3 rfl) ?_
        refine lv_iload_n hx hb dX12_counted_38 rfl (lv_at hl 2 rfl) ?_
        refine lv_icmp_ge (tgt := 51) hx hb dX12_counted_39 (by decide) (fun c_9 => ?_) (fun c_9 => ?_)
        · refine lv_aload_n hx hb dX12_counted_51 rfl (lv_at hl 0 rfl) ?_
          refine lv_iload_n hx hb dX12_counted_52 rfl (lv_at hl 1 rfl) ?_
          refine lv_iload_n hx hb dX12_counted_53 rfl (lv_at hl 2 rfl) ?_
          refine lv_iload_n hx hb dX12_counted_54 rfl (lv_at hl 3 rfl) ?_
          have hPc := hP.sub (ws' := [(h0, .inr (11, (fs_h0.set 0 (.int 0))))]) [0] rfl
          have hDc := hD.sub (ws' := [(h0, .inr (11, (fs_h0.set 0 (.int 0))))]) [0] (by decide) rfl
          have hKc := hK.sub (tys' := []) [] rfl
          have hFc := va_free (wc := [(h0, .inr (11, (fs_h0.set 0 (.int 0))))]) hD hS hA [0] rfl
          refine va_callv (va_runV (As := [.int p0, .int p1, .int p2]) (rest := []) ⟨hx, hb, hml, hown, hts⟩ (k_X12_countsPlain l dC dI H.size h0 (fs_h0.set 0 (.int 0)) p0 p1 p2 (List.length_set.trans hn_h0)) (cwV 3 hts gX12_counted_X12_countsPlain rfl rfl rfl (by decide +kernel) ⟨Nat.le_of_ble_eq_true rfl, Nat.le_of_ble_eq_true rfl⟩) ⟨fun a U g mk q => by obtain ⟨q0, q1, qP, qK, qD⟩ := q; exact ⟨q0, q1, qP, va_K.moved (u := U) (U := U.calling g mk a) (Vm.Alike.refl U.vm) qK, qD⟩, va_recv hKc hPc (ci := 11) (q0 := 0) rfl rfl, fun U hU hW => ⟨rfl, by rw [hU], by rw [hU]; exact hPc, va_K.moved hW.alike hKc, hDc.weaken (fun _ _ _ _ => trivial)⟩⟩ rfl rfl hl.1 rfl (lv_room (Nat.le_of_ble_eq_true rfl)) dX12_counted_55 ⟨Nat.le_of_ble_eq_true rfl, Nat.le_of_ble_eq_true rfl⟩) hS (fun q _ h => hFc q h) hFc (fun u t H1 locs ht hvm hw hB hz1 hk1 hS => ?_)
          obtain ⟨hP1, hK1, hD1⟩ := hB
          rw [ht] at hP1
          have hK1 := va_K.moved hvm.symm hK1
          obtain ⟨hP, hD⟩ := va_join (wr := []) (w1 := [(h0, .inr (11, (((fs_h0.set 0 (.int 0)).set 3 (.long ((f_X12_countsPlain p0 p1 p2).1))).set 4 (.long ((f_X12_countsPlain p0 p1 p2).2)))))]) hP hD [0] [] rfl rfl (by decide) (by decide) hk1 hFc hP1 hD1
          generalize H1 = H at hP hS ⊢
          have hP : va_P (dC, dI) vwCl [(h0, .inr (11, (((fs_h0.set 0 (.int 0)).set 3 (.long ((f_X12_countsPlain p0 p1 p2).1))).set 4 (.long ((f_X12_countsPlain p0 p1 p2).2)))))] H := hP
          have hD : va_D A [(h0, .inr (11, (((fs_h0.set 0 (.int 0)).set 3 (.long ((f_X12_countsPlain p0 p1 p2).1))).set 4 (.long ((f_X12_countsPlain p0 p1 p2).2)))))] := hD
          refine lv_aload_n hx hb dX12_counted_58 rfl (lv_at hl 0 rfl) ?_
          refine lv_iload hx hb dX12_counted_59 (lv_at hl 4 rfl) ?_
          have hPc := hP.sub (ws' := [(h0, .inr (11, (((fs_h0.set 0 (.int 0)).set 3 (.long ((f_X12_countsPlain p0 p1 p2).1))).set 4 (.long ((f_X12_countsPlain p0 p1 p2).2)))))]) [0] rfl
          have hDc := hD.sub (ws' := [(h0, .inr (11, (((fs_h0.set 0 (.int 0)).set 3 (.long ((f_X12_countsPlain p0 p1 p2).1))).set 4 (.long ((f_X12_countsPlain p0 p1 p2).2)))))]) [0] (by decide) rfl
          have hKc := hK.sub (tys' := []) [] rfl
          have hFc := va_free (wc := [(h0, .inr (11, (((fs_h0.set 0 (.int 0)).set 3 (.long ((f_X12_countsPlain p0 p1 p2).1))).set 4 (.long ((f_X12_countsPlain p0 p1 p2).2)))))]) hD hS hA [0] rfl
          refine va_calll (va_runV (As := [.int p3]) (rest := []) ⟨hx, hb, hml, hown, hts⟩ (k_X12_part l dC dI H.size h0 (((fs_h0.set 0 (.int 0)).set 3 (.long ((f_X12_countsPlain p0 p1 p2).1))).set 4 (.long ((f_X12_countsPlain p0 p1 p2).2))) ((f_X12_countsPlain p0 p1 p2).1) ((f_X12_countsPlain p0 p1 p2).2) p3 (List.length_set.trans (List.length_set.trans (List.length_set.trans hn_h0))) ((List.getElem?_set_ne (by decide)).trans (List.getElem?_set_self (by rw [(List.length_set.trans hn_h0)]; decide))) (List.getElem?_set_self (by rw [(List.length_set.trans (List.length_set.trans hn_h0))]; decide))) (cwV 1 hts gX12_counted_X12_part rfl rfl rfl (by decide +kernel) ⟨Nat.le_of_ble_eq_true rfl, Nat.le_of_ble_eq_true rfl⟩) ⟨fun a U g mk q => by obtain ⟨q0, q1, qP, qK, qD⟩ := q; exact ⟨q0, q1, qP, va_K.moved (u := U) (U := U.calling g mk a) (Vm.Alike.refl U.vm) qK, qD⟩, va_recv hKc hPc (ci := 11) (q0 := 0) rfl rfl, fun U hU hW => ⟨rfl, by rw [hU], by rw [hU]; exact hPc, va_K.moved hW.alike hKc, hDc.weaken (fun _ _ _ _ => trivial)⟩⟩ rfl rfl hl.1 rfl (lv_room (Nat.le_of_ble_eq_true rfl)) dX12_counted_61 ⟨Nat.le_of_ble_eq_true rfl, Nat.le_of_ble_eq_true rfl⟩) hS (fun q _ h => hFc q h) hFc (fun r_11 u t H1 locs ht hvm hw hB hz1 hk1 hS => ?_)
          obtain ⟨hP1, hK1, hD1⟩ := hB
          rw [ht] at hP1
          have hK1 := va_K.moved hvm.symm hK1
          obtain ⟨hP, hD⟩ := va_join (wr := []) (w1 := []) hP hD [0] [] rfl rfl (by decide) (by decide) hk1 hFc hP1 hD1
          generalize H1 = H at hP hS ⊢
          have hP : va_P (dC, dI) vwCl [] H := hP
          have hD : va_D A [] := hD
          have er_11 : r_11 = f_X12_part ((f_X12_countsPlain p0 p1 p2).1) ((f_X12_countsPlain p0 p1 p2).2) p3 := hw
          have hpost : r_11 = f_X12_counted p0 p1 p2 p3 := by subst er_1 er_3 er_6 er_11; refine Eq.symm ?_; refine (if_neg c_2).trans ?_; refine (if_neg c_4).trans ?_; refine (if_neg c_7).trans ?_; refine (if_pos c_9).trans ?_; rfl
          have hP9 := hP.sub (ws' := []) [] rfl
          have hD9 := hD.sub (ws' := []) [] (by decide) rfl
          have hK9 := hK.sub (tys' := []) [] rfl
          exact W.lret (v := r_11) hx hb hr (fun t ht hW => ⟨⟨r_11, (), rfl, hpost, by rw [ht]; exact hP9, va_K.moved hW.alike hK9, hD9⟩, hS.F ht⟩) hS.2.2 dX12_counted_64
        · refine lv_aload_n hx hb dX12_counted_42 rfl (lv_at hl 0 rfl) ?_
          refine lv_iconst (v := 2) hx hb dX12_counted_43 (by decide) ?_
          refine lv_ldc2 (v := (-1)) hx hb hown (hts (.constantLong RX12 428 (-1)) (by decide +kernel)) dX12_counted_44 ?_
          have hPc := hP.sub (ws' := [(h0, .inr (11, (fs_h0.set 0 (.int 0))))]) [0] rfl
          have hDc := hD.sub (ws' := [(h0, .inr (11, (fs_h0.set 0 (.int 0))))]) [0] (by decide) rfl
          have hKc := hK.sub (tys' := []) [] rfl
          have hFc := va_free (wc := [(h0, .inr (11, (fs_h0.set 0 (.int 0))))]) hD hS hA [0] rfl
          refine va_calll (va_runV (As := [.int 2, .long (-1)]) (rest := []) ⟨hx, hb, hml, hown, hts⟩ (k_X12_refusedLong l dC dI H.size h0 (fs_h0.set 0 (.int 0)) 2 (-1) (List.length_set.trans hn_h0)) (cwV 2 hts gX12_counted_X12_refusedLong rfl rfl rfl (by decide +kernel) ⟨Nat.le_of_ble_eq_true rfl, Nat.le_of_ble_eq_true rfl⟩) ⟨fun a U g mk q => by obtain ⟨q0, q1, qP, qK, qD⟩ := q; exact ⟨q0, q1, qP, va_K.moved (u := U) (U := U.calling g mk a) (Vm.Alike.refl U.vm) qK, qD⟩, va_recv hKc hPc (ci := 11) (q0 := 0) rfl rfl, fun U hU hW => ⟨rfl, by rw [hU], by rw [hU]; exact hPc, va_K.moved hW.alike hKc, hDc.weaken (fun _ _ _ _ => trivial)⟩⟩ rfl rfl hl.1 rfl (lv_room (Nat.le_of_ble_eq_true rfl)) dX12_counted_47 ⟨Nat.le_of_ble_eq_true rfl, Nat.le_of_ble_eq_true rfl⟩) hS (fun q _ h => hFc q h) hFc (fun r_12 u t H1 locs ht hvm hw hB hz1 hk1 hS => ?_)
          obtain ⟨hP1, hK1, hD1⟩ := hB
          rw [ht] at hP1
          have hK1 := va_K.moved hvm.symm hK1
          obtain ⟨hP, hD⟩ := va_join (wr := []) (w1 := []) hP hD [0] [] rfl rfl (by decide) (by decide) hk1 hFc hP1 hD1
          generalize H1 = H at hP hS ⊢
          have hP : va_P (dC, dI) vwCl [] H := hP
          have hD : va_D A [] := hD
          have er_12 : r_12 = f_X12_refusedLong 2 (-1) := hw
          have hpost : r_12 = f_X12_counted p0 p1 p2 p3 := by subst er_1 er_3 er_6 er_12; refine Eq.symm ?_; refine (if_neg c_2).trans ?_; refine (if_neg c_4).trans ?_; refine (if_neg c_7).trans ?_; refine (if_neg c_9).trans ?_; rfl
          have hP9 := hP.sub (ws' := []) [] rfl
          have hD9 := hD.sub (ws' := []) [] (by decide) rfl
          have hK9 := hK.sub (tys' := []) [] rfl
          exact W.lret (v := r_12) hx hb hr (fun t ht hW => ⟨⟨r_12, (), rfl, hpost, by rw [ht]; exact hP9, va_K.moved hW.alike hK9, hD9⟩, hS.F ht⟩) hS.2.2 dX12_counted_50
  · refine lv_aload_n hx hb dX12_counted_14 rfl (lv_at hl 0 rfl) ?_
    refine lv_iconst (v := 1) hx hb dX12_counted_15 (by decide) ?_
    refine lv_ldc2 (v := (-1)) hx hb hown (hts (.constantLong RX12 428 (-1)) (by decide +kernel)) dX12_counted_16 ?_
    have hPc := hP.sub (ws' := [(h0, .inr (11, (fs_h0.set 0 (.int 0))))]) [0] rfl
    have hDc := hD.sub (ws' := [(h0, .inr (11, (fs_h0.set 0 (.int 0))))]) [0] (by decide) rfl
    have hKc := hK.sub (tys' := []) [] rfl
    have hFc := va_free (wc := [(h0, .inr (11, (fs_h0.set 0 (.int 0))))]) hD hS hA [0] rfl
    refine va_calll (va_runV (As := [.int 1, .long (-1)]) (rest := []) ⟨hx, hb, hml, hown, hts⟩ (k_X12_refusedLong l dC dI H.size h0 (fs_h0.set 0 (.int 0)) 1 (-1) (List.length_set.trans hn_h0)) (cwV 2 hts gX12_counted_X12_refusedLong rfl rfl rfl (by decide +kernel) ⟨Nat.le_of_ble_eq_true rfl, Nat.le_of_ble_eq_true rfl⟩) ⟨fun a U g mk q => by obtain ⟨q0, q1, qP, qK, qD⟩ := q; exact ⟨q0, q1, qP, va_K.moved (u := U) (U := U.calling g mk a) (Vm.Alike.refl U.vm) qK, qD⟩, va_recv hKc hPc (ci := 11) (q0 := 0) rfl rfl, fun U hU hW => ⟨rfl, by rw [hU], by rw [hU]; exact hPc, va_K.moved hW.alike hKc, hDc.weaken (fun _ _ _ _ => trivial)⟩⟩ rfl rfl hl.1 rfl (lv_room (Nat.le_of_ble_eq_true rfl)) dX12_counted_19 ⟨Nat.le_of_ble_eq_true rfl, Nat.le_of_ble_eq_true rfl⟩) hS (fun q _ h => hFc q h) hFc (fun r_13 u t H1 locs ht hvm hw hB hz1 hk1 hS => ?_)
    obtain ⟨hP1, hK1, hD1⟩ := hB
    rw [ht] at hP1
    have hK1 := va_K.moved hvm.symm hK1
    obtain ⟨hP, hD⟩ := va_join (wr := []) (w1 := []) hP hD [0] [] rfl rfl (by decide) (by decide) hk1 hFc hP1 hD1
    generalize H1 = H at hP hS ⊢
    have hP : va_P (dC, dI) vwCl [] H := hP
    have hD : va_D A [] := hD
    have er_13 : r_13 = f_X12_refusedLong 1 (-1) := hw
    have hpost : r_13 = f_X12_counted p0 p1 p2 p3 := by subst er_1 er_13; refine Eq.symm ?_; refine (if_pos c_2).trans ?_; rfl
    have hP9 := hP.sub (ws' := []) [] rfl
    have hD9 := hD.sub (ws' := []) [] (by decide) rfl
    have hK9 := hK.sub (tys' := []) [] rfl
    exact W.lret (v := r_13) hx hb hr (fun t ht hW => ⟨⟨r_13, (), rfl, hpost, by rw [ht]; exact hP9, va_K.moved hW.alike hK9, hD9⟩, hS.F ht⟩) hS.2.2 dX12_counted_22
def f_X11_business (p0 : Int32) : Int32 :=
  let r_1 : Int32 := f_X3_isDate p0
  if r_1 = 0 then
    (-1)
  else
    let r_3 : Int32 := f_X3_dayOf p0
    let r_4 : Int32 := f_X5_isBusinessDay r_3
    if r_4 = 0 then
      0
    else
      1
set_option maxHeartbeats 4000000 in
set_option maxRecDepth 100000 in
theorem k_X11_business (l : Launch) (dC : Nat → ClassId) (dI : Nat → Nat → Nat) (sz : Nat) (h0 : Nat) (fs_h0 : List Value) (li : Nat) (fs_li : List Value) (ho : Nat) (fs_ho : List Value) (p0 : Int32) (hn_h0 : fs_h0.length = 15) (hf_h0_8 : fs_h0[8]? = some (.ref li)) (hn_li : fs_li.length = 12) (hf_li_2 : fs_li[2]? = some (.ref ho)) (hn_ho : fs_ho.length = 2) (hf_ho_1 : fs_ho[1]? = some (.int 0)) : Met l yX11_business wsX11_business ({ frames := 3, cells := 0, slots := 0, locals := 63 }) (va_Pc [.ref h0, .int p0] (fun U => U.heap.size = sz ∧ va_P (dC, dI) vwCl [(h0, .inr (10, fs_h0)), (li, .inr (3, fs_li)), (ho, .inr (4, fs_ho))] U.heap ∧ va_K (dC, dI) vwCl [] U ∧ va_D (fun _ => True) [(h0, .inr (10, fs_h0)), (li, .inr (3, fs_li)), (ho, .inr (4, fs_ho))])) (va_Qi (fun (r : Int32) (_ : Unit) => r = f_X11_business p0) (fun _ t => va_P (dC, dI) vwCl [] t.heap ∧ va_K (dC, dI) vwCl [] t ∧ va_D (va_A [(h0, .inr (10, fs_h0)), (li, .inr (3, fs_li)), (ho, .inr (4, fs_ho))] sz) []) (va_A [(h0, .inr (10, fs_h0)), (li, .inr (3, fs_li)), (ho, .inr (4, fs_ho))] sz)) 0 0 (va_A [(h0, .inr (10, fs_h0)), (li, .inr (3, fs_li)), (ho, .inr (4, fs_ho))] sz) := by
  refine Met.ofW (cc := cX11_business) (maxL := 2) (ret := (some .int)) (by decide) rfl ?_
  intro p e s m args below meth c s₁ B hml hv
  obtain ⟨rfl, hsz, hP, hK, hD0⟩ := hv
  have hx := B.exec
  have hb := B.bytes
  have hr := B.returns
  have hts := atoms_spec (ws := wsX11_business) B.pre
  have hown : s.vm.findClass RX11 = some m.cls := findClass_of_methodNamed B.named
  have hlocks := B.notSynchronized
  have hinX11 : ∀ w ∈ u_ws RX11 TX11 15, w ∈ wsX11_business := (fun _ h9 => List.mem_cons_of_mem _ (List.mem_append_left _ (List.mem_append_left _ (List.mem_append_right _ h9))))
  have hinX4 : ∀ w ∈ u_ws RX4 TX4 12, w ∈ wsX11_business := (fun _ h9 => List.mem_cons_of_mem _ (List.mem_append_left _ (List.mem_append_right _ h9)))
  subst hsz
  have hD := hD0.self (sz := s.heap.size)
  generalize hAe : va_A [(h0, .inr (10, fs_h0)), (li, .inr (3, fs_li)), (ho, .inr (4, fs_ho))] s.heap.size = A at hD ⊢
  have hA : ∀ q : Nat, s.heap.size ≤ q → A q := fun q h => by rw [← hAe]; exact Or.inr h
  have hS : va_S A s.heap s.heap [] := va_S.rf
  have hP : va_P (dC, dI) vwCl [(h0, .inr (10, fs_h0)), (li, .inr (3, fs_li)), (ho, .inr (4, fs_ho))] s.heap := hP
  have hl := lv_entry ([.ref h0, .int p0]) (n := 2) (Nat.le_of_ble_eq_true rfl)
  rw [lg_entry_eq]
  generalize (lg_sl ([.ref h0, .int p0]) ++ List.replicate (2 - (lg_sl ([.ref h0, .int p0])).length) Slot.unset).toArray = ls at hl ⊢
  have hl : lv_has ls 2 [(0, .ref h0), (1, .int p0)] := hl
  refine lv_iload_n hx hb dX11_business_0 rfl (lv_at hl 1 rfl) ?_
  have hPc := hP.sub (ws' := []) [] rfl
  have hDc := hD.sub (ws' := []) [] (by decide) rfl
  have hKc := hK.sub (tys' := []) [] rfl
  have hFc := va_free (wc := []) hD hS hA [] rfl
  refine va_calli (va_runS (As := [.int p0]) (rest := []) ⟨hx, hb, hml, hown, hts⟩ (k_X3_isDate l dC dI s.heap.size p0) (va_cwS 1 hts gX11_business_X3_isDate rfl rfl rfl (by decide +kernel) ⟨Nat.le_of_ble_eq_true rfl, Nat.le_of_ble_eq_true rfl⟩) ⟨fun a U g mk q => by obtain ⟨q0, q1, qP, qK, qD⟩ := q; exact ⟨q0, q1, qP, va_K.moved (u := U) (U := U.calling g mk a) (Vm.Alike.refl U.vm) qK, qD⟩, fun U hU hW => ⟨rfl, by rw [hU], by rw [hU]; exact hPc, va_K.moved hW.alike hKc, hDc.weaken (fun _ _ _ _ => trivial)⟩⟩ rfl rfl hl.1 rfl (lv_room (Nat.le_of_ble_eq_true rfl)) dX11_business_1 ⟨Nat.le_of_ble_eq_true rfl, Nat.le_of_ble_eq_true rfl⟩) hS (fun q _ h => hFc q h) hFc (fun r_1 u t H1 locs ht hvm hw hB hz1 hk1 hS => ?_)
  obtain ⟨hP1, hK1, hD1⟩ := hB
  rw [ht] at hP1
  have hK1 := va_K.moved hvm.symm hK1
  obtain ⟨hP, hD⟩ := va_join (wr := [(h0, .inr (10, fs_h0)), (li, .inr (3, fs_li)), (ho, .inr (4, fs_ho))]) (w1 := []) hP hD [] [0, 1, 2] rfl rfl (by decide) (by decide) hk1 hFc hP1 hD1
  generalize H1 = H at hP hS ⊢
  have hP : va_P (dC, dI) vwCl [(h0, .inr (10, fs_h0)), (li, .inr (3, fs_li)), (ho, .inr (4, fs_ho))] H := hP
  have hD : va_D A [(h0, .inr (10, fs_h0)), (li, .inr (3, fs_li)), (ho, .inr (4, fs_ho))] := hD
  have er_1 : r_1 = f_X3_isDate p0 := hw
  refine lv_if_ne (tgt := 13) hx hb dX11_business_4 (by decide) (fun c_2 => ?_) (fun c_2 => ?_)
  · refine lv_aload_n hx hb dX11_business_13 rfl (lv_at hl 0 rfl) ?_
    refine lv_iconst (v := 0) hx hb dX11_business_14 (by decide) ?_
    refine va_put (D := (dC, dI)) (ci := 10) (v := .int 0) (C := RX11) (T := TX11) (N := 15) hx hb hts hinX11 tyX11 tyX11_ok nmX11 hown hK hP hD hS 0 rfl rfl 12 (by decide) (hts (.fieldLink RX11 74 "BondCalendars" "refusal" "I") (by decide +kernel)) (fun _ h9 => h9) rfl (ty := .int) (by decide +kernel) rfl rfl (by rw [hn_h0]; decide) dX11_business_15 (fun H locs hP hD hS => ?_)
    have hP : va_P (dC, dI) vwCl [(h0, .inr (10, (fs_h0.set 12 (.int 0)))), (li, .inr (3, fs_li)), (ho, .inr (4, fs_ho))] H := hP
    have hD : va_D A [(h0, .inr (10, (fs_h0.set 12 (.int 0)))), (li, .inr (3, fs_li)), (ho, .inr (4, fs_ho))] := hD
    refine lv_aload_n hx hb dX11_business_18 rfl (lv_at hl 0 rfl) ?_
    refine va_get (D := (dC, dI)) (ci := 10) (v := .ref li) (C := RX11) (T := TX11) (N := 15) hx hb hts hinX11 hown hK hP 0 rfl rfl 8 (by decide) (hts (.fieldLink RX11 60 "BondCalendars" "live" "LBondCalendars$Desk;") (by decide +kernel)) (fun _ h9 => h9) ((List.getElem?_set_ne (by decide)).trans hf_h0_8) dX11_business_19 ?_
    refine va_get (D := (dC, dI)) (ci := 3) (v := .ref ho) (C := RX4) (T := TX4) (N := 12) hx hb hts hinX4 hown hK hP 1 rfl rfl 2 (by decide) (hts (.fieldLink RX11 146 "BondCalendars$Desk" "holidays" "LBondCalendars$Holidays;") (by decide +kernel)) (fun _ h9 => h9) hf_li_2 dX11_business_22 ?_
    refine lv_iload_n hx hb dX11_business_25 rfl (lv_at hl 1 rfl) ?_
    have hPc := hP.sub (ws' := []) [] rfl
    have hDc := hD.sub (ws' := []) [] (by decide) rfl
    have hKc := hK.sub (tys' := []) [] rfl
    have hFc := va_free (wc := []) hD hS hA [] rfl
    refine va_calli (va_runS (As := [.int p0]) (rest := [.ref ho]) ⟨hx, hb, hml, hown, hts⟩ (k_X3_dayOf l dC dI H.size p0) (va_cwS 1 hts gX11_business_X3_dayOf rfl rfl rfl (by decide +kernel) ⟨Nat.le_of_ble_eq_true rfl, Nat.le_of_ble_eq_true rfl⟩) ⟨fun a U g mk q => by obtain ⟨q0, q1, qP, qK, qD⟩ := q; exact ⟨q0, q1, qP, va_K.moved (u := U) (U := U.calling g mk a) (Vm.Alike.refl U.vm) qK, qD⟩, fun U hU hW => ⟨rfl, by rw [hU], by rw [hU]; exact hPc, va_K.moved hW.alike hKc, hDc.weaken (fun _ _ _ _ => trivial)⟩⟩ rfl rfl hl.1 rfl (lv_room (Nat.le_of_ble_eq_true rfl)) dX11_business_26 ⟨Nat.le_of_ble_eq_true rfl, Nat.le_of_ble_eq_true rfl⟩) hS (fun q _ h => hFc q h) hFc (fun r_3 u t H1 locs ht hvm hw hB hz1 hk1 hS => ?_)
    obtain ⟨hP1, hK1, hD1⟩ := hB
    rw [ht] at hP1
    have hK1 := va_K.moved hvm.symm hK1
    obtain ⟨hP, hD⟩ := va_join (wr := [(h0, .inr (10, (fs_h0.set 12 (.int 0)))), (li, .inr (3, fs_li)), (ho, .inr (4, fs_ho))]) (w1 := []) hP hD [] [0, 1, 2] rfl rfl (by decide) (by decide) hk1 hFc hP1 hD1
    generalize H1 = H at hP hS ⊢
    have hP : va_P (dC, dI) vwCl [(h0, .inr (10, (fs_h0.set 12 (.int 0)))), (li, .inr (3, fs_li)), (ho, .inr (4, fs_ho))] H := hP
    have hD : va_D A [(h0, .inr (10, (fs_h0.set 12 (.int 0)))), (li, .inr (3, fs_li)), (ho, .inr (4, fs_ho))] := hD
    have er_3 : r_3 = f_X3_dayOf p0 := hw
    have hPc := hP.sub (ws' := [(ho, .inr (4, fs_ho))]) [2] rfl
    have hDc := hD.sub (ws' := [(ho, .inr (4, fs_ho))]) [2] (by decide) rfl
    have hKc := hK.sub (tys' := []) [] rfl
    have hFc := va_free (wc := [(ho, .inr (4, fs_ho))]) hD hS hA [2] rfl
    refine va_calli (va_runV (As := [.int r_3]) (rest := []) ⟨hx, hb, hml, hown, hts⟩ (k_X5_isBusinessDay l dC dI H.size ho fs_ho r_3 hn_ho hf_ho_1) (cwV 1 hts gX11_business_X5_isBusinessDay rfl rfl rfl (by decide +kernel) ⟨Nat.le_of_ble_eq_true rfl, Nat.le_of_ble_eq_true rfl⟩) ⟨fun a U g mk q => by obtain ⟨q0, q1, qP, qK, qD⟩ := q; exact ⟨q0, q1, qP, va_K.moved (u := U) (U := U.calling g mk a) (Vm.Alike.refl U.vm) qK, qD⟩, va_recv hKc hPc (ci := 4) (q0 := 0) rfl rfl, fun U hU hW => ⟨rfl, by rw [hU], by rw [hU]; exact hPc, va_K.moved hW.alike hKc, hDc.weaken (fun _ _ _ _ => trivial)⟩⟩ rfl rfl hl.1 rfl (lv_room (Nat.le_of_ble_eq_true rfl)) dX11_business_29 ⟨Nat.le_of_ble_eq_true rfl, Nat.le_of_ble_eq_true rfl⟩) hS (fun q _ h => hFc q h) hFc (fun r_4 u t H1 locs ht hvm hw hB hz1 hk1 hS => ?_)
    obtain ⟨hP1, hK1, hD1⟩ := hB
    rw [ht] at hP1
    have hK1 := va_K.moved hvm.symm hK1
    obtain ⟨hP, hD⟩ := va_join (wr := [(h0, .inr (10, (fs_h0.set 12 (.int 0)))), (li, .inr (3, fs_li))]) (w1 := [(ho, .inr (4, fs_ho))]) hP hD [2] [0, 1] rfl rfl (by decide) (by decide) hk1 hFc hP1 hD1
    generalize H1 = H at hP hS ⊢
    have hP : va_P (dC, dI) vwCl [(h0, .inr (10, (fs_h0.set 12 (.int 0)))), (li, .inr (3, fs_li)), (ho, .inr (4, fs_ho))] H := hP
    have hD : va_D A [(h0, .inr (10, (fs_h0.set 12 (.int 0)))), (li, .inr (3, fs_li)), (ho, .inr (4, fs_ho))] := hD
    have er_4 : r_4 = f_X5_isBusinessDay r_3 := hw
    refine lv_if_eq (tgt := 39) hx hb dX11_business_32 (by decide) (fun c_5 => ?_) (fun c_5 => ?_)
    · refine lv_iconst (v := 0) hx hb dX11_business_39 (by decide) ?_
      have hpost : 0 = f_X11_business p0 := by subst er_1 er_3 er_4; refine Eq.symm ?_; refine (if_neg c_2).trans ?_; refine (if_pos c_5).trans ?_; rfl
      have hP9 := hP.sub (ws' := []) [] rfl
      have hD9 := hD.sub (ws' := []) [] (by decide) rfl
      have hK9 := hK.sub (tys' := []) [] rfl
      exact W.iret (v := 0) hx hb hr (fun t ht hW => ⟨⟨0, (), rfl, hpost, by rw [ht]; exact hP9, va_K.moved hW.alike hK9, hD9⟩, hS.F ht⟩) hS.2.2 dX11_business_40
    · refine lv_iconst (v := 1) hx hb dX11_business_35 (by decide) ?_
      refine lv_goto (tgt := 40) hx hb dX11_business_36 (by decide) ?_
      have hpost : 1 = f_X11_business p0 := by subst er_1 er_3 er_4; refine Eq.symm ?_; refine (if_neg c_2).trans ?_; refine (if_neg c_5).trans ?_; rfl
      have hP9 := hP.sub (ws' := []) [] rfl
      have hD9 := hD.sub (ws' := []) [] (by decide) rfl
      have hK9 := hK.sub (tys' := []) [] rfl
      exact W.iret (v := 1) hx hb hr (fun t ht hW => ⟨⟨1, (), rfl, hpost, by rw [ht]; exact hP9, va_K.moved hW.alike hK9, hD9⟩, hS.F ht⟩) hS.2.2 dX11_business_40
  · refine lv_aload_n hx hb dX11_business_7 rfl (lv_at hl 0 rfl) ?_
    refine lv_iconst (v := 2) hx hb dX11_business_8 (by decide) ?_
    have hPc := hP.sub (ws' := [(h0, .inr (10, fs_h0))]) [0] rfl
    have hDc := hD.sub (ws' := [(h0, .inr (10, fs_h0))]) [0] (by decide) rfl
    have hKc := hK.sub (tys' := []) [] rfl
    have hFc := va_free (wc := [(h0, .inr (10, fs_h0))]) hD hS hA [0] rfl
    refine va_calli (va_runV (As := [.int 2]) (rest := []) ⟨hx, hb, hml, hown, hts⟩ (k_X11_refuse l dC dI H.size h0 fs_h0 2 hn_h0) (cwV 1 hts gX11_business_X11_refuse rfl rfl rfl (by decide +kernel) ⟨Nat.le_of_ble_eq_true rfl, Nat.le_of_ble_eq_true rfl⟩) ⟨fun a U g mk q => by obtain ⟨q0, q1, qP, qK, qD⟩ := q; exact ⟨q0, q1, qP, va_K.moved (u := U) (U := U.calling g mk a) (Vm.Alike.refl U.vm) qK, qD⟩, va_recv hKc hPc (ci := 10) (q0 := 0) rfl rfl, fun U hU hW => ⟨rfl, by rw [hU], by rw [hU]; exact hPc, va_K.moved hW.alike hKc, hDc.weaken (fun _ _ _ _ => trivial)⟩⟩ rfl rfl hl.1 rfl (lv_room (Nat.le_of_ble_eq_true rfl)) dX11_business_9 ⟨Nat.le_of_ble_eq_true rfl, Nat.le_of_ble_eq_true rfl⟩) hS (fun q _ h => hFc q h) hFc (fun r_6 u t H1 locs ht hvm hw hB hz1 hk1 hS => ?_)
    obtain ⟨hP1, hK1, hD1⟩ := hB
    rw [ht] at hP1
    have hK1 := va_K.moved hvm.symm hK1
    obtain ⟨hP, hD⟩ := va_join (wr := [(li, .inr (3, fs_li)), (ho, .inr (4, fs_ho))]) (w1 := []) hP hD [0] [1, 2] rfl rfl (by decide) (by decide) hk1 hFc hP1 hD1
    generalize H1 = H at hP hS ⊢
    have hP : va_P (dC, dI) vwCl [(li, .inr (3, fs_li)), (ho, .inr (4, fs_ho))] H := hP
    have hD : va_D A [(li, .inr (3, fs_li)), (ho, .inr (4, fs_ho))] := hD
    have er_6 : r_6 = (-1) := hw
    subst er_6
    have hpost : (-1) = f_X11_business p0 := by subst er_1; refine Eq.symm ?_; refine (if_pos c_2).trans ?_; rfl
    have hP9 := hP.sub (ws' := []) [] rfl
    have hD9 := hD.sub (ws' := []) [] (by decide) rfl
    have hK9 := hK.sub (tys' := []) [] rfl
    exact W.iret (v := (-1)) hx hb hr (fun t ht hW => ⟨⟨(-1), (), rfl, hpost, by rw [ht]; exact hP9, va_K.moved hW.alike hK9, hD9⟩, hS.F ht⟩) hS.2.2 dX11_business_12
def f_X12_business (p0 : Int32) : Int32 :=
  let r_1 : Int32 := f_X12_isDate p0
  if r_1 = 0 then
    (-1)
  else
    let r_3 : Int32 := f_X12_dayOf p0
    let r_4 : Int32 := f_X12_isBusiness r_3
    if r_4 = 0 then
      let r_6 : Int32 := f_X12_good 0
      r_6
    else
      let r_7 : Int32 := f_X12_good 1
      r_7
set_option maxHeartbeats 4000000 in
set_option maxRecDepth 100000 in
theorem k_X12_business (l : Launch) (dC : Nat → ClassId) (dI : Nat → Nat → Nat) (sz : Nat) (h0 : Nat) (fs_h0 : List Value) (p0 : Int32) (hn_h0 : fs_h0.length = 69) (hf_h0_22 : fs_h0[22]? = some (.int 0)) : Met l yX12_business wsX12_business ({ frames := 4, cells := 0, slots := 0, locals := 85 }) (va_Pc [.ref h0, .int p0] (fun U => U.heap.size = sz ∧ va_P (dC, dI) vwCl [(h0, .inr (11, fs_h0))] U.heap ∧ va_K (dC, dI) vwCl [] U ∧ va_D (fun _ => True) [(h0, .inr (11, fs_h0))])) (va_Qi (fun (r : Int32) (_ : Unit) => r = f_X12_business p0) (fun _ t => va_P (dC, dI) vwCl [] t.heap ∧ va_K (dC, dI) vwCl [] t ∧ va_D (va_A [(h0, .inr (11, fs_h0))] sz) []) (va_A [(h0, .inr (11, fs_h0))] sz)) 0 0 (va_A [(h0, .inr (11, fs_h0))] sz) := by
  refine Met.ofW (cc := cX12_business) (maxL := 2) (ret := (some .int)) (by decide) rfl ?_
  intro p e s m args below meth c s₁ B hml hv
  obtain ⟨rfl, hsz, hP, hK, hD0⟩ := hv
  have hx := B.exec
  have hb := B.bytes
  have hr := B.returns
  have hts := atoms_spec (ws := wsX12_business) B.pre
  have hown : s.vm.findClass RX12 = some m.cls := findClass_of_methodNamed B.named
  have hlocks := B.notSynchronized
  have hinX12 : ∀ w ∈ u_ws RX12 TX12 69, w ∈ wsX12_business := (fun _ h9 => List.mem_cons_of_mem _ (List.mem_append_right _ h9))
  subst hsz
  have hD := hD0.self (sz := s.heap.size)
  generalize hAe : va_A [(h0, .inr (11, fs_h0))] s.heap.size = A at hD ⊢
  have hA : ∀ q : Nat, s.heap.size ≤ q → A q := fun q h => by rw [← hAe]; exact Or.inr h
  have hS : va_S A s.heap s.heap [] := va_S.rf
  have hP : va_P (dC, dI) vwCl [(h0, .inr (11, fs_h0))] s.heap := hP
  have hl := lv_entry ([.ref h0, .int p0]) (n := 2) (Nat.le_of_ble_eq_true rfl)
  rw [lg_entry_eq]
  generalize (lg_sl ([.ref h0, .int p0]) ++ List.replicate (2 - (lg_sl ([.ref h0, .int p0])).length) Slot.unset).toArray = ls at hl ⊢
  have hl : lv_has ls 2 [(0, .ref h0), (1, .int p0)] := hl
  refine lv_aload_n hx hb dX12_business_0 rfl (lv_at hl 0 rfl) ?_
  refine lv_iconst (v := 0) hx hb dX12_business_1 (by decide) ?_
  refine va_put (D := (dC, dI)) (ci := 11) (v := .int 0) (C := RX12) (T := TX12) (N := 69) hx hb hts hinX12 tyX12 tyX12_ok nmX12 hown hK hP hD hS 0 rfl rfl 0 (by decide) (hts (.fieldLink RX12 107 "BondCalendarsModel" "thrown" "I") (by decide +kernel)) (fun _ h9 => h9) rfl (ty := .int) (by decide +kernel) rfl rfl (by rw [hn_h0]; decide) dX12_business_2 (fun H locs hP hD hS => ?_)
  have hP : va_P (dC, dI) vwCl [(h0, .inr (11, (fs_h0.set 0 (.int 0))))] H := hP
  have hD : va_D A [(h0, .inr (11, (fs_h0.set 0 (.int 0))))] := hD
  refine lv_iload_n hx hb dX12_business_5 rfl (lv_at hl 1 rfl) ?_
  have hPc := hP.sub (ws' := []) [] rfl
  have hDc := hD.sub (ws' := []) [] (by decide) rfl
  have hKc := hK.sub (tys' := []) [] rfl
  have hFc := va_free (wc := []) hD hS hA [] rfl
  refine va_calli (va_runS (As := [.int p0]) (rest := []) ⟨hx, hb, hml, hown, hts⟩ (k_X12_isDate l dC dI H.size p0) (va_cwS 1 hts gX12_business_X12_isDate rfl rfl rfl (by decide +kernel) ⟨Nat.le_of_ble_eq_true rfl, Nat.le_of_ble_eq_true rfl⟩) ⟨fun a U g mk q => by obtain ⟨q0, q1, qP, qK, qD⟩ := q; exact ⟨q0, q1, qP, va_K.moved (u := U) (U := U.calling g mk a) (Vm.Alike.refl U.vm) qK, qD⟩, fun U hU hW => ⟨rfl, by rw [hU], by rw [hU]; exact hPc, va_K.moved hW.alike hKc, hDc.weaken (fun _ _ _ _ => trivial)⟩⟩ rfl rfl hl.1 rfl (lv_room (Nat.le_of_ble_eq_true rfl)) dX12_business_6 ⟨Nat.le_of_ble_eq_true rfl, Nat.le_of_ble_eq_true rfl⟩) hS (fun q _ h => hFc q h) hFc (fun r_1 u t H1 locs ht hvm hw hB hz1 hk1 hS => ?_)
  obtain ⟨hP1, hK1, hD1⟩ := hB
  rw [ht] at hP1
  have hK1 := va_K.moved hvm.symm hK1
  obtain ⟨hP, hD⟩ := va_join (wr := [(h0, .inr (11, (fs_h0.set 0 (.int 0))))]) (w1 := []) hP hD [] [0] rfl rfl (by decide) (by decide) hk1 hFc hP1 hD1
  generalize H1 = H at hP hS ⊢
  have hP : va_P (dC, dI) vwCl [(h0, .inr (11, (fs_h0.set 0 (.int 0))))] H := hP
  have hD : va_D A [(h0, .inr (11, (fs_h0.set 0 (.int 0))))] := hD
  have er_1 : r_1 = f_X12_isDate p0 := hw
  refine lv_if_ne (tgt := 18) hx hb dX12_business_9 (by decide) (fun c_2 => ?_) (fun c_2 => ?_)
  · refine lv_aload_n hx hb dX12_business_18 rfl (lv_at hl 0 rfl) ?_
    refine lv_aload_n hx hb dX12_business_19 rfl (lv_at hl 0 rfl) ?_
    refine lv_iload_n hx hb dX12_business_20 rfl (lv_at hl 1 rfl) ?_
    have hPc := hP.sub (ws' := []) [] rfl
    have hDc := hD.sub (ws' := []) [] (by decide) rfl
    have hKc := hK.sub (tys' := []) [] rfl
    have hFc := va_free (wc := []) hD hS hA [] rfl
    refine va_calli (va_runS (As := [.int p0]) (rest := [.ref h0, .ref h0]) ⟨hx, hb, hml, hown, hts⟩ (k_X12_dayOf l dC dI H.size p0) (va_cwS 1 hts gX12_business_X12_dayOf rfl rfl rfl (by decide +kernel) ⟨Nat.le_of_ble_eq_true rfl, Nat.le_of_ble_eq_true rfl⟩) ⟨fun a U g mk q => by obtain ⟨q0, q1, qP, qK, qD⟩ := q; exact ⟨q0, q1, qP, va_K.moved (u := U) (U := U.calling g mk a) (Vm.Alike.refl U.vm) qK, qD⟩, fun U hU hW => ⟨rfl, by rw [hU], by rw [hU]; exact hPc, va_K.moved hW.alike hKc, hDc.weaken (fun _ _ _ _ => trivial)⟩⟩ rfl rfl hl.1 rfl (lv_room (Nat.le_of_ble_eq_true rfl)) dX12_business_21 ⟨Nat.le_of_ble_eq_true rfl, Nat.le_of_ble_eq_true rfl⟩) hS (fun q _ h => hFc q h) hFc (fun r_3 u t H1 locs ht hvm hw hB hz1 hk1 hS => ?_)
    obtain ⟨hP1, hK1, hD1⟩ := hB
    rw [ht] at hP1
    have hK1 := va_K.moved hvm.symm hK1
    obtain ⟨hP, hD⟩ := va_join (wr := [(h0, .inr (11, (fs_h0.set 0 (.int 0))))]) (w1 := []) hP hD [] [0] rfl rfl (by decide) (by decide) hk1 hFc hP1 hD1
    generalize H1 = H at hP hS ⊢
    have hP : va_P (dC, dI) vwCl [(h0, .inr (11, (fs_h0.set 0 (.int 0))))] H := hP
    have hD : va_D A [(h0, .inr (11, (fs_h0.set 0 (.int 0))))] := hD
    have er_3 : r_3 = f_X12_dayOf p0 := hw
    have hPc := hP.sub (ws' := [(h0, .inr (11, (fs_h0.set 0 (.int 0))))]) [0] rfl
    have hDc := hD.sub (ws' := [(h0, .inr (11, (fs_h0.set 0 (.int 0))))]) [0] (by decide) rfl
    have hKc := hK.sub (tys' := []) [] rfl
    have hFc := va_free (wc := [(h0, .inr (11, (fs_h0.set 0 (.int 0))))]) hD hS hA [0] rfl
    refine va_calli (va_runV (As := [.int r_3]) (rest := [.ref h0]) ⟨hx, hb, hml, hown, hts⟩ (k_X12_isBusiness l dC dI H.size h0 (fs_h0.set 0 (.int 0)) r_3 (List.length_set.trans hn_h0) ((List.getElem?_set_ne (by decide)).trans hf_h0_22)) (cwV 1 hts gX12_business_X12_isBusiness rfl rfl rfl (by decide +kernel) ⟨Nat.le_of_ble_eq_true rfl, Nat.le_of_ble_eq_true rfl⟩) ⟨fun a U g mk q => by obtain ⟨q0, q1, qP, qK, qD⟩ := q; exact ⟨q0, q1, qP, va_K.moved (u := U) (U := U.calling g mk a) (Vm.Alike.refl U.vm) qK, qD⟩, va_recv hKc hPc (ci := 11) (q0 := 0) rfl rfl, fun U hU hW => ⟨rfl, by rw [hU], by rw [hU]; exact hPc, va_K.moved hW.alike hKc, hDc.weaken (fun _ _ _ _ => trivial)⟩⟩ rfl rfl hl.1 rfl (lv_room (Nat.le_of_ble_eq_true rfl)) dX12_business_24 ⟨Nat.le_of_ble_eq_true rfl, Nat.le_of_ble_eq_true rfl⟩) hS (fun q _ h => hFc q h) hFc (fun r_4 u t H1 locs ht hvm hw hB hz1 hk1 hS => ?_)
    obtain ⟨hP1, hK1, hD1⟩ := hB
    rw [ht] at hP1
    have hK1 := va_K.moved hvm.symm hK1
    obtain ⟨hP, hD⟩ := va_join (wr := []) (w1 := [(h0, .inr (11, (fs_h0.set 0 (.int 0))))]) hP hD [0] [] rfl rfl (by decide) (by decide) hk1 hFc hP1 hD1
    generalize H1 = H at hP hS ⊢
    have hP : va_P (dC, dI) vwCl [(h0, .inr (11, (fs_h0.set 0 (.int 0))))] H := hP
    have hD : va_D A [(h0, .inr (11, (fs_h0.set 0 (.int 0))))] := hD
    have er_4 : r_4 = f_X12_isBusiness r_3 := hw
    refine lv_if_eq (tgt := 34) hx hb dX12_business_27 (by decide) (fun c_5 => ?_) (fun c_5 => ?_)
    · refine lv_iconst (v := 0) hx hb dX12_business_34 (by decide) ?_
      have hPc := hP.sub (ws' := [(h0, .inr (11, (fs_h0.set 0 (.int 0))))]) [0] rfl
      have hDc := hD.sub (ws' := [(h0, .inr (11, (fs_h0.set 0 (.int 0))))]) [0] (by decide) rfl
      have hKc := hK.sub (tys' := []) [] rfl
      have hFc := va_free (wc := [(h0, .inr (11, (fs_h0.set 0 (.int 0))))]) hD hS hA [0] rfl
      refine va_calli (va_runV (As := [.int 0]) (rest := []) ⟨hx, hb, hml, hown, hts⟩ (k_X12_good l dC dI H.size h0 (fs_h0.set 0 (.int 0)) 0 (List.length_set.trans hn_h0)) (cwV 1 hts gX12_business_X12_good rfl rfl rfl (by decide +kernel) ⟨Nat.le_of_ble_eq_true rfl, Nat.le_of_ble_eq_true rfl⟩) ⟨fun a U g mk q => by obtain ⟨q0, q1, qP, qK, qD⟩ := q; exact ⟨q0, q1, qP, va_K.moved (u := U) (U := U.calling g mk a) (Vm.Alike.refl U.vm) qK, qD⟩, va_recv hKc hPc (ci := 11) (q0 := 0) rfl rfl, fun U hU hW => ⟨rfl, by rw [hU], by rw [hU]; exact hPc, va_K.moved hW.alike hKc, hDc.weaken (fun _ _ _ _ => trivial)⟩⟩ rfl rfl hl.1 rfl (lv_room (Nat.le_of_ble_eq_true rfl)) dX12_business_35 ⟨Nat.le_of_ble_eq_true rfl, Nat.le_of_ble_eq_true rfl⟩) hS (fun q _ h => hFc q h) hFc (fun r_6 u t H1 locs ht hvm hw hB hz1 hk1 hS => ?_)
      obtain ⟨hP1, hK1, hD1⟩ := hB
      rw [ht] at hP1
      have hK1 := va_K.moved hvm.symm hK1
      obtain ⟨hP, hD⟩ := va_join (wr := []) (w1 := []) hP hD [0] [] rfl rfl (by decide) (by decide) hk1 hFc hP1 hD1
      generalize H1 = H at hP hS ⊢
      have hP : va_P (dC, dI) vwCl [] H := hP
      have hD : va_D A [] := hD
      have er_6 : r_6 = f_X12_good 0 := hw
      have hpost : r_6 = f_X12_business p0 := by simp only [f_X12_business]; rw [← er_1, if_neg c_2, ← er_3, ← er_4, if_pos c_5]; exact er_6
      have hP9 := hP.sub (ws' := []) [] rfl
      have hD9 := hD.sub (ws' := []) [] (by decide) rfl
      have hK9 := hK.sub (tys' := []) [] rfl
      exact W.iret (v := r_6) hx hb hr (fun t ht hW => ⟨⟨r_6, (), rfl, hpost, by rw [ht]; exact hP9, va_K.moved hW.alike hK9, hD9⟩, hS.F ht⟩) hS.2.2 dX12_business_38
    · refine lv_iconst (v := 1) hx hb dX12_business_30 (by decide) ?_
      refine lv_goto (tgt := 35) hx hb dX12_business_31 (by decide) ?_
      have hPc := hP.sub (ws' := [(h0, .inr (11, (fs_h0.set 0 (.int 0))))]) [0] rfl
      have hDc := hD.sub (ws' := [(h0, .inr (11, (fs_h0.set 0 (.int 0))))]) [0] (by decide) rfl
      have hKc := hK.sub (tys' := []) [] rfl
      have hFc := va_free (wc := [(h0, .inr (11, (fs_h0.set 0 (.int 0))))]) hD hS hA [0] rfl
      refine va_calli (va_runV (As := [.int 1]) (rest := []) ⟨hx, hb, hml, hown, hts⟩ (k_X12_good l dC dI H.size h0 (fs_h0.set 0 (.int 0)) 1 (List.length_set.trans hn_h0)) (cwV 1 hts gX12_business_X12_good rfl rfl rfl (by decide +kernel) ⟨Nat.le_of_ble_eq_true rfl, Nat.le_of_ble_eq_true rfl⟩) ⟨fun a U g mk q => by obtain ⟨q0, q1, qP, qK, qD⟩ := q; exact ⟨q0, q1, qP, va_K.moved (u := U) (U := U.calling g mk a) (Vm.Alike.refl U.vm) qK, qD⟩, va_recv hKc hPc (ci := 11) (q0 := 0) rfl rfl, fun U hU hW => ⟨rfl, by rw [hU], by rw [hU]; exact hPc, va_K.moved hW.alike hKc, hDc.weaken (fun _ _ _ _ => trivial)⟩⟩ rfl rfl hl.1 rfl (lv_room (Nat.le_of_ble_eq_true rfl)) dX12_business_35 ⟨Nat.le_of_ble_eq_true rfl, Nat.le_of_ble_eq_true rfl⟩) hS (fun q _ h => hFc q h) hFc (fun r_7 u t H1 locs ht hvm hw hB hz1 hk1 hS => ?_)
      obtain ⟨hP1, hK1, hD1⟩ := hB
      rw [ht] at hP1
      have hK1 := va_K.moved hvm.symm hK1
      obtain ⟨hP, hD⟩ := va_join (wr := []) (w1 := []) hP hD [0] [] rfl rfl (by decide) (by decide) hk1 hFc hP1 hD1
      generalize H1 = H at hP hS ⊢
      have hP : va_P (dC, dI) vwCl [] H := hP
      have hD : va_D A [] := hD
      have er_7 : r_7 = f_X12_good 1 := hw
      have hpost : r_7 = f_X12_business p0 := by simp only [f_X12_business]; rw [← er_1, if_neg c_2, ← er_3, ← er_4, if_neg c_5]; exact er_7
      have hP9 := hP.sub (ws' := []) [] rfl
      have hD9 := hD.sub (ws' := []) [] (by decide) rfl
      have hK9 := hK.sub (tys' := []) [] rfl
      exact W.iret (v := r_7) hx hb hr (fun t ht hW => ⟨⟨r_7, (), rfl, hpost, by rw [ht]; exact hP9, va_K.moved hW.alike hK9, hD9⟩, hS.F ht⟩) hS.2.2 dX12_business_38
  · refine lv_aload_n hx hb dX12_business_12 rfl (lv_at hl 0 rfl) ?_
    refine lv_iconst (v := 2) hx hb dX12_business_13 (by decide) ?_
    have hPc := hP.sub (ws' := [(h0, .inr (11, (fs_h0.set 0 (.int 0))))]) [0] rfl
    have hDc := hD.sub (ws' := [(h0, .inr (11, (fs_h0.set 0 (.int 0))))]) [0] (by decide) rfl
    have hKc := hK.sub (tys' := []) [] rfl
    have hFc := va_free (wc := [(h0, .inr (11, (fs_h0.set 0 (.int 0))))]) hD hS hA [0] rfl
    refine va_calli (va_runV (As := [.int 2]) (rest := []) ⟨hx, hb, hml, hown, hts⟩ (k_X12_refused l dC dI H.size h0 (fs_h0.set 0 (.int 0)) 2 (List.length_set.trans hn_h0)) (cwV 1 hts gX12_business_X12_refused rfl rfl rfl (by decide +kernel) ⟨Nat.le_of_ble_eq_true rfl, Nat.le_of_ble_eq_true rfl⟩) ⟨fun a U g mk q => by obtain ⟨q0, q1, qP, qK, qD⟩ := q; exact ⟨q0, q1, qP, va_K.moved (u := U) (U := U.calling g mk a) (Vm.Alike.refl U.vm) qK, qD⟩, va_recv hKc hPc (ci := 11) (q0 := 0) rfl rfl, fun U hU hW => ⟨rfl, by rw [hU], by rw [hU]; exact hPc, va_K.moved hW.alike hKc, hDc.weaken (fun _ _ _ _ => trivial)⟩⟩ rfl rfl hl.1 rfl (lv_room (Nat.le_of_ble_eq_true rfl)) dX12_business_14 ⟨Nat.le_of_ble_eq_true rfl, Nat.le_of_ble_eq_true rfl⟩) hS (fun q _ h => hFc q h) hFc (fun r_8 u t H1 locs ht hvm hw hB hz1 hk1 hS => ?_)
    obtain ⟨hP1, hK1, hD1⟩ := hB
    rw [ht] at hP1
    have hK1 := va_K.moved hvm.symm hK1
    obtain ⟨hP, hD⟩ := va_join (wr := []) (w1 := []) hP hD [0] [] rfl rfl (by decide) (by decide) hk1 hFc hP1 hD1
    generalize H1 = H at hP hS ⊢
    have hP : va_P (dC, dI) vwCl [] H := hP
    have hD : va_D A [] := hD
    have er_8 : r_8 = (-1) := hw
    subst er_8
    have hpost : (-1) = f_X12_business p0 := by simp only [f_X12_business]; rw [← er_1, if_pos c_2]
    have hP9 := hP.sub (ws' := []) [] rfl
    have hD9 := hD.sub (ws' := []) [] (by decide) rfl
    have hK9 := hK.sub (tys' := []) [] rfl
    exact W.iret (v := (-1)) hx hb hr (fun t ht hW => ⟨⟨(-1), (), rfl, hpost, by rw [ht]; exact hP9, va_K.moved hW.alike hK9, hD9⟩, hS.F ht⟩) hS.2.2 dX12_business_17
def f_X11_businessFrom (p0 : Int32) (p1 : Int32) : Int32 :=
  let r_1 : Int32 := f_X3_isDate p0
  if r_1 = 0 then
    (-1)
  else
    if p1 < (-60) then
      (-1)
    else
      if p1 ≤ 60 then
        let r_7 : Int32 := f_X3_dayOf p0
        let r_8 : Int32 := f_X5_businessDaysFrom r_7 p1
        let r_9 : Int32 := f_X3_numberOf r_8
        r_9
      else
        (-1)
set_option maxHeartbeats 4000000 in
set_option maxRecDepth 100000 in
theorem k_X11_businessFrom (l : Launch) (dC : Nat → ClassId) (dI : Nat → Nat → Nat) (sz : Nat) (h0 : Nat) (fs_h0 : List Value) (li : Nat) (fs_li : List Value) (ho : Nat) (fs_ho : List Value) (p0 : Int32) (p1 : Int32) (hn_h0 : fs_h0.length = 15) (hf_h0_8 : fs_h0[8]? = some (.ref li)) (hn_li : fs_li.length = 12) (hf_li_2 : fs_li[2]? = some (.ref ho)) (hn_ho : fs_ho.length = 2) (hf_ho_1 : fs_ho[1]? = some (.int 0)) : Met l yX11_businessFrom wsX11_businessFrom ({ frames := 4, cells := 0, slots := 0, locals := 89 }) (va_Pc [.ref h0, .int p0, .int p1] (fun U => U.heap.size = sz ∧ va_P (dC, dI) vwCl [(h0, .inr (10, fs_h0)), (li, .inr (3, fs_li)), (ho, .inr (4, fs_ho))] U.heap ∧ va_K (dC, dI) vwCl [] U ∧ va_D (fun _ => True) [(h0, .inr (10, fs_h0)), (li, .inr (3, fs_li)), (ho, .inr (4, fs_ho))])) (va_Qi (fun (r : Int32) (_ : Unit) => r = f_X11_businessFrom p0 p1) (fun _ t => va_P (dC, dI) vwCl [] t.heap ∧ va_K (dC, dI) vwCl [] t ∧ va_D (va_A [(h0, .inr (10, fs_h0)), (li, .inr (3, fs_li)), (ho, .inr (4, fs_ho))] sz) []) (va_A [(h0, .inr (10, fs_h0)), (li, .inr (3, fs_li)), (ho, .inr (4, fs_ho))] sz)) 0 0 (va_A [(h0, .inr (10, fs_h0)), (li, .inr (3, fs_li)), (ho, .inr (4, fs_ho))] sz) := by
  refine Met.ofW (cc := cX11_businessFrom) (maxL := 3) (ret := (some .int)) (by decide) rfl ?_
  intro p e s m args below meth c s₁ B hml hv
  obtain ⟨rfl, hsz, hP, hK, hD0⟩ := hv
  have hx := B.exec
  have hb := B.bytes
  have hr := B.returns
  have hts := atoms_spec (ws := wsX11_businessFrom) B.pre
  have hown : s.vm.findClass RX11 = some m.cls := findClass_of_methodNamed B.named
  have hlocks := B.notSynchronized
  have hinX11 : ∀ w ∈ u_ws RX11 TX11 15, w ∈ wsX11_businessFrom := (fun _ h9 => List.mem_cons_of_mem _ (List.mem_append_left _ (List.mem_append_left _ (List.mem_append_right _ h9))))
  have hinX4 : ∀ w ∈ u_ws RX4 TX4 12, w ∈ wsX11_businessFrom := (fun _ h9 => List.mem_cons_of_mem _ (List.mem_append_left _ (List.mem_append_right _ h9)))
  subst hsz
  have hD := hD0.self (sz := s.heap.size)
  generalize hAe : va_A [(h0, .inr (10, fs_h0)), (li, .inr (3, fs_li)), (ho, .inr (4, fs_ho))] s.heap.size = A at hD ⊢
  have hA : ∀ q : Nat, s.heap.size ≤ q → A q := fun q h => by rw [← hAe]; exact Or.inr h
  have hS : va_S A s.heap s.heap [] := va_S.rf
  have hP : va_P (dC, dI) vwCl [(h0, .inr (10, fs_h0)), (li, .inr (3, fs_li)), (ho, .inr (4, fs_ho))] s.heap := hP
  have hl := lv_entry ([.ref h0, .int p0, .int p1]) (n := 3) (Nat.le_of_ble_eq_true rfl)
  rw [lg_entry_eq]
  generalize (lg_sl ([.ref h0, .int p0, .int p1]) ++ List.replicate (3 - (lg_sl ([.ref h0, .int p0, .int p1])).length) Slot.unset).toArray = ls at hl ⊢
  have hl : lv_has ls 3 [(0, .ref h0), (1, .int p0), (2, .int p1)] := hl
  refine lv_iload_n hx hb dX11_businessFrom_0 rfl (lv_at hl 1 rfl) ?_
  have hPc := hP.sub (ws' := []) [] rfl
  have hDc := hD.sub (ws' := []) [] (by decide) rfl
  have hKc := hK.sub (tys' := []) [] rfl
  have hFc := va_free (wc := []) hD hS hA [] rfl
  refine va_calli (va_runS (As := [.int p0]) (rest := []) ⟨hx, hb, hml, hown, hts⟩ (k_X3_isDate l dC dI s.heap.size p0) (va_cwS 1 hts gX11_businessFrom_X3_isDate rfl rfl rfl (by decide +kernel) ⟨Nat.le_of_ble_eq_true rfl, Nat.le_of_ble_eq_true rfl⟩) ⟨fun a U g mk q => by obtain ⟨q0, q1, qP, qK, qD⟩ := q; exact ⟨q0, q1, qP, va_K.moved (u := U) (U := U.calling g mk a) (Vm.Alike.refl U.vm) qK, qD⟩, fun U hU hW => ⟨rfl, by rw [hU], by rw [hU]; exact hPc, va_K.moved hW.alike hKc, hDc.weaken (fun _ _ _ _ => trivial)⟩⟩ rfl rfl hl.1 rfl (lv_room (Nat.le_of_ble_eq_true rfl)) dX11_businessFrom_1 ⟨Nat.le_of_ble_eq_true rfl, Nat.le_of_ble_eq_true rfl⟩) hS (fun q _ h => hFc q h) hFc (fun r_1 u t H1 locs ht hvm hw hB hz1 hk1 hS => ?_)
  obtain ⟨hP1, hK1, hD1⟩ := hB
  rw [ht] at hP1
  have hK1 := va_K.moved hvm.symm hK1
  obtain ⟨hP, hD⟩ := va_join (wr := [(h0, .inr (10, fs_h0)), (li, .inr (3, fs_li)), (ho, .inr (4, fs_ho))]) (w1 := []) hP hD [] [0, 1, 2] rfl rfl (by decide) (by decide) hk1 hFc hP1 hD1
  generalize H1 = H at hP hS ⊢
  have hP : va_P (dC, dI) vwCl [(h0, .inr (10, fs_h0)), (li, .inr (3, fs_li)), (ho, .inr (4, fs_ho))] H := hP
  have hD : va_D A [(h0, .inr (10, fs_h0)), (li, .inr (3, fs_li)), (ho, .inr (4, fs_ho))] := hD
  have er_1 : r_1 = f_X3_isDate p0 := hw
  refine lv_if_eq (tgt := 19) hx hb dX11_businessFrom_4 (by decide) (fun c_2 => ?_) (fun c_2 => ?_)
  · refine lv_aload_n hx hb dX11_businessFrom_19 rfl (lv_at hl 0 rfl) ?_
    refine lv_iconst (v := 2) hx hb dX11_businessFrom_20 (by decide) ?_
    have hPc := hP.sub (ws' := [(h0, .inr (10, fs_h0))]) [0] rfl
    have hDc := hD.sub (ws' := [(h0, .inr (10, fs_h0))]) [0] (by decide) rfl
    have hKc := hK.sub (tys' := []) [] rfl
    have hFc := va_free (wc := [(h0, .inr (10, fs_h0))]) hD hS hA [0] rfl
    refine va_calli (va_runV (As := [.int 2]) (rest := []) ⟨hx, hb, hml, hown, hts⟩ (k_X11_refuse l dC dI H.size h0 fs_h0 2 hn_h0) (cwV 1 hts gX11_businessFrom_X11_refuse rfl rfl rfl (by decide +kernel) ⟨Nat.le_of_ble_eq_true rfl, Nat.le_of_ble_eq_true rfl⟩) ⟨fun a U g mk q => by obtain ⟨q0, q1, qP, qK, qD⟩ := q; exact ⟨q0, q1, qP, va_K.moved (u := U) (U := U.calling g mk a) (Vm.Alike.refl U.vm) qK, qD⟩, va_recv hKc hPc (ci := 10) (q0 := 0) rfl rfl, fun U hU hW => ⟨rfl, by rw [hU], by rw [hU]; exact hPc, va_K.moved hW.alike hKc, hDc.weaken (fun _ _ _ _ => trivial)⟩⟩ rfl rfl hl.1 rfl (lv_room (Nat.le_of_ble_eq_true rfl)) dX11_businessFrom_21 ⟨Nat.le_of_ble_eq_true rfl, Nat.le_of_ble_eq_true rfl⟩) hS (fun q _ h => hFc q h) hFc (fun r_3 u t H1 locs ht hvm hw hB hz1 hk1 hS => ?_)
    obtain ⟨hP1, hK1, hD1⟩ := hB
    rw [ht] at hP1
    have hK1 := va_K.moved hvm.symm hK1
    obtain ⟨hP, hD⟩ := va_join (wr := [(li, .inr (3, fs_li)), (ho, .inr (4, fs_ho))]) (w1 := []) hP hD [0] [1, 2] rfl rfl (by decide) (by decide) hk1 hFc hP1 hD1
    generalize H1 = H at hP hS ⊢
    have hP : va_P (dC, dI) vwCl [(li, .inr (3, fs_li)), (ho, .inr (4, fs_ho))] H := hP
    have hD : va_D A [(li, .inr (3, fs_li)), (ho, .inr (4, fs_ho))] := hD
    have er_3 : r_3 = (-1) := hw
    subst er_3
    have hpost : (-1) = f_X11_businessFrom p0 p1 := by subst er_1; refine Eq.symm ?_; refine (if_pos c_2).trans ?_; rfl
    have hP9 := hP.sub (ws' := []) [] rfl
    have hD9 := hD.sub (ws' := []) [] (by decide) rfl
    have hK9 := hK.sub (tys' := []) [] rfl
    exact W.iret (v := (-1)) hx hb hr (fun t ht hW => ⟨⟨(-1), (), rfl, hpost, by rw [ht]; exact hP9, va_K.moved hW.alike hK9, hD9⟩, hS.F ht⟩) hS.2.2 dX11_businessFrom_24
  · refine lv_iload_n hx hb dX11_businessFrom_7 rfl (lv_at hl 2 rfl) ?_
    refine lv_bipush (v := (-60)) hx hb dX11_businessFrom_8 (by decide) ?_
    refine lv_icmp_lt (tgt := 19) hx hb dX11_businessFrom_10 (by decide) (fun c_4 => ?_) (fun c_4 => ?_)
    · refine lv_aload_n hx hb dX11_businessFrom_19 rfl (lv_at hl 0 rfl) ?_
      refine lv_iconst (v := 2) hx hb dX11_businessFrom_20 (by decide) ?_
      have hPc := hP.sub (ws' := [(h0, .inr (10, fs_h0))]) [0] rfl
      have hDc := hD.sub (ws' := [(h0, .inr (10, fs_h0))]) [0] (by decide) rfl
      have hKc := hK.sub (tys' := []) [] rfl
      have hFc := va_free (wc := [(h0, .inr (10, fs_h0))]) hD hS hA [0] rfl
      refine va_calli (va_runV (As := [.int 2]) (rest := []) ⟨hx, hb, hml, hown, hts⟩ (k_X11_refuse l dC dI H.size h0 fs_h0 2 hn_h0) (cwV 1 hts gX11_businessFrom_X11_refuse rfl rfl rfl (by decide +kernel) ⟨Nat.le_of_ble_eq_true rfl, Nat.le_of_ble_eq_true rfl⟩) ⟨fun a U g mk q => by obtain ⟨q0, q1, qP, qK, qD⟩ := q; exact ⟨q0, q1, qP, va_K.moved (u := U) (U := U.calling g mk a) (Vm.Alike.refl U.vm) qK, qD⟩, va_recv hKc hPc (ci := 10) (q0 := 0) rfl rfl, fun U hU hW => ⟨rfl, by rw [hU], by rw [hU]; exact hPc, va_K.moved hW.alike hKc, hDc.weaken (fun _ _ _ _ => trivial)⟩⟩ rfl rfl hl.1 rfl (lv_room (Nat.le_of_ble_eq_true rfl)) dX11_businessFrom_21 ⟨Nat.le_of_ble_eq_true rfl, Nat.le_of_ble_eq_true rfl⟩) hS (fun q _ h => hFc q h) hFc (fun r_5 u t H1 locs ht hvm hw hB hz1 hk1 hS => ?_)
      obtain ⟨hP1, hK1, hD1⟩ := hB
      rw [ht] at hP1
      have hK1 := va_K.moved hvm.symm hK1
      obtain ⟨hP, hD⟩ := va_join (wr := [(li, .inr (3, fs_li)), (ho, .inr (4, fs_ho))]) (w1 := []) hP hD [0] [1, 2] rfl rfl (by decide) (by decide) hk1 hFc hP1 hD1
      generalize H1 = H at hP hS ⊢
      have hP : va_P (dC, dI) vwCl [(li, .inr (3, fs_li)), (ho, .inr (4, fs_ho))] H := hP
      have hD : va_D A [(li, .inr (3, fs_li)), (ho, .inr (4, fs_ho))] := hD
      have er_5 : r_5 = (-1) := hw
      subst er_5
      have hpost : (-1) = f_X11_businessFrom p0 p1 := by subst er_1; refine Eq.symm ?_; refine (if_neg c_2).trans ?_; refine (if_pos c_4).trans ?_; rfl
      have hP9 := hP.sub (ws' := []) [] rfl
      have hD9 := hD.sub (ws' := []) [] (by decide) rfl
      have hK9 := hK.sub (tys' := []) [] rfl
      exact W.iret (v := (-1)) hx hb hr (fun t ht hW => ⟨⟨(-1), (), rfl, hpost, by rw [ht]; exact hP9, va_K.moved hW.alike hK9, hD9⟩, hS.F ht⟩) hS.2.2 dX11_businessFrom_24
    · refine lv_iload_n hx hb dX11_businessFrom_13 rfl (lv_at hl 2 rfl) ?_
      refine lv_bipush (v := 60) hx hb dX11_businessFrom_14 (by decide) ?_
      refine lv_icmp_le (tgt := 25) hx hb dX11_businessFrom_16 (by decide) (fun c_6 => ?_) (fun c_6 => ?_)
      · refine lv_aload_n hx hb dX11_businessFrom_25 rfl (lv_at hl 0 rfl) ?_
        refine lv_iconst (v := 0) hx hb dX11_businessFrom_26 (by decide) ?_
        refine va_put (D := (dC, dI)) (ci := 10) (v := .int 0) (C := RX11) (T := TX11) (N := 15) hx hb hts hinX11 tyX11 tyX11_ok nmX11 hown hK hP hD hS 0 rfl rfl 12 (by decide) (hts (.fieldLink RX11 74 "BondCalendars" "refusal" "I") (by decide +kernel)) (fun _ h9 => h9) rfl (ty := .int) (by decide +kernel) rfl rfl (by rw [hn_h0]; decide) dX11_businessFrom_27 (fun H locs hP hD hS => ?_)
        have hP : va_P (dC, dI) vwCl [(h0, .inr (10, (fs_h0.set 12 (.int 0)))), (li, .inr (3, fs_li)), (ho, .inr (4, fs_ho))] H := hP
        have hD : va_D A [(h0, .inr (10, (fs_h0.set 12 (.int 0)))), (li, .inr (3, fs_li)), (ho, .inr (4, fs_ho))] := hD
        refine lv_aload_n hx hb dX11_businessFrom_30 rfl (lv_at hl 0 rfl) ?_
        refine va_get (D := (dC, dI)) (ci := 10) (v := .ref li) (C := RX11) (T := TX11) (N := 15) hx hb hts hinX11 hown hK hP 0 rfl rfl 8 (by decide) (hts (.fieldLink RX11 60 "BondCalendars" "live" "LBondCalendars$Desk;") (by decide +kernel)) (fun _ h9 => h9) ((List.getElem?_set_ne (by decide)).trans hf_h0_8) dX11_businessFrom_31 ?_
        refine va_get (D := (dC, dI)) (ci := 3) (v := .ref ho) (C := RX4) (T := TX4) (N := 12) hx hb hts hinX4 hown hK hP 1 rfl rfl 2 (by decide) (hts (.fieldLink RX11 146 "BondCalendars$Desk" "holidays" "LBondCalendars$Holidays;") (by decide +kernel)) (fun _ h9 => h9) hf_li_2 dX11_businessFrom_34 ?_
        refine lv_iload_n hx hb dX11_businessFrom_37 rfl (lv_at hl 1 rfl) ?_
        have hPc := hP.sub (ws' := []) [] rfl
        have hDc := hD.sub (ws' := []) [] (by decide) rfl
        have hKc := hK.sub (tys' := []) [] rfl
        have hFc := va_free (wc := []) hD hS hA [] rfl
        refine va_calli (va_runS (As := [.int p0]) (rest := [.ref ho]) ⟨hx, hb, hml, hown, hts⟩ (k_X3_dayOf l dC dI H.size p0) (va_cwS 1 hts gX11_businessFrom_X3_dayOf rfl rfl rfl (by decide +kernel) ⟨Nat.le_of_ble_eq_true rfl, Nat.le_of_ble_eq_true rfl⟩) ⟨fun a U g mk q => by obtain ⟨q0, q1, qP, qK, qD⟩ := q; exact ⟨q0, q1, qP, va_K.moved (u := U) (U := U.calling g mk a) (Vm.Alike.refl U.vm) qK, qD⟩, fun U hU hW => ⟨rfl, by rw [hU], by rw [hU]; exact hPc, va_K.moved hW.alike hKc, hDc.weaken (fun _ _ _ _ => trivial)⟩⟩ rfl rfl hl.1 rfl (lv_room (Nat.le_of_ble_eq_true rfl)) dX11_businessFrom_38 ⟨Nat.le_of_ble_eq_true rfl, Nat.le_of_ble_eq_true rfl⟩) hS (fun q _ h => hFc q h) hFc (fun r_7 u t H1 locs ht hvm hw hB hz1 hk1 hS => ?_)
        obtain ⟨hP1, hK1, hD1⟩ := hB
        rw [ht] at hP1
        have hK1 := va_K.moved hvm.symm hK1
        obtain ⟨hP, hD⟩ := va_join (wr := [(h0, .inr (10, (fs_h0.set 12 (.int 0)))), (li, .inr (3, fs_li)), (ho, .inr (4, fs_ho))]) (w1 := []) hP hD [] [0, 1, 2] rfl rfl (by decide) (by decide) hk1 hFc hP1 hD1
        generalize H1 = H at hP hS ⊢
        have hP : va_P (dC, dI) vwCl [(h0, .inr (10, (fs_h0.set 12 (.int 0)))), (li, .inr (3, fs_li)), (ho, .inr (4, fs_ho))] H := hP
        have hD : va_D A [(h0, .inr (10, (fs_h0.set 12 (.int 0)))), (li, .inr (3, fs_li)), (ho, .inr (4, fs_ho))] := hD
        have er_7 : r_7 = f_X3_dayOf p0 := hw
        refine lv_iload_n hx hb dX11_businessFrom_41 rfl (lv_at hl 2 rfl) ?_
        have hPc := hP.sub (ws' := [(ho, .inr (4, fs_ho))]) [2] rfl
        have hDc := hD.sub (ws' := [(ho, .inr (4, fs_ho))]) [2] (by decide) rfl
        have hKc := hK.sub (tys' := []) [] rfl
        have hFc := va_free (wc := [(ho, .inr (4, fs_ho))]) hD hS hA [2] rfl
        refine va_calli (va_runV (As := [.int r_7, .int p1]) (rest := []) ⟨hx, hb, hml, hown, hts⟩ (k_X5_businessDaysFrom l dC dI H.size ho fs_ho r_7 p1 hn_ho hf_ho_1) (cwV 2 hts gX11_businessFrom_X5_businessDaysFrom rfl rfl rfl (by decide +kernel) ⟨Nat.le_of_ble_eq_true rfl, Nat.le_of_ble_eq_true rfl⟩) ⟨fun a U g mk q => by obtain ⟨q0, q1, qP, qK, qD⟩ := q; exact ⟨q0, q1, qP, va_K.moved (u := U) (U := U.calling g mk a) (Vm.Alike.refl U.vm) qK, qD⟩, va_recv hKc hPc (ci := 4) (q0 := 0) rfl rfl, fun U hU hW => ⟨rfl, by rw [hU], by rw [hU]; exact hPc, va_K.moved hW.alike hKc, hDc.weaken (fun _ _ _ _ => trivial)⟩⟩ rfl rfl hl.1 rfl (lv_room (Nat.le_of_ble_eq_true rfl)) dX11_businessFrom_42 ⟨Nat.le_of_ble_eq_true rfl, Nat.le_of_ble_eq_true rfl⟩) hS (fun q _ h => hFc q h) hFc (fun r_8 u t H1 locs ht hvm hw hB hz1 hk1 hS => ?_)
        obtain ⟨hP1, hK1, hD1⟩ := hB
        rw [ht] at hP1
        have hK1 := va_K.moved hvm.symm hK1
        obtain ⟨hP, hD⟩ := va_join (wr := [(h0, .inr (10, (fs_h0.set 12 (.int 0)))), (li, .inr (3, fs_li))]) (w1 := []) hP hD [2] [0, 1] rfl rfl (by decide) (by decide) hk1 hFc hP1 hD1
        generalize H1 = H at hP hS ⊢
        have hP : va_P (dC, dI) vwCl [(h0, .inr (10, (fs_h0.set 12 (.int 0)))), (li, .inr (3, fs_li))] H := hP
        have hD : va_D A [(h0, .inr (10, (fs_h0.set 12 (.int 0)))), (li, .inr (3, fs_li))] := hD
        have er_8 : r_8 = f_X5_businessDaysFrom r_7 p1 := hw
        have hPc := hP.sub (ws' := []) [] rfl
        have hDc := hD.sub (ws' := []) [] (by decide) rfl
        have hKc := hK.sub (tys' := []) [] rfl
        have hFc := va_free (wc := []) hD hS hA [] rfl
        refine va_calli (va_runS (As := [.int r_8]) (rest := []) ⟨hx, hb, hml, hown, hts⟩ (k_X3_numberOf l dC dI H.size r_8) (va_cwS 1 hts gX11_businessFrom_X3_numberOf rfl rfl rfl (by decide +kernel) ⟨Nat.le_of_ble_eq_true rfl, Nat.le_of_ble_eq_true rfl⟩) ⟨fun a U g mk q => by obtain ⟨q0, q1, qP, qK, qD⟩ := q; exact ⟨q0, q1, qP, va_K.moved (u := U) (U := U.calling g mk a) (Vm.Alike.refl U.vm) qK, qD⟩, fun U hU hW => ⟨rfl, by rw [hU], by rw [hU]; exact hPc, va_K.moved hW.alike hKc, hDc.weaken (fun _ _ _ _ => trivial)⟩⟩ rfl rfl hl.1 rfl (lv_room (Nat.le_of_ble_eq_true rfl)) dX11_businessFrom_45 ⟨Nat.le_of_ble_eq_true rfl, Nat.le_of_ble_eq_true rfl⟩) hS (fun q _ h => hFc q h) hFc (fun r_9 u t H1 locs ht hvm hw hB hz1 hk1 hS => ?_)
        obtain ⟨hP1, hK1, hD1⟩ := hB
        rw [ht] at hP1
        have hK1 := va_K.moved hvm.symm hK1
        obtain ⟨hP, hD⟩ := va_join (wr := [(h0, .inr (10, (fs_h0.set 12 (.int 0)))), (li, .inr (3, fs_li))]) (w1 := []) hP hD [] [0, 1] rfl rfl (by decide) (by decide) hk1 hFc hP1 hD1
        generalize H1 = H at hP hS ⊢
        have hP : va_P (dC, dI) vwCl [(h0, .inr (10, (fs_h0.set 12 (.int 0)))), (li, .inr (3, fs_li))] H := hP
        have hD : va_D A [(h0, .inr (10, (fs_h0.set 12 (.int 0)))), (li, .inr (3, fs_li))] := hD
        have er_9 : r_9 = f_X3_numberOf r_8 := hw
        have hpost : r_9 = f_X11_businessFrom p0 p1 := by subst er_1 er_7 er_8 er_9; refine Eq.symm ?_; refine (if_neg c_2).trans ?_; refine (if_neg c_4).trans ?_; refine (if_pos c_6).trans ?_; rfl
        have hP9 := hP.sub (ws' := []) [] rfl
        have hD9 := hD.sub (ws' := []) [] (by decide) rfl
        have hK9 := hK.sub (tys' := []) [] rfl
        exact W.iret (v := r_9) hx hb hr (fun t ht hW => ⟨⟨r_9, (), rfl, hpost, by rw [ht]; exact hP9, va_K.moved hW.alike hK9, hD9⟩, hS.F ht⟩) hS.2.2 dX11_businessFrom_48
      · refine lv_aload_n hx hb dX11_businessFrom_19 rfl (lv_at hl 0 rfl) ?_
        refine lv_iconst (v := 2) hx hb dX11_businessFrom_20 (by decide) ?_
        have hPc := hP.sub (ws' := [(h0, .inr (10, fs_h0))]) [0] rfl
        have hDc := hD.sub (ws' := [(h0, .inr (10, fs_h0))]) [0] (by decide) rfl
        have hKc := hK.sub (tys' := []) [] rfl
        have hFc := va_free (wc := [(h0, .inr (10, fs_h0))]) hD hS hA [0] rfl
        refine va_calli (va_runV (As := [.int 2]) (rest := []) ⟨hx, hb, hml, hown, hts⟩ (k_X11_refuse l dC dI H.size h0 fs_h0 2 hn_h0) (cwV 1 hts gX11_businessFrom_X11_refuse rfl rfl rfl (by decide +kernel) ⟨Nat.le_of_ble_eq_true rfl, Nat.le_of_ble_eq_true rfl⟩) ⟨fun a U g mk q => by obtain ⟨q0, q1, qP, qK, qD⟩ := q; exact ⟨q0, q1, qP, va_K.moved (u := U) (U := U.calling g mk a) (Vm.Alike.refl U.vm) qK, qD⟩, va_recv hKc hPc (ci := 10) (q0 := 0) rfl rfl, fun U hU hW => ⟨rfl, by rw [hU], by rw [hU]; exact hPc, va_K.moved hW.alike hKc, hDc.weaken (fun _ _ _ _ => trivial)⟩⟩ rfl rfl hl.1 rfl (lv_room (Nat.le_of_ble_eq_true rfl)) dX11_businessFrom_21 ⟨Nat.le_of_ble_eq_true rfl, Nat.le_of_ble_eq_true rfl⟩) hS (fun q _ h => hFc q h) hFc (fun r_10 u t H1 locs ht hvm hw hB hz1 hk1 hS => ?_)
        obtain ⟨hP1, hK1, hD1⟩ := hB
        rw [ht] at hP1
        have hK1 := va_K.moved hvm.symm hK1
        obtain ⟨hP, hD⟩ := va_join (wr := [(li, .inr (3, fs_li)), (ho, .inr (4, fs_ho))]) (w1 := []) hP hD [0] [1, 2] rfl rfl (by decide) (by decide) hk1 hFc hP1 hD1
        generalize H1 = H at hP hS ⊢
        have hP : va_P (dC, dI) vwCl [(li, .inr (3, fs_li)), (ho, .inr (4, fs_ho))] H := hP
        have hD : va_D A [(li, .inr (3, fs_li)), (ho, .inr (4, fs_ho))] := hD
        have er_10 : r_10 = (-1) := hw
        subst er_10
        have hpost : (-1) = f_X11_businessFrom p0 p1 := by subst er_1; refine Eq.symm ?_; refine (if_neg c_2).trans ?_; refine (if_neg c_4).trans ?_; refine (if_neg c_6).trans ?_; rfl
        have hP9 := hP.sub (ws' := []) [] rfl
        have hD9 := hD.sub (ws' := []) [] (by decide) rfl
        have hK9 := hK.sub (tys' := []) [] rfl
        exact W.iret (v := (-1)) hx hb hr (fun t ht hW => ⟨⟨(-1), (), rfl, hpost, by rw [ht]; exact hP9, va_K.moved hW.alike hK9, hD9⟩, hS.F ht⟩) hS.2.2 dX11_businessFrom_24
def f_X12_businessFrom (p0 : Int32) (p1 : Int32) : Int32 :=
  let r_1 : Int32 := f_X12_isDate p0
  if r_1 = 0 then
    (-1)
  else
    let r_4 : Int32 := f_X12_in p1 (-60) 60
    if r_4 = 0 then
      (-1)
    else
      let r_6 : Int32 := f_X12_dayOf p0
      let r_7 : Int32 := f_X12_businessAfter r_6 p1
      let r_8 : Int32 := f_X12_dateOf r_7
      let r_9 : Int32 := f_X12_good r_8
      r_9
set_option maxHeartbeats 4000000 in
set_option maxRecDepth 100000 in
theorem k_X12_businessFrom (l : Launch) (dC : Nat → ClassId) (dI : Nat → Nat → Nat) (sz : Nat) (h0 : Nat) (fs_h0 : List Value) (p0 : Int32) (p1 : Int32) (hn_h0 : fs_h0.length = 69) (hf_h0_22 : fs_h0[22]? = some (.int 0)) : Met l yX12_businessFrom wsX12_businessFrom ({ frames := 5, cells := 0, slots := 0, locals := 110 }) (va_Pc [.ref h0, .int p0, .int p1] (fun U => U.heap.size = sz ∧ va_P (dC, dI) vwCl [(h0, .inr (11, fs_h0))] U.heap ∧ va_K (dC, dI) vwCl [] U ∧ va_D (fun _ => True) [(h0, .inr (11, fs_h0))])) (va_Qi (fun (r : Int32) (_ : Unit) => r = f_X12_businessFrom p0 p1) (fun _ t => va_P (dC, dI) vwCl [] t.heap ∧ va_K (dC, dI) vwCl [] t ∧ va_D (va_A [(h0, .inr (11, fs_h0))] sz) []) (va_A [(h0, .inr (11, fs_h0))] sz)) 0 0 (va_A [(h0, .inr (11, fs_h0))] sz) := by
  refine Met.ofW (cc := cX12_businessFrom) (maxL := 3) (ret := (some .int)) (by decide) rfl ?_
  intro p e s m args below meth c s₁ B hml hv
  obtain ⟨rfl, hsz, hP, hK, hD0⟩ := hv
  have hx := B.exec
  have hb := B.bytes
  have hr := B.returns
  have hts := atoms_spec (ws := wsX12_businessFrom) B.pre
  have hown : s.vm.findClass RX12 = some m.cls := findClass_of_methodNamed B.named
  have hlocks := B.notSynchronized
  have hinX12 : ∀ w ∈ u_ws RX12 TX12 69, w ∈ wsX12_businessFrom := (fun _ h9 => List.mem_cons_of_mem _ (List.mem_append_right _ h9))
  subst hsz
  have hD := hD0.self (sz := s.heap.size)
  generalize hAe : va_A [(h0, .inr (11, fs_h0))] s.heap.size = A at hD ⊢
  have hA : ∀ q : Nat, s.heap.size ≤ q → A q := fun q h => by rw [← hAe]; exact Or.inr h
  have hS : va_S A s.heap s.heap [] := va_S.rf
  have hP : va_P (dC, dI) vwCl [(h0, .inr (11, fs_h0))] s.heap := hP
  have hl := lv_entry ([.ref h0, .int p0, .int p1]) (n := 3) (Nat.le_of_ble_eq_true rfl)
  rw [lg_entry_eq]
  generalize (lg_sl ([.ref h0, .int p0, .int p1]) ++ List.replicate (3 - (lg_sl ([.ref h0, .int p0, .int p1])).length) Slot.unset).toArray = ls at hl ⊢
  have hl : lv_has ls 3 [(0, .ref h0), (1, .int p0), (2, .int p1)] := hl
  refine lv_aload_n hx hb dX12_businessFrom_0 rfl (lv_at hl 0 rfl) ?_
  refine lv_iconst (v := 0) hx hb dX12_businessFrom_1 (by decide) ?_
  refine va_put (D := (dC, dI)) (ci := 11) (v := .int 0) (C := RX12) (T := TX12) (N := 69) hx hb hts hinX12 tyX12 tyX12_ok nmX12 hown hK hP hD hS 0 rfl rfl 0 (by decide) (hts (.fieldLink RX12 107 "BondCalendarsModel" "thrown" "I") (by decide +kernel)) (fun _ h9 => h9) rfl (ty := .int) (by decide +kernel) rfl rfl (by rw [hn_h0]; decide) dX12_businessFrom_2 (fun H locs hP hD hS => ?_)
  have hP : va_P (dC, dI) vwCl [(h0, .inr (11, (fs_h0.set 0 (.int 0))))] H := hP
  have hD : va_D A [(h0, .inr (11, (fs_h0.set 0 (.int 0))))] := hD
  refine lv_iload_n hx hb dX12_businessFrom_5 rfl (lv_at hl 1 rfl) ?_
  have hPc := hP.sub (ws' := []) [] rfl
  have hDc := hD.sub (ws' := []) [] (by decide) rfl
  have hKc := hK.sub (tys' := []) [] rfl
  have hFc := va_free (wc := []) hD hS hA [] rfl
  refine va_calli (va_runS (As := [.int p0]) (rest := []) ⟨hx, hb, hml, hown, hts⟩ (k_X12_isDate l dC dI H.size p0) (va_cwS 1 hts gX12_businessFrom_X12_isDate rfl rfl rfl (by decide +kernel) ⟨Nat.le_of_ble_eq_true rfl, Nat.le_of_ble_eq_true rfl⟩) ⟨fun a U g mk q => by obtain ⟨q0, q1, qP, qK, qD⟩ := q; exact ⟨q0, q1, qP, va_K.moved (u := U) (U := U.calling g mk a) (Vm.Alike.refl U.vm) qK, qD⟩, fun U hU hW => ⟨rfl, by rw [hU], by rw [hU]; exact hPc, va_K.moved hW.alike hKc, hDc.weaken (fun _ _ _ _ => trivial)⟩⟩ rfl rfl hl.1 rfl (lv_room (Nat.le_of_ble_eq_true rfl)) dX12_businessFrom_6 ⟨Nat.le_of_ble_eq_true rfl, Nat.le_of_ble_eq_true rfl⟩) hS (fun q _ h => hFc q h) hFc (fun r_1 u t H1 locs ht hvm hw hB hz1 hk1 hS => ?_)
  obtain ⟨hP1, hK1, hD1⟩ := hB
  rw [ht] at hP1
  have hK1 := va_K.moved hvm.symm hK1
  obtain ⟨hP, hD⟩ := va_join (wr := [(h0, .inr (11, (fs_h0.set 0 (.int 0))))]) (w1 := []) hP hD [] [0] rfl rfl (by decide) (by decide) hk1 hFc hP1 hD1
  generalize H1 = H at hP hS ⊢
  have hP : va_P (dC, dI) vwCl [(h0, .inr (11, (fs_h0.set 0 (.int 0))))] H := hP
  have hD : va_D A [(h0, .inr (11, (fs_h0.set 0 (.int 0))))] := hD
  have er_1 : r_1 = f_X12_isDate p0 := hw
  refine lv_if_eq (tgt := 23) hx hb dX12_businessFrom_9 (by decide) (fun c_2 => ?_) (fun c_2 => ?_)
  · refine lv_aload_n hx hb dX12_businessFrom_23 rfl (lv_at hl 0 rfl) ?_
    refine lv_iconst (v := 2) hx hb dX12_businessFrom_24 (by decide) ?_
    have hPc := hP.sub (ws' := [(h0, .inr (11, (fs_h0.set 0 (.int 0))))]) [0] rfl
    have hDc := hD.sub (ws' := [(h0, .inr (11, (fs_h0.set 0 (.int 0))))]) [0] (by decide) rfl
    have hKc := hK.sub (tys' := []) [] rfl
    have hFc := va_free (wc := [(h0, .inr (11, (fs_h0.set 0 (.int 0))))]) hD hS hA [0] rfl
    refine va_calli (va_runV (As := [.int 2]) (rest := []) ⟨hx, hb, hml, hown, hts⟩ (k_X12_refused l dC dI H.size h0 (fs_h0.set 0 (.int 0)) 2 (List.length_set.trans hn_h0)) (cwV 1 hts gX12_businessFrom_X12_refused rfl rfl rfl (by decide +kernel) ⟨Nat.le_of_ble_eq_true rfl, Nat.le_of_ble_eq_true rfl⟩) ⟨fun a U g mk q => by obtain ⟨q0, q1, qP, qK, qD⟩ := q; exact ⟨q0, q1, qP, va_K.moved (u := U) (U := U.calling g mk a) (Vm.Alike.refl U.vm) qK, qD⟩, va_recv hKc hPc (ci := 11) (q0 := 0) rfl rfl, fun U hU hW => ⟨rfl, by rw [hU], by rw [hU]; exact hPc, va_K.moved hW.alike hKc, hDc.weaken (fun _ _ _ _ => trivial)⟩⟩ rfl rfl hl.1 rfl (lv_room (Nat.le_of_ble_eq_true rfl)) dX12_businessFrom_25 ⟨Nat.le_of_ble_eq_true rfl, Nat.le_of_ble_eq_true rfl⟩) hS (fun q _ h => hFc q h) hFc (fun r_3 u t H1 locs ht hvm hw hB hz1 hk1 hS => ?_)
    obtain ⟨hP1, hK1, hD1⟩ := hB
    rw [ht] at hP1
    have hK1 := va_K.moved hvm.symm hK1
    obtain ⟨hP, hD⟩ := va_join (wr := []) (w1 := []) hP hD [0] [] rfl rfl (by decide) (by decide) hk1 hFc hP1 hD1
    generalize H1 = H at hP hS ⊢
    have hP : va_P (dC, dI) vwCl [] H := hP
    have hD : va_D A [] := hD
    have er_3 : r_3 = (-1) := hw
    subst er_3
    have hpost : (-1) = f_X12_businessFrom p0 p1 := by subst er_1; refine Eq.symm ?_; refine (if_pos c_2).trans ?_; rfl
    have hP9 := hP.sub (ws' := []) [] rfl
    have hD9 := hD.sub (ws' := []) [] (by decide) rfl
    have hK9 := hK.sub (tys' := []) [] rfl
    exact W.iret (v := (-1)) hx hb hr (fun t ht hW => ⟨⟨(-1), (), rfl, hpost, by rw [ht]; exact hP9, va_K.moved hW.alike hK9, hD9⟩, hS.F ht⟩) hS.2.2 dX12_businessFrom_28
  · refine lv_iload_n hx hb dX12_businessFrom_12 rfl (lv_at hl 2 rfl) ?_
    refine lv_bipush (v := (-60)) hx hb dX12_businessFrom_13 (by decide) ?_
    refine lv_bipush (v := 60) hx hb dX12_businessFrom_15 (by decide) ?_
    have hPc := hP.sub (ws' := []) [] rfl
    have hDc := hD.sub (ws' := []) [] (by decide) rfl
    have hKc := hK.sub (tys' := []) [] rfl
    have hFc := va_free (wc := []) hD hS hA [] rfl
    refine va_calli (va_runS (As := [.int p1, .int (-60), .int 60]) (rest := []) ⟨hx, hb, hml, hown, hts⟩ (k_X12_in l dC dI H.size p1 (-60) 60) (va_cwS 3 hts gX12_businessFrom_X12_in rfl rfl rfl (by decide +kernel) ⟨Nat.le_of_ble_eq_true rfl, Nat.le_of_ble_eq_true rfl⟩) ⟨fun a U g mk q => by obtain ⟨q0, q1, qP, qK, qD⟩ := q; exact ⟨q0, q1, qP, va_K.moved (u := U) (U := U.calling g mk a) (Vm.Alike.refl U.vm) qK, qD⟩, fun U hU hW => ⟨rfl, by rw [hU], by rw [hU]; exact hPc, va_K.moved hW.alike hKc, hDc.weaken (fun _ _ _ _ => trivial)⟩⟩ rfl rfl hl.1 rfl (lv_room (Nat.le_of_ble_eq_true rfl)) dX12_businessFrom_17 ⟨Nat.le_of_ble_eq_true rfl, Nat.le_of_ble_eq_true rfl⟩) hS (fun q _ h => hFc q h) hFc (fun r_4 u t H1 locs ht hvm hw hB hz1 hk1 hS => ?_)
    obtain ⟨hP1, hK1, hD1⟩ := hB
    rw [ht] at hP1
    have hK1 := va_K.moved hvm.symm hK1
    obtain ⟨hP, hD⟩ := va_join (wr := [(h0, .inr (11, (fs_h0.set 0 (.int 0))))]) (w1 := []) hP hD [] [0] rfl rfl (by decide) (by decide) hk1 hFc hP1 hD1
    generalize H1 = H at hP hS ⊢
    have hP : va_P (dC, dI) vwCl [(h0, .inr (11, (fs_h0.set 0 (.int 0))))] H := hP
    have hD : va_D A [(h0, .inr (11, (fs_h0.set 0 (.int 0))))] := hD
    have er_4 : r_4 = f_X12_in p1 (-60) 60 := hw
    refine lv_if_ne (tgt := 29) hx hb dX12_businessFrom_20 (by decide) (fun c_5 => ?_) (fun c_5 => ?_)
    · refine lv_aload_n hx hb dX12_businessFrom_29 rfl (lv_at hl 0 rfl) ?_
      refine lv_aload_n hx hb dX12_businessFrom_30 rfl (lv_at hl 0 rfl) ?_
      refine lv_iload_n hx hb dX12_businessFrom_31 rfl (lv_at hl 1 rfl) ?_
      have hPc := hP.sub (ws' := []) [] rfl
      have hDc := hD.sub (ws' := []) [] (by decide) rfl
      have hKc := hK.sub (tys' := []) [] rfl
      have hFc := va_free (wc := []) hD hS hA [] rfl
      refine va_calli (va_runS (As := [.int p0]) (rest := [.ref h0, .ref h0]) ⟨hx, hb, hml, hown, hts⟩ (k_X12_dayOf l dC dI H.size p0) (va_cwS 1 hts gX12_businessFrom_X12_dayOf rfl rfl rfl (by decide +kernel) ⟨Nat.le_of_ble_eq_true rfl, Nat.le_of_ble_eq_true rfl⟩) ⟨fun a U g mk q => by obtain ⟨q0, q1, qP, qK, qD⟩ := q; exact ⟨q0, q1, qP, va_K.moved (u := U) (U := U.calling g mk a) (Vm.Alike.refl U.vm) qK, qD⟩, fun U hU hW => ⟨rfl, by rw [hU], by rw [hU]; exact hPc, va_K.moved hW.alike hKc, hDc.weaken (fun _ _ _ _ => trivial)⟩⟩ rfl rfl hl.1 rfl (lv_room (Nat.le_of_ble_eq_true rfl)) dX12_businessFrom_32 ⟨Nat.le_of_ble_eq_true rfl, Nat.le_of_ble_eq_true rfl⟩) hS (fun q _ h => hFc q h) hFc (fun r_6 u t H1 locs ht hvm hw hB hz1 hk1 hS => ?_)
      obtain ⟨hP1, hK1, hD1⟩ := hB
      rw [ht] at hP1
      have hK1 := va_K.moved hvm.symm hK1
      obtain ⟨hP, hD⟩ := va_join (wr := [(h0, .inr (11, (fs_h0.set 0 (.int 0))))]) (w1 := []) hP hD [] [0] rfl rfl (by decide) (by decide) hk1 hFc hP1 hD1
      generalize H1 = H at hP hS ⊢
      have hP : va_P (dC, dI) vwCl [(h0, .inr (11, (fs_h0.set 0 (.int 0))))] H := hP
      have hD : va_D A [(h0, .inr (11, (fs_h0.set 0 (.int 0))))] := hD
      have er_6 : r_6 = f_X12_dayOf p0 := hw
      refine lv_iload_n hx hb dX12_businessFrom_35 rfl (lv_at hl 2 rfl) ?_
      have hPc := hP.sub (ws' := [(h0, .inr (11, (fs_h0.set 0 (.int 0))))]) [0] rfl
      have hDc := hD.sub (ws' := [(h0, .inr (11, (fs_h0.set 0 (.int 0))))]) [0] (by decide) rfl
      have hKc := hK.sub (tys' := []) [] rfl
      have hFc := va_free (wc := [(h0, .inr (11, (fs_h0.set 0 (.int 0))))]) hD hS hA [0] rfl
      refine va_calli (va_runV (As := [.int r_6, .int p1]) (rest := [.ref h0]) ⟨hx, hb, hml, hown, hts⟩ (k_X12_businessAfter l dC dI H.size h0 (fs_h0.set 0 (.int 0)) r_6 p1 (List.length_set.trans hn_h0) ((List.getElem?_set_ne (by decide)).trans hf_h0_22) (by rw [er_6]; exact biz_ok p0 p1 (er_1 ▸ c_2) (er_4 ▸ c_5))) (cwV 2 hts gX12_businessFrom_X12_businessAfter rfl rfl rfl (by decide +kernel) ⟨Nat.le_of_ble_eq_true rfl, Nat.le_of_ble_eq_true rfl⟩) ⟨fun a U g mk q => by obtain ⟨q0, q1, qP, qK, qD⟩ := q; exact ⟨q0, q1, qP, va_K.moved (u := U) (U := U.calling g mk a) (Vm.Alike.refl U.vm) qK, qD⟩, va_recv hKc hPc (ci := 11) (q0 := 0) rfl rfl, fun U hU hW => ⟨rfl, by rw [hU], by rw [hU]; exact hPc, va_K.moved hW.alike hKc, hDc.weaken (fun _ _ _ _ => trivial)⟩⟩ rfl rfl hl.1 rfl (lv_room (Nat.le_of_ble_eq_true rfl)) dX12_businessFrom_36 ⟨Nat.le_of_ble_eq_true rfl, Nat.le_of_ble_eq_true rfl⟩) hS (fun q _ h => hFc q h) hFc (fun r_7 u t H1 locs ht hvm hw hB hz1 hk1 hS => ?_)
      obtain ⟨hP1, hK1, hD1⟩ := hB
      rw [ht] at hP1
      have hK1 := va_K.moved hvm.symm hK1
      obtain ⟨hP, hD⟩ := va_join (wr := []) (w1 := [(h0, .inr (11, (fs_h0.set 0 (.int 0))))]) hP hD [0] [] rfl rfl (by decide) (by decide) hk1 hFc hP1 hD1
      generalize H1 = H at hP hS ⊢
      have hP : va_P (dC, dI) vwCl [(h0, .inr (11, (fs_h0.set 0 (.int 0))))] H := hP
      have hD : va_D A [(h0, .inr (11, (fs_h0.set 0 (.int 0))))] := hD
      have er_7 : r_7 = f_X12_businessAfter r_6 p1 := hw
      have hPc := hP.sub (ws' := []) [] rfl
      have hDc := hD.sub (ws' := []) [] (by decide) rfl
      have hKc := hK.sub (tys' := []) [] rfl
      have hFc := va_free (wc := []) hD hS hA [] rfl
      refine va_calli (va_runS (As := [.int r_7]) (rest := [.ref h0]) ⟨hx, hb, hml, hown, hts⟩ (k_X12_dateOf l dC dI H.size r_7 (by rw [er_7, er_6]; exact date_ok p0 p1 (er_1 ▸ c_2) (er_4 ▸ c_5))) (va_cwS 1 hts gX12_businessFrom_X12_dateOf rfl rfl rfl (by decide +kernel) ⟨Nat.le_of_ble_eq_true rfl, Nat.le_of_ble_eq_true rfl⟩) ⟨fun a U g mk q => by obtain ⟨q0, q1, qP, qK, qD⟩ := q; exact ⟨q0, q1, qP, va_K.moved (u := U) (U := U.calling g mk a) (Vm.Alike.refl U.vm) qK, qD⟩, fun U hU hW => ⟨rfl, by rw [hU], by rw [hU]; exact hPc, va_K.moved hW.alike hKc, hDc.weaken (fun _ _ _ _ => trivial)⟩⟩ rfl rfl hl.1 rfl (lv_room (Nat.le_of_ble_eq_true rfl)) dX12_businessFrom_39 ⟨Nat.le_of_ble_eq_true rfl, Nat.le_of_ble_eq_true rfl⟩) hS (fun q _ h => hFc q h) hFc (fun r_8 u t H1 locs ht hvm hw hB hz1 hk1 hS => ?_)
      obtain ⟨hP1, hK1, hD1⟩ := hB
      rw [ht] at hP1
      have hK1 := va_K.moved hvm.symm hK1
      obtain ⟨hP, hD⟩ := va_join (wr := [(h0, .inr (11, (fs_h0.set 0 (.int 0))))]) (w1 := []) hP hD [] [0] rfl rfl (by decide) (by decide) hk1 hFc hP1 hD1
      generalize H1 = H at hP hS ⊢
      have hP : va_P (dC, dI) vwCl [(h0, .inr (11, (fs_h0.set 0 (.int 0))))] H := hP
      have hD : va_D A [(h0, .inr (11, (fs_h0.set 0 (.int 0))))] := hD
      have er_8 : r_8 = f_X12_dateOf r_7 := hw
      have hPc := hP.sub (ws' := [(h0, .inr (11, (fs_h0.set 0 (.int 0))))]) [0] rfl
      have hDc := hD.sub (ws' := [(h0, .inr (11, (fs_h0.set 0 (.int 0))))]) [0] (by decide) rfl
      have hKc := hK.sub (tys' := []) [] rfl
      have hFc := va_free (wc := [(h0, .inr (11, (fs_h0.set 0 (.int 0))))]) hD hS hA [0] rfl
      refine va_calli (va_runV (As := [.int r_8]) (rest := []) ⟨hx, hb, hml, hown, hts⟩ (k_X12_good l dC dI H.size h0 (fs_h0.set 0 (.int 0)) r_8 (List.length_set.trans hn_h0)) (cwV 1 hts gX12_businessFrom_X12_good rfl rfl rfl (by decide +kernel) ⟨Nat.le_of_ble_eq_true rfl, Nat.le_of_ble_eq_true rfl⟩) ⟨fun a U g mk q => by obtain ⟨q0, q1, qP, qK, qD⟩ := q; exact ⟨q0, q1, qP, va_K.moved (u := U) (U := U.calling g mk a) (Vm.Alike.refl U.vm) qK, qD⟩, va_recv hKc hPc (ci := 11) (q0 := 0) rfl rfl, fun U hU hW => ⟨rfl, by rw [hU], by rw [hU]; exact hPc, va_K.moved hW.alike hKc, hDc.weaken (fun _ _ _ _ => trivial)⟩⟩ rfl rfl hl.1 rfl (lv_room (Nat.le_of_ble_eq_true rfl)) dX12_businessFrom_42 ⟨Nat.le_of_ble_eq_true rfl, Nat.le_of_ble_eq_true rfl⟩) hS (fun q _ h => hFc q h) hFc (fun r_9 u t H1 locs ht hvm hw hB hz1 hk1 hS => ?_)
      obtain ⟨hP1, hK1, hD1⟩ := hB
      rw [ht] at hP1
      have hK1 := va_K.moved hvm.symm hK1
      obtain ⟨hP, hD⟩ := va_join (wr := []) (w1 := []) hP hD [0] [] rfl rfl (by decide) (by decide) hk1 hFc hP1 hD1
      generalize H1 = H at hP hS ⊢
      have hP : va_P (dC, dI) vwCl [] H := hP
      have hD : va_D A [] := hD
      have er_9 : r_9 = f_X12_good r_8 := hw
      have hpost : r_9 = f_X12_businessFrom p0 p1 := by subst er_1 er_4 er_6 er_7 er_8 er_9; refine Eq.symm ?_; refine (if_neg c_2).trans ?_; refine (if_neg c_5).trans ?_; rfl
      have hP9 := hP.sub (ws' := []) [] rfl
      have hD9 := hD.sub (ws' := []) [] (by decide) rfl
      have hK9 := hK.sub (tys' := []) [] rfl
      exact W.iret (v := r_9) hx hb hr (fun t ht hW => ⟨⟨r_9, (), rfl, hpost, by rw [ht]; exact hP9, va_K.moved hW.alike hK9, hD9⟩, hS.F ht⟩) hS.2.2 dX12_businessFrom_45
    · refine lv_aload_n hx hb dX12_businessFrom_23 rfl (lv_at hl 0 rfl) ?_
      refine lv_iconst (v := 2) hx hb dX12_businessFrom_24 (by decide) ?_
      have hPc := hP.sub (ws' := [(h0, .inr (11, (fs_h0.set 0 (.int 0))))]) [0] rfl
      have hDc := hD.sub (ws' := [(h0, .inr (11, (fs_h0.set 0 (.int 0))))]) [0] (by decide) rfl
      have hKc := hK.sub (tys' := []) [] rfl
      have hFc := va_free (wc := [(h0, .inr (11, (fs_h0.set 0 (.int 0))))]) hD hS hA [0] rfl
      refine va_calli (va_runV (As := [.int 2]) (rest := []) ⟨hx, hb, hml, hown, hts⟩ (k_X12_refused l dC dI H.size h0 (fs_h0.set 0 (.int 0)) 2 (List.length_set.trans hn_h0)) (cwV 1 hts gX12_businessFrom_X12_refused rfl rfl rfl (by decide +kernel) ⟨Nat.le_of_ble_eq_true rfl, Nat.le_of_ble_eq_true rfl⟩) ⟨fun a U g mk q => by obtain ⟨q0, q1, qP, qK, qD⟩ := q; exact ⟨q0, q1, qP, va_K.moved (u := U) (U := U.calling g mk a) (Vm.Alike.refl U.vm) qK, qD⟩, va_recv hKc hPc (ci := 11) (q0 := 0) rfl rfl, fun U hU hW => ⟨rfl, by rw [hU], by rw [hU]; exact hPc, va_K.moved hW.alike hKc, hDc.weaken (fun _ _ _ _ => trivial)⟩⟩ rfl rfl hl.1 rfl (lv_room (Nat.le_of_ble_eq_true rfl)) dX12_businessFrom_25 ⟨Nat.le_of_ble_eq_true rfl, Nat.le_of_ble_eq_true rfl⟩) hS (fun q _ h => hFc q h) hFc (fun r_10 u t H1 locs ht hvm hw hB hz1 hk1 hS => ?_)
      obtain ⟨hP1, hK1, hD1⟩ := hB
      rw [ht] at hP1
      have hK1 := va_K.moved hvm.symm hK1
      obtain ⟨hP, hD⟩ := va_join (wr := []) (w1 := []) hP hD [0] [] rfl rfl (by decide) (by decide) hk1 hFc hP1 hD1
      generalize H1 = H at hP hS ⊢
      have hP : va_P (dC, dI) vwCl [] H := hP
      have hD : va_D A [] := hD
      have er_10 : r_10 = (-1) := hw
      subst er_10
      have hpost : (-1) = f_X12_businessFrom p0 p1 := by subst er_1 er_4; refine Eq.symm ?_; refine (if_neg c_2).trans ?_; refine (if_pos c_5).trans ?_; rfl
      have hP9 := hP.sub (ws' := []) [] rfl
      have hD9 := hD.sub (ws' := []) [] (by decide) rfl
      have hK9 := hK.sub (tys' := []) [] rfl
      exact W.iret (v := (-1)) hx hb hr (fun t ht hW => ⟨⟨(-1), (), rfl, hpost, by rw [ht]; exact hP9, va_K.moved hW.alike hK9, hD9⟩, hS.F ht⟩) hS.2.2 dX12_businessFrom_28
