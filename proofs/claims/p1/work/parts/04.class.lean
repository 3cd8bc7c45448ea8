def f_X11_arePoints (p0 : Int32) : Int32 :=
  if p0 < (-2000) then
    0
  else
    if 10000 < p0 then
      0
    else
      1
set_option maxHeartbeats 4000000 in
set_option maxRecDepth 100000 in
theorem k_X11_arePoints (l : Launch) (dC : Nat → ClassId) (dI : Nat → Nat → Nat) (sz : Nat) (p0 : Int32) : Met l yX11_arePoints wsX11_arePoints ({ frames := 0, cells := 0, slots := 0, locals := 0 }) (va_Pc [.int p0] (fun U => U.heap.size = sz ∧ va_P (dC, dI) vwCl [] U.heap ∧ va_K (dC, dI) vwCl [] U ∧ va_D (fun _ => True) [])) (va_Qi (fun (r : Int32) (_ : Unit) => r = f_X11_arePoints p0) (fun _ t => va_P (dC, dI) vwCl [] t.heap ∧ va_K (dC, dI) vwCl [] t ∧ va_D (va_A [] sz) []) (va_A [] sz)) 0 0 (va_A [] sz) := by
  refine Met.ofW (cc := cX11_arePoints) (maxL := 1) (ret := (some .boolean)) (by decide) rfl ?_
  intro p e s m args below meth c s₁ B hml hv
  obtain ⟨rfl, hsz, hP, hK, hD0⟩ := hv
  have hx := B.exec
  have hb := B.bytes
  have hr := B.returns
  have hts := atoms_spec (ws := wsX11_arePoints) B.pre
  have hown : s.vm.findClass RX11 = some m.cls := findClass_of_methodNamed B.named
  have hlocks := B.notSynchronized
  subst hsz
  have hD := hD0.self (sz := s.heap.size)
  generalize hAe : va_A [] s.heap.size = A at hD ⊢
  have hA : ∀ q : Nat, s.heap.size ≤ q → A q := fun q h => by rw [← hAe]; exact Or.inr h
  have hS : va_S A s.heap s.heap [] := va_S.rf
  have hP : va_P (dC, dI) vwCl [] s.heap := hP
  have hl := lv_entry ([.int p0]) (n := 1) (Nat.le_of_ble_eq_true rfl)
  rw [lg_entry_eq]
  generalize (lg_sl ([.int p0]) ++ List.replicate (1 - (lg_sl ([.int p0])).length) Slot.unset).toArray = ls at hl ⊢
  have hl : lv_has ls 1 [(0, .int p0)] := hl
  refine lv_iload_n hx hb dX11_arePoints_0 rfl (lv_at hl 0 rfl) ?_
  refine lv_sipush (v := (-2000)) hx hb dX11_arePoints_1 (by decide) ?_
  refine lv_icmp_lt (tgt := 18) hx hb dX11_arePoints_4 (by decide) (fun c_1 => ?_) (fun c_1 => ?_)
  · refine lv_iconst (v := 0) hx hb dX11_arePoints_18 (by decide) ?_
    have hpost : 0 = f_X11_arePoints p0 := by refine Eq.symm ?_; refine (if_pos c_1).trans ?_; rfl
    have hP9 := hP.sub (ws' := []) [] rfl
    have hD9 := hD.sub (ws' := []) [] (by decide) rfl
    have hK9 := hK.sub (tys' := []) [] rfl
    exact W.zret (v := 0) hx hb hr (by decide) (fun t ht hW => ⟨⟨0, (), rfl, hpost, by rw [ht]; exact hP9, va_K.moved hW.alike hK9, hD9⟩, hS.F ht⟩) hS.2.2 dX11_arePoints_19
  · refine lv_iload_n hx hb dX11_arePoints_7 rfl (lv_at hl 0 rfl) ?_
    refine lv_sipush (v := 10000) hx hb dX11_arePoints_8 (by decide) ?_
    refine lv_icmp_gt (tgt := 18) hx hb dX11_arePoints_11 (by decide) (fun c_2 => ?_) (fun c_2 => ?_)
    · refine lv_iconst (v := 0) hx hb dX11_arePoints_18 (by decide) ?_
      have hpost : 0 = f_X11_arePoints p0 := by refine Eq.symm ?_; refine (if_neg c_1).trans ?_; refine (if_pos c_2).trans ?_; rfl
      have hP9 := hP.sub (ws' := []) [] rfl
      have hD9 := hD.sub (ws' := []) [] (by decide) rfl
      have hK9 := hK.sub (tys' := []) [] rfl
      exact W.zret (v := 0) hx hb hr (by decide) (fun t ht hW => ⟨⟨0, (), rfl, hpost, by rw [ht]; exact hP9, va_K.moved hW.alike hK9, hD9⟩, hS.F ht⟩) hS.2.2 dX11_arePoints_19
    · refine lv_iconst (v := 1) hx hb dX11_arePoints_14 (by decide) ?_
      refine lv_goto (tgt := 19) hx hb dX11_arePoints_15 (by decide) ?_
      have hpost : 1 = f_X11_arePoints p0 := by refine Eq.symm ?_; refine (if_neg c_1).trans ?_; refine (if_neg c_2).trans ?_; rfl
      have hP9 := hP.sub (ws' := []) [] rfl
      have hD9 := hD.sub (ws' := []) [] (by decide) rfl
      have hK9 := hK.sub (tys' := []) [] rfl
      exact W.zret (v := 1) hx hb hr (by decide) (fun t ht hW => ⟨⟨1, (), rfl, hpost, by rw [ht]; exact hP9, va_K.moved hW.alike hK9, hD9⟩, hS.F ht⟩) hS.2.2 dX11_arePoints_19
def f_X11_isPrice (p0 : Int32) : Int32 :=
  if p0 < 1 then
    0
  else
    if 99999 < p0 then
      0
    else
      1
set_option maxHeartbeats 4000000 in
set_option maxRecDepth 100000 in
theorem k_X11_isPrice (l : Launch) (dC : Nat → ClassId) (dI : Nat → Nat → Nat) (sz : Nat) (p0 : Int32) : Met l yX11_isPrice wsX11_isPrice ({ frames := 0, cells := 0, slots := 0, locals := 0 }) (va_Pc [.int p0] (fun U => U.heap.size = sz ∧ va_P (dC, dI) vwCl [] U.heap ∧ va_K (dC, dI) vwCl [] U ∧ va_D (fun _ => True) [])) (va_Qi (fun (r : Int32) (_ : Unit) => r = f_X11_isPrice p0) (fun _ t => va_P (dC, dI) vwCl [] t.heap ∧ va_K (dC, dI) vwCl [] t ∧ va_D (va_A [] sz) []) (va_A [] sz)) 0 0 (va_A [] sz) := by
  refine Met.ofW (cc := cX11_isPrice) (maxL := 1) (ret := (some .boolean)) (by decide) rfl ?_
  intro p e s m args below meth c s₁ B hml hv
  obtain ⟨rfl, hsz, hP, hK, hD0⟩ := hv
  have hx := B.exec
  have hb := B.bytes
  have hr := B.returns
  have hts := atoms_spec (ws := wsX11_isPrice) B.pre
  have hown : s.vm.findClass RX11 = some m.cls := findClass_of_methodNamed B.named
  have hlocks := B.notSynchronized
  subst hsz
  have hD := hD0.self (sz := s.heap.size)
  generalize hAe : va_A [] s.heap.size = A at hD ⊢
  have hA : ∀ q : Nat, s.heap.size ≤ q → A q := fun q h => by rw [← hAe]; exact Or.inr h
  have hS : va_S A s.heap s.heap [] := va_S.rf
  have hP : va_P (dC, dI) vwCl [] s.heap := hP
  have hl := lv_entry ([.int p0]) (n := 1) (Nat.le_of_ble_eq_true rfl)
  rw [lg_entry_eq]
  generalize (lg_sl ([.int p0]) ++ List.replicate (1 - (lg_sl ([.int p0])).length) Slot.unset).toArray = ls at hl ⊢
  have hl : lv_has ls 1 [(0, .int p0)] := hl
  refine lv_iload_n hx hb dX11_isPrice_0 rfl (lv_at hl 0 rfl) ?_
  refine lv_iconst (v := 1) hx hb dX11_isPrice_1 (by decide) ?_
  refine lv_icmp_lt (tgt := 16) hx hb dX11_isPrice_2 (by decide) (fun c_1 => ?_) (fun c_1 => ?_)
  · refine lv_iconst (v := 0) hx hb dX11_isPrice_16 (by decide) ?_
    have hpost : 0 = f_X11_isPrice p0 := by refine Eq.symm ?_; refine (if_pos c_1).trans ?_; rfl
    have hP9 := hP.sub (ws' := []) [] rfl
    have hD9 := hD.sub (ws' := []) [] (by decide) rfl
    have hK9 := hK.sub (tys' := []) [] rfl
    exact W.zret (v := 0) hx hb hr (by decide) (fun t ht hW => ⟨⟨0, (), rfl, hpost, by rw [ht]; exact hP9, va_K.moved hW.alike hK9, hD9⟩, hS.F ht⟩) hS.2.2 dX11_isPrice_17
  · refine lv_iload_n hx hb dX11_isPrice_5 rfl (lv_at hl 0 rfl) ?_
    refine lv_ldcw (v := 99999) hx hb hown (hts (.constant RX11 406 (99999)) (by decide +kernel)) dX11_isPrice_6 ?_
    refine lv_icmp_gt (tgt := 16) hx hb dX11_isPrice_9 (by decide) (fun c_2 => ?_) (fun c_2 => ?_)
    · refine lv_iconst (v := 0) hx hb dX11_isPrice_16 (by decide) ?_
      have hpost : 0 = f_X11_isPrice p0 := by refine Eq.symm ?_; refine (if_neg c_1).trans ?_; refine (if_pos c_2).trans ?_; rfl
      have hP9 := hP.sub (ws' := []) [] rfl
      have hD9 := hD.sub (ws' := []) [] (by decide) rfl
      have hK9 := hK.sub (tys' := []) [] rfl
      exact W.zret (v := 0) hx hb hr (by decide) (fun t ht hW => ⟨⟨0, (), rfl, hpost, by rw [ht]; exact hP9, va_K.moved hW.alike hK9, hD9⟩, hS.F ht⟩) hS.2.2 dX11_isPrice_17
    · refine lv_iconst (v := 1) hx hb dX11_isPrice_12 (by decide) ?_
      refine lv_goto (tgt := 17) hx hb dX11_isPrice_13 (by decide) ?_
      have hpost : 1 = f_X11_isPrice p0 := by refine Eq.symm ?_; refine (if_neg c_1).trans ?_; refine (if_neg c_2).trans ?_; rfl
      have hP9 := hP.sub (ws' := []) [] rfl
      have hD9 := hD.sub (ws' := []) [] (by decide) rfl
      have hK9 := hK.sub (tys' := []) [] rfl
      exact W.zret (v := 1) hx hb hr (by decide) (fun t ht hW => ⟨⟨1, (), rfl, hpost, by rw [ht]; exact hP9, va_K.moved hW.alike hK9, hD9⟩, hS.F ht⟩) hS.2.2 dX11_isPrice_17
set_option maxHeartbeats 4000000 in
set_option maxRecDepth 100000 in
theorem k_X11_refuse (l : Launch) (dC : Nat → ClassId) (dI : Nat → Nat → Nat) (sz : Nat) (h0 : Nat) (fs_h0 : List Value) (p0 : Int32) (hn_h0 : fs_h0.length = 15) : Met l yX11_refuse wsX11_refuse ({ frames := 0, cells := 0, slots := 0, locals := 0 }) (va_Pc [.ref h0, .int p0] (fun U => U.heap.size = sz ∧ va_P (dC, dI) vwCl [(h0, .inr (10, fs_h0))] U.heap ∧ va_K (dC, dI) vwCl [] U ∧ va_D (fun _ => True) [(h0, .inr (10, fs_h0))])) (va_Qi (fun (r : Int32) (_ : Unit) => r = (-1)) (fun _ t => va_P (dC, dI) vwCl [] t.heap ∧ va_K (dC, dI) vwCl [] t ∧ va_D (va_A [(h0, .inr (10, fs_h0))] sz) []) (va_A [(h0, .inr (10, fs_h0))] sz)) 0 0 (va_A [(h0, .inr (10, fs_h0))] sz) := by
  refine Met.ofW (cc := cX11_refuse) (maxL := 2) (ret := (some .int)) (by decide) rfl ?_
  intro p e s m args below meth c s₁ B hml hv
  obtain ⟨rfl, hsz, hP, hK, hD0⟩ := hv
  have hx := B.exec
  have hb := B.bytes
  have hr := B.returns
  have hts := atoms_spec (ws := wsX11_refuse) B.pre
  have hown : s.vm.findClass RX11 = some m.cls := findClass_of_methodNamed B.named
  have hlocks := B.notSynchronized
  have hinX11 : ∀ w ∈ u_ws RX11 TX11 15, w ∈ wsX11_refuse := (fun _ h9 => List.mem_cons_of_mem _ (List.mem_append_right _ h9))
  subst hsz
  have hD := hD0.self (sz := s.heap.size)
  generalize hAe : va_A [(h0, .inr (10, fs_h0))] s.heap.size = A at hD ⊢
  have hA : ∀ q : Nat, s.heap.size ≤ q → A q := fun q h => by rw [← hAe]; exact Or.inr h
  have hS : va_S A s.heap s.heap [] := va_S.rf
  have hP : va_P (dC, dI) vwCl [(h0, .inr (10, fs_h0))] s.heap := hP
  have hl := lv_entry ([.ref h0, .int p0]) (n := 2) (Nat.le_of_ble_eq_true rfl)
  rw [lg_entry_eq]
  generalize (lg_sl ([.ref h0, .int p0]) ++ List.replicate (2 - (lg_sl ([.ref h0, .int p0])).length) Slot.unset).toArray = ls at hl ⊢
  have hl : lv_has ls 2 [(0, .ref h0), (1, .int p0)] := hl
  refine lv_aload_n hx hb dX11_refuse_0 rfl (lv_at hl 0 rfl) ?_
  refine lv_iload_n hx hb dX11_refuse_1 rfl (lv_at hl 1 rfl) ?_
  refine va_put (D := (dC, dI)) (ci := 10) (v := .int p0) (C := RX11) (T := TX11) (N := 15) hx hb hts hinX11 tyX11 tyX11_ok nmX11 hown hK hP hD hS 0 rfl rfl 12 (by decide) (hts (.fieldLink RX11 74 "BondCalendars" "refusal" "I") (by decide +kernel)) (fun _ h9 => h9) rfl (ty := .int) (by decide +kernel) rfl rfl (by rw [hn_h0]; decide) dX11_refuse_2 (fun H locs hP hD hS => ?_)
  have hP : va_P (dC, dI) vwCl [(h0, .inr (10, (fs_h0.set 12 (.int p0))))] H := hP
  have hD : va_D A [(h0, .inr (10, (fs_h0.set 12 (.int p0))))] := hD
  refine lv_iconst (v := (-1)) hx hb dX11_refuse_5 (by decide) ?_
  have hpost : ((-1) : Int32) = (-1) := rfl
  have hP9 := hP.sub (ws' := []) [] rfl
  have hD9 := hD.sub (ws' := []) [] (by decide) rfl
  have hK9 := hK.sub (tys' := []) [] rfl
  exact W.iret (v := (-1)) hx hb hr (fun t ht hW => ⟨⟨(-1), (), rfl, hpost, by rw [ht]; exact hP9, va_K.moved hW.alike hK9, hD9⟩, hS.F ht⟩) hS.2.2 dX11_refuse_6
set_option maxHeartbeats 4000000 in
set_option maxRecDepth 100000 in
theorem k_X11_refuseLong (l : Launch) (dC : Nat → ClassId) (dI : Nat → Nat → Nat) (sz : Nat) (h0 : Nat) (fs_h0 : List Value) (p0 : Int32) (hn_h0 : fs_h0.length = 15) : Met l yX11_refuseLong wsX11_refuseLong ({ frames := 0, cells := 0, slots := 0, locals := 0 }) (va_Pc [.ref h0, .int p0] (fun U => U.heap.size = sz ∧ va_P (dC, dI) vwCl [(h0, .inr (10, fs_h0))] U.heap ∧ va_K (dC, dI) vwCl [] U ∧ va_D (fun _ => True) [(h0, .inr (10, fs_h0))])) (va_Ql (fun (r : Int64) (_ : Unit) => r = (-9223372036854775808)) (fun _ t => va_P (dC, dI) vwCl [] t.heap ∧ va_K (dC, dI) vwCl [] t ∧ va_D (va_A [(h0, .inr (10, fs_h0))] sz) []) (va_A [(h0, .inr (10, fs_h0))] sz)) 0 0 (va_A [(h0, .inr (10, fs_h0))] sz) := by
  refine Met.ofW (cc := cX11_refuseLong) (maxL := 2) (ret := (some .long)) (by decide) rfl ?_
  intro p e s m args below meth c s₁ B hml hv
  obtain ⟨rfl, hsz, hP, hK, hD0⟩ := hv
  have hx := B.exec
  have hb := B.bytes
  have hr := B.returns
  have hts := atoms_spec (ws := wsX11_refuseLong) B.pre
  have hown : s.vm.findClass RX11 = some m.cls := findClass_of_methodNamed B.named
  have hlocks := B.notSynchronized
  have hinX11 : ∀ w ∈ u_ws RX11 TX11 15, w ∈ wsX11_refuseLong := (fun _ h9 => List.mem_cons_of_mem _ (List.mem_append_right _ h9))
  subst hsz
  have hD := hD0.self (sz := s.heap.size)
  generalize hAe : va_A [(h0, .inr (10, fs_h0))] s.heap.size = A at hD ⊢
  have hA : ∀ q : Nat, s.heap.size ≤ q → A q := fun q h => by rw [← hAe]; exact Or.inr h
  have hS : va_S A s.heap s.heap [] := va_S.rf
  have hP : va_P (dC, dI) vwCl [(h0, .inr (10, fs_h0))] s.heap := hP
  have hl := lv_entry ([.ref h0, .int p0]) (n := 2) (Nat.le_of_ble_eq_true rfl)
  rw [lg_entry_eq]
  generalize (lg_sl ([.ref h0, .int p0]) ++ List.replicate (2 - (lg_sl ([.ref h0, .int p0])).length) Slot.unset).toArray = ls at hl ⊢
  have hl : lv_has ls 2 [(0, .ref h0), (1, .int p0)] := hl
  refine lv_aload_n hx hb dX11_refuseLong_0 rfl (lv_at hl 0 rfl) ?_
  refine lv_iload_n hx hb dX11_refuseLong_1 rfl (lv_at hl 1 rfl) ?_
  refine va_put (D := (dC, dI)) (ci := 10) (v := .int p0) (C := RX11) (T := TX11) (N := 15) hx hb hts hinX11 tyX11 tyX11_ok nmX11 hown hK hP hD hS 0 rfl rfl 12 (by decide) (hts (.fieldLink RX11 74 "BondCalendars" "refusal" "I") (by decide +kernel)) (fun _ h9 => h9) rfl (ty := .int) (by decide +kernel) rfl rfl (by rw [hn_h0]; decide) dX11_refuseLong_2 (fun H locs hP hD hS => ?_)
  have hP : va_P (dC, dI) vwCl [(h0, .inr (10, (fs_h0.set 12 (.int p0))))] H := hP
  have hD : va_D A [(h0, .inr (10, (fs_h0.set 12 (.int p0))))] := hD
  refine lv_ldc2 (v := (-9223372036854775808)) hx hb hown (hts (.constantLong RX11 256 (-9223372036854775808)) (by decide +kernel)) dX11_refuseLong_5 ?_
  have hpost : ((-9223372036854775808) : Int64) = (-9223372036854775808) := rfl
  have hP9 := hP.sub (ws' := []) [] rfl
  have hD9 := hD.sub (ws' := []) [] (by decide) rfl
  have hK9 := hK.sub (tys' := []) [] rfl
  exact W.lret (v := (-9223372036854775808)) hx hb hr (fun t ht hW => ⟨⟨(-9223372036854775808), (), rfl, hpost, by rw [ht]; exact hP9, va_K.moved hW.alike hK9, hD9⟩, hS.F ht⟩) hS.2.2 dX11_refuseLong_8
set_option maxHeartbeats 4000000 in
set_option maxRecDepth 100000 in
theorem k_X11_bondOf (l : Launch) (dC : Nat → ClassId) (dI : Nat → Nat → Nat) (sz : Nat) (h0 : Nat) (fs_h0 : List Value) (rd : Nat) (fs_rd : List Value) (tp : Nat) (fs_tp : List Value) (ra : Nat) (fs_ra : List Value) (li : Nat) (fs_li : List Value) (ho : Nat) (fs_ho : List Value) (dr : Nat) (fs_dr : List Value) (hd : Nat) (fs_hd : List Value) (p0 : Int32) (hn_h0 : fs_h0.length = 15) (hf_h0_10 : fs_h0[10]? = some (.int 0)) (hn_rd : fs_rd.length = 5) (hn_tp : fs_tp.length = 7) (hn_ra : fs_ra.length = 2) (hn_li : fs_li.length = 12) (hn_ho : fs_ho.length = 2) (hn_dr : fs_dr.length = 12) (hn_hd : fs_hd.length = 2) : Met l yX11_bondOf wsX11_bondOf ({ frames := 0, cells := 0, slots := 0, locals := 0 }) (va_Pc [.ref h0, .int p0] (fun U => U.heap.size = sz ∧ va_P (dC, dI) vwCl [(h0, .inr (10, fs_h0)), (rd, .inr (6, fs_rd)), (tp, .inr (9, fs_tp)), (ra, .inr (5, fs_ra)), (li, .inr (3, fs_li)), (ho, .inr (4, fs_ho)), (dr, .inr (3, fs_dr)), (hd, .inr (4, fs_hd))] U.heap ∧ va_K (dC, dI) vwCl [] U ∧ va_D (fun _ => True) [(h0, .inr (10, fs_h0)), (rd, .inr (6, fs_rd)), (tp, .inr (9, fs_tp)), (ra, .inr (5, fs_ra)), (li, .inr (3, fs_li)), (ho, .inr (4, fs_ho)), (dr, .inr (3, fs_dr)), (hd, .inr (4, fs_hd))])) (va_Qq (fun (r : Option Nat) (_ : Unit) => r = none) (fun _ t => va_P (dC, dI) vwCl [(h0, .inr (10, fs_h0)), (rd, .inr (6, fs_rd)), (tp, .inr (9, fs_tp)), (ra, .inr (5, fs_ra)), (li, .inr (3, fs_li)), (ho, .inr (4, fs_ho)), (dr, .inr (3, fs_dr)), (hd, .inr (4, fs_hd))] t.heap ∧ va_K (dC, dI) vwCl [] t ∧ va_D (va_A [(h0, .inr (10, fs_h0)), (rd, .inr (6, fs_rd)), (tp, .inr (9, fs_tp)), (ra, .inr (5, fs_ra)), (li, .inr (3, fs_li)), (ho, .inr (4, fs_ho)), (dr, .inr (3, fs_dr)), (hd, .inr (4, fs_hd))] sz) [(h0, .inr (10, fs_h0)), (rd, .inr (6, fs_rd)), (tp, .inr (9, fs_tp)), (ra, .inr (5, fs_ra)), (li, .inr (3, fs_li)), (ho, .inr (4, fs_ho)), (dr, .inr (3, fs_dr)), (hd, .inr (4, fs_hd))]) (va_A [(h0, .inr (10, fs_h0)), (rd, .inr (6, fs_rd)), (tp, .inr (9, fs_tp)), (ra, .inr (5, fs_ra)), (li, .inr (3, fs_li)), (ho, .inr (4, fs_ho)), (dr, .inr (3, fs_dr)), (hd, .inr (4, fs_hd))] sz)) 0 0 (va_A [(h0, .inr (10, fs_h0)), (rd, .inr (6, fs_rd)), (tp, .inr (9, fs_tp)), (ra, .inr (5, fs_ra)), (li, .inr (3, fs_li)), (ho, .inr (4, fs_ho)), (dr, .inr (3, fs_dr)), (hd, .inr (4, fs_hd))] sz) := by
  refine Met.ofW (cc := cX11_bondOf) (maxL := 2) (ret := (some (.object "BondCalendars$Bond"))) (by decide) rfl ?_
  intro p e s m args below meth c s₁ B hml hv
  obtain ⟨rfl, hsz, hP, hK, hD0⟩ := hv
  have hx := B.exec
  have hb := B.bytes
  have hr := B.returns
  have hts := atoms_spec (ws := wsX11_bondOf) B.pre
  have hown : s.vm.findClass RX11 = some m.cls := findClass_of_methodNamed B.named
  have hlocks := B.notSynchronized
  have hinX11 : ∀ w ∈ u_ws RX11 TX11 15, w ∈ wsX11_bondOf := (fun _ h9 => List.mem_cons_of_mem _ (List.mem_append_left _ (List.mem_append_right _ h9)))
  subst hsz
  have hD := hD0.self (sz := s.heap.size)
  generalize hAe : va_A [(h0, .inr (10, fs_h0)), (rd, .inr (6, fs_rd)), (tp, .inr (9, fs_tp)), (ra, .inr (5, fs_ra)), (li, .inr (3, fs_li)), (ho, .inr (4, fs_ho)), (dr, .inr (3, fs_dr)), (hd, .inr (4, fs_hd))] s.heap.size = A at hD ⊢
  have hA : ∀ q : Nat, s.heap.size ≤ q → A q := fun q h => by rw [← hAe]; exact Or.inr h
  have hS : va_S A s.heap s.heap [] := va_S.rf
  have hP : va_P (dC, dI) vwCl [(h0, .inr (10, fs_h0)), (rd, .inr (6, fs_rd)), (tp, .inr (9, fs_tp)), (ra, .inr (5, fs_ra)), (li, .inr (3, fs_li)), (ho, .inr (4, fs_ho)), (dr, .inr (3, fs_dr)), (hd, .inr (4, fs_hd))] s.heap := hP
  have hl := lv_entry ([.ref h0, .int p0]) (n := 2) (Nat.le_of_ble_eq_true rfl)
  rw [lg_entry_eq]
  generalize (lg_sl ([.ref h0, .int p0]) ++ List.replicate (2 - (lg_sl ([.ref h0, .int p0])).length) Slot.unset).toArray = ls at hl ⊢
  have hl : lv_has ls 2 [(0, .ref h0), (1, .int p0)] := hl
  refine lv_aload_n hx hb dX11_bondOf_0 rfl (lv_at hl 0 rfl) ?_
  refine va_get (D := (dC, dI)) (ci := 10) (v := .int 0) (C := RX11) (T := TX11) (N := 15) hx hb hts hinX11 hown hK hP 0 rfl rfl 10 (by decide) (hts (.fieldLink RX11 67 "BondCalendars" "hasDesk" "Z") (by decide +kernel)) (fun _ h9 => h9) hf_h0_10 dX11_bondOf_1 ?_
  refine lv_if_eq (tgt := 34) hx hb dX11_bondOf_4 (by decide) (fun c_1 => ?_) (fun c_1 => ?_)
  · refine lv_null hx hb dX11_bondOf_34 ?_
    have hP9 := hP.sub (ws' := [(h0, .inr (10, fs_h0)), (rd, .inr (6, fs_rd)), (tp, .inr (9, fs_tp)), (ra, .inr (5, fs_ra)), (li, .inr (3, fs_li)), (ho, .inr (4, fs_ho)), (dr, .inr (3, fs_dr)), (hd, .inr (4, fs_hd))]) [0, 1, 2, 3, 4, 5, 6, 7] rfl
    have hD9 := hD.sub (ws' := [(h0, .inr (10, fs_h0)), (rd, .inr (6, fs_rd)), (tp, .inr (9, fs_tp)), (ra, .inr (5, fs_ra)), (li, .inr (3, fs_li)), (ho, .inr (4, fs_ho)), (dr, .inr (3, fs_dr)), (hd, .inr (4, fs_hd))]) [0, 1, 2, 3, 4, 5, 6, 7] (by decide) rfl
    have hK9 := hK.sub (tys' := []) [] rfl
    exact W.aret (v := .null) hx hb hr (Or.inl ⟨_, rfl⟩) (Or.inl rfl) (fun t ht hW => ⟨⟨none, (), rfl, rfl, by rw [ht]; exact hP9, va_K.moved hW.alike hK9, hD9⟩, hS.F ht⟩) hS.2.2 dX11_bondOf_35
  · exact absurd (by decide) c_1
set_option maxHeartbeats 4000000 in
set_option maxRecDepth 100000 in
theorem k_X11_openSettle (l : Launch) (dC : Nat → ClassId) (dI : Nat → Nat → Nat) (sz : Nat) (h0 : Nat) (fs_h0 : List Value) (rd : Nat) (fs_rd : List Value) (tp : Nat) (fs_tp : List Value) (ra : Nat) (fs_ra : List Value) (li : Nat) (fs_li : List Value) (ho : Nat) (fs_ho : List Value) (dr : Nat) (fs_dr : List Value) (hd : Nat) (fs_hd : List Value) (p0 : Int32) (p1 : Int32) (p2 : Int32) (hn_h0 : fs_h0.length = 15) (hf_h0_0 : fs_h0[0]? = some (.ref rd)) (hf_h0_3 : fs_h0[3]? = some (.ref ra)) (hf_h0_8 : fs_h0[8]? = some (.ref li)) (hf_h0_9 : fs_h0[9]? = some (.ref dr)) (hf_h0_10 : fs_h0[10]? = some (.int 0)) (hn_rd : fs_rd.length = 5) (hf_rd_0 : fs_rd[0]? = some (.ref tp)) (hn_tp : fs_tp.length = 7) (hn_ra : fs_ra.length = 2) (hn_li : fs_li.length = 12) (hf_li_2 : fs_li[2]? = some (.ref ho)) (hn_ho : fs_ho.length = 2) (hn_dr : fs_dr.length = 12) (hf_dr_2 : fs_dr[2]? = some (.ref hd)) (hn_hd : fs_hd.length = 2) : Met l yX11_openSettle wsX11_openSettle ({ frames := 1, cells := 0, slots := 0, locals := 21 }) (va_Pc [.ref h0, .int p0, .int p1, .int p2] (fun U => U.heap.size = sz ∧ va_P (dC, dI) vwCl [(h0, .inr (10, fs_h0)), (rd, .inr (6, fs_rd)), (tp, .inr (9, fs_tp)), (ra, .inr (5, fs_ra)), (li, .inr (3, fs_li)), (ho, .inr (4, fs_ho)), (dr, .inr (3, fs_dr)), (hd, .inr (4, fs_hd))] U.heap ∧ va_K (dC, dI) vwCl [] U ∧ va_D (fun _ => True) [(h0, .inr (10, fs_h0)), (rd, .inr (6, fs_rd)), (tp, .inr (9, fs_tp)), (ra, .inr (5, fs_ra)), (li, .inr (3, fs_li)), (ho, .inr (4, fs_ho)), (dr, .inr (3, fs_dr)), (hd, .inr (4, fs_hd))])) (va_Qi (fun (r : Int32) (_ : Unit) => r = 0) (fun _ t => va_P (dC, dI) vwCl [] t.heap ∧ va_K (dC, dI) vwCl [] t ∧ va_D (va_A [(h0, .inr (10, fs_h0)), (rd, .inr (6, fs_rd)), (tp, .inr (9, fs_tp)), (ra, .inr (5, fs_ra)), (li, .inr (3, fs_li)), (ho, .inr (4, fs_ho)), (dr, .inr (3, fs_dr)), (hd, .inr (4, fs_hd))] sz) []) (va_A [(h0, .inr (10, fs_h0)), (rd, .inr (6, fs_rd)), (tp, .inr (9, fs_tp)), (ra, .inr (5, fs_ra)), (li, .inr (3, fs_li)), (ho, .inr (4, fs_ho)), (dr, .inr (3, fs_dr)), (hd, .inr (4, fs_hd))] sz)) 0 0 (va_A [(h0, .inr (10, fs_h0)), (rd, .inr (6, fs_rd)), (tp, .inr (9, fs_tp)), (ra, .inr (5, fs_ra)), (li, .inr (3, fs_li)), (ho, .inr (4, fs_ho)), (dr, .inr (3, fs_dr)), (hd, .inr (4, fs_hd))] sz) := by
  refine Met.ofW (cc := cX11_openSettle) (maxL := 6) (ret := (some .boolean)) (by decide) rfl ?_
  intro p e s m args below meth c s₁ B hml hv
  obtain ⟨rfl, hsz, hP, hK, hD0⟩ := hv
  have hx := B.exec
  have hb := B.bytes
  have hr := B.returns
  have hts := atoms_spec (ws := wsX11_openSettle) B.pre
  have hown : s.vm.findClass RX11 = some m.cls := findClass_of_methodNamed B.named
  have hlocks := B.notSynchronized
  have hinX11 : ∀ w ∈ u_ws RX11 TX11 15, w ∈ wsX11_openSettle := (fun _ h9 => List.mem_cons_of_mem _ (List.mem_append_left _ (List.mem_append_left _ (List.mem_append_left _ (List.mem_append_left _ (List.mem_append_right _ h9))))))
  subst hsz
  have hD := hD0.self (sz := s.heap.size)
  generalize hAe : va_A [(h0, .inr (10, fs_h0)), (rd, .inr (6, fs_rd)), (tp, .inr (9, fs_tp)), (ra, .inr (5, fs_ra)), (li, .inr (3, fs_li)), (ho, .inr (4, fs_ho)), (dr, .inr (3, fs_dr)), (hd, .inr (4, fs_hd))] s.heap.size = A at hD ⊢
  have hA : ∀ q : Nat, s.heap.size ≤ q → A q := fun q h => by rw [← hAe]; exact Or.inr h
  have hS : va_S A s.heap s.heap [] := va_S.rf
  have hP : va_P (dC, dI) vwCl [(h0, .inr (10, fs_h0)), (rd, .inr (6, fs_rd)), (tp, .inr (9, fs_tp)), (ra, .inr (5, fs_ra)), (li, .inr (3, fs_li)), (ho, .inr (4, fs_ho)), (dr, .inr (3, fs_dr)), (hd, .inr (4, fs_hd))] s.heap := hP
  have hl := lv_entry ([.ref h0, .int p0, .int p1, .int p2]) (n := 6) (Nat.le_of_ble_eq_true rfl)
  rw [lg_entry_eq]
  generalize (lg_sl ([.ref h0, .int p0, .int p1, .int p2]) ++ List.replicate (6 - (lg_sl ([.ref h0, .int p0, .int p1, .int p2])).length) Slot.unset).toArray = ls at hl ⊢
  have hl : lv_has ls 6 [(0, .ref h0), (1, .int p0), (2, .int p1), (3, .int p2)] := hl
  refine lv_aload_n hx hb dX11_openSettle_0 rfl (lv_at hl 0 rfl) ?_
  refine lv_iload_n hx hb dX11_openSettle_1 rfl (lv_at hl 1 rfl) ?_
  have hPc := hP.sub (ws' := [(h0, .inr (10, fs_h0)), (rd, .inr (6, fs_rd)), (tp, .inr (9, fs_tp)), (ra, .inr (5, fs_ra)), (li, .inr (3, fs_li)), (ho, .inr (4, fs_ho)), (dr, .inr (3, fs_dr)), (hd, .inr (4, fs_hd))]) [0, 1, 2, 3, 4, 5, 6, 7] rfl
  have hDc := hD.sub (ws' := [(h0, .inr (10, fs_h0)), (rd, .inr (6, fs_rd)), (tp, .inr (9, fs_tp)), (ra, .inr (5, fs_ra)), (li, .inr (3, fs_li)), (ho, .inr (4, fs_ho)), (dr, .inr (3, fs_dr)), (hd, .inr (4, fs_hd))]) [0, 1, 2, 3, 4, 5, 6, 7] (by decide) rfl
  have hKc := hK.sub (tys' := []) [] rfl
  have hFc := va_free (wc := [(h0, .inr (10, fs_h0)), (rd, .inr (6, fs_rd)), (tp, .inr (9, fs_tp)), (ra, .inr (5, fs_ra)), (li, .inr (3, fs_li)), (ho, .inr (4, fs_ho)), (dr, .inr (3, fs_dr)), (hd, .inr (4, fs_hd))]) hD hS hA [0, 1, 2, 3, 4, 5, 6, 7] rfl
  refine va_callq (va_runV (As := [.int p0]) (rest := []) ⟨hx, hb, hml, hown, hts⟩ (k_X11_bondOf l dC dI s.heap.size h0 fs_h0 rd fs_rd tp fs_tp ra fs_ra li fs_li ho fs_ho dr fs_dr hd fs_hd p0 hn_h0 hf_h0_10 hn_rd hn_tp hn_ra hn_li hn_ho hn_dr hn_hd) (cwV 1 hts gX11_openSettle_X11_bondOf rfl rfl rfl (by decide +kernel) ⟨Nat.le_of_ble_eq_true rfl, Nat.le_of_ble_eq_true rfl⟩) ⟨fun a U g mk q => by obtain ⟨q0, q1, qP, qK, qD⟩ := q; exact ⟨q0, q1, qP, va_K.moved (u := U) (U := U.calling g mk a) (Vm.Alike.refl U.vm) qK, qD⟩, va_recv hKc hPc (ci := 10) (q0 := 0) rfl rfl, fun U hU hW => ⟨rfl, by rw [hU], by rw [hU]; exact hPc, va_K.moved hW.alike hKc, hDc.weaken (fun _ _ _ _ => trivial)⟩⟩ rfl rfl hl.1 rfl (lv_room (Nat.le_of_ble_eq_true rfl)) dX11_openSettle_2 ⟨Nat.le_of_ble_eq_true rfl, Nat.le_of_ble_eq_true rfl⟩) hS (fun q _ h => hFc q h) hFc (fun r_1 u t H1 locs ht hvm hw hB hz1 hk1 hS => ?_)
  obtain ⟨hP1, hK1, hD1⟩ := hB
  rw [ht] at hP1
  have hK1 := va_K.moved hvm.symm hK1
  obtain ⟨hP, hD⟩ := va_join (wr := []) (w1 := [(h0, .inr (10, fs_h0)), (rd, .inr (6, fs_rd)), (tp, .inr (9, fs_tp)), (ra, .inr (5, fs_ra)), (li, .inr (3, fs_li)), (ho, .inr (4, fs_ho)), (dr, .inr (3, fs_dr)), (hd, .inr (4, fs_hd))]) hP hD [0, 1, 2, 3, 4, 5, 6, 7] [] rfl rfl (by decide) (by decide) hk1 hFc hP1 hD1
  generalize H1 = H at hP hS ⊢
  have hP : va_P (dC, dI) vwCl [(h0, .inr (10, fs_h0)), (rd, .inr (6, fs_rd)), (tp, .inr (9, fs_tp)), (ra, .inr (5, fs_ra)), (li, .inr (3, fs_li)), (ho, .inr (4, fs_ho)), (dr, .inr (3, fs_dr)), (hd, .inr (4, fs_hd))] H := hP
  have hD : va_D A [(h0, .inr (10, fs_h0)), (rd, .inr (6, fs_rd)), (tp, .inr (9, fs_tp)), (ra, .inr (5, fs_ra)), (li, .inr (3, fs_li)), (ho, .inr (4, fs_ho)), (dr, .inr (3, fs_dr)), (hd, .inr (4, fs_hd))] := hD
  subst hw
  refine W.eq (g2 := F0 m 5 ls [.null]) rfl ?_
  refine lv_astoreN (lv' := [(4, .null), (0, .ref h0), (1, .int p0), (2, .int p1), (3, .int p2)]) hx hb dX11_openSettle_5 hl (by decide) rfl (fun ls hl => ?_)
  refine lv_aloadN hx hb dX11_openSettle_7 (lv_at hl 0 rfl) ?_
  refine lv_ifnonnullN hx hb dX11_openSettle_9 ?_
  refine lv_aload_n hx hb dX11_openSettle_12 rfl (lv_at hl 1 rfl) ?_
  refine lv_iconst (v := 1) hx hb dX11_openSettle_13 (by decide) ?_
  refine va_put (D := (dC, dI)) (ci := 10) (v := .int 1) (C := RX11) (T := TX11) (N := 15) hx hb hts hinX11 tyX11 tyX11_ok nmX11 hown hK hP hD hS 0 rfl rfl 12 (by decide) (hts (.fieldLink RX11 74 "BondCalendars" "refusal" "I") (by decide +kernel)) (fun _ h9 => h9) rfl (ty := .int) (by decide +kernel) rfl rfl (by rw [hn_h0]; decide) dX11_openSettle_14 (fun H locs hP hD hS => ?_)
  have hP : va_P (dC, dI) vwCl [(h0, .inr (10, (fs_h0.set 12 (.int 1)))), (rd, .inr (6, fs_rd)), (tp, .inr (9, fs_tp)), (ra, .inr (5, fs_ra)), (li, .inr (3, fs_li)), (ho, .inr (4, fs_ho)), (dr, .inr (3, fs_dr)), (hd, .inr (4, fs_hd))] H := hP
  have hD : va_D A [(h0, .inr (10, (fs_h0.set 12 (.int 1)))), (rd, .inr (6, fs_rd)), (tp, .inr (9, fs_tp)), (ra, .inr (5, fs_ra)), (li, .inr (3, fs_li)), (ho, .inr (4, fs_ho)), (dr, .inr (3, fs_dr)), (hd, .inr (4, fs_hd))] := hD
  refine lv_iconst (v := 0) hx hb dX11_openSettle_17 (by decide) ?_
  have hpost : (0 : Int32) = 0 := rfl
  have hP9 := hP.sub (ws' := []) [] rfl
  have hD9 := hD.sub (ws' := []) [] (by decide) rfl
  have hK9 := hK.sub (tys' := []) [] rfl
  exact W.zret (v := 0) hx hb hr (by decide) (fun t ht hW => ⟨⟨0, (), rfl, hpost, by rw [ht]; exact hP9, va_K.moved hW.alike hK9, hD9⟩, hS.F ht⟩) hS.2.2 dX11_openSettle_18
set_option maxHeartbeats 4000000 in
set_option maxRecDepth 100000 in
theorem k_X11_mayGo (l : Launch) (dC : Nat → ClassId) (dI : Nat → Nat → Nat) (sz : Nat) (h0 : Nat) (fs_h0 : List Value) (p0 : Int32) (hn_h0 : fs_h0.length = 15) (hf_h0_10 : fs_h0[10]? = some (.int 0)) : Met l yX11_mayGo wsX11_mayGo ({ frames := 0, cells := 0, slots := 0, locals := 0 }) (va_Pc [.ref h0, .int p0] (fun U => U.heap.size = sz ∧ va_P (dC, dI) vwCl [(h0, .inr (10, fs_h0))] U.heap ∧ va_K (dC, dI) vwCl [] U ∧ va_D (fun _ => True) [(h0, .inr (10, fs_h0))])) (va_Qi (fun (r : Int32) (_ : Unit) => r = 0) (fun _ t => va_P (dC, dI) vwCl [] t.heap ∧ va_K (dC, dI) vwCl [] t ∧ va_D (va_A [(h0, .inr (10, fs_h0))] sz) []) (va_A [(h0, .inr (10, fs_h0))] sz)) 0 0 (va_A [(h0, .inr (10, fs_h0))] sz) := by
  refine Met.ofW (cc := cX11_mayGo) (maxL := 2) (ret := (some .boolean)) (by decide) rfl ?_
  intro p e s m args below meth c s₁ B hml hv
  obtain ⟨rfl, hsz, hP, hK, hD0⟩ := hv
  have hx := B.exec
  have hb := B.bytes
  have hr := B.returns
  have hts := atoms_spec (ws := wsX11_mayGo) B.pre
  have hown : s.vm.findClass RX11 = some m.cls := findClass_of_methodNamed B.named
  have hlocks := B.notSynchronized
  have hinX11 : ∀ w ∈ u_ws RX11 TX11 15, w ∈ wsX11_mayGo := (fun _ h9 => List.mem_cons_of_mem _ (List.mem_append_left _ (List.mem_append_right _ h9)))
  subst hsz
  have hD := hD0.self (sz := s.heap.size)
  generalize hAe : va_A [(h0, .inr (10, fs_h0))] s.heap.size = A at hD ⊢
  have hA : ∀ q : Nat, s.heap.size ≤ q → A q := fun q h => by rw [← hAe]; exact Or.inr h
  have hS : va_S A s.heap s.heap [] := va_S.rf
  have hP : va_P (dC, dI) vwCl [(h0, .inr (10, fs_h0))] s.heap := hP
  have hl := lv_entry ([.ref h0, .int p0]) (n := 2) (Nat.le_of_ble_eq_true rfl)
  rw [lg_entry_eq]
  generalize (lg_sl ([.ref h0, .int p0]) ++ List.replicate (2 - (lg_sl ([.ref h0, .int p0])).length) Slot.unset).toArray = ls at hl ⊢
  have hl : lv_has ls 2 [(0, .ref h0), (1, .int p0)] := hl
  refine lv_aload_n hx hb dX11_mayGo_0 rfl (lv_at hl 0 rfl) ?_
  refine va_get (D := (dC, dI)) (ci := 10) (v := .int 0) (C := RX11) (T := TX11) (N := 15) hx hb hts hinX11 hown hK hP 0 rfl rfl 10 (by decide) (hts (.fieldLink RX11 67 "BondCalendars" "hasDesk" "Z") (by decide +kernel)) (fun _ h9 => h9) hf_h0_10 dX11_mayGo_1 ?_
  refine lv_if_ne (tgt := 14) hx hb dX11_mayGo_4 (by decide) (fun c_1 => ?_) (fun c_1 => ?_)
  · exact absurd (by decide) c_1
  · refine lv_aload_n hx hb dX11_mayGo_7 rfl (lv_at hl 0 rfl) ?_
    refine lv_iconst (v := 1) hx hb dX11_mayGo_8 (by decide) ?_
    refine va_put (D := (dC, dI)) (ci := 10) (v := .int 1) (C := RX11) (T := TX11) (N := 15) hx hb hts hinX11 tyX11 tyX11_ok nmX11 hown hK hP hD hS 0 rfl rfl 12 (by decide) (hts (.fieldLink RX11 74 "BondCalendars" "refusal" "I") (by decide +kernel)) (fun _ h9 => h9) rfl (ty := .int) (by decide +kernel) rfl rfl (by rw [hn_h0]; decide) dX11_mayGo_9 (fun H locs hP hD hS => ?_)
    have hP : va_P (dC, dI) vwCl [(h0, .inr (10, (fs_h0.set 12 (.int 1))))] H := hP
    have hD : va_D A [(h0, .inr (10, (fs_h0.set 12 (.int 1))))] := hD
    refine lv_iconst (v := 0) hx hb dX11_mayGo_12 (by decide) ?_
    have hpost : (0 : Int32) = 0 := rfl
    have hP9 := hP.sub (ws' := []) [] rfl
    have hD9 := hD.sub (ws' := []) [] (by decide) rfl
    have hK9 := hK.sub (tys' := []) [] rfl
    exact W.zret (v := 0) hx hb hr (by decide) (fun t ht hW => ⟨⟨0, (), rfl, hpost, by rw [ht]; exact hP9, va_K.moved hW.alike hK9, hD9⟩, hS.F ht⟩) hS.2.2 dX11_mayGo_13
set_option maxHeartbeats 4000000 in
set_option maxRecDepth 100000 in
theorem k_X11_bond (l : Launch) (dC : Nat → ClassId) (dI : Nat → Nat → Nat) (sz : Nat) (h0 : Nat) (fs_h0 : List Value) (rd : Nat) (fs_rd : List Value) (tp : Nat) (fs_tp : List Value) (ra : Nat) (fs_ra : List Value) (li : Nat) (fs_li : List Value) (ho : Nat) (fs_ho : List Value) (dr : Nat) (fs_dr : List Value) (hd : Nat) (fs_hd : List Value) (p0 : Int32) (p1 : Int32) (hn_h0 : fs_h0.length = 15) (hf_h0_0 : fs_h0[0]? = some (.ref rd)) (hf_h0_3 : fs_h0[3]? = some (.ref ra)) (hf_h0_8 : fs_h0[8]? = some (.ref li)) (hf_h0_9 : fs_h0[9]? = some (.ref dr)) (hf_h0_10 : fs_h0[10]? = some (.int 0)) (hn_rd : fs_rd.length = 5) (hf_rd_0 : fs_rd[0]? = some (.ref tp)) (hn_tp : fs_tp.length = 7) (hn_ra : fs_ra.length = 2) (hn_li : fs_li.length = 12) (hf_li_2 : fs_li[2]? = some (.ref ho)) (hn_ho : fs_ho.length = 2) (hn_dr : fs_dr.length = 12) (hf_dr_2 : fs_dr[2]? = some (.ref hd)) (hn_hd : fs_hd.length = 2) : Met l yX11_bond wsX11_bond ({ frames := 1, cells := 0, slots := 0, locals := 21 }) (va_Pc [.ref h0, .int p0, .int p1] (fun U => U.heap.size = sz ∧ va_P (dC, dI) vwCl [(h0, .inr (10, fs_h0)), (rd, .inr (6, fs_rd)), (tp, .inr (9, fs_tp)), (ra, .inr (5, fs_ra)), (li, .inr (3, fs_li)), (ho, .inr (4, fs_ho)), (dr, .inr (3, fs_dr)), (hd, .inr (4, fs_hd))] U.heap ∧ va_K (dC, dI) vwCl [] U ∧ va_D (fun _ => True) [(h0, .inr (10, fs_h0)), (rd, .inr (6, fs_rd)), (tp, .inr (9, fs_tp)), (ra, .inr (5, fs_ra)), (li, .inr (3, fs_li)), (ho, .inr (4, fs_ho)), (dr, .inr (3, fs_dr)), (hd, .inr (4, fs_hd))])) (va_Qi (fun (r : Int32) (_ : Unit) => r = (-1)) (fun _ t => va_P (dC, dI) vwCl [] t.heap ∧ va_K (dC, dI) vwCl [] t ∧ va_D (va_A [(h0, .inr (10, fs_h0)), (rd, .inr (6, fs_rd)), (tp, .inr (9, fs_tp)), (ra, .inr (5, fs_ra)), (li, .inr (3, fs_li)), (ho, .inr (4, fs_ho)), (dr, .inr (3, fs_dr)), (hd, .inr (4, fs_hd))] sz) []) (va_A [(h0, .inr (10, fs_h0)), (rd, .inr (6, fs_rd)), (tp, .inr (9, fs_tp)), (ra, .inr (5, fs_ra)), (li, .inr (3, fs_li)), (ho, .inr (4, fs_ho)), (dr, .inr (3, fs_dr)), (hd, .inr (4, fs_hd))] sz)) 0 0 (va_A [(h0, .inr (10, fs_h0)), (rd, .inr (6, fs_rd)), (tp, .inr (9, fs_tp)), (ra, .inr (5, fs_ra)), (li, .inr (3, fs_li)), (ho, .inr (4, fs_ho)), (dr, .inr (3, fs_dr)), (hd, .inr (4, fs_hd))] sz) := by
  refine Met.ofW (cc := cX11_bond) (maxL := 4) (ret := (some .int)) (by decide) rfl ?_
  intro p e s m args below meth c s₁ B hml hv
  obtain ⟨rfl, hsz, hP, hK, hD0⟩ := hv
  have hx := B.exec
  have hb := B.bytes
  have hr := B.returns
  have hts := atoms_spec (ws := wsX11_bond) B.pre
  have hown : s.vm.findClass RX11 = some m.cls := findClass_of_methodNamed B.named
  have hlocks := B.notSynchronized
  subst hsz
  have hD := hD0.self (sz := s.heap.size)
  generalize hAe : va_A [(h0, .inr (10, fs_h0)), (rd, .inr (6, fs_rd)), (tp, .inr (9, fs_tp)), (ra, .inr (5, fs_ra)), (li, .inr (3, fs_li)), (ho, .inr (4, fs_ho)), (dr, .inr (3, fs_dr)), (hd, .inr (4, fs_hd))] s.heap.size = A at hD ⊢
  have hA : ∀ q : Nat, s.heap.size ≤ q → A q := fun q h => by rw [← hAe]; exact Or.inr h
  have hS : va_S A s.heap s.heap [] := va_S.rf
  have hP : va_P (dC, dI) vwCl [(h0, .inr (10, fs_h0)), (rd, .inr (6, fs_rd)), (tp, .inr (9, fs_tp)), (ra, .inr (5, fs_ra)), (li, .inr (3, fs_li)), (ho, .inr (4, fs_ho)), (dr, .inr (3, fs_dr)), (hd, .inr (4, fs_hd))] s.heap := hP
  have hl := lv_entry ([.ref h0, .int p0, .int p1]) (n := 4) (Nat.le_of_ble_eq_true rfl)
  rw [lg_entry_eq]
  generalize (lg_sl ([.ref h0, .int p0, .int p1]) ++ List.replicate (4 - (lg_sl ([.ref h0, .int p0, .int p1])).length) Slot.unset).toArray = ls at hl ⊢
  have hl : lv_has ls 4 [(0, .ref h0), (1, .int p0), (2, .int p1)] := hl
  refine lv_aload_n hx hb dX11_bond_0 rfl (lv_at hl 0 rfl) ?_
  refine lv_iload_n hx hb dX11_bond_1 rfl (lv_at hl 1 rfl) ?_
  have hPc := hP.sub (ws' := [(h0, .inr (10, fs_h0)), (rd, .inr (6, fs_rd)), (tp, .inr (9, fs_tp)), (ra, .inr (5, fs_ra)), (li, .inr (3, fs_li)), (ho, .inr (4, fs_ho)), (dr, .inr (3, fs_dr)), (hd, .inr (4, fs_hd))]) [0, 1, 2, 3, 4, 5, 6, 7] rfl
  have hDc := hD.sub (ws' := [(h0, .inr (10, fs_h0)), (rd, .inr (6, fs_rd)), (tp, .inr (9, fs_tp)), (ra, .inr (5, fs_ra)), (li, .inr (3, fs_li)), (ho, .inr (4, fs_ho)), (dr, .inr (3, fs_dr)), (hd, .inr (4, fs_hd))]) [0, 1, 2, 3, 4, 5, 6, 7] (by decide) rfl
  have hKc := hK.sub (tys' := []) [] rfl
  have hFc := va_free (wc := [(h0, .inr (10, fs_h0)), (rd, .inr (6, fs_rd)), (tp, .inr (9, fs_tp)), (ra, .inr (5, fs_ra)), (li, .inr (3, fs_li)), (ho, .inr (4, fs_ho)), (dr, .inr (3, fs_dr)), (hd, .inr (4, fs_hd))]) hD hS hA [0, 1, 2, 3, 4, 5, 6, 7] rfl
  refine va_callq (va_runV (As := [.int p0]) (rest := []) ⟨hx, hb, hml, hown, hts⟩ (k_X11_bondOf l dC dI s.heap.size h0 fs_h0 rd fs_rd tp fs_tp ra fs_ra li fs_li ho fs_ho dr fs_dr hd fs_hd p0 hn_h0 hf_h0_10 hn_rd hn_tp hn_ra hn_li hn_ho hn_dr hn_hd) (cwV 1 hts gX11_bond_X11_bondOf rfl rfl rfl (by decide +kernel) ⟨Nat.le_of_ble_eq_true rfl, Nat.le_of_ble_eq_true rfl⟩) ⟨fun a U g mk q => by obtain ⟨q0, q1, qP, qK, qD⟩ := q; exact ⟨q0, q1, qP, va_K.moved (u := U) (U := U.calling g mk a) (Vm.Alike.refl U.vm) qK, qD⟩, va_recv hKc hPc (ci := 10) (q0 := 0) rfl rfl, fun U hU hW => ⟨rfl, by rw [hU], by rw [hU]; exact hPc, va_K.moved hW.alike hKc, hDc.weaken (fun _ _ _ _ => trivial)⟩⟩ rfl rfl hl.1 rfl (lv_room (Nat.le_of_ble_eq_true rfl)) dX11_bond_2 ⟨Nat.le_of_ble_eq_true rfl, Nat.le_of_ble_eq_true rfl⟩) hS (fun q _ h => hFc q h) hFc (fun r_1 u t H1 locs ht hvm hw hB hz1 hk1 hS => ?_)
  obtain ⟨hP1, hK1, hD1⟩ := hB
  rw [ht] at hP1
  have hK1 := va_K.moved hvm.symm hK1
  obtain ⟨hP, hD⟩ := va_join (wr := []) (w1 := [(h0, .inr (10, fs_h0)), (rd, .inr (6, fs_rd)), (tp, .inr (9, fs_tp)), (ra, .inr (5, fs_ra)), (li, .inr (3, fs_li)), (ho, .inr (4, fs_ho)), (dr, .inr (3, fs_dr)), (hd, .inr (4, fs_hd))]) hP hD [0, 1, 2, 3, 4, 5, 6, 7] [] rfl rfl (by decide) (by decide) hk1 hFc hP1 hD1
  generalize H1 = H at hP hS ⊢
  have hP : va_P (dC, dI) vwCl [(h0, .inr (10, fs_h0)), (rd, .inr (6, fs_rd)), (tp, .inr (9, fs_tp)), (ra, .inr (5, fs_ra)), (li, .inr (3, fs_li)), (ho, .inr (4, fs_ho)), (dr, .inr (3, fs_dr)), (hd, .inr (4, fs_hd))] H := hP
  have hD : va_D A [(h0, .inr (10, fs_h0)), (rd, .inr (6, fs_rd)), (tp, .inr (9, fs_tp)), (ra, .inr (5, fs_ra)), (li, .inr (3, fs_li)), (ho, .inr (4, fs_ho)), (dr, .inr (3, fs_dr)), (hd, .inr (4, fs_hd))] := hD
  subst hw
  refine W.eq (g2 := F0 m 5 ls [.null]) rfl ?_
  refine lv_astore_nN (lv' := [(3, .null), (0, .ref h0), (1, .int p0), (2, .int p1)]) hx hb dX11_bond_5 rfl hl (by decide) rfl (fun ls hl => ?_)
  refine lv_aload_nN hx hb dX11_bond_6 rfl (lv_at hl 0 rfl) ?_
  refine lv_ifnullN (tgt := 20) hx hb dX11_bond_7 (by decide) ?_
  refine lv_aload_n hx hb dX11_bond_20 rfl (lv_at hl 1 rfl) ?_
  refine lv_iconst (v := 1) hx hb dX11_bond_21 (by decide) ?_
  have hPc := hP.sub (ws' := [(h0, .inr (10, fs_h0))]) [0] rfl
  have hDc := hD.sub (ws' := [(h0, .inr (10, fs_h0))]) [0] (by decide) rfl
  have hKc := hK.sub (tys' := []) [] rfl
  have hFc := va_free (wc := [(h0, .inr (10, fs_h0))]) hD hS hA [0] rfl
  refine va_calli (va_runV (As := [.int 1]) (rest := []) ⟨hx, hb, hml, hown, hts⟩ (k_X11_refuse l dC dI H.size h0 fs_h0 1 hn_h0) (cwV 1 hts gX11_bond_X11_refuse rfl rfl rfl (by decide +kernel) ⟨Nat.le_of_ble_eq_true rfl, Nat.le_of_ble_eq_true rfl⟩) ⟨fun a U g mk q => by obtain ⟨q0, q1, qP, qK, qD⟩ := q; exact ⟨q0, q1, qP, va_K.moved (u := U) (U := U.calling g mk a) (Vm.Alike.refl U.vm) qK, qD⟩, va_recv hKc hPc (ci := 10) (q0 := 0) rfl rfl, fun U hU hW => ⟨rfl, by rw [hU], by rw [hU]; exact hPc, va_K.moved hW.alike hKc, hDc.weaken (fun _ _ _ _ => trivial)⟩⟩ rfl rfl hl.1 rfl (lv_room (Nat.le_of_ble_eq_true rfl)) dX11_bond_22 ⟨Nat.le_of_ble_eq_true rfl, Nat.le_of_ble_eq_true rfl⟩) hS (fun q _ h => hFc q h) hFc (fun r_2 u t H1 locs ht hvm hw hB hz1 hk1 hS => ?_)
  obtain ⟨hP1, hK1, hD1⟩ := hB
  rw [ht] at hP1
  have hK1 := va_K.moved hvm.symm hK1
  obtain ⟨hP, hD⟩ := va_join (wr := [(rd, .inr (6, fs_rd)), (tp, .inr (9, fs_tp)), (ra, .inr (5, fs_ra)), (li, .inr (3, fs_li)), (ho, .inr (4, fs_ho)), (dr, .inr (3, fs_dr)), (hd, .inr (4, fs_hd))]) (w1 := []) hP hD [0] [1, 2, 3, 4, 5, 6, 7] rfl rfl (by decide) (by decide) hk1 hFc hP1 hD1
  generalize H1 = H at hP hS ⊢
  have hP : va_P (dC, dI) vwCl [(rd, .inr (6, fs_rd)), (tp, .inr (9, fs_tp)), (ra, .inr (5, fs_ra)), (li, .inr (3, fs_li)), (ho, .inr (4, fs_ho)), (dr, .inr (3, fs_dr)), (hd, .inr (4, fs_hd))] H := hP
  have hD : va_D A [(rd, .inr (6, fs_rd)), (tp, .inr (9, fs_tp)), (ra, .inr (5, fs_ra)), (li, .inr (3, fs_li)), (ho, .inr (4, fs_ho)), (dr, .inr (3, fs_dr)), (hd, .inr (4, fs_hd))] := hD
  have er_2 : r_2 = (-1) := hw
  subst er_2
  have hpost : ((-1) : Int32) = (-1) := rfl
  have hP9 := hP.sub (ws' := []) [] rfl
  have hD9 := hD.sub (ws' := []) [] (by decide) rfl
  have hK9 := hK.sub (tys' := []) [] rfl
  exact W.iret (v := (-1)) hx hb hr (fun t ht hW => ⟨⟨(-1), (), rfl, hpost, by rw [ht]; exact hP9, va_K.moved hW.alike hK9, hD9⟩, hS.F ht⟩) hS.2.2 dX11_bond_25
set_option maxHeartbeats 4000000 in
set_option maxRecDepth 100000 in
theorem k_X11_grid (l : Launch) (dC : Nat → ClassId) (dI : Nat → Nat → Nat) (sz : Nat) (h0 : Nat) (fs_h0 : List Value) (rd : Nat) (fs_rd : List Value) (tp : Nat) (fs_tp : List Value) (ra : Nat) (fs_ra : List Value) (li : Nat) (fs_li : List Value) (ho : Nat) (fs_ho : List Value) (dr : Nat) (fs_dr : List Value) (hd : Nat) (fs_hd : List Value) (p0 : Int32) (p1 : Int32) (hn_h0 : fs_h0.length = 15) (hf_h0_0 : fs_h0[0]? = some (.ref rd)) (hf_h0_3 : fs_h0[3]? = some (.ref ra)) (hf_h0_8 : fs_h0[8]? = some (.ref li)) (hf_h0_9 : fs_h0[9]? = some (.ref dr)) (hf_h0_10 : fs_h0[10]? = some (.int 0)) (hn_rd : fs_rd.length = 5) (hf_rd_0 : fs_rd[0]? = some (.ref tp)) (hn_tp : fs_tp.length = 7) (hn_ra : fs_ra.length = 2) (hn_li : fs_li.length = 12) (hf_li_2 : fs_li[2]? = some (.ref ho)) (hn_ho : fs_ho.length = 2) (hn_dr : fs_dr.length = 12) (hf_dr_2 : fs_dr[2]? = some (.ref hd)) (hn_hd : fs_hd.length = 2) : Met l yX11_grid wsX11_grid ({ frames := 1, cells := 0, slots := 0, locals := 21 }) (va_Pc [.ref h0, .int p0, .int p1] (fun U => U.heap.size = sz ∧ va_P (dC, dI) vwCl [(h0, .inr (10, fs_h0)), (rd, .inr (6, fs_rd)), (tp, .inr (9, fs_tp)), (ra, .inr (5, fs_ra)), (li, .inr (3, fs_li)), (ho, .inr (4, fs_ho)), (dr, .inr (3, fs_dr)), (hd, .inr (4, fs_hd))] U.heap ∧ va_K (dC, dI) vwCl [] U ∧ va_D (fun _ => True) [(h0, .inr (10, fs_h0)), (rd, .inr (6, fs_rd)), (tp, .inr (9, fs_tp)), (ra, .inr (5, fs_ra)), (li, .inr (3, fs_li)), (ho, .inr (4, fs_ho)), (dr, .inr (3, fs_dr)), (hd, .inr (4, fs_hd))])) (va_Qi (fun (r : Int32) (_ : Unit) => r = (-1)) (fun _ t => va_P (dC, dI) vwCl [] t.heap ∧ va_K (dC, dI) vwCl [] t ∧ va_D (va_A [(h0, .inr (10, fs_h0)), (rd, .inr (6, fs_rd)), (tp, .inr (9, fs_tp)), (ra, .inr (5, fs_ra)), (li, .inr (3, fs_li)), (ho, .inr (4, fs_ho)), (dr, .inr (3, fs_dr)), (hd, .inr (4, fs_hd))] sz) []) (va_A [(h0, .inr (10, fs_h0)), (rd, .inr (6, fs_rd)), (tp, .inr (9, fs_tp)), (ra, .inr (5, fs_ra)), (li, .inr (3, fs_li)), (ho, .inr (4, fs_ho)), (dr, .inr (3, fs_dr)), (hd, .inr (4, fs_hd))] sz)) 0 0 (va_A [(h0, .inr (10, fs_h0)), (rd, .inr (6, fs_rd)), (tp, .inr (9, fs_tp)), (ra, .inr (5, fs_ra)), (li, .inr (3, fs_li)), (ho, .inr (4, fs_ho)), (dr, .inr (3, fs_dr)), (hd, .inr (4, fs_hd))] sz) := by
  refine Met.ofW (cc := cX11_grid) (maxL := 5) (ret := (some .int)) (by decide) rfl ?_
  intro p e s m args below meth c s₁ B hml hv
  obtain ⟨rfl, hsz, hP, hK, hD0⟩ := hv
  have hx := B.exec
  have hb := B.bytes
  have hr := B.returns
  have hts := atoms_spec (ws := wsX11_grid) B.pre
  have hown : s.vm.findClass RX11 = some m.cls := findClass_of_methodNamed B.named
  have hlocks := B.notSynchronized
  subst hsz
  have hD := hD0.self (sz := s.heap.size)
  generalize hAe : va_A [(h0, .inr (10, fs_h0)), (rd, .inr (6, fs_rd)), (tp, .inr (9, fs_tp)), (ra, .inr (5, fs_ra)), (li, .inr (3, fs_li)), (ho, .inr (4, fs_ho)), (dr, .inr (3, fs_dr)), (hd, .inr (4, fs_hd))] s.heap.size = A at hD ⊢
  have hA : ∀ q : Nat, s.heap.size ≤ q → A q := fun q h => by rw [← hAe]; exact Or.inr h
  have hS : va_S A s.heap s.heap [] := va_S.rf
  have hP : va_P (dC, dI) vwCl [(h0, .inr (10, fs_h0)), (rd, .inr (6, fs_rd)), (tp, .inr (9, fs_tp)), (ra, .inr (5, fs_ra)), (li, .inr (3, fs_li)), (ho, .inr (4, fs_ho)), (dr, .inr (3, fs_dr)), (hd, .inr (4, fs_hd))] s.heap := hP
  have hl := lv_entry ([.ref h0, .int p0, .int p1]) (n := 5) (Nat.le_of_ble_eq_true rfl)
  rw [lg_entry_eq]
  generalize (lg_sl ([.ref h0, .int p0, .int p1]) ++ List.replicate (5 - (lg_sl ([.ref h0, .int p0, .int p1])).length) Slot.unset).toArray = ls at hl ⊢
  have hl : lv_has ls 5 [(0, .ref h0), (1, .int p0), (2, .int p1)] := hl
  refine lv_aload_n hx hb dX11_grid_0 rfl (lv_at hl 0 rfl) ?_
  refine lv_iload_n hx hb dX11_grid_1 rfl (lv_at hl 1 rfl) ?_
  have hPc := hP.sub (ws' := [(h0, .inr (10, fs_h0)), (rd, .inr (6, fs_rd)), (tp, .inr (9, fs_tp)), (ra, .inr (5, fs_ra)), (li, .inr (3, fs_li)), (ho, .inr (4, fs_ho)), (dr, .inr (3, fs_dr)), (hd, .inr (4, fs_hd))]) [0, 1, 2, 3, 4, 5, 6, 7] rfl
  have hDc := hD.sub (ws' := [(h0, .inr (10, fs_h0)), (rd, .inr (6, fs_rd)), (tp, .inr (9, fs_tp)), (ra, .inr (5, fs_ra)), (li, .inr (3, fs_li)), (ho, .inr (4, fs_ho)), (dr, .inr (3, fs_dr)), (hd, .inr (4, fs_hd))]) [0, 1, 2, 3, 4, 5, 6, 7] (by decide) rfl
  have hKc := hK.sub (tys' := []) [] rfl
  have hFc := va_free (wc := [(h0, .inr (10, fs_h0)), (rd, .inr (6, fs_rd)), (tp, .inr (9, fs_tp)), (ra, .inr (5, fs_ra)), (li, .inr (3, fs_li)), (ho, .inr (4, fs_ho)), (dr, .inr (3, fs_dr)), (hd, .inr (4, fs_hd))]) hD hS hA [0, 1, 2, 3, 4, 5, 6, 7] rfl
  refine va_callq (va_runV (As := [.int p0]) (rest := []) ⟨hx, hb, hml, hown, hts⟩ (k_X11_bondOf l dC dI s.heap.size h0 fs_h0 rd fs_rd tp fs_tp ra fs_ra li fs_li ho fs_ho dr fs_dr hd fs_hd p0 hn_h0 hf_h0_10 hn_rd hn_tp hn_ra hn_li hn_ho hn_dr hn_hd) (cwV 1 hts gX11_grid_X11_bondOf rfl rfl rfl (by decide +kernel) ⟨Nat.le_of_ble_eq_true rfl, Nat.le_of_ble_eq_true rfl⟩) ⟨fun a U g mk q => by obtain ⟨q0, q1, qP, qK, qD⟩ := q; exact ⟨q0, q1, qP, va_K.moved (u := U) (U := U.calling g mk a) (Vm.Alike.refl U.vm) qK, qD⟩, va_recv hKc hPc (ci := 10) (q0 := 0) rfl rfl, fun U hU hW => ⟨rfl, by rw [hU], by rw [hU]; exact hPc, va_K.moved hW.alike hKc, hDc.weaken (fun _ _ _ _ => trivial)⟩⟩ rfl rfl hl.1 rfl (lv_room (Nat.le_of_ble_eq_true rfl)) dX11_grid_2 ⟨Nat.le_of_ble_eq_true rfl, Nat.le_of_ble_eq_true rfl⟩) hS (fun q _ h => hFc q h) hFc (fun r_1 u t H1 locs ht hvm hw hB hz1 hk1 hS => ?_)
  obtain ⟨hP1, hK1, hD1⟩ := hB
  rw [ht] at hP1
  have hK1 := va_K.moved hvm.symm hK1
  obtain ⟨hP, hD⟩ := va_join (wr := []) (w1 := [(h0, .inr (10, fs_h0)), (rd, .inr (6, fs_rd)), (tp, .inr (9, fs_tp)), (ra, .inr (5, fs_ra)), (li, .inr (3, fs_li)), (ho, .inr (4, fs_ho)), (dr, .inr (3, fs_dr)), (hd, .inr (4, fs_hd))]) hP hD [0, 1, 2, 3, 4, 5, 6, 7] [] rfl rfl (by decide) (by decide) hk1 hFc hP1 hD1
  generalize H1 = H at hP hS ⊢
  have hP : va_P (dC, dI) vwCl [(h0, .inr (10, fs_h0)), (rd, .inr (6, fs_rd)), (tp, .inr (9, fs_tp)), (ra, .inr (5, fs_ra)), (li, .inr (3, fs_li)), (ho, .inr (4, fs_ho)), (dr, .inr (3, fs_dr)), (hd, .inr (4, fs_hd))] H := hP
  have hD : va_D A [(h0, .inr (10, fs_h0)), (rd, .inr (6, fs_rd)), (tp, .inr (9, fs_tp)), (ra, .inr (5, fs_ra)), (li, .inr (3, fs_li)), (ho, .inr (4, fs_ho)), (dr, .inr (3, fs_dr)), (hd, .inr (4, fs_hd))] := hD
  subst hw
  refine W.eq (g2 := F0 m 5 ls [.null]) rfl ?_
  refine lv_astore_nN (lv' := [(3, .null), (0, .ref h0), (1, .int p0), (2, .int p1)]) hx hb dX11_grid_5 rfl hl (by decide) rfl (fun ls hl => ?_)
  refine lv_aload_nN hx hb dX11_grid_6 rfl (lv_at hl 0 rfl) ?_
  refine lv_ifnonnullN hx hb dX11_grid_7 ?_
  refine lv_aload_n hx hb dX11_grid_10 rfl (lv_at hl 1 rfl) ?_
  refine lv_iconst (v := 1) hx hb dX11_grid_11 (by decide) ?_
  have hPc := hP.sub (ws' := [(h0, .inr (10, fs_h0))]) [0] rfl
  have hDc := hD.sub (ws' := [(h0, .inr (10, fs_h0))]) [0] (by decide) rfl
  have hKc := hK.sub (tys' := []) [] rfl
  have hFc := va_free (wc := [(h0, .inr (10, fs_h0))]) hD hS hA [0] rfl
  refine va_calli (va_runV (As := [.int 1]) (rest := []) ⟨hx, hb, hml, hown, hts⟩ (k_X11_refuse l dC dI H.size h0 fs_h0 1 hn_h0) (cwV 1 hts gX11_grid_X11_refuse rfl rfl rfl (by decide +kernel) ⟨Nat.le_of_ble_eq_true rfl, Nat.le_of_ble_eq_true rfl⟩) ⟨fun a U g mk q => by obtain ⟨q0, q1, qP, qK, qD⟩ := q; exact ⟨q0, q1, qP, va_K.moved (u := U) (U := U.calling g mk a) (Vm.Alike.refl U.vm) qK, qD⟩, va_recv hKc hPc (ci := 10) (q0 := 0) rfl rfl, fun U hU hW => ⟨rfl, by rw [hU], by rw [hU]; exact hPc, va_K.moved hW.alike hKc, hDc.weaken (fun _ _ _ _ => trivial)⟩⟩ rfl rfl hl.1 rfl (lv_room (Nat.le_of_ble_eq_true rfl)) dX11_grid_12 ⟨Nat.le_of_ble_eq_true rfl, Nat.le_of_ble_eq_true rfl⟩) hS (fun q _ h => hFc q h) hFc (fun r_2 u t H1 locs ht hvm hw hB hz1 hk1 hS => ?_)
  obtain ⟨hP1, hK1, hD1⟩ := hB
  rw [ht] at hP1
  have hK1 := va_K.moved hvm.symm hK1
  obtain ⟨hP, hD⟩ := va_join (wr := [(rd, .inr (6, fs_rd)), (tp, .inr (9, fs_tp)), (ra, .inr (5, fs_ra)), (li, .inr (3, fs_li)), (ho, .inr (4, fs_ho)), (dr, .inr (3, fs_dr)), (hd, .inr (4, fs_hd))]) (w1 := []) hP hD [0] [1, 2, 3, 4, 5, 6, 7] rfl rfl (by decide) (by decide) hk1 hFc hP1 hD1
  generalize H1 = H at hP hS ⊢
  have hP : va_P (dC, dI) vwCl [(rd, .inr (6, fs_rd)), (tp, .inr (9, fs_tp)), (ra, .inr (5, fs_ra)), (li, .inr (3, fs_li)), (ho, .inr (4, fs_ho)), (dr, .inr (3, fs_dr)), (hd, .inr (4, fs_hd))] H := hP
  have hD : va_D A [(rd, .inr (6, fs_rd)), (tp, .inr (9, fs_tp)), (ra, .inr (5, fs_ra)), (li, .inr (3, fs_li)), (ho, .inr (4, fs_ho)), (dr, .inr (3, fs_dr)), (hd, .inr (4, fs_hd))] := hD
  have er_2 : r_2 = (-1) := hw
  subst er_2
  have hpost : ((-1) : Int32) = (-1) := rfl
  have hP9 := hP.sub (ws' := []) [] rfl
  have hD9 := hD.sub (ws' := []) [] (by decide) rfl
  have hK9 := hK.sub (tys' := []) [] rfl
  exact W.iret (v := (-1)) hx hb hr (fun t ht hW => ⟨⟨(-1), (), rfl, hpost, by rw [ht]; exact hP9, va_K.moved hW.alike hK9, hD9⟩, hS.F ht⟩) hS.2.2 dX11_grid_15
set_option maxHeartbeats 4000000 in
set_option maxRecDepth 100000 in
theorem k_X11_period (l : Launch) (dC : Nat → ClassId) (dI : Nat → Nat → Nat) (sz : Nat) (h0 : Nat) (fs_h0 : List Value) (rd : Nat) (fs_rd : List Value) (tp : Nat) (fs_tp : List Value) (ra : Nat) (fs_ra : List Value) (li : Nat) (fs_li : List Value) (ho : Nat) (fs_ho : List Value) (dr : Nat) (fs_dr : List Value) (hd : Nat) (fs_hd : List Value) (p0 : Int32) (p1 : Int32) (p2 : Int32) (hn_h0 : fs_h0.length = 15) (hf_h0_0 : fs_h0[0]? = some (.ref rd)) (hf_h0_3 : fs_h0[3]? = some (.ref ra)) (hf_h0_8 : fs_h0[8]? = some (.ref li)) (hf_h0_9 : fs_h0[9]? = some (.ref dr)) (hf_h0_10 : fs_h0[10]? = some (.int 0)) (hn_rd : fs_rd.length = 5) (hf_rd_0 : fs_rd[0]? = some (.ref tp)) (hn_tp : fs_tp.length = 7) (hn_ra : fs_ra.length = 2) (hn_li : fs_li.length = 12) (hf_li_2 : fs_li[2]? = some (.ref ho)) (hn_ho : fs_ho.length = 2) (hn_dr : fs_dr.length = 12) (hf_dr_2 : fs_dr[2]? = some (.ref hd)) (hn_hd : fs_hd.length = 2) : Met l yX11_period wsX11_period ({ frames := 1, cells := 0, slots := 0, locals := 21 }) (va_Pc [.ref h0, .int p0, .int p1, .int p2] (fun U => U.heap.size = sz ∧ va_P (dC, dI) vwCl [(h0, .inr (10, fs_h0)), (rd, .inr (6, fs_rd)), (tp, .inr (9, fs_tp)), (ra, .inr (5, fs_ra)), (li, .inr (3, fs_li)), (ho, .inr (4, fs_ho)), (dr, .inr (3, fs_dr)), (hd, .inr (4, fs_hd))] U.heap ∧ va_K (dC, dI) vwCl [] U ∧ va_D (fun _ => True) [(h0, .inr (10, fs_h0)), (rd, .inr (6, fs_rd)), (tp, .inr (9, fs_tp)), (ra, .inr (5, fs_ra)), (li, .inr (3, fs_li)), (ho, .inr (4, fs_ho)), (dr, .inr (3, fs_dr)), (hd, .inr (4, fs_hd))])) (va_Qi (fun (r : Int32) (_ : Unit) => r = (-1)) (fun _ t => va_P (dC, dI) vwCl [] t.heap ∧ va_K (dC, dI) vwCl [] t ∧ va_D (va_A [(h0, .inr (10, fs_h0)), (rd, .inr (6, fs_rd)), (tp, .inr (9, fs_tp)), (ra, .inr (5, fs_ra)), (li, .inr (3, fs_li)), (ho, .inr (4, fs_ho)), (dr, .inr (3, fs_dr)), (hd, .inr (4, fs_hd))] sz) []) (va_A [(h0, .inr (10, fs_h0)), (rd, .inr (6, fs_rd)), (tp, .inr (9, fs_tp)), (ra, .inr (5, fs_ra)), (li, .inr (3, fs_li)), (ho, .inr (4, fs_ho)), (dr, .inr (3, fs_dr)), (hd, .inr (4, fs_hd))] sz)) 0 0 (va_A [(h0, .inr (10, fs_h0)), (rd, .inr (6, fs_rd)), (tp, .inr (9, fs_tp)), (ra, .inr (5, fs_ra)), (li, .inr (3, fs_li)), (ho, .inr (4, fs_ho)), (dr, .inr (3, fs_dr)), (hd, .inr (4, fs_hd))] sz) := by
  refine Met.ofW (cc := cX11_period) (maxL := 5) (ret := (some .int)) (by decide) rfl ?_
  intro p e s m args below meth c s₁ B hml hv
  obtain ⟨rfl, hsz, hP, hK, hD0⟩ := hv
  have hx := B.exec
  have hb := B.bytes
  have hr := B.returns
  have hts := atoms_spec (ws := wsX11_period) B.pre
  have hown : s.vm.findClass RX11 = some m.cls := findClass_of_methodNamed B.named
  have hlocks := B.notSynchronized
  subst hsz
  have hD := hD0.self (sz := s.heap.size)
  generalize hAe : va_A [(h0, .inr (10, fs_h0)), (rd, .inr (6, fs_rd)), (tp, .inr (9, fs_tp)), (ra, .inr (5, fs_ra)), (li, .inr (3, fs_li)), (ho, .inr (4, fs_ho)), (dr, .inr (3, fs_dr)), (hd, .inr (4, fs_hd))] s.heap.size = A at hD ⊢
  have hA : ∀ q : Nat, s.heap.size ≤ q → A q := fun q h => by rw [← hAe]; exact Or.inr h
  have hS : va_S A s.heap s.heap [] := va_S.rf
  have hP : va_P (dC, dI) vwCl [(h0, .inr (10, fs_h0)), (rd, .inr (6, fs_rd)), (tp, .inr (9, fs_tp)), (ra, .inr (5, fs_ra)), (li, .inr (3, fs_li)), (ho, .inr (4, fs_ho)), (dr, .inr (3, fs_dr)), (hd, .inr (4, fs_hd))] s.heap := hP
  have hl := lv_entry ([.ref h0, .int p0, .int p1, .int p2]) (n := 5) (Nat.le_of_ble_eq_true rfl)
  rw [lg_entry_eq]
  generalize (lg_sl ([.ref h0, .int p0, .int p1, .int p2]) ++ List.replicate (5 - (lg_sl ([.ref h0, .int p0, .int p1, .int p2])).length) Slot.unset).toArray = ls at hl ⊢
  have hl : lv_has ls 5 [(0, .ref h0), (1, .int p0), (2, .int p1), (3, .int p2)] := hl
  refine lv_aload_n hx hb dX11_period_0 rfl (lv_at hl 0 rfl) ?_
  refine lv_iload_n hx hb dX11_period_1 rfl (lv_at hl 1 rfl) ?_
  have hPc := hP.sub (ws' := [(h0, .inr (10, fs_h0)), (rd, .inr (6, fs_rd)), (tp, .inr (9, fs_tp)), (ra, .inr (5, fs_ra)), (li, .inr (3, fs_li)), (ho, .inr (4, fs_ho)), (dr, .inr (3, fs_dr)), (hd, .inr (4, fs_hd))]) [0, 1, 2, 3, 4, 5, 6, 7] rfl
  have hDc := hD.sub (ws' := [(h0, .inr (10, fs_h0)), (rd, .inr (6, fs_rd)), (tp, .inr (9, fs_tp)), (ra, .inr (5, fs_ra)), (li, .inr (3, fs_li)), (ho, .inr (4, fs_ho)), (dr, .inr (3, fs_dr)), (hd, .inr (4, fs_hd))]) [0, 1, 2, 3, 4, 5, 6, 7] (by decide) rfl
  have hKc := hK.sub (tys' := []) [] rfl
  have hFc := va_free (wc := [(h0, .inr (10, fs_h0)), (rd, .inr (6, fs_rd)), (tp, .inr (9, fs_tp)), (ra, .inr (5, fs_ra)), (li, .inr (3, fs_li)), (ho, .inr (4, fs_ho)), (dr, .inr (3, fs_dr)), (hd, .inr (4, fs_hd))]) hD hS hA [0, 1, 2, 3, 4, 5, 6, 7] rfl
  refine va_callq (va_runV (As := [.int p0]) (rest := []) ⟨hx, hb, hml, hown, hts⟩ (k_X11_bondOf l dC dI s.heap.size h0 fs_h0 rd fs_rd tp fs_tp ra fs_ra li fs_li ho fs_ho dr fs_dr hd fs_hd p0 hn_h0 hf_h0_10 hn_rd hn_tp hn_ra hn_li hn_ho hn_dr hn_hd) (cwV 1 hts gX11_period_X11_bondOf rfl rfl rfl (by decide +kernel) ⟨Nat.le_of_ble_eq_true rfl, Nat.le_of_ble_eq_true rfl⟩) ⟨fun a U g mk q => by obtain ⟨q0, q1, qP, qK, qD⟩ := q; exact ⟨q0, q1, qP, va_K.moved (u := U) (U := U.calling g mk a) (Vm.Alike.refl U.vm) qK, qD⟩, va_recv hKc hPc (ci := 10) (q0 := 0) rfl rfl, fun U hU hW => ⟨rfl, by rw [hU], by rw [hU]; exact hPc, va_K.moved hW.alike hKc, hDc.weaken (fun _ _ _ _ => trivial)⟩⟩ rfl rfl hl.1 rfl (lv_room (Nat.le_of_ble_eq_true rfl)) dX11_period_2 ⟨Nat.le_of_ble_eq_true rfl, Nat.le_of_ble_eq_true rfl⟩) hS (fun q _ h => hFc q h) hFc (fun r_1 u t H1 locs ht hvm hw hB hz1 hk1 hS => ?_)
  obtain ⟨hP1, hK1, hD1⟩ := hB
  rw [ht] at hP1
  have hK1 := va_K.moved hvm.symm hK1
  obtain ⟨hP, hD⟩ := va_join (wr := []) (w1 := [(h0, .inr (10, fs_h0)), (rd, .inr (6, fs_rd)), (tp, .inr (9, fs_tp)), (ra, .inr (5, fs_ra)), (li, .inr (3, fs_li)), (ho, .inr (4, fs_ho)), (dr, .inr (3, fs_dr)), (hd, .inr (4, fs_hd))]) hP hD [0, 1, 2, 3, 4, 5, 6, 7] [] rfl rfl (by decide) (by decide) hk1 hFc hP1 hD1
  generalize H1 = H at hP hS ⊢
  have hP : va_P (dC, dI) vwCl [(h0, .inr (10, fs_h0)), (rd, .inr (6, fs_rd)), (tp, .inr (9, fs_tp)), (ra, .inr (5, fs_ra)), (li, .inr (3, fs_li)), (ho, .inr (4, fs_ho)), (dr, .inr (3, fs_dr)), (hd, .inr (4, fs_hd))] H := hP
  have hD : va_D A [(h0, .inr (10, fs_h0)), (rd, .inr (6, fs_rd)), (tp, .inr (9, fs_tp)), (ra, .inr (5, fs_ra)), (li, .inr (3, fs_li)), (ho, .inr (4, fs_ho)), (dr, .inr (3, fs_dr)), (hd, .inr (4, fs_hd))] := hD
  subst hw
  refine W.eq (g2 := F0 m 5 ls [.null]) rfl ?_
  refine lv_astoreN (lv' := [(4, .null), (0, .ref h0), (1, .int p0), (2, .int p1), (3, .int p2)]) hx hb dX11_period_5 hl (by decide) rfl (fun ls hl => ?_)
  refine lv_aloadN hx hb dX11_period_7 (lv_at hl 0 rfl) ?_
  refine lv_ifnullN (tgt := 31) hx hb dX11_period_9 (by decide) ?_
  refine lv_aload_n hx hb dX11_period_31 rfl (lv_at hl 1 rfl) ?_
  refine lv_iconst (v := 1) hx hb dX11_period_32 (by decide) ?_
  have hPc := hP.sub (ws' := [(h0, .inr (10, fs_h0))]) [0] rfl
  have hDc := hD.sub (ws' := [(h0, .inr (10, fs_h0))]) [0] (by decide) rfl
  have hKc := hK.sub (tys' := []) [] rfl
  have hFc := va_free (wc := [(h0, .inr (10, fs_h0))]) hD hS hA [0] rfl
  refine va_calli (va_runV (As := [.int 1]) (rest := []) ⟨hx, hb, hml, hown, hts⟩ (k_X11_refuse l dC dI H.size h0 fs_h0 1 hn_h0) (cwV 1 hts gX11_period_X11_refuse rfl rfl rfl (by decide +kernel) ⟨Nat.le_of_ble_eq_true rfl, Nat.le_of_ble_eq_true rfl⟩) ⟨fun a U g mk q => by obtain ⟨q0, q1, qP, qK, qD⟩ := q; exact ⟨q0, q1, qP, va_K.moved (u := U) (U := U.calling g mk a) (Vm.Alike.refl U.vm) qK, qD⟩, va_recv hKc hPc (ci := 10) (q0 := 0) rfl rfl, fun U hU hW => ⟨rfl, by rw [hU], by rw [hU]; exact hPc, va_K.moved hW.alike hKc, hDc.weaken (fun _ _ _ _ => trivial)⟩⟩ rfl rfl hl.1 rfl (lv_room (Nat.le_of_ble_eq_true rfl)) dX11_period_33 ⟨Nat.le_of_ble_eq_true rfl, Nat.le_of_ble_eq_true rfl⟩) hS (fun q _ h => hFc q h) hFc (fun r_2 u t H1 locs ht hvm hw hB hz1 hk1 hS => ?_)
  obtain ⟨hP1, hK1, hD1⟩ := hB
  rw [ht] at hP1
  have hK1 := va_K.moved hvm.symm hK1
  obtain ⟨hP, hD⟩ := va_join (wr := [(rd, .inr (6, fs_rd)), (tp, .inr (9, fs_tp)), (ra, .inr (5, fs_ra)), (li, .inr (3, fs_li)), (ho, .inr (4, fs_ho)), (dr, .inr (3, fs_dr)), (hd, .inr (4, fs_hd))]) (w1 := []) hP hD [0] [1, 2, 3, 4, 5, 6, 7] rfl rfl (by decide) (by decide) hk1 hFc hP1 hD1
  generalize H1 = H at hP hS ⊢
  have hP : va_P (dC, dI) vwCl [(rd, .inr (6, fs_rd)), (tp, .inr (9, fs_tp)), (ra, .inr (5, fs_ra)), (li, .inr (3, fs_li)), (ho, .inr (4, fs_ho)), (dr, .inr (3, fs_dr)), (hd, .inr (4, fs_hd))] H := hP
  have hD : va_D A [(rd, .inr (6, fs_rd)), (tp, .inr (9, fs_tp)), (ra, .inr (5, fs_ra)), (li, .inr (3, fs_li)), (ho, .inr (4, fs_ho)), (dr, .inr (3, fs_dr)), (hd, .inr (4, fs_hd))] := hD
  have er_2 : r_2 = (-1) := hw
  subst er_2
  have hpost : ((-1) : Int32) = (-1) := rfl
  have hP9 := hP.sub (ws' := []) [] rfl
  have hD9 := hD.sub (ws' := []) [] (by decide) rfl
  have hK9 := hK.sub (tys' := []) [] rfl
  exact W.iret (v := (-1)) hx hb hr (fun t ht hW => ⟨⟨(-1), (), rfl, hpost, by rw [ht]; exact hP9, va_K.moved hW.alike hK9, hD9⟩, hS.F ht⟩) hS.2.2 dX11_period_36
set_option maxHeartbeats 4000000 in
set_option maxRecDepth 100000 in
theorem k_X11_fraction (l : Launch) (dC : Nat → ClassId) (dI : Nat → Nat → Nat) (sz : Nat) (h0 : Nat) (fs_h0 : List Value) (rd : Nat) (fs_rd : List Value) (tp : Nat) (fs_tp : List Value) (ra : Nat) (fs_ra : List Value) (li : Nat) (fs_li : List Value) (ho : Nat) (fs_ho : List Value) (dr : Nat) (fs_dr : List Value) (hd : Nat) (fs_hd : List Value) (p0 : Int32) (p1 : Int32) (p2 : Int32) (hn_h0 : fs_h0.length = 15) (hf_h0_0 : fs_h0[0]? = some (.ref rd)) (hf_h0_3 : fs_h0[3]? = some (.ref ra)) (hf_h0_8 : fs_h0[8]? = some (.ref li)) (hf_h0_9 : fs_h0[9]? = some (.ref dr)) (hf_h0_10 : fs_h0[10]? = some (.int 0)) (hn_rd : fs_rd.length = 5) (hf_rd_0 : fs_rd[0]? = some (.ref tp)) (hn_tp : fs_tp.length = 7) (hn_ra : fs_ra.length = 2) (hn_li : fs_li.length = 12) (hf_li_2 : fs_li[2]? = some (.ref ho)) (hn_ho : fs_ho.length = 2) (hn_dr : fs_dr.length = 12) (hf_dr_2 : fs_dr[2]? = some (.ref hd)) (hn_hd : fs_hd.length = 2) : Met l yX11_fraction wsX11_fraction ({ frames := 1, cells := 0, slots := 0, locals := 21 }) (va_Pc [.ref h0, .int p0, .int p1, .int p2] (fun U => U.heap.size = sz ∧ va_P (dC, dI) vwCl [(h0, .inr (10, fs_h0)), (rd, .inr (6, fs_rd)), (tp, .inr (9, fs_tp)), (ra, .inr (5, fs_ra)), (li, .inr (3, fs_li)), (ho, .inr (4, fs_ho)), (dr, .inr (3, fs_dr)), (hd, .inr (4, fs_hd))] U.heap ∧ va_K (dC, dI) vwCl [] U ∧ va_D (fun _ => True) [(h0, .inr (10, fs_h0)), (rd, .inr (6, fs_rd)), (tp, .inr (9, fs_tp)), (ra, .inr (5, fs_ra)), (li, .inr (3, fs_li)), (ho, .inr (4, fs_ho)), (dr, .inr (3, fs_dr)), (hd, .inr (4, fs_hd))])) (va_Ql (fun (r : Int64) (_ : Unit) => r = (-1)) (fun _ t => va_P (dC, dI) vwCl [] t.heap ∧ va_K (dC, dI) vwCl [] t ∧ va_D (va_A [(h0, .inr (10, fs_h0)), (rd, .inr (6, fs_rd)), (tp, .inr (9, fs_tp)), (ra, .inr (5, fs_ra)), (li, .inr (3, fs_li)), (ho, .inr (4, fs_ho)), (dr, .inr (3, fs_dr)), (hd, .inr (4, fs_hd))] sz) []) (va_A [(h0, .inr (10, fs_h0)), (rd, .inr (6, fs_rd)), (tp, .inr (9, fs_tp)), (ra, .inr (5, fs_ra)), (li, .inr (3, fs_li)), (ho, .inr (4, fs_ho)), (dr, .inr (3, fs_dr)), (hd, .inr (4, fs_hd))] sz)) 0 0 (va_A [(h0, .inr (10, fs_h0)), (rd, .inr (6, fs_rd)), (tp, .inr (9, fs_tp)), (ra, .inr (5, fs_ra)), (li, .inr (3, fs_li)), (ho, .inr (4, fs_ho)), (dr, .inr (3, fs_dr)), (hd, .inr (4, fs_hd))] sz) := by
  refine Met.ofW (cc := cX11_fraction) (maxL := 5) (ret := (some .long)) (by decide) rfl ?_
  intro p e s m args below meth c s₁ B hml hv
  obtain ⟨rfl, hsz, hP, hK, hD0⟩ := hv
  have hx := B.exec
  have hb := B.bytes
  have hr := B.returns
  have hts := atoms_spec (ws := wsX11_fraction) B.pre
  have hown : s.vm.findClass RX11 = some m.cls := findClass_of_methodNamed B.named
  have hlocks := B.notSynchronized
  subst hsz
  have hD := hD0.self (sz := s.heap.size)
  generalize hAe : va_A [(h0, .inr (10, fs_h0)), (rd, .inr (6, fs_rd)), (tp, .inr (9, fs_tp)), (ra, .inr (5, fs_ra)), (li, .inr (3, fs_li)), (ho, .inr (4, fs_ho)), (dr, .inr (3, fs_dr)), (hd, .inr (4, fs_hd))] s.heap.size = A at hD ⊢
  have hA : ∀ q : Nat, s.heap.size ≤ q → A q := fun q h => by rw [← hAe]; exact Or.inr h
  have hS : va_S A s.heap s.heap [] := va_S.rf
  have hP : va_P (dC, dI) vwCl [(h0, .inr (10, fs_h0)), (rd, .inr (6, fs_rd)), (tp, .inr (9, fs_tp)), (ra, .inr (5, fs_ra)), (li, .inr (3, fs_li)), (ho, .inr (4, fs_ho)), (dr, .inr (3, fs_dr)), (hd, .inr (4, fs_hd))] s.heap := hP
  have hl := lv_entry ([.ref h0, .int p0, .int p1, .int p2]) (n := 5) (Nat.le_of_ble_eq_true rfl)
  rw [lg_entry_eq]
  generalize (lg_sl ([.ref h0, .int p0, .int p1, .int p2]) ++ List.replicate (5 - (lg_sl ([.ref h0, .int p0, .int p1, .int p2])).length) Slot.unset).toArray = ls at hl ⊢
  have hl : lv_has ls 5 [(0, .ref h0), (1, .int p0), (2, .int p1), (3, .int p2)] := hl
  refine lv_aload_n hx hb dX11_fraction_0 rfl (lv_at hl 0 rfl) ?_
  refine lv_iload_n hx hb dX11_fraction_1 rfl (lv_at hl 1 rfl) ?_
  have hPc := hP.sub (ws' := [(h0, .inr (10, fs_h0)), (rd, .inr (6, fs_rd)), (tp, .inr (9, fs_tp)), (ra, .inr (5, fs_ra)), (li, .inr (3, fs_li)), (ho, .inr (4, fs_ho)), (dr, .inr (3, fs_dr)), (hd, .inr (4, fs_hd))]) [0, 1, 2, 3, 4, 5, 6, 7] rfl
  have hDc := hD.sub (ws' := [(h0, .inr (10, fs_h0)), (rd, .inr (6, fs_rd)), (tp, .inr (9, fs_tp)), (ra, .inr (5, fs_ra)), (li, .inr (3, fs_li)), (ho, .inr (4, fs_ho)), (dr, .inr (3, fs_dr)), (hd, .inr (4, fs_hd))]) [0, 1, 2, 3, 4, 5, 6, 7] (by decide) rfl
  have hKc := hK.sub (tys' := []) [] rfl
  have hFc := va_free (wc := [(h0, .inr (10, fs_h0)), (rd, .inr (6, fs_rd)), (tp, .inr (9, fs_tp)), (ra, .inr (5, fs_ra)), (li, .inr (3, fs_li)), (ho, .inr (4, fs_ho)), (dr, .inr (3, fs_dr)), (hd, .inr (4, fs_hd))]) hD hS hA [0, 1, 2, 3, 4, 5, 6, 7] rfl
  refine va_callq (va_runV (As := [.int p0]) (rest := []) ⟨hx, hb, hml, hown, hts⟩ (k_X11_bondOf l dC dI s.heap.size h0 fs_h0 rd fs_rd tp fs_tp ra fs_ra li fs_li ho fs_ho dr fs_dr hd fs_hd p0 hn_h0 hf_h0_10 hn_rd hn_tp hn_ra hn_li hn_ho hn_dr hn_hd) (cwV 1 hts gX11_fraction_X11_bondOf rfl rfl rfl (by decide +kernel) ⟨Nat.le_of_ble_eq_true rfl, Nat.le_of_ble_eq_true rfl⟩) ⟨fun a U g mk q => by obtain ⟨q0, q1, qP, qK, qD⟩ := q; exact ⟨q0, q1, qP, va_K.moved (u := U) (U := U.calling g mk a) (Vm.Alike.refl U.vm) qK, qD⟩, va_recv hKc hPc (ci := 10) (q0 := 0) rfl rfl, fun U hU hW => ⟨rfl, by rw [hU], by rw [hU]; exact hPc, va_K.moved hW.alike hKc, hDc.weaken (fun _ _ _ _ => trivial)⟩⟩ rfl rfl hl.1 rfl (lv_room (Nat.le_of_ble_eq_true rfl)) dX11_fraction_2 ⟨Nat.le_of_ble_eq_true rfl, Nat.le_of_ble_eq_true rfl⟩) hS (fun q _ h => hFc q h) hFc (fun r_1 u t H1 locs ht hvm hw hB hz1 hk1 hS => ?_)
  obtain ⟨hP1, hK1, hD1⟩ := hB
  rw [ht] at hP1
  have hK1 := va_K.moved hvm.symm hK1
  obtain ⟨hP, hD⟩ := va_join (wr := []) (w1 := [(h0, .inr (10, fs_h0)), (rd, .inr (6, fs_rd)), (tp, .inr (9, fs_tp)), (ra, .inr (5, fs_ra)), (li, .inr (3, fs_li)), (ho, .inr (4, fs_ho)), (dr, .inr (3, fs_dr)), (hd, .inr (4, fs_hd))]) hP hD [0, 1, 2, 3, 4, 5, 6, 7] [] rfl rfl (by decide) (by decide) hk1 hFc hP1 hD1
  generalize H1 = H at hP hS ⊢
  have hP : va_P (dC, dI) vwCl [(h0, .inr (10, fs_h0)), (rd, .inr (6, fs_rd)), (tp, .inr (9, fs_tp)), (ra, .inr (5, fs_ra)), (li, .inr (3, fs_li)), (ho, .inr (4, fs_ho)), (dr, .inr (3, fs_dr)), (hd, .inr (4, fs_hd))] H := hP
  have hD : va_D A [(h0, .inr (10, fs_h0)), (rd, .inr (6, fs_rd)), (tp, .inr (9, fs_tp)), (ra, .inr (5, fs_ra)), (li, .inr (3, fs_li)), (ho, .inr (4, fs_ho)), (dr, .inr (3, fs_dr)), (hd, .inr (4, fs_hd))] := hD
  subst hw
  refine W.eq (g2 := F0 m 5 ls [.null]) rfl ?_
  refine lv_astoreN (lv' := [(4, .null), (0, .ref h0), (1, .int p0), (2, .int p1), (3, .int p2)]) hx hb dX11_fraction_5 hl (by decide) rfl (fun ls hl => ?_)
  refine lv_aloadN hx hb dX11_fraction_7 (lv_at hl 0 rfl) ?_
  refine lv_ifnullN (tgt := 21) hx hb dX11_fraction_9 (by decide) ?_
  refine lv_aload_n hx hb dX11_fraction_21 rfl (lv_at hl 1 rfl) ?_
  refine lv_iconst (v := 1) hx hb dX11_fraction_22 (by decide) ?_
  have hPc := hP.sub (ws' := [(h0, .inr (10, fs_h0))]) [0] rfl
  have hDc := hD.sub (ws' := [(h0, .inr (10, fs_h0))]) [0] (by decide) rfl
  have hKc := hK.sub (tys' := []) [] rfl
  have hFc := va_free (wc := [(h0, .inr (10, fs_h0))]) hD hS hA [0] rfl
  refine va_calli (va_runV (As := [.int 1]) (rest := []) ⟨hx, hb, hml, hown, hts⟩ (k_X11_refuse l dC dI H.size h0 fs_h0 1 hn_h0) (cwV 1 hts gX11_fraction_X11_refuse rfl rfl rfl (by decide +kernel) ⟨Nat.le_of_ble_eq_true rfl, Nat.le_of_ble_eq_true rfl⟩) ⟨fun a U g mk q => by obtain ⟨q0, q1, qP, qK, qD⟩ := q; exact ⟨q0, q1, qP, va_K.moved (u := U) (U := U.calling g mk a) (Vm.Alike.refl U.vm) qK, qD⟩, va_recv hKc hPc (ci := 10) (q0 := 0) rfl rfl, fun U hU hW => ⟨rfl, by rw [hU], by rw [hU]; exact hPc, va_K.moved hW.alike hKc, hDc.weaken (fun _ _ _ _ => trivial)⟩⟩ rfl rfl hl.1 rfl (lv_room (Nat.le_of_ble_eq_true rfl)) dX11_fraction_23 ⟨Nat.le_of_ble_eq_true rfl, Nat.le_of_ble_eq_true rfl⟩) hS (fun q _ h => hFc q h) hFc (fun r_2 u t H1 locs ht hvm hw hB hz1 hk1 hS => ?_)
  obtain ⟨hP1, hK1, hD1⟩ := hB
  rw [ht] at hP1
  have hK1 := va_K.moved hvm.symm hK1
  obtain ⟨hP, hD⟩ := va_join (wr := [(rd, .inr (6, fs_rd)), (tp, .inr (9, fs_tp)), (ra, .inr (5, fs_ra)), (li, .inr (3, fs_li)), (ho, .inr (4, fs_ho)), (dr, .inr (3, fs_dr)), (hd, .inr (4, fs_hd))]) (w1 := []) hP hD [0] [1, 2, 3, 4, 5, 6, 7] rfl rfl (by decide) (by decide) hk1 hFc hP1 hD1
  generalize H1 = H at hP hS ⊢
  have hP : va_P (dC, dI) vwCl [(rd, .inr (6, fs_rd)), (tp, .inr (9, fs_tp)), (ra, .inr (5, fs_ra)), (li, .inr (3, fs_li)), (ho, .inr (4, fs_ho)), (dr, .inr (3, fs_dr)), (hd, .inr (4, fs_hd))] H := hP
  have hD : va_D A [(rd, .inr (6, fs_rd)), (tp, .inr (9, fs_tp)), (ra, .inr (5, fs_ra)), (li, .inr (3, fs_li)), (ho, .inr (4, fs_ho)), (dr, .inr (3, fs_dr)), (hd, .inr (4, fs_hd))] := hD
  have er_2 : r_2 = (-1) := hw
  subst er_2
  refine lv_i2l (v := (-1)) hx hb dX11_fraction_26 (by decide) ?_
  have hpost : ((-1) : Int64) = (-1) := rfl
  have hP9 := hP.sub (ws' := []) [] rfl
  have hD9 := hD.sub (ws' := []) [] (by decide) rfl
  have hK9 := hK.sub (tys' := []) [] rfl
  exact W.lret (v := (-1)) hx hb hr (fun t ht hW => ⟨⟨(-1), (), rfl, hpost, by rw [ht]; exact hP9, va_K.moved hW.alike hK9, hD9⟩, hS.F ht⟩) hS.2.2 dX11_fraction_27
set_option maxHeartbeats 4000000 in
set_option maxRecDepth 100000 in
theorem k_X11_coupon (l : Launch) (dC : Nat → ClassId) (dI : Nat → Nat → Nat) (sz : Nat) (h0 : Nat) (fs_h0 : List Value) (rd : Nat) (fs_rd : List Value) (tp : Nat) (fs_tp : List Value) (ra : Nat) (fs_ra : List Value) (li : Nat) (fs_li : List Value) (ho : Nat) (fs_ho : List Value) (dr : Nat) (fs_dr : List Value) (hd : Nat) (fs_hd : List Value) (p0 : Int32) (p1 : Int32) (p2 : Int32) (hn_h0 : fs_h0.length = 15) (hf_h0_0 : fs_h0[0]? = some (.ref rd)) (hf_h0_3 : fs_h0[3]? = some (.ref ra)) (hf_h0_8 : fs_h0[8]? = some (.ref li)) (hf_h0_9 : fs_h0[9]? = some (.ref dr)) (hf_h0_10 : fs_h0[10]? = some (.int 0)) (hn_rd : fs_rd.length = 5) (hf_rd_0 : fs_rd[0]? = some (.ref tp)) (hn_tp : fs_tp.length = 7) (hn_ra : fs_ra.length = 2) (hn_li : fs_li.length = 12) (hf_li_2 : fs_li[2]? = some (.ref ho)) (hn_ho : fs_ho.length = 2) (hn_dr : fs_dr.length = 12) (hf_dr_2 : fs_dr[2]? = some (.ref hd)) (hn_hd : fs_hd.length = 2) : Met l yX11_coupon wsX11_coupon ({ frames := 1, cells := 0, slots := 0, locals := 21 }) (va_Pc [.ref h0, .int p0, .int p1, .int p2] (fun U => U.heap.size = sz ∧ va_P (dC, dI) vwCl [(h0, .inr (10, fs_h0)), (rd, .inr (6, fs_rd)), (tp, .inr (9, fs_tp)), (ra, .inr (5, fs_ra)), (li, .inr (3, fs_li)), (ho, .inr (4, fs_ho)), (dr, .inr (3, fs_dr)), (hd, .inr (4, fs_hd))] U.heap ∧ va_K (dC, dI) vwCl [] U ∧ va_D (fun _ => True) [(h0, .inr (10, fs_h0)), (rd, .inr (6, fs_rd)), (tp, .inr (9, fs_tp)), (ra, .inr (5, fs_ra)), (li, .inr (3, fs_li)), (ho, .inr (4, fs_ho)), (dr, .inr (3, fs_dr)), (hd, .inr (4, fs_hd))])) (va_Ql (fun (r : Int64) (_ : Unit) => r = (-1)) (fun _ t => va_P (dC, dI) vwCl [] t.heap ∧ va_K (dC, dI) vwCl [] t ∧ va_D (va_A [(h0, .inr (10, fs_h0)), (rd, .inr (6, fs_rd)), (tp, .inr (9, fs_tp)), (ra, .inr (5, fs_ra)), (li, .inr (3, fs_li)), (ho, .inr (4, fs_ho)), (dr, .inr (3, fs_dr)), (hd, .inr (4, fs_hd))] sz) []) (va_A [(h0, .inr (10, fs_h0)), (rd, .inr (6, fs_rd)), (tp, .inr (9, fs_tp)), (ra, .inr (5, fs_ra)), (li, .inr (3, fs_li)), (ho, .inr (4, fs_ho)), (dr, .inr (3, fs_dr)), (hd, .inr (4, fs_hd))] sz)) 0 0 (va_A [(h0, .inr (10, fs_h0)), (rd, .inr (6, fs_rd)), (tp, .inr (9, fs_tp)), (ra, .inr (5, fs_ra)), (li, .inr (3, fs_li)), (ho, .inr (4, fs_ho)), (dr, .inr (3, fs_dr)), (hd, .inr (4, fs_hd))] sz) := by
  refine Met.ofW (cc := cX11_coupon) (maxL := 5) (ret := (some .long)) (by decide) rfl ?_
  intro p e s m args below meth c s₁ B hml hv
  obtain ⟨rfl, hsz, hP, hK, hD0⟩ := hv
  have hx := B.exec
  have hb := B.bytes
  have hr := B.returns
  have hts := atoms_spec (ws := wsX11_coupon) B.pre
  have hown : s.vm.findClass RX11 = some m.cls := findClass_of_methodNamed B.named
  have hlocks := B.notSynchronized
  subst hsz
  have hD := hD0.self (sz := s.heap.size)
  generalize hAe : va_A [(h0, .inr (10, fs_h0)), (rd, .inr (6, fs_rd)), (tp, .inr (9, fs_tp)), (ra, .inr (5, fs_ra)), (li, .inr (3, fs_li)), (ho, .inr (4, fs_ho)), (dr, .inr (3, fs_dr)), (hd, .inr (4, fs_hd))] s.heap.size = A at hD ⊢
  have hA : ∀ q : Nat, s.heap.size ≤ q → A q := fun q h => by rw [← hAe]; exact Or.inr h
  have hS : va_S A s.heap s.heap [] := va_S.rf
  have hP : va_P (dC, dI) vwCl [(h0, .inr (10, fs_h0)), (rd, .inr (6, fs_rd)), (tp, .inr (9, fs_tp)), (ra, .inr (5, fs_ra)), (li, .inr (3, fs_li)), (ho, .inr (4, fs_ho)), (dr, .inr (3, fs_dr)), (hd, .inr (4, fs_hd))] s.heap := hP
  have hl := lv_entry ([.ref h0, .int p0, .int p1, .int p2]) (n := 5) (Nat.le_of_ble_eq_true rfl)
  rw [lg_entry_eq]
  generalize (lg_sl ([.ref h0, .int p0, .int p1, .int p2]) ++ List.replicate (5 - (lg_sl ([.ref h0, .int p0, .int p1, .int p2])).length) Slot.unset).toArray = ls at hl ⊢
  have hl : lv_has ls 5 [(0, .ref h0), (1, .int p0), (2, .int p1), (3, .int p2)] := hl
  refine lv_aload_n hx hb dX11_coupon_0 rfl (lv_at hl 0 rfl) ?_
  refine lv_iload_n hx hb dX11_coupon_1 rfl (lv_at hl 1 rfl) ?_
  have hPc := hP.sub (ws' := [(h0, .inr (10, fs_h0)), (rd, .inr (6, fs_rd)), (tp, .inr (9, fs_tp)), (ra, .inr (5, fs_ra)), (li, .inr (3, fs_li)), (ho, .inr (4, fs_ho)), (dr, .inr (3, fs_dr)), (hd, .inr (4, fs_hd))]) [0, 1, 2, 3, 4, 5, 6, 7] rfl
  have hDc := hD.sub (ws' := [(h0, .inr (10, fs_h0)), (rd, .inr (6, fs_rd)), (tp, .inr (9, fs_tp)), (ra, .inr (5, fs_ra)), (li, .inr (3, fs_li)), (ho, .inr (4, fs_ho)), (dr, .inr (3, fs_dr)), (hd, .inr (4, fs_hd))]) [0, 1, 2, 3, 4, 5, 6, 7] (by decide) rfl
  have hKc := hK.sub (tys' := []) [] rfl
  have hFc := va_free (wc := [(h0, .inr (10, fs_h0)), (rd, .inr (6, fs_rd)), (tp, .inr (9, fs_tp)), (ra, .inr (5, fs_ra)), (li, .inr (3, fs_li)), (ho, .inr (4, fs_ho)), (dr, .inr (3, fs_dr)), (hd, .inr (4, fs_hd))]) hD hS hA [0, 1, 2, 3, 4, 5, 6, 7] rfl
  refine va_callq (va_runV (As := [.int p0]) (rest := []) ⟨hx, hb, hml, hown, hts⟩ (k_X11_bondOf l dC dI s.heap.size h0 fs_h0 rd fs_rd tp fs_tp ra fs_ra li fs_li ho fs_ho dr fs_dr hd fs_hd p0 hn_h0 hf_h0_10 hn_rd hn_tp hn_ra hn_li hn_ho hn_dr hn_hd) (cwV 1 hts gX11_coupon_X11_bondOf rfl rfl rfl (by decide +kernel) ⟨Nat.le_of_ble_eq_true rfl, Nat.le_of_ble_eq_true rfl⟩) ⟨fun a U g mk q => by obtain ⟨q0, q1, qP, qK, qD⟩ := q; exact ⟨q0, q1, qP, va_K.moved (u := U) (U := U.calling g mk a) (Vm.Alike.refl U.vm) qK, qD⟩, va_recv hKc hPc (ci := 10) (q0 := 0) rfl rfl, fun U hU hW => ⟨rfl, by rw [hU], by rw [hU]; exact hPc, va_K.moved hW.alike hKc, hDc.weaken (fun _ _ _ _ => trivial)⟩⟩ rfl rfl hl.1 rfl (lv_room (Nat.le_of_ble_eq_true rfl)) dX11_coupon_2 ⟨Nat.le_of_ble_eq_true rfl, Nat.le_of_ble_eq_true rfl⟩) hS (fun q _ h => hFc q h) hFc (fun r_1 u t H1 locs ht hvm hw hB hz1 hk1 hS => ?_)
  obtain ⟨hP1, hK1, hD1⟩ := hB
  rw [ht] at hP1
  have hK1 := va_K.moved hvm.symm hK1
  obtain ⟨hP, hD⟩ := va_join (wr := []) (w1 := [(h0, .inr (10, fs_h0)), (rd, .inr (6, fs_rd)), (tp, .inr (9, fs_tp)), (ra, .inr (5, fs_ra)), (li, .inr (3, fs_li)), (ho, .inr (4, fs_ho)), (dr, .inr (3, fs_dr)), (hd, .inr (4, fs_hd))]) hP hD [0, 1, 2, 3, 4, 5, 6, 7] [] rfl rfl (by decide) (by decide) hk1 hFc hP1 hD1
  generalize H1 = H at hP hS ⊢
  have hP : va_P (dC, dI) vwCl [(h0, .inr (10, fs_h0)), (rd, .inr (6, fs_rd)), (tp, .inr (9, fs_tp)), (ra, .inr (5, fs_ra)), (li, .inr (3, fs_li)), (ho, .inr (4, fs_ho)), (dr, .inr (3, fs_dr)), (hd, .inr (4, fs_hd))] H := hP
  have hD : va_D A [(h0, .inr (10, fs_h0)), (rd, .inr (6, fs_rd)), (tp, .inr (9, fs_tp)), (ra, .inr (5, fs_ra)), (li, .inr (3, fs_li)), (ho, .inr (4, fs_ho)), (dr, .inr (3, fs_dr)), (hd, .inr (4, fs_hd))] := hD
  subst hw
  refine W.eq (g2 := F0 m 5 ls [.null]) rfl ?_
  refine lv_astoreN (lv' := [(4, .null), (0, .ref h0), (1, .int p0), (2, .int p1), (3, .int p2)]) hx hb dX11_coupon_5 hl (by decide) rfl (fun ls hl => ?_)
  refine lv_aloadN hx hb dX11_coupon_7 (lv_at hl 0 rfl) ?_
  refine lv_ifnullN (tgt := 21) hx hb dX11_coupon_9 (by decide) ?_
  refine lv_aload_n hx hb dX11_coupon_21 rfl (lv_at hl 1 rfl) ?_
  refine lv_iconst (v := 1) hx hb dX11_coupon_22 (by decide) ?_
  have hPc := hP.sub (ws' := [(h0, .inr (10, fs_h0))]) [0] rfl
  have hDc := hD.sub (ws' := [(h0, .inr (10, fs_h0))]) [0] (by decide) rfl
  have hKc := hK.sub (tys' := []) [] rfl
  have hFc := va_free (wc := [(h0, .inr (10, fs_h0))]) hD hS hA [0] rfl
  refine va_calli (va_runV (As := [.int 1]) (rest := []) ⟨hx, hb, hml, hown, hts⟩ (k_X11_refuse l dC dI H.size h0 fs_h0 1 hn_h0) (cwV 1 hts gX11_coupon_X11_refuse rfl rfl rfl (by decide +kernel) ⟨Nat.le_of_ble_eq_true rfl, Nat.le_of_ble_eq_true rfl⟩) ⟨fun a U g mk q => by obtain ⟨q0, q1, qP, qK, qD⟩ := q; exact ⟨q0, q1, qP, va_K.moved (u := U) (U := U.calling g mk a) (Vm.Alike.refl U.vm) qK, qD⟩, va_recv hKc hPc (ci := 10) (q0 := 0) rfl rfl, fun U hU hW => ⟨rfl, by rw [hU], by rw [hU]; exact hPc, va_K.moved hW.alike hKc, hDc.weaken (fun _ _ _ _ => trivial)⟩⟩ rfl rfl hl.1 rfl (lv_room (Nat.le_of_ble_eq_true rfl)) dX11_coupon_23 ⟨Nat.le_of_ble_eq_true rfl, Nat.le_of_ble_eq_true rfl⟩) hS (fun q _ h => hFc q h) hFc (fun r_2 u t H1 locs ht hvm hw hB hz1 hk1 hS => ?_)
  obtain ⟨hP1, hK1, hD1⟩ := hB
  rw [ht] at hP1
  have hK1 := va_K.moved hvm.symm hK1
  obtain ⟨hP, hD⟩ := va_join (wr := [(rd, .inr (6, fs_rd)), (tp, .inr (9, fs_tp)), (ra, .inr (5, fs_ra)), (li, .inr (3, fs_li)), (ho, .inr (4, fs_ho)), (dr, .inr (3, fs_dr)), (hd, .inr (4, fs_hd))]) (w1 := []) hP hD [0] [1, 2, 3, 4, 5, 6, 7] rfl rfl (by decide) (by decide) hk1 hFc hP1 hD1
  generalize H1 = H at hP hS ⊢
  have hP : va_P (dC, dI) vwCl [(rd, .inr (6, fs_rd)), (tp, .inr (9, fs_tp)), (ra, .inr (5, fs_ra)), (li, .inr (3, fs_li)), (ho, .inr (4, fs_ho)), (dr, .inr (3, fs_dr)), (hd, .inr (4, fs_hd))] H := hP
  have hD : va_D A [(rd, .inr (6, fs_rd)), (tp, .inr (9, fs_tp)), (ra, .inr (5, fs_ra)), (li, .inr (3, fs_li)), (ho, .inr (4, fs_ho)), (dr, .inr (3, fs_dr)), (hd, .inr (4, fs_hd))] := hD
  have er_2 : r_2 = (-1) := hw
  subst er_2
  refine lv_i2l (v := (-1)) hx hb dX11_coupon_26 (by decide) ?_
  have hpost : ((-1) : Int64) = (-1) := rfl
  have hP9 := hP.sub (ws' := []) [] rfl
  have hD9 := hD.sub (ws' := []) [] (by decide) rfl
  have hK9 := hK.sub (tys' := []) [] rfl
  exact W.lret (v := (-1)) hx hb hr (fun t ht hW => ⟨⟨(-1), (), rfl, hpost, by rw [ht]; exact hP9, va_K.moved hW.alike hK9, hD9⟩, hS.F ht⟩) hS.2.2 dX11_coupon_27
set_option maxHeartbeats 4000000 in
set_option maxRecDepth 100000 in
theorem k_X11_line (l : Launch) (dC : Nat → ClassId) (dI : Nat → Nat → Nat) (sz : Nat) (h0 : Nat) (fs_h0 : List Value) (rd : Nat) (fs_rd : List Value) (tp : Nat) (fs_tp : List Value) (ra : Nat) (fs_ra : List Value) (li : Nat) (fs_li : List Value) (ho : Nat) (fs_ho : List Value) (dr : Nat) (fs_dr : List Value) (hd : Nat) (fs_hd : List Value) (p0 : Int32) (p1 : Int32) (hn_h0 : fs_h0.length = 15) (hf_h0_0 : fs_h0[0]? = some (.ref rd)) (hf_h0_3 : fs_h0[3]? = some (.ref ra)) (hf_h0_8 : fs_h0[8]? = some (.ref li)) (hf_h0_9 : fs_h0[9]? = some (.ref dr)) (hf_h0_10 : fs_h0[10]? = some (.int 0)) (hn_rd : fs_rd.length = 5) (hf_rd_0 : fs_rd[0]? = some (.ref tp)) (hn_tp : fs_tp.length = 7) (hn_ra : fs_ra.length = 2) (hn_li : fs_li.length = 12) (hf_li_2 : fs_li[2]? = some (.ref ho)) (hn_ho : fs_ho.length = 2) (hn_dr : fs_dr.length = 12) (hf_dr_2 : fs_dr[2]? = some (.ref hd)) (hn_hd : fs_hd.length = 2) : Met l yX11_line wsX11_line ({ frames := 1, cells := 0, slots := 0, locals := 21 }) (va_Pc [.ref h0, .int p0, .int p1] (fun U => U.heap.size = sz ∧ va_P (dC, dI) vwCl [(h0, .inr (10, fs_h0)), (rd, .inr (6, fs_rd)), (tp, .inr (9, fs_tp)), (ra, .inr (5, fs_ra)), (li, .inr (3, fs_li)), (ho, .inr (4, fs_ho)), (dr, .inr (3, fs_dr)), (hd, .inr (4, fs_hd))] U.heap ∧ va_K (dC, dI) vwCl [] U ∧ va_D (fun _ => True) [(h0, .inr (10, fs_h0)), (rd, .inr (6, fs_rd)), (tp, .inr (9, fs_tp)), (ra, .inr (5, fs_ra)), (li, .inr (3, fs_li)), (ho, .inr (4, fs_ho)), (dr, .inr (3, fs_dr)), (hd, .inr (4, fs_hd))])) (va_Qi (fun (r : Int32) (_ : Unit) => r = (-1)) (fun _ t => va_P (dC, dI) vwCl [] t.heap ∧ va_K (dC, dI) vwCl [] t ∧ va_D (va_A [(h0, .inr (10, fs_h0)), (rd, .inr (6, fs_rd)), (tp, .inr (9, fs_tp)), (ra, .inr (5, fs_ra)), (li, .inr (3, fs_li)), (ho, .inr (4, fs_ho)), (dr, .inr (3, fs_dr)), (hd, .inr (4, fs_hd))] sz) []) (va_A [(h0, .inr (10, fs_h0)), (rd, .inr (6, fs_rd)), (tp, .inr (9, fs_tp)), (ra, .inr (5, fs_ra)), (li, .inr (3, fs_li)), (ho, .inr (4, fs_ho)), (dr, .inr (3, fs_dr)), (hd, .inr (4, fs_hd))] sz)) 0 0 (va_A [(h0, .inr (10, fs_h0)), (rd, .inr (6, fs_rd)), (tp, .inr (9, fs_tp)), (ra, .inr (5, fs_ra)), (li, .inr (3, fs_li)), (ho, .inr (4, fs_ho)), (dr, .inr (3, fs_dr)), (hd, .inr (4, fs_hd))] sz) := by
  refine Met.ofW (cc := cX11_line) (maxL := 4) (ret := (some .int)) (by decide) rfl ?_
  intro p e s m args below meth c s₁ B hml hv
  obtain ⟨rfl, hsz, hP, hK, hD0⟩ := hv
  have hx := B.exec
  have hb := B.bytes
  have hr := B.returns
  have hts := atoms_spec (ws := wsX11_line) B.pre
  have hown : s.vm.findClass RX11 = some m.cls := findClass_of_methodNamed B.named
  have hlocks := B.notSynchronized
  subst hsz
  have hD := hD0.self (sz := s.heap.size)
  generalize hAe : va_A [(h0, .inr (10, fs_h0)), (rd, .inr (6, fs_rd)), (tp, .inr (9, fs_tp)), (ra, .inr (5, fs_ra)), (li, .inr (3, fs_li)), (ho, .inr (4, fs_ho)), (dr, .inr (3, fs_dr)), (hd, .inr (4, fs_hd))] s.heap.size = A at hD ⊢
  have hA : ∀ q : Nat, s.heap.size ≤ q → A q := fun q h => by rw [← hAe]; exact Or.inr h
  have hS : va_S A s.heap s.heap [] := va_S.rf
  have hP : va_P (dC, dI) vwCl [(h0, .inr (10, fs_h0)), (rd, .inr (6, fs_rd)), (tp, .inr (9, fs_tp)), (ra, .inr (5, fs_ra)), (li, .inr (3, fs_li)), (ho, .inr (4, fs_ho)), (dr, .inr (3, fs_dr)), (hd, .inr (4, fs_hd))] s.heap := hP
  have hl := lv_entry ([.ref h0, .int p0, .int p1]) (n := 4) (Nat.le_of_ble_eq_true rfl)
  rw [lg_entry_eq]
  generalize (lg_sl ([.ref h0, .int p0, .int p1]) ++ List.replicate (4 - (lg_sl ([.ref h0, .int p0, .int p1])).length) Slot.unset).toArray = ls at hl ⊢
  have hl : lv_has ls 4 [(0, .ref h0), (1, .int p0), (2, .int p1)] := hl
  refine lv_aload_n hx hb dX11_line_0 rfl (lv_at hl 0 rfl) ?_
  refine lv_iload_n hx hb dX11_line_1 rfl (lv_at hl 1 rfl) ?_
  have hPc := hP.sub (ws' := [(h0, .inr (10, fs_h0)), (rd, .inr (6, fs_rd)), (tp, .inr (9, fs_tp)), (ra, .inr (5, fs_ra)), (li, .inr (3, fs_li)), (ho, .inr (4, fs_ho)), (dr, .inr (3, fs_dr)), (hd, .inr (4, fs_hd))]) [0, 1, 2, 3, 4, 5, 6, 7] rfl
  have hDc := hD.sub (ws' := [(h0, .inr (10, fs_h0)), (rd, .inr (6, fs_rd)), (tp, .inr (9, fs_tp)), (ra, .inr (5, fs_ra)), (li, .inr (3, fs_li)), (ho, .inr (4, fs_ho)), (dr, .inr (3, fs_dr)), (hd, .inr (4, fs_hd))]) [0, 1, 2, 3, 4, 5, 6, 7] (by decide) rfl
  have hKc := hK.sub (tys' := []) [] rfl
  have hFc := va_free (wc := [(h0, .inr (10, fs_h0)), (rd, .inr (6, fs_rd)), (tp, .inr (9, fs_tp)), (ra, .inr (5, fs_ra)), (li, .inr (3, fs_li)), (ho, .inr (4, fs_ho)), (dr, .inr (3, fs_dr)), (hd, .inr (4, fs_hd))]) hD hS hA [0, 1, 2, 3, 4, 5, 6, 7] rfl
  refine va_callq (va_runV (As := [.int p0]) (rest := []) ⟨hx, hb, hml, hown, hts⟩ (k_X11_bondOf l dC dI s.heap.size h0 fs_h0 rd fs_rd tp fs_tp ra fs_ra li fs_li ho fs_ho dr fs_dr hd fs_hd p0 hn_h0 hf_h0_10 hn_rd hn_tp hn_ra hn_li hn_ho hn_dr hn_hd) (cwV 1 hts gX11_line_X11_bondOf rfl rfl rfl (by decide +kernel) ⟨Nat.le_of_ble_eq_true rfl, Nat.le_of_ble_eq_true rfl⟩) ⟨fun a U g mk q => by obtain ⟨q0, q1, qP, qK, qD⟩ := q; exact ⟨q0, q1, qP, va_K.moved (u := U) (U := U.calling g mk a) (Vm.Alike.refl U.vm) qK, qD⟩, va_recv hKc hPc (ci := 10) (q0 := 0) rfl rfl, fun U hU hW => ⟨rfl, by rw [hU], by rw [hU]; exact hPc, va_K.moved hW.alike hKc, hDc.weaken (fun _ _ _ _ => trivial)⟩⟩ rfl rfl hl.1 rfl (lv_room (Nat.le_of_ble_eq_true rfl)) dX11_line_2 ⟨Nat.le_of_ble_eq_true rfl, Nat.le_of_ble_eq_true rfl⟩) hS (fun q _ h => hFc q h) hFc (fun r_1 u t H1 locs ht hvm hw hB hz1 hk1 hS => ?_)
  obtain ⟨hP1, hK1, hD1⟩ := hB
  rw [ht] at hP1
  have hK1 := va_K.moved hvm.symm hK1
  obtain ⟨hP, hD⟩ := va_join (wr := []) (w1 := [(h0, .inr (10, fs_h0)), (rd, .inr (6, fs_rd)), (tp, .inr (9, fs_tp)), (ra, .inr (5, fs_ra)), (li, .inr (3, fs_li)), (ho, .inr (4, fs_ho)), (dr, .inr (3, fs_dr)), (hd, .inr (4, fs_hd))]) hP hD [0, 1, 2, 3, 4, 5, 6, 7] [] rfl rfl (by decide) (by decide) hk1 hFc hP1 hD1
  generalize H1 = H at hP hS ⊢
  have hP : va_P (dC, dI) vwCl [(h0, .inr (10, fs_h0)), (rd, .inr (6, fs_rd)), (tp, .inr (9, fs_tp)), (ra, .inr (5, fs_ra)), (li, .inr (3, fs_li)), (ho, .inr (4, fs_ho)), (dr, .inr (3, fs_dr)), (hd, .inr (4, fs_hd))] H := hP
  have hD : va_D A [(h0, .inr (10, fs_h0)), (rd, .inr (6, fs_rd)), (tp, .inr (9, fs_tp)), (ra, .inr (5, fs_ra)), (li, .inr (3, fs_li)), (ho, .inr (4, fs_ho)), (dr, .inr (3, fs_dr)), (hd, .inr (4, fs_hd))] := hD
  subst hw
  refine W.eq (g2 := F0 m 5 ls [.null]) rfl ?_
  refine lv_astore_nN (lv' := [(3, .null), (0, .ref h0), (1, .int p0), (2, .int p1)]) hx hb dX11_line_5 rfl hl (by decide) rfl (fun ls hl => ?_)
  refine lv_aload_nN hx hb dX11_line_6 rfl (lv_at hl 0 rfl) ?_
  refine lv_ifnullN (tgt := 18) hx hb dX11_line_7 (by decide) ?_
  refine lv_aload_n hx hb dX11_line_18 rfl (lv_at hl 1 rfl) ?_
  refine lv_iconst (v := 1) hx hb dX11_line_19 (by decide) ?_
  have hPc := hP.sub (ws' := [(h0, .inr (10, fs_h0))]) [0] rfl
  have hDc := hD.sub (ws' := [(h0, .inr (10, fs_h0))]) [0] (by decide) rfl
  have hKc := hK.sub (tys' := []) [] rfl
  have hFc := va_free (wc := [(h0, .inr (10, fs_h0))]) hD hS hA [0] rfl
  refine va_calli (va_runV (As := [.int 1]) (rest := []) ⟨hx, hb, hml, hown, hts⟩ (k_X11_refuse l dC dI H.size h0 fs_h0 1 hn_h0) (cwV 1 hts gX11_line_X11_refuse rfl rfl rfl (by decide +kernel) ⟨Nat.le_of_ble_eq_true rfl, Nat.le_of_ble_eq_true rfl⟩) ⟨fun a U g mk q => by obtain ⟨q0, q1, qP, qK, qD⟩ := q; exact ⟨q0, q1, qP, va_K.moved (u := U) (U := U.calling g mk a) (Vm.Alike.refl U.vm) qK, qD⟩, va_recv hKc hPc (ci := 10) (q0 := 0) rfl rfl, fun U hU hW => ⟨rfl, by rw [hU], by rw [hU]; exact hPc, va_K.moved hW.alike hKc, hDc.weaken (fun _ _ _ _ => trivial)⟩⟩ rfl rfl hl.1 rfl (lv_room (Nat.le_of_ble_eq_true rfl)) dX11_line_20 ⟨Nat.le_of_ble_eq_true rfl, Nat.le_of_ble_eq_true rfl⟩) hS (fun q _ h => hFc q h) hFc (fun r_2 u t H1 locs ht hvm hw hB hz1 hk1 hS => ?_)
  obtain ⟨hP1, hK1, hD1⟩ := hB
  rw [ht] at hP1
  have hK1 := va_K.moved hvm.symm hK1
  obtain ⟨hP, hD⟩ := va_join (wr := [(rd, .inr (6, fs_rd)), (tp, .inr (9, fs_tp)), (ra, .inr (5, fs_ra)), (li, .inr (3, fs_li)), (ho, .inr (4, fs_ho)), (dr, .inr (3, fs_dr)), (hd, .inr (4, fs_hd))]) (w1 := []) hP hD [0] [1, 2, 3, 4, 5, 6, 7] rfl rfl (by decide) (by decide) hk1 hFc hP1 hD1
  generalize H1 = H at hP hS ⊢
  have hP : va_P (dC, dI) vwCl [(rd, .inr (6, fs_rd)), (tp, .inr (9, fs_tp)), (ra, .inr (5, fs_ra)), (li, .inr (3, fs_li)), (ho, .inr (4, fs_ho)), (dr, .inr (3, fs_dr)), (hd, .inr (4, fs_hd))] H := hP
  have hD : va_D A [(rd, .inr (6, fs_rd)), (tp, .inr (9, fs_tp)), (ra, .inr (5, fs_ra)), (li, .inr (3, fs_li)), (ho, .inr (4, fs_ho)), (dr, .inr (3, fs_dr)), (hd, .inr (4, fs_hd))] := hD
  have er_2 : r_2 = (-1) := hw
  subst er_2
  have hpost : ((-1) : Int32) = (-1) := rfl
  have hP9 := hP.sub (ws' := []) [] rfl
  have hD9 := hD.sub (ws' := []) [] (by decide) rfl
  have hK9 := hK.sub (tys' := []) [] rfl
  exact W.iret (v := (-1)) hx hb hr (fun t ht hW => ⟨⟨(-1), (), rfl, hpost, by rw [ht]; exact hP9, va_K.moved hW.alike hK9, hD9⟩, hS.F ht⟩) hS.2.2 dX11_line_23
set_option maxHeartbeats 4000000 in
set_option maxRecDepth 100000 in
theorem k_X11_sign (l : Launch) (dC : Nat → ClassId) (dI : Nat → Nat → Nat) (sz : Nat) (h0 : Nat) (fs_h0 : List Value) (rd : Nat) (fs_rd : List Value) (tp : Nat) (fs_tp : List Value) (ra : Nat) (fs_ra : List Value) (li : Nat) (fs_li : List Value) (ho : Nat) (fs_ho : List Value) (dr : Nat) (fs_dr : List Value) (hd : Nat) (fs_hd : List Value) (p0 : Int32) (p1 : Int32) (p2 : Int32) (hn_h0 : fs_h0.length = 15) (hf_h0_0 : fs_h0[0]? = some (.ref rd)) (hf_h0_3 : fs_h0[3]? = some (.ref ra)) (hf_h0_8 : fs_h0[8]? = some (.ref li)) (hf_h0_9 : fs_h0[9]? = some (.ref dr)) (hf_h0_10 : fs_h0[10]? = some (.int 0)) (hn_rd : fs_rd.length = 5) (hf_rd_0 : fs_rd[0]? = some (.ref tp)) (hn_tp : fs_tp.length = 7) (hn_ra : fs_ra.length = 2) (hn_li : fs_li.length = 12) (hf_li_2 : fs_li[2]? = some (.ref ho)) (hn_ho : fs_ho.length = 2) (hn_dr : fs_dr.length = 12) (hf_dr_2 : fs_dr[2]? = some (.ref hd)) (hn_hd : fs_hd.length = 2) : Met l yX11_sign wsX11_sign ({ frames := 1, cells := 0, slots := 0, locals := 21 }) (va_Pc [.ref h0, .int p0, .int p1, .int p2] (fun U => U.heap.size = sz ∧ va_P (dC, dI) vwCl [(h0, .inr (10, fs_h0)), (rd, .inr (6, fs_rd)), (tp, .inr (9, fs_tp)), (ra, .inr (5, fs_ra)), (li, .inr (3, fs_li)), (ho, .inr (4, fs_ho)), (dr, .inr (3, fs_dr)), (hd, .inr (4, fs_hd))] U.heap ∧ va_K (dC, dI) vwCl [] U ∧ va_D (fun _ => True) [(h0, .inr (10, fs_h0)), (rd, .inr (6, fs_rd)), (tp, .inr (9, fs_tp)), (ra, .inr (5, fs_ra)), (li, .inr (3, fs_li)), (ho, .inr (4, fs_ho)), (dr, .inr (3, fs_dr)), (hd, .inr (4, fs_hd))])) (va_Qi (fun (r : Int32) (_ : Unit) => r = (-1)) (fun _ t => va_P (dC, dI) vwCl [] t.heap ∧ va_K (dC, dI) vwCl [] t ∧ va_D (va_A [(h0, .inr (10, fs_h0)), (rd, .inr (6, fs_rd)), (tp, .inr (9, fs_tp)), (ra, .inr (5, fs_ra)), (li, .inr (3, fs_li)), (ho, .inr (4, fs_ho)), (dr, .inr (3, fs_dr)), (hd, .inr (4, fs_hd))] sz) []) (va_A [(h0, .inr (10, fs_h0)), (rd, .inr (6, fs_rd)), (tp, .inr (9, fs_tp)), (ra, .inr (5, fs_ra)), (li, .inr (3, fs_li)), (ho, .inr (4, fs_ho)), (dr, .inr (3, fs_dr)), (hd, .inr (4, fs_hd))] sz)) 0 0 (va_A [(h0, .inr (10, fs_h0)), (rd, .inr (6, fs_rd)), (tp, .inr (9, fs_tp)), (ra, .inr (5, fs_ra)), (li, .inr (3, fs_li)), (ho, .inr (4, fs_ho)), (dr, .inr (3, fs_dr)), (hd, .inr (4, fs_hd))] sz) := by
  refine Met.ofW (cc := cX11_sign) (maxL := 5) (ret := (some .int)) (by decide) rfl ?_
  intro p e s m args below meth c s₁ B hml hv
  obtain ⟨rfl, hsz, hP, hK, hD0⟩ := hv
  have hx := B.exec
  have hb := B.bytes
  have hr := B.returns
  have hts := atoms_spec (ws := wsX11_sign) B.pre
  have hown : s.vm.findClass RX11 = some m.cls := findClass_of_methodNamed B.named
  have hlocks := B.notSynchronized
  subst hsz
  have hD := hD0.self (sz := s.heap.size)
  generalize hAe : va_A [(h0, .inr (10, fs_h0)), (rd, .inr (6, fs_rd)), (tp, .inr (9, fs_tp)), (ra, .inr (5, fs_ra)), (li, .inr (3, fs_li)), (ho, .inr (4, fs_ho)), (dr, .inr (3, fs_dr)), (hd, .inr (4, fs_hd))] s.heap.size = A at hD ⊢
  have hA : ∀ q : Nat, s.heap.size ≤ q → A q := fun q h => by rw [← hAe]; exact Or.inr h
  have hS : va_S A s.heap s.heap [] := va_S.rf
  have hP : va_P (dC, dI) vwCl [(h0, .inr (10, fs_h0)), (rd, .inr (6, fs_rd)), (tp, .inr (9, fs_tp)), (ra, .inr (5, fs_ra)), (li, .inr (3, fs_li)), (ho, .inr (4, fs_ho)), (dr, .inr (3, fs_dr)), (hd, .inr (4, fs_hd))] s.heap := hP
  have hl := lv_entry ([.ref h0, .int p0, .int p1, .int p2]) (n := 5) (Nat.le_of_ble_eq_true rfl)
  rw [lg_entry_eq]
  generalize (lg_sl ([.ref h0, .int p0, .int p1, .int p2]) ++ List.replicate (5 - (lg_sl ([.ref h0, .int p0, .int p1, .int p2])).length) Slot.unset).toArray = ls at hl ⊢
  have hl : lv_has ls 5 [(0, .ref h0), (1, .int p0), (2, .int p1), (3, .int p2)] := hl
  refine lv_aload_n hx hb dX11_sign_0 rfl (lv_at hl 0 rfl) ?_
  refine lv_iload_n hx hb dX11_sign_1 rfl (lv_at hl 1 rfl) ?_
  have hPc := hP.sub (ws' := [(h0, .inr (10, fs_h0)), (rd, .inr (6, fs_rd)), (tp, .inr (9, fs_tp)), (ra, .inr (5, fs_ra)), (li, .inr (3, fs_li)), (ho, .inr (4, fs_ho)), (dr, .inr (3, fs_dr)), (hd, .inr (4, fs_hd))]) [0, 1, 2, 3, 4, 5, 6, 7] rfl
  have hDc := hD.sub (ws' := [(h0, .inr (10, fs_h0)), (rd, .inr (6, fs_rd)), (tp, .inr (9, fs_tp)), (ra, .inr (5, fs_ra)), (li, .inr (3, fs_li)), (ho, .inr (4, fs_ho)), (dr, .inr (3, fs_dr)), (hd, .inr (4, fs_hd))]) [0, 1, 2, 3, 4, 5, 6, 7] (by decide) rfl
  have hKc := hK.sub (tys' := []) [] rfl
  have hFc := va_free (wc := [(h0, .inr (10, fs_h0)), (rd, .inr (6, fs_rd)), (tp, .inr (9, fs_tp)), (ra, .inr (5, fs_ra)), (li, .inr (3, fs_li)), (ho, .inr (4, fs_ho)), (dr, .inr (3, fs_dr)), (hd, .inr (4, fs_hd))]) hD hS hA [0, 1, 2, 3, 4, 5, 6, 7] rfl
  refine va_callq (va_runV (As := [.int p0]) (rest := []) ⟨hx, hb, hml, hown, hts⟩ (k_X11_bondOf l dC dI s.heap.size h0 fs_h0 rd fs_rd tp fs_tp ra fs_ra li fs_li ho fs_ho dr fs_dr hd fs_hd p0 hn_h0 hf_h0_10 hn_rd hn_tp hn_ra hn_li hn_ho hn_dr hn_hd) (cwV 1 hts gX11_sign_X11_bondOf rfl rfl rfl (by decide +kernel) ⟨Nat.le_of_ble_eq_true rfl, Nat.le_of_ble_eq_true rfl⟩) ⟨fun a U g mk q => by obtain ⟨q0, q1, qP, qK, qD⟩ := q; exact ⟨q0, q1, qP, va_K.moved (u := U) (U := U.calling g mk a) (Vm.Alike.refl U.vm) qK, qD⟩, va_recv hKc hPc (ci := 10) (q0 := 0) rfl rfl, fun U hU hW => ⟨rfl, by rw [hU], by rw [hU]; exact hPc, va_K.moved hW.alike hKc, hDc.weaken (fun _ _ _ _ => trivial)⟩⟩ rfl rfl hl.1 rfl (lv_room (Nat.le_of_ble_eq_true rfl)) dX11_sign_2 ⟨Nat.le_of_ble_eq_true rfl, Nat.le_of_ble_eq_true rfl⟩) hS (fun q _ h => hFc q h) hFc (fun r_1 u t H1 locs ht hvm hw hB hz1 hk1 hS => ?_)
  obtain ⟨hP1, hK1, hD1⟩ := hB
  rw [ht] at hP1
  have hK1 := va_K.moved hvm.symm hK1
  obtain ⟨hP, hD⟩ := va_join (wr := []) (w1 := [(h0, .inr (10, fs_h0)), (rd, .inr (6, fs_rd)), (tp, .inr (9, fs_tp)), (ra, .inr (5, fs_ra)), (li, .inr (3, fs_li)), (ho, .inr (4, fs_ho)), (dr, .inr (3, fs_dr)), (hd, .inr (4, fs_hd))]) hP hD [0, 1, 2, 3, 4, 5, 6, 7] [] rfl rfl (by decide) (by decide) hk1 hFc hP1 hD1
  generalize H1 = H at hP hS ⊢
  have hP : va_P (dC, dI) vwCl [(h0, .inr (10, fs_h0)), (rd, .inr (6, fs_rd)), (tp, .inr (9, fs_tp)), (ra, .inr (5, fs_ra)), (li, .inr (3, fs_li)), (ho, .inr (4, fs_ho)), (dr, .inr (3, fs_dr)), (hd, .inr (4, fs_hd))] H := hP
  have hD : va_D A [(h0, .inr (10, fs_h0)), (rd, .inr (6, fs_rd)), (tp, .inr (9, fs_tp)), (ra, .inr (5, fs_ra)), (li, .inr (3, fs_li)), (ho, .inr (4, fs_ho)), (dr, .inr (3, fs_dr)), (hd, .inr (4, fs_hd))] := hD
  subst hw
  refine W.eq (g2 := F0 m 5 ls [.null]) rfl ?_
  refine lv_astoreN (lv' := [(4, .null), (0, .ref h0), (1, .int p0), (2, .int p1), (3, .int p2)]) hx hb dX11_sign_5 hl (by decide) rfl (fun ls hl => ?_)
  refine lv_aloadN hx hb dX11_sign_7 (lv_at hl 0 rfl) ?_
  refine lv_ifnullN (tgt := 21) hx hb dX11_sign_9 (by decide) ?_
  refine lv_aload_n hx hb dX11_sign_21 rfl (lv_at hl 1 rfl) ?_
  refine lv_iconst (v := 1) hx hb dX11_sign_22 (by decide) ?_
  have hPc := hP.sub (ws' := [(h0, .inr (10, fs_h0))]) [0] rfl
  have hDc := hD.sub (ws' := [(h0, .inr (10, fs_h0))]) [0] (by decide) rfl
  have hKc := hK.sub (tys' := []) [] rfl
  have hFc := va_free (wc := [(h0, .inr (10, fs_h0))]) hD hS hA [0] rfl
  refine va_calli (va_runV (As := [.int 1]) (rest := []) ⟨hx, hb, hml, hown, hts⟩ (k_X11_refuse l dC dI H.size h0 fs_h0 1 hn_h0) (cwV 1 hts gX11_sign_X11_refuse rfl rfl rfl (by decide +kernel) ⟨Nat.le_of_ble_eq_true rfl, Nat.le_of_ble_eq_true rfl⟩) ⟨fun a U g mk q => by obtain ⟨q0, q1, qP, qK, qD⟩ := q; exact ⟨q0, q1, qP, va_K.moved (u := U) (U := U.calling g mk a) (Vm.Alike.refl U.vm) qK, qD⟩, va_recv hKc hPc (ci := 10) (q0 := 0) rfl rfl, fun U hU hW => ⟨rfl, by rw [hU], by rw [hU]; exact hPc, va_K.moved hW.alike hKc, hDc.weaken (fun _ _ _ _ => trivial)⟩⟩ rfl rfl hl.1 rfl (lv_room (Nat.le_of_ble_eq_true rfl)) dX11_sign_23 ⟨Nat.le_of_ble_eq_true rfl, Nat.le_of_ble_eq_true rfl⟩) hS (fun q _ h => hFc q h) hFc (fun r_2 u t H1 locs ht hvm hw hB hz1 hk1 hS => ?_)
  obtain ⟨hP1, hK1, hD1⟩ := hB
  rw [ht] at hP1
  have hK1 := va_K.moved hvm.symm hK1
  obtain ⟨hP, hD⟩ := va_join (wr := [(rd, .inr (6, fs_rd)), (tp, .inr (9, fs_tp)), (ra, .inr (5, fs_ra)), (li, .inr (3, fs_li)), (ho, .inr (4, fs_ho)), (dr, .inr (3, fs_dr)), (hd, .inr (4, fs_hd))]) (w1 := []) hP hD [0] [1, 2, 3, 4, 5, 6, 7] rfl rfl (by decide) (by decide) hk1 hFc hP1 hD1
  generalize H1 = H at hP hS ⊢
  have hP : va_P (dC, dI) vwCl [(rd, .inr (6, fs_rd)), (tp, .inr (9, fs_tp)), (ra, .inr (5, fs_ra)), (li, .inr (3, fs_li)), (ho, .inr (4, fs_ho)), (dr, .inr (3, fs_dr)), (hd, .inr (4, fs_hd))] H := hP
  have hD : va_D A [(rd, .inr (6, fs_rd)), (tp, .inr (9, fs_tp)), (ra, .inr (5, fs_ra)), (li, .inr (3, fs_li)), (ho, .inr (4, fs_ho)), (dr, .inr (3, fs_dr)), (hd, .inr (4, fs_hd))] := hD
  have er_2 : r_2 = (-1) := hw
  subst er_2
  have hpost : ((-1) : Int32) = (-1) := rfl
  have hP9 := hP.sub (ws' := []) [] rfl
  have hD9 := hD.sub (ws' := []) [] (by decide) rfl
  have hK9 := hK.sub (tys' := []) [] rfl
  exact W.iret (v := (-1)) hx hb hr (fun t ht hW => ⟨⟨(-1), (), rfl, hpost, by rw [ht]; exact hP9, va_K.moved hW.alike hK9, hD9⟩, hS.F ht⟩) hS.2.2 dX11_sign_26
set_option maxHeartbeats 4000000 in
set_option maxRecDepth 100000 in
theorem k_X11_current (l : Launch) (dC : Nat → ClassId) (dI : Nat → Nat → Nat) (sz : Nat) (h0 : Nat) (fs_h0 : List Value) (rd : Nat) (fs_rd : List Value) (tp : Nat) (fs_tp : List Value) (ra : Nat) (fs_ra : List Value) (li : Nat) (fs_li : List Value) (ho : Nat) (fs_ho : List Value) (dr : Nat) (fs_dr : List Value) (hd : Nat) (fs_hd : List Value) (p0 : Int32) (p1 : Int32) (hn_h0 : fs_h0.length = 15) (hf_h0_0 : fs_h0[0]? = some (.ref rd)) (hf_h0_3 : fs_h0[3]? = some (.ref ra)) (hf_h0_8 : fs_h0[8]? = some (.ref li)) (hf_h0_9 : fs_h0[9]? = some (.ref dr)) (hf_h0_10 : fs_h0[10]? = some (.int 0)) (hn_rd : fs_rd.length = 5) (hf_rd_0 : fs_rd[0]? = some (.ref tp)) (hn_tp : fs_tp.length = 7) (hn_ra : fs_ra.length = 2) (hn_li : fs_li.length = 12) (hf_li_2 : fs_li[2]? = some (.ref ho)) (hn_ho : fs_ho.length = 2) (hn_dr : fs_dr.length = 12) (hf_dr_2 : fs_dr[2]? = some (.ref hd)) (hn_hd : fs_hd.length = 2) : Met l yX11_current wsX11_current ({ frames := 2, cells := 0, slots := 0, locals := 46 }) (va_Pc [.ref h0, .int p0, .int p1] (fun U => U.heap.size = sz ∧ va_P (dC, dI) vwCl [(h0, .inr (10, fs_h0)), (rd, .inr (6, fs_rd)), (tp, .inr (9, fs_tp)), (ra, .inr (5, fs_ra)), (li, .inr (3, fs_li)), (ho, .inr (4, fs_ho)), (dr, .inr (3, fs_dr)), (hd, .inr (4, fs_hd))] U.heap ∧ va_K (dC, dI) vwCl [] U ∧ va_D (fun _ => True) [(h0, .inr (10, fs_h0)), (rd, .inr (6, fs_rd)), (tp, .inr (9, fs_tp)), (ra, .inr (5, fs_ra)), (li, .inr (3, fs_li)), (ho, .inr (4, fs_ho)), (dr, .inr (3, fs_dr)), (hd, .inr (4, fs_hd))])) (va_Qi (fun (r : Int32) (_ : Unit) => r = (-1)) (fun _ t => va_P (dC, dI) vwCl [] t.heap ∧ va_K (dC, dI) vwCl [] t ∧ va_D (va_A [(h0, .inr (10, fs_h0)), (rd, .inr (6, fs_rd)), (tp, .inr (9, fs_tp)), (ra, .inr (5, fs_ra)), (li, .inr (3, fs_li)), (ho, .inr (4, fs_ho)), (dr, .inr (3, fs_dr)), (hd, .inr (4, fs_hd))] sz) []) (va_A [(h0, .inr (10, fs_h0)), (rd, .inr (6, fs_rd)), (tp, .inr (9, fs_tp)), (ra, .inr (5, fs_ra)), (li, .inr (3, fs_li)), (ho, .inr (4, fs_ho)), (dr, .inr (3, fs_dr)), (hd, .inr (4, fs_hd))] sz)) 0 0 (va_A [(h0, .inr (10, fs_h0)), (rd, .inr (6, fs_rd)), (tp, .inr (9, fs_tp)), (ra, .inr (5, fs_ra)), (li, .inr (3, fs_li)), (ho, .inr (4, fs_ho)), (dr, .inr (3, fs_dr)), (hd, .inr (4, fs_hd))] sz) := by
  refine Met.ofW (cc := cX11_current) (maxL := 3) (ret := (some .int)) (by decide) rfl ?_
  intro p e s m args below meth c s₁ B hml hv
  obtain ⟨rfl, hsz, hP, hK, hD0⟩ := hv
  have hx := B.exec
  have hb := B.bytes
  have hr := B.returns
  have hts := atoms_spec (ws := wsX11_current) B.pre
  have hown : s.vm.findClass RX11 = some m.cls := findClass_of_methodNamed B.named
  have hlocks := B.notSynchronized
  subst hsz
  have hD := hD0.self (sz := s.heap.size)
  generalize hAe : va_A [(h0, .inr (10, fs_h0)), (rd, .inr (6, fs_rd)), (tp, .inr (9, fs_tp)), (ra, .inr (5, fs_ra)), (li, .inr (3, fs_li)), (ho, .inr (4, fs_ho)), (dr, .inr (3, fs_dr)), (hd, .inr (4, fs_hd))] s.heap.size = A at hD ⊢
  have hA : ∀ q : Nat, s.heap.size ≤ q → A q := fun q h => by rw [← hAe]; exact Or.inr h
  have hS : va_S A s.heap s.heap [] := va_S.rf
  have hP : va_P (dC, dI) vwCl [(h0, .inr (10, fs_h0)), (rd, .inr (6, fs_rd)), (tp, .inr (9, fs_tp)), (ra, .inr (5, fs_ra)), (li, .inr (3, fs_li)), (ho, .inr (4, fs_ho)), (dr, .inr (3, fs_dr)), (hd, .inr (4, fs_hd))] s.heap := hP
  have hl := lv_entry ([.ref h0, .int p0, .int p1]) (n := 3) (Nat.le_of_ble_eq_true rfl)
  rw [lg_entry_eq]
  generalize (lg_sl ([.ref h0, .int p0, .int p1]) ++ List.replicate (3 - (lg_sl ([.ref h0, .int p0, .int p1])).length) Slot.unset).toArray = ls at hl ⊢
  have hl : lv_has ls 3 [(0, .ref h0), (1, .int p0), (2, .int p1)] := hl
  refine lv_aload_n hx hb dX11_current_0 rfl (lv_at hl 0 rfl) ?_
  refine lv_iload_n hx hb dX11_current_1 rfl (lv_at hl 1 rfl) ?_
  refine lv_iload_n hx hb dX11_current_2 rfl (lv_at hl 2 rfl) ?_
  refine lv_iconst (v := 1) hx hb dX11_current_3 (by decide) ?_
  have hPc := hP.sub (ws' := [(h0, .inr (10, fs_h0)), (rd, .inr (6, fs_rd)), (tp, .inr (9, fs_tp)), (ra, .inr (5, fs_ra)), (li, .inr (3, fs_li)), (ho, .inr (4, fs_ho)), (dr, .inr (3, fs_dr)), (hd, .inr (4, fs_hd))]) [0, 1, 2, 3, 4, 5, 6, 7] rfl
  have hDc := hD.sub (ws' := [(h0, .inr (10, fs_h0)), (rd, .inr (6, fs_rd)), (tp, .inr (9, fs_tp)), (ra, .inr (5, fs_ra)), (li, .inr (3, fs_li)), (ho, .inr (4, fs_ho)), (dr, .inr (3, fs_dr)), (hd, .inr (4, fs_hd))]) [0, 1, 2, 3, 4, 5, 6, 7] (by decide) rfl
  have hKc := hK.sub (tys' := []) [] rfl
  have hFc := va_free (wc := [(h0, .inr (10, fs_h0)), (rd, .inr (6, fs_rd)), (tp, .inr (9, fs_tp)), (ra, .inr (5, fs_ra)), (li, .inr (3, fs_li)), (ho, .inr (4, fs_ho)), (dr, .inr (3, fs_dr)), (hd, .inr (4, fs_hd))]) hD hS hA [0, 1, 2, 3, 4, 5, 6, 7] rfl
  refine va_calli (va_runV (As := [.int p0, .int p1, .int 1]) (rest := []) ⟨hx, hb, hml, hown, hts⟩ (k_X11_openSettle l dC dI s.heap.size h0 fs_h0 rd fs_rd tp fs_tp ra fs_ra li fs_li ho fs_ho dr fs_dr hd fs_hd p0 p1 1 hn_h0 hf_h0_0 hf_h0_3 hf_h0_8 hf_h0_9 hf_h0_10 hn_rd hf_rd_0 hn_tp hn_ra hn_li hf_li_2 hn_ho hn_dr hf_dr_2 hn_hd) (cwV 3 hts gX11_current_X11_openSettle rfl rfl rfl (by decide +kernel) ⟨Nat.le_of_ble_eq_true rfl, Nat.le_of_ble_eq_true rfl⟩) ⟨fun a U g mk q => by obtain ⟨q0, q1, qP, qK, qD⟩ := q; exact ⟨q0, q1, qP, va_K.moved (u := U) (U := U.calling g mk a) (Vm.Alike.refl U.vm) qK, qD⟩, va_recv hKc hPc (ci := 10) (q0 := 0) rfl rfl, fun U hU hW => ⟨rfl, by rw [hU], by rw [hU]; exact hPc, va_K.moved hW.alike hKc, hDc.weaken (fun _ _ _ _ => trivial)⟩⟩ rfl rfl hl.1 rfl (lv_room (Nat.le_of_ble_eq_true rfl)) dX11_current_4 ⟨Nat.le_of_ble_eq_true rfl, Nat.le_of_ble_eq_true rfl⟩) hS (fun q _ h => hFc q h) hFc (fun r_1 u t H1 locs ht hvm hw hB hz1 hk1 hS => ?_)
  obtain ⟨hP1, hK1, hD1⟩ := hB
  rw [ht] at hP1
  have hK1 := va_K.moved hvm.symm hK1
  obtain ⟨hP, hD⟩ := va_join (wr := []) (w1 := []) hP hD [0, 1, 2, 3, 4, 5, 6, 7] [] rfl rfl (by decide) (by decide) hk1 hFc hP1 hD1
  generalize H1 = H at hP hS ⊢
  have hP : va_P (dC, dI) vwCl [] H := hP
  have hD : va_D A [] := hD
  have er_1 : r_1 = 0 := hw
  subst er_1
  refine lv_if_ne (tgt := 12) hx hb dX11_current_7 (by decide) (fun c_2 => ?_) (fun c_2 => ?_)
  · exact absurd (by decide) c_2
  · refine lv_iconst (v := (-1)) hx hb dX11_current_10 (by decide) ?_
    have hpost : ((-1) : Int32) = (-1) := rfl
    have hP9 := hP.sub (ws' := []) [] rfl
    have hD9 := hD.sub (ws' := []) [] (by decide) rfl
    have hK9 := hK.sub (tys' := []) [] rfl
    exact W.iret (v := (-1)) hx hb hr (fun t ht hW => ⟨⟨(-1), (), rfl, hpost, by rw [ht]; exact hP9, va_K.moved hW.alike hK9, hD9⟩, hS.F ht⟩) hS.2.2 dX11_current_11
set_option maxHeartbeats 4000000 in
set_option maxRecDepth 100000 in
theorem k_X11_isEx (l : Launch) (dC : Nat → ClassId) (dI : Nat → Nat → Nat) (sz : Nat) (h0 : Nat) (fs_h0 : List Value) (rd : Nat) (fs_rd : List Value) (tp : Nat) (fs_tp : List Value) (ra : Nat) (fs_ra : List Value) (li : Nat) (fs_li : List Value) (ho : Nat) (fs_ho : List Value) (dr : Nat) (fs_dr : List Value) (hd : Nat) (fs_hd : List Value) (p0 : Int32) (p1 : Int32) (hn_h0 : fs_h0.length = 15) (hf_h0_0 : fs_h0[0]? = some (.ref rd)) (hf_h0_3 : fs_h0[3]? = some (.ref ra)) (hf_h0_8 : fs_h0[8]? = some (.ref li)) (hf_h0_9 : fs_h0[9]? = some (.ref dr)) (hf_h0_10 : fs_h0[10]? = some (.int 0)) (hn_rd : fs_rd.length = 5) (hf_rd_0 : fs_rd[0]? = some (.ref tp)) (hn_tp : fs_tp.length = 7) (hn_ra : fs_ra.length = 2) (hn_li : fs_li.length = 12) (hf_li_2 : fs_li[2]? = some (.ref ho)) (hn_ho : fs_ho.length = 2) (hn_dr : fs_dr.length = 12) (hf_dr_2 : fs_dr[2]? = some (.ref hd)) (hn_hd : fs_hd.length = 2) : Met l yX11_isEx wsX11_isEx ({ frames := 2, cells := 0, slots := 0, locals := 46 }) (va_Pc [.ref h0, .int p0, .int p1] (fun U => U.heap.size = sz ∧ va_P (dC, dI) vwCl [(h0, .inr (10, fs_h0)), (rd, .inr (6, fs_rd)), (tp, .inr (9, fs_tp)), (ra, .inr (5, fs_ra)), (li, .inr (3, fs_li)), (ho, .inr (4, fs_ho)), (dr, .inr (3, fs_dr)), (hd, .inr (4, fs_hd))] U.heap ∧ va_K (dC, dI) vwCl [] U ∧ va_D (fun _ => True) [(h0, .inr (10, fs_h0)), (rd, .inr (6, fs_rd)), (tp, .inr (9, fs_tp)), (ra, .inr (5, fs_ra)), (li, .inr (3, fs_li)), (ho, .inr (4, fs_ho)), (dr, .inr (3, fs_dr)), (hd, .inr (4, fs_hd))])) (va_Qi (fun (r : Int32) (_ : Unit) => r = (-1)) (fun _ t => va_P (dC, dI) vwCl [] t.heap ∧ va_K (dC, dI) vwCl [] t ∧ va_D (va_A [(h0, .inr (10, fs_h0)), (rd, .inr (6, fs_rd)), (tp, .inr (9, fs_tp)), (ra, .inr (5, fs_ra)), (li, .inr (3, fs_li)), (ho, .inr (4, fs_ho)), (dr, .inr (3, fs_dr)), (hd, .inr (4, fs_hd))] sz) []) (va_A [(h0, .inr (10, fs_h0)), (rd, .inr (6, fs_rd)), (tp, .inr (9, fs_tp)), (ra, .inr (5, fs_ra)), (li, .inr (3, fs_li)), (ho, .inr (4, fs_ho)), (dr, .inr (3, fs_dr)), (hd, .inr (4, fs_hd))] sz)) 0 0 (va_A [(h0, .inr (10, fs_h0)), (rd, .inr (6, fs_rd)), (tp, .inr (9, fs_tp)), (ra, .inr (5, fs_ra)), (li, .inr (3, fs_li)), (ho, .inr (4, fs_ho)), (dr, .inr (3, fs_dr)), (hd, .inr (4, fs_hd))] sz) := by
  refine Met.ofW (cc := cX11_isEx) (maxL := 3) (ret := (some .int)) (by decide) rfl ?_
  intro p e s m args below meth c s₁ B hml hv
  obtain ⟨rfl, hsz, hP, hK, hD0⟩ := hv
  have hx := B.exec
  have hb := B.bytes
  have hr := B.returns
  have hts := atoms_spec (ws := wsX11_isEx) B.pre
  have hown : s.vm.findClass RX11 = some m.cls := findClass_of_methodNamed B.named
  have hlocks := B.notSynchronized
  subst hsz
  have hD := hD0.self (sz := s.heap.size)
  generalize hAe : va_A [(h0, .inr (10, fs_h0)), (rd, .inr (6, fs_rd)), (tp, .inr (9, fs_tp)), (ra, .inr (5, fs_ra)), (li, .inr (3, fs_li)), (ho, .inr (4, fs_ho)), (dr, .inr (3, fs_dr)), (hd, .inr (4, fs_hd))] s.heap.size = A at hD ⊢
  have hA : ∀ q : Nat, s.heap.size ≤ q → A q := fun q h => by rw [← hAe]; exact Or.inr h
  have hS : va_S A s.heap s.heap [] := va_S.rf
  have hP : va_P (dC, dI) vwCl [(h0, .inr (10, fs_h0)), (rd, .inr (6, fs_rd)), (tp, .inr (9, fs_tp)), (ra, .inr (5, fs_ra)), (li, .inr (3, fs_li)), (ho, .inr (4, fs_ho)), (dr, .inr (3, fs_dr)), (hd, .inr (4, fs_hd))] s.heap := hP
  have hl := lv_entry ([.ref h0, .int p0, .int p1]) (n := 3) (Nat.le_of_ble_eq_true rfl)
  rw [lg_entry_eq]
  generalize (lg_sl ([.ref h0, .int p0, .int p1]) ++ List.replicate (3 - (lg_sl ([.ref h0, .int p0, .int p1])).length) Slot.unset).toArray = ls at hl ⊢
  have hl : lv_has ls 3 [(0, .ref h0), (1, .int p0), (2, .int p1)] := hl
  refine lv_aload_n hx hb dX11_isEx_0 rfl (lv_at hl 0 rfl) ?_
  refine lv_iload_n hx hb dX11_isEx_1 rfl (lv_at hl 1 rfl) ?_
  refine lv_iload_n hx hb dX11_isEx_2 rfl (lv_at hl 2 rfl) ?_
  refine lv_iconst (v := 1) hx hb dX11_isEx_3 (by decide) ?_
  have hPc := hP.sub (ws' := [(h0, .inr (10, fs_h0)), (rd, .inr (6, fs_rd)), (tp, .inr (9, fs_tp)), (ra, .inr (5, fs_ra)), (li, .inr (3, fs_li)), (ho, .inr (4, fs_ho)), (dr, .inr (3, fs_dr)), (hd, .inr (4, fs_hd))]) [0, 1, 2, 3, 4, 5, 6, 7] rfl
  have hDc := hD.sub (ws' := [(h0, .inr (10, fs_h0)), (rd, .inr (6, fs_rd)), (tp, .inr (9, fs_tp)), (ra, .inr (5, fs_ra)), (li, .inr (3, fs_li)), (ho, .inr (4, fs_ho)), (dr, .inr (3, fs_dr)), (hd, .inr (4, fs_hd))]) [0, 1, 2, 3, 4, 5, 6, 7] (by decide) rfl
  have hKc := hK.sub (tys' := []) [] rfl
  have hFc := va_free (wc := [(h0, .inr (10, fs_h0)), (rd, .inr (6, fs_rd)), (tp, .inr (9, fs_tp)), (ra, .inr (5, fs_ra)), (li, .inr (3, fs_li)), (ho, .inr (4, fs_ho)), (dr, .inr (3, fs_dr)), (hd, .inr (4, fs_hd))]) hD hS hA [0, 1, 2, 3, 4, 5, 6, 7] rfl
  refine va_calli (va_runV (As := [.int p0, .int p1, .int 1]) (rest := []) ⟨hx, hb, hml, hown, hts⟩ (k_X11_openSettle l dC dI s.heap.size h0 fs_h0 rd fs_rd tp fs_tp ra fs_ra li fs_li ho fs_ho dr fs_dr hd fs_hd p0 p1 1 hn_h0 hf_h0_0 hf_h0_3 hf_h0_8 hf_h0_9 hf_h0_10 hn_rd hf_rd_0 hn_tp hn_ra hn_li hf_li_2 hn_ho hn_dr hf_dr_2 hn_hd) (cwV 3 hts gX11_isEx_X11_openSettle rfl rfl rfl (by decide +kernel) ⟨Nat.le_of_ble_eq_true rfl, Nat.le_of_ble_eq_true rfl⟩) ⟨fun a U g mk q => by obtain ⟨q0, q1, qP, qK, qD⟩ := q; exact ⟨q0, q1, qP, va_K.moved (u := U) (U := U.calling g mk a) (Vm.Alike.refl U.vm) qK, qD⟩, va_recv hKc hPc (ci := 10) (q0 := 0) rfl rfl, fun U hU hW => ⟨rfl, by rw [hU], by rw [hU]; exact hPc, va_K.moved hW.alike hKc, hDc.weaken (fun _ _ _ _ => trivial)⟩⟩ rfl rfl hl.1 rfl (lv_room (Nat.le_of_ble_eq_true rfl)) dX11_isEx_4 ⟨Nat.le_of_ble_eq_true rfl, Nat.le_of_ble_eq_true rfl⟩) hS (fun q _ h => hFc q h) hFc (fun r_1 u t H1 locs ht hvm hw hB hz1 hk1 hS => ?_)
  obtain ⟨hP1, hK1, hD1⟩ := hB
  rw [ht] at hP1
  have hK1 := va_K.moved hvm.symm hK1
  obtain ⟨hP, hD⟩ := va_join (wr := []) (w1 := []) hP hD [0, 1, 2, 3, 4, 5, 6, 7] [] rfl rfl (by decide) (by decide) hk1 hFc hP1 hD1
  generalize H1 = H at hP hS ⊢
  have hP : va_P (dC, dI) vwCl [] H := hP
  have hD : va_D A [] := hD
  have er_1 : r_1 = 0 := hw
  subst er_1
  refine lv_if_ne (tgt := 12) hx hb dX11_isEx_7 (by decide) (fun c_2 => ?_) (fun c_2 => ?_)
  · exact absurd (by decide) c_2
  · refine lv_iconst (v := (-1)) hx hb dX11_isEx_10 (by decide) ?_
    have hpost : ((-1) : Int32) = (-1) := rfl
    have hP9 := hP.sub (ws' := []) [] rfl
    have hD9 := hD.sub (ws' := []) [] (by decide) rfl
    have hK9 := hK.sub (tys' := []) [] rfl
    exact W.iret (v := (-1)) hx hb hr (fun t ht hW => ⟨⟨(-1), (), rfl, hpost, by rw [ht]; exact hP9, va_K.moved hW.alike hK9, hD9⟩, hS.F ht⟩) hS.2.2 dX11_isEx_11
set_option maxHeartbeats 4000000 in
set_option maxRecDepth 100000 in
theorem k_X11_accrued (l : Launch) (dC : Nat → ClassId) (dI : Nat → Nat → Nat) (sz : Nat) (h0 : Nat) (fs_h0 : List Value) (rd : Nat) (fs_rd : List Value) (tp : Nat) (fs_tp : List Value) (ra : Nat) (fs_ra : List Value) (li : Nat) (fs_li : List Value) (ho : Nat) (fs_ho : List Value) (dr : Nat) (fs_dr : List Value) (hd : Nat) (fs_hd : List Value) (p0 : Int32) (p1 : Int32) (p2 : Int32) (hn_h0 : fs_h0.length = 15) (hf_h0_0 : fs_h0[0]? = some (.ref rd)) (hf_h0_3 : fs_h0[3]? = some (.ref ra)) (hf_h0_8 : fs_h0[8]? = some (.ref li)) (hf_h0_9 : fs_h0[9]? = some (.ref dr)) (hf_h0_10 : fs_h0[10]? = some (.int 0)) (hn_rd : fs_rd.length = 5) (hf_rd_0 : fs_rd[0]? = some (.ref tp)) (hn_tp : fs_tp.length = 7) (hn_ra : fs_ra.length = 2) (hn_li : fs_li.length = 12) (hf_li_2 : fs_li[2]? = some (.ref ho)) (hn_ho : fs_ho.length = 2) (hn_dr : fs_dr.length = 12) (hf_dr_2 : fs_dr[2]? = some (.ref hd)) (hn_hd : fs_hd.length = 2) : Met l yX11_accrued wsX11_accrued ({ frames := 2, cells := 0, slots := 0, locals := 46 }) (va_Pc [.ref h0, .int p0, .int p1, .int p2] (fun U => U.heap.size = sz ∧ va_P (dC, dI) vwCl [(h0, .inr (10, fs_h0)), (rd, .inr (6, fs_rd)), (tp, .inr (9, fs_tp)), (ra, .inr (5, fs_ra)), (li, .inr (3, fs_li)), (ho, .inr (4, fs_ho)), (dr, .inr (3, fs_dr)), (hd, .inr (4, fs_hd))] U.heap ∧ va_K (dC, dI) vwCl [] U ∧ va_D (fun _ => True) [(h0, .inr (10, fs_h0)), (rd, .inr (6, fs_rd)), (tp, .inr (9, fs_tp)), (ra, .inr (5, fs_ra)), (li, .inr (3, fs_li)), (ho, .inr (4, fs_ho)), (dr, .inr (3, fs_dr)), (hd, .inr (4, fs_hd))])) (va_Ql (fun (r : Int64) (_ : Unit) => r = (-9223372036854775808)) (fun _ t => va_P (dC, dI) vwCl [] t.heap ∧ va_K (dC, dI) vwCl [] t ∧ va_D (va_A [(h0, .inr (10, fs_h0)), (rd, .inr (6, fs_rd)), (tp, .inr (9, fs_tp)), (ra, .inr (5, fs_ra)), (li, .inr (3, fs_li)), (ho, .inr (4, fs_ho)), (dr, .inr (3, fs_dr)), (hd, .inr (4, fs_hd))] sz) []) (va_A [(h0, .inr (10, fs_h0)), (rd, .inr (6, fs_rd)), (tp, .inr (9, fs_tp)), (ra, .inr (5, fs_ra)), (li, .inr (3, fs_li)), (ho, .inr (4, fs_ho)), (dr, .inr (3, fs_dr)), (hd, .inr (4, fs_hd))] sz)) 0 0 (va_A [(h0, .inr (10, fs_h0)), (rd, .inr (6, fs_rd)), (tp, .inr (9, fs_tp)), (ra, .inr (5, fs_ra)), (li, .inr (3, fs_li)), (ho, .inr (4, fs_ho)), (dr, .inr (3, fs_dr)), (hd, .inr (4, fs_hd))] sz) := by
  refine Met.ofW (cc := cX11_accrued) (maxL := 4) (ret := (some .long)) (by decide) rfl ?_
  intro p e s m args below meth c s₁ B hml hv
  obtain ⟨rfl, hsz, hP, hK, hD0⟩ := hv
  have hx := B.exec
  have hb := B.bytes
  have hr := B.returns
  have hts := atoms_spec (ws := wsX11_accrued) B.pre
  have hown : s.vm.findClass RX11 = some m.cls := findClass_of_methodNamed B.named
  have hlocks := B.notSynchronized
  subst hsz
  have hD := hD0.self (sz := s.heap.size)
  generalize hAe : va_A [(h0, .inr (10, fs_h0)), (rd, .inr (6, fs_rd)), (tp, .inr (9, fs_tp)), (ra, .inr (5, fs_ra)), (li, .inr (3, fs_li)), (ho, .inr (4, fs_ho)), (dr, .inr (3, fs_dr)), (hd, .inr (4, fs_hd))] s.heap.size = A at hD ⊢
  have hA : ∀ q : Nat, s.heap.size ≤ q → A q := fun q h => by rw [← hAe]; exact Or.inr h
  have hS : va_S A s.heap s.heap [] := va_S.rf
  have hP : va_P (dC, dI) vwCl [(h0, .inr (10, fs_h0)), (rd, .inr (6, fs_rd)), (tp, .inr (9, fs_tp)), (ra, .inr (5, fs_ra)), (li, .inr (3, fs_li)), (ho, .inr (4, fs_ho)), (dr, .inr (3, fs_dr)), (hd, .inr (4, fs_hd))] s.heap := hP
  have hl := lv_entry ([.ref h0, .int p0, .int p1, .int p2]) (n := 4) (Nat.le_of_ble_eq_true rfl)
  rw [lg_entry_eq]
  generalize (lg_sl ([.ref h0, .int p0, .int p1, .int p2]) ++ List.replicate (4 - (lg_sl ([.ref h0, .int p0, .int p1, .int p2])).length) Slot.unset).toArray = ls at hl ⊢
  have hl : lv_has ls 4 [(0, .ref h0), (1, .int p0), (2, .int p1), (3, .int p2)] := hl
  refine lv_aload_n hx hb dX11_accrued_0 rfl (lv_at hl 0 rfl) ?_
  refine lv_iload_n hx hb dX11_accrued_1 rfl (lv_at hl 1 rfl) ?_
  refine lv_iload_n hx hb dX11_accrued_2 rfl (lv_at hl 2 rfl) ?_
  refine lv_iconst (v := 1) hx hb dX11_accrued_3 (by decide) ?_
  have hPc := hP.sub (ws' := [(h0, .inr (10, fs_h0)), (rd, .inr (6, fs_rd)), (tp, .inr (9, fs_tp)), (ra, .inr (5, fs_ra)), (li, .inr (3, fs_li)), (ho, .inr (4, fs_ho)), (dr, .inr (3, fs_dr)), (hd, .inr (4, fs_hd))]) [0, 1, 2, 3, 4, 5, 6, 7] rfl
  have hDc := hD.sub (ws' := [(h0, .inr (10, fs_h0)), (rd, .inr (6, fs_rd)), (tp, .inr (9, fs_tp)), (ra, .inr (5, fs_ra)), (li, .inr (3, fs_li)), (ho, .inr (4, fs_ho)), (dr, .inr (3, fs_dr)), (hd, .inr (4, fs_hd))]) [0, 1, 2, 3, 4, 5, 6, 7] (by decide) rfl
  have hKc := hK.sub (tys' := []) [] rfl
  have hFc := va_free (wc := [(h0, .inr (10, fs_h0)), (rd, .inr (6, fs_rd)), (tp, .inr (9, fs_tp)), (ra, .inr (5, fs_ra)), (li, .inr (3, fs_li)), (ho, .inr (4, fs_ho)), (dr, .inr (3, fs_dr)), (hd, .inr (4, fs_hd))]) hD hS hA [0, 1, 2, 3, 4, 5, 6, 7] rfl
  refine va_calli (va_runV (As := [.int p0, .int p1, .int 1]) (rest := []) ⟨hx, hb, hml, hown, hts⟩ (k_X11_openSettle l dC dI s.heap.size h0 fs_h0 rd fs_rd tp fs_tp ra fs_ra li fs_li ho fs_ho dr fs_dr hd fs_hd p0 p1 1 hn_h0 hf_h0_0 hf_h0_3 hf_h0_8 hf_h0_9 hf_h0_10 hn_rd hf_rd_0 hn_tp hn_ra hn_li hf_li_2 hn_ho hn_dr hf_dr_2 hn_hd) (cwV 3 hts gX11_accrued_X11_openSettle rfl rfl rfl (by decide +kernel) ⟨Nat.le_of_ble_eq_true rfl, Nat.le_of_ble_eq_true rfl⟩) ⟨fun a U g mk q => by obtain ⟨q0, q1, qP, qK, qD⟩ := q; exact ⟨q0, q1, qP, va_K.moved (u := U) (U := U.calling g mk a) (Vm.Alike.refl U.vm) qK, qD⟩, va_recv hKc hPc (ci := 10) (q0 := 0) rfl rfl, fun U hU hW => ⟨rfl, by rw [hU], by rw [hU]; exact hPc, va_K.moved hW.alike hKc, hDc.weaken (fun _ _ _ _ => trivial)⟩⟩ rfl rfl hl.1 rfl (lv_room (Nat.le_of_ble_eq_true rfl)) dX11_accrued_4 ⟨Nat.le_of_ble_eq_true rfl, Nat.le_of_ble_eq_true rfl⟩) hS (fun q _ h => hFc q h) hFc (fun r_1 u t H1 locs ht hvm hw hB hz1 hk1 hS => ?_)
  obtain ⟨hP1, hK1, hD1⟩ := hB
  rw [ht] at hP1
  have hK1 := va_K.moved hvm.symm hK1
  obtain ⟨hP, hD⟩ := va_join (wr := []) (w1 := []) hP hD [0, 1, 2, 3, 4, 5, 6, 7] [] rfl rfl (by decide) (by decide) hk1 hFc hP1 hD1
  generalize H1 = H at hP hS ⊢
  have hP : va_P (dC, dI) vwCl [] H := hP
  have hD : va_D A [] := hD
  have er_1 : r_1 = 0 := hw
  subst er_1
  refine lv_if_ne (tgt := 14) hx hb dX11_accrued_7 (by decide) (fun c_2 => ?_) (fun c_2 => ?_)
  · exact absurd (by decide) c_2
  · refine lv_ldc2 (v := (-9223372036854775808)) hx hb hown (hts (.constantLong RX11 256 (-9223372036854775808)) (by decide +kernel)) dX11_accrued_10 ?_
    have hpost : ((-9223372036854775808) : Int64) = (-9223372036854775808) := rfl
    have hP9 := hP.sub (ws' := []) [] rfl
    have hD9 := hD.sub (ws' := []) [] (by decide) rfl
    have hK9 := hK.sub (tys' := []) [] rfl
    exact W.lret (v := (-9223372036854775808)) hx hb hr (fun t ht hW => ⟨⟨(-9223372036854775808), (), rfl, hpost, by rw [ht]; exact hP9, va_K.moved hW.alike hK9, hD9⟩, hS.F ht⟩) hS.2.2 dX11_accrued_13
set_option maxHeartbeats 4000000 in
set_option maxRecDepth 100000 in
theorem k_X11_rest (l : Launch) (dC : Nat → ClassId) (dI : Nat → Nat → Nat) (sz : Nat) (h0 : Nat) (fs_h0 : List Value) (rd : Nat) (fs_rd : List Value) (tp : Nat) (fs_tp : List Value) (ra : Nat) (fs_ra : List Value) (li : Nat) (fs_li : List Value) (ho : Nat) (fs_ho : List Value) (dr : Nat) (fs_dr : List Value) (hd : Nat) (fs_hd : List Value) (p0 : Int32) (p1 : Int32) (p2 : Int32) (hn_h0 : fs_h0.length = 15) (hf_h0_0 : fs_h0[0]? = some (.ref rd)) (hf_h0_3 : fs_h0[3]? = some (.ref ra)) (hf_h0_8 : fs_h0[8]? = some (.ref li)) (hf_h0_9 : fs_h0[9]? = some (.ref dr)) (hf_h0_10 : fs_h0[10]? = some (.int 0)) (hn_rd : fs_rd.length = 5) (hf_rd_0 : fs_rd[0]? = some (.ref tp)) (hn_tp : fs_tp.length = 7) (hn_ra : fs_ra.length = 2) (hn_li : fs_li.length = 12) (hf_li_2 : fs_li[2]? = some (.ref ho)) (hn_ho : fs_ho.length = 2) (hn_dr : fs_dr.length = 12) (hf_dr_2 : fs_dr[2]? = some (.ref hd)) (hn_hd : fs_hd.length = 2) : Met l yX11_rest wsX11_rest ({ frames := 2, cells := 0, slots := 0, locals := 46 }) (va_Pc [.ref h0, .int p0, .int p1, .int p2] (fun U => U.heap.size = sz ∧ va_P (dC, dI) vwCl [(h0, .inr (10, fs_h0)), (rd, .inr (6, fs_rd)), (tp, .inr (9, fs_tp)), (ra, .inr (5, fs_ra)), (li, .inr (3, fs_li)), (ho, .inr (4, fs_ho)), (dr, .inr (3, fs_dr)), (hd, .inr (4, fs_hd))] U.heap ∧ va_K (dC, dI) vwCl [] U ∧ va_D (fun _ => True) [(h0, .inr (10, fs_h0)), (rd, .inr (6, fs_rd)), (tp, .inr (9, fs_tp)), (ra, .inr (5, fs_ra)), (li, .inr (3, fs_li)), (ho, .inr (4, fs_ho)), (dr, .inr (3, fs_dr)), (hd, .inr (4, fs_hd))])) (va_Ql (fun (r : Int64) (_ : Unit) => r = (-1)) (fun _ t => va_P (dC, dI) vwCl [] t.heap ∧ va_K (dC, dI) vwCl [] t ∧ va_D (va_A [(h0, .inr (10, fs_h0)), (rd, .inr (6, fs_rd)), (tp, .inr (9, fs_tp)), (ra, .inr (5, fs_ra)), (li, .inr (3, fs_li)), (ho, .inr (4, fs_ho)), (dr, .inr (3, fs_dr)), (hd, .inr (4, fs_hd))] sz) []) (va_A [(h0, .inr (10, fs_h0)), (rd, .inr (6, fs_rd)), (tp, .inr (9, fs_tp)), (ra, .inr (5, fs_ra)), (li, .inr (3, fs_li)), (ho, .inr (4, fs_ho)), (dr, .inr (3, fs_dr)), (hd, .inr (4, fs_hd))] sz)) 0 0 (va_A [(h0, .inr (10, fs_h0)), (rd, .inr (6, fs_rd)), (tp, .inr (9, fs_tp)), (ra, .inr (5, fs_ra)), (li, .inr (3, fs_li)), (ho, .inr (4, fs_ho)), (dr, .inr (3, fs_dr)), (hd, .inr (4, fs_hd))] sz) := by
  refine Met.ofW (cc := cX11_rest) (maxL := 4) (ret := (some .long)) (by decide) rfl ?_
  intro p e s m args below meth c s₁ B hml hv
  obtain ⟨rfl, hsz, hP, hK, hD0⟩ := hv
  have hx := B.exec
  have hb := B.bytes
  have hr := B.returns
  have hts := atoms_spec (ws := wsX11_rest) B.pre
  have hown : s.vm.findClass RX11 = some m.cls := findClass_of_methodNamed B.named
  have hlocks := B.notSynchronized
  subst hsz
  have hD := hD0.self (sz := s.heap.size)
  generalize hAe : va_A [(h0, .inr (10, fs_h0)), (rd, .inr (6, fs_rd)), (tp, .inr (9, fs_tp)), (ra, .inr (5, fs_ra)), (li, .inr (3, fs_li)), (ho, .inr (4, fs_ho)), (dr, .inr (3, fs_dr)), (hd, .inr (4, fs_hd))] s.heap.size = A at hD ⊢
  have hA : ∀ q : Nat, s.heap.size ≤ q → A q := fun q h => by rw [← hAe]; exact Or.inr h
  have hS : va_S A s.heap s.heap [] := va_S.rf
  have hP : va_P (dC, dI) vwCl [(h0, .inr (10, fs_h0)), (rd, .inr (6, fs_rd)), (tp, .inr (9, fs_tp)), (ra, .inr (5, fs_ra)), (li, .inr (3, fs_li)), (ho, .inr (4, fs_ho)), (dr, .inr (3, fs_dr)), (hd, .inr (4, fs_hd))] s.heap := hP
  have hl := lv_entry ([.ref h0, .int p0, .int p1, .int p2]) (n := 4) (Nat.le_of_ble_eq_true rfl)
  rw [lg_entry_eq]
  generalize (lg_sl ([.ref h0, .int p0, .int p1, .int p2]) ++ List.replicate (4 - (lg_sl ([.ref h0, .int p0, .int p1, .int p2])).length) Slot.unset).toArray = ls at hl ⊢
  have hl : lv_has ls 4 [(0, .ref h0), (1, .int p0), (2, .int p1), (3, .int p2)] := hl
  refine lv_aload_n hx hb dX11_rest_0 rfl (lv_at hl 0 rfl) ?_
  refine lv_iload_n hx hb dX11_rest_1 rfl (lv_at hl 1 rfl) ?_
  refine lv_iload_n hx hb dX11_rest_2 rfl (lv_at hl 2 rfl) ?_
  refine lv_iconst (v := 1) hx hb dX11_rest_3 (by decide) ?_
  have hPc := hP.sub (ws' := [(h0, .inr (10, fs_h0)), (rd, .inr (6, fs_rd)), (tp, .inr (9, fs_tp)), (ra, .inr (5, fs_ra)), (li, .inr (3, fs_li)), (ho, .inr (4, fs_ho)), (dr, .inr (3, fs_dr)), (hd, .inr (4, fs_hd))]) [0, 1, 2, 3, 4, 5, 6, 7] rfl
  have hDc := hD.sub (ws' := [(h0, .inr (10, fs_h0)), (rd, .inr (6, fs_rd)), (tp, .inr (9, fs_tp)), (ra, .inr (5, fs_ra)), (li, .inr (3, fs_li)), (ho, .inr (4, fs_ho)), (dr, .inr (3, fs_dr)), (hd, .inr (4, fs_hd))]) [0, 1, 2, 3, 4, 5, 6, 7] (by decide) rfl
  have hKc := hK.sub (tys' := []) [] rfl
  have hFc := va_free (wc := [(h0, .inr (10, fs_h0)), (rd, .inr (6, fs_rd)), (tp, .inr (9, fs_tp)), (ra, .inr (5, fs_ra)), (li, .inr (3, fs_li)), (ho, .inr (4, fs_ho)), (dr, .inr (3, fs_dr)), (hd, .inr (4, fs_hd))]) hD hS hA [0, 1, 2, 3, 4, 5, 6, 7] rfl
  refine va_calli (va_runV (As := [.int p0, .int p1, .int 1]) (rest := []) ⟨hx, hb, hml, hown, hts⟩ (k_X11_openSettle l dC dI s.heap.size h0 fs_h0 rd fs_rd tp fs_tp ra fs_ra li fs_li ho fs_ho dr fs_dr hd fs_hd p0 p1 1 hn_h0 hf_h0_0 hf_h0_3 hf_h0_8 hf_h0_9 hf_h0_10 hn_rd hf_rd_0 hn_tp hn_ra hn_li hf_li_2 hn_ho hn_dr hf_dr_2 hn_hd) (cwV 3 hts gX11_rest_X11_openSettle rfl rfl rfl (by decide +kernel) ⟨Nat.le_of_ble_eq_true rfl, Nat.le_of_ble_eq_true rfl⟩) ⟨fun a U g mk q => by obtain ⟨q0, q1, qP, qK, qD⟩ := q; exact ⟨q0, q1, qP, va_K.moved (u := U) (U := U.calling g mk a) (Vm.Alike.refl U.vm) qK, qD⟩, va_recv hKc hPc (ci := 10) (q0 := 0) rfl rfl, fun U hU hW => ⟨rfl, by rw [hU], by rw [hU]; exact hPc, va_K.moved hW.alike hKc, hDc.weaken (fun _ _ _ _ => trivial)⟩⟩ rfl rfl hl.1 rfl (lv_room (Nat.le_of_ble_eq_true rfl)) dX11_rest_4 ⟨Nat.le_of_ble_eq_true rfl, Nat.le_of_ble_eq_true rfl⟩) hS (fun q _ h => hFc q h) hFc (fun r_1 u t H1 locs ht hvm hw hB hz1 hk1 hS => ?_)
  obtain ⟨hP1, hK1, hD1⟩ := hB
  rw [ht] at hP1
  have hK1 := va_K.moved hvm.symm hK1
  obtain ⟨hP, hD⟩ := va_join (wr := []) (w1 := []) hP hD [0, 1, 2, 3, 4, 5, 6, 7] [] rfl rfl (by decide) (by decide) hk1 hFc hP1 hD1
  generalize H1 = H at hP hS ⊢
  have hP : va_P (dC, dI) vwCl [] H := hP
  have hD : va_D A [] := hD
  have er_1 : r_1 = 0 := hw
  subst er_1
  refine lv_if_ne (tgt := 14) hx hb dX11_rest_7 (by decide) (fun c_2 => ?_) (fun c_2 => ?_)
  · exact absurd (by decide) c_2
  · refine lv_ldc2 (v := (-1)) hx hb hown (hts (.constantLong RX11 261 (-1)) (by decide +kernel)) dX11_rest_10 ?_
    have hpost : ((-1) : Int64) = (-1) := rfl
    have hP9 := hP.sub (ws' := []) [] rfl
    have hD9 := hD.sub (ws' := []) [] (by decide) rfl
    have hK9 := hK.sub (tys' := []) [] rfl
    exact W.lret (v := (-1)) hx hb hr (fun t ht hW => ⟨⟨(-1), (), rfl, hpost, by rw [ht]; exact hP9, va_K.moved hW.alike hK9, hD9⟩, hS.F ht⟩) hS.2.2 dX11_rest_13
set_option maxHeartbeats 4000000 in
set_option maxRecDepth 100000 in
theorem k_X11_dirty (l : Launch) (dC : Nat → ClassId) (dI : Nat → Nat → Nat) (sz : Nat) (h0 : Nat) (fs_h0 : List Value) (rd : Nat) (fs_rd : List Value) (tp : Nat) (fs_tp : List Value) (ra : Nat) (fs_ra : List Value) (li : Nat) (fs_li : List Value) (ho : Nat) (fs_ho : List Value) (dr : Nat) (fs_dr : List Value) (hd : Nat) (fs_hd : List Value) (p0 : Int32) (p1 : Int32) (p2 : Int32) (hn_h0 : fs_h0.length = 15) (hf_h0_0 : fs_h0[0]? = some (.ref rd)) (hf_h0_3 : fs_h0[3]? = some (.ref ra)) (hf_h0_8 : fs_h0[8]? = some (.ref li)) (hf_h0_9 : fs_h0[9]? = some (.ref dr)) (hf_h0_10 : fs_h0[10]? = some (.int 0)) (hn_rd : fs_rd.length = 5) (hf_rd_0 : fs_rd[0]? = some (.ref tp)) (hn_tp : fs_tp.length = 7) (hn_ra : fs_ra.length = 2) (hn_li : fs_li.length = 12) (hf_li_2 : fs_li[2]? = some (.ref ho)) (hn_ho : fs_ho.length = 2) (hn_dr : fs_dr.length = 12) (hf_dr_2 : fs_dr[2]? = some (.ref hd)) (hn_hd : fs_hd.length = 2) : Met l yX11_dirty wsX11_dirty ({ frames := 2, cells := 0, slots := 0, locals := 46 }) (va_Pc [.ref h0, .int p0, .int p1, .int p2] (fun U => U.heap.size = sz ∧ va_P (dC, dI) vwCl [(h0, .inr (10, fs_h0)), (rd, .inr (6, fs_rd)), (tp, .inr (9, fs_tp)), (ra, .inr (5, fs_ra)), (li, .inr (3, fs_li)), (ho, .inr (4, fs_ho)), (dr, .inr (3, fs_dr)), (hd, .inr (4, fs_hd))] U.heap ∧ va_K (dC, dI) vwCl [] U ∧ va_D (fun _ => True) [(h0, .inr (10, fs_h0)), (rd, .inr (6, fs_rd)), (tp, .inr (9, fs_tp)), (ra, .inr (5, fs_ra)), (li, .inr (3, fs_li)), (ho, .inr (4, fs_ho)), (dr, .inr (3, fs_dr)), (hd, .inr (4, fs_hd))])) (va_Ql (fun (r : Int64) (_ : Unit) => r = (-9223372036854775808)) (fun _ t => va_P (dC, dI) vwCl [] t.heap ∧ va_K (dC, dI) vwCl [] t ∧ va_D (va_A [(h0, .inr (10, fs_h0)), (rd, .inr (6, fs_rd)), (tp, .inr (9, fs_tp)), (ra, .inr (5, fs_ra)), (li, .inr (3, fs_li)), (ho, .inr (4, fs_ho)), (dr, .inr (3, fs_dr)), (hd, .inr (4, fs_hd))] sz) []) (va_A [(h0, .inr (10, fs_h0)), (rd, .inr (6, fs_rd)), (tp, .inr (9, fs_tp)), (ra, .inr (5, fs_ra)), (li, .inr (3, fs_li)), (ho, .inr (4, fs_ho)), (dr, .inr (3, fs_dr)), (hd, .inr (4, fs_hd))] sz)) 0 0 (va_A [(h0, .inr (10, fs_h0)), (rd, .inr (6, fs_rd)), (tp, .inr (9, fs_tp)), (ra, .inr (5, fs_ra)), (li, .inr (3, fs_li)), (ho, .inr (4, fs_ho)), (dr, .inr (3, fs_dr)), (hd, .inr (4, fs_hd))] sz) := by
  refine Met.ofW (cc := cX11_dirty) (maxL := 4) (ret := (some .long)) (by decide) rfl ?_
  intro p e s m args below meth c s₁ B hml hv
  obtain ⟨rfl, hsz, hP, hK, hD0⟩ := hv
  have hx := B.exec
  have hb := B.bytes
  have hr := B.returns
  have hts := atoms_spec (ws := wsX11_dirty) B.pre
  have hown : s.vm.findClass RX11 = some m.cls := findClass_of_methodNamed B.named
  have hlocks := B.notSynchronized
  subst hsz
  have hD := hD0.self (sz := s.heap.size)
  generalize hAe : va_A [(h0, .inr (10, fs_h0)), (rd, .inr (6, fs_rd)), (tp, .inr (9, fs_tp)), (ra, .inr (5, fs_ra)), (li, .inr (3, fs_li)), (ho, .inr (4, fs_ho)), (dr, .inr (3, fs_dr)), (hd, .inr (4, fs_hd))] s.heap.size = A at hD ⊢
  have hA : ∀ q : Nat, s.heap.size ≤ q → A q := fun q h => by rw [← hAe]; exact Or.inr h
  have hS : va_S A s.heap s.heap [] := va_S.rf
  have hP : va_P (dC, dI) vwCl [(h0, .inr (10, fs_h0)), (rd, .inr (6, fs_rd)), (tp, .inr (9, fs_tp)), (ra, .inr (5, fs_ra)), (li, .inr (3, fs_li)), (ho, .inr (4, fs_ho)), (dr, .inr (3, fs_dr)), (hd, .inr (4, fs_hd))] s.heap := hP
  have hl := lv_entry ([.ref h0, .int p0, .int p1, .int p2]) (n := 4) (Nat.le_of_ble_eq_true rfl)
  rw [lg_entry_eq]
  generalize (lg_sl ([.ref h0, .int p0, .int p1, .int p2]) ++ List.replicate (4 - (lg_sl ([.ref h0, .int p0, .int p1, .int p2])).length) Slot.unset).toArray = ls at hl ⊢
  have hl : lv_has ls 4 [(0, .ref h0), (1, .int p0), (2, .int p1), (3, .int p2)] := hl
  refine lv_aload_n hx hb dX11_dirty_0 rfl (lv_at hl 0 rfl) ?_
  refine lv_iload_n hx hb dX11_dirty_1 rfl (lv_at hl 1 rfl) ?_
  refine lv_iload_n hx hb dX11_dirty_2 rfl (lv_at hl 2 rfl) ?_
  refine lv_iload_n hx hb dX11_dirty_3 rfl (lv_at hl 3 rfl) ?_
  have hPc := hP.sub (ws' := []) [] rfl
  have hDc := hD.sub (ws' := []) [] (by decide) rfl
  have hKc := hK.sub (tys' := []) [] rfl
  have hFc := va_free (wc := []) hD hS hA [] rfl
  refine va_calli (va_runS (As := [.int p2]) (rest := [.int p1, .int p0, .ref h0]) ⟨hx, hb, hml, hown, hts⟩ (k_X11_arePoints l dC dI s.heap.size p2) (va_cwS 1 hts gX11_dirty_X11_arePoints rfl rfl rfl (by decide +kernel) ⟨Nat.le_of_ble_eq_true rfl, Nat.le_of_ble_eq_true rfl⟩) ⟨fun a U g mk q => by obtain ⟨q0, q1, qP, qK, qD⟩ := q; exact ⟨q0, q1, qP, va_K.moved (u := U) (U := U.calling g mk a) (Vm.Alike.refl U.vm) qK, qD⟩, fun U hU hW => ⟨rfl, by rw [hU], by rw [hU]; exact hPc, va_K.moved hW.alike hKc, hDc.weaken (fun _ _ _ _ => trivial)⟩⟩ rfl rfl hl.1 rfl (lv_room (Nat.le_of_ble_eq_true rfl)) dX11_dirty_4 ⟨Nat.le_of_ble_eq_true rfl, Nat.le_of_ble_eq_true rfl⟩) hS (fun q _ h => hFc q h) hFc (fun r_1 u t H1 locs ht hvm hw hB hz1 hk1 hS => ?_)
  obtain ⟨hP1, hK1, hD1⟩ := hB
  rw [ht] at hP1
  have hK1 := va_K.moved hvm.symm hK1
  obtain ⟨hP, hD⟩ := va_join (wr := [(h0, .inr (10, fs_h0)), (rd, .inr (6, fs_rd)), (tp, .inr (9, fs_tp)), (ra, .inr (5, fs_ra)), (li, .inr (3, fs_li)), (ho, .inr (4, fs_ho)), (dr, .inr (3, fs_dr)), (hd, .inr (4, fs_hd))]) (w1 := []) hP hD [] [0, 1, 2, 3, 4, 5, 6, 7] rfl rfl (by decide) (by decide) hk1 hFc hP1 hD1
  generalize H1 = H at hP hS ⊢
  have hP : va_P (dC, dI) vwCl [(h0, .inr (10, fs_h0)), (rd, .inr (6, fs_rd)), (tp, .inr (9, fs_tp)), (ra, .inr (5, fs_ra)), (li, .inr (3, fs_li)), (ho, .inr (4, fs_ho)), (dr, .inr (3, fs_dr)), (hd, .inr (4, fs_hd))] H := hP
  have hD : va_D A [(h0, .inr (10, fs_h0)), (rd, .inr (6, fs_rd)), (tp, .inr (9, fs_tp)), (ra, .inr (5, fs_ra)), (li, .inr (3, fs_li)), (ho, .inr (4, fs_ho)), (dr, .inr (3, fs_dr)), (hd, .inr (4, fs_hd))] := hD
  have er_1 : r_1 = f_X11_arePoints p2 := hw
  have hPc := hP.sub (ws' := [(h0, .inr (10, fs_h0)), (rd, .inr (6, fs_rd)), (tp, .inr (9, fs_tp)), (ra, .inr (5, fs_ra)), (li, .inr (3, fs_li)), (ho, .inr (4, fs_ho)), (dr, .inr (3, fs_dr)), (hd, .inr (4, fs_hd))]) [0, 1, 2, 3, 4, 5, 6, 7] rfl
  have hDc := hD.sub (ws' := [(h0, .inr (10, fs_h0)), (rd, .inr (6, fs_rd)), (tp, .inr (9, fs_tp)), (ra, .inr (5, fs_ra)), (li, .inr (3, fs_li)), (ho, .inr (4, fs_ho)), (dr, .inr (3, fs_dr)), (hd, .inr (4, fs_hd))]) [0, 1, 2, 3, 4, 5, 6, 7] (by decide) rfl
  have hKc := hK.sub (tys' := []) [] rfl
  have hFc := va_free (wc := [(h0, .inr (10, fs_h0)), (rd, .inr (6, fs_rd)), (tp, .inr (9, fs_tp)), (ra, .inr (5, fs_ra)), (li, .inr (3, fs_li)), (ho, .inr (4, fs_ho)), (dr, .inr (3, fs_dr)), (hd, .inr (4, fs_hd))]) hD hS hA [0, 1, 2, 3, 4, 5, 6, 7] rfl
  refine va_calli (va_runV (As := [.int p0, .int p1, .int r_1]) (rest := []) ⟨hx, hb, hml, hown, hts⟩ (k_X11_openSettle l dC dI H.size h0 fs_h0 rd fs_rd tp fs_tp ra fs_ra li fs_li ho fs_ho dr fs_dr hd fs_hd p0 p1 r_1 hn_h0 hf_h0_0 hf_h0_3 hf_h0_8 hf_h0_9 hf_h0_10 hn_rd hf_rd_0 hn_tp hn_ra hn_li hf_li_2 hn_ho hn_dr hf_dr_2 hn_hd) (cwV 3 hts gX11_dirty_X11_openSettle rfl rfl rfl (by decide +kernel) ⟨Nat.le_of_ble_eq_true rfl, Nat.le_of_ble_eq_true rfl⟩) ⟨fun a U g mk q => by obtain ⟨q0, q1, qP, qK, qD⟩ := q; exact ⟨q0, q1, qP, va_K.moved (u := U) (U := U.calling g mk a) (Vm.Alike.refl U.vm) qK, qD⟩, va_recv hKc hPc (ci := 10) (q0 := 0) rfl rfl, fun U hU hW => ⟨rfl, by rw [hU], by rw [hU]; exact hPc, va_K.moved hW.alike hKc, hDc.weaken (fun _ _ _ _ => trivial)⟩⟩ rfl rfl hl.1 rfl (lv_room (Nat.le_of_ble_eq_true rfl)) dX11_dirty_7 ⟨Nat.le_of_ble_eq_true rfl, Nat.le_of_ble_eq_true rfl⟩) hS (fun q _ h => hFc q h) hFc (fun r_2 u t H1 locs ht hvm hw hB hz1 hk1 hS => ?_)
  obtain ⟨hP1, hK1, hD1⟩ := hB
  rw [ht] at hP1
  have hK1 := va_K.moved hvm.symm hK1
  obtain ⟨hP, hD⟩ := va_join (wr := []) (w1 := []) hP hD [0, 1, 2, 3, 4, 5, 6, 7] [] rfl rfl (by decide) (by decide) hk1 hFc hP1 hD1
  generalize H1 = H at hP hS ⊢
  have hP : va_P (dC, dI) vwCl [] H := hP
  have hD : va_D A [] := hD
  have er_2 : r_2 = 0 := hw
  subst er_2
  refine lv_if_ne (tgt := 17) hx hb dX11_dirty_10 (by decide) (fun c_3 => ?_) (fun c_3 => ?_)
  · exact absurd (by decide) c_3
  · refine lv_ldc2 (v := (-9223372036854775808)) hx hb hown (hts (.constantLong RX11 256 (-9223372036854775808)) (by decide +kernel)) dX11_dirty_13 ?_
    have hpost : ((-9223372036854775808) : Int64) = (-9223372036854775808) := rfl
    have hP9 := hP.sub (ws' := []) [] rfl
    have hD9 := hD.sub (ws' := []) [] (by decide) rfl
    have hK9 := hK.sub (tys' := []) [] rfl
    exact W.lret (v := (-9223372036854775808)) hx hb hr (fun t ht hW => ⟨⟨(-9223372036854775808), (), rfl, hpost, by rw [ht]; exact hP9, va_K.moved hW.alike hK9, hD9⟩, hS.F ht⟩) hS.2.2 dX11_dirty_16
set_option maxHeartbeats 4000000 in
set_option maxRecDepth 100000 in
theorem k_X11_clean (l : Launch) (dC : Nat → ClassId) (dI : Nat → Nat → Nat) (sz : Nat) (h0 : Nat) (fs_h0 : List Value) (rd : Nat) (fs_rd : List Value) (tp : Nat) (fs_tp : List Value) (ra : Nat) (fs_ra : List Value) (li : Nat) (fs_li : List Value) (ho : Nat) (fs_ho : List Value) (dr : Nat) (fs_dr : List Value) (hd : Nat) (fs_hd : List Value) (p0 : Int32) (p1 : Int32) (p2 : Int32) (hn_h0 : fs_h0.length = 15) (hf_h0_0 : fs_h0[0]? = some (.ref rd)) (hf_h0_3 : fs_h0[3]? = some (.ref ra)) (hf_h0_8 : fs_h0[8]? = some (.ref li)) (hf_h0_9 : fs_h0[9]? = some (.ref dr)) (hf_h0_10 : fs_h0[10]? = some (.int 0)) (hn_rd : fs_rd.length = 5) (hf_rd_0 : fs_rd[0]? = some (.ref tp)) (hn_tp : fs_tp.length = 7) (hn_ra : fs_ra.length = 2) (hn_li : fs_li.length = 12) (hf_li_2 : fs_li[2]? = some (.ref ho)) (hn_ho : fs_ho.length = 2) (hn_dr : fs_dr.length = 12) (hf_dr_2 : fs_dr[2]? = some (.ref hd)) (hn_hd : fs_hd.length = 2) : Met l yX11_clean wsX11_clean ({ frames := 2, cells := 0, slots := 0, locals := 46 }) (va_Pc [.ref h0, .int p0, .int p1, .int p2] (fun U => U.heap.size = sz ∧ va_P (dC, dI) vwCl [(h0, .inr (10, fs_h0)), (rd, .inr (6, fs_rd)), (tp, .inr (9, fs_tp)), (ra, .inr (5, fs_ra)), (li, .inr (3, fs_li)), (ho, .inr (4, fs_ho)), (dr, .inr (3, fs_dr)), (hd, .inr (4, fs_hd))] U.heap ∧ va_K (dC, dI) vwCl [] U ∧ va_D (fun _ => True) [(h0, .inr (10, fs_h0)), (rd, .inr (6, fs_rd)), (tp, .inr (9, fs_tp)), (ra, .inr (5, fs_ra)), (li, .inr (3, fs_li)), (ho, .inr (4, fs_ho)), (dr, .inr (3, fs_dr)), (hd, .inr (4, fs_hd))])) (va_Ql (fun (r : Int64) (_ : Unit) => r = (-9223372036854775808)) (fun _ t => va_P (dC, dI) vwCl [] t.heap ∧ va_K (dC, dI) vwCl [] t ∧ va_D (va_A [(h0, .inr (10, fs_h0)), (rd, .inr (6, fs_rd)), (tp, .inr (9, fs_tp)), (ra, .inr (5, fs_ra)), (li, .inr (3, fs_li)), (ho, .inr (4, fs_ho)), (dr, .inr (3, fs_dr)), (hd, .inr (4, fs_hd))] sz) []) (va_A [(h0, .inr (10, fs_h0)), (rd, .inr (6, fs_rd)), (tp, .inr (9, fs_tp)), (ra, .inr (5, fs_ra)), (li, .inr (3, fs_li)), (ho, .inr (4, fs_ho)), (dr, .inr (3, fs_dr)), (hd, .inr (4, fs_hd))] sz)) 0 0 (va_A [(h0, .inr (10, fs_h0)), (rd, .inr (6, fs_rd)), (tp, .inr (9, fs_tp)), (ra, .inr (5, fs_ra)), (li, .inr (3, fs_li)), (ho, .inr (4, fs_ho)), (dr, .inr (3, fs_dr)), (hd, .inr (4, fs_hd))] sz) := by
  refine Met.ofW (cc := cX11_clean) (maxL := 4) (ret := (some .long)) (by decide) rfl ?_
  intro p e s m args below meth c s₁ B hml hv
  obtain ⟨rfl, hsz, hP, hK, hD0⟩ := hv
  have hx := B.exec
  have hb := B.bytes
  have hr := B.returns
  have hts := atoms_spec (ws := wsX11_clean) B.pre
  have hown : s.vm.findClass RX11 = some m.cls := findClass_of_methodNamed B.named
  have hlocks := B.notSynchronized
  subst hsz
  have hD := hD0.self (sz := s.heap.size)
  generalize hAe : va_A [(h0, .inr (10, fs_h0)), (rd, .inr (6, fs_rd)), (tp, .inr (9, fs_tp)), (ra, .inr (5, fs_ra)), (li, .inr (3, fs_li)), (ho, .inr (4, fs_ho)), (dr, .inr (3, fs_dr)), (hd, .inr (4, fs_hd))] s.heap.size = A at hD ⊢
  have hA : ∀ q : Nat, s.heap.size ≤ q → A q := fun q h => by rw [← hAe]; exact Or.inr h
  have hS : va_S A s.heap s.heap [] := va_S.rf
  have hP : va_P (dC, dI) vwCl [(h0, .inr (10, fs_h0)), (rd, .inr (6, fs_rd)), (tp, .inr (9, fs_tp)), (ra, .inr (5, fs_ra)), (li, .inr (3, fs_li)), (ho, .inr (4, fs_ho)), (dr, .inr (3, fs_dr)), (hd, .inr (4, fs_hd))] s.heap := hP
  have hl := lv_entry ([.ref h0, .int p0, .int p1, .int p2]) (n := 4) (Nat.le_of_ble_eq_true rfl)
  rw [lg_entry_eq]
  generalize (lg_sl ([.ref h0, .int p0, .int p1, .int p2]) ++ List.replicate (4 - (lg_sl ([.ref h0, .int p0, .int p1, .int p2])).length) Slot.unset).toArray = ls at hl ⊢
  have hl : lv_has ls 4 [(0, .ref h0), (1, .int p0), (2, .int p1), (3, .int p2)] := hl
  refine lv_aload_n hx hb dX11_clean_0 rfl (lv_at hl 0 rfl) ?_
  refine lv_iload_n hx hb dX11_clean_1 rfl (lv_at hl 1 rfl) ?_
  refine lv_iload_n hx hb dX11_clean_2 rfl (lv_at hl 2 rfl) ?_
  refine lv_iload_n hx hb dX11_clean_3 rfl (lv_at hl 3 rfl) ?_
  have hPc := hP.sub (ws' := []) [] rfl
  have hDc := hD.sub (ws' := []) [] (by decide) rfl
  have hKc := hK.sub (tys' := []) [] rfl
  have hFc := va_free (wc := []) hD hS hA [] rfl
  refine va_calli (va_runS (As := [.int p2]) (rest := [.int p1, .int p0, .ref h0]) ⟨hx, hb, hml, hown, hts⟩ (k_X11_arePoints l dC dI s.heap.size p2) (va_cwS 1 hts gX11_clean_X11_arePoints rfl rfl rfl (by decide +kernel) ⟨Nat.le_of_ble_eq_true rfl, Nat.le_of_ble_eq_true rfl⟩) ⟨fun a U g mk q => by obtain ⟨q0, q1, qP, qK, qD⟩ := q; exact ⟨q0, q1, qP, va_K.moved (u := U) (U := U.calling g mk a) (Vm.Alike.refl U.vm) qK, qD⟩, fun U hU hW => ⟨rfl, by rw [hU], by rw [hU]; exact hPc, va_K.moved hW.alike hKc, hDc.weaken (fun _ _ _ _ => trivial)⟩⟩ rfl rfl hl.1 rfl (lv_room (Nat.le_of_ble_eq_true rfl)) dX11_clean_4 ⟨Nat.le_of_ble_eq_true rfl, Nat.le_of_ble_eq_true rfl⟩) hS (fun q _ h => hFc q h) hFc (fun r_1 u t H1 locs ht hvm hw hB hz1 hk1 hS => ?_)
  obtain ⟨hP1, hK1, hD1⟩ := hB
  rw [ht] at hP1
  have hK1 := va_K.moved hvm.symm hK1
  obtain ⟨hP, hD⟩ := va_join (wr := [(h0, .inr (10, fs_h0)), (rd, .inr (6, fs_rd)), (tp, .inr (9, fs_tp)), (ra, .inr (5, fs_ra)), (li, .inr (3, fs_li)), (ho, .inr (4, fs_ho)), (dr, .inr (3, fs_dr)), (hd, .inr (4, fs_hd))]) (w1 := []) hP hD [] [0, 1, 2, 3, 4, 5, 6, 7] rfl rfl (by decide) (by decide) hk1 hFc hP1 hD1
  generalize H1 = H at hP hS ⊢
  have hP : va_P (dC, dI) vwCl [(h0, .inr (10, fs_h0)), (rd, .inr (6, fs_rd)), (tp, .inr (9, fs_tp)), (ra, .inr (5, fs_ra)), (li, .inr (3, fs_li)), (ho, .inr (4, fs_ho)), (dr, .inr (3, fs_dr)), (hd, .inr (4, fs_hd))] H := hP
  have hD : va_D A [(h0, .inr (10, fs_h0)), (rd, .inr (6, fs_rd)), (tp, .inr (9, fs_tp)), (ra, .inr (5, fs_ra)), (li, .inr (3, fs_li)), (ho, .inr (4, fs_ho)), (dr, .inr (3, fs_dr)), (hd, .inr (4, fs_hd))] := hD
  have er_1 : r_1 = f_X11_arePoints p2 := hw
  have hPc := hP.sub (ws' := [(h0, .inr (10, fs_h0)), (rd, .inr (6, fs_rd)), (tp, .inr (9, fs_tp)), (ra, .inr (5, fs_ra)), (li, .inr (3, fs_li)), (ho, .inr (4, fs_ho)), (dr, .inr (3, fs_dr)), (hd, .inr (4, fs_hd))]) [0, 1, 2, 3, 4, 5, 6, 7] rfl
  have hDc := hD.sub (ws' := [(h0, .inr (10, fs_h0)), (rd, .inr (6, fs_rd)), (tp, .inr (9, fs_tp)), (ra, .inr (5, fs_ra)), (li, .inr (3, fs_li)), (ho, .inr (4, fs_ho)), (dr, .inr (3, fs_dr)), (hd, .inr (4, fs_hd))]) [0, 1, 2, 3, 4, 5, 6, 7] (by decide) rfl
  have hKc := hK.sub (tys' := []) [] rfl
  have hFc := va_free (wc := [(h0, .inr (10, fs_h0)), (rd, .inr (6, fs_rd)), (tp, .inr (9, fs_tp)), (ra, .inr (5, fs_ra)), (li, .inr (3, fs_li)), (ho, .inr (4, fs_ho)), (dr, .inr (3, fs_dr)), (hd, .inr (4, fs_hd))]) hD hS hA [0, 1, 2, 3, 4, 5, 6, 7] rfl
  refine va_calli (va_runV (As := [.int p0, .int p1, .int r_1]) (rest := []) ⟨hx, hb, hml, hown, hts⟩ (k_X11_openSettle l dC dI H.size h0 fs_h0 rd fs_rd tp fs_tp ra fs_ra li fs_li ho fs_ho dr fs_dr hd fs_hd p0 p1 r_1 hn_h0 hf_h0_0 hf_h0_3 hf_h0_8 hf_h0_9 hf_h0_10 hn_rd hf_rd_0 hn_tp hn_ra hn_li hf_li_2 hn_ho hn_dr hf_dr_2 hn_hd) (cwV 3 hts gX11_clean_X11_openSettle rfl rfl rfl (by decide +kernel) ⟨Nat.le_of_ble_eq_true rfl, Nat.le_of_ble_eq_true rfl⟩) ⟨fun a U g mk q => by obtain ⟨q0, q1, qP, qK, qD⟩ := q; exact ⟨q0, q1, qP, va_K.moved (u := U) (U := U.calling g mk a) (Vm.Alike.refl U.vm) qK, qD⟩, va_recv hKc hPc (ci := 10) (q0 := 0) rfl rfl, fun U hU hW => ⟨rfl, by rw [hU], by rw [hU]; exact hPc, va_K.moved hW.alike hKc, hDc.weaken (fun _ _ _ _ => trivial)⟩⟩ rfl rfl hl.1 rfl (lv_room (Nat.le_of_ble_eq_true rfl)) dX11_clean_7 ⟨Nat.le_of_ble_eq_true rfl, Nat.le_of_ble_eq_true rfl⟩) hS (fun q _ h => hFc q h) hFc (fun r_2 u t H1 locs ht hvm hw hB hz1 hk1 hS => ?_)
  obtain ⟨hP1, hK1, hD1⟩ := hB
  rw [ht] at hP1
  have hK1 := va_K.moved hvm.symm hK1
  obtain ⟨hP, hD⟩ := va_join (wr := []) (w1 := []) hP hD [0, 1, 2, 3, 4, 5, 6, 7] [] rfl rfl (by decide) (by decide) hk1 hFc hP1 hD1
  generalize H1 = H at hP hS ⊢
  have hP : va_P (dC, dI) vwCl [] H := hP
  have hD : va_D A [] := hD
  have er_2 : r_2 = 0 := hw
  subst er_2
  refine lv_if_ne (tgt := 17) hx hb dX11_clean_10 (by decide) (fun c_3 => ?_) (fun c_3 => ?_)
  · exact absurd (by decide) c_3
  · refine lv_ldc2 (v := (-9223372036854775808)) hx hb hown (hts (.constantLong RX11 256 (-9223372036854775808)) (by decide +kernel)) dX11_clean_13 ?_
    have hpost : ((-9223372036854775808) : Int64) = (-9223372036854775808) := rfl
    have hP9 := hP.sub (ws' := []) [] rfl
    have hD9 := hD.sub (ws' := []) [] (by decide) rfl
    have hK9 := hK.sub (tys' := []) [] rfl
    exact W.lret (v := (-9223372036854775808)) hx hb hr (fun t ht hW => ⟨⟨(-9223372036854775808), (), rfl, hpost, by rw [ht]; exact hP9, va_K.moved hW.alike hK9, hD9⟩, hS.F ht⟩) hS.2.2 dX11_clean_16
set_option maxHeartbeats 4000000 in
set_option maxRecDepth 100000 in
theorem k_X11_risk (l : Launch) (dC : Nat → ClassId) (dI : Nat → Nat → Nat) (sz : Nat) (h0 : Nat) (fs_h0 : List Value) (rd : Nat) (fs_rd : List Value) (tp : Nat) (fs_tp : List Value) (ra : Nat) (fs_ra : List Value) (li : Nat) (fs_li : List Value) (ho : Nat) (fs_ho : List Value) (dr : Nat) (fs_dr : List Value) (hd : Nat) (fs_hd : List Value) (p0 : Int32) (p1 : Int32) (p2 : Int32) (hn_h0 : fs_h0.length = 15) (hf_h0_0 : fs_h0[0]? = some (.ref rd)) (hf_h0_3 : fs_h0[3]? = some (.ref ra)) (hf_h0_8 : fs_h0[8]? = some (.ref li)) (hf_h0_9 : fs_h0[9]? = some (.ref dr)) (hf_h0_10 : fs_h0[10]? = some (.int 0)) (hn_rd : fs_rd.length = 5) (hf_rd_0 : fs_rd[0]? = some (.ref tp)) (hn_tp : fs_tp.length = 7) (hn_ra : fs_ra.length = 2) (hn_li : fs_li.length = 12) (hf_li_2 : fs_li[2]? = some (.ref ho)) (hn_ho : fs_ho.length = 2) (hn_dr : fs_dr.length = 12) (hf_dr_2 : fs_dr[2]? = some (.ref hd)) (hn_hd : fs_hd.length = 2) : Met l yX11_risk wsX11_risk ({ frames := 2, cells := 0, slots := 0, locals := 46 }) (va_Pc [.ref h0, .int p0, .int p1, .int p2] (fun U => U.heap.size = sz ∧ va_P (dC, dI) vwCl [(h0, .inr (10, fs_h0)), (rd, .inr (6, fs_rd)), (tp, .inr (9, fs_tp)), (ra, .inr (5, fs_ra)), (li, .inr (3, fs_li)), (ho, .inr (4, fs_ho)), (dr, .inr (3, fs_dr)), (hd, .inr (4, fs_hd))] U.heap ∧ va_K (dC, dI) vwCl [] U ∧ va_D (fun _ => True) [(h0, .inr (10, fs_h0)), (rd, .inr (6, fs_rd)), (tp, .inr (9, fs_tp)), (ra, .inr (5, fs_ra)), (li, .inr (3, fs_li)), (ho, .inr (4, fs_ho)), (dr, .inr (3, fs_dr)), (hd, .inr (4, fs_hd))])) (va_Ql (fun (r : Int64) (_ : Unit) => r = (-9223372036854775808)) (fun _ t => va_P (dC, dI) vwCl [] t.heap ∧ va_K (dC, dI) vwCl [] t ∧ va_D (va_A [(h0, .inr (10, fs_h0)), (rd, .inr (6, fs_rd)), (tp, .inr (9, fs_tp)), (ra, .inr (5, fs_ra)), (li, .inr (3, fs_li)), (ho, .inr (4, fs_ho)), (dr, .inr (3, fs_dr)), (hd, .inr (4, fs_hd))] sz) []) (va_A [(h0, .inr (10, fs_h0)), (rd, .inr (6, fs_rd)), (tp, .inr (9, fs_tp)), (ra, .inr (5, fs_ra)), (li, .inr (3, fs_li)), (ho, .inr (4, fs_ho)), (dr, .inr (3, fs_dr)), (hd, .inr (4, fs_hd))] sz)) 0 0 (va_A [(h0, .inr (10, fs_h0)), (rd, .inr (6, fs_rd)), (tp, .inr (9, fs_tp)), (ra, .inr (5, fs_ra)), (li, .inr (3, fs_li)), (ho, .inr (4, fs_ho)), (dr, .inr (3, fs_dr)), (hd, .inr (4, fs_hd))] sz) := by
  refine Met.ofW (cc := cX11_risk) (maxL := 4) (ret := (some .long)) (by decide) rfl ?_
  intro p e s m args below meth c s₁ B hml hv
  obtain ⟨rfl, hsz, hP, hK, hD0⟩ := hv
  have hx := B.exec
  have hb := B.bytes
  have hr := B.returns
  have hts := atoms_spec (ws := wsX11_risk) B.pre
  have hown : s.vm.findClass RX11 = some m.cls := findClass_of_methodNamed B.named
  have hlocks := B.notSynchronized
  subst hsz
  have hD := hD0.self (sz := s.heap.size)
  generalize hAe : va_A [(h0, .inr (10, fs_h0)), (rd, .inr (6, fs_rd)), (tp, .inr (9, fs_tp)), (ra, .inr (5, fs_ra)), (li, .inr (3, fs_li)), (ho, .inr (4, fs_ho)), (dr, .inr (3, fs_dr)), (hd, .inr (4, fs_hd))] s.heap.size = A at hD ⊢
  have hA : ∀ q : Nat, s.heap.size ≤ q → A q := fun q h => by rw [← hAe]; exact Or.inr h
  have hS : va_S A s.heap s.heap [] := va_S.rf
  have hP : va_P (dC, dI) vwCl [(h0, .inr (10, fs_h0)), (rd, .inr (6, fs_rd)), (tp, .inr (9, fs_tp)), (ra, .inr (5, fs_ra)), (li, .inr (3, fs_li)), (ho, .inr (4, fs_ho)), (dr, .inr (3, fs_dr)), (hd, .inr (4, fs_hd))] s.heap := hP
  have hl := lv_entry ([.ref h0, .int p0, .int p1, .int p2]) (n := 4) (Nat.le_of_ble_eq_true rfl)
  rw [lg_entry_eq]
  generalize (lg_sl ([.ref h0, .int p0, .int p1, .int p2]) ++ List.replicate (4 - (lg_sl ([.ref h0, .int p0, .int p1, .int p2])).length) Slot.unset).toArray = ls at hl ⊢
  have hl : lv_has ls 4 [(0, .ref h0), (1, .int p0), (2, .int p1), (3, .int p2)] := hl
  refine lv_aload_n hx hb dX11_risk_0 rfl (lv_at hl 0 rfl) ?_
  refine lv_iload_n hx hb dX11_risk_1 rfl (lv_at hl 1 rfl) ?_
  refine lv_iload_n hx hb dX11_risk_2 rfl (lv_at hl 2 rfl) ?_
  refine lv_iload_n hx hb dX11_risk_3 rfl (lv_at hl 3 rfl) ?_
  refine lv_sipush (v := (-2000)) hx hb dX11_risk_4 (by decide) ?_
  refine lv_icmp_le (tgt := 21) hx hb dX11_risk_7 (by decide) (fun c_1 => ?_) (fun c_1 => ?_)
  · refine lv_iconst (v := 0) hx hb dX11_risk_21 (by decide) ?_
    have hPc := hP.sub (ws' := [(h0, .inr (10, fs_h0)), (rd, .inr (6, fs_rd)), (tp, .inr (9, fs_tp)), (ra, .inr (5, fs_ra)), (li, .inr (3, fs_li)), (ho, .inr (4, fs_ho)), (dr, .inr (3, fs_dr)), (hd, .inr (4, fs_hd))]) [0, 1, 2, 3, 4, 5, 6, 7] rfl
    have hDc := hD.sub (ws' := [(h0, .inr (10, fs_h0)), (rd, .inr (6, fs_rd)), (tp, .inr (9, fs_tp)), (ra, .inr (5, fs_ra)), (li, .inr (3, fs_li)), (ho, .inr (4, fs_ho)), (dr, .inr (3, fs_dr)), (hd, .inr (4, fs_hd))]) [0, 1, 2, 3, 4, 5, 6, 7] (by decide) rfl
    have hKc := hK.sub (tys' := []) [] rfl
    have hFc := va_free (wc := [(h0, .inr (10, fs_h0)), (rd, .inr (6, fs_rd)), (tp, .inr (9, fs_tp)), (ra, .inr (5, fs_ra)), (li, .inr (3, fs_li)), (ho, .inr (4, fs_ho)), (dr, .inr (3, fs_dr)), (hd, .inr (4, fs_hd))]) hD hS hA [0, 1, 2, 3, 4, 5, 6, 7] rfl
    refine va_calli (va_runV (As := [.int p0, .int p1, .int 0]) (rest := []) ⟨hx, hb, hml, hown, hts⟩ (k_X11_openSettle l dC dI s.heap.size h0 fs_h0 rd fs_rd tp fs_tp ra fs_ra li fs_li ho fs_ho dr fs_dr hd fs_hd p0 p1 0 hn_h0 hf_h0_0 hf_h0_3 hf_h0_8 hf_h0_9 hf_h0_10 hn_rd hf_rd_0 hn_tp hn_ra hn_li hf_li_2 hn_ho hn_dr hf_dr_2 hn_hd) (cwV 3 hts gX11_risk_X11_openSettle rfl rfl rfl (by decide +kernel) ⟨Nat.le_of_ble_eq_true rfl, Nat.le_of_ble_eq_true rfl⟩) ⟨fun a U g mk q => by obtain ⟨q0, q1, qP, qK, qD⟩ := q; exact ⟨q0, q1, qP, va_K.moved (u := U) (U := U.calling g mk a) (Vm.Alike.refl U.vm) qK, qD⟩, va_recv hKc hPc (ci := 10) (q0 := 0) rfl rfl, fun U hU hW => ⟨rfl, by rw [hU], by rw [hU]; exact hPc, va_K.moved hW.alike hKc, hDc.weaken (fun _ _ _ _ => trivial)⟩⟩ rfl rfl hl.1 rfl (lv_room (Nat.le_of_ble_eq_true rfl)) dX11_risk_22 ⟨Nat.le_of_ble_eq_true rfl, Nat.le_of_ble_eq_true rfl⟩) hS (fun q _ h => hFc q h) hFc (fun r_2 u t H1 locs ht hvm hw hB hz1 hk1 hS => ?_)
    obtain ⟨hP1, hK1, hD1⟩ := hB
    rw [ht] at hP1
    have hK1 := va_K.moved hvm.symm hK1
    obtain ⟨hP, hD⟩ := va_join (wr := []) (w1 := []) hP hD [0, 1, 2, 3, 4, 5, 6, 7] [] rfl rfl (by decide) (by decide) hk1 hFc hP1 hD1
    generalize H1 = H at hP hS ⊢
    have hP : va_P (dC, dI) vwCl [] H := hP
    have hD : va_D A [] := hD
    have er_2 : r_2 = 0 := hw
    subst er_2
    refine lv_if_ne (tgt := 32) hx hb dX11_risk_25 (by decide) (fun c_3 => ?_) (fun c_3 => ?_)
    · exact absurd (by decide) c_3
    · refine lv_ldc2 (v := (-9223372036854775808)) hx hb hown (hts (.constantLong RX11 256 (-9223372036854775808)) (by decide +kernel)) dX11_risk_28 ?_
      have hpost : ((-9223372036854775808) : Int64) = (-9223372036854775808) := rfl
      have hP9 := hP.sub (ws' := []) [] rfl
      have hD9 := hD.sub (ws' := []) [] (by decide) rfl
      have hK9 := hK.sub (tys' := []) [] rfl
      exact W.lret (v := (-9223372036854775808)) hx hb hr (fun t ht hW => ⟨⟨(-9223372036854775808), (), rfl, hpost, by rw [ht]; exact hP9, va_K.moved hW.alike hK9, hD9⟩, hS.F ht⟩) hS.2.2 dX11_risk_31
  · refine lv_iload_n hx hb dX11_risk_10 rfl (lv_at hl 3 rfl) ?_
    refine lv_sipush (v := 10000) hx hb dX11_risk_11 (by decide) ?_
    refine lv_icmp_ge (tgt := 21) hx hb dX11_risk_14 (by decide) (fun c_4 => ?_) (fun c_4 => ?_)
    · refine lv_iconst (v := 0) hx hb dX11_risk_21 (by decide) ?_
      have hPc := hP.sub (ws' := [(h0, .inr (10, fs_h0)), (rd, .inr (6, fs_rd)), (tp, .inr (9, fs_tp)), (ra, .inr (5, fs_ra)), (li, .inr (3, fs_li)), (ho, .inr (4, fs_ho)), (dr, .inr (3, fs_dr)), (hd, .inr (4, fs_hd))]) [0, 1, 2, 3, 4, 5, 6, 7] rfl
      have hDc := hD.sub (ws' := [(h0, .inr (10, fs_h0)), (rd, .inr (6, fs_rd)), (tp, .inr (9, fs_tp)), (ra, .inr (5, fs_ra)), (li, .inr (3, fs_li)), (ho, .inr (4, fs_ho)), (dr, .inr (3, fs_dr)), (hd, .inr (4, fs_hd))]) [0, 1, 2, 3, 4, 5, 6, 7] (by decide) rfl
      have hKc := hK.sub (tys' := []) [] rfl
      have hFc := va_free (wc := [(h0, .inr (10, fs_h0)), (rd, .inr (6, fs_rd)), (tp, .inr (9, fs_tp)), (ra, .inr (5, fs_ra)), (li, .inr (3, fs_li)), (ho, .inr (4, fs_ho)), (dr, .inr (3, fs_dr)), (hd, .inr (4, fs_hd))]) hD hS hA [0, 1, 2, 3, 4, 5, 6, 7] rfl
      refine va_calli (va_runV (As := [.int p0, .int p1, .int 0]) (rest := []) ⟨hx, hb, hml, hown, hts⟩ (k_X11_openSettle l dC dI s.heap.size h0 fs_h0 rd fs_rd tp fs_tp ra fs_ra li fs_li ho fs_ho dr fs_dr hd fs_hd p0 p1 0 hn_h0 hf_h0_0 hf_h0_3 hf_h0_8 hf_h0_9 hf_h0_10 hn_rd hf_rd_0 hn_tp hn_ra hn_li hf_li_2 hn_ho hn_dr hf_dr_2 hn_hd) (cwV 3 hts gX11_risk_X11_openSettle rfl rfl rfl (by decide +kernel) ⟨Nat.le_of_ble_eq_true rfl, Nat.le_of_ble_eq_true rfl⟩) ⟨fun a U g mk q => by obtain ⟨q0, q1, qP, qK, qD⟩ := q; exact ⟨q0, q1, qP, va_K.moved (u := U) (U := U.calling g mk a) (Vm.Alike.refl U.vm) qK, qD⟩, va_recv hKc hPc (ci := 10) (q0 := 0) rfl rfl, fun U hU hW => ⟨rfl, by rw [hU], by rw [hU]; exact hPc, va_K.moved hW.alike hKc, hDc.weaken (fun _ _ _ _ => trivial)⟩⟩ rfl rfl hl.1 rfl (lv_room (Nat.le_of_ble_eq_true rfl)) dX11_risk_22 ⟨Nat.le_of_ble_eq_true rfl, Nat.le_of_ble_eq_true rfl⟩) hS (fun q _ h => hFc q h) hFc (fun r_5 u t H1 locs ht hvm hw hB hz1 hk1 hS => ?_)
      obtain ⟨hP1, hK1, hD1⟩ := hB
      rw [ht] at hP1
      have hK1 := va_K.moved hvm.symm hK1
      obtain ⟨hP, hD⟩ := va_join (wr := []) (w1 := []) hP hD [0, 1, 2, 3, 4, 5, 6, 7] [] rfl rfl (by decide) (by decide) hk1 hFc hP1 hD1
      generalize H1 = H at hP hS ⊢
      have hP : va_P (dC, dI) vwCl [] H := hP
      have hD : va_D A [] := hD
      have er_5 : r_5 = 0 := hw
      subst er_5
      refine lv_if_ne (tgt := 32) hx hb dX11_risk_25 (by decide) (fun c_6 => ?_) (fun c_6 => ?_)
      · exact absurd (by decide) c_6
      · refine lv_ldc2 (v := (-9223372036854775808)) hx hb hown (hts (.constantLong RX11 256 (-9223372036854775808)) (by decide +kernel)) dX11_risk_28 ?_
        have hpost : ((-9223372036854775808) : Int64) = (-9223372036854775808) := rfl
        have hP9 := hP.sub (ws' := []) [] rfl
        have hD9 := hD.sub (ws' := []) [] (by decide) rfl
        have hK9 := hK.sub (tys' := []) [] rfl
        exact W.lret (v := (-9223372036854775808)) hx hb hr (fun t ht hW => ⟨⟨(-9223372036854775808), (), rfl, hpost, by rw [ht]; exact hP9, va_K.moved hW.alike hK9, hD9⟩, hS.F ht⟩) hS.2.2 dX11_risk_31
    · refine lv_iconst (v := 1) hx hb dX11_risk_17 (by decide) ?_
      refine lv_goto (tgt := 22) hx hb dX11_risk_18 (by decide) ?_
      have hPc := hP.sub (ws' := [(h0, .inr (10, fs_h0)), (rd, .inr (6, fs_rd)), (tp, .inr (9, fs_tp)), (ra, .inr (5, fs_ra)), (li, .inr (3, fs_li)), (ho, .inr (4, fs_ho)), (dr, .inr (3, fs_dr)), (hd, .inr (4, fs_hd))]) [0, 1, 2, 3, 4, 5, 6, 7] rfl
      have hDc := hD.sub (ws' := [(h0, .inr (10, fs_h0)), (rd, .inr (6, fs_rd)), (tp, .inr (9, fs_tp)), (ra, .inr (5, fs_ra)), (li, .inr (3, fs_li)), (ho, .inr (4, fs_ho)), (dr, .inr (3, fs_dr)), (hd, .inr (4, fs_hd))]) [0, 1, 2, 3, 4, 5, 6, 7] (by decide) rfl
      have hKc := hK.sub (tys' := []) [] rfl
      have hFc := va_free (wc := [(h0, .inr (10, fs_h0)), (rd, .inr (6, fs_rd)), (tp, .inr (9, fs_tp)), (ra, .inr (5, fs_ra)), (li, .inr (3, fs_li)), (ho, .inr (4, fs_ho)), (dr, .inr (3, fs_dr)), (hd, .inr (4, fs_hd))]) hD hS hA [0, 1, 2, 3, 4, 5, 6, 7] rfl
      refine va_calli (va_runV (As := [.int p0, .int p1, .int 1]) (rest := []) ⟨hx, hb, hml, hown, hts⟩ (k_X11_openSettle l dC dI s.heap.size h0 fs_h0 rd fs_rd tp fs_tp ra fs_ra li fs_li ho fs_ho dr fs_dr hd fs_hd p0 p1 1 hn_h0 hf_h0_0 hf_h0_3 hf_h0_8 hf_h0_9 hf_h0_10 hn_rd hf_rd_0 hn_tp hn_ra hn_li hf_li_2 hn_ho hn_dr hf_dr_2 hn_hd) (cwV 3 hts gX11_risk_X11_openSettle rfl rfl rfl (by decide +kernel) ⟨Nat.le_of_ble_eq_true rfl, Nat.le_of_ble_eq_true rfl⟩) ⟨fun a U g mk q => by obtain ⟨q0, q1, qP, qK, qD⟩ := q; exact ⟨q0, q1, qP, va_K.moved (u := U) (U := U.calling g mk a) (Vm.Alike.refl U.vm) qK, qD⟩, va_recv hKc hPc (ci := 10) (q0 := 0) rfl rfl, fun U hU hW => ⟨rfl, by rw [hU], by rw [hU]; exact hPc, va_K.moved hW.alike hKc, hDc.weaken (fun _ _ _ _ => trivial)⟩⟩ rfl rfl hl.1 rfl (lv_room (Nat.le_of_ble_eq_true rfl)) dX11_risk_22 ⟨Nat.le_of_ble_eq_true rfl, Nat.le_of_ble_eq_true rfl⟩) hS (fun q _ h => hFc q h) hFc (fun r_7 u t H1 locs ht hvm hw hB hz1 hk1 hS => ?_)
      obtain ⟨hP1, hK1, hD1⟩ := hB
      rw [ht] at hP1
      have hK1 := va_K.moved hvm.symm hK1
      obtain ⟨hP, hD⟩ := va_join (wr := []) (w1 := []) hP hD [0, 1, 2, 3, 4, 5, 6, 7] [] rfl rfl (by decide) (by decide) hk1 hFc hP1 hD1
      generalize H1 = H at hP hS ⊢
      have hP : va_P (dC, dI) vwCl [] H := hP
      have hD : va_D A [] := hD
      have er_7 : r_7 = 0 := hw
      subst er_7
      refine lv_if_ne (tgt := 32) hx hb dX11_risk_25 (by decide) (fun c_8 => ?_) (fun c_8 => ?_)
      · exact absurd (by decide) c_8
      · refine lv_ldc2 (v := (-9223372036854775808)) hx hb hown (hts (.constantLong RX11 256 (-9223372036854775808)) (by decide +kernel)) dX11_risk_28 ?_
        have hpost : ((-9223372036854775808) : Int64) = (-9223372036854775808) := rfl
        have hP9 := hP.sub (ws' := []) [] rfl
        have hD9 := hD.sub (ws' := []) [] (by decide) rfl
        have hK9 := hK.sub (tys' := []) [] rfl
        exact W.lret (v := (-9223372036854775808)) hx hb hr (fun t ht hW => ⟨⟨(-9223372036854775808), (), rfl, hpost, by rw [ht]; exact hP9, va_K.moved hW.alike hK9, hD9⟩, hS.F ht⟩) hS.2.2 dX11_risk_31
set_option maxHeartbeats 4000000 in
set_option maxRecDepth 100000 in
theorem k_X11_bracket (l : Launch) (dC : Nat → ClassId) (dI : Nat → Nat → Nat) (sz : Nat) (h0 : Nat) (fs_h0 : List Value) (rd : Nat) (fs_rd : List Value) (tp : Nat) (fs_tp : List Value) (ra : Nat) (fs_ra : List Value) (li : Nat) (fs_li : List Value) (ho : Nat) (fs_ho : List Value) (dr : Nat) (fs_dr : List Value) (hd : Nat) (fs_hd : List Value) (p0 : Int32) (p1 : Int32) (p2 : Int32) (p3 : Int32) (p4 : Int32) (hn_h0 : fs_h0.length = 15) (hf_h0_0 : fs_h0[0]? = some (.ref rd)) (hf_h0_3 : fs_h0[3]? = some (.ref ra)) (hf_h0_8 : fs_h0[8]? = some (.ref li)) (hf_h0_9 : fs_h0[9]? = some (.ref dr)) (hf_h0_10 : fs_h0[10]? = some (.int 0)) (hn_rd : fs_rd.length = 5) (hf_rd_0 : fs_rd[0]? = some (.ref tp)) (hn_tp : fs_tp.length = 7) (hn_ra : fs_ra.length = 2) (hn_li : fs_li.length = 12) (hf_li_2 : fs_li[2]? = some (.ref ho)) (hn_ho : fs_ho.length = 2) (hn_dr : fs_dr.length = 12) (hf_dr_2 : fs_dr[2]? = some (.ref hd)) (hn_hd : fs_hd.length = 2) : Met l yX11_bracket wsX11_bracket ({ frames := 2, cells := 0, slots := 0, locals := 46 }) (va_Pc [.ref h0, .int p0, .int p1, .int p2, .int p3, .int p4] (fun U => U.heap.size = sz ∧ va_P (dC, dI) vwCl [(h0, .inr (10, fs_h0)), (rd, .inr (6, fs_rd)), (tp, .inr (9, fs_tp)), (ra, .inr (5, fs_ra)), (li, .inr (3, fs_li)), (ho, .inr (4, fs_ho)), (dr, .inr (3, fs_dr)), (hd, .inr (4, fs_hd))] U.heap ∧ va_K (dC, dI) vwCl [] U ∧ va_D (fun _ => True) [(h0, .inr (10, fs_h0)), (rd, .inr (6, fs_rd)), (tp, .inr (9, fs_tp)), (ra, .inr (5, fs_ra)), (li, .inr (3, fs_li)), (ho, .inr (4, fs_ho)), (dr, .inr (3, fs_dr)), (hd, .inr (4, fs_hd))])) (va_Ql (fun (r : Int64) (_ : Unit) => r = (-9223372036854775808)) (fun _ t => va_P (dC, dI) vwCl [] t.heap ∧ va_K (dC, dI) vwCl [] t ∧ va_D (va_A [(h0, .inr (10, fs_h0)), (rd, .inr (6, fs_rd)), (tp, .inr (9, fs_tp)), (ra, .inr (5, fs_ra)), (li, .inr (3, fs_li)), (ho, .inr (4, fs_ho)), (dr, .inr (3, fs_dr)), (hd, .inr (4, fs_hd))] sz) []) (va_A [(h0, .inr (10, fs_h0)), (rd, .inr (6, fs_rd)), (tp, .inr (9, fs_tp)), (ra, .inr (5, fs_ra)), (li, .inr (3, fs_li)), (ho, .inr (4, fs_ho)), (dr, .inr (3, fs_dr)), (hd, .inr (4, fs_hd))] sz)) 0 0 (va_A [(h0, .inr (10, fs_h0)), (rd, .inr (6, fs_rd)), (tp, .inr (9, fs_tp)), (ra, .inr (5, fs_ra)), (li, .inr (3, fs_li)), (ho, .inr (4, fs_ho)), (dr, .inr (3, fs_dr)), (hd, .inr (4, fs_hd))] sz) := by
  refine Met.ofW (cc := cX11_bracket) (maxL := 6) (ret := (some .long)) (by decide) rfl ?_
  intro p e s m args below meth c s₁ B hml hv
  obtain ⟨rfl, hsz, hP, hK, hD0⟩ := hv
  have hx := B.exec
  have hb := B.bytes
  have hr := B.returns
  have hts := atoms_spec (ws := wsX11_bracket) B.pre
  have hown : s.vm.findClass RX11 = some m.cls := findClass_of_methodNamed B.named
  have hlocks := B.notSynchronized
  subst hsz
  have hD := hD0.self (sz := s.heap.size)
  generalize hAe : va_A [(h0, .inr (10, fs_h0)), (rd, .inr (6, fs_rd)), (tp, .inr (9, fs_tp)), (ra, .inr (5, fs_ra)), (li, .inr (3, fs_li)), (ho, .inr (4, fs_ho)), (dr, .inr (3, fs_dr)), (hd, .inr (4, fs_hd))] s.heap.size = A at hD ⊢
  have hA : ∀ q : Nat, s.heap.size ≤ q → A q := fun q h => by rw [← hAe]; exact Or.inr h
  have hS : va_S A s.heap s.heap [] := va_S.rf
  have hP : va_P (dC, dI) vwCl [(h0, .inr (10, fs_h0)), (rd, .inr (6, fs_rd)), (tp, .inr (9, fs_tp)), (ra, .inr (5, fs_ra)), (li, .inr (3, fs_li)), (ho, .inr (4, fs_ho)), (dr, .inr (3, fs_dr)), (hd, .inr (4, fs_hd))] s.heap := hP
  have hl := lv_entry ([.ref h0, .int p0, .int p1, .int p2, .int p3, .int p4]) (n := 6) (Nat.le_of_ble_eq_true rfl)
  rw [lg_entry_eq]
  generalize (lg_sl ([.ref h0, .int p0, .int p1, .int p2, .int p3, .int p4]) ++ List.replicate (6 - (lg_sl ([.ref h0, .int p0, .int p1, .int p2, .int p3, .int p4])).length) Slot.unset).toArray = ls at hl ⊢
  have hl : lv_has ls 6 [(0, .ref h0), (1, .int p0), (2, .int p1), (3, .int p2), (4, .int p3), (5, .int p4)] := hl
  refine lv_aload_n hx hb dX11_bracket_0 rfl (lv_at hl 0 rfl) ?_
  refine lv_iload_n hx hb dX11_bracket_1 rfl (lv_at hl 1 rfl) ?_
  refine lv_iload_n hx hb dX11_bracket_2 rfl (lv_at hl 2 rfl) ?_
  refine lv_iload_n hx hb dX11_bracket_3 rfl (lv_at hl 3 rfl) ?_
  have hPc := hP.sub (ws' := []) [] rfl
  have hDc := hD.sub (ws' := []) [] (by decide) rfl
  have hKc := hK.sub (tys' := []) [] rfl
  have hFc := va_free (wc := []) hD hS hA [] rfl
  refine va_calli (va_runS (As := [.int p2]) (rest := [.int p1, .int p0, .ref h0]) ⟨hx, hb, hml, hown, hts⟩ (k_X11_isPrice l dC dI s.heap.size p2) (va_cwS 1 hts gX11_bracket_X11_isPrice rfl rfl rfl (by decide +kernel) ⟨Nat.le_of_ble_eq_true rfl, Nat.le_of_ble_eq_true rfl⟩) ⟨fun a U g mk q => by obtain ⟨q0, q1, qP, qK, qD⟩ := q; exact ⟨q0, q1, qP, va_K.moved (u := U) (U := U.calling g mk a) (Vm.Alike.refl U.vm) qK, qD⟩, fun U hU hW => ⟨rfl, by rw [hU], by rw [hU]; exact hPc, va_K.moved hW.alike hKc, hDc.weaken (fun _ _ _ _ => trivial)⟩⟩ rfl rfl hl.1 rfl (lv_room (Nat.le_of_ble_eq_true rfl)) dX11_bracket_4 ⟨Nat.le_of_ble_eq_true rfl, Nat.le_of_ble_eq_true rfl⟩) hS (fun q _ h => hFc q h) hFc (fun r_1 u t H1 locs ht hvm hw hB hz1 hk1 hS => ?_)
  obtain ⟨hP1, hK1, hD1⟩ := hB
  rw [ht] at hP1
  have hK1 := va_K.moved hvm.symm hK1
  obtain ⟨hP, hD⟩ := va_join (wr := [(h0, .inr (10, fs_h0)), (rd, .inr (6, fs_rd)), (tp, .inr (9, fs_tp)), (ra, .inr (5, fs_ra)), (li, .inr (3, fs_li)), (ho, .inr (4, fs_ho)), (dr, .inr (3, fs_dr)), (hd, .inr (4, fs_hd))]) (w1 := []) hP hD [] [0, 1, 2, 3, 4, 5, 6, 7] rfl rfl (by decide) (by decide) hk1 hFc hP1 hD1
  generalize H1 = H at hP hS ⊢
  have hP : va_P (dC, dI) vwCl [(h0, .inr (10, fs_h0)), (rd, .inr (6, fs_rd)), (tp, .inr (9, fs_tp)), (ra, .inr (5, fs_ra)), (li, .inr (3, fs_li)), (ho, .inr (4, fs_ho)), (dr, .inr (3, fs_dr)), (hd, .inr (4, fs_hd))] H := hP
  have hD : va_D A [(h0, .inr (10, fs_h0)), (rd, .inr (6, fs_rd)), (tp, .inr (9, fs_tp)), (ra, .inr (5, fs_ra)), (li, .inr (3, fs_li)), (ho, .inr (4, fs_ho)), (dr, .inr (3, fs_dr)), (hd, .inr (4, fs_hd))] := hD
  have er_1 : r_1 = f_X11_isPrice p2 := hw
  refine lv_if_eq (tgt := 26) hx hb dX11_bracket_7 (by decide) (fun c_2 => ?_) (fun c_2 => ?_)
  · refine lv_iconst (v := 0) hx hb dX11_bracket_26 (by decide) ?_
    have hPc := hP.sub (ws' := [(h0, .inr (10, fs_h0)), (rd, .inr (6, fs_rd)), (tp, .inr (9, fs_tp)), (ra, .inr (5, fs_ra)), (li, .inr (3, fs_li)), (ho, .inr (4, fs_ho)), (dr, .inr (3, fs_dr)), (hd, .inr (4, fs_hd))]) [0, 1, 2, 3, 4, 5, 6, 7] rfl
    have hDc := hD.sub (ws' := [(h0, .inr (10, fs_h0)), (rd, .inr (6, fs_rd)), (tp, .inr (9, fs_tp)), (ra, .inr (5, fs_ra)), (li, .inr (3, fs_li)), (ho, .inr (4, fs_ho)), (dr, .inr (3, fs_dr)), (hd, .inr (4, fs_hd))]) [0, 1, 2, 3, 4, 5, 6, 7] (by decide) rfl
    have hKc := hK.sub (tys' := []) [] rfl
    have hFc := va_free (wc := [(h0, .inr (10, fs_h0)), (rd, .inr (6, fs_rd)), (tp, .inr (9, fs_tp)), (ra, .inr (5, fs_ra)), (li, .inr (3, fs_li)), (ho, .inr (4, fs_ho)), (dr, .inr (3, fs_dr)), (hd, .inr (4, fs_hd))]) hD hS hA [0, 1, 2, 3, 4, 5, 6, 7] rfl
    refine va_calli (va_runV (As := [.int p0, .int p1, .int 0]) (rest := []) ⟨hx, hb, hml, hown, hts⟩ (k_X11_openSettle l dC dI H.size h0 fs_h0 rd fs_rd tp fs_tp ra fs_ra li fs_li ho fs_ho dr fs_dr hd fs_hd p0 p1 0 hn_h0 hf_h0_0 hf_h0_3 hf_h0_8 hf_h0_9 hf_h0_10 hn_rd hf_rd_0 hn_tp hn_ra hn_li hf_li_2 hn_ho hn_dr hf_dr_2 hn_hd) (cwV 3 hts gX11_bracket_X11_openSettle rfl rfl rfl (by decide +kernel) ⟨Nat.le_of_ble_eq_true rfl, Nat.le_of_ble_eq_true rfl⟩) ⟨fun a U g mk q => by obtain ⟨q0, q1, qP, qK, qD⟩ := q; exact ⟨q0, q1, qP, va_K.moved (u := U) (U := U.calling g mk a) (Vm.Alike.refl U.vm) qK, qD⟩, va_recv hKc hPc (ci := 10) (q0 := 0) rfl rfl, fun U hU hW => ⟨rfl, by rw [hU], by rw [hU]; exact hPc, va_K.moved hW.alike hKc, hDc.weaken (fun _ _ _ _ => trivial)⟩⟩ rfl rfl hl.1 rfl (lv_room (Nat.le_of_ble_eq_true rfl)) dX11_bracket_27 ⟨Nat.le_of_ble_eq_true rfl, Nat.le_of_ble_eq_true rfl⟩) hS (fun q _ h => hFc q h) hFc (fun r_3 u t H1 locs ht hvm hw hB hz1 hk1 hS => ?_)
    obtain ⟨hP1, hK1, hD1⟩ := hB
    rw [ht] at hP1
    have hK1 := va_K.moved hvm.symm hK1
    obtain ⟨hP, hD⟩ := va_join (wr := []) (w1 := []) hP hD [0, 1, 2, 3, 4, 5, 6, 7] [] rfl rfl (by decide) (by decide) hk1 hFc hP1 hD1
    generalize H1 = H at hP hS ⊢
    have hP : va_P (dC, dI) vwCl [] H := hP
    have hD : va_D A [] := hD
    have er_3 : r_3 = 0 := hw
    subst er_3
    refine lv_if_ne (tgt := 37) hx hb dX11_bracket_30 (by decide) (fun c_4 => ?_) (fun c_4 => ?_)
    · exact absurd (by decide) c_4
    · refine lv_ldc2 (v := (-9223372036854775808)) hx hb hown (hts (.constantLong RX11 256 (-9223372036854775808)) (by decide +kernel)) dX11_bracket_33 ?_
      have hpost : ((-9223372036854775808) : Int64) = (-9223372036854775808) := rfl
      have hP9 := hP.sub (ws' := []) [] rfl
      have hD9 := hD.sub (ws' := []) [] (by decide) rfl
      have hK9 := hK.sub (tys' := []) [] rfl
      exact W.lret (v := (-9223372036854775808)) hx hb hr (fun t ht hW => ⟨⟨(-9223372036854775808), (), rfl, hpost, by rw [ht]; exact hP9, va_K.moved hW.alike hK9, hD9⟩, hS.F ht⟩) hS.2.2 dX11_bracket_36
  · refine lv_iload hx hb dX11_bracket_10 (lv_at hl 4 rfl) ?_
    refine lv_if_lt (tgt := 26) hx hb dX11_bracket_12 (by decide) (fun c_5 => ?_) (fun c_5 => ?_)
    · refine lv_iconst (v := 0) hx hb dX11_bracket_26 (by decide) ?_
      have hPc := hP.sub (ws' := [(h0, .inr (10, fs_h0)), (rd, .inr (6, fs_rd)), (tp, .inr (9, fs_tp)), (ra, .inr (5, fs_ra)), (li, .inr (3, fs_li)), (ho, .inr (4, fs_ho)), (dr, .inr (3, fs_dr)), (hd, .inr (4, fs_hd))]) [0, 1, 2, 3, 4, 5, 6, 7] rfl
      have hDc := hD.sub (ws' := [(h0, .inr (10, fs_h0)), (rd, .inr (6, fs_rd)), (tp, .inr (9, fs_tp)), (ra, .inr (5, fs_ra)), (li, .inr (3, fs_li)), (ho, .inr (4, fs_ho)), (dr, .inr (3, fs_dr)), (hd, .inr (4, fs_hd))]) [0, 1, 2, 3, 4, 5, 6, 7] (by decide) rfl
      have hKc := hK.sub (tys' := []) [] rfl
      have hFc := va_free (wc := [(h0, .inr (10, fs_h0)), (rd, .inr (6, fs_rd)), (tp, .inr (9, fs_tp)), (ra, .inr (5, fs_ra)), (li, .inr (3, fs_li)), (ho, .inr (4, fs_ho)), (dr, .inr (3, fs_dr)), (hd, .inr (4, fs_hd))]) hD hS hA [0, 1, 2, 3, 4, 5, 6, 7] rfl
      refine va_calli (va_runV (As := [.int p0, .int p1, .int 0]) (rest := []) ⟨hx, hb, hml, hown, hts⟩ (k_X11_openSettle l dC dI H.size h0 fs_h0 rd fs_rd tp fs_tp ra fs_ra li fs_li ho fs_ho dr fs_dr hd fs_hd p0 p1 0 hn_h0 hf_h0_0 hf_h0_3 hf_h0_8 hf_h0_9 hf_h0_10 hn_rd hf_rd_0 hn_tp hn_ra hn_li hf_li_2 hn_ho hn_dr hf_dr_2 hn_hd) (cwV 3 hts gX11_bracket_X11_openSettle rfl rfl rfl (by decide +kernel) ⟨Nat.le_of_ble_eq_true rfl, Nat.le_of_ble_eq_true rfl⟩) ⟨fun a U g mk q => by obtain ⟨q0, q1, qP, qK, qD⟩ := q; exact ⟨q0, q1, qP, va_K.moved (u := U) (U := U.calling g mk a) (Vm.Alike.refl U.vm) qK, qD⟩, va_recv hKc hPc (ci := 10) (q0 := 0) rfl rfl, fun U hU hW => ⟨rfl, by rw [hU], by rw [hU]; exact hPc, va_K.moved hW.alike hKc, hDc.weaken (fun _ _ _ _ => trivial)⟩⟩ rfl rfl hl.1 rfl (lv_room (Nat.le_of_ble_eq_true rfl)) dX11_bracket_27 ⟨Nat.le_of_ble_eq_true rfl, Nat.le_of_ble_eq_true rfl⟩) hS (fun q _ h => hFc q h) hFc (fun r_6 u t H1 locs ht hvm hw hB hz1 hk1 hS => ?_)
      obtain ⟨hP1, hK1, hD1⟩ := hB
      rw [ht] at hP1
      have hK1 := va_K.moved hvm.symm hK1
      obtain ⟨hP, hD⟩ := va_join (wr := []) (w1 := []) hP hD [0, 1, 2, 3, 4, 5, 6, 7] [] rfl rfl (by decide) (by decide) hk1 hFc hP1 hD1
      generalize H1 = H at hP hS ⊢
      have hP : va_P (dC, dI) vwCl [] H := hP
      have hD : va_D A [] := hD
      have er_6 : r_6 = 0 := hw
      subst er_6
      refine lv_if_ne (tgt := 37) hx hb dX11_bracket_30 (by decide) (fun c_7 => ?_) (fun c_7 => ?_)
      · exact absurd (by decide) c_7
      · refine lv_ldc2 (v := (-9223372036854775808)) hx hb hown (hts (.constantLong RX11 256 (-9223372036854775808)) (by decide +kernel)) dX11_bracket_33 ?_
        have hpost : ((-9223372036854775808) : Int64) = (-9223372036854775808) := rfl
        have hP9 := hP.sub (ws' := []) [] rfl
        have hD9 := hD.sub (ws' := []) [] (by decide) rfl
        have hK9 := hK.sub (tys' := []) [] rfl
        exact W.lret (v := (-9223372036854775808)) hx hb hr (fun t ht hW => ⟨⟨(-9223372036854775808), (), rfl, hpost, by rw [ht]; exact hP9, va_K.moved hW.alike hK9, hD9⟩, hS.F ht⟩) hS.2.2 dX11_bracket_36
    · refine lv_iload hx hb dX11_bracket_15 (lv_at hl 4 rfl) ?_
      refine lv_bipush (v := 60) hx hb dX11_bracket_17 (by decide) ?_
      refine lv_icmp_gt (tgt := 26) hx hb dX11_bracket_19 (by decide) (fun c_8 => ?_) (fun c_8 => ?_)
      · refine lv_iconst (v := 0) hx hb dX11_bracket_26 (by decide) ?_
        have hPc := hP.sub (ws' := [(h0, .inr (10, fs_h0)), (rd, .inr (6, fs_rd)), (tp, .inr (9, fs_tp)), (ra, .inr (5, fs_ra)), (li, .inr (3, fs_li)), (ho, .inr (4, fs_ho)), (dr, .inr (3, fs_dr)), (hd, .inr (4, fs_hd))]) [0, 1, 2, 3, 4, 5, 6, 7] rfl
        have hDc := hD.sub (ws' := [(h0, .inr (10, fs_h0)), (rd, .inr (6, fs_rd)), (tp, .inr (9, fs_tp)), (ra, .inr (5, fs_ra)), (li, .inr (3, fs_li)), (ho, .inr (4, fs_ho)), (dr, .inr (3, fs_dr)), (hd, .inr (4, fs_hd))]) [0, 1, 2, 3, 4, 5, 6, 7] (by decide) rfl
        have hKc := hK.sub (tys' := []) [] rfl
        have hFc := va_free (wc := [(h0, .inr (10, fs_h0)), (rd, .inr (6, fs_rd)), (tp, .inr (9, fs_tp)), (ra, .inr (5, fs_ra)), (li, .inr (3, fs_li)), (ho, .inr (4, fs_ho)), (dr, .inr (3, fs_dr)), (hd, .inr (4, fs_hd))]) hD hS hA [0, 1, 2, 3, 4, 5, 6, 7] rfl
        refine va_calli (va_runV (As := [.int p0, .int p1, .int 0]) (rest := []) ⟨hx, hb, hml, hown, hts⟩ (k_X11_openSettle l dC dI H.size h0 fs_h0 rd fs_rd tp fs_tp ra fs_ra li fs_li ho fs_ho dr fs_dr hd fs_hd p0 p1 0 hn_h0 hf_h0_0 hf_h0_3 hf_h0_8 hf_h0_9 hf_h0_10 hn_rd hf_rd_0 hn_tp hn_ra hn_li hf_li_2 hn_ho hn_dr hf_dr_2 hn_hd) (cwV 3 hts gX11_bracket_X11_openSettle rfl rfl rfl (by decide +kernel) ⟨Nat.le_of_ble_eq_true rfl, Nat.le_of_ble_eq_true rfl⟩) ⟨fun a U g mk q => by obtain ⟨q0, q1, qP, qK, qD⟩ := q; exact ⟨q0, q1, qP, va_K.moved (u := U) (U := U.calling g mk a) (Vm.Alike.refl U.vm) qK, qD⟩, va_recv hKc hPc (ci := 10) (q0 := 0) rfl rfl, fun U hU hW => ⟨rfl, by rw [hU], by rw [hU]; exact hPc, va_K.moved hW.alike hKc, hDc.weaken (fun _ _ _ _ => trivial)⟩⟩ rfl rfl hl.1 rfl (lv_room (Nat.le_of_ble_eq_true rfl)) dX11_bracket_27 ⟨Nat.le_of_ble_eq_true rfl, Nat.le_of_ble_eq_true rfl⟩) hS (fun q _ h => hFc q h) hFc (fun r_9 u t H1 locs ht hvm hw hB hz1 hk1 hS => ?_)
        obtain ⟨hP1, hK1, hD1⟩ := hB
        rw [ht] at hP1
        have hK1 := va_K.moved hvm.symm hK1
        obtain ⟨hP, hD⟩ := va_join (wr := []) (w1 := []) hP hD [0, 1, 2, 3, 4, 5, 6, 7] [] rfl rfl (by decide) (by decide) hk1 hFc hP1 hD1
        generalize H1 = H at hP hS ⊢
        have hP : va_P (dC, dI) vwCl [] H := hP
        have hD : va_D A [] := hD
        have er_9 : r_9 = 0 := hw
        subst er_9
        refine lv_if_ne (tgt := 37) hx hb dX11_bracket_30 (by decide) (fun c_10 => ?_) (fun c_10 => ?_)
        · exact absurd (by decide) c_10
        · refine lv_ldc2 (v := (-9223372036854775808)) hx hb hown (hts (.constantLong RX11 256 (-9223372036854775808)) (by decide +kernel)) dX11_bracket_33 ?_
          have hpost : ((-9223372036854775808) : Int64) = (-9223372036854775808) := rfl
          have hP9 := hP.sub (ws' := []) [] rfl
          have hD9 := hD.sub (ws' := []) [] (by decide) rfl
          have hK9 := hK.sub (tys' := []) [] rfl
          exact W.lret (v := (-9223372036854775808)) hx hb hr (fun t ht hW => ⟨⟨(-9223372036854775808), (), rfl, hpost, by rw [ht]; exact hP9, va_K.moved hW.alike hK9, hD9⟩, hS.F ht⟩) hS.2.2 dX11_bracket_36
      · refine lv_iconst (v := 1) hx hb dX11_bracket_22 (by decide) ?_
        refine lv_goto (tgt := 27) hx hb dX11_bracket_23 (by decide) ?_
        have hPc := hP.sub (ws' := [(h0, .inr (10, fs_h0)), (rd, .inr (6, fs_rd)), (tp, .inr (9, fs_tp)), (ra, .inr (5, fs_ra)), (li, .inr (3, fs_li)), (ho, .inr (4, fs_ho)), (dr, .inr (3, fs_dr)), (hd, .inr (4, fs_hd))]) [0, 1, 2, 3, 4, 5, 6, 7] rfl
        have hDc := hD.sub (ws' := [(h0, .inr (10, fs_h0)), (rd, .inr (6, fs_rd)), (tp, .inr (9, fs_tp)), (ra, .inr (5, fs_ra)), (li, .inr (3, fs_li)), (ho, .inr (4, fs_ho)), (dr, .inr (3, fs_dr)), (hd, .inr (4, fs_hd))]) [0, 1, 2, 3, 4, 5, 6, 7] (by decide) rfl
        have hKc := hK.sub (tys' := []) [] rfl
        have hFc := va_free (wc := [(h0, .inr (10, fs_h0)), (rd, .inr (6, fs_rd)), (tp, .inr (9, fs_tp)), (ra, .inr (5, fs_ra)), (li, .inr (3, fs_li)), (ho, .inr (4, fs_ho)), (dr, .inr (3, fs_dr)), (hd, .inr (4, fs_hd))]) hD hS hA [0, 1, 2, 3, 4, 5, 6, 7] rfl
        refine va_calli (va_runV (As := [.int p0, .int p1, .int 1]) (rest := []) ⟨hx, hb, hml, hown, hts⟩ (k_X11_openSettle l dC dI H.size h0 fs_h0 rd fs_rd tp fs_tp ra fs_ra li fs_li ho fs_ho dr fs_dr hd fs_hd p0 p1 1 hn_h0 hf_h0_0 hf_h0_3 hf_h0_8 hf_h0_9 hf_h0_10 hn_rd hf_rd_0 hn_tp hn_ra hn_li hf_li_2 hn_ho hn_dr hf_dr_2 hn_hd) (cwV 3 hts gX11_bracket_X11_openSettle rfl rfl rfl (by decide +kernel) ⟨Nat.le_of_ble_eq_true rfl, Nat.le_of_ble_eq_true rfl⟩) ⟨fun a U g mk q => by obtain ⟨q0, q1, qP, qK, qD⟩ := q; exact ⟨q0, q1, qP, va_K.moved (u := U) (U := U.calling g mk a) (Vm.Alike.refl U.vm) qK, qD⟩, va_recv hKc hPc (ci := 10) (q0 := 0) rfl rfl, fun U hU hW => ⟨rfl, by rw [hU], by rw [hU]; exact hPc, va_K.moved hW.alike hKc, hDc.weaken (fun _ _ _ _ => trivial)⟩⟩ rfl rfl hl.1 rfl (lv_room (Nat.le_of_ble_eq_true rfl)) dX11_bracket_27 ⟨Nat.le_of_ble_eq_true rfl, Nat.le_of_ble_eq_true rfl⟩) hS (fun q _ h => hFc q h) hFc (fun r_11 u t H1 locs ht hvm hw hB hz1 hk1 hS => ?_)
        obtain ⟨hP1, hK1, hD1⟩ := hB
        rw [ht] at hP1
        have hK1 := va_K.moved hvm.symm hK1
        obtain ⟨hP, hD⟩ := va_join (wr := []) (w1 := []) hP hD [0, 1, 2, 3, 4, 5, 6, 7] [] rfl rfl (by decide) (by decide) hk1 hFc hP1 hD1
        generalize H1 = H at hP hS ⊢
        have hP : va_P (dC, dI) vwCl [] H := hP
        have hD : va_D A [] := hD
        have er_11 : r_11 = 0 := hw
        subst er_11
        refine lv_if_ne (tgt := 37) hx hb dX11_bracket_30 (by decide) (fun c_12 => ?_) (fun c_12 => ?_)
        · exact absurd (by decide) c_12
        · refine lv_ldc2 (v := (-9223372036854775808)) hx hb hown (hts (.constantLong RX11 256 (-9223372036854775808)) (by decide +kernel)) dX11_bracket_33 ?_
          have hpost : ((-9223372036854775808) : Int64) = (-9223372036854775808) := rfl
          have hP9 := hP.sub (ws' := []) [] rfl
          have hD9 := hD.sub (ws' := []) [] (by decide) rfl
          have hK9 := hK.sub (tys' := []) [] rfl
          exact W.lret (v := (-9223372036854775808)) hx hb hr (fun t ht hW => ⟨⟨(-9223372036854775808), (), rfl, hpost, by rw [ht]; exact hP9, va_K.moved hW.alike hK9, hD9⟩, hS.F ht⟩) hS.2.2 dX11_bracket_36
set_option maxHeartbeats 4000000 in
set_option maxRecDepth 100000 in
theorem k_X11_narrows (l : Launch) (dC : Nat → ClassId) (dI : Nat → Nat → Nat) (sz : Nat) (h0 : Nat) (fs_h0 : List Value) (rd : Nat) (fs_rd : List Value) (tp : Nat) (fs_tp : List Value) (ra : Nat) (fs_ra : List Value) (li : Nat) (fs_li : List Value) (ho : Nat) (fs_ho : List Value) (dr : Nat) (fs_dr : List Value) (hd : Nat) (fs_hd : List Value) (p0 : Int32) (p1 : Int32) (p2 : Int32) (hn_h0 : fs_h0.length = 15) (hf_h0_0 : fs_h0[0]? = some (.ref rd)) (hf_h0_3 : fs_h0[3]? = some (.ref ra)) (hf_h0_8 : fs_h0[8]? = some (.ref li)) (hf_h0_9 : fs_h0[9]? = some (.ref dr)) (hf_h0_10 : fs_h0[10]? = some (.int 0)) (hn_rd : fs_rd.length = 5) (hf_rd_0 : fs_rd[0]? = some (.ref tp)) (hn_tp : fs_tp.length = 7) (hn_ra : fs_ra.length = 2) (hn_li : fs_li.length = 12) (hf_li_2 : fs_li[2]? = some (.ref ho)) (hn_ho : fs_ho.length = 2) (hn_dr : fs_dr.length = 12) (hf_dr_2 : fs_dr[2]? = some (.ref hd)) (hn_hd : fs_hd.length = 2) : Met l yX11_narrows wsX11_narrows ({ frames := 2, cells := 0, slots := 0, locals := 46 }) (va_Pc [.ref h0, .int p0, .int p1, .int p2] (fun U => U.heap.size = sz ∧ va_P (dC, dI) vwCl [(h0, .inr (10, fs_h0)), (rd, .inr (6, fs_rd)), (tp, .inr (9, fs_tp)), (ra, .inr (5, fs_ra)), (li, .inr (3, fs_li)), (ho, .inr (4, fs_ho)), (dr, .inr (3, fs_dr)), (hd, .inr (4, fs_hd))] U.heap ∧ va_K (dC, dI) vwCl [] U ∧ va_D (fun _ => True) [(h0, .inr (10, fs_h0)), (rd, .inr (6, fs_rd)), (tp, .inr (9, fs_tp)), (ra, .inr (5, fs_ra)), (li, .inr (3, fs_li)), (ho, .inr (4, fs_ho)), (dr, .inr (3, fs_dr)), (hd, .inr (4, fs_hd))])) (va_Qi (fun (r : Int32) (_ : Unit) => r = (-1)) (fun _ t => va_P (dC, dI) vwCl [] t.heap ∧ va_K (dC, dI) vwCl [] t ∧ va_D (va_A [(h0, .inr (10, fs_h0)), (rd, .inr (6, fs_rd)), (tp, .inr (9, fs_tp)), (ra, .inr (5, fs_ra)), (li, .inr (3, fs_li)), (ho, .inr (4, fs_ho)), (dr, .inr (3, fs_dr)), (hd, .inr (4, fs_hd))] sz) []) (va_A [(h0, .inr (10, fs_h0)), (rd, .inr (6, fs_rd)), (tp, .inr (9, fs_tp)), (ra, .inr (5, fs_ra)), (li, .inr (3, fs_li)), (ho, .inr (4, fs_ho)), (dr, .inr (3, fs_dr)), (hd, .inr (4, fs_hd))] sz)) 0 0 (va_A [(h0, .inr (10, fs_h0)), (rd, .inr (6, fs_rd)), (tp, .inr (9, fs_tp)), (ra, .inr (5, fs_ra)), (li, .inr (3, fs_li)), (ho, .inr (4, fs_ho)), (dr, .inr (3, fs_dr)), (hd, .inr (4, fs_hd))] sz) := by
  refine Met.ofW (cc := cX11_narrows) (maxL := 5) (ret := (some .int)) (by decide) rfl ?_
  intro p e s m args below meth c s₁ B hml hv
  obtain ⟨rfl, hsz, hP, hK, hD0⟩ := hv
  have hx := B.exec
  have hb := B.bytes
  have hr := B.returns
  have hts := atoms_spec (ws := wsX11_narrows) B.pre
  have hown : s.vm.findClass RX11 = some m.cls := findClass_of_methodNamed B.named
  have hlocks := B.notSynchronized
  subst hsz
  have hD := hD0.self (sz := s.heap.size)
  generalize hAe : va_A [(h0, .inr (10, fs_h0)), (rd, .inr (6, fs_rd)), (tp, .inr (9, fs_tp)), (ra, .inr (5, fs_ra)), (li, .inr (3, fs_li)), (ho, .inr (4, fs_ho)), (dr, .inr (3, fs_dr)), (hd, .inr (4, fs_hd))] s.heap.size = A at hD ⊢
  have hA : ∀ q : Nat, s.heap.size ≤ q → A q := fun q h => by rw [← hAe]; exact Or.inr h
  have hS : va_S A s.heap s.heap [] := va_S.rf
  have hP : va_P (dC, dI) vwCl [(h0, .inr (10, fs_h0)), (rd, .inr (6, fs_rd)), (tp, .inr (9, fs_tp)), (ra, .inr (5, fs_ra)), (li, .inr (3, fs_li)), (ho, .inr (4, fs_ho)), (dr, .inr (3, fs_dr)), (hd, .inr (4, fs_hd))] s.heap := hP
  have hl := lv_entry ([.ref h0, .int p0, .int p1, .int p2]) (n := 5) (Nat.le_of_ble_eq_true rfl)
  rw [lg_entry_eq]
  generalize (lg_sl ([.ref h0, .int p0, .int p1, .int p2]) ++ List.replicate (5 - (lg_sl ([.ref h0, .int p0, .int p1, .int p2])).length) Slot.unset).toArray = ls at hl ⊢
  have hl : lv_has ls 5 [(0, .ref h0), (1, .int p0), (2, .int p1), (3, .int p2)] := hl
  refine lv_aload_n hx hb dX11_narrows_0 rfl (lv_at hl 0 rfl) ?_
  refine lv_iload_n hx hb dX11_narrows_1 rfl (lv_at hl 1 rfl) ?_
  refine lv_iload_n hx hb dX11_narrows_2 rfl (lv_at hl 2 rfl) ?_
  refine lv_iload_n hx hb dX11_narrows_3 rfl (lv_at hl 3 rfl) ?_
  have hPc := hP.sub (ws' := []) [] rfl
  have hDc := hD.sub (ws' := []) [] (by decide) rfl
  have hKc := hK.sub (tys' := []) [] rfl
  have hFc := va_free (wc := []) hD hS hA [] rfl
  refine va_calli (va_runS (As := [.int p2]) (rest := [.int p1, .int p0, .ref h0]) ⟨hx, hb, hml, hown, hts⟩ (k_X11_isPrice l dC dI s.heap.size p2) (va_cwS 1 hts gX11_narrows_X11_isPrice rfl rfl rfl (by decide +kernel) ⟨Nat.le_of_ble_eq_true rfl, Nat.le_of_ble_eq_true rfl⟩) ⟨fun a U g mk q => by obtain ⟨q0, q1, qP, qK, qD⟩ := q; exact ⟨q0, q1, qP, va_K.moved (u := U) (U := U.calling g mk a) (Vm.Alike.refl U.vm) qK, qD⟩, fun U hU hW => ⟨rfl, by rw [hU], by rw [hU]; exact hPc, va_K.moved hW.alike hKc, hDc.weaken (fun _ _ _ _ => trivial)⟩⟩ rfl rfl hl.1 rfl (lv_room (Nat.le_of_ble_eq_true rfl)) dX11_narrows_4 ⟨Nat.le_of_ble_eq_true rfl, Nat.le_of_ble_eq_true rfl⟩) hS (fun q _ h => hFc q h) hFc (fun r_1 u t H1 locs ht hvm hw hB hz1 hk1 hS => ?_)
  obtain ⟨hP1, hK1, hD1⟩ := hB
  rw [ht] at hP1
  have hK1 := va_K.moved hvm.symm hK1
  obtain ⟨hP, hD⟩ := va_join (wr := [(h0, .inr (10, fs_h0)), (rd, .inr (6, fs_rd)), (tp, .inr (9, fs_tp)), (ra, .inr (5, fs_ra)), (li, .inr (3, fs_li)), (ho, .inr (4, fs_ho)), (dr, .inr (3, fs_dr)), (hd, .inr (4, fs_hd))]) (w1 := []) hP hD [] [0, 1, 2, 3, 4, 5, 6, 7] rfl rfl (by decide) (by decide) hk1 hFc hP1 hD1
  generalize H1 = H at hP hS ⊢
  have hP : va_P (dC, dI) vwCl [(h0, .inr (10, fs_h0)), (rd, .inr (6, fs_rd)), (tp, .inr (9, fs_tp)), (ra, .inr (5, fs_ra)), (li, .inr (3, fs_li)), (ho, .inr (4, fs_ho)), (dr, .inr (3, fs_dr)), (hd, .inr (4, fs_hd))] H := hP
  have hD : va_D A [(h0, .inr (10, fs_h0)), (rd, .inr (6, fs_rd)), (tp, .inr (9, fs_tp)), (ra, .inr (5, fs_ra)), (li, .inr (3, fs_li)), (ho, .inr (4, fs_ho)), (dr, .inr (3, fs_dr)), (hd, .inr (4, fs_hd))] := hD
  have er_1 : r_1 = f_X11_isPrice p2 := hw
  have hPc := hP.sub (ws' := [(h0, .inr (10, fs_h0)), (rd, .inr (6, fs_rd)), (tp, .inr (9, fs_tp)), (ra, .inr (5, fs_ra)), (li, .inr (3, fs_li)), (ho, .inr (4, fs_ho)), (dr, .inr (3, fs_dr)), (hd, .inr (4, fs_hd))]) [0, 1, 2, 3, 4, 5, 6, 7] rfl
  have hDc := hD.sub (ws' := [(h0, .inr (10, fs_h0)), (rd, .inr (6, fs_rd)), (tp, .inr (9, fs_tp)), (ra, .inr (5, fs_ra)), (li, .inr (3, fs_li)), (ho, .inr (4, fs_ho)), (dr, .inr (3, fs_dr)), (hd, .inr (4, fs_hd))]) [0, 1, 2, 3, 4, 5, 6, 7] (by decide) rfl
  have hKc := hK.sub (tys' := []) [] rfl
  have hFc := va_free (wc := [(h0, .inr (10, fs_h0)), (rd, .inr (6, fs_rd)), (tp, .inr (9, fs_tp)), (ra, .inr (5, fs_ra)), (li, .inr (3, fs_li)), (ho, .inr (4, fs_ho)), (dr, .inr (3, fs_dr)), (hd, .inr (4, fs_hd))]) hD hS hA [0, 1, 2, 3, 4, 5, 6, 7] rfl
  refine va_calli (va_runV (As := [.int p0, .int p1, .int r_1]) (rest := []) ⟨hx, hb, hml, hown, hts⟩ (k_X11_openSettle l dC dI H.size h0 fs_h0 rd fs_rd tp fs_tp ra fs_ra li fs_li ho fs_ho dr fs_dr hd fs_hd p0 p1 r_1 hn_h0 hf_h0_0 hf_h0_3 hf_h0_8 hf_h0_9 hf_h0_10 hn_rd hf_rd_0 hn_tp hn_ra hn_li hf_li_2 hn_ho hn_dr hf_dr_2 hn_hd) (cwV 3 hts gX11_narrows_X11_openSettle rfl rfl rfl (by decide +kernel) ⟨Nat.le_of_ble_eq_true rfl, Nat.le_of_ble_eq_true rfl⟩) ⟨fun a U g mk q => by obtain ⟨q0, q1, qP, qK, qD⟩ := q; exact ⟨q0, q1, qP, va_K.moved (u := U) (U := U.calling g mk a) (Vm.Alike.refl U.vm) qK, qD⟩, va_recv hKc hPc (ci := 10) (q0 := 0) rfl rfl, fun U hU hW => ⟨rfl, by rw [hU], by rw [hU]; exact hPc, va_K.moved hW.alike hKc, hDc.weaken (fun _ _ _ _ => trivial)⟩⟩ rfl rfl hl.1 rfl (lv_room (Nat.le_of_ble_eq_true rfl)) dX11_narrows_7 ⟨Nat.le_of_ble_eq_true rfl, Nat.le_of_ble_eq_true rfl⟩) hS (fun q _ h => hFc q h) hFc (fun r_2 u t H1 locs ht hvm hw hB hz1 hk1 hS => ?_)
  obtain ⟨hP1, hK1, hD1⟩ := hB
  rw [ht] at hP1
  have hK1 := va_K.moved hvm.symm hK1
  obtain ⟨hP, hD⟩ := va_join (wr := []) (w1 := []) hP hD [0, 1, 2, 3, 4, 5, 6, 7] [] rfl rfl (by decide) (by decide) hk1 hFc hP1 hD1
  generalize H1 = H at hP hS ⊢
  have hP : va_P (dC, dI) vwCl [] H := hP
  have hD : va_D A [] := hD
  have er_2 : r_2 = 0 := hw
  subst er_2
  refine lv_if_ne (tgt := 15) hx hb dX11_narrows_10 (by decide) (fun c_3 => ?_) (fun c_3 => ?_)
  · exact absurd (by decide) c_3
  · refine lv_iconst (v := (-1)) hx hb dX11_narrows_13 (by decide) ?_
    have hpost : ((-1) : Int32) = (-1) := rfl
    have hP9 := hP.sub (ws' := []) [] rfl
    have hD9 := hD.sub (ws' := []) [] (by decide) rfl
    have hK9 := hK.sub (tys' := []) [] rfl
    exact W.iret (v := (-1)) hx hb hr (fun t ht hW => ⟨⟨(-1), (), rfl, hpost, by rw [ht]; exact hP9, va_K.moved hW.alike hK9, hD9⟩, hS.F ht⟩) hS.2.2 dX11_narrows_14
set_option maxHeartbeats 4000000 in
set_option maxRecDepth 100000 in
theorem k_X11_pointsAt (l : Launch) (dC : Nat → ClassId) (dI : Nat → Nat → Nat) (sz : Nat) (h0 : Nat) (fs_h0 : List Value) (rd : Nat) (fs_rd : List Value) (tp : Nat) (fs_tp : List Value) (ra : Nat) (fs_ra : List Value) (li : Nat) (fs_li : List Value) (ho : Nat) (fs_ho : List Value) (dr : Nat) (fs_dr : List Value) (hd : Nat) (fs_hd : List Value) (p0 : Int32) (p1 : Int32) (p2 : Int32) (hn_h0 : fs_h0.length = 15) (hf_h0_0 : fs_h0[0]? = some (.ref rd)) (hf_h0_3 : fs_h0[3]? = some (.ref ra)) (hf_h0_8 : fs_h0[8]? = some (.ref li)) (hf_h0_9 : fs_h0[9]? = some (.ref dr)) (hf_h0_10 : fs_h0[10]? = some (.int 0)) (hn_rd : fs_rd.length = 5) (hf_rd_0 : fs_rd[0]? = some (.ref tp)) (hn_tp : fs_tp.length = 7) (hn_ra : fs_ra.length = 2) (hn_li : fs_li.length = 12) (hf_li_2 : fs_li[2]? = some (.ref ho)) (hn_ho : fs_ho.length = 2) (hn_dr : fs_dr.length = 12) (hf_dr_2 : fs_dr[2]? = some (.ref hd)) (hn_hd : fs_hd.length = 2) : Met l yX11_pointsAt wsX11_pointsAt ({ frames := 2, cells := 0, slots := 0, locals := 46 }) (va_Pc [.ref h0, .int p0, .int p1, .int p2] (fun U => U.heap.size = sz ∧ va_P (dC, dI) vwCl [(h0, .inr (10, fs_h0)), (rd, .inr (6, fs_rd)), (tp, .inr (9, fs_tp)), (ra, .inr (5, fs_ra)), (li, .inr (3, fs_li)), (ho, .inr (4, fs_ho)), (dr, .inr (3, fs_dr)), (hd, .inr (4, fs_hd))] U.heap ∧ va_K (dC, dI) vwCl [] U ∧ va_D (fun _ => True) [(h0, .inr (10, fs_h0)), (rd, .inr (6, fs_rd)), (tp, .inr (9, fs_tp)), (ra, .inr (5, fs_ra)), (li, .inr (3, fs_li)), (ho, .inr (4, fs_ho)), (dr, .inr (3, fs_dr)), (hd, .inr (4, fs_hd))])) (va_Qi (fun (r : Int32) (_ : Unit) => r = (-2147483648)) (fun _ t => va_P (dC, dI) vwCl [] t.heap ∧ va_K (dC, dI) vwCl [] t ∧ va_D (va_A [(h0, .inr (10, fs_h0)), (rd, .inr (6, fs_rd)), (tp, .inr (9, fs_tp)), (ra, .inr (5, fs_ra)), (li, .inr (3, fs_li)), (ho, .inr (4, fs_ho)), (dr, .inr (3, fs_dr)), (hd, .inr (4, fs_hd))] sz) []) (va_A [(h0, .inr (10, fs_h0)), (rd, .inr (6, fs_rd)), (tp, .inr (9, fs_tp)), (ra, .inr (5, fs_ra)), (li, .inr (3, fs_li)), (ho, .inr (4, fs_ho)), (dr, .inr (3, fs_dr)), (hd, .inr (4, fs_hd))] sz)) 0 0 (va_A [(h0, .inr (10, fs_h0)), (rd, .inr (6, fs_rd)), (tp, .inr (9, fs_tp)), (ra, .inr (5, fs_ra)), (li, .inr (3, fs_li)), (ho, .inr (4, fs_ho)), (dr, .inr (3, fs_dr)), (hd, .inr (4, fs_hd))] sz) := by
  refine Met.ofW (cc := cX11_pointsAt) (maxL := 10) (ret := (some .int)) (by decide) rfl ?_
  intro p e s m args below meth c s₁ B hml hv
  obtain ⟨rfl, hsz, hP, hK, hD0⟩ := hv
  have hx := B.exec
  have hb := B.bytes
  have hr := B.returns
  have hts := atoms_spec (ws := wsX11_pointsAt) B.pre
  have hown : s.vm.findClass RX11 = some m.cls := findClass_of_methodNamed B.named
  have hlocks := B.notSynchronized
  subst hsz
  have hD := hD0.self (sz := s.heap.size)
  generalize hAe : va_A [(h0, .inr (10, fs_h0)), (rd, .inr (6, fs_rd)), (tp, .inr (9, fs_tp)), (ra, .inr (5, fs_ra)), (li, .inr (3, fs_li)), (ho, .inr (4, fs_ho)), (dr, .inr (3, fs_dr)), (hd, .inr (4, fs_hd))] s.heap.size = A at hD ⊢
  have hA : ∀ q : Nat, s.heap.size ≤ q → A q := fun q h => by rw [← hAe]; exact Or.inr h
  have hS : va_S A s.heap s.heap [] := va_S.rf
  have hP : va_P (dC, dI) vwCl [(h0, .inr (10, fs_h0)), (rd, .inr (6, fs_rd)), (tp, .inr (9, fs_tp)), (ra, .inr (5, fs_ra)), (li, .inr (3, fs_li)), (ho, .inr (4, fs_ho)), (dr, .inr (3, fs_dr)), (hd, .inr (4, fs_hd))] s.heap := hP
  have hl := lv_entry ([.ref h0, .int p0, .int p1, .int p2]) (n := 10) (Nat.le_of_ble_eq_true rfl)
  rw [lg_entry_eq]
  generalize (lg_sl ([.ref h0, .int p0, .int p1, .int p2]) ++ List.replicate (10 - (lg_sl ([.ref h0, .int p0, .int p1, .int p2])).length) Slot.unset).toArray = ls at hl ⊢
  have hl : lv_has ls 10 [(0, .ref h0), (1, .int p0), (2, .int p1), (3, .int p2)] := hl
  refine lv_aload_n hx hb dX11_pointsAt_0 rfl (lv_at hl 0 rfl) ?_
  refine lv_iload_n hx hb dX11_pointsAt_1 rfl (lv_at hl 1 rfl) ?_
  refine lv_iload_n hx hb dX11_pointsAt_2 rfl (lv_at hl 2 rfl) ?_
  refine lv_iload_n hx hb dX11_pointsAt_3 rfl (lv_at hl 3 rfl) ?_
  have hPc := hP.sub (ws' := []) [] rfl
  have hDc := hD.sub (ws' := []) [] (by decide) rfl
  have hKc := hK.sub (tys' := []) [] rfl
  have hFc := va_free (wc := []) hD hS hA [] rfl
  refine va_calli (va_runS (As := [.int p2]) (rest := [.int p1, .int p0, .ref h0]) ⟨hx, hb, hml, hown, hts⟩ (k_X11_isPrice l dC dI s.heap.size p2) (va_cwS 1 hts gX11_pointsAt_X11_isPrice rfl rfl rfl (by decide +kernel) ⟨Nat.le_of_ble_eq_true rfl, Nat.le_of_ble_eq_true rfl⟩) ⟨fun a U g mk q => by obtain ⟨q0, q1, qP, qK, qD⟩ := q; exact ⟨q0, q1, qP, va_K.moved (u := U) (U := U.calling g mk a) (Vm.Alike.refl U.vm) qK, qD⟩, fun U hU hW => ⟨rfl, by rw [hU], by rw [hU]; exact hPc, va_K.moved hW.alike hKc, hDc.weaken (fun _ _ _ _ => trivial)⟩⟩ rfl rfl hl.1 rfl (lv_room (Nat.le_of_ble_eq_true rfl)) dX11_pointsAt_4 ⟨Nat.le_of_ble_eq_true rfl, Nat.le_of_ble_eq_true rfl⟩) hS (fun q _ h => hFc q h) hFc (fun r_1 u t H1 locs ht hvm hw hB hz1 hk1 hS => ?_)
  obtain ⟨hP1, hK1, hD1⟩ := hB
  rw [ht] at hP1
  have hK1 := va_K.moved hvm.symm hK1
  obtain ⟨hP, hD⟩ := va_join (wr := [(h0, .inr (10, fs_h0)), (rd, .inr (6, fs_rd)), (tp, .inr (9, fs_tp)), (ra, .inr (5, fs_ra)), (li, .inr (3, fs_li)), (ho, .inr (4, fs_ho)), (dr, .inr (3, fs_dr)), (hd, .inr (4, fs_hd))]) (w1 := []) hP hD [] [0, 1, 2, 3, 4, 5, 6, 7] rfl rfl (by decide) (by decide) hk1 hFc hP1 hD1
  generalize H1 = H at hP hS ⊢
  have hP : va_P (dC, dI) vwCl [(h0, .inr (10, fs_h0)), (rd, .inr (6, fs_rd)), (tp, .inr (9, fs_tp)), (ra, .inr (5, fs_ra)), (li, .inr (3, fs_li)), (ho, .inr (4, fs_ho)), (dr, .inr (3, fs_dr)), (hd, .inr (4, fs_hd))] H := hP
  have hD : va_D A [(h0, .inr (10, fs_h0)), (rd, .inr (6, fs_rd)), (tp, .inr (9, fs_tp)), (ra, .inr (5, fs_ra)), (li, .inr (3, fs_li)), (ho, .inr (4, fs_ho)), (dr, .inr (3, fs_dr)), (hd, .inr (4, fs_hd))] := hD
  have er_1 : r_1 = f_X11_isPrice p2 := hw
  have hPc := hP.sub (ws' := [(h0, .inr (10, fs_h0)), (rd, .inr (6, fs_rd)), (tp, .inr (9, fs_tp)), (ra, .inr (5, fs_ra)), (li, .inr (3, fs_li)), (ho, .inr (4, fs_ho)), (dr, .inr (3, fs_dr)), (hd, .inr (4, fs_hd))]) [0, 1, 2, 3, 4, 5, 6, 7] rfl
  have hDc := hD.sub (ws' := [(h0, .inr (10, fs_h0)), (rd, .inr (6, fs_rd)), (tp, .inr (9, fs_tp)), (ra, .inr (5, fs_ra)), (li, .inr (3, fs_li)), (ho, .inr (4, fs_ho)), (dr, .inr (3, fs_dr)), (hd, .inr (4, fs_hd))]) [0, 1, 2, 3, 4, 5, 6, 7] (by decide) rfl
  have hKc := hK.sub (tys' := []) [] rfl
  have hFc := va_free (wc := [(h0, .inr (10, fs_h0)), (rd, .inr (6, fs_rd)), (tp, .inr (9, fs_tp)), (ra, .inr (5, fs_ra)), (li, .inr (3, fs_li)), (ho, .inr (4, fs_ho)), (dr, .inr (3, fs_dr)), (hd, .inr (4, fs_hd))]) hD hS hA [0, 1, 2, 3, 4, 5, 6, 7] rfl
  refine va_calli (va_runV (As := [.int p0, .int p1, .int r_1]) (rest := []) ⟨hx, hb, hml, hown, hts⟩ (k_X11_openSettle l dC dI H.size h0 fs_h0 rd fs_rd tp fs_tp ra fs_ra li fs_li ho fs_ho dr fs_dr hd fs_hd p0 p1 r_1 hn_h0 hf_h0_0 hf_h0_3 hf_h0_8 hf_h0_9 hf_h0_10 hn_rd hf_rd_0 hn_tp hn_ra hn_li hf_li_2 hn_ho hn_dr hf_dr_2 hn_hd) (cwV 3 hts gX11_pointsAt_X11_openSettle rfl rfl rfl (by decide +kernel) ⟨Nat.le_of_ble_eq_true rfl, Nat.le_of_ble_eq_true rfl⟩) ⟨fun a U g mk q => by obtain ⟨q0, q1, qP, qK, qD⟩ := q; exact ⟨q0, q1, qP, va_K.moved (u := U) (U := U.calling g mk a) (Vm.Alike.refl U.vm) qK, qD⟩, va_recv hKc hPc (ci := 10) (q0 := 0) rfl rfl, fun U hU hW => ⟨rfl, by rw [hU], by rw [hU]; exact hPc, va_K.moved hW.alike hKc, hDc.weaken (fun _ _ _ _ => trivial)⟩⟩ rfl rfl hl.1 rfl (lv_room (Nat.le_of_ble_eq_true rfl)) dX11_pointsAt_7 ⟨Nat.le_of_ble_eq_true rfl, Nat.le_of_ble_eq_true rfl⟩) hS (fun q _ h => hFc q h) hFc (fun r_2 u t H1 locs ht hvm hw hB hz1 hk1 hS => ?_)
  obtain ⟨hP1, hK1, hD1⟩ := hB
  rw [ht] at hP1
  have hK1 := va_K.moved hvm.symm hK1
  obtain ⟨hP, hD⟩ := va_join (wr := []) (w1 := []) hP hD [0, 1, 2, 3, 4, 5, 6, 7] [] rfl rfl (by decide) (by decide) hk1 hFc hP1 hD1
  generalize H1 = H at hP hS ⊢
  have hP : va_P (dC, dI) vwCl [] H := hP
  have hD : va_D A [] := hD
  have er_2 : r_2 = 0 := hw
  subst er_2
  refine lv_if_ne (tgt := 16) hx hb dX11_pointsAt_10 (by decide) (fun c_3 => ?_) (fun c_3 => ?_)
  · exact absurd (by decide) c_3
  · refine lv_ldc (v := (-2147483648)) hx hb hown (hts (.constant RX11 135 (-2147483648)) (by decide +kernel)) dX11_pointsAt_13 ?_
    have hpost : ((-2147483648) : Int32) = (-2147483648) := rfl
    have hP9 := hP.sub (ws' := []) [] rfl
    have hD9 := hD.sub (ws' := []) [] (by decide) rfl
    have hK9 := hK.sub (tys' := []) [] rfl
    exact W.iret (v := (-2147483648)) hx hb hr (fun t ht hW => ⟨⟨(-2147483648), (), rfl, hpost, by rw [ht]; exact hP9, va_K.moved hW.alike hK9, hD9⟩, hS.F ht⟩) hS.2.2 dX11_pointsAt_15
set_option maxHeartbeats 4000000 in
set_option maxRecDepth 100000 in
theorem k_X11_quote (l : Launch) (dC : Nat → ClassId) (dI : Nat → Nat → Nat) (sz : Nat) (h0 : Nat) (fs_h0 : List Value) (p0 : Int32) (p1 : Int32) (hn_h0 : fs_h0.length = 15) (hf_h0_10 : fs_h0[10]? = some (.int 0)) : Met l yX11_quote wsX11_quote ({ frames := 1, cells := 0, slots := 0, locals := 21 }) (va_Pc [.ref h0, .int p0, .int p1] (fun U => U.heap.size = sz ∧ va_P (dC, dI) vwCl [(h0, .inr (10, fs_h0))] U.heap ∧ va_K (dC, dI) vwCl [] U ∧ va_D (fun _ => True) [(h0, .inr (10, fs_h0))])) (va_Qi (fun (r : Int32) (_ : Unit) => r = (-1)) (fun _ t => va_P (dC, dI) vwCl [] t.heap ∧ va_K (dC, dI) vwCl [] t ∧ va_D (va_A [(h0, .inr (10, fs_h0))] sz) []) (va_A [(h0, .inr (10, fs_h0))] sz)) 0 0 (va_A [(h0, .inr (10, fs_h0))] sz) := by
  refine Met.ofW (cc := cX11_quote) (maxL := 3) (ret := (some .int)) (by decide) rfl ?_
  intro p e s m args below meth c s₁ B hml hv
  obtain ⟨rfl, hsz, hP, hK, hD0⟩ := hv
  have hx := B.exec
  have hb := B.bytes
  have hr := B.returns
  have hts := atoms_spec (ws := wsX11_quote) B.pre
  have hown : s.vm.findClass RX11 = some m.cls := findClass_of_methodNamed B.named
  have hlocks := B.notSynchronized
  have hinX11 : ∀ w ∈ u_ws RX11 TX11 15, w ∈ wsX11_quote := (fun _ h9 => List.mem_cons_of_mem _ (List.mem_append_left _ (List.mem_append_right _ h9)))
  subst hsz
  have hD := hD0.self (sz := s.heap.size)
  generalize hAe : va_A [(h0, .inr (10, fs_h0))] s.heap.size = A at hD ⊢
  have hA : ∀ q : Nat, s.heap.size ≤ q → A q := fun q h => by rw [← hAe]; exact Or.inr h
  have hS : va_S A s.heap s.heap [] := va_S.rf
  have hP : va_P (dC, dI) vwCl [(h0, .inr (10, fs_h0))] s.heap := hP
  have hl := lv_entry ([.ref h0, .int p0, .int p1]) (n := 3) (Nat.le_of_ble_eq_true rfl)
  rw [lg_entry_eq]
  generalize (lg_sl ([.ref h0, .int p0, .int p1]) ++ List.replicate (3 - (lg_sl ([.ref h0, .int p0, .int p1])).length) Slot.unset).toArray = ls at hl ⊢
  have hl : lv_has ls 3 [(0, .ref h0), (1, .int p0), (2, .int p1)] := hl
  refine lv_aload_n hx hb dX11_quote_0 rfl (lv_at hl 0 rfl) ?_
  refine va_get (D := (dC, dI)) (ci := 10) (v := .int 0) (C := RX11) (T := TX11) (N := 15) hx hb hts hinX11 hown hK hP 0 rfl rfl 10 (by decide) (hts (.fieldLink RX11 67 "BondCalendars" "hasDesk" "Z") (by decide +kernel)) (fun _ h9 => h9) hf_h0_10 dX11_quote_1 ?_
  refine lv_if_eq (tgt := 27) hx hb dX11_quote_4 (by decide) (fun c_1 => ?_) (fun c_1 => ?_)
  · refine lv_aload_n hx hb dX11_quote_27 rfl (lv_at hl 0 rfl) ?_
    refine lv_iconst (v := 1) hx hb dX11_quote_28 (by decide) ?_
    have hPc := hP.sub (ws' := [(h0, .inr (10, fs_h0))]) [0] rfl
    have hDc := hD.sub (ws' := [(h0, .inr (10, fs_h0))]) [0] (by decide) rfl
    have hKc := hK.sub (tys' := []) [] rfl
    have hFc := va_free (wc := [(h0, .inr (10, fs_h0))]) hD hS hA [0] rfl
    refine va_calli (va_runV (As := [.int 1]) (rest := []) ⟨hx, hb, hml, hown, hts⟩ (k_X11_refuse l dC dI s.heap.size h0 fs_h0 1 hn_h0) (cwV 1 hts gX11_quote_X11_refuse rfl rfl rfl (by decide +kernel) ⟨Nat.le_of_ble_eq_true rfl, Nat.le_of_ble_eq_true rfl⟩) ⟨fun a U g mk q => by obtain ⟨q0, q1, qP, qK, qD⟩ := q; exact ⟨q0, q1, qP, va_K.moved (u := U) (U := U.calling g mk a) (Vm.Alike.refl U.vm) qK, qD⟩, va_recv hKc hPc (ci := 10) (q0 := 0) rfl rfl, fun U hU hW => ⟨rfl, by rw [hU], by rw [hU]; exact hPc, va_K.moved hW.alike hKc, hDc.weaken (fun _ _ _ _ => trivial)⟩⟩ rfl rfl hl.1 rfl (lv_room (Nat.le_of_ble_eq_true rfl)) dX11_quote_29 ⟨Nat.le_of_ble_eq_true rfl, Nat.le_of_ble_eq_true rfl⟩) hS (fun q _ h => hFc q h) hFc (fun r_2 u t H1 locs ht hvm hw hB hz1 hk1 hS => ?_)
    obtain ⟨hP1, hK1, hD1⟩ := hB
    rw [ht] at hP1
    have hK1 := va_K.moved hvm.symm hK1
    obtain ⟨hP, hD⟩ := va_join (wr := []) (w1 := []) hP hD [0] [] rfl rfl (by decide) (by decide) hk1 hFc hP1 hD1
    generalize H1 = H at hP hS ⊢
    have hP : va_P (dC, dI) vwCl [] H := hP
    have hD : va_D A [] := hD
    have er_2 : r_2 = (-1) := hw
    subst er_2
    have hpost : ((-1) : Int32) = (-1) := rfl
    have hP9 := hP.sub (ws' := []) [] rfl
    have hD9 := hD.sub (ws' := []) [] (by decide) rfl
    have hK9 := hK.sub (tys' := []) [] rfl
    exact W.iret (v := (-1)) hx hb hr (fun t ht hW => ⟨⟨(-1), (), rfl, hpost, by rw [ht]; exact hP9, va_K.moved hW.alike hK9, hD9⟩, hS.F ht⟩) hS.2.2 dX11_quote_32
  · exact absurd (by decide) c_1
set_option maxHeartbeats 4000000 in
set_option maxRecDepth 100000 in
theorem k_X11_off (l : Launch) (dC : Nat → ClassId) (dI : Nat → Nat → Nat) (sz : Nat) (h0 : Nat) (fs_h0 : List Value) (p0 : Int32) (hn_h0 : fs_h0.length = 15) (hf_h0_10 : fs_h0[10]? = some (.int 0)) : Met l yX11_off wsX11_off ({ frames := 1, cells := 0, slots := 0, locals := 21 }) (va_Pc [.ref h0, .int p0] (fun U => U.heap.size = sz ∧ va_P (dC, dI) vwCl [(h0, .inr (10, fs_h0))] U.heap ∧ va_K (dC, dI) vwCl [] U ∧ va_D (fun _ => True) [(h0, .inr (10, fs_h0))])) (va_Ql (fun (r : Int64) (_ : Unit) => r = (-9223372036854775808)) (fun _ t => va_P (dC, dI) vwCl [] t.heap ∧ va_K (dC, dI) vwCl [] t ∧ va_D (va_A [(h0, .inr (10, fs_h0))] sz) []) (va_A [(h0, .inr (10, fs_h0))] sz)) 0 0 (va_A [(h0, .inr (10, fs_h0))] sz) := by
  refine Met.ofW (cc := cX11_off) (maxL := 2) (ret := (some .long)) (by decide) rfl ?_
  intro p e s m args below meth c s₁ B hml hv
  obtain ⟨rfl, hsz, hP, hK, hD0⟩ := hv
  have hx := B.exec
  have hb := B.bytes
  have hr := B.returns
  have hts := atoms_spec (ws := wsX11_off) B.pre
  have hown : s.vm.findClass RX11 = some m.cls := findClass_of_methodNamed B.named
  have hlocks := B.notSynchronized
  have hinX11 : ∀ w ∈ u_ws RX11 TX11 15, w ∈ wsX11_off := (fun _ h9 => List.mem_cons_of_mem _ (List.mem_append_left _ (List.mem_append_left _ (List.mem_append_left _ (List.mem_append_right _ h9)))))
  subst hsz
  have hD := hD0.self (sz := s.heap.size)
  generalize hAe : va_A [(h0, .inr (10, fs_h0))] s.heap.size = A at hD ⊢
  have hA : ∀ q : Nat, s.heap.size ≤ q → A q := fun q h => by rw [← hAe]; exact Or.inr h
  have hS : va_S A s.heap s.heap [] := va_S.rf
  have hP : va_P (dC, dI) vwCl [(h0, .inr (10, fs_h0))] s.heap := hP
  have hl := lv_entry ([.ref h0, .int p0]) (n := 2) (Nat.le_of_ble_eq_true rfl)
  rw [lg_entry_eq]
  generalize (lg_sl ([.ref h0, .int p0]) ++ List.replicate (2 - (lg_sl ([.ref h0, .int p0])).length) Slot.unset).toArray = ls at hl ⊢
  have hl : lv_has ls 2 [(0, .ref h0), (1, .int p0)] := hl
  refine lv_aload_n hx hb dX11_off_0 rfl (lv_at hl 0 rfl) ?_
  refine va_get (D := (dC, dI)) (ci := 10) (v := .int 0) (C := RX11) (T := TX11) (N := 15) hx hb hts hinX11 hown hK hP 0 rfl rfl 10 (by decide) (hts (.fieldLink RX11 67 "BondCalendars" "hasDesk" "Z") (by decide +kernel)) (fun _ h9 => h9) hf_h0_10 dX11_off_1 ?_
  refine lv_if_ne (tgt := 13) hx hb dX11_off_4 (by decide) (fun c_1 => ?_) (fun c_1 => ?_)
  · exact absurd (by decide) c_1
  · refine lv_aload_n hx hb dX11_off_7 rfl (lv_at hl 0 rfl) ?_
    refine lv_iconst (v := 1) hx hb dX11_off_8 (by decide) ?_
    have hPc := hP.sub (ws' := [(h0, .inr (10, fs_h0))]) [0] rfl
    have hDc := hD.sub (ws' := [(h0, .inr (10, fs_h0))]) [0] (by decide) rfl
    have hKc := hK.sub (tys' := []) [] rfl
    have hFc := va_free (wc := [(h0, .inr (10, fs_h0))]) hD hS hA [0] rfl
    refine va_calll (va_runV (As := [.int 1]) (rest := []) ⟨hx, hb, hml, hown, hts⟩ (k_X11_refuseLong l dC dI s.heap.size h0 fs_h0 1 hn_h0) (cwV 1 hts gX11_off_X11_refuseLong rfl rfl rfl (by decide +kernel) ⟨Nat.le_of_ble_eq_true rfl, Nat.le_of_ble_eq_true rfl⟩) ⟨fun a U g mk q => by obtain ⟨q0, q1, qP, qK, qD⟩ := q; exact ⟨q0, q1, qP, va_K.moved (u := U) (U := U.calling g mk a) (Vm.Alike.refl U.vm) qK, qD⟩, va_recv hKc hPc (ci := 10) (q0 := 0) rfl rfl, fun U hU hW => ⟨rfl, by rw [hU], by rw [hU]; exact hPc, va_K.moved hW.alike hKc, hDc.weaken (fun _ _ _ _ => trivial)⟩⟩ rfl rfl hl.1 rfl (lv_room (Nat.le_of_ble_eq_true rfl)) dX11_off_9 ⟨Nat.le_of_ble_eq_true rfl, Nat.le_of_ble_eq_true rfl⟩) hS (fun q _ h => hFc q h) hFc (fun r_2 u t H1 locs ht hvm hw hB hz1 hk1 hS => ?_)
    obtain ⟨hP1, hK1, hD1⟩ := hB
    rw [ht] at hP1
    have hK1 := va_K.moved hvm.symm hK1
    obtain ⟨hP, hD⟩ := va_join (wr := []) (w1 := []) hP hD [0] [] rfl rfl (by decide) (by decide) hk1 hFc hP1 hD1
    generalize H1 = H at hP hS ⊢
    have hP : va_P (dC, dI) vwCl [] H := hP
    have hD : va_D A [] := hD
    have er_2 : r_2 = (-9223372036854775808) := hw
    subst er_2
    have hpost : ((-9223372036854775808) : Int64) = (-9223372036854775808) := rfl
    have hP9 := hP.sub (ws' := []) [] rfl
    have hD9 := hD.sub (ws' := []) [] (by decide) rfl
    have hK9 := hK.sub (tys' := []) [] rfl
    exact W.lret (v := (-9223372036854775808)) hx hb hr (fun t ht hW => ⟨⟨(-9223372036854775808), (), rfl, hpost, by rw [ht]; exact hP9, va_K.moved hW.alike hK9, hD9⟩, hS.F ht⟩) hS.2.2 dX11_off_12
set_option maxHeartbeats 4000000 in
set_option maxRecDepth 100000 in
theorem k_X11_flat (l : Launch) (dC : Nat → ClassId) (dI : Nat → Nat → Nat) (sz : Nat) (h0 : Nat) (fs_h0 : List Value) (hn_h0 : fs_h0.length = 15) (hf_h0_10 : fs_h0[10]? = some (.int 0)) : Met l yX11_flat wsX11_flat ({ frames := 1, cells := 0, slots := 0, locals := 21 }) (va_Pc [.ref h0] (fun U => U.heap.size = sz ∧ va_P (dC, dI) vwCl [(h0, .inr (10, fs_h0))] U.heap ∧ va_K (dC, dI) vwCl [] U ∧ va_D (fun _ => True) [(h0, .inr (10, fs_h0))])) (va_Qi (fun (r : Int32) (_ : Unit) => r = (-1)) (fun _ t => va_P (dC, dI) vwCl [] t.heap ∧ va_K (dC, dI) vwCl [] t ∧ va_D (va_A [(h0, .inr (10, fs_h0))] sz) []) (va_A [(h0, .inr (10, fs_h0))] sz)) 0 0 (va_A [(h0, .inr (10, fs_h0))] sz) := by
  refine Met.ofW (cc := cX11_flat) (maxL := 1) (ret := (some .int)) (by decide) rfl ?_
  intro p e s m args below meth c s₁ B hml hv
  obtain ⟨rfl, hsz, hP, hK, hD0⟩ := hv
  have hx := B.exec
  have hb := B.bytes
  have hr := B.returns
  have hts := atoms_spec (ws := wsX11_flat) B.pre
  have hown : s.vm.findClass RX11 = some m.cls := findClass_of_methodNamed B.named
  have hlocks := B.notSynchronized
  have hinX11 : ∀ w ∈ u_ws RX11 TX11 15, w ∈ wsX11_flat := (fun _ h9 => List.mem_cons_of_mem _ (List.mem_append_left _ (List.mem_append_left _ (List.mem_append_left _ (List.mem_append_right _ h9)))))
  subst hsz
  have hD := hD0.self (sz := s.heap.size)
  generalize hAe : va_A [(h0, .inr (10, fs_h0))] s.heap.size = A at hD ⊢
  have hA : ∀ q : Nat, s.heap.size ≤ q → A q := fun q h => by rw [← hAe]; exact Or.inr h
  have hS : va_S A s.heap s.heap [] := va_S.rf
  have hP : va_P (dC, dI) vwCl [(h0, .inr (10, fs_h0))] s.heap := hP
  have hl := lv_entry ([.ref h0]) (n := 1) (Nat.le_of_ble_eq_true rfl)
  rw [lg_entry_eq]
  generalize (lg_sl ([.ref h0]) ++ List.replicate (1 - (lg_sl ([.ref h0])).length) Slot.unset).toArray = ls at hl ⊢
  have hl : lv_has ls 1 [(0, .ref h0)] := hl
  refine lv_aload_n hx hb dX11_flat_0 rfl (lv_at hl 0 rfl) ?_
  refine va_get (D := (dC, dI)) (ci := 10) (v := .int 0) (C := RX11) (T := TX11) (N := 15) hx hb hts hinX11 hown hK hP 0 rfl rfl 10 (by decide) (hts (.fieldLink RX11 67 "BondCalendars" "hasDesk" "Z") (by decide +kernel)) (fun _ h9 => h9) hf_h0_10 dX11_flat_1 ?_
  refine lv_if_ne (tgt := 13) hx hb dX11_flat_4 (by decide) (fun c_1 => ?_) (fun c_1 => ?_)
  · exact absurd (by decide) c_1
  · refine lv_aload_n hx hb dX11_flat_7 rfl (lv_at hl 0 rfl) ?_
    refine lv_iconst (v := 1) hx hb dX11_flat_8 (by decide) ?_
    have hPc := hP.sub (ws' := [(h0, .inr (10, fs_h0))]) [0] rfl
    have hDc := hD.sub (ws' := [(h0, .inr (10, fs_h0))]) [0] (by decide) rfl
    have hKc := hK.sub (tys' := []) [] rfl
    have hFc := va_free (wc := [(h0, .inr (10, fs_h0))]) hD hS hA [0] rfl
    refine va_calli (va_runV (As := [.int 1]) (rest := []) ⟨hx, hb, hml, hown, hts⟩ (k_X11_refuse l dC dI s.heap.size h0 fs_h0 1 hn_h0) (cwV 1 hts gX11_flat_X11_refuse rfl rfl rfl (by decide +kernel) ⟨Nat.le_of_ble_eq_true rfl, Nat.le_of_ble_eq_true rfl⟩) ⟨fun a U g mk q => by obtain ⟨q0, q1, qP, qK, qD⟩ := q; exact ⟨q0, q1, qP, va_K.moved (u := U) (U := U.calling g mk a) (Vm.Alike.refl U.vm) qK, qD⟩, va_recv hKc hPc (ci := 10) (q0 := 0) rfl rfl, fun U hU hW => ⟨rfl, by rw [hU], by rw [hU]; exact hPc, va_K.moved hW.alike hKc, hDc.weaken (fun _ _ _ _ => trivial)⟩⟩ rfl rfl hl.1 rfl (lv_room (Nat.le_of_ble_eq_true rfl)) dX11_flat_9 ⟨Nat.le_of_ble_eq_true rfl, Nat.le_of_ble_eq_true rfl⟩) hS (fun q _ h => hFc q h) hFc (fun r_2 u t H1 locs ht hvm hw hB hz1 hk1 hS => ?_)
    obtain ⟨hP1, hK1, hD1⟩ := hB
    rw [ht] at hP1
    have hK1 := va_K.moved hvm.symm hK1
    obtain ⟨hP, hD⟩ := va_join (wr := []) (w1 := []) hP hD [0] [] rfl rfl (by decide) (by decide) hk1 hFc hP1 hD1
    generalize H1 = H at hP hS ⊢
    have hP : va_P (dC, dI) vwCl [] H := hP
    have hD : va_D A [] := hD
    have er_2 : r_2 = (-1) := hw
    subst er_2
    have hpost : ((-1) : Int32) = (-1) := rfl
    have hP9 := hP.sub (ws' := []) [] rfl
    have hD9 := hD.sub (ws' := []) [] (by decide) rfl
    have hK9 := hK.sub (tys' := []) [] rfl
    exact W.iret (v := (-1)) hx hb hr (fun t ht hW => ⟨⟨(-1), (), rfl, hpost, by rw [ht]; exact hP9, va_K.moved hW.alike hK9, hD9⟩, hS.F ht⟩) hS.2.2 dX11_flat_12
set_option maxHeartbeats 4000000 in
set_option maxRecDepth 100000 in
theorem k_X11_cheapest (l : Launch) (dC : Nat → ClassId) (dI : Nat → Nat → Nat) (sz : Nat) (h0 : Nat) (fs_h0 : List Value) (hn_h0 : fs_h0.length = 15) (hf_h0_10 : fs_h0[10]? = some (.int 0)) : Met l yX11_cheapest wsX11_cheapest ({ frames := 1, cells := 0, slots := 0, locals := 21 }) (va_Pc [.ref h0] (fun U => U.heap.size = sz ∧ va_P (dC, dI) vwCl [(h0, .inr (10, fs_h0))] U.heap ∧ va_K (dC, dI) vwCl [] U ∧ va_D (fun _ => True) [(h0, .inr (10, fs_h0))])) (va_Qi (fun (r : Int32) (_ : Unit) => r = (-1)) (fun _ t => va_P (dC, dI) vwCl [] t.heap ∧ va_K (dC, dI) vwCl [] t ∧ va_D (va_A [(h0, .inr (10, fs_h0))] sz) []) (va_A [(h0, .inr (10, fs_h0))] sz)) 0 0 (va_A [(h0, .inr (10, fs_h0))] sz) := by
  refine Met.ofW (cc := cX11_cheapest) (maxL := 5) (ret := (some .int)) (by decide) rfl ?_
  intro p e s m args below meth c s₁ B hml hv
  obtain ⟨rfl, hsz, hP, hK, hD0⟩ := hv
  have hx := B.exec
  have hb := B.bytes
  have hr := B.returns
  have hts := atoms_spec (ws := wsX11_cheapest) B.pre
  have hown : s.vm.findClass RX11 = some m.cls := findClass_of_methodNamed B.named
  have hlocks := B.notSynchronized
  have hinX11 : ∀ w ∈ u_ws RX11 TX11 15, w ∈ wsX11_cheapest := (fun _ h9 => List.mem_cons_of_mem _ (List.mem_append_left _ (List.mem_append_left _ (List.mem_append_left _ (List.mem_append_left _ (List.mem_append_right _ h9))))))
  subst hsz
  have hD := hD0.self (sz := s.heap.size)
  generalize hAe : va_A [(h0, .inr (10, fs_h0))] s.heap.size = A at hD ⊢
  have hA : ∀ q : Nat, s.heap.size ≤ q → A q := fun q h => by rw [← hAe]; exact Or.inr h
  have hS : va_S A s.heap s.heap [] := va_S.rf
  have hP : va_P (dC, dI) vwCl [(h0, .inr (10, fs_h0))] s.heap := hP
  have hl := lv_entry ([.ref h0]) (n := 5) (Nat.le_of_ble_eq_true rfl)
  rw [lg_entry_eq]
  generalize (lg_sl ([.ref h0]) ++ List.replicate (5 - (lg_sl ([.ref h0])).length) Slot.unset).toArray = ls at hl ⊢
  have hl : lv_has ls 5 [(0, .ref h0)] := hl
  refine lv_aload_n hx hb dX11_cheapest_0 rfl (lv_at hl 0 rfl) ?_
  refine va_get (D := (dC, dI)) (ci := 10) (v := .int 0) (C := RX11) (T := TX11) (N := 15) hx hb hts hinX11 hown hK hP 0 rfl rfl 10 (by decide) (hts (.fieldLink RX11 67 "BondCalendars" "hasDesk" "Z") (by decide +kernel)) (fun _ h9 => h9) hf_h0_10 dX11_cheapest_1 ?_
  refine lv_if_ne (tgt := 13) hx hb dX11_cheapest_4 (by decide) (fun c_1 => ?_) (fun c_1 => ?_)
  · exact absurd (by decide) c_1
  · refine lv_aload_n hx hb dX11_cheapest_7 rfl (lv_at hl 0 rfl) ?_
    refine lv_iconst (v := 1) hx hb dX11_cheapest_8 (by decide) ?_
    have hPc := hP.sub (ws' := [(h0, .inr (10, fs_h0))]) [0] rfl
    have hDc := hD.sub (ws' := [(h0, .inr (10, fs_h0))]) [0] (by decide) rfl
    have hKc := hK.sub (tys' := []) [] rfl
    have hFc := va_free (wc := [(h0, .inr (10, fs_h0))]) hD hS hA [0] rfl
    refine va_calli (va_runV (As := [.int 1]) (rest := []) ⟨hx, hb, hml, hown, hts⟩ (k_X11_refuse l dC dI s.heap.size h0 fs_h0 1 hn_h0) (cwV 1 hts gX11_cheapest_X11_refuse rfl rfl rfl (by decide +kernel) ⟨Nat.le_of_ble_eq_true rfl, Nat.le_of_ble_eq_true rfl⟩) ⟨fun a U g mk q => by obtain ⟨q0, q1, qP, qK, qD⟩ := q; exact ⟨q0, q1, qP, va_K.moved (u := U) (U := U.calling g mk a) (Vm.Alike.refl U.vm) qK, qD⟩, va_recv hKc hPc (ci := 10) (q0 := 0) rfl rfl, fun U hU hW => ⟨rfl, by rw [hU], by rw [hU]; exact hPc, va_K.moved hW.alike hKc, hDc.weaken (fun _ _ _ _ => trivial)⟩⟩ rfl rfl hl.1 rfl (lv_room (Nat.le_of_ble_eq_true rfl)) dX11_cheapest_9 ⟨Nat.le_of_ble_eq_true rfl, Nat.le_of_ble_eq_true rfl⟩) hS (fun q _ h => hFc q h) hFc (fun r_2 u t H1 locs ht hvm hw hB hz1 hk1 hS => ?_)
    obtain ⟨hP1, hK1, hD1⟩ := hB
    rw [ht] at hP1
    have hK1 := va_K.moved hvm.symm hK1
    obtain ⟨hP, hD⟩ := va_join (wr := []) (w1 := []) hP hD [0] [] rfl rfl (by decide) (by decide) hk1 hFc hP1 hD1
    generalize H1 = H at hP hS ⊢
    have hP : va_P (dC, dI) vwCl [] H := hP
    have hD : va_D A [] := hD
    have er_2 : r_2 = (-1) := hw
    subst er_2
    have hpost : ((-1) : Int32) = (-1) := rfl
    have hP9 := hP.sub (ws' := []) [] rfl
    have hD9 := hD.sub (ws' := []) [] (by decide) rfl
    have hK9 := hK.sub (tys' := []) [] rfl
    exact W.iret (v := (-1)) hx hb hr (fun t ht hW => ⟨⟨(-1), (), rfl, hpost, by rw [ht]; exact hP9, va_K.moved hW.alike hK9, hD9⟩, hS.F ht⟩) hS.2.2 dX11_cheapest_12
set_option maxHeartbeats 4000000 in
set_option maxRecDepth 100000 in
theorem k_X11_now (l : Launch) (dC : Nat → ClassId) (dI : Nat → Nat → Nat) (sz : Nat) (h0 : Nat) (fs_h0 : List Value) (hn_h0 : fs_h0.length = 15) (hf_h0_10 : fs_h0[10]? = some (.int 0)) : Met l yX11_now wsX11_now ({ frames := 1, cells := 0, slots := 0, locals := 21 }) (va_Pc [.ref h0] (fun U => U.heap.size = sz ∧ va_P (dC, dI) vwCl [(h0, .inr (10, fs_h0))] U.heap ∧ va_K (dC, dI) vwCl [] U ∧ va_D (fun _ => True) [(h0, .inr (10, fs_h0))])) (va_Qi (fun (r : Int32) (_ : Unit) => r = (-1)) (fun _ t => va_P (dC, dI) vwCl [] t.heap ∧ va_K (dC, dI) vwCl [] t ∧ va_D (va_A [(h0, .inr (10, fs_h0))] sz) []) (va_A [(h0, .inr (10, fs_h0))] sz)) 0 0 (va_A [(h0, .inr (10, fs_h0))] sz) := by
  refine Met.ofW (cc := cX11_now) (maxL := 1) (ret := (some .int)) (by decide) rfl ?_
  intro p e s m args below meth c s₁ B hml hv
  obtain ⟨rfl, hsz, hP, hK, hD0⟩ := hv
  have hx := B.exec
  have hb := B.bytes
  have hr := B.returns
  have hts := atoms_spec (ws := wsX11_now) B.pre
  have hown : s.vm.findClass RX11 = some m.cls := findClass_of_methodNamed B.named
  have hlocks := B.notSynchronized
  have hinX11 : ∀ w ∈ u_ws RX11 TX11 15, w ∈ wsX11_now := (fun _ h9 => List.mem_cons_of_mem _ (List.mem_append_left _ (List.mem_append_right _ h9)))
  subst hsz
  have hD := hD0.self (sz := s.heap.size)
  generalize hAe : va_A [(h0, .inr (10, fs_h0))] s.heap.size = A at hD ⊢
  have hA : ∀ q : Nat, s.heap.size ≤ q → A q := fun q h => by rw [← hAe]; exact Or.inr h
  have hS : va_S A s.heap s.heap [] := va_S.rf
  have hP : va_P (dC, dI) vwCl [(h0, .inr (10, fs_h0))] s.heap := hP
  have hl := lv_entry ([.ref h0]) (n := 1) (Nat.le_of_ble_eq_true rfl)
  rw [lg_entry_eq]
  generalize (lg_sl ([.ref h0]) ++ List.replicate (1 - (lg_sl ([.ref h0])).length) Slot.unset).toArray = ls at hl ⊢
  have hl : lv_has ls 1 [(0, .ref h0)] := hl
  refine lv_aload_n hx hb dX11_now_0 rfl (lv_at hl 0 rfl) ?_
  refine va_get (D := (dC, dI)) (ci := 10) (v := .int 0) (C := RX11) (T := TX11) (N := 15) hx hb hts hinX11 hown hK hP 0 rfl rfl 10 (by decide) (hts (.fieldLink RX11 67 "BondCalendars" "hasDesk" "Z") (by decide +kernel)) (fun _ h9 => h9) hf_h0_10 dX11_now_1 ?_
  refine lv_if_ne (tgt := 13) hx hb dX11_now_4 (by decide) (fun c_1 => ?_) (fun c_1 => ?_)
  · exact absurd (by decide) c_1
  · refine lv_aload_n hx hb dX11_now_7 rfl (lv_at hl 0 rfl) ?_
    refine lv_iconst (v := 1) hx hb dX11_now_8 (by decide) ?_
    have hPc := hP.sub (ws' := [(h0, .inr (10, fs_h0))]) [0] rfl
    have hDc := hD.sub (ws' := [(h0, .inr (10, fs_h0))]) [0] (by decide) rfl
    have hKc := hK.sub (tys' := []) [] rfl
    have hFc := va_free (wc := [(h0, .inr (10, fs_h0))]) hD hS hA [0] rfl
    refine va_calli (va_runV (As := [.int 1]) (rest := []) ⟨hx, hb, hml, hown, hts⟩ (k_X11_refuse l dC dI s.heap.size h0 fs_h0 1 hn_h0) (cwV 1 hts gX11_now_X11_refuse rfl rfl rfl (by decide +kernel) ⟨Nat.le_of_ble_eq_true rfl, Nat.le_of_ble_eq_true rfl⟩) ⟨fun a U g mk q => by obtain ⟨q0, q1, qP, qK, qD⟩ := q; exact ⟨q0, q1, qP, va_K.moved (u := U) (U := U.calling g mk a) (Vm.Alike.refl U.vm) qK, qD⟩, va_recv hKc hPc (ci := 10) (q0 := 0) rfl rfl, fun U hU hW => ⟨rfl, by rw [hU], by rw [hU]; exact hPc, va_K.moved hW.alike hKc, hDc.weaken (fun _ _ _ _ => trivial)⟩⟩ rfl rfl hl.1 rfl (lv_room (Nat.le_of_ble_eq_true rfl)) dX11_now_9 ⟨Nat.le_of_ble_eq_true rfl, Nat.le_of_ble_eq_true rfl⟩) hS (fun q _ h => hFc q h) hFc (fun r_2 u t H1 locs ht hvm hw hB hz1 hk1 hS => ?_)
    obtain ⟨hP1, hK1, hD1⟩ := hB
    rw [ht] at hP1
    have hK1 := va_K.moved hvm.symm hK1
    obtain ⟨hP, hD⟩ := va_join (wr := []) (w1 := []) hP hD [0] [] rfl rfl (by decide) (by decide) hk1 hFc hP1 hD1
    generalize H1 = H at hP hS ⊢
    have hP : va_P (dC, dI) vwCl [] H := hP
    have hD : va_D A [] := hD
    have er_2 : r_2 = (-1) := hw
    subst er_2
    have hpost : ((-1) : Int32) = (-1) := rfl
    have hP9 := hP.sub (ws' := []) [] rfl
    have hD9 := hD.sub (ws' := []) [] (by decide) rfl
    have hK9 := hK.sub (tys' := []) [] rfl
    exact W.iret (v := (-1)) hx hb hr (fun t ht hW => ⟨⟨(-1), (), rfl, hpost, by rw [ht]; exact hP9, va_K.moved hW.alike hK9, hD9⟩, hS.F ht⟩) hS.2.2 dX11_now_12
set_option maxHeartbeats 4000000 in
set_option maxRecDepth 100000 in
theorem k_X11_cash (l : Launch) (dC : Nat → ClassId) (dI : Nat → Nat → Nat) (sz : Nat) (h0 : Nat) (fs_h0 : List Value) (hn_h0 : fs_h0.length = 15) (hf_h0_10 : fs_h0[10]? = some (.int 0)) : Met l yX11_cash wsX11_cash ({ frames := 1, cells := 0, slots := 0, locals := 21 }) (va_Pc [.ref h0] (fun U => U.heap.size = sz ∧ va_P (dC, dI) vwCl [(h0, .inr (10, fs_h0))] U.heap ∧ va_K (dC, dI) vwCl [] U ∧ va_D (fun _ => True) [(h0, .inr (10, fs_h0))])) (va_Ql (fun (r : Int64) (_ : Unit) => r = (-9223372036854775808)) (fun _ t => va_P (dC, dI) vwCl [] t.heap ∧ va_K (dC, dI) vwCl [] t ∧ va_D (va_A [(h0, .inr (10, fs_h0))] sz) []) (va_A [(h0, .inr (10, fs_h0))] sz)) 0 0 (va_A [(h0, .inr (10, fs_h0))] sz) := by
  refine Met.ofW (cc := cX11_cash) (maxL := 1) (ret := (some .long)) (by decide) rfl ?_
  intro p e s m args below meth c s₁ B hml hv
  obtain ⟨rfl, hsz, hP, hK, hD0⟩ := hv
  have hx := B.exec
  have hb := B.bytes
  have hr := B.returns
  have hts := atoms_spec (ws := wsX11_cash) B.pre
  have hown : s.vm.findClass RX11 = some m.cls := findClass_of_methodNamed B.named
  have hlocks := B.notSynchronized
  have hinX11 : ∀ w ∈ u_ws RX11 TX11 15, w ∈ wsX11_cash := (fun _ h9 => List.mem_cons_of_mem _ (List.mem_append_left _ (List.mem_append_right _ h9)))
  subst hsz
  have hD := hD0.self (sz := s.heap.size)
  generalize hAe : va_A [(h0, .inr (10, fs_h0))] s.heap.size = A at hD ⊢
  have hA : ∀ q : Nat, s.heap.size ≤ q → A q := fun q h => by rw [← hAe]; exact Or.inr h
  have hS : va_S A s.heap s.heap [] := va_S.rf
  have hP : va_P (dC, dI) vwCl [(h0, .inr (10, fs_h0))] s.heap := hP
  have hl := lv_entry ([.ref h0]) (n := 1) (Nat.le_of_ble_eq_true rfl)
  rw [lg_entry_eq]
  generalize (lg_sl ([.ref h0]) ++ List.replicate (1 - (lg_sl ([.ref h0])).length) Slot.unset).toArray = ls at hl ⊢
  have hl : lv_has ls 1 [(0, .ref h0)] := hl
  refine lv_aload_n hx hb dX11_cash_0 rfl (lv_at hl 0 rfl) ?_
  refine va_get (D := (dC, dI)) (ci := 10) (v := .int 0) (C := RX11) (T := TX11) (N := 15) hx hb hts hinX11 hown hK hP 0 rfl rfl 10 (by decide) (hts (.fieldLink RX11 67 "BondCalendars" "hasDesk" "Z") (by decide +kernel)) (fun _ h9 => h9) hf_h0_10 dX11_cash_1 ?_
  refine lv_if_ne (tgt := 13) hx hb dX11_cash_4 (by decide) (fun c_1 => ?_) (fun c_1 => ?_)
  · exact absurd (by decide) c_1
  · refine lv_aload_n hx hb dX11_cash_7 rfl (lv_at hl 0 rfl) ?_
    refine lv_iconst (v := 1) hx hb dX11_cash_8 (by decide) ?_
    have hPc := hP.sub (ws' := [(h0, .inr (10, fs_h0))]) [0] rfl
    have hDc := hD.sub (ws' := [(h0, .inr (10, fs_h0))]) [0] (by decide) rfl
    have hKc := hK.sub (tys' := []) [] rfl
    have hFc := va_free (wc := [(h0, .inr (10, fs_h0))]) hD hS hA [0] rfl
    refine va_calll (va_runV (As := [.int 1]) (rest := []) ⟨hx, hb, hml, hown, hts⟩ (k_X11_refuseLong l dC dI s.heap.size h0 fs_h0 1 hn_h0) (cwV 1 hts gX11_cash_X11_refuseLong rfl rfl rfl (by decide +kernel) ⟨Nat.le_of_ble_eq_true rfl, Nat.le_of_ble_eq_true rfl⟩) ⟨fun a U g mk q => by obtain ⟨q0, q1, qP, qK, qD⟩ := q; exact ⟨q0, q1, qP, va_K.moved (u := U) (U := U.calling g mk a) (Vm.Alike.refl U.vm) qK, qD⟩, va_recv hKc hPc (ci := 10) (q0 := 0) rfl rfl, fun U hU hW => ⟨rfl, by rw [hU], by rw [hU]; exact hPc, va_K.moved hW.alike hKc, hDc.weaken (fun _ _ _ _ => trivial)⟩⟩ rfl rfl hl.1 rfl (lv_room (Nat.le_of_ble_eq_true rfl)) dX11_cash_9 ⟨Nat.le_of_ble_eq_true rfl, Nat.le_of_ble_eq_true rfl⟩) hS (fun q _ h => hFc q h) hFc (fun r_2 u t H1 locs ht hvm hw hB hz1 hk1 hS => ?_)
    obtain ⟨hP1, hK1, hD1⟩ := hB
    rw [ht] at hP1
    have hK1 := va_K.moved hvm.symm hK1
    obtain ⟨hP, hD⟩ := va_join (wr := []) (w1 := []) hP hD [0] [] rfl rfl (by decide) (by decide) hk1 hFc hP1 hD1
    generalize H1 = H at hP hS ⊢
    have hP : va_P (dC, dI) vwCl [] H := hP
    have hD : va_D A [] := hD
    have er_2 : r_2 = (-9223372036854775808) := hw
    subst er_2
    have hpost : ((-9223372036854775808) : Int64) = (-9223372036854775808) := rfl
    have hP9 := hP.sub (ws' := []) [] rfl
    have hD9 := hD.sub (ws' := []) [] (by decide) rfl
    have hK9 := hK.sub (tys' := []) [] rfl
    exact W.lret (v := (-9223372036854775808)) hx hb hr (fun t ht hW => ⟨⟨(-9223372036854775808), (), rfl, hpost, by rw [ht]; exact hP9, va_K.moved hW.alike hK9, hD9⟩, hS.F ht⟩) hS.2.2 dX11_cash_12
set_option maxHeartbeats 4000000 in
set_option maxRecDepth 100000 in
theorem k_X11_holding (l : Launch) (dC : Nat → ClassId) (dI : Nat → Nat → Nat) (sz : Nat) (h0 : Nat) (fs_h0 : List Value) (rd : Nat) (fs_rd : List Value) (tp : Nat) (fs_tp : List Value) (ra : Nat) (fs_ra : List Value) (li : Nat) (fs_li : List Value) (ho : Nat) (fs_ho : List Value) (dr : Nat) (fs_dr : List Value) (hd : Nat) (fs_hd : List Value) (p0 : Int32) (hn_h0 : fs_h0.length = 15) (hf_h0_0 : fs_h0[0]? = some (.ref rd)) (hf_h0_3 : fs_h0[3]? = some (.ref ra)) (hf_h0_8 : fs_h0[8]? = some (.ref li)) (hf_h0_9 : fs_h0[9]? = some (.ref dr)) (hf_h0_10 : fs_h0[10]? = some (.int 0)) (hn_rd : fs_rd.length = 5) (hf_rd_0 : fs_rd[0]? = some (.ref tp)) (hn_tp : fs_tp.length = 7) (hn_ra : fs_ra.length = 2) (hn_li : fs_li.length = 12) (hf_li_2 : fs_li[2]? = some (.ref ho)) (hn_ho : fs_ho.length = 2) (hn_dr : fs_dr.length = 12) (hf_dr_2 : fs_dr[2]? = some (.ref hd)) (hn_hd : fs_hd.length = 2) : Met l yX11_holding wsX11_holding ({ frames := 1, cells := 0, slots := 0, locals := 21 }) (va_Pc [.ref h0, .int p0] (fun U => U.heap.size = sz ∧ va_P (dC, dI) vwCl [(h0, .inr (10, fs_h0)), (rd, .inr (6, fs_rd)), (tp, .inr (9, fs_tp)), (ra, .inr (5, fs_ra)), (li, .inr (3, fs_li)), (ho, .inr (4, fs_ho)), (dr, .inr (3, fs_dr)), (hd, .inr (4, fs_hd))] U.heap ∧ va_K (dC, dI) vwCl [] U ∧ va_D (fun _ => True) [(h0, .inr (10, fs_h0)), (rd, .inr (6, fs_rd)), (tp, .inr (9, fs_tp)), (ra, .inr (5, fs_ra)), (li, .inr (3, fs_li)), (ho, .inr (4, fs_ho)), (dr, .inr (3, fs_dr)), (hd, .inr (4, fs_hd))])) (va_Qi (fun (r : Int32) (_ : Unit) => r = (-1)) (fun _ t => va_P (dC, dI) vwCl [] t.heap ∧ va_K (dC, dI) vwCl [] t ∧ va_D (va_A [(h0, .inr (10, fs_h0)), (rd, .inr (6, fs_rd)), (tp, .inr (9, fs_tp)), (ra, .inr (5, fs_ra)), (li, .inr (3, fs_li)), (ho, .inr (4, fs_ho)), (dr, .inr (3, fs_dr)), (hd, .inr (4, fs_hd))] sz) []) (va_A [(h0, .inr (10, fs_h0)), (rd, .inr (6, fs_rd)), (tp, .inr (9, fs_tp)), (ra, .inr (5, fs_ra)), (li, .inr (3, fs_li)), (ho, .inr (4, fs_ho)), (dr, .inr (3, fs_dr)), (hd, .inr (4, fs_hd))] sz)) 0 0 (va_A [(h0, .inr (10, fs_h0)), (rd, .inr (6, fs_rd)), (tp, .inr (9, fs_tp)), (ra, .inr (5, fs_ra)), (li, .inr (3, fs_li)), (ho, .inr (4, fs_ho)), (dr, .inr (3, fs_dr)), (hd, .inr (4, fs_hd))] sz) := by
  refine Met.ofW (cc := cX11_holding) (maxL := 2) (ret := (some .int)) (by decide) rfl ?_
  intro p e s m args below meth c s₁ B hml hv
  obtain ⟨rfl, hsz, hP, hK, hD0⟩ := hv
  have hx := B.exec
  have hb := B.bytes
  have hr := B.returns
  have hts := atoms_spec (ws := wsX11_holding) B.pre
  have hown : s.vm.findClass RX11 = some m.cls := findClass_of_methodNamed B.named
  have hlocks := B.notSynchronized
  subst hsz
  have hD := hD0.self (sz := s.heap.size)
  generalize hAe : va_A [(h0, .inr (10, fs_h0)), (rd, .inr (6, fs_rd)), (tp, .inr (9, fs_tp)), (ra, .inr (5, fs_ra)), (li, .inr (3, fs_li)), (ho, .inr (4, fs_ho)), (dr, .inr (3, fs_dr)), (hd, .inr (4, fs_hd))] s.heap.size = A at hD ⊢
  have hA : ∀ q : Nat, s.heap.size ≤ q → A q := fun q h => by rw [← hAe]; exact Or.inr h
  have hS : va_S A s.heap s.heap [] := va_S.rf
  have hP : va_P (dC, dI) vwCl [(h0, .inr (10, fs_h0)), (rd, .inr (6, fs_rd)), (tp, .inr (9, fs_tp)), (ra, .inr (5, fs_ra)), (li, .inr (3, fs_li)), (ho, .inr (4, fs_ho)), (dr, .inr (3, fs_dr)), (hd, .inr (4, fs_hd))] s.heap := hP
  have hl := lv_entry ([.ref h0, .int p0]) (n := 2) (Nat.le_of_ble_eq_true rfl)
  rw [lg_entry_eq]
  generalize (lg_sl ([.ref h0, .int p0]) ++ List.replicate (2 - (lg_sl ([.ref h0, .int p0])).length) Slot.unset).toArray = ls at hl ⊢
  have hl : lv_has ls 2 [(0, .ref h0), (1, .int p0)] := hl
  refine lv_aload_n hx hb dX11_holding_0 rfl (lv_at hl 0 rfl) ?_
  refine lv_iload_n hx hb dX11_holding_1 rfl (lv_at hl 1 rfl) ?_
  have hPc := hP.sub (ws' := [(h0, .inr (10, fs_h0)), (rd, .inr (6, fs_rd)), (tp, .inr (9, fs_tp)), (ra, .inr (5, fs_ra)), (li, .inr (3, fs_li)), (ho, .inr (4, fs_ho)), (dr, .inr (3, fs_dr)), (hd, .inr (4, fs_hd))]) [0, 1, 2, 3, 4, 5, 6, 7] rfl
  have hDc := hD.sub (ws' := [(h0, .inr (10, fs_h0)), (rd, .inr (6, fs_rd)), (tp, .inr (9, fs_tp)), (ra, .inr (5, fs_ra)), (li, .inr (3, fs_li)), (ho, .inr (4, fs_ho)), (dr, .inr (3, fs_dr)), (hd, .inr (4, fs_hd))]) [0, 1, 2, 3, 4, 5, 6, 7] (by decide) rfl
  have hKc := hK.sub (tys' := []) [] rfl
  have hFc := va_free (wc := [(h0, .inr (10, fs_h0)), (rd, .inr (6, fs_rd)), (tp, .inr (9, fs_tp)), (ra, .inr (5, fs_ra)), (li, .inr (3, fs_li)), (ho, .inr (4, fs_ho)), (dr, .inr (3, fs_dr)), (hd, .inr (4, fs_hd))]) hD hS hA [0, 1, 2, 3, 4, 5, 6, 7] rfl
  refine va_callq (va_runV (As := [.int p0]) (rest := []) ⟨hx, hb, hml, hown, hts⟩ (k_X11_bondOf l dC dI s.heap.size h0 fs_h0 rd fs_rd tp fs_tp ra fs_ra li fs_li ho fs_ho dr fs_dr hd fs_hd p0 hn_h0 hf_h0_10 hn_rd hn_tp hn_ra hn_li hn_ho hn_dr hn_hd) (cwV 1 hts gX11_holding_X11_bondOf rfl rfl rfl (by decide +kernel) ⟨Nat.le_of_ble_eq_true rfl, Nat.le_of_ble_eq_true rfl⟩) ⟨fun a U g mk q => by obtain ⟨q0, q1, qP, qK, qD⟩ := q; exact ⟨q0, q1, qP, va_K.moved (u := U) (U := U.calling g mk a) (Vm.Alike.refl U.vm) qK, qD⟩, va_recv hKc hPc (ci := 10) (q0 := 0) rfl rfl, fun U hU hW => ⟨rfl, by rw [hU], by rw [hU]; exact hPc, va_K.moved hW.alike hKc, hDc.weaken (fun _ _ _ _ => trivial)⟩⟩ rfl rfl hl.1 rfl (lv_room (Nat.le_of_ble_eq_true rfl)) dX11_holding_2 ⟨Nat.le_of_ble_eq_true rfl, Nat.le_of_ble_eq_true rfl⟩) hS (fun q _ h => hFc q h) hFc (fun r_1 u t H1 locs ht hvm hw hB hz1 hk1 hS => ?_)
  obtain ⟨hP1, hK1, hD1⟩ := hB
  rw [ht] at hP1
  have hK1 := va_K.moved hvm.symm hK1
  obtain ⟨hP, hD⟩ := va_join (wr := []) (w1 := [(h0, .inr (10, fs_h0)), (rd, .inr (6, fs_rd)), (tp, .inr (9, fs_tp)), (ra, .inr (5, fs_ra)), (li, .inr (3, fs_li)), (ho, .inr (4, fs_ho)), (dr, .inr (3, fs_dr)), (hd, .inr (4, fs_hd))]) hP hD [0, 1, 2, 3, 4, 5, 6, 7] [] rfl rfl (by decide) (by decide) hk1 hFc hP1 hD1
  generalize H1 = H at hP hS ⊢
  have hP : va_P (dC, dI) vwCl [(h0, .inr (10, fs_h0)), (rd, .inr (6, fs_rd)), (tp, .inr (9, fs_tp)), (ra, .inr (5, fs_ra)), (li, .inr (3, fs_li)), (ho, .inr (4, fs_ho)), (dr, .inr (3, fs_dr)), (hd, .inr (4, fs_hd))] H := hP
  have hD : va_D A [(h0, .inr (10, fs_h0)), (rd, .inr (6, fs_rd)), (tp, .inr (9, fs_tp)), (ra, .inr (5, fs_ra)), (li, .inr (3, fs_li)), (ho, .inr (4, fs_ho)), (dr, .inr (3, fs_dr)), (hd, .inr (4, fs_hd))] := hD
  subst hw
  refine W.eq (g2 := F0 m 5 ls [.null]) rfl ?_
  refine lv_ifnonnullN hx hb dX11_holding_5 ?_
  refine lv_aload_n hx hb dX11_holding_8 rfl (lv_at hl 0 rfl) ?_
  refine lv_iconst (v := 1) hx hb dX11_holding_9 (by decide) ?_
  have hPc := hP.sub (ws' := [(h0, .inr (10, fs_h0))]) [0] rfl
  have hDc := hD.sub (ws' := [(h0, .inr (10, fs_h0))]) [0] (by decide) rfl
  have hKc := hK.sub (tys' := []) [] rfl
  have hFc := va_free (wc := [(h0, .inr (10, fs_h0))]) hD hS hA [0] rfl
  refine va_calli (va_runV (As := [.int 1]) (rest := []) ⟨hx, hb, hml, hown, hts⟩ (k_X11_refuse l dC dI H.size h0 fs_h0 1 hn_h0) (cwV 1 hts gX11_holding_X11_refuse rfl rfl rfl (by decide +kernel) ⟨Nat.le_of_ble_eq_true rfl, Nat.le_of_ble_eq_true rfl⟩) ⟨fun a U g mk q => by obtain ⟨q0, q1, qP, qK, qD⟩ := q; exact ⟨q0, q1, qP, va_K.moved (u := U) (U := U.calling g mk a) (Vm.Alike.refl U.vm) qK, qD⟩, va_recv hKc hPc (ci := 10) (q0 := 0) rfl rfl, fun U hU hW => ⟨rfl, by rw [hU], by rw [hU]; exact hPc, va_K.moved hW.alike hKc, hDc.weaken (fun _ _ _ _ => trivial)⟩⟩ rfl rfl hl.1 rfl (lv_room (Nat.le_of_ble_eq_true rfl)) dX11_holding_10 ⟨Nat.le_of_ble_eq_true rfl, Nat.le_of_ble_eq_true rfl⟩) hS (fun q _ h => hFc q h) hFc (fun r_2 u t H1 locs ht hvm hw hB hz1 hk1 hS => ?_)
  obtain ⟨hP1, hK1, hD1⟩ := hB
  rw [ht] at hP1
  have hK1 := va_K.moved hvm.symm hK1
  obtain ⟨hP, hD⟩ := va_join (wr := [(rd, .inr (6, fs_rd)), (tp, .inr (9, fs_tp)), (ra, .inr (5, fs_ra)), (li, .inr (3, fs_li)), (ho, .inr (4, fs_ho)), (dr, .inr (3, fs_dr)), (hd, .inr (4, fs_hd))]) (w1 := []) hP hD [0] [1, 2, 3, 4, 5, 6, 7] rfl rfl (by decide) (by decide) hk1 hFc hP1 hD1
  generalize H1 = H at hP hS ⊢
  have hP : va_P (dC, dI) vwCl [(rd, .inr (6, fs_rd)), (tp, .inr (9, fs_tp)), (ra, .inr (5, fs_ra)), (li, .inr (3, fs_li)), (ho, .inr (4, fs_ho)), (dr, .inr (3, fs_dr)), (hd, .inr (4, fs_hd))] H := hP
  have hD : va_D A [(rd, .inr (6, fs_rd)), (tp, .inr (9, fs_tp)), (ra, .inr (5, fs_ra)), (li, .inr (3, fs_li)), (ho, .inr (4, fs_ho)), (dr, .inr (3, fs_dr)), (hd, .inr (4, fs_hd))] := hD
  have er_2 : r_2 = (-1) := hw
  subst er_2
  have hpost : ((-1) : Int32) = (-1) := rfl
  have hP9 := hP.sub (ws' := []) [] rfl
  have hD9 := hD.sub (ws' := []) [] (by decide) rfl
  have hK9 := hK.sub (tys' := []) [] rfl
  exact W.iret (v := (-1)) hx hb hr (fun t ht hW => ⟨⟨(-1), (), rfl, hpost, by rw [ht]; exact hP9, va_K.moved hW.alike hK9, hD9⟩, hS.F ht⟩) hS.2.2 dX11_holding_13
set_option maxHeartbeats 4000000 in
set_option maxRecDepth 100000 in
theorem k_X11_worth (l : Launch) (dC : Nat → ClassId) (dI : Nat → Nat → Nat) (sz : Nat) (h0 : Nat) (fs_h0 : List Value) (p0 : Int32) (hn_h0 : fs_h0.length = 15) (hf_h0_10 : fs_h0[10]? = some (.int 0)) : Met l yX11_worth wsX11_worth ({ frames := 1, cells := 0, slots := 0, locals := 21 }) (va_Pc [.ref h0, .int p0] (fun U => U.heap.size = sz ∧ va_P (dC, dI) vwCl [(h0, .inr (10, fs_h0))] U.heap ∧ va_K (dC, dI) vwCl [] U ∧ va_D (fun _ => True) [(h0, .inr (10, fs_h0))])) (va_Ql (fun (r : Int64) (_ : Unit) => r = (-9223372036854775808)) (fun _ t => va_P (dC, dI) vwCl [] t.heap ∧ va_K (dC, dI) vwCl [] t ∧ va_D (va_A [(h0, .inr (10, fs_h0))] sz) []) (va_A [(h0, .inr (10, fs_h0))] sz)) 0 0 (va_A [(h0, .inr (10, fs_h0))] sz) := by
  refine Met.ofW (cc := cX11_worth) (maxL := 5) (ret := (some .long)) (by decide) rfl ?_
  intro p e s m args below meth c s₁ B hml hv
  obtain ⟨rfl, hsz, hP, hK, hD0⟩ := hv
  have hx := B.exec
  have hb := B.bytes
  have hr := B.returns
  have hts := atoms_spec (ws := wsX11_worth) B.pre
  have hown : s.vm.findClass RX11 = some m.cls := findClass_of_methodNamed B.named
  have hlocks := B.notSynchronized
  have hinX11 : ∀ w ∈ u_ws RX11 TX11 15, w ∈ wsX11_worth := (fun _ h9 => List.mem_cons_of_mem _ (List.mem_append_left _ (List.mem_append_left _ (List.mem_append_left _ (List.mem_append_left _ (List.mem_append_left _ (List.mem_append_right _ h9)))))))
  subst hsz
  have hD := hD0.self (sz := s.heap.size)
  generalize hAe : va_A [(h0, .inr (10, fs_h0))] s.heap.size = A at hD ⊢
  have hA : ∀ q : Nat, s.heap.size ≤ q → A q := fun q h => by rw [← hAe]; exact Or.inr h
  have hS : va_S A s.heap s.heap [] := va_S.rf
  have hP : va_P (dC, dI) vwCl [(h0, .inr (10, fs_h0))] s.heap := hP
  have hl := lv_entry ([.ref h0, .int p0]) (n := 5) (Nat.le_of_ble_eq_true rfl)
  rw [lg_entry_eq]
  generalize (lg_sl ([.ref h0, .int p0]) ++ List.replicate (5 - (lg_sl ([.ref h0, .int p0])).length) Slot.unset).toArray = ls at hl ⊢
  have hl : lv_has ls 5 [(0, .ref h0), (1, .int p0)] := hl
  refine lv_aload_n hx hb dX11_worth_0 rfl (lv_at hl 0 rfl) ?_
  refine va_get (D := (dC, dI)) (ci := 10) (v := .int 0) (C := RX11) (T := TX11) (N := 15) hx hb hts hinX11 hown hK hP 0 rfl rfl 10 (by decide) (hts (.fieldLink RX11 67 "BondCalendars" "hasDesk" "Z") (by decide +kernel)) (fun _ h9 => h9) hf_h0_10 dX11_worth_1 ?_
  refine lv_if_ne (tgt := 13) hx hb dX11_worth_4 (by decide) (fun c_1 => ?_) (fun c_1 => ?_)
  · exact absurd (by decide) c_1
  · refine lv_aload_n hx hb dX11_worth_7 rfl (lv_at hl 0 rfl) ?_
    refine lv_iconst (v := 1) hx hb dX11_worth_8 (by decide) ?_
    have hPc := hP.sub (ws' := [(h0, .inr (10, fs_h0))]) [0] rfl
    have hDc := hD.sub (ws' := [(h0, .inr (10, fs_h0))]) [0] (by decide) rfl
    have hKc := hK.sub (tys' := []) [] rfl
    have hFc := va_free (wc := [(h0, .inr (10, fs_h0))]) hD hS hA [0] rfl
    refine va_calll (va_runV (As := [.int 1]) (rest := []) ⟨hx, hb, hml, hown, hts⟩ (k_X11_refuseLong l dC dI s.heap.size h0 fs_h0 1 hn_h0) (cwV 1 hts gX11_worth_X11_refuseLong rfl rfl rfl (by decide +kernel) ⟨Nat.le_of_ble_eq_true rfl, Nat.le_of_ble_eq_true rfl⟩) ⟨fun a U g mk q => by obtain ⟨q0, q1, qP, qK, qD⟩ := q; exact ⟨q0, q1, qP, va_K.moved (u := U) (U := U.calling g mk a) (Vm.Alike.refl U.vm) qK, qD⟩, va_recv hKc hPc (ci := 10) (q0 := 0) rfl rfl, fun U hU hW => ⟨rfl, by rw [hU], by rw [hU]; exact hPc, va_K.moved hW.alike hKc, hDc.weaken (fun _ _ _ _ => trivial)⟩⟩ rfl rfl hl.1 rfl (lv_room (Nat.le_of_ble_eq_true rfl)) dX11_worth_9 ⟨Nat.le_of_ble_eq_true rfl, Nat.le_of_ble_eq_true rfl⟩) hS (fun q _ h => hFc q h) hFc (fun r_2 u t H1 locs ht hvm hw hB hz1 hk1 hS => ?_)
    obtain ⟨hP1, hK1, hD1⟩ := hB
    rw [ht] at hP1
    have hK1 := va_K.moved hvm.symm hK1
    obtain ⟨hP, hD⟩ := va_join (wr := []) (w1 := []) hP hD [0] [] rfl rfl (by decide) (by decide) hk1 hFc hP1 hD1
    generalize H1 = H at hP hS ⊢
    have hP : va_P (dC, dI) vwCl [] H := hP
    have hD : va_D A [] := hD
    have er_2 : r_2 = (-9223372036854775808) := hw
    subst er_2
    have hpost : ((-9223372036854775808) : Int64) = (-9223372036854775808) := rfl
    have hP9 := hP.sub (ws' := []) [] rfl
    have hD9 := hD.sub (ws' := []) [] (by decide) rfl
    have hK9 := hK.sub (tys' := []) [] rfl
    exact W.lret (v := (-9223372036854775808)) hx hb hr (fun t ht hW => ⟨⟨(-9223372036854775808), (), rfl, hpost, by rw [ht]; exact hP9, va_K.moved hW.alike hK9, hD9⟩, hS.F ht⟩) hS.2.2 dX11_worth_12
set_option maxHeartbeats 4000000 in
set_option maxRecDepth 100000 in
theorem k_X11_deal (l : Launch) (dC : Nat → ClassId) (dI : Nat → Nat → Nat) (sz : Nat) (h0 : Nat) (fs_h0 : List Value) (rd : Nat) (fs_rd : List Value) (tp : Nat) (fs_tp : List Value) (ra : Nat) (fs_ra : List Value) (li : Nat) (fs_li : List Value) (ho : Nat) (fs_ho : List Value) (dr : Nat) (fs_dr : List Value) (hd : Nat) (fs_hd : List Value) (p0 : Int32) (p1 : Int32) (p2 : Int32) (hn_h0 : fs_h0.length = 15) (hf_h0_0 : fs_h0[0]? = some (.ref rd)) (hf_h0_3 : fs_h0[3]? = some (.ref ra)) (hf_h0_8 : fs_h0[8]? = some (.ref li)) (hf_h0_9 : fs_h0[9]? = some (.ref dr)) (hf_h0_10 : fs_h0[10]? = some (.int 0)) (hn_rd : fs_rd.length = 5) (hf_rd_0 : fs_rd[0]? = some (.ref tp)) (hn_tp : fs_tp.length = 7) (hn_ra : fs_ra.length = 2) (hn_li : fs_li.length = 12) (hf_li_2 : fs_li[2]? = some (.ref ho)) (hn_ho : fs_ho.length = 2) (hn_dr : fs_dr.length = 12) (hf_dr_2 : fs_dr[2]? = some (.ref hd)) (hn_hd : fs_hd.length = 2) : Met l yX11_deal wsX11_deal ({ frames := 1, cells := 0, slots := 0, locals := 21 }) (va_Pc [.ref h0, .int p0, .int p1, .int p2] (fun U => U.heap.size = sz ∧ va_P (dC, dI) vwCl [(h0, .inr (10, fs_h0)), (rd, .inr (6, fs_rd)), (tp, .inr (9, fs_tp)), (ra, .inr (5, fs_ra)), (li, .inr (3, fs_li)), (ho, .inr (4, fs_ho)), (dr, .inr (3, fs_dr)), (hd, .inr (4, fs_hd))] U.heap ∧ va_K (dC, dI) vwCl [] U ∧ va_D (fun _ => True) [(h0, .inr (10, fs_h0)), (rd, .inr (6, fs_rd)), (tp, .inr (9, fs_tp)), (ra, .inr (5, fs_ra)), (li, .inr (3, fs_li)), (ho, .inr (4, fs_ho)), (dr, .inr (3, fs_dr)), (hd, .inr (4, fs_hd))])) (va_Ql (fun (r : Int64) (_ : Unit) => r = (-9223372036854775808)) (fun _ t => va_P (dC, dI) vwCl [] t.heap ∧ va_K (dC, dI) vwCl [] t ∧ va_D (va_A [(h0, .inr (10, fs_h0)), (rd, .inr (6, fs_rd)), (tp, .inr (9, fs_tp)), (ra, .inr (5, fs_ra)), (li, .inr (3, fs_li)), (ho, .inr (4, fs_ho)), (dr, .inr (3, fs_dr)), (hd, .inr (4, fs_hd))] sz) []) (va_A [(h0, .inr (10, fs_h0)), (rd, .inr (6, fs_rd)), (tp, .inr (9, fs_tp)), (ra, .inr (5, fs_ra)), (li, .inr (3, fs_li)), (ho, .inr (4, fs_ho)), (dr, .inr (3, fs_dr)), (hd, .inr (4, fs_hd))] sz)) 0 0 (va_A [(h0, .inr (10, fs_h0)), (rd, .inr (6, fs_rd)), (tp, .inr (9, fs_tp)), (ra, .inr (5, fs_ra)), (li, .inr (3, fs_li)), (ho, .inr (4, fs_ho)), (dr, .inr (3, fs_dr)), (hd, .inr (4, fs_hd))] sz) := by
  refine Met.ofW (cc := cX11_deal) (maxL := 8) (ret := (some .long)) (by decide) rfl ?_
  intro p e s m args below meth c s₁ B hml hv
  obtain ⟨rfl, hsz, hP, hK, hD0⟩ := hv
  have hx := B.exec
  have hb := B.bytes
  have hr := B.returns
  have hts := atoms_spec (ws := wsX11_deal) B.pre
  have hown : s.vm.findClass RX11 = some m.cls := findClass_of_methodNamed B.named
  have hlocks := B.notSynchronized
  subst hsz
  have hD := hD0.self (sz := s.heap.size)
  generalize hAe : va_A [(h0, .inr (10, fs_h0)), (rd, .inr (6, fs_rd)), (tp, .inr (9, fs_tp)), (ra, .inr (5, fs_ra)), (li, .inr (3, fs_li)), (ho, .inr (4, fs_ho)), (dr, .inr (3, fs_dr)), (hd, .inr (4, fs_hd))] s.heap.size = A at hD ⊢
  have hA : ∀ q : Nat, s.heap.size ≤ q → A q := fun q h => by rw [← hAe]; exact Or.inr h
  have hS : va_S A s.heap s.heap [] := va_S.rf
  have hP : va_P (dC, dI) vwCl [(h0, .inr (10, fs_h0)), (rd, .inr (6, fs_rd)), (tp, .inr (9, fs_tp)), (ra, .inr (5, fs_ra)), (li, .inr (3, fs_li)), (ho, .inr (4, fs_ho)), (dr, .inr (3, fs_dr)), (hd, .inr (4, fs_hd))] s.heap := hP
  have hl := lv_entry ([.ref h0, .int p0, .int p1, .int p2]) (n := 8) (Nat.le_of_ble_eq_true rfl)
  rw [lg_entry_eq]
  generalize (lg_sl ([.ref h0, .int p0, .int p1, .int p2]) ++ List.replicate (8 - (lg_sl ([.ref h0, .int p0, .int p1, .int p2])).length) Slot.unset).toArray = ls at hl ⊢
  have hl : lv_has ls 8 [(0, .ref h0), (1, .int p0), (2, .int p1), (3, .int p2)] := hl
  refine lv_aload_n hx hb dX11_deal_0 rfl (lv_at hl 0 rfl) ?_
  refine lv_iload_n hx hb dX11_deal_1 rfl (lv_at hl 1 rfl) ?_
  have hPc := hP.sub (ws' := [(h0, .inr (10, fs_h0)), (rd, .inr (6, fs_rd)), (tp, .inr (9, fs_tp)), (ra, .inr (5, fs_ra)), (li, .inr (3, fs_li)), (ho, .inr (4, fs_ho)), (dr, .inr (3, fs_dr)), (hd, .inr (4, fs_hd))]) [0, 1, 2, 3, 4, 5, 6, 7] rfl
  have hDc := hD.sub (ws' := [(h0, .inr (10, fs_h0)), (rd, .inr (6, fs_rd)), (tp, .inr (9, fs_tp)), (ra, .inr (5, fs_ra)), (li, .inr (3, fs_li)), (ho, .inr (4, fs_ho)), (dr, .inr (3, fs_dr)), (hd, .inr (4, fs_hd))]) [0, 1, 2, 3, 4, 5, 6, 7] (by decide) rfl
  have hKc := hK.sub (tys' := []) [] rfl
  have hFc := va_free (wc := [(h0, .inr (10, fs_h0)), (rd, .inr (6, fs_rd)), (tp, .inr (9, fs_tp)), (ra, .inr (5, fs_ra)), (li, .inr (3, fs_li)), (ho, .inr (4, fs_ho)), (dr, .inr (3, fs_dr)), (hd, .inr (4, fs_hd))]) hD hS hA [0, 1, 2, 3, 4, 5, 6, 7] rfl
  refine va_callq (va_runV (As := [.int p0]) (rest := []) ⟨hx, hb, hml, hown, hts⟩ (k_X11_bondOf l dC dI s.heap.size h0 fs_h0 rd fs_rd tp fs_tp ra fs_ra li fs_li ho fs_ho dr fs_dr hd fs_hd p0 hn_h0 hf_h0_10 hn_rd hn_tp hn_ra hn_li hn_ho hn_dr hn_hd) (cwV 1 hts gX11_deal_X11_bondOf rfl rfl rfl (by decide +kernel) ⟨Nat.le_of_ble_eq_true rfl, Nat.le_of_ble_eq_true rfl⟩) ⟨fun a U g mk q => by obtain ⟨q0, q1, qP, qK, qD⟩ := q; exact ⟨q0, q1, qP, va_K.moved (u := U) (U := U.calling g mk a) (Vm.Alike.refl U.vm) qK, qD⟩, va_recv hKc hPc (ci := 10) (q0 := 0) rfl rfl, fun U hU hW => ⟨rfl, by rw [hU], by rw [hU]; exact hPc, va_K.moved hW.alike hKc, hDc.weaken (fun _ _ _ _ => trivial)⟩⟩ rfl rfl hl.1 rfl (lv_room (Nat.le_of_ble_eq_true rfl)) dX11_deal_2 ⟨Nat.le_of_ble_eq_true rfl, Nat.le_of_ble_eq_true rfl⟩) hS (fun q _ h => hFc q h) hFc (fun r_1 u t H1 locs ht hvm hw hB hz1 hk1 hS => ?_)
  obtain ⟨hP1, hK1, hD1⟩ := hB
  rw [ht] at hP1
  have hK1 := va_K.moved hvm.symm hK1
  obtain ⟨hP, hD⟩ := va_join (wr := []) (w1 := [(h0, .inr (10, fs_h0)), (rd, .inr (6, fs_rd)), (tp, .inr (9, fs_tp)), (ra, .inr (5, fs_ra)), (li, .inr (3, fs_li)), (ho, .inr (4, fs_ho)), (dr, .inr (3, fs_dr)), (hd, .inr (4, fs_hd))]) hP hD [0, 1, 2, 3, 4, 5, 6, 7] [] rfl rfl (by decide) (by decide) hk1 hFc hP1 hD1
  generalize H1 = H at hP hS ⊢
  have hP : va_P (dC, dI) vwCl [(h0, .inr (10, fs_h0)), (rd, .inr (6, fs_rd)), (tp, .inr (9, fs_tp)), (ra, .inr (5, fs_ra)), (li, .inr (3, fs_li)), (ho, .inr (4, fs_ho)), (dr, .inr (3, fs_dr)), (hd, .inr (4, fs_hd))] H := hP
  have hD : va_D A [(h0, .inr (10, fs_h0)), (rd, .inr (6, fs_rd)), (tp, .inr (9, fs_tp)), (ra, .inr (5, fs_ra)), (li, .inr (3, fs_li)), (ho, .inr (4, fs_ho)), (dr, .inr (3, fs_dr)), (hd, .inr (4, fs_hd))] := hD
  subst hw
  refine W.eq (g2 := F0 m 5 ls [.null]) rfl ?_
  refine lv_astoreN (lv' := [(4, .null), (0, .ref h0), (1, .int p0), (2, .int p1), (3, .int p2)]) hx hb dX11_deal_5 hl (by decide) rfl (fun ls hl => ?_)
  refine lv_aloadN hx hb dX11_deal_7 (lv_at hl 0 rfl) ?_
  refine lv_ifnonnullN hx hb dX11_deal_9 ?_
  refine lv_aload_n hx hb dX11_deal_12 rfl (lv_at hl 1 rfl) ?_
  refine lv_iconst (v := 1) hx hb dX11_deal_13 (by decide) ?_
  have hPc := hP.sub (ws' := [(h0, .inr (10, fs_h0))]) [0] rfl
  have hDc := hD.sub (ws' := [(h0, .inr (10, fs_h0))]) [0] (by decide) rfl
  have hKc := hK.sub (tys' := []) [] rfl
  have hFc := va_free (wc := [(h0, .inr (10, fs_h0))]) hD hS hA [0] rfl
  refine va_calll (va_runV (As := [.int 1]) (rest := []) ⟨hx, hb, hml, hown, hts⟩ (k_X11_refuseLong l dC dI H.size h0 fs_h0 1 hn_h0) (cwV 1 hts gX11_deal_X11_refuseLong rfl rfl rfl (by decide +kernel) ⟨Nat.le_of_ble_eq_true rfl, Nat.le_of_ble_eq_true rfl⟩) ⟨fun a U g mk q => by obtain ⟨q0, q1, qP, qK, qD⟩ := q; exact ⟨q0, q1, qP, va_K.moved (u := U) (U := U.calling g mk a) (Vm.Alike.refl U.vm) qK, qD⟩, va_recv hKc hPc (ci := 10) (q0 := 0) rfl rfl, fun U hU hW => ⟨rfl, by rw [hU], by rw [hU]; exact hPc, va_K.moved hW.alike hKc, hDc.weaken (fun _ _ _ _ => trivial)⟩⟩ rfl rfl hl.1 rfl (lv_room (Nat.le_of_ble_eq_true rfl)) dX11_deal_14 ⟨Nat.le_of_ble_eq_true rfl, Nat.le_of_ble_eq_true rfl⟩) hS (fun q _ h => hFc q h) hFc (fun r_2 u t H1 locs ht hvm hw hB hz1 hk1 hS => ?_)
  obtain ⟨hP1, hK1, hD1⟩ := hB
  rw [ht] at hP1
  have hK1 := va_K.moved hvm.symm hK1
  obtain ⟨hP, hD⟩ := va_join (wr := [(rd, .inr (6, fs_rd)), (tp, .inr (9, fs_tp)), (ra, .inr (5, fs_ra)), (li, .inr (3, fs_li)), (ho, .inr (4, fs_ho)), (dr, .inr (3, fs_dr)), (hd, .inr (4, fs_hd))]) (w1 := []) hP hD [0] [1, 2, 3, 4, 5, 6, 7] rfl rfl (by decide) (by decide) hk1 hFc hP1 hD1
  generalize H1 = H at hP hS ⊢
  have hP : va_P (dC, dI) vwCl [(rd, .inr (6, fs_rd)), (tp, .inr (9, fs_tp)), (ra, .inr (5, fs_ra)), (li, .inr (3, fs_li)), (ho, .inr (4, fs_ho)), (dr, .inr (3, fs_dr)), (hd, .inr (4, fs_hd))] H := hP
  have hD : va_D A [(rd, .inr (6, fs_rd)), (tp, .inr (9, fs_tp)), (ra, .inr (5, fs_ra)), (li, .inr (3, fs_li)), (ho, .inr (4, fs_ho)), (dr, .inr (3, fs_dr)), (hd, .inr (4, fs_hd))] := hD
  have er_2 : r_2 = (-9223372036854775808) := hw
  subst er_2
  have hpost : ((-9223372036854775808) : Int64) = (-9223372036854775808) := rfl
  have hP9 := hP.sub (ws' := []) [] rfl
  have hD9 := hD.sub (ws' := []) [] (by decide) rfl
  have hK9 := hK.sub (tys' := []) [] rfl
  exact W.lret (v := (-9223372036854775808)) hx hb hr (fun t ht hW => ⟨⟨(-9223372036854775808), (), rfl, hpost, by rw [ht]; exact hP9, va_K.moved hW.alike hK9, hD9⟩, hS.F ht⟩) hS.2.2 dX11_deal_17
set_option maxHeartbeats 4000000 in
set_option maxRecDepth 100000 in
theorem k_X11_go (l : Launch) (dC : Nat → ClassId) (dI : Nat → Nat → Nat) (sz : Nat) (h0 : Nat) (fs_h0 : List Value) (p0 : Int32) (hn_h0 : fs_h0.length = 15) (hf_h0_10 : fs_h0[10]? = some (.int 0)) : Met l yX11_go wsX11_go ({ frames := 1, cells := 0, slots := 0, locals := 21 }) (va_Pc [.ref h0, .int p0] (fun U => U.heap.size = sz ∧ va_P (dC, dI) vwCl [(h0, .inr (10, fs_h0))] U.heap ∧ va_K (dC, dI) vwCl [] U ∧ va_D (fun _ => True) [(h0, .inr (10, fs_h0))])) (va_Ql (fun (r : Int64) (_ : Unit) => r = (-9223372036854775808)) (fun _ t => va_P (dC, dI) vwCl [] t.heap ∧ va_K (dC, dI) vwCl [] t ∧ va_D (va_A [(h0, .inr (10, fs_h0))] sz) []) (va_A [(h0, .inr (10, fs_h0))] sz)) 0 0 (va_A [(h0, .inr (10, fs_h0))] sz) := by
  refine Met.ofW (cc := cX11_go) (maxL := 2) (ret := (some .long)) (by decide) rfl ?_
  intro p e s m args below meth c s₁ B hml hv
  obtain ⟨rfl, hsz, hP, hK, hD0⟩ := hv
  have hx := B.exec
  have hb := B.bytes
  have hr := B.returns
  have hts := atoms_spec (ws := wsX11_go) B.pre
  have hown : s.vm.findClass RX11 = some m.cls := findClass_of_methodNamed B.named
  have hlocks := B.notSynchronized
  subst hsz
  have hD := hD0.self (sz := s.heap.size)
  generalize hAe : va_A [(h0, .inr (10, fs_h0))] s.heap.size = A at hD ⊢
  have hA : ∀ q : Nat, s.heap.size ≤ q → A q := fun q h => by rw [← hAe]; exact Or.inr h
  have hS : va_S A s.heap s.heap [] := va_S.rf
  have hP : va_P (dC, dI) vwCl [(h0, .inr (10, fs_h0))] s.heap := hP
  have hl := lv_entry ([.ref h0, .int p0]) (n := 2) (Nat.le_of_ble_eq_true rfl)
  rw [lg_entry_eq]
  generalize (lg_sl ([.ref h0, .int p0]) ++ List.replicate (2 - (lg_sl ([.ref h0, .int p0])).length) Slot.unset).toArray = ls at hl ⊢
  have hl : lv_has ls 2 [(0, .ref h0), (1, .int p0)] := hl
  refine lv_aload_n hx hb dX11_go_0 rfl (lv_at hl 0 rfl) ?_
  refine lv_iload_n hx hb dX11_go_1 rfl (lv_at hl 1 rfl) ?_
  have hPc := hP.sub (ws' := [(h0, .inr (10, fs_h0))]) [0] rfl
  have hDc := hD.sub (ws' := [(h0, .inr (10, fs_h0))]) [0] (by decide) rfl
  have hKc := hK.sub (tys' := []) [] rfl
  have hFc := va_free (wc := [(h0, .inr (10, fs_h0))]) hD hS hA [0] rfl
  refine va_calli (va_runV (As := [.int p0]) (rest := []) ⟨hx, hb, hml, hown, hts⟩ (k_X11_mayGo l dC dI s.heap.size h0 fs_h0 p0 hn_h0 hf_h0_10) (cwV 1 hts gX11_go_X11_mayGo rfl rfl rfl (by decide +kernel) ⟨Nat.le_of_ble_eq_true rfl, Nat.le_of_ble_eq_true rfl⟩) ⟨fun a U g mk q => by obtain ⟨q0, q1, qP, qK, qD⟩ := q; exact ⟨q0, q1, qP, va_K.moved (u := U) (U := U.calling g mk a) (Vm.Alike.refl U.vm) qK, qD⟩, va_recv hKc hPc (ci := 10) (q0 := 0) rfl rfl, fun U hU hW => ⟨rfl, by rw [hU], by rw [hU]; exact hPc, va_K.moved hW.alike hKc, hDc.weaken (fun _ _ _ _ => trivial)⟩⟩ rfl rfl hl.1 rfl (lv_room (Nat.le_of_ble_eq_true rfl)) dX11_go_2 ⟨Nat.le_of_ble_eq_true rfl, Nat.le_of_ble_eq_true rfl⟩) hS (fun q _ h => hFc q h) hFc (fun r_1 u t H1 locs ht hvm hw hB hz1 hk1 hS => ?_)
  obtain ⟨hP1, hK1, hD1⟩ := hB
  rw [ht] at hP1
  have hK1 := va_K.moved hvm.symm hK1
  obtain ⟨hP, hD⟩ := va_join (wr := []) (w1 := []) hP hD [0] [] rfl rfl (by decide) (by decide) hk1 hFc hP1 hD1
  generalize H1 = H at hP hS ⊢
  have hP : va_P (dC, dI) vwCl [] H := hP
  have hD : va_D A [] := hD
  have er_1 : r_1 = 0 := hw
  subst er_1
  refine lv_if_ne (tgt := 12) hx hb dX11_go_5 (by decide) (fun c_2 => ?_) (fun c_2 => ?_)
  · exact absurd (by decide) c_2
  · refine lv_ldc2 (v := (-9223372036854775808)) hx hb hown (hts (.constantLong RX11 256 (-9223372036854775808)) (by decide +kernel)) dX11_go_8 ?_
    have hpost : ((-9223372036854775808) : Int64) = (-9223372036854775808) := rfl
    have hP9 := hP.sub (ws' := []) [] rfl
    have hD9 := hD.sub (ws' := []) [] (by decide) rfl
    have hK9 := hK.sub (tys' := []) [] rfl
    exact W.lret (v := (-9223372036854775808)) hx hb hr (fun t ht hW => ⟨⟨(-9223372036854775808), (), rfl, hpost, by rw [ht]; exact hP9, va_K.moved hW.alike hK9, hD9⟩, hS.F ht⟩) hS.2.2 dX11_go_11
set_option maxHeartbeats 4000000 in
set_option maxRecDepth 100000 in
theorem k_X11_income (l : Launch) (dC : Nat → ClassId) (dI : Nat → Nat → Nat) (sz : Nat) (h0 : Nat) (fs_h0 : List Value) (p0 : Int32) (hn_h0 : fs_h0.length = 15) (hf_h0_10 : fs_h0[10]? = some (.int 0)) : Met l yX11_income wsX11_income ({ frames := 1, cells := 0, slots := 0, locals := 21 }) (va_Pc [.ref h0, .int p0] (fun U => U.heap.size = sz ∧ va_P (dC, dI) vwCl [(h0, .inr (10, fs_h0))] U.heap ∧ va_K (dC, dI) vwCl [] U ∧ va_D (fun _ => True) [(h0, .inr (10, fs_h0))])) (va_Ql (fun (r : Int64) (_ : Unit) => r = (-9223372036854775808)) (fun _ t => va_P (dC, dI) vwCl [] t.heap ∧ va_K (dC, dI) vwCl [] t ∧ va_D (va_A [(h0, .inr (10, fs_h0))] sz) []) (va_A [(h0, .inr (10, fs_h0))] sz)) 0 0 (va_A [(h0, .inr (10, fs_h0))] sz) := by
  refine Met.ofW (cc := cX11_income) (maxL := 2) (ret := (some .long)) (by decide) rfl ?_
  intro p e s m args below meth c s₁ B hml hv
  obtain ⟨rfl, hsz, hP, hK, hD0⟩ := hv
  have hx := B.exec
  have hb := B.bytes
  have hr := B.returns
  have hts := atoms_spec (ws := wsX11_income) B.pre
  have hown : s.vm.findClass RX11 = some m.cls := findClass_of_methodNamed B.named
  have hlocks := B.notSynchronized
  subst hsz
  have hD := hD0.self (sz := s.heap.size)
  generalize hAe : va_A [(h0, .inr (10, fs_h0))] s.heap.size = A at hD ⊢
  have hA : ∀ q : Nat, s.heap.size ≤ q → A q := fun q h => by rw [← hAe]; exact Or.inr h
  have hS : va_S A s.heap s.heap [] := va_S.rf
  have hP : va_P (dC, dI) vwCl [(h0, .inr (10, fs_h0))] s.heap := hP
  have hl := lv_entry ([.ref h0, .int p0]) (n := 2) (Nat.le_of_ble_eq_true rfl)
  rw [lg_entry_eq]
  generalize (lg_sl ([.ref h0, .int p0]) ++ List.replicate (2 - (lg_sl ([.ref h0, .int p0])).length) Slot.unset).toArray = ls at hl ⊢
  have hl : lv_has ls 2 [(0, .ref h0), (1, .int p0)] := hl
  refine lv_aload_n hx hb dX11_income_0 rfl (lv_at hl 0 rfl) ?_
  refine lv_iload_n hx hb dX11_income_1 rfl (lv_at hl 1 rfl) ?_
  have hPc := hP.sub (ws' := [(h0, .inr (10, fs_h0))]) [0] rfl
  have hDc := hD.sub (ws' := [(h0, .inr (10, fs_h0))]) [0] (by decide) rfl
  have hKc := hK.sub (tys' := []) [] rfl
  have hFc := va_free (wc := [(h0, .inr (10, fs_h0))]) hD hS hA [0] rfl
  refine va_calli (va_runV (As := [.int p0]) (rest := []) ⟨hx, hb, hml, hown, hts⟩ (k_X11_mayGo l dC dI s.heap.size h0 fs_h0 p0 hn_h0 hf_h0_10) (cwV 1 hts gX11_income_X11_mayGo rfl rfl rfl (by decide +kernel) ⟨Nat.le_of_ble_eq_true rfl, Nat.le_of_ble_eq_true rfl⟩) ⟨fun a U g mk q => by obtain ⟨q0, q1, qP, qK, qD⟩ := q; exact ⟨q0, q1, qP, va_K.moved (u := U) (U := U.calling g mk a) (Vm.Alike.refl U.vm) qK, qD⟩, va_recv hKc hPc (ci := 10) (q0 := 0) rfl rfl, fun U hU hW => ⟨rfl, by rw [hU], by rw [hU]; exact hPc, va_K.moved hW.alike hKc, hDc.weaken (fun _ _ _ _ => trivial)⟩⟩ rfl rfl hl.1 rfl (lv_room (Nat.le_of_ble_eq_true rfl)) dX11_income_2 ⟨Nat.le_of_ble_eq_true rfl, Nat.le_of_ble_eq_true rfl⟩) hS (fun q _ h => hFc q h) hFc (fun r_1 u t H1 locs ht hvm hw hB hz1 hk1 hS => ?_)
  obtain ⟨hP1, hK1, hD1⟩ := hB
  rw [ht] at hP1
  have hK1 := va_K.moved hvm.symm hK1
  obtain ⟨hP, hD⟩ := va_join (wr := []) (w1 := []) hP hD [0] [] rfl rfl (by decide) (by decide) hk1 hFc hP1 hD1
  generalize H1 = H at hP hS ⊢
  have hP : va_P (dC, dI) vwCl [] H := hP
  have hD : va_D A [] := hD
  have er_1 : r_1 = 0 := hw
  subst er_1
  refine lv_if_ne (tgt := 12) hx hb dX11_income_5 (by decide) (fun c_2 => ?_) (fun c_2 => ?_)
  · exact absurd (by decide) c_2
  · refine lv_ldc2 (v := (-9223372036854775808)) hx hb hown (hts (.constantLong RX11 256 (-9223372036854775808)) (by decide +kernel)) dX11_income_8 ?_
    have hpost : ((-9223372036854775808) : Int64) = (-9223372036854775808) := rfl
    have hP9 := hP.sub (ws' := []) [] rfl
    have hD9 := hD.sub (ws' := []) [] (by decide) rfl
    have hK9 := hK.sub (tys' := []) [] rfl
    exact W.lret (v := (-9223372036854775808)) hx hb hr (fun t ht hW => ⟨⟨(-9223372036854775808), (), rfl, hpost, by rw [ht]; exact hP9, va_K.moved hW.alike hK9, hD9⟩, hS.F ht⟩) hS.2.2 dX11_income_11
set_option maxHeartbeats 4000000 in
set_option maxRecDepth 100000 in
theorem k_X11_keep (l : Launch) (dC : Nat → ClassId) (dI : Nat → Nat → Nat) (sz : Nat) (h0 : Nat) (fs_h0 : List Value) (hn_h0 : fs_h0.length = 15) (hf_h0_10 : fs_h0[10]? = some (.int 0)) : Met l yX11_keep wsX11_keep ({ frames := 0, cells := 0, slots := 0, locals := 0 }) (va_Pc [.ref h0] (fun U => U.heap.size = sz ∧ va_P (dC, dI) vwCl [(h0, .inr (10, fs_h0))] U.heap ∧ va_K (dC, dI) vwCl [] U ∧ va_D (fun _ => True) [(h0, .inr (10, fs_h0))])) (va_Qi (fun (r : Int32) (_ : Unit) => r = 0) (fun _ t => va_P (dC, dI) vwCl [] t.heap ∧ va_K (dC, dI) vwCl [] t ∧ va_D (va_A [(h0, .inr (10, fs_h0))] sz) []) (va_A [(h0, .inr (10, fs_h0))] sz)) 0 0 (va_A [(h0, .inr (10, fs_h0))] sz) := by
  refine Met.ofW (cc := cX11_keep) (maxL := 1) (ret := (some .boolean)) (by decide) rfl ?_
  intro p e s m args below meth c s₁ B hml hv
  obtain ⟨rfl, hsz, hP, hK, hD0⟩ := hv
  have hx := B.exec
  have hb := B.bytes
  have hr := B.returns
  have hts := atoms_spec (ws := wsX11_keep) B.pre
  have hown : s.vm.findClass RX11 = some m.cls := findClass_of_methodNamed B.named
  have hlocks := B.notSynchronized
  have hinX11 : ∀ w ∈ u_ws RX11 TX11 15, w ∈ wsX11_keep := (fun _ h9 => List.mem_cons_of_mem _ (List.mem_append_left _ (List.mem_append_right _ h9)))
  subst hsz
  have hD := hD0.self (sz := s.heap.size)
  generalize hAe : va_A [(h0, .inr (10, fs_h0))] s.heap.size = A at hD ⊢
  have hA : ∀ q : Nat, s.heap.size ≤ q → A q := fun q h => by rw [← hAe]; exact Or.inr h
  have hS : va_S A s.heap s.heap [] := va_S.rf
  have hP : va_P (dC, dI) vwCl [(h0, .inr (10, fs_h0))] s.heap := hP
  have hl := lv_entry ([.ref h0]) (n := 1) (Nat.le_of_ble_eq_true rfl)
  rw [lg_entry_eq]
  generalize (lg_sl ([.ref h0]) ++ List.replicate (1 - (lg_sl ([.ref h0])).length) Slot.unset).toArray = ls at hl ⊢
  have hl : lv_has ls 1 [(0, .ref h0)] := hl
  refine lv_aload_n hx hb dX11_keep_0 rfl (lv_at hl 0 rfl) ?_
  refine va_get (D := (dC, dI)) (ci := 10) (v := .int 0) (C := RX11) (T := TX11) (N := 15) hx hb hts hinX11 hown hK hP 0 rfl rfl 10 (by decide) (hts (.fieldLink RX11 67 "BondCalendars" "hasDesk" "Z") (by decide +kernel)) (fun _ h9 => h9) hf_h0_10 dX11_keep_1 ?_
  refine lv_if_ne (tgt := 14) hx hb dX11_keep_4 (by decide) (fun c_1 => ?_) (fun c_1 => ?_)
  · exact absurd (by decide) c_1
  · refine lv_aload_n hx hb dX11_keep_7 rfl (lv_at hl 0 rfl) ?_
    refine lv_iconst (v := 1) hx hb dX11_keep_8 (by decide) ?_
    refine va_put (D := (dC, dI)) (ci := 10) (v := .int 1) (C := RX11) (T := TX11) (N := 15) hx hb hts hinX11 tyX11 tyX11_ok nmX11 hown hK hP hD hS 0 rfl rfl 12 (by decide) (hts (.fieldLink RX11 74 "BondCalendars" "refusal" "I") (by decide +kernel)) (fun _ h9 => h9) rfl (ty := .int) (by decide +kernel) rfl rfl (by rw [hn_h0]; decide) dX11_keep_9 (fun H locs hP hD hS => ?_)
    have hP : va_P (dC, dI) vwCl [(h0, .inr (10, (fs_h0.set 12 (.int 1))))] H := hP
    have hD : va_D A [(h0, .inr (10, (fs_h0.set 12 (.int 1))))] := hD
    refine lv_iconst (v := 0) hx hb dX11_keep_12 (by decide) ?_
    have hpost : (0 : Int32) = 0 := rfl
    have hP9 := hP.sub (ws' := []) [] rfl
    have hD9 := hD.sub (ws' := []) [] (by decide) rfl
    have hK9 := hK.sub (tys' := []) [] rfl
    exact W.zret (v := 0) hx hb hr (by decide) (fun t ht hW => ⟨⟨0, (), rfl, hpost, by rw [ht]; exact hP9, va_K.moved hW.alike hK9, hD9⟩, hS.F ht⟩) hS.2.2 dX11_keep_13
set_option maxHeartbeats 4000000 in
set_option maxRecDepth 100000 in
theorem k_X11_back (l : Launch) (dC : Nat → ClassId) (dI : Nat → Nat → Nat) (sz : Nat) (h0 : Nat) (fs_h0 : List Value) (hn_h0 : fs_h0.length = 15) (hf_h0_10 : fs_h0[10]? = some (.int 0)) : Met l yX11_back wsX11_back ({ frames := 0, cells := 0, slots := 0, locals := 0 }) (va_Pc [.ref h0] (fun U => U.heap.size = sz ∧ va_P (dC, dI) vwCl [(h0, .inr (10, fs_h0))] U.heap ∧ va_K (dC, dI) vwCl [] U ∧ va_D (fun _ => True) [(h0, .inr (10, fs_h0))])) (va_Qi (fun (r : Int32) (_ : Unit) => r = 0) (fun _ t => va_P (dC, dI) vwCl [] t.heap ∧ va_K (dC, dI) vwCl [] t ∧ va_D (va_A [(h0, .inr (10, fs_h0))] sz) []) (va_A [(h0, .inr (10, fs_h0))] sz)) 0 0 (va_A [(h0, .inr (10, fs_h0))] sz) := by
  refine Met.ofW (cc := cX11_back) (maxL := 1) (ret := (some .boolean)) (by decide) rfl ?_
  intro p e s m args below meth c s₁ B hml hv
  obtain ⟨rfl, hsz, hP, hK, hD0⟩ := hv
  have hx := B.exec
  have hb := B.bytes
  have hr := B.returns
  have hts := atoms_spec (ws := wsX11_back) B.pre
  have hown : s.vm.findClass RX11 = some m.cls := findClass_of_methodNamed B.named
  have hlocks := B.notSynchronized
  have hinX11 : ∀ w ∈ u_ws RX11 TX11 15, w ∈ wsX11_back := (fun _ h9 => List.mem_cons_of_mem _ (List.mem_append_left _ (List.mem_append_right _ h9)))
  subst hsz
  have hD := hD0.self (sz := s.heap.size)
  generalize hAe : va_A [(h0, .inr (10, fs_h0))] s.heap.size = A at hD ⊢
  have hA : ∀ q : Nat, s.heap.size ≤ q → A q := fun q h => by rw [← hAe]; exact Or.inr h
  have hS : va_S A s.heap s.heap [] := va_S.rf
  have hP : va_P (dC, dI) vwCl [(h0, .inr (10, fs_h0))] s.heap := hP
  have hl := lv_entry ([.ref h0]) (n := 1) (Nat.le_of_ble_eq_true rfl)
  rw [lg_entry_eq]
  generalize (lg_sl ([.ref h0]) ++ List.replicate (1 - (lg_sl ([.ref h0])).length) Slot.unset).toArray = ls at hl ⊢
  have hl : lv_has ls 1 [(0, .ref h0)] := hl
  refine lv_aload_n hx hb dX11_back_0 rfl (lv_at hl 0 rfl) ?_
  refine va_get (D := (dC, dI)) (ci := 10) (v := .int 0) (C := RX11) (T := TX11) (N := 15) hx hb hts hinX11 hown hK hP 0 rfl rfl 10 (by decide) (hts (.fieldLink RX11 67 "BondCalendars" "hasDesk" "Z") (by decide +kernel)) (fun _ h9 => h9) hf_h0_10 dX11_back_1 ?_
  refine lv_if_eq (tgt := 14) hx hb dX11_back_4 (by decide) (fun c_1 => ?_) (fun c_1 => ?_)
  · refine lv_aload_n hx hb dX11_back_14 rfl (lv_at hl 0 rfl) ?_
    refine lv_iconst (v := 1) hx hb dX11_back_15 (by decide) ?_
    refine va_put (D := (dC, dI)) (ci := 10) (v := .int 1) (C := RX11) (T := TX11) (N := 15) hx hb hts hinX11 tyX11 tyX11_ok nmX11 hown hK hP hD hS 0 rfl rfl 12 (by decide) (hts (.fieldLink RX11 74 "BondCalendars" "refusal" "I") (by decide +kernel)) (fun _ h9 => h9) rfl (ty := .int) (by decide +kernel) rfl rfl (by rw [hn_h0]; decide) dX11_back_16 (fun H locs hP hD hS => ?_)
    have hP : va_P (dC, dI) vwCl [(h0, .inr (10, (fs_h0.set 12 (.int 1))))] H := hP
    have hD : va_D A [(h0, .inr (10, (fs_h0.set 12 (.int 1))))] := hD
    refine lv_iconst (v := 0) hx hb dX11_back_19 (by decide) ?_
    have hpost : (0 : Int32) = 0 := rfl
    have hP9 := hP.sub (ws' := []) [] rfl
    have hD9 := hD.sub (ws' := []) [] (by decide) rfl
    have hK9 := hK.sub (tys' := []) [] rfl
    exact W.zret (v := 0) hx hb hr (by decide) (fun t ht hW => ⟨⟨0, (), rfl, hpost, by rw [ht]; exact hP9, va_K.moved hW.alike hK9, hD9⟩, hS.F ht⟩) hS.2.2 dX11_back_20
  · exact absurd (by decide) c_1
set_option maxHeartbeats 4000000 in
set_option maxRecDepth 100000 in
theorem k_X11_trouble (l : Launch) (dC : Nat → ClassId) (dI : Nat → Nat → Nat) (sz : Nat) (h0 : Nat) (fs_h0 : List Value) (hn_h0 : fs_h0.length = 15) (hf_h0_12 : fs_h0[12]? = some (.int 0)) : Met l yX11_trouble wsX11_trouble ({ frames := 0, cells := 0, slots := 0, locals := 0 }) (va_Pc [.ref h0] (fun U => U.heap.size = sz ∧ va_P (dC, dI) vwCl [(h0, .inr (10, fs_h0))] U.heap ∧ va_K (dC, dI) vwCl [] U ∧ va_D (fun _ => True) [(h0, .inr (10, fs_h0))])) (va_Qi (fun (r : Int32) (_ : Unit) => r = 0) (fun _ t => va_P (dC, dI) vwCl [] t.heap ∧ va_K (dC, dI) vwCl [] t ∧ va_D (va_A [(h0, .inr (10, fs_h0))] sz) []) (va_A [(h0, .inr (10, fs_h0))] sz)) 0 0 (va_A [(h0, .inr (10, fs_h0))] sz) := by
  refine Met.ofW (cc := cX11_trouble) (maxL := 1) (ret := (some .int)) (by decide) rfl ?_
  intro p e s m args below meth c s₁ B hml hv
  obtain ⟨rfl, hsz, hP, hK, hD0⟩ := hv
  have hx := B.exec
  have hb := B.bytes
  have hr := B.returns
  have hts := atoms_spec (ws := wsX11_trouble) B.pre
  have hown : s.vm.findClass RX11 = some m.cls := findClass_of_methodNamed B.named
  have hlocks := B.notSynchronized
  have hinX11 : ∀ w ∈ u_ws RX11 TX11 15, w ∈ wsX11_trouble := (fun _ h9 => List.mem_cons_of_mem _ (List.mem_append_right _ h9))
  subst hsz
  have hD := hD0.self (sz := s.heap.size)
  generalize hAe : va_A [(h0, .inr (10, fs_h0))] s.heap.size = A at hD ⊢
  have hA : ∀ q : Nat, s.heap.size ≤ q → A q := fun q h => by rw [← hAe]; exact Or.inr h
  have hS : va_S A s.heap s.heap [] := va_S.rf
  have hP : va_P (dC, dI) vwCl [(h0, .inr (10, fs_h0))] s.heap := hP
  have hl := lv_entry ([.ref h0]) (n := 1) (Nat.le_of_ble_eq_true rfl)
  rw [lg_entry_eq]
  generalize (lg_sl ([.ref h0]) ++ List.replicate (1 - (lg_sl ([.ref h0])).length) Slot.unset).toArray = ls at hl ⊢
  have hl : lv_has ls 1 [(0, .ref h0)] := hl
  refine lv_aload_n hx hb dX11_trouble_0 rfl (lv_at hl 0 rfl) ?_
  refine va_get (D := (dC, dI)) (ci := 10) (v := .int 0) (C := RX11) (T := TX11) (N := 15) hx hb hts hinX11 hown hK hP 0 rfl rfl 12 (by decide) (hts (.fieldLink RX11 74 "BondCalendars" "refusal" "I") (by decide +kernel)) (fun _ h9 => h9) hf_h0_12 dX11_trouble_1 ?_
  have hpost : (0 : Int32) = 0 := rfl
  have hP9 := hP.sub (ws' := []) [] rfl
  have hD9 := hD.sub (ws' := []) [] (by decide) rfl
  have hK9 := hK.sub (tys' := []) [] rfl
  exact W.iret (v := 0) hx hb hr (fun t ht hW => ⟨⟨0, (), rfl, hpost, by rw [ht]; exact hP9, va_K.moved hW.alike hK9, hD9⟩, hS.F ht⟩) hS.2.2 dX11_trouble_4
set_option maxHeartbeats 4000000 in
set_option maxRecDepth 100000 in
theorem k_X11_fault (l : Launch) (dC : Nat → ClassId) (dI : Nat → Nat → Nat) (sz : Nat) (h0 : Nat) (fs_h0 : List Value) (hn_h0 : fs_h0.length = 15) (hf_h0_13 : fs_h0[13]? = some (.int 0)) : Met l yX11_fault wsX11_fault ({ frames := 0, cells := 0, slots := 0, locals := 0 }) (va_Pc [.ref h0] (fun U => U.heap.size = sz ∧ va_P (dC, dI) vwCl [(h0, .inr (10, fs_h0))] U.heap ∧ va_K (dC, dI) vwCl [] U ∧ va_D (fun _ => True) [(h0, .inr (10, fs_h0))])) (va_Qi (fun (r : Int32) (_ : Unit) => r = 0) (fun _ t => va_P (dC, dI) vwCl [] t.heap ∧ va_K (dC, dI) vwCl [] t ∧ va_D (va_A [(h0, .inr (10, fs_h0))] sz) []) (va_A [(h0, .inr (10, fs_h0))] sz)) 0 0 (va_A [(h0, .inr (10, fs_h0))] sz) := by
  refine Met.ofW (cc := cX11_fault) (maxL := 1) (ret := (some .int)) (by decide) rfl ?_
  intro p e s m args below meth c s₁ B hml hv
  obtain ⟨rfl, hsz, hP, hK, hD0⟩ := hv
  have hx := B.exec
  have hb := B.bytes
  have hr := B.returns
  have hts := atoms_spec (ws := wsX11_fault) B.pre
  have hown : s.vm.findClass RX11 = some m.cls := findClass_of_methodNamed B.named
  have hlocks := B.notSynchronized
  have hinX11 : ∀ w ∈ u_ws RX11 TX11 15, w ∈ wsX11_fault := (fun _ h9 => List.mem_cons_of_mem _ (List.mem_append_right _ h9))
  subst hsz
  have hD := hD0.self (sz := s.heap.size)
  generalize hAe : va_A [(h0, .inr (10, fs_h0))] s.heap.size = A at hD ⊢
  have hA : ∀ q : Nat, s.heap.size ≤ q → A q := fun q h => by rw [← hAe]; exact Or.inr h
  have hS : va_S A s.heap s.heap [] := va_S.rf
  have hP : va_P (dC, dI) vwCl [(h0, .inr (10, fs_h0))] s.heap := hP
  have hl := lv_entry ([.ref h0]) (n := 1) (Nat.le_of_ble_eq_true rfl)
  rw [lg_entry_eq]
  generalize (lg_sl ([.ref h0]) ++ List.replicate (1 - (lg_sl ([.ref h0])).length) Slot.unset).toArray = ls at hl ⊢
  have hl : lv_has ls 1 [(0, .ref h0)] := hl
  refine lv_aload_n hx hb dX11_fault_0 rfl (lv_at hl 0 rfl) ?_
  refine va_get (D := (dC, dI)) (ci := 10) (v := .int 0) (C := RX11) (T := TX11) (N := 15) hx hb hts hinX11 hown hK hP 0 rfl rfl 13 (by decide) (hts (.fieldLink RX11 78 "BondCalendars" "latestFault" "I") (by decide +kernel)) (fun _ h9 => h9) hf_h0_13 dX11_fault_1 ?_
  have hpost : (0 : Int32) = 0 := rfl
  have hP9 := hP.sub (ws' := []) [] rfl
  have hD9 := hD.sub (ws' := []) [] (by decide) rfl
  have hK9 := hK.sub (tys' := []) [] rfl
  exact W.iret (v := 0) hx hb hr (fun t ht hW => ⟨⟨0, (), rfl, hpost, by rw [ht]; exact hP9, va_K.moved hW.alike hK9, hD9⟩, hS.F ht⟩) hS.2.2 dX11_fault_4
set_option maxHeartbeats 4000000 in
set_option maxRecDepth 100000 in
theorem k_X11_where (l : Launch) (dC : Nat → ClassId) (dI : Nat → Nat → Nat) (sz : Nat) (h0 : Nat) (fs_h0 : List Value) (hn_h0 : fs_h0.length = 15) (hf_h0_12 : fs_h0[12]? = some (.int 0)) : Met l yX11_where wsX11_where ({ frames := 0, cells := 0, slots := 0, locals := 0 }) (va_Pc [.ref h0] (fun U => U.heap.size = sz ∧ va_P (dC, dI) vwCl [(h0, .inr (10, fs_h0))] U.heap ∧ va_K (dC, dI) vwCl [] U ∧ va_D (fun _ => True) [(h0, .inr (10, fs_h0))])) (va_Qi (fun (r : Int32) (_ : Unit) => r = (-1)) (fun _ t => va_P (dC, dI) vwCl [] t.heap ∧ va_K (dC, dI) vwCl [] t ∧ va_D (va_A [(h0, .inr (10, fs_h0))] sz) []) (va_A [(h0, .inr (10, fs_h0))] sz)) 0 0 (va_A [(h0, .inr (10, fs_h0))] sz) := by
  refine Met.ofW (cc := cX11_where) (maxL := 1) (ret := (some .int)) (by decide) rfl ?_
  intro p e s m args below meth c s₁ B hml hv
  obtain ⟨rfl, hsz, hP, hK, hD0⟩ := hv
  have hx := B.exec
  have hb := B.bytes
  have hr := B.returns
  have hts := atoms_spec (ws := wsX11_where) B.pre
  have hown : s.vm.findClass RX11 = some m.cls := findClass_of_methodNamed B.named
  have hlocks := B.notSynchronized
  have hinX11 : ∀ w ∈ u_ws RX11 TX11 15, w ∈ wsX11_where := (fun _ h9 => List.mem_cons_of_mem _ (List.mem_append_right _ h9))
  subst hsz
  have hD := hD0.self (sz := s.heap.size)
  generalize hAe : va_A [(h0, .inr (10, fs_h0))] s.heap.size = A at hD ⊢
  have hA : ∀ q : Nat, s.heap.size ≤ q → A q := fun q h => by rw [← hAe]; exact Or.inr h
  have hS : va_S A s.heap s.heap [] := va_S.rf
  have hP : va_P (dC, dI) vwCl [(h0, .inr (10, fs_h0))] s.heap := hP
  have hl := lv_entry ([.ref h0]) (n := 1) (Nat.le_of_ble_eq_true rfl)
  rw [lg_entry_eq]
  generalize (lg_sl ([.ref h0]) ++ List.replicate (1 - (lg_sl ([.ref h0])).length) Slot.unset).toArray = ls at hl ⊢
  have hl : lv_has ls 1 [(0, .ref h0)] := hl
  refine lv_aload_n hx hb dX11_where_0 rfl (lv_at hl 0 rfl) ?_
  refine va_get (D := (dC, dI)) (ci := 10) (v := .int 0) (C := RX11) (T := TX11) (N := 15) hx hb hts hinX11 hown hK hP 0 rfl rfl 12 (by decide) (hts (.fieldLink RX11 74 "BondCalendars" "refusal" "I") (by decide +kernel)) (fun _ h9 => h9) hf_h0_12 dX11_where_1 ?_
  refine lv_iconst (v := 4) hx hb dX11_where_4 (by decide) ?_
  refine lv_icmp_ne (tgt := 15) hx hb dX11_where_5 (by decide) (fun c_1 => ?_) (fun c_1 => ?_)
  · refine lv_iconst (v := (-1)) hx hb dX11_where_15 (by decide) ?_
    have hpost : ((-1) : Int32) = (-1) := rfl
    have hP9 := hP.sub (ws' := []) [] rfl
    have hD9 := hD.sub (ws' := []) [] (by decide) rfl
    have hK9 := hK.sub (tys' := []) [] rfl
    exact W.iret (v := (-1)) hx hb hr (fun t ht hW => ⟨⟨(-1), (), rfl, hpost, by rw [ht]; exact hP9, va_K.moved hW.alike hK9, hD9⟩, hS.F ht⟩) hS.2.2 dX11_where_16
  · exact absurd c_1 (by decide)
def f_X11_days (p0 : Int32) (p1 : Int32) : Int32 :=
  let r_1 : Int32 := f_X3_isDate p0
  if r_1 = 0 then
    (-2147483648)
  else
    let r_3 : Int32 := f_X3_isDate p1
    if r_3 = 0 then
      (-2147483648)
    else
      let r_5 : Int32 := f_X3_dayOf p1
      let r_6 : Int32 := f_X3_dayOf p0
      (r_5 - r_6)
set_option maxHeartbeats 4000000 in
set_option maxRecDepth 100000 in
theorem k_X11_days (l : Launch) (dC : Nat → ClassId) (dI : Nat → Nat → Nat) (sz : Nat) (h0 : Nat) (fs_h0 : List Value) (p0 : Int32) (p1 : Int32) (hn_h0 : fs_h0.length = 15) : Met l yX11_days wsX11_days ({ frames := 2, cells := 0, slots := 0, locals := 44 }) (va_Pc [.ref h0, .int p0, .int p1] (fun U => U.heap.size = sz ∧ va_P (dC, dI) vwCl [(h0, .inr (10, fs_h0))] U.heap ∧ va_K (dC, dI) vwCl [] U ∧ va_D (fun _ => True) [(h0, .inr (10, fs_h0))])) (va_Qi (fun (r : Int32) (_ : Unit) => r = f_X11_days p0 p1) (fun _ t => va_P (dC, dI) vwCl [] t.heap ∧ va_K (dC, dI) vwCl [] t ∧ va_D (va_A [(h0, .inr (10, fs_h0))] sz) []) (va_A [(h0, .inr (10, fs_h0))] sz)) 0 0 (va_A [(h0, .inr (10, fs_h0))] sz) := by
  refine Met.ofW (cc := cX11_days) (maxL := 3) (ret := (some .int)) (by decide) rfl ?_
  intro p e s m args below meth c s₁ B hml hv
  obtain ⟨rfl, hsz, hP, hK, hD0⟩ := hv
  have hx := B.exec
  have hb := B.bytes
  have hr := B.returns
  have hts := atoms_spec (ws := wsX11_days) B.pre
  have hown : s.vm.findClass RX11 = some m.cls := findClass_of_methodNamed B.named
  have hlocks := B.notSynchronized
  have hinX11 : ∀ w ∈ u_ws RX11 TX11 15, w ∈ wsX11_days := (fun _ h9 => List.mem_cons_of_mem _ (List.mem_append_right _ h9))
  subst hsz
  have hD := hD0.self (sz := s.heap.size)
  generalize hAe : va_A [(h0, .inr (10, fs_h0))] s.heap.size = A at hD ⊢
  have hA : ∀ q : Nat, s.heap.size ≤ q → A q := fun q h => by rw [← hAe]; exact Or.inr h
  have hS : va_S A s.heap s.heap [] := va_S.rf
  have hP : va_P (dC, dI) vwCl [(h0, .inr (10, fs_h0))] s.heap := hP
  have hl := lv_entry ([.ref h0, .int p0, .int p1]) (n := 3) (Nat.le_of_ble_eq_true rfl)
  rw [lg_entry_eq]
  generalize (lg_sl ([.ref h0, .int p0, .int p1]) ++ List.replicate (3 - (lg_sl ([.ref h0, .int p0, .int p1])).length) Slot.unset).toArray = ls at hl ⊢
  have hl : lv_has ls 3 [(0, .ref h0), (1, .int p0), (2, .int p1)] := hl
  refine lv_iload_n hx hb dX11_days_0 rfl (lv_at hl 1 rfl) ?_
  have hPc := hP.sub (ws' := []) [] rfl
  have hDc := hD.sub (ws' := []) [] (by decide) rfl
  have hKc := hK.sub (tys' := []) [] rfl
  have hFc := va_free (wc := []) hD hS hA [] rfl
  refine va_calli (va_runS (As := [.int p0]) (rest := []) ⟨hx, hb, hml, hown, hts⟩ (k_X3_isDate l dC dI s.heap.size p0) (va_cwS 1 hts gX11_days_X3_isDate rfl rfl rfl (by decide +kernel) ⟨Nat.le_of_ble_eq_true rfl, Nat.le_of_ble_eq_true rfl⟩) ⟨fun a U g mk q => by obtain ⟨q0, q1, qP, qK, qD⟩ := q; exact ⟨q0, q1, qP, va_K.moved (u := U) (U := U.calling g mk a) (Vm.Alike.refl U.vm) qK, qD⟩, fun U hU hW => ⟨rfl, by rw [hU], by rw [hU]; exact hPc, va_K.moved hW.alike hKc, hDc.weaken (fun _ _ _ _ => trivial)⟩⟩ rfl rfl hl.1 rfl (lv_room (Nat.le_of_ble_eq_true rfl)) dX11_days_1 ⟨Nat.le_of_ble_eq_true rfl, Nat.le_of_ble_eq_true rfl⟩) hS (fun q _ h => hFc q h) hFc (fun r_1 u t H1 locs ht hvm hw hB hz1 hk1 hS => ?_)
  obtain ⟨hP1, hK1, hD1⟩ := hB
  rw [ht] at hP1
  have hK1 := va_K.moved hvm.symm hK1
  obtain ⟨hP, hD⟩ := va_join (wr := [(h0, .inr (10, fs_h0))]) (w1 := []) hP hD [] [0] rfl rfl (by decide) (by decide) hk1 hFc hP1 hD1
  generalize H1 = H at hP hS ⊢
  have hP : va_P (dC, dI) vwCl [(h0, .inr (10, fs_h0))] H := hP
  have hD : va_D A [(h0, .inr (10, fs_h0))] := hD
  have er_1 : r_1 = f_X3_isDate p0 := hw
  refine lv_if_eq (tgt := 14) hx hb dX11_days_4 (by decide) (fun c_2 => ?_) (fun c_2 => ?_)
  · refine lv_aload_n hx hb dX11_days_14 rfl (lv_at hl 0 rfl) ?_
    refine lv_iconst (v := 2) hx hb dX11_days_15 (by decide) ?_
    refine va_put (D := (dC, dI)) (ci := 10) (v := .int 2) (C := RX11) (T := TX11) (N := 15) hx hb hts hinX11 tyX11 tyX11_ok nmX11 hown hK hP hD hS 0 rfl rfl 12 (by decide) (hts (.fieldLink RX11 74 "BondCalendars" "refusal" "I") (by decide +kernel)) (fun _ h9 => h9) rfl (ty := .int) (by decide +kernel) rfl rfl (by rw [hn_h0]; decide) dX11_days_16 (fun H locs hP hD hS => ?_)
    have hP : va_P (dC, dI) vwCl [(h0, .inr (10, (fs_h0.set 12 (.int 2))))] H := hP
    have hD : va_D A [(h0, .inr (10, (fs_h0.set 12 (.int 2))))] := hD
    refine lv_ldc (v := (-2147483648)) hx hb hown (hts (.constant RX11 135 (-2147483648)) (by decide +kernel)) dX11_days_19 ?_
    have hpost : (-2147483648) = f_X11_days p0 p1 := by subst er_1; refine Eq.symm ?_; refine (if_pos c_2).trans ?_; rfl
    have hP9 := hP.sub (ws' := []) [] rfl
    have hD9 := hD.sub (ws' := []) [] (by decide) rfl
    have hK9 := hK.sub (tys' := []) [] rfl
    exact W.iret (v := (-2147483648)) hx hb hr (fun t ht hW => ⟨⟨(-2147483648), (), rfl, hpost, by rw [ht]; exact hP9, va_K.moved hW.alike hK9, hD9⟩, hS.F ht⟩) hS.2.2 dX11_days_21
  · refine lv_iload_n hx hb dX11_days_7 rfl (lv_at hl 2 rfl) ?_
    have hPc := hP.sub (ws' := []) [] rfl
    have hDc := hD.sub (ws' := []) [] (by decide) rfl
    have hKc := hK.sub (tys' := []) [] rfl
    have hFc := va_free (wc := []) hD hS hA [] rfl
    refine va_calli (va_runS (As := [.int p1]) (rest := []) ⟨hx, hb, hml, hown, hts⟩ (k_X3_isDate l dC dI H.size p1) (va_cwS 1 hts gX11_days_X3_isDate rfl rfl rfl (by decide +kernel) ⟨Nat.le_of_ble_eq_true rfl, Nat.le_of_ble_eq_true rfl⟩) ⟨fun a U g mk q => by obtain ⟨q0, q1, qP, qK, qD⟩ := q; exact ⟨q0, q1, qP, va_K.moved (u := U) (U := U.calling g mk a) (Vm.Alike.refl U.vm) qK, qD⟩, fun U hU hW => ⟨rfl, by rw [hU], by rw [hU]; exact hPc, va_K.moved hW.alike hKc, hDc.weaken (fun _ _ _ _ => trivial)⟩⟩ rfl rfl hl.1 rfl (lv_room (Nat.le_of_ble_eq_true rfl)) dX11_days_8 ⟨Nat.le_of_ble_eq_true rfl, Nat.le_of_ble_eq_true rfl⟩) hS (fun q _ h => hFc q h) hFc (fun r_3 u t H1 locs ht hvm hw hB hz1 hk1 hS => ?_)
    obtain ⟨hP1, hK1, hD1⟩ := hB
    rw [ht] at hP1
    have hK1 := va_K.moved hvm.symm hK1
    obtain ⟨hP, hD⟩ := va_join (wr := [(h0, .inr (10, fs_h0))]) (w1 := []) hP hD [] [0] rfl rfl (by decide) (by decide) hk1 hFc hP1 hD1
    generalize H1 = H at hP hS ⊢
    have hP : va_P (dC, dI) vwCl [(h0, .inr (10, fs_h0))] H := hP
    have hD : va_D A [(h0, .inr (10, fs_h0))] := hD
    have er_3 : r_3 = f_X3_isDate p1 := hw
    refine lv_if_ne (tgt := 22) hx hb dX11_days_11 (by decide) (fun c_4 => ?_) (fun c_4 => ?_)
    · refine lv_aload_n hx hb dX11_days_22 rfl (lv_at hl 0 rfl) ?_
      refine lv_iconst (v := 0) hx hb dX11_days_23 (by decide) ?_
      refine va_put (D := (dC, dI)) (ci := 10) (v := .int 0) (C := RX11) (T := TX11) (N := 15) hx hb hts hinX11 tyX11 tyX11_ok nmX11 hown hK hP hD hS 0 rfl rfl 12 (by decide) (hts (.fieldLink RX11 74 "BondCalendars" "refusal" "I") (by decide +kernel)) (fun _ h9 => h9) rfl (ty := .int) (by decide +kernel) rfl rfl (by rw [hn_h0]; decide) dX11_days_24 (fun H locs hP hD hS => ?_)
      have hP : va_P (dC, dI) vwCl [(h0, .inr (10, (fs_h0.set 12 (.int 0))))] H := hP
      have hD : va_D A [(h0, .inr (10, (fs_h0.set 12 (.int 0))))] := hD
      refine lv_iload_n hx hb dX11_days_27 rfl (lv_at hl 2 rfl) ?_
      have hPc := hP.sub (ws' := []) [] rfl
      have hDc := hD.sub (ws' := []) [] (by decide) rfl
      have hKc := hK.sub (tys' := []) [] rfl
      have hFc := va_free (wc := []) hD hS hA [] rfl
      refine va_calli (va_runS (As := [.int p1]) (rest := []) ⟨hx, hb, hml, hown, hts⟩ (k_X3_dayOf l dC dI H.size p1) (va_cwS 1 hts gX11_days_X3_dayOf rfl rfl rfl (by decide +kernel) ⟨Nat.le_of_ble_eq_true rfl, Nat.le_of_ble_eq_true rfl⟩) ⟨fun a U g mk q => by obtain ⟨q0, q1, qP, qK, qD⟩ := q; exact ⟨q0, q1, qP, va_K.moved (u := U) (U := U.calling g mk a) (Vm.Alike.refl U.vm) qK, qD⟩, fun U hU hW => ⟨rfl, by rw [hU], by rw [hU]; exact hPc, va_K.moved hW.alike hKc, hDc.weaken (fun _ _ _ _ => trivial)⟩⟩ rfl rfl hl.1 rfl (lv_room (Nat.le_of_ble_eq_true rfl)) dX11_days_28 ⟨Nat.le_of_ble_eq_true rfl, Nat.le_of_ble_eq_true rfl⟩) hS (fun q _ h => hFc q h) hFc (fun r_5 u t H1 locs ht hvm hw hB hz1 hk1 hS => ?_)
      obtain ⟨hP1, hK1, hD1⟩ := hB
      rw [ht] at hP1
      have hK1 := va_K.moved hvm.symm hK1
      obtain ⟨hP, hD⟩ := va_join (wr := [(h0, .inr (10, (fs_h0.set 12 (.int 0))))]) (w1 := []) hP hD [] [0] rfl rfl (by decide) (by decide) hk1 hFc hP1 hD1
      generalize H1 = H at hP hS ⊢
      have hP : va_P (dC, dI) vwCl [(h0, .inr (10, (fs_h0.set 12 (.int 0))))] H := hP
      have hD : va_D A [(h0, .inr (10, (fs_h0.set 12 (.int 0))))] := hD
      have er_5 : r_5 = f_X3_dayOf p1 := hw
      refine lv_iload_n hx hb dX11_days_31 rfl (lv_at hl 1 rfl) ?_
      have hPc := hP.sub (ws' := []) [] rfl
      have hDc := hD.sub (ws' := []) [] (by decide) rfl
      have hKc := hK.sub (tys' := []) [] rfl
      have hFc := va_free (wc := []) hD hS hA [] rfl
      refine va_calli (va_runS (As := [.int p0]) (rest := [.int r_5]) ⟨hx, hb, hml, hown, hts⟩ (k_X3_dayOf l dC dI H.size p0) (va_cwS 1 hts gX11_days_X3_dayOf rfl rfl rfl (by decide +kernel) ⟨Nat.le_of_ble_eq_true rfl, Nat.le_of_ble_eq_true rfl⟩) ⟨fun a U g mk q => by obtain ⟨q0, q1, qP, qK, qD⟩ := q; exact ⟨q0, q1, qP, va_K.moved (u := U) (U := U.calling g mk a) (Vm.Alike.refl U.vm) qK, qD⟩, fun U hU hW => ⟨rfl, by rw [hU], by rw [hU]; exact hPc, va_K.moved hW.alike hKc, hDc.weaken (fun _ _ _ _ => trivial)⟩⟩ rfl rfl hl.1 rfl (lv_room (Nat.le_of_ble_eq_true rfl)) dX11_days_32 ⟨Nat.le_of_ble_eq_true rfl, Nat.le_of_ble_eq_true rfl⟩) hS (fun q _ h => hFc q h) hFc (fun r_6 u t H1 locs ht hvm hw hB hz1 hk1 hS => ?_)
      obtain ⟨hP1, hK1, hD1⟩ := hB
      rw [ht] at hP1
      have hK1 := va_K.moved hvm.symm hK1
      obtain ⟨hP, hD⟩ := va_join (wr := [(h0, .inr (10, (fs_h0.set 12 (.int 0))))]) (w1 := []) hP hD [] [0] rfl rfl (by decide) (by decide) hk1 hFc hP1 hD1
      generalize H1 = H at hP hS ⊢
      have hP : va_P (dC, dI) vwCl [(h0, .inr (10, (fs_h0.set 12 (.int 0))))] H := hP
      have hD : va_D A [(h0, .inr (10, (fs_h0.set 12 (.int 0))))] := hD
      have er_6 : r_6 = f_X3_dayOf p0 := hw
      refine lv_isub hx hb dX11_days_35 ?_
      have hpost : (r_5 - r_6) = f_X11_days p0 p1 := by subst er_1 er_3 er_5 er_6; refine Eq.symm ?_; refine (if_neg c_2).trans ?_; refine (if_neg c_4).trans ?_; rfl
      have hP9 := hP.sub (ws' := []) [] rfl
      have hD9 := hD.sub (ws' := []) [] (by decide) rfl
      have hK9 := hK.sub (tys' := []) [] rfl
      exact W.iret (v := (r_5 - r_6)) hx hb hr (fun t ht hW => ⟨⟨(r_5 - r_6), (), rfl, hpost, by rw [ht]; exact hP9, va_K.moved hW.alike hK9, hD9⟩, hS.F ht⟩) hS.2.2 dX11_days_36
    · refine lv_aload_n hx hb dX11_days_14 rfl (lv_at hl 0 rfl) ?_
      refine lv_iconst (v := 2) hx hb dX11_days_15 (by decide) ?_
      refine va_put (D := (dC, dI)) (ci := 10) (v := .int 2) (C := RX11) (T := TX11) (N := 15) hx hb hts hinX11 tyX11 tyX11_ok nmX11 hown hK hP hD hS 0 rfl rfl 12 (by decide) (hts (.fieldLink RX11 74 "BondCalendars" "refusal" "I") (by decide +kernel)) (fun _ h9 => h9) rfl (ty := .int) (by decide +kernel) rfl rfl (by rw [hn_h0]; decide) dX11_days_16 (fun H locs hP hD hS => ?_)
      have hP : va_P (dC, dI) vwCl [(h0, .inr (10, (fs_h0.set 12 (.int 2))))] H := hP
      have hD : va_D A [(h0, .inr (10, (fs_h0.set 12 (.int 2))))] := hD
      refine lv_ldc (v := (-2147483648)) hx hb hown (hts (.constant RX11 135 (-2147483648)) (by decide +kernel)) dX11_days_19 ?_
      have hpost : (-2147483648) = f_X11_days p0 p1 := by subst er_1 er_3; refine Eq.symm ?_; refine (if_neg c_2).trans ?_; refine (if_pos c_4).trans ?_; rfl
      have hP9 := hP.sub (ws' := []) [] rfl
      have hD9 := hD.sub (ws' := []) [] (by decide) rfl
      have hK9 := hK.sub (tys' := []) [] rfl
      exact W.iret (v := (-2147483648)) hx hb hr (fun t ht hW => ⟨⟨(-2147483648), (), rfl, hpost, by rw [ht]; exact hP9, va_K.moved hW.alike hK9, hD9⟩, hS.F ht⟩) hS.2.2 dX11_days_21
def f_X11_weekday (p0 : Int32) : Int32 :=
  let r_1 : Int32 := f_X3_isDate p0
  if r_1 = 0 then
    (-1)
  else
    let r_3 : Int32 := f_X3_dayOf p0
    let r_4 : Int32 := f_X3_weekdayOf r_3
    r_4
set_option maxHeartbeats 4000000 in
set_option maxRecDepth 100000 in
theorem k_X11_weekday (l : Launch) (dC : Nat → ClassId) (dI : Nat → Nat → Nat) (sz : Nat) (h0 : Nat) (fs_h0 : List Value) (p0 : Int32) (hn_h0 : fs_h0.length = 15) : Met l yX11_weekday wsX11_weekday ({ frames := 2, cells := 0, slots := 0, locals := 44 }) (va_Pc [.ref h0, .int p0] (fun U => U.heap.size = sz ∧ va_P (dC, dI) vwCl [(h0, .inr (10, fs_h0))] U.heap ∧ va_K (dC, dI) vwCl [] U ∧ va_D (fun _ => True) [(h0, .inr (10, fs_h0))])) (va_Qi (fun (r : Int32) (_ : Unit) => r = f_X11_weekday p0) (fun _ t => va_P (dC, dI) vwCl [] t.heap ∧ va_K (dC, dI) vwCl [] t ∧ va_D (va_A [(h0, .inr (10, fs_h0))] sz) []) (va_A [(h0, .inr (10, fs_h0))] sz)) 0 0 (va_A [(h0, .inr (10, fs_h0))] sz) := by
  refine Met.ofW (cc := cX11_weekday) (maxL := 2) (ret := (some .int)) (by decide) rfl ?_
  intro p e s m args below meth c s₁ B hml hv
  obtain ⟨rfl, hsz, hP, hK, hD0⟩ := hv
  have hx := B.exec
  have hb := B.bytes
  have hr := B.returns
  have hts := atoms_spec (ws := wsX11_weekday) B.pre
  have hown : s.vm.findClass RX11 = some m.cls := findClass_of_methodNamed B.named
  have hlocks := B.notSynchronized
  have hinX11 : ∀ w ∈ u_ws RX11 TX11 15, w ∈ wsX11_weekday := (fun _ h9 => List.mem_cons_of_mem _ (List.mem_append_right _ h9))
  subst hsz
  have hD := hD0.self (sz := s.heap.size)
  generalize hAe : va_A [(h0, .inr (10, fs_h0))] s.heap.size = A at hD ⊢
  have hA : ∀ q : Nat, s.heap.size ≤ q → A q := fun q h => by rw [← hAe]; exact Or.inr h
  have hS : va_S A s.heap s.heap [] := va_S.rf
  have hP : va_P (dC, dI) vwCl [(h0, .inr (10, fs_h0))] s.heap := hP
  have hl := lv_entry ([.ref h0, .int p0]) (n := 2) (Nat.le_of_ble_eq_true rfl)
  rw [lg_entry_eq]
  generalize (lg_sl ([.ref h0, .int p0]) ++ List.replicate (2 - (lg_sl ([.ref h0, .int p0])).length) Slot.unset).toArray = ls at hl ⊢
  have hl : lv_has ls 2 [(0, .ref h0), (1, .int p0)] := hl
  refine lv_iload_n hx hb dX11_weekday_0 rfl (lv_at hl 1 rfl) ?_
  have hPc := hP.sub (ws' := []) [] rfl
  have hDc := hD.sub (ws' := []) [] (by decide) rfl
  have hKc := hK.sub (tys' := []) [] rfl
  have hFc := va_free (wc := []) hD hS hA [] rfl
  refine va_calli (va_runS (As := [.int p0]) (rest := []) ⟨hx, hb, hml, hown, hts⟩ (k_X3_isDate l dC dI s.heap.size p0) (va_cwS 1 hts gX11_weekday_X3_isDate rfl rfl rfl (by decide +kernel) ⟨Nat.le_of_ble_eq_true rfl, Nat.le_of_ble_eq_true rfl⟩) ⟨fun a U g mk q => by obtain ⟨q0, q1, qP, qK, qD⟩ := q; exact ⟨q0, q1, qP, va_K.moved (u := U) (U := U.calling g mk a) (Vm.Alike.refl U.vm) qK, qD⟩, fun U hU hW => ⟨rfl, by rw [hU], by rw [hU]; exact hPc, va_K.moved hW.alike hKc, hDc.weaken (fun _ _ _ _ => trivial)⟩⟩ rfl rfl hl.1 rfl (lv_room (Nat.le_of_ble_eq_true rfl)) dX11_weekday_1 ⟨Nat.le_of_ble_eq_true rfl, Nat.le_of_ble_eq_true rfl⟩) hS (fun q _ h => hFc q h) hFc (fun r_1 u t H1 locs ht hvm hw hB hz1 hk1 hS => ?_)
  obtain ⟨hP1, hK1, hD1⟩ := hB
  rw [ht] at hP1
  have hK1 := va_K.moved hvm.symm hK1
  obtain ⟨hP, hD⟩ := va_join (wr := [(h0, .inr (10, fs_h0))]) (w1 := []) hP hD [] [0] rfl rfl (by decide) (by decide) hk1 hFc hP1 hD1
  generalize H1 = H at hP hS ⊢
  have hP : va_P (dC, dI) vwCl [(h0, .inr (10, fs_h0))] H := hP
  have hD : va_D A [(h0, .inr (10, fs_h0))] := hD
  have er_1 : r_1 = f_X3_isDate p0 := hw
  refine lv_if_ne (tgt := 13) hx hb dX11_weekday_4 (by decide) (fun c_2 => ?_) (fun c_2 => ?_)
  · refine lv_aload_n hx hb dX11_weekday_13 rfl (lv_at hl 0 rfl) ?_
    refine lv_iconst (v := 0) hx hb dX11_weekday_14 (by decide) ?_
    refine va_put (D := (dC, dI)) (ci := 10) (v := .int 0) (C := RX11) (T := TX11) (N := 15) hx hb hts hinX11 tyX11 tyX11_ok nmX11 hown hK hP hD hS 0 rfl rfl 12 (by decide) (hts (.fieldLink RX11 74 "BondCalendars" "refusal" "I") (by decide +kernel)) (fun _ h9 => h9) rfl (ty := .int) (by decide +kernel) rfl rfl (by rw [hn_h0]; decide) dX11_weekday_15 (fun H locs hP hD hS => ?_)
    have hP : va_P (dC, dI) vwCl [(h0, .inr (10, (fs_h0.set 12 (.int 0))))] H := hP
    have hD : va_D A [(h0, .inr (10, (fs_h0.set 12 (.int 0))))] := hD
    refine lv_iload_n hx hb dX11_weekday_18 rfl (lv_at hl 1 rfl) ?_
    have hPc := hP.sub (ws' := []) [] rfl
    have hDc := hD.sub (ws' := []) [] (by decide) rfl
    have hKc := hK.sub (tys' := []) [] rfl
    have hFc := va_free (wc := []) hD hS hA [] rfl
    refine va_calli (va_runS (As := [.int p0]) (rest := []) ⟨hx, hb, hml, hown, hts⟩ (k_X3_dayOf l dC dI H.size p0) (va_cwS 1 hts gX11_weekday_X3_dayOf rfl rfl rfl (by decide +kernel) ⟨Nat.le_of_ble_eq_true rfl, Nat.le_of_ble_eq_true rfl⟩) ⟨fun a U g mk q => by obtain ⟨q0, q1, qP, qK, qD⟩ := q; exact ⟨q0, q1, qP, va_K.moved (u := U) (U := U.calling g mk a) (Vm.Alike.refl U.vm) qK, qD⟩, fun U hU hW => ⟨rfl, by rw [hU], by rw [hU]; exact hPc, va_K.moved hW.alike hKc, hDc.weaken (fun _ _ _ _ => trivial)⟩⟩ rfl rfl hl.1 rfl (lv_room (Nat.le_of_ble_eq_true rfl)) dX11_weekday_19 ⟨Nat.le_of_ble_eq_true rfl, Nat.le_of_ble_eq_true rfl⟩) hS (fun q _ h => hFc q h) hFc (fun r_3 u t H1 locs ht hvm hw hB hz1 hk1 hS => ?_)
    obtain ⟨hP1, hK1, hD1⟩ := hB
    rw [ht] at hP1
    have hK1 := va_K.moved hvm.symm hK1
    obtain ⟨hP, hD⟩ := va_join (wr := [(h0, .inr (10, (fs_h0.set 12 (.int 0))))]) (w1 := []) hP hD [] [0] rfl rfl (by decide) (by decide) hk1 hFc hP1 hD1
    generalize H1 = H at hP hS ⊢
    have hP : va_P (dC, dI) vwCl [(h0, .inr (10, (fs_h0.set 12 (.int 0))))] H := hP
    have hD : va_D A [(h0, .inr (10, (fs_h0.set 12 (.int 0))))] := hD
    have er_3 : r_3 = f_X3_dayOf p0 := hw
    have hPc := hP.sub (ws' := []) [] rfl
    have hDc := hD.sub (ws' := []) [] (by decide) rfl
    have hKc := hK.sub (tys' := []) [] rfl
    have hFc := va_free (wc := []) hD hS hA [] rfl
    refine va_calli (va_runS (As := [.int r_3]) (rest := []) ⟨hx, hb, hml, hown, hts⟩ (k_X3_weekdayOf l dC dI H.size r_3) (va_cwS 1 hts gX11_weekday_X3_weekdayOf rfl rfl rfl (by decide +kernel) ⟨Nat.le_of_ble_eq_true rfl, Nat.le_of_ble_eq_true rfl⟩) ⟨fun a U g mk q => by obtain ⟨q0, q1, qP, qK, qD⟩ := q; exact ⟨q0, q1, qP, va_K.moved (u := U) (U := U.calling g mk a) (Vm.Alike.refl U.vm) qK, qD⟩, fun U hU hW => ⟨rfl, by rw [hU], by rw [hU]; exact hPc, va_K.moved hW.alike hKc, hDc.weaken (fun _ _ _ _ => trivial)⟩⟩ rfl rfl hl.1 rfl (lv_room (Nat.le_of_ble_eq_true rfl)) dX11_weekday_22 ⟨Nat.le_of_ble_eq_true rfl, Nat.le_of_ble_eq_true rfl⟩) hS (fun q _ h => hFc q h) hFc (fun r_4 u t H1 locs ht hvm hw hB hz1 hk1 hS => ?_)
    obtain ⟨hP1, hK1, hD1⟩ := hB
    rw [ht] at hP1
    have hK1 := va_K.moved hvm.symm hK1
    obtain ⟨hP, hD⟩ := va_join (wr := [(h0, .inr (10, (fs_h0.set 12 (.int 0))))]) (w1 := []) hP hD [] [0] rfl rfl (by decide) (by decide) hk1 hFc hP1 hD1
    generalize H1 = H at hP hS ⊢
    have hP : va_P (dC, dI) vwCl [(h0, .inr (10, (fs_h0.set 12 (.int 0))))] H := hP
    have hD : va_D A [(h0, .inr (10, (fs_h0.set 12 (.int 0))))] := hD
    have er_4 : r_4 = f_X3_weekdayOf r_3 := hw
    have hpost : r_4 = f_X11_weekday p0 := by subst er_1 er_3 er_4; refine Eq.symm ?_; refine (if_neg c_2).trans ?_; rfl
    have hP9 := hP.sub (ws' := []) [] rfl
    have hD9 := hD.sub (ws' := []) [] (by decide) rfl
    have hK9 := hK.sub (tys' := []) [] rfl
    exact W.iret (v := r_4) hx hb hr (fun t ht hW => ⟨⟨r_4, (), rfl, hpost, by rw [ht]; exact hP9, va_K.moved hW.alike hK9, hD9⟩, hS.F ht⟩) hS.2.2 dX11_weekday_25
  · refine lv_aload_n hx hb dX11_weekday_7 rfl (lv_at hl 0 rfl) ?_
    refine lv_iconst (v := 2) hx hb dX11_weekday_8 (by decide) ?_
    have hPc := hP.sub (ws' := [(h0, .inr (10, fs_h0))]) [0] rfl
    have hDc := hD.sub (ws' := [(h0, .inr (10, fs_h0))]) [0] (by decide) rfl
    have hKc := hK.sub (tys' := []) [] rfl
    have hFc := va_free (wc := [(h0, .inr (10, fs_h0))]) hD hS hA [0] rfl
    refine va_calli (va_runV (As := [.int 2]) (rest := []) ⟨hx, hb, hml, hown, hts⟩ (k_X11_refuse l dC dI H.size h0 fs_h0 2 hn_h0) (cwV 1 hts gX11_weekday_X11_refuse rfl rfl rfl (by decide +kernel) ⟨Nat.le_of_ble_eq_true rfl, Nat.le_of_ble_eq_true rfl⟩) ⟨fun a U g mk q => by obtain ⟨q0, q1, qP, qK, qD⟩ := q; exact ⟨q0, q1, qP, va_K.moved (u := U) (U := U.calling g mk a) (Vm.Alike.refl U.vm) qK, qD⟩, va_recv hKc hPc (ci := 10) (q0 := 0) rfl rfl, fun U hU hW => ⟨rfl, by rw [hU], by rw [hU]; exact hPc, va_K.moved hW.alike hKc, hDc.weaken (fun _ _ _ _ => trivial)⟩⟩ rfl rfl hl.1 rfl (lv_room (Nat.le_of_ble_eq_true rfl)) dX11_weekday_9 ⟨Nat.le_of_ble_eq_true rfl, Nat.le_of_ble_eq_true rfl⟩) hS (fun q _ h => hFc q h) hFc (fun r_5 u t H1 locs ht hvm hw hB hz1 hk1 hS => ?_)
    obtain ⟨hP1, hK1, hD1⟩ := hB
    rw [ht] at hP1
    have hK1 := va_K.moved hvm.symm hK1
    obtain ⟨hP, hD⟩ := va_join (wr := []) (w1 := []) hP hD [0] [] rfl rfl (by decide) (by decide) hk1 hFc hP1 hD1
    generalize H1 = H at hP hS ⊢
    have hP : va_P (dC, dI) vwCl [] H := hP
    have hD : va_D A [] := hD
    have er_5 : r_5 = (-1) := hw
    subst er_5
    have hpost : (-1) = f_X11_weekday p0 := by subst er_1; refine Eq.symm ?_; refine (if_pos c_2).trans ?_; rfl
    have hP9 := hP.sub (ws' := []) [] rfl
    have hD9 := hD.sub (ws' := []) [] (by decide) rfl
    have hK9 := hK.sub (tys' := []) [] rfl
    exact W.iret (v := (-1)) hx hb hr (fun t ht hW => ⟨⟨(-1), (), rfl, hpost, by rw [ht]; exact hP9, va_K.moved hW.alike hK9, hD9⟩, hS.F ht⟩) hS.2.2 dX11_weekday_12
def f_X11_months (p0 : Int32) (p1 : Int32) (p2 : Int32) : Int32 :=
  let r_1 : Int32 := f_X3_isDate p0
  if r_1 = 0 then
    (-1)
  else
    if p1 < (-120) then
      (-1)
    else
      if p1 ≤ 120 then
        let r_7 : Int32 := f_X3_monthsFrom p0 p1 p2
        r_7
      else
        (-1)
set_option maxHeartbeats 4000000 in
set_option maxRecDepth 100000 in
theorem k_X11_months (l : Launch) (dC : Nat → ClassId) (dI : Nat → Nat → Nat) (sz : Nat) (h0 : Nat) (fs_h0 : List Value) (p0 : Int32) (p1 : Int32) (p2 : Int32) (hn_h0 : fs_h0.length = 15) : Met l yX11_months wsX11_months ({ frames := 2, cells := 0, slots := 0, locals := 52 }) (va_Pc [.ref h0, .int p0, .int p1, .int p2] (fun U => U.heap.size = sz ∧ va_P (dC, dI) vwCl [(h0, .inr (10, fs_h0))] U.heap ∧ va_K (dC, dI) vwCl [] U ∧ va_D (fun _ => True) [(h0, .inr (10, fs_h0))])) (va_Qi (fun (r : Int32) (_ : Unit) => r = f_X11_months p0 p1 p2) (fun _ t => va_P (dC, dI) vwCl [] t.heap ∧ va_K (dC, dI) vwCl [] t ∧ va_D (va_A [(h0, .inr (10, fs_h0))] sz) []) (va_A [(h0, .inr (10, fs_h0))] sz)) 0 0 (va_A [(h0, .inr (10, fs_h0))] sz) := by
  refine Met.ofW (cc := cX11_months) (maxL := 4) (ret := (some .int)) (by decide) rfl ?_
  intro p e s m args below meth c s₁ B hml hv
  obtain ⟨rfl, hsz, hP, hK, hD0⟩ := hv
  have hx := B.exec
  have hb := B.bytes
  have hr := B.returns
  have hts := atoms_spec (ws := wsX11_months) B.pre
  have hown : s.vm.findClass RX11 = some m.cls := findClass_of_methodNamed B.named
  have hlocks := B.notSynchronized
  have hinX11 : ∀ w ∈ u_ws RX11 TX11 15, w ∈ wsX11_months := (fun _ h9 => List.mem_cons_of_mem _ (List.mem_append_right _ h9))
  subst hsz
  have hD := hD0.self (sz := s.heap.size)
  generalize hAe : va_A [(h0, .inr (10, fs_h0))] s.heap.size = A at hD ⊢
  have hA : ∀ q : Nat, s.heap.size ≤ q → A q := fun q h => by rw [← hAe]; exact Or.inr h
  have hS : va_S A s.heap s.heap [] := va_S.rf
  have hP : va_P (dC, dI) vwCl [(h0, .inr (10, fs_h0))] s.heap := hP
  have hl := lv_entry ([.ref h0, .int p0, .int p1, .int p2]) (n := 4) (Nat.le_of_ble_eq_true rfl)
  rw [lg_entry_eq]
  generalize (lg_sl ([.ref h0, .int p0, .int p1, .int p2]) ++ List.replicate (4 - (lg_sl ([.ref h0, .int p0, .int p1, .int p2])).length) Slot.unset).toArray = ls at hl ⊢
  have hl : lv_has ls 4 [(0, .ref h0), (1, .int p0), (2, .int p1), (3, .int p2)] := hl
  refine lv_iload_n hx hb dX11_months_0 rfl (lv_at hl 1 rfl) ?_
  have hPc := hP.sub (ws' := []) [] rfl
  have hDc := hD.sub (ws' := []) [] (by decide) rfl
  have hKc := hK.sub (tys' := []) [] rfl
  have hFc := va_free (wc := []) hD hS hA [] rfl
  refine va_calli (va_runS (As := [.int p0]) (rest := []) ⟨hx, hb, hml, hown, hts⟩ (k_X3_isDate l dC dI s.heap.size p0) (va_cwS 1 hts gX11_months_X3_isDate rfl rfl rfl (by decide +kernel) ⟨Nat.le_of_ble_eq_true rfl, Nat.le_of_ble_eq_true rfl⟩) ⟨fun a U g mk q => by obtain ⟨q0, q1, qP, qK, qD⟩ := q; exact ⟨q0, q1, qP, va_K.moved (u := U) (U := U.calling g mk a) (Vm.Alike.refl U.vm) qK, qD⟩, fun U hU hW => ⟨rfl, by rw [hU], by rw [hU]; exact hPc, va_K.moved hW.alike hKc, hDc.weaken (fun _ _ _ _ => trivial)⟩⟩ rfl rfl hl.1 rfl (lv_room (Nat.le_of_ble_eq_true rfl)) dX11_months_1 ⟨Nat.le_of_ble_eq_true rfl, Nat.le_of_ble_eq_true rfl⟩) hS (fun q _ h => hFc q h) hFc (fun r_1 u t H1 locs ht hvm hw hB hz1 hk1 hS => ?_)
  obtain ⟨hP1, hK1, hD1⟩ := hB
  rw [ht] at hP1
  have hK1 := va_K.moved hvm.symm hK1
  obtain ⟨hP, hD⟩ := va_join (wr := [(h0, .inr (10, fs_h0))]) (w1 := []) hP hD [] [0] rfl rfl (by decide) (by decide) hk1 hFc hP1 hD1
  generalize H1 = H at hP hS ⊢
  have hP : va_P (dC, dI) vwCl [(h0, .inr (10, fs_h0))] H := hP
  have hD : va_D A [(h0, .inr (10, fs_h0))] := hD
  have er_1 : r_1 = f_X3_isDate p0 := hw
  refine lv_if_eq (tgt := 19) hx hb dX11_months_4 (by decide) (fun c_2 => ?_) (fun c_2 => ?_)
  · refine lv_aload_n hx hb dX11_months_19 rfl (lv_at hl 0 rfl) ?_
    refine lv_iconst (v := 2) hx hb dX11_months_20 (by decide) ?_
    have hPc := hP.sub (ws' := [(h0, .inr (10, fs_h0))]) [0] rfl
    have hDc := hD.sub (ws' := [(h0, .inr (10, fs_h0))]) [0] (by decide) rfl
    have hKc := hK.sub (tys' := []) [] rfl
    have hFc := va_free (wc := [(h0, .inr (10, fs_h0))]) hD hS hA [0] rfl
    refine va_calli (va_runV (As := [.int 2]) (rest := []) ⟨hx, hb, hml, hown, hts⟩ (k_X11_refuse l dC dI H.size h0 fs_h0 2 hn_h0) (cwV 1 hts gX11_months_X11_refuse rfl rfl rfl (by decide +kernel) ⟨Nat.le_of_ble_eq_true rfl, Nat.le_of_ble_eq_true rfl⟩) ⟨fun a U g mk q => by obtain ⟨q0, q1, qP, qK, qD⟩ := q; exact ⟨q0, q1, qP, va_K.moved (u := U) (U := U.calling g mk a) (Vm.Alike.refl U.vm) qK, qD⟩, va_recv hKc hPc (ci := 10) (q0 := 0) rfl rfl, fun U hU hW => ⟨rfl, by rw [hU], by rw [hU]; exact hPc, va_K.moved hW.alike hKc, hDc.weaken (fun _ _ _ _ => trivial)⟩⟩ rfl rfl hl.1 rfl (lv_room (Nat.le_of_ble_eq_true rfl)) dX11_months_21 ⟨Nat.le_of_ble_eq_true rfl, Nat.le_of_ble_eq_true rfl⟩) hS (fun q _ h => hFc q h) hFc (fun r_3 u t H1 locs ht hvm hw hB hz1 hk1 hS => ?_)
    obtain ⟨hP1, hK1, hD1⟩ := hB
    rw [ht] at hP1
    have hK1 := va_K.moved hvm.symm hK1
    obtain ⟨hP, hD⟩ := va_join (wr := []) (w1 := []) hP hD [0] [] rfl rfl (by decide) (by decide) hk1 hFc hP1 hD1
    generalize H1 = H at hP hS ⊢
    have hP : va_P (dC, dI) vwCl [] H := hP
    have hD : va_D A [] := hD
    have er_3 : r_3 = (-1) := hw
    subst er_3
    have hpost : (-1) = f_X11_months p0 p1 p2 := by subst er_1; refine Eq.symm ?_; refine (if_pos c_2).trans ?_; rfl
    have hP9 := hP.sub (ws' := []) [] rfl
    have hD9 := hD.sub (ws' := []) [] (by decide) rfl
    have hK9 := hK.sub (tys' := []) [] rfl
    exact W.iret (v := (-1)) hx hb hr (fun t ht hW => ⟨⟨(-1), (), rfl, hpost, by rw [ht]; exact hP9, va_K.moved hW.alike hK9, hD9⟩, hS.F ht⟩) hS.2.2 dX11_months_24
  · refine lv_iload_n hx hb dX11_months_7 rfl (lv_at hl 2 rfl) ?_
    refine lv_bipush (v := (-120)) hx hb dX11_months_8 (by decide) ?_
    refine lv_icmp_lt (tgt := 19) hx hb dX11_months_10 (by decide) (fun c_4 => ?_) (fun c_4 => ?_)
    · refine lv_aload_n hx hb dX11_months_19 rfl (lv_at hl 0 rfl) ?_
      refine lv_iconst (v := 2) hx hb dX11_months_20 (by decide) ?_
      have hPc := hP.sub (ws' := [(h0, .inr (10, fs_h0))]) [0] rfl
      have hDc := hD.sub (ws' := [(h0, .inr (10, fs_h0))]) [0] (by decide) rfl
      have hKc := hK.sub (tys' := []) [] rfl
      have hFc := va_free (wc := [(h0, .inr (10, fs_h0))]) hD hS hA [0] rfl
      refine va_calli (va_runV (As := [.int 2]) (rest := []) ⟨hx, hb, hml, hown, hts⟩ (k_X11_refuse l dC dI H.size h0 fs_h0 2 hn_h0) (cwV 1 hts gX11_months_X11_refuse rfl rfl rfl (by decide +kernel) ⟨Nat.le_of_ble_eq_true rfl, Nat.le_of_ble_eq_true rfl⟩) ⟨fun a U g mk q => by obtain ⟨q0, q1, qP, qK, qD⟩ := q; exact ⟨q0, q1, qP, va_K.moved (u := U) (U := U.calling g mk a) (Vm.Alike.refl U.vm) qK, qD⟩, va_recv hKc hPc (ci := 10) (q0 := 0) rfl rfl, fun U hU hW => ⟨rfl, by rw [hU], by rw [hU]; exact hPc, va_K.moved hW.alike hKc, hDc.weaken (fun _ _ _ _ => trivial)⟩⟩ rfl rfl hl.1 rfl (lv_room (Nat.le_of_ble_eq_true rfl)) dX11_months_21 ⟨Nat.le_of_ble_eq_true rfl, Nat.le_of_ble_eq_true rfl⟩) hS (fun q _ h => hFc q h) hFc (fun r_5 u t H1 locs ht hvm hw hB hz1 hk1 hS => ?_)
      obtain ⟨hP1, hK1, hD1⟩ := hB
      rw [ht] at hP1
      have hK1 := va_K.moved hvm.symm hK1
      obtain ⟨hP, hD⟩ := va_join (wr := []) (w1 := []) hP hD [0] [] rfl rfl (by decide) (by decide) hk1 hFc hP1 hD1
      generalize H1 = H at hP hS ⊢
      have hP : va_P (dC, dI) vwCl [] H := hP
      have hD : va_D A [] := hD
      have er_5 : r_5 = (-1) := hw
      subst er_5
      have hpost : (-1) = f_X11_months p0 p1 p2 := by subst er_1; refine Eq.symm ?_; refine (if_neg c_2).trans ?_; refine (if_pos c_4).trans ?_; rfl
      have hP9 := hP.sub (ws' := []) [] rfl
      have hD9 := hD.sub (ws' := []) [] (by decide) rfl
      have hK9 := hK.sub (tys' := []) [] rfl
      exact W.iret (v := (-1)) hx hb hr (fun t ht hW => ⟨⟨(-1), (), rfl, hpost, by rw [ht]; exact hP9, va_K.moved hW.alike hK9, hD9⟩, hS.F ht⟩) hS.2.2 dX11_months_24
    · refine lv_iload_n hx hb dX11_months_13 rfl (lv_at hl 2 rfl) ?_
      refine lv_bipush (v := 120) hx hb dX11_months_14 (by decide) ?_
      refine lv_icmp_le (tgt := 25) hx hb dX11_months_16 (by decide) (fun c_6 => ?_) (fun c_6 => ?_)
      · refine lv_aload_n hx hb dX11_months_25 rfl (lv_at hl 0 rfl) ?_
        refine lv_iconst (v := 0) hx hb dX11_months_26 (by decide) ?_
        refine va_put (D := (dC, dI)) (ci := 10) (v := .int 0) (C := RX11) (T := TX11) (N := 15) hx hb hts hinX11 tyX11 tyX11_ok nmX11 hown hK hP hD hS 0 rfl rfl 12 (by decide) (hts (.fieldLink RX11 74 "BondCalendars" "refusal" "I") (by decide +kernel)) (fun _ h9 => h9) rfl (ty := .int) (by decide +kernel) rfl rfl (by rw [hn_h0]; decide) dX11_months_27 (fun H locs hP hD hS => ?_)
        have hP : va_P (dC, dI) vwCl [(h0, .inr (10, (fs_h0.set 12 (.int 0))))] H := hP
        have hD : va_D A [(h0, .inr (10, (fs_h0.set 12 (.int 0))))] := hD
        refine lv_iload_n hx hb dX11_months_30 rfl (lv_at hl 1 rfl) ?_
        refine lv_iload_n hx hb dX11_months_31 rfl (lv_at hl 2 rfl) ?_
        refine lv_iload_n hx hb dX11_months_32 rfl (lv_at hl 3 rfl) ?_
        have hPc := hP.sub (ws' := []) [] rfl
        have hDc := hD.sub (ws' := []) [] (by decide) rfl
        have hKc := hK.sub (tys' := []) [] rfl
        have hFc := va_free (wc := []) hD hS hA [] rfl
        refine va_calli (va_runS (As := [.int p0, .int p1, .int p2]) (rest := []) ⟨hx, hb, hml, hown, hts⟩ (k_X3_monthsFrom l dC dI H.size p0 p1 p2) (va_cwS 3 hts gX11_months_X3_monthsFrom rfl rfl rfl (by decide +kernel) ⟨Nat.le_of_ble_eq_true rfl, Nat.le_of_ble_eq_true rfl⟩) ⟨fun a U g mk q => by obtain ⟨q0, q1, qP, qK, qD⟩ := q; exact ⟨q0, q1, qP, va_K.moved (u := U) (U := U.calling g mk a) (Vm.Alike.refl U.vm) qK, qD⟩, fun U hU hW => ⟨rfl, by rw [hU], by rw [hU]; exact hPc, va_K.moved hW.alike hKc, hDc.weaken (fun _ _ _ _ => trivial)⟩⟩ rfl rfl hl.1 rfl (lv_room (Nat.le_of_ble_eq_true rfl)) dX11_months_33 ⟨Nat.le_of_ble_eq_true rfl, Nat.le_of_ble_eq_true rfl⟩) hS (fun q _ h => hFc q h) hFc (fun r_7 u t H1 locs ht hvm hw hB hz1 hk1 hS => ?_)
        obtain ⟨hP1, hK1, hD1⟩ := hB
        rw [ht] at hP1
        have hK1 := va_K.moved hvm.symm hK1
        obtain ⟨hP, hD⟩ := va_join (wr := [(h0, .inr (10, (fs_h0.set 12 (.int 0))))]) (w1 := []) hP hD [] [0] rfl rfl (by decide) (by decide) hk1 hFc hP1 hD1
        generalize H1 = H at hP hS ⊢
        have hP : va_P (dC, dI) vwCl [(h0, .inr (10, (fs_h0.set 12 (.int 0))))] H := hP
        have hD : va_D A [(h0, .inr (10, (fs_h0.set 12 (.int 0))))] := hD
        have er_7 : r_7 = f_X3_monthsFrom p0 p1 p2 := hw
        have hpost : r_7 = f_X11_months p0 p1 p2 := by subst er_1 er_7; refine Eq.symm ?_; refine (if_neg c_2).trans ?_; refine (if_neg c_4).trans ?_; refine (if_pos c_6).trans ?_; rfl
        have hP9 := hP.sub (ws' := []) [] rfl
        have hD9 := hD.sub (ws' := []) [] (by decide) rfl
        have hK9 := hK.sub (tys' := []) [] rfl
        exact W.iret (v := r_7) hx hb hr (fun t ht hW => ⟨⟨r_7, (), rfl, hpost, by rw [ht]; exact hP9, va_K.moved hW.alike hK9, hD9⟩, hS.F ht⟩) hS.2.2 dX11_months_36
      · refine lv_aload_n hx hb dX11_months_19 rfl (lv_at hl 0 rfl) ?_
        refine lv_iconst (v := 2) hx hb dX11_months_20 (by decide) ?_
        have hPc := hP.sub (ws' := [(h0, .inr (10, fs_h0))]) [0] rfl
        have hDc := hD.sub (ws' := [(h0, .inr (10, fs_h0))]) [0] (by decide) rfl
        have hKc := hK.sub (tys' := []) [] rfl
        have hFc := va_free (wc := [(h0, .inr (10, fs_h0))]) hD hS hA [0] rfl
        refine va_calli (va_runV (As := [.int 2]) (rest := []) ⟨hx, hb, hml, hown, hts⟩ (k_X11_refuse l dC dI H.size h0 fs_h0 2 hn_h0) (cwV 1 hts gX11_months_X11_refuse rfl rfl rfl (by decide +kernel) ⟨Nat.le_of_ble_eq_true rfl, Nat.le_of_ble_eq_true rfl⟩) ⟨fun a U g mk q => by obtain ⟨q0, q1, qP, qK, qD⟩ := q; exact ⟨q0, q1, qP, va_K.moved (u := U) (U := U.calling g mk a) (Vm.Alike.refl U.vm) qK, qD⟩, va_recv hKc hPc (ci := 10) (q0 := 0) rfl rfl, fun U hU hW => ⟨rfl, by rw [hU], by rw [hU]; exact hPc, va_K.moved hW.alike hKc, hDc.weaken (fun _ _ _ _ => trivial)⟩⟩ rfl rfl hl.1 rfl (lv_room (Nat.le_of_ble_eq_true rfl)) dX11_months_21 ⟨Nat.le_of_ble_eq_true rfl, Nat.le_of_ble_eq_true rfl⟩) hS (fun q _ h => hFc q h) hFc (fun r_8 u t H1 locs ht hvm hw hB hz1 hk1 hS => ?_)
        obtain ⟨hP1, hK1, hD1⟩ := hB
        rw [ht] at hP1
        have hK1 := va_K.moved hvm.symm hK1
        obtain ⟨hP, hD⟩ := va_join (wr := []) (w1 := []) hP hD [0] [] rfl rfl (by decide) (by decide) hk1 hFc hP1 hD1
        generalize H1 = H at hP hS ⊢
        have hP : va_P (dC, dI) vwCl [] H := hP
        have hD : va_D A [] := hD
        have er_8 : r_8 = (-1) := hw
        subst er_8
        have hpost : (-1) = f_X11_months p0 p1 p2 := by subst er_1; refine Eq.symm ?_; refine (if_neg c_2).trans ?_; refine (if_neg c_4).trans ?_; refine (if_neg c_6).trans ?_; rfl
        have hP9 := hP.sub (ws' := []) [] rfl
        have hD9 := hD.sub (ws' := []) [] (by decide) rfl
        have hK9 := hK.sub (tys' := []) [] rfl
        exact W.iret (v := (-1)) hx hb hr (fun t ht hW => ⟨⟨(-1), (), rfl, hpost, by rw [ht]; exact hP9, va_K.moved hW.alike hK9, hD9⟩, hS.F ht⟩) hS.2.2 dX11_months_24
def f_X11_size (p0 : Int32) : Int32 :=
  if p0 = 0 then
    0
  else
    if p0 = 1 then
      0
    else
      if p0 = 2 then
        0
      else
        if p0 = 3 then
          0
        else
          if p0 = 4 then
            0
          else
            (-1)
set_option maxHeartbeats 4000000 in
set_option maxRecDepth 100000 in
theorem k_X11_size (l : Launch) (dC : Nat → ClassId) (dI : Nat → Nat → Nat) (sz : Nat) (h0 : Nat) (fs_h0 : List Value) (rd : Nat) (fs_rd : List Value) (tp : Nat) (fs_tp : List Value) (li : Nat) (fs_li : List Value) (ho : Nat) (fs_ho : List Value) (p0 : Int32) (hn_h0 : fs_h0.length = 15) (hf_h0_0 : fs_h0[0]? = some (.ref rd)) (hf_h0_8 : fs_h0[8]? = some (.ref li)) (hf_h0_11 : fs_h0[11]? = some (.int 0)) (hn_rd : fs_rd.length = 5) (hf_rd_0 : fs_rd[0]? = some (.ref tp)) (hn_tp : fs_tp.length = 7) (hf_tp_1 : fs_tp[1]? = some (.int 0)) (hn_li : fs_li.length = 12) (hf_li_2 : fs_li[2]? = some (.ref ho)) (hf_li_4 : fs_li[4]? = some (.int 0)) (hf_li_9 : fs_li[9]? = some (.int 0)) (hn_ho : fs_ho.length = 2) (hf_ho_1 : fs_ho[1]? = some (.int 0)) : Met l yX11_size wsX11_size ({ frames := 0, cells := 0, slots := 0, locals := 0 }) (va_Pc [.ref h0, .int p0] (fun U => U.heap.size = sz ∧ va_P (dC, dI) vwCl [(h0, .inr (10, fs_h0)), (rd, .inr (6, fs_rd)), (tp, .inr (9, fs_tp)), (li, .inr (3, fs_li)), (ho, .inr (4, fs_ho))] U.heap ∧ va_K (dC, dI) vwCl [] U ∧ va_D (fun _ => True) [(h0, .inr (10, fs_h0)), (rd, .inr (6, fs_rd)), (tp, .inr (9, fs_tp)), (li, .inr (3, fs_li)), (ho, .inr (4, fs_ho))])) (va_Qi (fun (r : Int32) (_ : Unit) => r = f_X11_size p0) (fun _ t => va_P (dC, dI) vwCl [] t.heap ∧ va_K (dC, dI) vwCl [] t ∧ va_D (va_A [(h0, .inr (10, fs_h0)), (rd, .inr (6, fs_rd)), (tp, .inr (9, fs_tp)), (li, .inr (3, fs_li)), (ho, .inr (4, fs_ho))] sz) []) (va_A [(h0, .inr (10, fs_h0)), (rd, .inr (6, fs_rd)), (tp, .inr (9, fs_tp)), (li, .inr (3, fs_li)), (ho, .inr (4, fs_ho))] sz)) 0 0 (va_A [(h0, .inr (10, fs_h0)), (rd, .inr (6, fs_rd)), (tp, .inr (9, fs_tp)), (li, .inr (3, fs_li)), (ho, .inr (4, fs_ho))] sz) := by
  refine Met.ofW (cc := cX11_size) (maxL := 2) (ret := (some .int)) (by decide) rfl ?_
  intro p e s m args below meth c s₁ B hml hv
  obtain ⟨rfl, hsz, hP, hK, hD0⟩ := hv
  have hx := B.exec
  have hb := B.bytes
  have hr := B.returns
  have hts := atoms_spec (ws := wsX11_size) B.pre
  have hown : s.vm.findClass RX11 = some m.cls := findClass_of_methodNamed B.named
  have hlocks := B.notSynchronized
  have hinX11 : ∀ w ∈ u_ws RX11 TX11 15, w ∈ wsX11_size := (fun _ h9 => List.mem_cons_of_mem _ (List.mem_append_left _ (List.mem_append_left _ (List.mem_append_left _ (List.mem_append_left _ (List.mem_append_right _ h9))))))
  have hinX4 : ∀ w ∈ u_ws RX4 TX4 12, w ∈ wsX11_size := (fun _ h9 => List.mem_cons_of_mem _ (List.mem_append_left _ (List.mem_append_left _ (List.mem_append_left _ (List.mem_append_right _ h9)))))
  have hinX5 : ∀ w ∈ u_ws RX5 TX5 2, w ∈ wsX11_size := (fun _ h9 => List.mem_cons_of_mem _ (List.mem_append_left _ (List.mem_append_left _ (List.mem_append_right _ h9))))
  have hinX7 : ∀ w ∈ u_ws RX7 TX7 5, w ∈ wsX11_size := (fun _ h9 => List.mem_cons_of_mem _ (List.mem_append_left _ (List.mem_append_right _ h9)))
  have hinX10 : ∀ w ∈ u_ws RX10 TX10 7, w ∈ wsX11_size := (fun _ h9 => List.mem_cons_of_mem _ (List.mem_append_right _ h9))
  subst hsz
  have hD := hD0.self (sz := s.heap.size)
  generalize hAe : va_A [(h0, .inr (10, fs_h0)), (rd, .inr (6, fs_rd)), (tp, .inr (9, fs_tp)), (li, .inr (3, fs_li)), (ho, .inr (4, fs_ho))] s.heap.size = A at hD ⊢
  have hA : ∀ q : Nat, s.heap.size ≤ q → A q := fun q h => by rw [← hAe]; exact Or.inr h
  have hS : va_S A s.heap s.heap [] := va_S.rf
  have hP : va_P (dC, dI) vwCl [(h0, .inr (10, fs_h0)), (rd, .inr (6, fs_rd)), (tp, .inr (9, fs_tp)), (li, .inr (3, fs_li)), (ho, .inr (4, fs_ho))] s.heap := hP
  have hl := lv_entry ([.ref h0, .int p0]) (n := 2) (Nat.le_of_ble_eq_true rfl)
  rw [lg_entry_eq]
  generalize (lg_sl ([.ref h0, .int p0]) ++ List.replicate (2 - (lg_sl ([.ref h0, .int p0])).length) Slot.unset).toArray = ls at hl ⊢
  have hl : lv_has ls 2 [(0, .ref h0), (1, .int p0)] := hl
  refine lv_iload_n hx hb dX11_size_0 rfl (lv_at hl 1 rfl) ?_
  by_cases c_1 : p0 = 0
  · refine lv_tableIn (tgt := 36) hx hb dX11_size_1 (by rw [c_1]; decide) (by rw [c_1]; decide) (by rw [c_1]; rfl) (by decide) ?_
    refine lv_aload_n hx hb dX11_size_36 rfl (lv_at hl 0 rfl) ?_
    refine va_get (D := (dC, dI)) (ci := 10) (v := .ref li) (C := RX11) (T := TX11) (N := 15) hx hb hts hinX11 hown hK hP 0 rfl rfl 8 (by decide) (hts (.fieldLink RX11 60 "BondCalendars" "live" "LBondCalendars$Desk;") (by decide +kernel)) (fun _ h9 => h9) hf_h0_8 dX11_size_37 ?_
    refine va_get (D := (dC, dI)) (ci := 3) (v := .int 0) (C := RX4) (T := TX4) (N := 12) hx hb hts hinX4 hown hK hP 3 rfl rfl 4 (by decide) (hts (.fieldLink RX11 124 "BondCalendars$Desk" "bondCount" "I") (by decide +kernel)) (fun _ h9 => h9) hf_li_4 dX11_size_40 ?_
    have hpost : 0 = f_X11_size p0 := by refine Eq.symm ?_; refine (if_pos c_1).trans ?_; rfl
    have hP9 := hP.sub (ws' := []) [] rfl
    have hD9 := hD.sub (ws' := []) [] (by decide) rfl
    have hK9 := hK.sub (tys' := []) [] rfl
    exact W.iret (v := 0) hx hb hr (fun t ht hW => ⟨⟨0, (), rfl, hpost, by rw [ht]; exact hP9, va_K.moved hW.alike hK9, hD9⟩, hS.F ht⟩) hS.2.2 dX11_size_43
  by_cases c_2 : p0 = 1
  · refine lv_tableIn (tgt := 44) hx hb dX11_size_1 (by rw [c_2]; decide) (by rw [c_2]; decide) (by rw [c_2]; rfl) (by decide) ?_
    refine lv_aload_n hx hb dX11_size_44 rfl (lv_at hl 0 rfl) ?_
    refine va_get (D := (dC, dI)) (ci := 10) (v := .ref li) (C := RX11) (T := TX11) (N := 15) hx hb hts hinX11 hown hK hP 0 rfl rfl 8 (by decide) (hts (.fieldLink RX11 60 "BondCalendars" "live" "LBondCalendars$Desk;") (by decide +kernel)) (fun _ h9 => h9) hf_h0_8 dX11_size_45 ?_
    refine va_get (D := (dC, dI)) (ci := 3) (v := .int 0) (C := RX4) (T := TX4) (N := 12) hx hb hts hinX4 hown hK hP 3 rfl rfl 9 (by decide) (hts (.fieldLink RX11 328 "BondCalendars$Desk" "quoteCount" "I") (by decide +kernel)) (fun _ h9 => h9) hf_li_9 dX11_size_48 ?_
    have hpost : 0 = f_X11_size p0 := by refine Eq.symm ?_; refine (if_neg c_1).trans ?_; refine (if_pos c_2).trans ?_; rfl
    have hP9 := hP.sub (ws' := []) [] rfl
    have hD9 := hD.sub (ws' := []) [] (by decide) rfl
    have hK9 := hK.sub (tys' := []) [] rfl
    exact W.iret (v := 0) hx hb hr (fun t ht hW => ⟨⟨0, (), rfl, hpost, by rw [ht]; exact hP9, va_K.moved hW.alike hK9, hD9⟩, hS.F ht⟩) hS.2.2 dX11_size_51
  by_cases c_3 : p0 = 2
  · refine lv_tableIn (tgt := 52) hx hb dX11_size_1 (by rw [c_3]; decide) (by rw [c_3]; decide) (by rw [c_3]; rfl) (by decide) ?_
    refine lv_aload_n hx hb dX11_size_52 rfl (lv_at hl 0 rfl) ?_
    refine va_get (D := (dC, dI)) (ci := 10) (v := .ref li) (C := RX11) (T := TX11) (N := 15) hx hb hts hinX11 hown hK hP 0 rfl rfl 8 (by decide) (hts (.fieldLink RX11 60 "BondCalendars" "live" "LBondCalendars$Desk;") (by decide +kernel)) (fun _ h9 => h9) hf_h0_8 dX11_size_53 ?_
    refine va_get (D := (dC, dI)) (ci := 3) (v := .ref ho) (C := RX4) (T := TX4) (N := 12) hx hb hts hinX4 hown hK hP 3 rfl rfl 2 (by decide) (hts (.fieldLink RX11 146 "BondCalendars$Desk" "holidays" "LBondCalendars$Holidays;") (by decide +kernel)) (fun _ h9 => h9) hf_li_2 dX11_size_56 ?_
    refine va_get (D := (dC, dI)) (ci := 4) (v := .int 0) (C := RX5) (T := TX5) (N := 2) hx hb hts hinX5 hown hK hP 4 rfl rfl 1 (by decide) (hts (.fieldLink RX11 378 "BondCalendars$Holidays" "count" "I") (by decide +kernel)) (fun _ h9 => h9) hf_ho_1 dX11_size_59 ?_
    have hpost : 0 = f_X11_size p0 := by refine Eq.symm ?_; refine (if_neg c_1).trans ?_; refine (if_neg c_2).trans ?_; refine (if_pos c_3).trans ?_; rfl
    have hP9 := hP.sub (ws' := []) [] rfl
    have hD9 := hD.sub (ws' := []) [] (by decide) rfl
    have hK9 := hK.sub (tys' := []) [] rfl
    exact W.iret (v := 0) hx hb hr (fun t ht hW => ⟨⟨0, (), rfl, hpost, by rw [ht]; exact hP9, va_K.moved hW.alike hK9, hD9⟩, hS.F ht⟩) hS.2.2 dX11_size_62
  by_cases c_4 : p0 = 3
  · refine lv_tableIn (tgt := 63) hx hb dX11_size_1 (by rw [c_4]; decide) (by rw [c_4]; decide) (by rw [c_4]; rfl) (by decide) ?_
    refine lv_aload_n hx hb dX11_size_63 rfl (lv_at hl 0 rfl) ?_
    refine va_get (D := (dC, dI)) (ci := 10) (v := .ref rd) (C := RX11) (T := TX11) (N := 15) hx hb hts hinX11 hown hK hP 0 rfl rfl 0 (by decide) (hts (.fieldLink RX11 10 "BondCalendars" "reader" "LBondCalendars$Reader;") (by decide +kernel)) (fun _ h9 => h9) hf_h0_0 dX11_size_64 ?_
    refine va_get (D := (dC, dI)) (ci := 6) (v := .ref tp) (C := RX7) (T := TX7) (N := 5) hx hb hts hinX7 hown hK hP 1 rfl rfl 0 (by decide) (hts (.fieldLink RX11 84 "BondCalendars$Reader" "tape" "LBondCalendars$Tape;") (by decide +kernel)) (fun _ h9 => h9) hf_rd_0 dX11_size_67 ?_
    refine va_get (D := (dC, dI)) (ci := 9) (v := .int 0) (C := RX10) (T := TX10) (N := 7) hx hb hts hinX10 hown hK hP 2 rfl rfl 1 (by decide) (hts (.fieldLink RX11 88 "BondCalendars$Tape" "length" "I") (by decide +kernel)) (fun _ h9 => h9) hf_tp_1 dX11_size_70 ?_
    have hpost : 0 = f_X11_size p0 := by refine Eq.symm ?_; refine (if_neg c_1).trans ?_; refine (if_neg c_2).trans ?_; refine (if_neg c_3).trans ?_; refine (if_pos c_4).trans ?_; rfl
    have hP9 := hP.sub (ws' := []) [] rfl
    have hD9 := hD.sub (ws' := []) [] (by decide) rfl
    have hK9 := hK.sub (tys' := []) [] rfl
    exact W.iret (v := 0) hx hb hr (fun t ht hW => ⟨⟨0, (), rfl, hpost, by rw [ht]; exact hP9, va_K.moved hW.alike hK9, hD9⟩, hS.F ht⟩) hS.2.2 dX11_size_73
  by_cases c_5 : p0 = 4
  · refine lv_tableIn (tgt := 74) hx hb dX11_size_1 (by rw [c_5]; decide) (by rw [c_5]; decide) (by rw [c_5]; rfl) (by decide) ?_
    refine lv_aload_n hx hb dX11_size_74 rfl (lv_at hl 0 rfl) ?_
    refine va_get (D := (dC, dI)) (ci := 10) (v := .int 0) (C := RX11) (T := TX11) (N := 15) hx hb hts hinX11 hown hK hP 0 rfl rfl 11 (by decide) (hts (.fieldLink RX11 71 "BondCalendars" "hasKept" "Z") (by decide +kernel)) (fun _ h9 => h9) hf_h0_11 dX11_size_75 ?_
    refine lv_if_eq (tgt := 85) hx hb dX11_size_78 (by decide) (fun c_6 => ?_) (fun c_6 => ?_)
    · refine lv_iconst (v := 0) hx hb dX11_size_85 (by decide) ?_
      have hpost : 0 = f_X11_size p0 := by refine Eq.symm ?_; refine (if_neg c_1).trans ?_; refine (if_neg c_2).trans ?_; refine (if_neg c_3).trans ?_; refine (if_neg c_4).trans ?_; refine (if_pos c_5).trans ?_; rfl
      have hP9 := hP.sub (ws' := []) [] rfl
      have hD9 := hD.sub (ws' := []) [] (by decide) rfl
      have hK9 := hK.sub (tys' := []) [] rfl
      exact W.iret (v := 0) hx hb hr (fun t ht hW => ⟨⟨0, (), rfl, hpost, by rw [ht]; exact hP9, va_K.moved hW.alike hK9, hD9⟩, hS.F ht⟩) hS.2.2 dX11_size_86
    · exact absurd (by decide) c_6
  refine lv_tableOut (tgt := 87) hx hb dX11_size_1 (by have q0 := lv_neT (a := 0) c_1 rfl; have q1 := lv_neT (a := 1) c_2 rfl; have q2 := lv_neT (a := 2) c_3 rfl; have q3 := lv_neT (a := 3) c_4 rfl; have q4 := lv_neT (a := 4) c_5 rfl; omega) (by decide) ?_
  refine lv_iconst (v := (-1)) hx hb dX11_size_87 (by decide) ?_
  have hpost : (-1) = f_X11_size p0 := by refine Eq.symm ?_; refine (if_neg c_1).trans ?_; refine (if_neg c_2).trans ?_; refine (if_neg c_3).trans ?_; refine (if_neg c_4).trans ?_; refine (if_neg c_5).trans ?_; rfl
  have hP9 := hP.sub (ws' := []) [] rfl
  have hD9 := hD.sub (ws' := []) [] (by decide) rfl
  have hK9 := hK.sub (tys' := []) [] rfl
  exact W.iret (v := (-1)) hx hb hr (fun t ht hW => ⟨⟨(-1), (), rfl, hpost, by rw [ht]; exact hP9, va_K.moved hW.alike hK9, hD9⟩, hS.F ht⟩) hS.2.2 dX11_size_88
