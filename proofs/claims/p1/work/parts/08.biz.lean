set_option maxHeartbeats 4000000 in
set_option maxRecDepth 100000 in
theorem k_X5_contains (l : Launch) (dC : Nat → ClassId) (dI : Nat → Nat → Nat) (sz : Nat) (h0 : Nat) (fs_h0 : List Value) (p0 : Int32) (hn_h0 : fs_h0.length = 2) (hf_h0_1 : fs_h0[1]? = some (.int 0)) : Met l yX5_contains wsX5_contains ({ frames := 0, cells := 0, slots := 0, locals := 0 }) (va_Pc [.ref h0, .int p0] (fun U => U.heap.size = sz ∧ va_P (dC, dI) vwCl [(h0, .inr (4, fs_h0))] U.heap ∧ va_K (dC, dI) vwCl [] U ∧ va_D (fun _ => True) [(h0, .inr (4, fs_h0))])) (va_Qi (fun (r : Int32) (_ : Unit) => r = 0) (fun _ t => va_P (dC, dI) vwCl [(h0, .inr (4, fs_h0))] t.heap ∧ va_K (dC, dI) vwCl [] t ∧ va_D (va_A [(h0, .inr (4, fs_h0))] sz) [(h0, .inr (4, fs_h0))]) (va_A [(h0, .inr (4, fs_h0))] sz)) 0 0 (va_A [(h0, .inr (4, fs_h0))] sz) := by
  refine Met.ofW (cc := cX5_contains) (maxL := 3) (ret := (some .boolean)) (by decide) rfl ?_
  intro p e s m args below meth c s₁ B hml hv
  obtain ⟨rfl, hsz, hP, hK, hD0⟩ := hv
  have hx := B.exec
  have hb := B.bytes
  have hr := B.returns
  have hts := atoms_spec (ws := wsX5_contains) B.pre
  have hown : s.vm.findClass RX5 = some m.cls := findClass_of_methodNamed B.named
  have hlocks := B.notSynchronized
  have hinX5 : ∀ w ∈ u_ws RX5 TX5 2, w ∈ wsX5_contains := (fun _ h9 => List.mem_cons_of_mem _ (List.mem_append_right _ h9))
  subst hsz
  have hD := hD0.self (sz := s.heap.size)
  generalize hAe : va_A [(h0, .inr (4, fs_h0))] s.heap.size = A at hD ⊢
  have hA : ∀ q : Nat, s.heap.size ≤ q → A q := fun q h => by rw [← hAe]; exact Or.inr h
  have hS : va_S A s.heap s.heap [] := va_S.rf
  have hP : va_P (dC, dI) vwCl [(h0, .inr (4, fs_h0))] s.heap := hP
  have hl := lv_entry ([.ref h0, .int p0]) (n := 3) (Nat.le_of_ble_eq_true rfl)
  rw [lg_entry_eq]
  generalize (lg_sl ([.ref h0, .int p0]) ++ List.replicate (3 - (lg_sl ([.ref h0, .int p0])).length) Slot.unset).toArray = ls at hl ⊢
  have hl : lv_has ls 3 [(0, .ref h0), (1, .int p0)] := hl
  refine lv_iconst (v := 0) hx hb dX5_contains_0 (by decide) ?_
  refine lv_istore_n (lv' := [(2, .int 0), (0, .ref h0), (1, .int p0)]) hx hb dX5_contains_1 rfl hl (by decide) rfl (fun ls hl => ?_)
  refine lv_iload_n hx hb dX5_contains_2 rfl (lv_at hl 0 rfl) ?_
  refine lv_aload_n hx hb dX5_contains_3 rfl (lv_at hl 1 rfl) ?_
  refine va_get (D := (dC, dI)) (ci := 4) (v := .int 0) (C := RX5) (T := TX5) (N := 2) hx hb hts hinX5 hown hK hP 0 rfl rfl 1 (by decide) (hts (.fieldLink RX5 13 "BondCalendars$Holidays" "count" "I") (by decide +kernel)) (fun _ h9 => h9) hf_h0_1 dX5_contains_4 ?_
  refine lv_icmp_ge (tgt := 37) hx hb dX5_contains_7 (by decide) (fun c_1 => ?_) (fun c_1 => ?_)
  · refine lv_iconst (v := 0) hx hb dX5_contains_37 (by decide) ?_
    have hpost : (0 : Int32) = 0 := rfl
    have hP9 := hP.sub (ws' := [(h0, .inr (4, fs_h0))]) [0] rfl
    have hD9 := hD.sub (ws' := [(h0, .inr (4, fs_h0))]) [0] (by decide) rfl
    have hK9 := hK.sub (tys' := []) [] rfl
    exact W.zret (v := 0) hx hb hr (by decide) (fun t ht hW => ⟨⟨0, (), rfl, hpost, by rw [ht]; exact hP9, va_K.moved hW.alike hK9, hD9⟩, hS.F ht⟩) hS.2.2 dX5_contains_38
  · exact absurd (by decide) c_1
def f_X5_isBusinessDay (p0 : Int32) : Int32 :=
  let r_1 : Int32 := f_X3_weekdayOf p0
  if 5 ≤ r_1 then
    0
  else
    1
set_option maxHeartbeats 4000000 in
set_option maxRecDepth 100000 in
theorem k_X5_isBusinessDay (l : Launch) (dC : Nat → ClassId) (dI : Nat → Nat → Nat) (sz : Nat) (h0 : Nat) (fs_h0 : List Value) (p0 : Int32) (hn_h0 : fs_h0.length = 2) (hf_h0_1 : fs_h0[1]? = some (.int 0)) : Met l yX5_isBusinessDay wsX5_isBusinessDay ({ frames := 2, cells := 0, slots := 0, locals := 42 }) (va_Pc [.ref h0, .int p0] (fun U => U.heap.size = sz ∧ va_P (dC, dI) vwCl [(h0, .inr (4, fs_h0))] U.heap ∧ va_K (dC, dI) vwCl [] U ∧ va_D (fun _ => True) [(h0, .inr (4, fs_h0))])) (va_Qi (fun (r : Int32) (_ : Unit) => r = f_X5_isBusinessDay p0) (fun _ t => va_P (dC, dI) vwCl [(h0, .inr (4, fs_h0))] t.heap ∧ va_K (dC, dI) vwCl [] t ∧ va_D (va_A [(h0, .inr (4, fs_h0))] sz) [(h0, .inr (4, fs_h0))]) (va_A [(h0, .inr (4, fs_h0))] sz)) 0 0 (va_A [(h0, .inr (4, fs_h0))] sz) := by
  refine Met.ofW (cc := cX5_isBusinessDay) (maxL := 2) (ret := (some .boolean)) (by decide) rfl ?_
  intro p e s m args below meth c s₁ B hml hv
  obtain ⟨rfl, hsz, hP, hK, hD0⟩ := hv
  have hx := B.exec
  have hb := B.bytes
  have hr := B.returns
  have hts := atoms_spec (ws := wsX5_isBusinessDay) B.pre
  have hown : s.vm.findClass RX5 = some m.cls := findClass_of_methodNamed B.named
  have hlocks := B.notSynchronized
  subst hsz
  have hD := hD0.self (sz := s.heap.size)
  generalize hAe : va_A [(h0, .inr (4, fs_h0))] s.heap.size = A at hD ⊢
  have hA : ∀ q : Nat, s.heap.size ≤ q → A q := fun q h => by rw [← hAe]; exact Or.inr h
  have hS : va_S A s.heap s.heap [] := va_S.rf
  have hP : va_P (dC, dI) vwCl [(h0, .inr (4, fs_h0))] s.heap := hP
  have hl := lv_entry ([.ref h0, .int p0]) (n := 2) (Nat.le_of_ble_eq_true rfl)
  rw [lg_entry_eq]
  generalize (lg_sl ([.ref h0, .int p0]) ++ List.replicate (2 - (lg_sl ([.ref h0, .int p0])).length) Slot.unset).toArray = ls at hl ⊢
  have hl : lv_has ls 2 [(0, .ref h0), (1, .int p0)] := hl
  refine lv_iload_n hx hb dX5_isBusinessDay_0 rfl (lv_at hl 1 rfl) ?_
  have hPc := hP.sub (ws' := []) [] rfl
  have hDc := hD.sub (ws' := []) [] (by decide) rfl
  have hKc := hK.sub (tys' := []) [] rfl
  have hFc := va_free (wc := []) hD hS hA [] rfl
  refine va_calli (va_runS (As := [.int p0]) (rest := []) ⟨hx, hb, hml, hown, hts⟩ (k_X3_weekdayOf l dC dI s.heap.size p0) (va_cwS 1 hts gX5_isBusinessDay_X3_weekdayOf rfl rfl rfl (by decide +kernel) ⟨Nat.le_of_ble_eq_true rfl, Nat.le_of_ble_eq_true rfl⟩) ⟨fun a U g mk q => by obtain ⟨q0, q1, qP, qK, qD⟩ := q; exact ⟨q0, q1, qP, va_K.moved (u := U) (U := U.calling g mk a) (Vm.Alike.refl U.vm) qK, qD⟩, fun U hU hW => ⟨rfl, by rw [hU], by rw [hU]; exact hPc, va_K.moved hW.alike hKc, hDc.weaken (fun _ _ _ _ => trivial)⟩⟩ rfl rfl hl.1 rfl (lv_room (Nat.le_of_ble_eq_true rfl)) dX5_isBusinessDay_1 ⟨Nat.le_of_ble_eq_true rfl, Nat.le_of_ble_eq_true rfl⟩) hS (fun q _ h => hFc q h) hFc (fun r_1 u t H1 locs ht hvm hw hB hz1 hk1 hS => ?_)
  obtain ⟨hP1, hK1, hD1⟩ := hB
  rw [ht] at hP1
  have hK1 := va_K.moved hvm.symm hK1
  obtain ⟨hP, hD⟩ := va_join (wr := [(h0, .inr (4, fs_h0))]) (w1 := []) hP hD [] [0] rfl rfl (by decide) (by decide) hk1 hFc hP1 hD1
  generalize H1 = H at hP hS ⊢
  have hP : va_P (dC, dI) vwCl [(h0, .inr (4, fs_h0))] H := hP
  have hD : va_D A [(h0, .inr (4, fs_h0))] := hD
  have er_1 : r_1 = f_X3_weekdayOf p0 := hw
  refine lv_iconst (v := 5) hx hb dX5_isBusinessDay_4 (by decide) ?_
  refine lv_icmp_ge (tgt := 20) hx hb dX5_isBusinessDay_5 (by decide) (fun c_2 => ?_) (fun c_2 => ?_)
  · refine lv_iconst (v := 0) hx hb dX5_isBusinessDay_20 (by decide) ?_
    have hpost : 0 = f_X5_isBusinessDay p0 := by subst er_1; refine Eq.symm ?_; refine (if_pos c_2).trans ?_; rfl
    have hP9 := hP.sub (ws' := [(h0, .inr (4, fs_h0))]) [0] rfl
    have hD9 := hD.sub (ws' := [(h0, .inr (4, fs_h0))]) [0] (by decide) rfl
    have hK9 := hK.sub (tys' := []) [] rfl
    exact W.zret (v := 0) hx hb hr (by decide) (fun t ht hW => ⟨⟨0, (), rfl, hpost, by rw [ht]; exact hP9, va_K.moved hW.alike hK9, hD9⟩, hS.F ht⟩) hS.2.2 dX5_isBusinessDay_21
  · refine lv_aload_n hx hb dX5_isBusinessDay_8 rfl (lv_at hl 0 rfl) ?_
    refine lv_iload_n hx hb dX5_isBusinessDay_9 rfl (lv_at hl 1 rfl) ?_
    have hPc := hP.sub (ws' := [(h0, .inr (4, fs_h0))]) [0] rfl
    have hDc := hD.sub (ws' := [(h0, .inr (4, fs_h0))]) [0] (by decide) rfl
    have hKc := hK.sub (tys' := []) [] rfl
    have hFc := va_free (wc := [(h0, .inr (4, fs_h0))]) hD hS hA [0] rfl
    refine va_calli (va_runV (As := [.int p0]) (rest := []) ⟨hx, hb, hml, hown, hts⟩ (k_X5_contains l dC dI H.size h0 fs_h0 p0 hn_h0 hf_h0_1) (cwV 1 hts gX5_isBusinessDay_X5_contains rfl rfl rfl (by decide +kernel) ⟨Nat.le_of_ble_eq_true rfl, Nat.le_of_ble_eq_true rfl⟩) ⟨fun a U g mk q => by obtain ⟨q0, q1, qP, qK, qD⟩ := q; exact ⟨q0, q1, qP, va_K.moved (u := U) (U := U.calling g mk a) (Vm.Alike.refl U.vm) qK, qD⟩, va_recv hKc hPc (ci := 4) (q0 := 0) rfl rfl, fun U hU hW => ⟨rfl, by rw [hU], by rw [hU]; exact hPc, va_K.moved hW.alike hKc, hDc.weaken (fun _ _ _ _ => trivial)⟩⟩ rfl rfl hl.1 rfl (lv_room (Nat.le_of_ble_eq_true rfl)) dX5_isBusinessDay_10 ⟨Nat.le_of_ble_eq_true rfl, Nat.le_of_ble_eq_true rfl⟩) hS (fun q _ h => hFc q h) hFc (fun r_3 u t H1 locs ht hvm hw hB hz1 hk1 hS => ?_)
    obtain ⟨hP1, hK1, hD1⟩ := hB
    rw [ht] at hP1
    have hK1 := va_K.moved hvm.symm hK1
    obtain ⟨hP, hD⟩ := va_join (wr := []) (w1 := [(h0, .inr (4, fs_h0))]) hP hD [0] [] rfl rfl (by decide) (by decide) hk1 hFc hP1 hD1
    generalize H1 = H at hP hS ⊢
    have hP : va_P (dC, dI) vwCl [(h0, .inr (4, fs_h0))] H := hP
    have hD : va_D A [(h0, .inr (4, fs_h0))] := hD
    have er_3 : r_3 = 0 := hw
    subst er_3
    refine lv_if_ne (tgt := 20) hx hb dX5_isBusinessDay_13 (by decide) (fun c_4 => ?_) (fun c_4 => ?_)
    · exact absurd (by decide) c_4
    · refine lv_iconst (v := 1) hx hb dX5_isBusinessDay_16 (by decide) ?_
      refine lv_goto (tgt := 21) hx hb dX5_isBusinessDay_17 (by decide) ?_
      have hpost : 1 = f_X5_isBusinessDay p0 := by subst er_1; refine Eq.symm ?_; refine (if_neg c_2).trans ?_; rfl
      have hP9 := hP.sub (ws' := [(h0, .inr (4, fs_h0))]) [0] rfl
      have hD9 := hD.sub (ws' := [(h0, .inr (4, fs_h0))]) [0] (by decide) rfl
      have hK9 := hK.sub (tys' := []) [] rfl
      exact W.zret (v := 1) hx hb hr (by decide) (fun t ht hW => ⟨⟨1, (), rfl, hpost, by rw [ht]; exact hP9, va_K.moved hW.alike hK9, hD9⟩, hS.F ht⟩) hS.2.2 dX5_isBusinessDay_21
/-- n BUSINESS DAYS on (or back), as the class goes -/
def bizN : Nat → Int32 → Int32 → Int32 → Int32
  | 0, _, _, a => a
  | n + 1, s, l, a => if l ≤ 0 then a else if f_X5_isBusinessDay (a + s) = 0 then bizN n s l (a + s) else bizN n s (l + (-1)) (a + s)
def f_X5_businessDaysFrom (p0 : Int32) (p1 : Int32) : Int32 :=
  if 0 ≤ p1 then
    bizN 1000 1 p1 p0
  else
    let x_13 : Int32 := (-p1)
    bizN 1000 (-1) x_13 p0
set_option maxHeartbeats 4000000 in
set_option maxRecDepth 100000 in
theorem k_X5_businessDaysFrom (l : Launch) (dC : Nat → ClassId) (dI : Nat → Nat → Nat) (sz : Nat) (h0 : Nat) (fs_h0 : List Value) (p0 : Int32) (p1 : Int32) (hn_h0 : fs_h0.length = 2) (hf_h0_1 : fs_h0[1]? = some (.int 0)) : Met l yX5_businessDaysFrom wsX5_businessDaysFrom ({ frames := 3, cells := 0, slots := 0, locals := 63 }) (va_Pc [.ref h0, .int p0, .int p1] (fun U => U.heap.size = sz ∧ va_P (dC, dI) vwCl [(h0, .inr (4, fs_h0))] U.heap ∧ va_K (dC, dI) vwCl [] U ∧ va_D (fun _ => True) [(h0, .inr (4, fs_h0))])) (va_Qi (fun (r : Int32) (_ : Unit) => r = f_X5_businessDaysFrom p0 p1) (fun _ t => va_P (dC, dI) vwCl [] t.heap ∧ va_K (dC, dI) vwCl [] t ∧ va_D (va_A [(h0, .inr (4, fs_h0))] sz) []) (va_A [(h0, .inr (4, fs_h0))] sz)) 0 0 (va_A [(h0, .inr (4, fs_h0))] sz) := by
  refine Met.ofW (cc := cX5_businessDaysFrom) (maxL := 7) (ret := (some .int)) (by decide) rfl ?_
  intro p e s m args below meth c s₁ B hml hv
  obtain ⟨rfl, hsz, hP, hK, hD0⟩ := hv
  have hx := B.exec
  have hb := B.bytes
  have hr := B.returns
  have hts := atoms_spec (ws := wsX5_businessDaysFrom) B.pre
  have hown : s.vm.findClass RX5 = some m.cls := findClass_of_methodNamed B.named
  have hlocks := B.notSynchronized
  subst hsz
  have hD := hD0.self (sz := s.heap.size)
  generalize hAe : va_A [(h0, .inr (4, fs_h0))] s.heap.size = A at hD ⊢
  have hA : ∀ q : Nat, s.heap.size ≤ q → A q := fun q h => by rw [← hAe]; exact Or.inr h
  have hS : va_S A s.heap s.heap [] := va_S.rf
  have hP : va_P (dC, dI) vwCl [(h0, .inr (4, fs_h0))] s.heap := hP
  have hl := lv_entry ([.ref h0, .int p0, .int p1]) (n := 7) (Nat.le_of_ble_eq_true rfl)
  rw [lg_entry_eq]
  generalize (lg_sl ([.ref h0, .int p0, .int p1]) ++ List.replicate (7 - (lg_sl ([.ref h0, .int p0, .int p1])).length) Slot.unset).toArray = ls at hl ⊢
  have hl : lv_has ls 7 [(0, .ref h0), (1, .int p0), (2, .int p1)] := hl
  refine lv_iload_n hx hb dX5_businessDaysFrom_0 rfl (lv_at hl 2 rfl) ?_
  refine lv_if_ge (tgt := 8) hx hb dX5_businessDaysFrom_1 (by decide) (fun c_1 => ?_) (fun c_1 => ?_)
  · refine lv_iconst (v := 1) hx hb dX5_businessDaysFrom_8 (by decide) ?_
    refine lv_istore_n (lv' := [(3, .int 1), (0, .ref h0), (1, .int p0), (2, .int p1)]) hx hb dX5_businessDaysFrom_9 rfl hl (by decide) rfl (fun ls hl => ?_)
    refine lv_iload_n hx hb dX5_businessDaysFrom_10 rfl (lv_at hl 3 rfl) ?_
    refine lv_if_ge (tgt := 19) hx hb dX5_businessDaysFrom_11 (by decide) (fun c_2 => ?_) (fun c_2 => ?_)
    · refine lv_iload_n hx hb dX5_businessDaysFrom_19 rfl (lv_at hl 3 rfl) ?_
      refine lv_istore (lv' := [(4, .int p1), (3, .int 1), (0, .ref h0), (1, .int p0), (2, .int p1)]) hx hb dX5_businessDaysFrom_20 hl (by decide) rfl (fun ls hl => ?_)
      refine lv_iload_n hx hb dX5_businessDaysFrom_22 rfl (lv_at hl 3 rfl) ?_
      refine lv_istore (lv' := [(5, .int p0), (4, .int p1), (3, .int 1), (0, .ref h0), (1, .int p0), (2, .int p1)]) hx hb dX5_businessDaysFrom_23 hl (by decide) rfl (fun ls hl => ?_)
      refine lv_iconst (v := 0) hx hb dX5_businessDaysFrom_25 (by decide) ?_
      refine lv_istore (lv' := [(6, .int 0), (5, .int p0), (4, .int p1), (3, .int 1), (0, .ref h0), (1, .int p0), (2, .int p1)]) hx hb dX5_businessDaysFrom_26 hl (by decide) rfl (fun ls hl => ?_)
      obtain ⟨i, ei⟩ : ∃ z : Int32, z = 0 := ⟨_, rfl⟩
      obtain ⟨a, ea⟩ : ∃ z : Int32, z = p0 := ⟨_, rfl⟩
      obtain ⟨lf, elf⟩ : ∃ z : Int32, z = p1 := ⟨_, rfl⟩
      replace hl : lv_has ls 7 [(6, .int i), (5, .int a), (4, .int lf), (3, .int 1), (0, .ref h0), (1, .int p0), (2, .int p1)] := by rw [elf, ea, ei]; exact hl
      obtain ⟨k, ek⟩ : ∃ z : Nat, z = 1000 := ⟨_, rfl⟩
      obtain ⟨j, ej⟩ : ∃ z : Nat, z = 0 := ⟨_, rfl⟩
      have hi : i = nI j := by rw [ei, ej]; rfl
      have hj : j + k = 1000 := by rw [ek, ej]
      have hF : bizN k 1 lf a = f_X5_businessDaysFrom p0 p1 := by rw [ek, elf, ea]; refine Eq.symm ?_; refine (if_pos c_1).trans ?_; rfl
      clear ek ej elf ea ei
      refine (fun (h : ∀ (H : Heap) (locs : List Loc), va_P (dC, dI) vwCl [(h0, .inr (4, fs_h0))] H → va_S A s.heap H locs → W p l e _ s m _ below meth c H locs _ _ _ (F0 m 28 ls [])) => h _ _ hP hS) ?_
      clear hP hS
      intro H locs hP hS
      induction k generalizing lf a i j ls H locs with
      | zero =>
        refine lv_iload hx hb dX5_businessDaysFrom_28 (lv_at hl 0 rfl) ?_
        refine lv_sipush (v := 1000) hx hb dX5_businessDaysFrom_30 (by decide) ?_
        refine lv_icmp_ge (tgt := 65) hx hb dX5_businessDaysFrom_33 (by decide) (fun c_3 => ?_) (fun c_3 => ?_)
        · refine lv_iload hx hb dX5_businessDaysFrom_65 (lv_at hl 1 rfl) ?_
          have hpost : a = f_X5_businessDaysFrom p0 p1 := hF
          have hP9 := hP.sub (ws' := []) [] rfl
          have hD9 := hD.sub (ws' := []) [] (by decide) rfl
          have hK9 := hK.sub (tys' := []) [] rfl
          exact W.iret (v := a) hx hb hr (fun t ht hW => ⟨⟨a, (), rfl, hpost, by rw [ht]; exact hP9, va_K.moved hW.alike hK9, hD9⟩, hS.F ht⟩) hS.2.2 dX5_businessDaysFrom_67
        · exact absurd (by rw [hi, show j = 1000 from hj]; decide) c_3
      | succ k ih =>
        refine lv_iload hx hb dX5_businessDaysFrom_28 (lv_at hl 0 rfl) ?_
        refine lv_sipush (v := 1000) hx hb dX5_businessDaysFrom_30 (by decide) ?_
        refine lv_icmp_ge (tgt := 65) hx hb dX5_businessDaysFrom_33 (by decide) (fun c_4 => ?_) (fun c_4 => ?_)
        · exact absurd c_4 (by rw [hi]; exact nI_ge (b := 1000) (by omega) (by decide))
        · refine lv_iload hx hb dX5_businessDaysFrom_36 (lv_at hl 2 rfl) ?_
          refine lv_if_le (tgt := 65) hx hb dX5_businessDaysFrom_38 (by decide) (fun c_5 => ?_) (fun c_5 => ?_)
          · refine lv_iload hx hb dX5_businessDaysFrom_65 (lv_at hl 1 rfl) ?_
            have hpost : a = f_X5_businessDaysFrom p0 p1 := (if_pos c_5).symm.trans hF
            have hP9 := hP.sub (ws' := []) [] rfl
            have hD9 := hD.sub (ws' := []) [] (by decide) rfl
            have hK9 := hK.sub (tys' := []) [] rfl
            exact W.iret (v := a) hx hb hr (fun t ht hW => ⟨⟨a, (), rfl, hpost, by rw [ht]; exact hP9, va_K.moved hW.alike hK9, hD9⟩, hS.F ht⟩) hS.2.2 dX5_businessDaysFrom_67
          · refine lv_iload hx hb dX5_businessDaysFrom_41 (lv_at hl 1 rfl) ?_
            refine lv_iload_n hx hb dX5_businessDaysFrom_43 rfl (lv_at hl 3 rfl) ?_
            refine lv_iadd hx hb dX5_businessDaysFrom_44 ?_
            refine lv_topi (fun x_6 ex_6 => ?_)
            refine lv_istore (lv' := [(5, .int x_6), (6, .int i), (4, .int lf), (3, .int 1), (0, .ref h0), (1, .int p0), (2, .int p1)]) hx hb dX5_businessDaysFrom_45 hl (by decide) rfl (fun ls hl => ?_)
            refine lv_aload_n hx hb dX5_businessDaysFrom_47 rfl (lv_at hl 4 rfl) ?_
            refine lv_iload hx hb dX5_businessDaysFrom_48 (lv_at hl 0 rfl) ?_
            have hPc := hP.sub (ws' := [(h0, .inr (4, fs_h0))]) [0] rfl
            have hDc := hD.sub (ws' := [(h0, .inr (4, fs_h0))]) [0] (by decide) rfl
            have hKc := hK.sub (tys' := []) [] rfl
            have hFc := va_free (wc := [(h0, .inr (4, fs_h0))]) hD hS hA [0] rfl
            refine va_calli (va_runV (As := [.int x_6]) (rest := []) ⟨hx, hb, hml, hown, hts⟩ (k_X5_isBusinessDay l dC dI H.size h0 fs_h0 x_6 hn_h0 hf_h0_1) (cwV 1 hts gX5_businessDaysFrom_X5_isBusinessDay rfl rfl rfl (by decide +kernel) ⟨Nat.le_of_ble_eq_true rfl, Nat.le_of_ble_eq_true rfl⟩) ⟨fun a U g mk q => by obtain ⟨q0, q1, qP, qK, qD⟩ := q; exact ⟨q0, q1, qP, va_K.moved (u := U) (U := U.calling g mk a) (Vm.Alike.refl U.vm) qK, qD⟩, va_recv hKc hPc (ci := 4) (q0 := 0) rfl rfl, fun U hU hW => ⟨rfl, by rw [hU], by rw [hU]; exact hPc, va_K.moved hW.alike hKc, hDc.weaken (fun _ _ _ _ => trivial)⟩⟩ rfl rfl hl.1 rfl (lv_room (Nat.le_of_ble_eq_true rfl)) dX5_businessDaysFrom_50 ⟨Nat.le_of_ble_eq_true rfl, Nat.le_of_ble_eq_true rfl⟩) hS (fun q _ h => hFc q h) hFc (fun r_7 u t H1 locs ht hvm hw hB hz1 hk1 hS => ?_)
            obtain ⟨hP1, hK1, hD1⟩ := hB
            rw [ht] at hP1
            have hK1 := va_K.moved hvm.symm hK1
            obtain ⟨hP, hD⟩ := va_join (wr := []) (w1 := [(h0, .inr (4, fs_h0))]) hP hD [0] [] rfl rfl (by decide) (by decide) hk1 hFc hP1 hD1
            generalize H1 = H at hP hS ⊢
            have hP : va_P (dC, dI) vwCl [(h0, .inr (4, fs_h0))] H := hP
            have hD : va_D A [(h0, .inr (4, fs_h0))] := hD
            have er_7 : r_7 = f_X5_isBusinessDay x_6 := hw
            refine lv_if_eq (tgt := 59) hx hb dX5_businessDaysFrom_53 (by decide) (fun c_8 => ?_) (fun c_8 => ?_)
            · obtain ⟨x_9, ex_9⟩ : ∃ zz : Int32, zz = i + 1 := ⟨_, rfl⟩
              refine lv_iinc (v := x_9) (lv' := [(6, .int x_9), (5, .int x_6), (4, .int lf), (3, .int 1), (0, .ref h0), (1, .int p0), (2, .int p1)]) hx hb dX5_businessDaysFrom_59 hl (k := 1) rfl (by rw [ex_9]; rfl) (by decide) rfl (fun ls hl => ?_)
              refine lv_goto (tgt := 28) hx hb dX5_businessDaysFrom_62 (by decide) ?_
              exact ih (ls := ls) (lf := lf) (a := x_6) (i := x_9) (j := j + 1) (hi := (by rw [ex_9, hi]; exact nI_1 j)) (hj := (by omega)) (hF := (by subst ex_6; subst er_7; subst ex_9; exact (if_pos c_8).symm.trans ((if_neg c_5).symm.trans hF))) (hl := lv_sub hl [0, 1, 2, 3, 4, 5, 6] rfl) (H := H) (locs := locs) (hP := hP.sub [0] rfl) (hS := hS)
            · obtain ⟨x_10, ex_10⟩ : ∃ zz : Int32, zz = lf + (-1) := ⟨_, rfl⟩
              refine lv_iinc (v := x_10) (lv' := [(4, .int x_10), (5, .int x_6), (6, .int i), (3, .int 1), (0, .ref h0), (1, .int p0), (2, .int p1)]) hx hb dX5_businessDaysFrom_56 hl (k := 2) rfl (by rw [ex_10]; rfl) (by decide) rfl (fun ls hl => ?_)
              obtain ⟨x_11, ex_11⟩ : ∃ zz : Int32, zz = i + 1 := ⟨_, rfl⟩
              refine lv_iinc (v := x_11) (lv' := [(6, .int x_11), (4, .int x_10), (5, .int x_6), (3, .int 1), (0, .ref h0), (1, .int p0), (2, .int p1)]) hx hb dX5_businessDaysFrom_59 hl (k := 2) rfl (by rw [ex_11]; rfl) (by decide) rfl (fun ls hl => ?_)
              refine lv_goto (tgt := 28) hx hb dX5_businessDaysFrom_62 (by decide) ?_
              exact ih (ls := ls) (lf := x_10) (a := x_6) (i := x_11) (j := j + 1) (hi := (by rw [ex_11, hi]; exact nI_1 j)) (hj := (by omega)) (hF := (by subst ex_6; subst er_7; subst ex_10; subst ex_11; exact (if_neg c_8).symm.trans ((if_neg c_5).symm.trans hF))) (hl := lv_sub hl [0, 2, 1, 3, 4, 5, 6] rfl) (H := H) (locs := locs) (hP := hP.sub [0] rfl) (hS := hS)
    · exact absurd c_1 c_2
  · refine lv_iconst (v := (-1)) hx hb dX5_businessDaysFrom_4 (by decide) ?_
    refine lv_goto (tgt := 9) hx hb dX5_businessDaysFrom_5 (by decide) ?_
    refine lv_istore_n (lv' := [(3, .int (-1)), (0, .ref h0), (1, .int p0), (2, .int p1)]) hx hb dX5_businessDaysFrom_9 rfl hl (by decide) rfl (fun ls hl => ?_)
    refine lv_iload_n hx hb dX5_businessDaysFrom_10 rfl (lv_at hl 3 rfl) ?_
    refine lv_if_ge (tgt := 19) hx hb dX5_businessDaysFrom_11 (by decide) (fun c_12 => ?_) (fun c_12 => ?_)
    · exact absurd c_12 c_1
    · refine lv_iload_n hx hb dX5_businessDaysFrom_14 rfl (lv_at hl 3 rfl) ?_
      refine lv_ineg hx hb dX5_businessDaysFrom_15 ?_
      refine lv_goto (tgt := 20) hx hb dX5_businessDaysFrom_16 (by decide) ?_
      refine lv_topi (fun x_13 ex_13 => ?_)
      refine lv_istore (lv' := [(4, .int x_13), (3, .int (-1)), (0, .ref h0), (1, .int p0), (2, .int p1)]) hx hb dX5_businessDaysFrom_20 hl (by decide) rfl (fun ls hl => ?_)
      refine lv_iload_n hx hb dX5_businessDaysFrom_22 rfl (lv_at hl 3 rfl) ?_
      refine lv_istore (lv' := [(5, .int p0), (4, .int x_13), (3, .int (-1)), (0, .ref h0), (1, .int p0), (2, .int p1)]) hx hb dX5_businessDaysFrom_23 hl (by decide) rfl (fun ls hl => ?_)
      refine lv_iconst (v := 0) hx hb dX5_businessDaysFrom_25 (by decide) ?_
      refine lv_istore (lv' := [(6, .int 0), (5, .int p0), (4, .int x_13), (3, .int (-1)), (0, .ref h0), (1, .int p0), (2, .int p1)]) hx hb dX5_businessDaysFrom_26 hl (by decide) rfl (fun ls hl => ?_)
      obtain ⟨i, ei⟩ : ∃ z : Int32, z = 0 := ⟨_, rfl⟩
      obtain ⟨a, ea⟩ : ∃ z : Int32, z = p0 := ⟨_, rfl⟩
      obtain ⟨lf, elf⟩ : ∃ z : Int32, z = x_13 := ⟨_, rfl⟩
      replace hl : lv_has ls 7 [(6, .int i), (5, .int a), (4, .int lf), (3, .int (-1)), (0, .ref h0), (1, .int p0), (2, .int p1)] := by rw [elf, ea, ei]; exact hl
      obtain ⟨k, ek⟩ : ∃ z : Nat, z = 1000 := ⟨_, rfl⟩
      obtain ⟨j, ej⟩ : ∃ z : Nat, z = 0 := ⟨_, rfl⟩
      have hi : i = nI j := by rw [ei, ej]; rfl
      have hj : j + k = 1000 := by rw [ek, ej]
      have hF : bizN k (-1) lf a = f_X5_businessDaysFrom p0 p1 := by rw [ek, elf, ea, ex_13]; refine Eq.symm ?_; refine (if_neg c_1).trans ?_; rfl
      clear ek ej elf ea ei
      refine (fun (h : ∀ (H : Heap) (locs : List Loc), va_P (dC, dI) vwCl [(h0, .inr (4, fs_h0))] H → va_S A s.heap H locs → W p l e _ s m _ below meth c H locs _ _ _ (F0 m 28 ls [])) => h _ _ hP hS) ?_
      clear hP hS
      intro H locs hP hS
      induction k generalizing lf a i j ls H locs with
      | zero =>
        refine lv_iload hx hb dX5_businessDaysFrom_28 (lv_at hl 0 rfl) ?_
        refine lv_sipush (v := 1000) hx hb dX5_businessDaysFrom_30 (by decide) ?_
        refine lv_icmp_ge (tgt := 65) hx hb dX5_businessDaysFrom_33 (by decide) (fun c_14 => ?_) (fun c_14 => ?_)
        · refine lv_iload hx hb dX5_businessDaysFrom_65 (lv_at hl 1 rfl) ?_
          have hpost : a = f_X5_businessDaysFrom p0 p1 := hF
          have hP9 := hP.sub (ws' := []) [] rfl
          have hD9 := hD.sub (ws' := []) [] (by decide) rfl
          have hK9 := hK.sub (tys' := []) [] rfl
          exact W.iret (v := a) hx hb hr (fun t ht hW => ⟨⟨a, (), rfl, hpost, by rw [ht]; exact hP9, va_K.moved hW.alike hK9, hD9⟩, hS.F ht⟩) hS.2.2 dX5_businessDaysFrom_67
        · exact absurd (by rw [hi, show j = 1000 from hj]; decide) c_14
      | succ k ih =>
        refine lv_iload hx hb dX5_businessDaysFrom_28 (lv_at hl 0 rfl) ?_
        refine lv_sipush (v := 1000) hx hb dX5_businessDaysFrom_30 (by decide) ?_
        refine lv_icmp_ge (tgt := 65) hx hb dX5_businessDaysFrom_33 (by decide) (fun c_15 => ?_) (fun c_15 => ?_)
        · exact absurd c_15 (by rw [hi]; exact nI_ge (b := 1000) (by omega) (by decide))
        · refine lv_iload hx hb dX5_businessDaysFrom_36 (lv_at hl 2 rfl) ?_
          refine lv_if_le (tgt := 65) hx hb dX5_businessDaysFrom_38 (by decide) (fun c_16 => ?_) (fun c_16 => ?_)
          · refine lv_iload hx hb dX5_businessDaysFrom_65 (lv_at hl 1 rfl) ?_
            have hpost : a = f_X5_businessDaysFrom p0 p1 := (if_pos c_16).symm.trans hF
            have hP9 := hP.sub (ws' := []) [] rfl
            have hD9 := hD.sub (ws' := []) [] (by decide) rfl
            have hK9 := hK.sub (tys' := []) [] rfl
            exact W.iret (v := a) hx hb hr (fun t ht hW => ⟨⟨a, (), rfl, hpost, by rw [ht]; exact hP9, va_K.moved hW.alike hK9, hD9⟩, hS.F ht⟩) hS.2.2 dX5_businessDaysFrom_67
          · refine lv_iload hx hb dX5_businessDaysFrom_41 (lv_at hl 1 rfl) ?_
            refine lv_iload_n hx hb dX5_businessDaysFrom_43 rfl (lv_at hl 3 rfl) ?_
            refine lv_iadd hx hb dX5_businessDaysFrom_44 ?_
            refine lv_topi (fun x_17 ex_17 => ?_)
            refine lv_istore (lv' := [(5, .int x_17), (6, .int i), (4, .int lf), (3, .int (-1)), (0, .ref h0), (1, .int p0), (2, .int p1)]) hx hb dX5_businessDaysFrom_45 hl (by decide) rfl (fun ls hl => ?_)
            refine lv_aload_n hx hb dX5_businessDaysFrom_47 rfl (lv_at hl 4 rfl) ?_
            refine lv_iload hx hb dX5_businessDaysFrom_48 (lv_at hl 0 rfl) ?_
            have hPc := hP.sub (ws' := [(h0, .inr (4, fs_h0))]) [0] rfl
            have hDc := hD.sub (ws' := [(h0, .inr (4, fs_h0))]) [0] (by decide) rfl
            have hKc := hK.sub (tys' := []) [] rfl
            have hFc := va_free (wc := [(h0, .inr (4, fs_h0))]) hD hS hA [0] rfl
            refine va_calli (va_runV (As := [.int x_17]) (rest := []) ⟨hx, hb, hml, hown, hts⟩ (k_X5_isBusinessDay l dC dI H.size h0 fs_h0 x_17 hn_h0 hf_h0_1) (cwV 1 hts gX5_businessDaysFrom_X5_isBusinessDay rfl rfl rfl (by decide +kernel) ⟨Nat.le_of_ble_eq_true rfl, Nat.le_of_ble_eq_true rfl⟩) ⟨fun a U g mk q => by obtain ⟨q0, q1, qP, qK, qD⟩ := q; exact ⟨q0, q1, qP, va_K.moved (u := U) (U := U.calling g mk a) (Vm.Alike.refl U.vm) qK, qD⟩, va_recv hKc hPc (ci := 4) (q0 := 0) rfl rfl, fun U hU hW => ⟨rfl, by rw [hU], by rw [hU]; exact hPc, va_K.moved hW.alike hKc, hDc.weaken (fun _ _ _ _ => trivial)⟩⟩ rfl rfl hl.1 rfl (lv_room (Nat.le_of_ble_eq_true rfl)) dX5_businessDaysFrom_50 ⟨Nat.le_of_ble_eq_true rfl, Nat.le_of_ble_eq_true rfl⟩) hS (fun q _ h => hFc q h) hFc (fun r_18 u t H1 locs ht hvm hw hB hz1 hk1 hS => ?_)
            obtain ⟨hP1, hK1, hD1⟩ := hB
            rw [ht] at hP1
            have hK1 := va_K.moved hvm.symm hK1
            obtain ⟨hP, hD⟩ := va_join (wr := []) (w1 := [(h0, .inr (4, fs_h0))]) hP hD [0] [] rfl rfl (by decide) (by decide) hk1 hFc hP1 hD1
            generalize H1 = H at hP hS ⊢
            have hP : va_P (dC, dI) vwCl [(h0, .inr (4, fs_h0))] H := hP
            have hD : va_D A [(h0, .inr (4, fs_h0))] := hD
            have er_18 : r_18 = f_X5_isBusinessDay x_17 := hw
            refine lv_if_eq (tgt := 59) hx hb dX5_businessDaysFrom_53 (by decide) (fun c_19 => ?_) (fun c_19 => ?_)
            · obtain ⟨x_20, ex_20⟩ : ∃ zz : Int32, zz = i + 1 := ⟨_, rfl⟩
              refine lv_iinc (v := x_20) (lv' := [(6, .int x_20), (5, .int x_17), (4, .int lf), (3, .int (-1)), (0, .ref h0), (1, .int p0), (2, .int p1)]) hx hb dX5_businessDaysFrom_59 hl (k := 1) rfl (by rw [ex_20]; rfl) (by decide) rfl (fun ls hl => ?_)
              refine lv_goto (tgt := 28) hx hb dX5_businessDaysFrom_62 (by decide) ?_
              exact ih (ls := ls) (lf := lf) (a := x_17) (i := x_20) (j := j + 1) (hi := (by rw [ex_20, hi]; exact nI_1 j)) (hj := (by omega)) (hF := (by subst ex_17; subst er_18; subst ex_20; exact (if_pos c_19).symm.trans ((if_neg c_16).symm.trans hF))) (hl := lv_sub hl [0, 1, 2, 3, 4, 5, 6] rfl) (H := H) (locs := locs) (hP := hP.sub [0] rfl) (hS := hS)
            · obtain ⟨x_21, ex_21⟩ : ∃ zz : Int32, zz = lf + (-1) := ⟨_, rfl⟩
              refine lv_iinc (v := x_21) (lv' := [(4, .int x_21), (5, .int x_17), (6, .int i), (3, .int (-1)), (0, .ref h0), (1, .int p0), (2, .int p1)]) hx hb dX5_businessDaysFrom_56 hl (k := 2) rfl (by rw [ex_21]; rfl) (by decide) rfl (fun ls hl => ?_)
              obtain ⟨x_22, ex_22⟩ : ∃ zz : Int32, zz = i + 1 := ⟨_, rfl⟩
              refine lv_iinc (v := x_22) (lv' := [(6, .int x_22), (4, .int x_21), (5, .int x_17), (3, .int (-1)), (0, .ref h0), (1, .int p0), (2, .int p1)]) hx hb dX5_businessDaysFrom_59 hl (k := 2) rfl (by rw [ex_22]; rfl) (by decide) rfl (fun ls hl => ?_)
              refine lv_goto (tgt := 28) hx hb dX5_businessDaysFrom_62 (by decide) ?_
              exact ih (ls := ls) (lf := x_21) (a := x_17) (i := x_22) (j := j + 1) (hi := (by rw [ex_22, hi]; exact nI_1 j)) (hj := (by omega)) (hF := (by subst ex_17; subst er_18; subst ex_21; subst ex_22; exact (if_neg c_19).symm.trans ((if_neg c_16).symm.trans hF))) (hl := lv_sub hl [0, 2, 1, 3, 4, 5, 6] rfl) (H := H) (locs := locs) (hP := hP.sub [0] rfl) (hS := hS)
def f_X12_isBusiness (p0 : Int32) : Int32 :=
  let r_1 : Int32 := f_X12_weekdayOf p0
  if r_1 ≤ 4 then
    1
  else
    0
set_option maxHeartbeats 4000000 in
set_option maxRecDepth 100000 in
theorem k_X12_isBusiness (l : Launch) (dC : Nat → ClassId) (dI : Nat → Nat → Nat) (sz : Nat) (h0 : Nat) (fs_h0 : List Value) (p0 : Int32) (hn_h0 : fs_h0.length = 69) (hf_h0_22 : fs_h0[22]? = some (.int 0)) : Met l yX12_isBusiness wsX12_isBusiness ({ frames := 3, cells := 0, slots := 0, locals := 63 }) (va_Pc [.ref h0, .int p0] (fun U => U.heap.size = sz ∧ va_P (dC, dI) vwCl [(h0, .inr (11, fs_h0))] U.heap ∧ va_K (dC, dI) vwCl [] U ∧ va_D (fun _ => True) [(h0, .inr (11, fs_h0))])) (va_Qi (fun (r : Int32) (_ : Unit) => r = f_X12_isBusiness p0) (fun _ t => va_P (dC, dI) vwCl [(h0, .inr (11, fs_h0))] t.heap ∧ va_K (dC, dI) vwCl [] t ∧ va_D (va_A [(h0, .inr (11, fs_h0))] sz) [(h0, .inr (11, fs_h0))]) (va_A [(h0, .inr (11, fs_h0))] sz)) 0 0 (va_A [(h0, .inr (11, fs_h0))] sz) := by
  refine Met.ofW (cc := cX12_isBusiness) (maxL := 3) (ret := (some .boolean)) (by decide) rfl ?_
  intro p e s m args below meth c s₁ B hml hv
  obtain ⟨rfl, hsz, hP, hK, hD0⟩ := hv
  have hx := B.exec
  have hb := B.bytes
  have hr := B.returns
  have hts := atoms_spec (ws := wsX12_isBusiness) B.pre
  have hown : s.vm.findClass RX12 = some m.cls := findClass_of_methodNamed B.named
  have hlocks := B.notSynchronized
  have hinX12 : ∀ w ∈ u_ws RX12 TX12 69, w ∈ wsX12_isBusiness := (fun _ h9 => List.mem_cons_of_mem _ (List.mem_append_right _ h9))
  subst hsz
  have hD := hD0.self (sz := s.heap.size)
  generalize hAe : va_A [(h0, .inr (11, fs_h0))] s.heap.size = A at hD ⊢
  have hA : ∀ q : Nat, s.heap.size ≤ q → A q := fun q h => by rw [← hAe]; exact Or.inr h
  have hS : va_S A s.heap s.heap [] := va_S.rf
  have hP : va_P (dC, dI) vwCl [(h0, .inr (11, fs_h0))] s.heap := hP
  have hl := lv_entry ([.ref h0, .int p0]) (n := 3) (Nat.le_of_ble_eq_true rfl)
  rw [lg_entry_eq]
  generalize (lg_sl ([.ref h0, .int p0]) ++ List.replicate (3 - (lg_sl ([.ref h0, .int p0])).length) Slot.unset).toArray = ls at hl ⊢
  have hl : lv_has ls 3 [(0, .ref h0), (1, .int p0)] := hl
  refine lv_iload_n hx hb dX12_isBusiness_0 rfl (lv_at hl 1 rfl) ?_
  have hPc := hP.sub (ws' := []) [] rfl
  have hDc := hD.sub (ws' := []) [] (by decide) rfl
  have hKc := hK.sub (tys' := []) [] rfl
  have hFc := va_free (wc := []) hD hS hA [] rfl
  refine va_calli (va_runS (As := [.int p0]) (rest := []) ⟨hx, hb, hml, hown, hts⟩ (k_X12_weekdayOf l dC dI s.heap.size p0) (va_cwS 1 hts gX12_isBusiness_X12_weekdayOf rfl rfl rfl (by decide +kernel) ⟨Nat.le_of_ble_eq_true rfl, Nat.le_of_ble_eq_true rfl⟩) ⟨fun a U g mk q => by obtain ⟨q0, q1, qP, qK, qD⟩ := q; exact ⟨q0, q1, qP, va_K.moved (u := U) (U := U.calling g mk a) (Vm.Alike.refl U.vm) qK, qD⟩, fun U hU hW => ⟨rfl, by rw [hU], by rw [hU]; exact hPc, va_K.moved hW.alike hKc, hDc.weaken (fun _ _ _ _ => trivial)⟩⟩ rfl rfl hl.1 rfl (lv_room (Nat.le_of_ble_eq_true rfl)) dX12_isBusiness_1 ⟨Nat.le_of_ble_eq_true rfl, Nat.le_of_ble_eq_true rfl⟩) hS (fun q _ h => hFc q h) hFc (fun r_1 u t H1 locs ht hvm hw hB hz1 hk1 hS => ?_)
  obtain ⟨hP1, hK1, hD1⟩ := hB
  rw [ht] at hP1
  have hK1 := va_K.moved hvm.symm hK1
  obtain ⟨hP, hD⟩ := va_join (wr := [(h0, .inr (11, fs_h0))]) (w1 := []) hP hD [] [0] rfl rfl (by decide) (by decide) hk1 hFc hP1 hD1
  generalize H1 = H at hP hS ⊢
  have hP : va_P (dC, dI) vwCl [(h0, .inr (11, fs_h0))] H := hP
  have hD : va_D A [(h0, .inr (11, fs_h0))] := hD
  have er_1 : r_1 = f_X12_weekdayOf p0 := hw
  refine lv_iconst (v := 4) hx hb dX12_isBusiness_4 (by decide) ?_
  refine lv_icmp_le (tgt := 10) hx hb dX12_isBusiness_5 (by decide) (fun c_2 => ?_) (fun c_2 => ?_)
  · refine lv_iconst (v := 0) hx hb dX12_isBusiness_10 (by decide) ?_
    refine lv_istore_n (lv' := [(2, .int 0), (0, .ref h0), (1, .int p0)]) hx hb dX12_isBusiness_11 rfl hl (by decide) rfl (fun ls hl => ?_)
    refine lv_iload_n hx hb dX12_isBusiness_12 rfl (lv_at hl 0 rfl) ?_
    refine lv_aload_n hx hb dX12_isBusiness_13 rfl (lv_at hl 1 rfl) ?_
    refine va_get (D := (dC, dI)) (ci := 11) (v := .int 0) (C := RX12) (T := TX12) (N := 69) hx hb hts hinX12 hown hK hP 0 rfl rfl 22 (by decide) (hts (.fieldLink RX12 150 "BondCalendarsModel" "freeMany" "I") (by decide +kernel)) (fun _ h9 => h9) hf_h0_22 dX12_isBusiness_14 ?_
    refine lv_icmp_ge (tgt := 38) hx hb dX12_isBusiness_17 (by decide) (fun c_3 => ?_) (fun c_3 => ?_)
    · refine lv_iconst (v := 1) hx hb dX12_isBusiness_38 (by decide) ?_
      have hpost : 1 = f_X12_isBusiness p0 := by unfold f_X12_isBusiness; rw [← er_1]; exact (if_pos c_2).symm
      have hP9 := hP.sub (ws' := [(h0, .inr (11, fs_h0))]) [0] rfl
      have hD9 := hD.sub (ws' := [(h0, .inr (11, fs_h0))]) [0] (by decide) rfl
      have hK9 := hK.sub (tys' := []) [] rfl
      exact W.zret (v := 1) hx hb hr (by decide) (fun t ht hW => ⟨⟨1, (), rfl, hpost, by rw [ht]; exact hP9, va_K.moved hW.alike hK9, hD9⟩, hS.F ht⟩) hS.2.2 dX12_isBusiness_39
    · exact absurd (by decide) c_3
  · refine lv_iconst (v := 0) hx hb dX12_isBusiness_8 (by decide) ?_
    have hpost : 0 = f_X12_isBusiness p0 := by unfold f_X12_isBusiness; rw [← er_1]; exact (if_neg c_2).symm
    have hP9 := hP.sub (ws' := [(h0, .inr (11, fs_h0))]) [0] rfl
    have hD9 := hD.sub (ws' := [(h0, .inr (11, fs_h0))]) [0] (by decide) rfl
    have hK9 := hK.sub (tys' := []) [] rfl
    exact W.zret (v := 0) hx hb hr (by decide) (fun t ht hW => ⟨⟨0, (), rfl, hpost, by rw [ht]; exact hP9, va_K.moved hW.alike hK9, hD9⟩, hS.F ht⟩) hS.2.2 dX12_isBusiness_9
/-- as the reference goes; and that it ends within n steps -/
def bizM : Nat → Int32 → Int32 → Int32 → Int32
  | 0, _, _, a => a
  | n + 1, s, l, a => if l ≤ 0 then a else if f_X12_isBusiness (a + s) = 0 then bizM n s (l - 0) (a + s) else bizM n s (l - 1) (a + s)
def bizS : Nat → Int32 → Int32 → Int32 → Prop
  | 0, _, l, _ => l ≤ 0
  | n + 1, s, l, a => ¬ l ≤ 0 → (f_X12_isBusiness (a + s) = 0 → bizS n s (l - 0) (a + s)) ∧ (¬ f_X12_isBusiness (a + s) = 0 → bizS n s (l - 1) (a + s))
/-- the year of a day, going back; and that it ends within n steps -/
def dateY : Nat → Int32 → Int32 → Int32
  | 0, _, y => y
  | n + 1, d, y => if f_X12_march y ≤ d then y else dateY n d (y + (-1))
def dateS : Nat → Int32 → Int32 → Prop
  | 0, d, y => f_X12_march y ≤ d
  | n + 1, d, y => ¬ f_X12_march y ≤ d → dateS n d (y + (-1))
def dateT (d y : Int32) : Int32 :=
  let r : Int32 := f_X12_march y
  let x2 : Int32 := (d - r)
  let x3 : Int32 := (((5 * x2) + 2) / 153)
  let x4 : Int32 := ((x2 - (((153 * x3) + 2) / 5)) + 1)
  if 10 ≤ x3 then (((10000 * (y + 1)) + (100 * (x3 - 9))) + x4) else (((10000 * y) + (100 * (x3 + 3))) + x4)
def f_X12_businessAfter (p0 : Int32) (p1 : Int32) : Int32 :=
  if 0 ≤ p1 then
    bizM 1000 1 p1 p0
  else
    let x_11 : Int32 := (-p1)
    bizM 1000 (-1) x_11 p0
set_option maxHeartbeats 4000000 in
set_option maxRecDepth 100000 in
theorem k_X12_businessAfter (l : Launch) (dC : Nat → ClassId) (dI : Nat → Nat → Nat) (sz : Nat) (h0 : Nat) (fs_h0 : List Value) (p0 : Int32) (p1 : Int32) (hn_h0 : fs_h0.length = 69) (hf_h0_22 : fs_h0[22]? = some (.int 0)) (hs : bizS 1000 (if 0 ≤ p1 then 1 else (-1)) (if 0 ≤ p1 then p1 else (-p1)) p0) : Met l yX12_businessAfter wsX12_businessAfter ({ frames := 4, cells := 0, slots := 0, locals := 85 }) (va_Pc [.ref h0, .int p0, .int p1] (fun U => U.heap.size = sz ∧ va_P (dC, dI) vwCl [(h0, .inr (11, fs_h0))] U.heap ∧ va_K (dC, dI) vwCl [] U ∧ va_D (fun _ => True) [(h0, .inr (11, fs_h0))])) (va_Qi (fun (r : Int32) (_ : Unit) => r = f_X12_businessAfter p0 p1) (fun _ t => va_P (dC, dI) vwCl [(h0, .inr (11, fs_h0))] t.heap ∧ va_K (dC, dI) vwCl [] t ∧ va_D (va_A [(h0, .inr (11, fs_h0))] sz) [(h0, .inr (11, fs_h0))]) (va_A [(h0, .inr (11, fs_h0))] sz)) 0 0 (va_A [(h0, .inr (11, fs_h0))] sz) := by
  refine Met.ofW (cc := cX12_businessAfter) (maxL := 6) (ret := (some .int)) (by decide) rfl ?_
  intro p e s m args below meth c s₁ B hml hv
  obtain ⟨rfl, hsz, hP, hK, hD0⟩ := hv
  have hx := B.exec
  have hb := B.bytes
  have hr := B.returns
  have hts := atoms_spec (ws := wsX12_businessAfter) B.pre
  have hown : s.vm.findClass RX12 = some m.cls := findClass_of_methodNamed B.named
  have hlocks := B.notSynchronized
  subst hsz
  have hD := hD0.self (sz := s.heap.size)
  generalize hAe : va_A [(h0, .inr (11, fs_h0))] s.heap.size = A at hD ⊢
  have hA : ∀ q : Nat, s.heap.size ≤ q → A q := fun q h => by rw [← hAe]; exact Or.inr h
  have hS : va_S A s.heap s.heap [] := va_S.rf
  have hP : va_P (dC, dI) vwCl [(h0, .inr (11, fs_h0))] s.heap := hP
  have hl := lv_entry ([.ref h0, .int p0, .int p1]) (n := 6) (Nat.le_of_ble_eq_true rfl)
  rw [lg_entry_eq]
  generalize (lg_sl ([.ref h0, .int p0, .int p1]) ++ List.replicate (6 - (lg_sl ([.ref h0, .int p0, .int p1])).length) Slot.unset).toArray = ls at hl ⊢
  have hl : lv_has ls 6 [(0, .ref h0), (1, .int p0), (2, .int p1)] := hl
  refine lv_iload_n hx hb dX12_businessAfter_0 rfl (lv_at hl 2 rfl) ?_
  refine lv_if_ge (tgt := 8) hx hb dX12_businessAfter_1 (by decide) (fun c_1 => ?_) (fun c_1 => ?_)
  · refine lv_iconst (v := 1) hx hb dX12_businessAfter_8 (by decide) ?_
    refine lv_istore_n (lv' := [(3, .int 1), (0, .ref h0), (1, .int p0), (2, .int p1)]) hx hb dX12_businessAfter_9 rfl hl (by decide) rfl (fun ls hl => ?_)
    refine lv_iload_n hx hb dX12_businessAfter_10 rfl (lv_at hl 3 rfl) ?_
    refine lv_if_ge (tgt := 19) hx hb dX12_businessAfter_11 (by decide) (fun c_2 => ?_) (fun c_2 => ?_)
    · refine lv_iload_n hx hb dX12_businessAfter_19 rfl (lv_at hl 3 rfl) ?_
      refine lv_istore (lv' := [(4, .int p1), (3, .int 1), (0, .ref h0), (1, .int p0), (2, .int p1)]) hx hb dX12_businessAfter_20 hl (by decide) rfl (fun ls hl => ?_)
      refine lv_iload_n hx hb dX12_businessAfter_22 rfl (lv_at hl 3 rfl) ?_
      refine lv_istore (lv' := [(5, .int p0), (4, .int p1), (3, .int 1), (0, .ref h0), (1, .int p0), (2, .int p1)]) hx hb dX12_businessAfter_23 hl (by decide) rfl (fun ls hl => ?_)
      obtain ⟨a, ea⟩ : ∃ z : Int32, z = p0 := ⟨_, rfl⟩
      obtain ⟨lf, elf⟩ : ∃ z : Int32, z = p1 := ⟨_, rfl⟩
      replace hl : lv_has ls 6 [(5, .int a), (4, .int lf), (3, .int 1), (0, .ref h0), (1, .int p0), (2, .int p1)] := by rw [elf, ea]; exact hl
      obtain ⟨k, ek⟩ : ∃ z : Nat, z = 1000 := ⟨_, rfl⟩
      have hF : bizM k 1 lf a = f_X12_businessAfter p0 p1 := by rw [ek, elf, ea]; refine Eq.symm ?_; refine (if_pos c_1).trans ?_; rfl
      have hG : bizS k 1 lf a := by rw [ek, elf, ea]; exact (by have h9 := hs; rw [if_pos c_1, if_pos c_1] at h9; exact h9)
      clear ek elf ea
      refine (fun (h : ∀ (H : Heap) (locs : List Loc), va_P (dC, dI) vwCl [(h0, .inr (11, fs_h0))] H → va_S A s.heap H locs → W p l e _ s m _ below meth c H locs _ _ _ (F0 m 25 ls [])) => h _ _ hP hS) ?_
      clear hP hS
      intro H locs hP hS
      induction k generalizing lf a ls H locs with
      | zero =>
        refine lv_iload hx hb dX12_businessAfter_25 (lv_at hl 1 rfl) ?_
        refine lv_if_le (tgt := 58) hx hb dX12_businessAfter_27 (by decide) (fun c_3 => ?_) (fun c_3 => ?_)
        · refine lv_iload hx hb dX12_businessAfter_58 (lv_at hl 0 rfl) ?_
          have hpost : a = f_X12_businessAfter p0 p1 := hF
          have hP9 := hP.sub (ws' := [(h0, .inr (11, fs_h0))]) [0] rfl
          have hD9 := hD.sub (ws' := [(h0, .inr (11, fs_h0))]) [0] (by decide) rfl
          have hK9 := hK.sub (tys' := []) [] rfl
          exact W.iret (v := a) hx hb hr (fun t ht hW => ⟨⟨a, (), rfl, hpost, by rw [ht]; exact hP9, va_K.moved hW.alike hK9, hD9⟩, hS.F ht⟩) hS.2.2 dX12_businessAfter_60
        · exact absurd hG c_3
      | succ k ih =>
        refine lv_iload hx hb dX12_businessAfter_25 (lv_at hl 1 rfl) ?_
        refine lv_if_le (tgt := 58) hx hb dX12_businessAfter_27 (by decide) (fun c_4 => ?_) (fun c_4 => ?_)
        · refine lv_iload hx hb dX12_businessAfter_58 (lv_at hl 0 rfl) ?_
          have hpost : a = f_X12_businessAfter p0 p1 := (if_pos c_4).symm.trans hF
          have hP9 := hP.sub (ws' := [(h0, .inr (11, fs_h0))]) [0] rfl
          have hD9 := hD.sub (ws' := [(h0, .inr (11, fs_h0))]) [0] (by decide) rfl
          have hK9 := hK.sub (tys' := []) [] rfl
          exact W.iret (v := a) hx hb hr (fun t ht hW => ⟨⟨a, (), rfl, hpost, by rw [ht]; exact hP9, va_K.moved hW.alike hK9, hD9⟩, hS.F ht⟩) hS.2.2 dX12_businessAfter_60
        · refine lv_iload hx hb dX12_businessAfter_30 (lv_at hl 0 rfl) ?_
          refine lv_iload_n hx hb dX12_businessAfter_32 rfl (lv_at hl 2 rfl) ?_
          refine lv_iadd hx hb dX12_businessAfter_33 ?_
          refine lv_topi (fun x_5 ex_5 => ?_)
          refine lv_istore (lv' := [(5, .int x_5), (4, .int lf), (3, .int 1), (0, .ref h0), (1, .int p0), (2, .int p1)]) hx hb dX12_businessAfter_34 hl (by decide) rfl (fun ls hl => ?_)
          refine lv_iload hx hb dX12_businessAfter_36 (lv_at hl 1 rfl) ?_
          refine lv_aload_n hx hb dX12_businessAfter_38 rfl (lv_at hl 3 rfl) ?_
          refine lv_iload hx hb dX12_businessAfter_39 (lv_at hl 0 rfl) ?_
          have hPc := hP.sub (ws' := [(h0, .inr (11, fs_h0))]) [0] rfl
          have hDc := hD.sub (ws' := [(h0, .inr (11, fs_h0))]) [0] (by decide) rfl
          have hKc := hK.sub (tys' := []) [] rfl
          have hFc := va_free (wc := [(h0, .inr (11, fs_h0))]) hD hS hA [0] rfl
          refine va_calli (va_runV (As := [.int x_5]) (rest := [.int lf]) ⟨hx, hb, hml, hown, hts⟩ (k_X12_isBusiness l dC dI H.size h0 fs_h0 x_5 hn_h0 hf_h0_22) (cwV 1 hts gX12_businessAfter_X12_isBusiness rfl rfl rfl (by decide +kernel) ⟨Nat.le_of_ble_eq_true rfl, Nat.le_of_ble_eq_true rfl⟩) ⟨fun a U g mk q => by obtain ⟨q0, q1, qP, qK, qD⟩ := q; exact ⟨q0, q1, qP, va_K.moved (u := U) (U := U.calling g mk a) (Vm.Alike.refl U.vm) qK, qD⟩, va_recv hKc hPc (ci := 11) (q0 := 0) rfl rfl, fun U hU hW => ⟨rfl, by rw [hU], by rw [hU]; exact hPc, va_K.moved hW.alike hKc, hDc.weaken (fun _ _ _ _ => trivial)⟩⟩ rfl rfl hl.1 rfl (lv_room (Nat.le_of_ble_eq_true rfl)) dX12_businessAfter_41 ⟨Nat.le_of_ble_eq_true rfl, Nat.le_of_ble_eq_true rfl⟩) hS (fun q _ h => hFc q h) hFc (fun r_6 u t H1 locs ht hvm hw hB hz1 hk1 hS => ?_)
          obtain ⟨hP1, hK1, hD1⟩ := hB
          rw [ht] at hP1
          have hK1 := va_K.moved hvm.symm hK1
          obtain ⟨hP, hD⟩ := va_join (wr := []) (w1 := [(h0, .inr (11, fs_h0))]) hP hD [0] [] rfl rfl (by decide) (by decide) hk1 hFc hP1 hD1
          generalize H1 = H at hP hS ⊢
          have hP : va_P (dC, dI) vwCl [(h0, .inr (11, fs_h0))] H := hP
          have hD : va_D A [(h0, .inr (11, fs_h0))] := hD
          have er_6 : r_6 = f_X12_isBusiness x_5 := hw
          refine lv_if_eq (tgt := 51) hx hb dX12_businessAfter_44 (by decide) (fun c_7 => ?_) (fun c_7 => ?_)
          · refine lv_iconst (v := 0) hx hb dX12_businessAfter_51 (by decide) ?_
            refine lv_isub hx hb dX12_businessAfter_52 ?_
            refine lv_topi (fun x_8 ex_8 => ?_)
            refine lv_istore (lv' := [(4, .int x_8), (5, .int x_5), (3, .int 1), (0, .ref h0), (1, .int p0), (2, .int p1)]) hx hb dX12_businessAfter_53 hl (by decide) rfl (fun ls hl => ?_)
            refine lv_goto (tgt := 25) hx hb dX12_businessAfter_55 (by decide) ?_
            exact ih (ls := ls) (lf := x_8) (a := x_5) (hG := (by have hq : f_X12_isBusiness (a + 1) = 0 := (by rw [← ex_5, ← er_6]; exact c_7); rw [ex_5, ex_8]; exact (hG c_4).1 hq)) (hF := (by have hq : f_X12_isBusiness (a + 1) = 0 := (by rw [← ex_5, ← er_6]; exact c_7); have h := hF; rw [bizM, if_neg c_4, if_pos hq] at h; rw [ex_5, ex_8]; exact h)) (hl := lv_sub hl [1, 0, 2, 3, 4, 5] rfl) (H := H) (locs := locs) (hP := hP.sub [0] rfl) (hS := hS)
          · refine lv_iconst (v := 1) hx hb dX12_businessAfter_47 (by decide) ?_
            refine lv_goto (tgt := 52) hx hb dX12_businessAfter_48 (by decide) ?_
            refine lv_isub hx hb dX12_businessAfter_52 ?_
            refine lv_topi (fun x_9 ex_9 => ?_)
            refine lv_istore (lv' := [(4, .int x_9), (5, .int x_5), (3, .int 1), (0, .ref h0), (1, .int p0), (2, .int p1)]) hx hb dX12_businessAfter_53 hl (by decide) rfl (fun ls hl => ?_)
            refine lv_goto (tgt := 25) hx hb dX12_businessAfter_55 (by decide) ?_
            exact ih (ls := ls) (lf := x_9) (a := x_5) (hG := (by have hq : ¬ f_X12_isBusiness (a + 1) = 0 := (by rw [← ex_5, ← er_6]; exact c_7); rw [ex_5, ex_9]; exact (hG c_4).2 hq)) (hF := (by have hq : ¬ f_X12_isBusiness (a + 1) = 0 := (by rw [← ex_5, ← er_6]; exact c_7); have h := hF; rw [bizM, if_neg c_4, if_neg hq] at h; rw [ex_5, ex_9]; exact h)) (hl := lv_sub hl [1, 0, 2, 3, 4, 5] rfl) (H := H) (locs := locs) (hP := hP.sub [0] rfl) (hS := hS)
    · exact absurd c_1 c_2
  · refine lv_iconst (v := (-1)) hx hb dX12_businessAfter_4 (by decide) ?_
    refine lv_goto (tgt := 9) hx hb dX12_businessAfter_5 (by decide) ?_
    refine lv_istore_n (lv' := [(3, .int (-1)), (0, .ref h0), (1, .int p0), (2, .int p1)]) hx hb dX12_businessAfter_9 rfl hl (by decide) rfl (fun ls hl => ?_)
    refine lv_iload_n hx hb dX12_businessAfter_10 rfl (lv_at hl 3 rfl) ?_
    refine lv_if_ge (tgt := 19) hx hb dX12_businessAfter_11 (by decide) (fun c_10 => ?_) (fun c_10 => ?_)
    · exact absurd c_10 c_1
    · refine lv_iload_n hx hb dX12_businessAfter_14 rfl (lv_at hl 3 rfl) ?_
      refine lv_ineg hx hb dX12_businessAfter_15 ?_
      refine lv_goto (tgt := 20) hx hb dX12_businessAfter_16 (by decide) ?_
      refine lv_topi (fun x_11 ex_11 => ?_)
      refine lv_istore (lv' := [(4, .int x_11), (3, .int (-1)), (0, .ref h0), (1, .int p0), (2, .int p1)]) hx hb dX12_businessAfter_20 hl (by decide) rfl (fun ls hl => ?_)
      refine lv_iload_n hx hb dX12_businessAfter_22 rfl (lv_at hl 3 rfl) ?_
      refine lv_istore (lv' := [(5, .int p0), (4, .int x_11), (3, .int (-1)), (0, .ref h0), (1, .int p0), (2, .int p1)]) hx hb dX12_businessAfter_23 hl (by decide) rfl (fun ls hl => ?_)
      obtain ⟨a, ea⟩ : ∃ z : Int32, z = p0 := ⟨_, rfl⟩
      obtain ⟨lf, elf⟩ : ∃ z : Int32, z = x_11 := ⟨_, rfl⟩
      replace hl : lv_has ls 6 [(5, .int a), (4, .int lf), (3, .int (-1)), (0, .ref h0), (1, .int p0), (2, .int p1)] := by rw [elf, ea]; exact hl
      obtain ⟨k, ek⟩ : ∃ z : Nat, z = 1000 := ⟨_, rfl⟩
      have hF : bizM k (-1) lf a = f_X12_businessAfter p0 p1 := by rw [ek, elf, ea, ex_11]; refine Eq.symm ?_; refine (if_neg c_1).trans ?_; rfl
      have hG : bizS k (-1) lf a := by rw [ek, elf, ea, ex_11]; exact (by have h9 := hs; rw [if_neg c_1, if_neg c_1] at h9; exact h9)
      clear ek elf ea
      refine (fun (h : ∀ (H : Heap) (locs : List Loc), va_P (dC, dI) vwCl [(h0, .inr (11, fs_h0))] H → va_S A s.heap H locs → W p l e _ s m _ below meth c H locs _ _ _ (F0 m 25 ls [])) => h _ _ hP hS) ?_
      clear hP hS
      intro H locs hP hS
      induction k generalizing lf a ls H locs with
      | zero =>
        refine lv_iload hx hb dX12_businessAfter_25 (lv_at hl 1 rfl) ?_
        refine lv_if_le (tgt := 58) hx hb dX12_businessAfter_27 (by decide) (fun c_12 => ?_) (fun c_12 => ?_)
        · refine lv_iload hx hb dX12_businessAfter_58 (lv_at hl 0 rfl) ?_
          have hpost : a = f_X12_businessAfter p0 p1 := hF
          have hP9 := hP.sub (ws' := [(h0, .inr (11, fs_h0))]) [0] rfl
          have hD9 := hD.sub (ws' := [(h0, .inr (11, fs_h0))]) [0] (by decide) rfl
          have hK9 := hK.sub (tys' := []) [] rfl
          exact W.iret (v := a) hx hb hr (fun t ht hW => ⟨⟨a, (), rfl, hpost, by rw [ht]; exact hP9, va_K.moved hW.alike hK9, hD9⟩, hS.F ht⟩) hS.2.2 dX12_businessAfter_60
        · exact absurd hG c_12
      | succ k ih =>
        refine lv_iload hx hb dX12_businessAfter_25 (lv_at hl 1 rfl) ?_
        refine lv_if_le (tgt := 58) hx hb dX12_businessAfter_27 (by decide) (fun c_13 => ?_) (fun c_13 => ?_)
        · refine lv_iload hx hb dX12_businessAfter_58 (lv_at hl 0 rfl) ?_
          have hpost : a = f_X12_businessAfter p0 p1 := (if_pos c_13).symm.trans hF
          have hP9 := hP.sub (ws' := [(h0, .inr (11, fs_h0))]) [0] rfl
          have hD9 := hD.sub (ws' := [(h0, .inr (11, fs_h0))]) [0] (by decide) rfl
          have hK9 := hK.sub (tys' := []) [] rfl
          exact W.iret (v := a) hx hb hr (fun t ht hW => ⟨⟨a, (), rfl, hpost, by rw [ht]; exact hP9, va_K.moved hW.alike hK9, hD9⟩, hS.F ht⟩) hS.2.2 dX12_businessAfter_60
        · refine lv_iload hx hb dX12_businessAfter_30 (lv_at hl 0 rfl) ?_
          refine lv_iload_n hx hb dX12_businessAfter_32 rfl (lv_at hl 2 rfl) ?_
          refine lv_iadd hx hb dX12_businessAfter_33 ?_
          refine lv_topi (fun x_14 ex_14 => ?_)
          refine lv_istore (lv' := [(5, .int x_14), (4, .int lf), (3, .int (-1)), (0, .ref h0), (1, .int p0), (2, .int p1)]) hx hb dX12_businessAfter_34 hl (by decide) rfl (fun ls hl => ?_)
          refine lv_iload hx hb dX12_businessAfter_36 (lv_at hl 1 rfl) ?_
          refine lv_aload_n hx hb dX12_businessAfter_38 rfl (lv_at hl 3 rfl) ?_
          refine lv_iload hx hb dX12_businessAfter_39 (lv_at hl 0 rfl) ?_
          have hPc := hP.sub (ws' := [(h0, .inr (11, fs_h0))]) [0] rfl
          have hDc := hD.sub (ws' := [(h0, .inr (11, fs_h0))]) [0] (by decide) rfl
          have hKc := hK.sub (tys' := []) [] rfl
          have hFc := va_free (wc := [(h0, .inr (11, fs_h0))]) hD hS hA [0] rfl
          refine va_calli (va_runV (As := [.int x_14]) (rest := [.int lf]) ⟨hx, hb, hml, hown, hts⟩ (k_X12_isBusiness l dC dI H.size h0 fs_h0 x_14 hn_h0 hf_h0_22) (cwV 1 hts gX12_businessAfter_X12_isBusiness rfl rfl rfl (by decide +kernel) ⟨Nat.le_of_ble_eq_true rfl, Nat.le_of_ble_eq_true rfl⟩) ⟨fun a U g mk q => by obtain ⟨q0, q1, qP, qK, qD⟩ := q; exact ⟨q0, q1, qP, va_K.moved (u := U) (U := U.calling g mk a) (Vm.Alike.refl U.vm) qK, qD⟩, va_recv hKc hPc (ci := 11) (q0 := 0) rfl rfl, fun U hU hW => ⟨rfl, by rw [hU], by rw [hU]; exact hPc, va_K.moved hW.alike hKc, hDc.weaken (fun _ _ _ _ => trivial)⟩⟩ rfl rfl hl.1 rfl (lv_room (Nat.le_of_ble_eq_true rfl)) dX12_businessAfter_41 ⟨Nat.le_of_ble_eq_true rfl, Nat.le_of_ble_eq_true rfl⟩) hS (fun q _ h => hFc q h) hFc (fun r_15 u t H1 locs ht hvm hw hB hz1 hk1 hS => ?_)
          obtain ⟨hP1, hK1, hD1⟩ := hB
          rw [ht] at hP1
          have hK1 := va_K.moved hvm.symm hK1
          obtain ⟨hP, hD⟩ := va_join (wr := []) (w1 := [(h0, .inr (11, fs_h0))]) hP hD [0] [] rfl rfl (by decide) (by decide) hk1 hFc hP1 hD1
          generalize H1 = H at hP hS ⊢
          have hP : va_P (dC, dI) vwCl [(h0, .inr (11, fs_h0))] H := hP
          have hD : va_D A [(h0, .inr (11, fs_h0))] := hD
          have er_15 : r_15 = f_X12_isBusiness x_14 := hw
          refine lv_if_eq (tgt := 51) hx hb dX12_businessAfter_44 (by decide) (fun c_16 => ?_) (fun c_16 => ?_)
          · refine lv_iconst (v := 0) hx hb dX12_businessAfter_51 (by decide) ?_
            refine lv_isub hx hb dX12_businessAfter_52 ?_
            refine lv_topi (fun x_17 ex_17 => ?_)
            refine lv_istore (lv' := [(4, .int x_17), (5, .int x_14), (3, .int (-1)), (0, .ref h0), (1, .int p0), (2, .int p1)]) hx hb dX12_businessAfter_53 hl (by decide) rfl (fun ls hl => ?_)
            refine lv_goto (tgt := 25) hx hb dX12_businessAfter_55 (by decide) ?_
            exact ih (ls := ls) (lf := x_17) (a := x_14) (hG := (by have hq : f_X12_isBusiness (a + (-1)) = 0 := (by rw [← ex_14, ← er_15]; exact c_16); rw [ex_14, ex_17]; exact (hG c_13).1 hq)) (hF := (by have hq : f_X12_isBusiness (a + (-1)) = 0 := (by rw [← ex_14, ← er_15]; exact c_16); have h := hF; rw [bizM, if_neg c_13, if_pos hq] at h; rw [ex_14, ex_17]; exact h)) (hl := lv_sub hl [1, 0, 2, 3, 4, 5] rfl) (H := H) (locs := locs) (hP := hP.sub [0] rfl) (hS := hS)
          · refine lv_iconst (v := 1) hx hb dX12_businessAfter_47 (by decide) ?_
            refine lv_goto (tgt := 52) hx hb dX12_businessAfter_48 (by decide) ?_
            refine lv_isub hx hb dX12_businessAfter_52 ?_
            refine lv_topi (fun x_18 ex_18 => ?_)
            refine lv_istore (lv' := [(4, .int x_18), (5, .int x_14), (3, .int (-1)), (0, .ref h0), (1, .int p0), (2, .int p1)]) hx hb dX12_businessAfter_53 hl (by decide) rfl (fun ls hl => ?_)
            refine lv_goto (tgt := 25) hx hb dX12_businessAfter_55 (by decide) ?_
            exact ih (ls := ls) (lf := x_18) (a := x_14) (hG := (by have hq : ¬ f_X12_isBusiness (a + (-1)) = 0 := (by rw [← ex_14, ← er_15]; exact c_16); rw [ex_14, ex_18]; exact (hG c_13).2 hq)) (hF := (by have hq : ¬ f_X12_isBusiness (a + (-1)) = 0 := (by rw [← ex_14, ← er_15]; exact c_16); have h := hF; rw [bizM, if_neg c_13, if_neg hq] at h; rw [ex_14, ex_18]; exact h)) (hl := lv_sub hl [1, 0, 2, 3, 4, 5] rfl) (H := H) (locs := locs) (hP := hP.sub [0] rfl) (hS := hS)
def f_X12_dateOf (p0 : Int32) : Int32 :=
  let x_1 : Int32 := (p0 / 365)
  dateT p0 (dateY 8 p0 x_1)
set_option maxHeartbeats 4000000 in
set_option maxRecDepth 100000 in
theorem k_X12_dateOf (l : Launch) (dC : Nat → ClassId) (dI : Nat → Nat → Nat) (sz : Nat) (p0 : Int32) (hs : dateS 8 p0 (p0 / 365)) : Met l yX12_dateOf wsX12_dateOf ({ frames := 1, cells := 0, slots := 0, locals := 20 }) (va_Pc [.int p0] (fun U => U.heap.size = sz ∧ va_P (dC, dI) vwCl [] U.heap ∧ va_K (dC, dI) vwCl [] U ∧ va_D (fun _ => True) [])) (va_Qi (fun (r : Int32) (_ : Unit) => r = f_X12_dateOf p0) (fun _ t => va_P (dC, dI) vwCl [] t.heap ∧ va_K (dC, dI) vwCl [] t ∧ va_D (va_A [] sz) []) (va_A [] sz)) 0 0 (va_A [] sz) := by
  refine Met.ofW (cc := cX12_dateOf) (maxL := 5) (ret := (some .int)) (by decide) rfl ?_
  intro p e s m args below meth c s₁ B hml hv
  obtain ⟨rfl, hsz, hP, hK, hD0⟩ := hv
  have hx := B.exec
  have hb := B.bytes
  have hr := B.returns
  have hts := atoms_spec (ws := wsX12_dateOf) B.pre
  have hown : s.vm.findClass RX12 = some m.cls := findClass_of_methodNamed B.named
  have hlocks := B.notSynchronized
  subst hsz
  have hD := hD0.self (sz := s.heap.size)
  generalize hAe : va_A [] s.heap.size = A at hD ⊢
  have hA : ∀ q : Nat, s.heap.size ≤ q → A q := fun q h => by rw [← hAe]; exact Or.inr h
  have hS : va_S A s.heap s.heap [] := va_S.rf
  have hP : va_P (dC, dI) vwCl [] s.heap := hP
  have hl := lv_entry ([.int p0]) (n := 5) (Nat.le_of_ble_eq_true rfl)
  rw [lg_entry_eq]
  generalize (lg_sl ([.int p0]) ++ List.replicate (5 - (lg_sl ([.int p0])).length) Slot.unset).toArray = ls at hl ⊢
  have hl : lv_has ls 5 [(0, .int p0)] := hl
  refine lv_iload_n hx hb dX12_dateOf_0 rfl (lv_at hl 0 rfl) ?_
  refine lv_sipush (v := 365) hx hb dX12_dateOf_1 (by decide) ?_
  refine lv_idiv hx hb dX12_dateOf_4 (by decide) ?_
  refine lv_topi (fun x_1 ex_1 => ?_)
  refine lv_istore_n (lv' := [(1, .int x_1), (0, .int p0)]) hx hb dX12_dateOf_5 rfl hl (by decide) rfl (fun ls hl => ?_)
  obtain ⟨y, ey⟩ : ∃ z : Int32, z = x_1 := ⟨_, rfl⟩
  replace hl : lv_has ls 5 [(1, .int y), (0, .int p0)] := by rw [ey]; exact hl
  obtain ⟨k, ek⟩ : ∃ z : Nat, z = 8 := ⟨_, rfl⟩
  have hF : dateT p0 (dateY k p0 y) = f_X12_dateOf p0 := by rw [ek, ey, ex_1]; rfl
  have hG : dateS k p0 y := by rw [ek, ey, ex_1]; exact hs
  clear ek ey
  refine (fun (h : ∀ (H : Heap) (locs : List Loc), va_P (dC, dI) vwCl [] H → va_S A s.heap H locs → W p l e _ s m _ below meth c H locs _ _ _ (F0 m 6 ls [])) => h _ _ hP hS) ?_
  clear hP hS
  intro H locs hP hS
  induction k generalizing y ls H locs with
  | zero =>
    refine lv_iload_n hx hb dX12_dateOf_6 rfl (lv_at hl 0 rfl) ?_
    have hPc := hP.sub (ws' := []) [] rfl
    have hDc := hD.sub (ws' := []) [] (by decide) rfl
    have hKc := hK.sub (tys' := []) [] rfl
    have hFc := va_free (wc := []) hD hS hA [] rfl
    refine va_calli (va_runS (As := [.int y]) (rest := []) ⟨hx, hb, hml, hown, hts⟩ (k_X12_march l dC dI H.size y) (va_cwS 1 hts gX12_dateOf_X12_march rfl rfl rfl (by decide +kernel) ⟨Nat.le_of_ble_eq_true rfl, Nat.le_of_ble_eq_true rfl⟩) ⟨fun a U g mk q => by obtain ⟨q0, q1, qP, qK, qD⟩ := q; exact ⟨q0, q1, qP, va_K.moved (u := U) (U := U.calling g mk a) (Vm.Alike.refl U.vm) qK, qD⟩, fun U hU hW => ⟨rfl, by rw [hU], by rw [hU]; exact hPc, va_K.moved hW.alike hKc, hDc.weaken (fun _ _ _ _ => trivial)⟩⟩ rfl rfl hl.1 rfl (lv_room (Nat.le_of_ble_eq_true rfl)) dX12_dateOf_7 ⟨Nat.le_of_ble_eq_true rfl, Nat.le_of_ble_eq_true rfl⟩) hS (fun q _ h => hFc q h) hFc (fun r_2 u t H1 locs ht hvm hw hB hz1 hk1 hS => ?_)
    obtain ⟨hP1, hK1, hD1⟩ := hB
    rw [ht] at hP1
    have hK1 := va_K.moved hvm.symm hK1
    obtain ⟨hP, hD⟩ := va_join (wr := []) (w1 := []) hP hD [] [] rfl rfl (by decide) (by decide) hk1 hFc hP1 hD1
    generalize H1 = H at hP hS ⊢
    have hP : va_P (dC, dI) vwCl [] H := hP
    have hD : va_D A [] := hD
    have er_2 : r_2 = f_X12_march y := hw
    refine lv_iload_n hx hb dX12_dateOf_10 rfl (lv_at hl 1 rfl) ?_
    refine lv_icmp_le (tgt := 20) hx hb dX12_dateOf_11 (by decide) (fun c_3 => ?_) (fun c_3 => ?_)
    · refine lv_iload_n hx hb dX12_dateOf_20 rfl (lv_at hl 1 rfl) ?_
      refine lv_iload_n hx hb dX12_dateOf_21 rfl (lv_at hl 0 rfl) ?_
      have hPc := hP.sub (ws' := []) [] rfl
      have hDc := hD.sub (ws' := []) [] (by decide) rfl
      have hKc := hK.sub (tys' := []) [] rfl
      have hFc := va_free (wc := []) hD hS hA [] rfl
      refine va_calli (va_runS (As := [.int y]) (rest := [.int p0]) ⟨hx, hb, hml, hown, hts⟩ (k_X12_march l dC dI H.size y) (va_cwS 1 hts gX12_dateOf_X12_march rfl rfl rfl (by decide +kernel) ⟨Nat.le_of_ble_eq_true rfl, Nat.le_of_ble_eq_true rfl⟩) ⟨fun a U g mk q => by obtain ⟨q0, q1, qP, qK, qD⟩ := q; exact ⟨q0, q1, qP, va_K.moved (u := U) (U := U.calling g mk a) (Vm.Alike.refl U.vm) qK, qD⟩, fun U hU hW => ⟨rfl, by rw [hU], by rw [hU]; exact hPc, va_K.moved hW.alike hKc, hDc.weaken (fun _ _ _ _ => trivial)⟩⟩ rfl rfl hl.1 rfl (lv_room (Nat.le_of_ble_eq_true rfl)) dX12_dateOf_22 ⟨Nat.le_of_ble_eq_true rfl, Nat.le_of_ble_eq_true rfl⟩) hS (fun q _ h => hFc q h) hFc (fun r_4 u t H1 locs ht hvm hw hB hz1 hk1 hS => ?_)
      obtain ⟨hP1, hK1, hD1⟩ := hB
      rw [ht] at hP1
      have hK1 := va_K.moved hvm.symm hK1
      obtain ⟨hP, hD⟩ := va_join (wr := []) (w1 := []) hP hD [] [] rfl rfl (by decide) (by decide) hk1 hFc hP1 hD1
      generalize H1 = H at hP hS ⊢
      have hP : va_P (dC, dI) vwCl [] H := hP
      have hD : va_D A [] := hD
      have er_4 : r_4 = f_X12_march y := hw
      refine lv_isub hx hb dX12_dateOf_25 ?_
      refine lv_topi (fun x_5 ex_5 => ?_)
      refine lv_istore_n (lv' := [(2, .int x_5), (1, .int y), (0, .int p0)]) hx hb dX12_dateOf_26 rfl hl (by decide) rfl (fun ls hl => ?_)
      refine lv_iconst (v := 5) hx hb dX12_dateOf_27 (by decide) ?_
      refine lv_iload_n hx hb dX12_dateOf_28 rfl (lv_at hl 0 rfl) ?_
      refine lv_imul hx hb dX12_dateOf_29 ?_
      refine lv_iconst (v := 2) hx hb dX12_dateOf_30 (by decide) ?_
      refine lv_iadd hx hb dX12_dateOf_31 ?_
      refine lv_sipush (v := 153) hx hb dX12_dateOf_32 (by decide) ?_
      refine lv_idiv hx hb dX12_dateOf_35 (by decide) ?_
      refine lv_topi (fun x_6 ex_6 => ?_)
      refine lv_istore_n (lv' := [(3, .int x_6), (2, .int x_5), (1, .int y), (0, .int p0)]) hx hb dX12_dateOf_36 rfl hl (by decide) rfl (fun ls hl => ?_)
      refine lv_iload_n hx hb dX12_dateOf_37 rfl (lv_at hl 1 rfl) ?_
      refine lv_sipush (v := 153) hx hb dX12_dateOf_38 (by decide) ?_
      refine lv_iload_n hx hb dX12_dateOf_41 rfl (lv_at hl 0 rfl) ?_
      refine lv_imul hx hb dX12_dateOf_42 ?_
      refine lv_iconst (v := 2) hx hb dX12_dateOf_43 (by decide) ?_
      refine lv_iadd hx hb dX12_dateOf_44 ?_
      refine lv_iconst (v := 5) hx hb dX12_dateOf_45 (by decide) ?_
      refine lv_idiv hx hb dX12_dateOf_46 (by decide) ?_
      refine lv_isub hx hb dX12_dateOf_47 ?_
      refine lv_iconst (v := 1) hx hb dX12_dateOf_48 (by decide) ?_
      refine lv_iadd hx hb dX12_dateOf_49 ?_
      refine lv_topi (fun x_7 ex_7 => ?_)
      refine lv_istore (lv' := [(4, .int x_7), (3, .int x_6), (2, .int x_5), (1, .int y), (0, .int p0)]) hx hb dX12_dateOf_50 hl (by decide) rfl (fun ls hl => ?_)
      refine lv_iload_n hx hb dX12_dateOf_52 rfl (lv_at hl 1 rfl) ?_
      refine lv_bipush (v := 10) hx hb dX12_dateOf_53 (by decide) ?_
      refine lv_icmp_ge (tgt := 76) hx hb dX12_dateOf_55 (by decide) (fun c_8 => ?_) (fun c_8 => ?_)
      · refine lv_sipush (v := 10000) hx hb dX12_dateOf_76 (by decide) ?_
        refine lv_iload_n hx hb dX12_dateOf_79 rfl (lv_at hl 3 rfl) ?_
        refine lv_iconst (v := 1) hx hb dX12_dateOf_80 (by decide) ?_
        refine lv_iadd hx hb dX12_dateOf_81 ?_
        refine lv_imul hx hb dX12_dateOf_82 ?_
        refine lv_bipush (v := 100) hx hb dX12_dateOf_83 (by decide) ?_
        refine lv_iload_n hx hb dX12_dateOf_85 rfl (lv_at hl 1 rfl) ?_
        refine lv_bipush (v := 9) hx hb dX12_dateOf_86 (by decide) ?_
        refine lv_isub hx hb dX12_dateOf_88 ?_
        refine lv_imul hx hb dX12_dateOf_89 ?_
        refine lv_iadd hx hb dX12_dateOf_90 ?_
        refine lv_iload hx hb dX12_dateOf_91 (lv_at hl 0 rfl) ?_
        refine lv_iadd hx hb dX12_dateOf_93 ?_
        have hpost : (((10000 * (y + 1)) + (100 * (x_6 - 9))) + x_7) = f_X12_dateOf p0 := by subst er_2; subst er_4; subst ex_5; subst ex_6; subst ex_7; exact Eq.trans (if_pos c_8).symm hF
        have hP9 := hP.sub (ws' := []) [] rfl
        have hD9 := hD.sub (ws' := []) [] (by decide) rfl
        have hK9 := hK.sub (tys' := []) [] rfl
        exact W.iret (v := (((10000 * (y + 1)) + (100 * (x_6 - 9))) + x_7)) hx hb hr (fun t ht hW => ⟨⟨(((10000 * (y + 1)) + (100 * (x_6 - 9))) + x_7), (), rfl, hpost, by rw [ht]; exact hP9, va_K.moved hW.alike hK9, hD9⟩, hS.F ht⟩) hS.2.2 dX12_dateOf_94
      · refine lv_sipush (v := 10000) hx hb dX12_dateOf_58 (by decide) ?_
        refine lv_iload_n hx hb dX12_dateOf_61 rfl (lv_at hl 3 rfl) ?_
        refine lv_imul hx hb dX12_dateOf_62 ?_
        refine lv_bipush (v := 100) hx hb dX12_dateOf_63 (by decide) ?_
        refine lv_iload_n hx hb dX12_dateOf_65 rfl (lv_at hl 1 rfl) ?_
        refine lv_iconst (v := 3) hx hb dX12_dateOf_66 (by decide) ?_
        refine lv_iadd hx hb dX12_dateOf_67 ?_
        refine lv_imul hx hb dX12_dateOf_68 ?_
        refine lv_iadd hx hb dX12_dateOf_69 ?_
        refine lv_iload hx hb dX12_dateOf_70 (lv_at hl 0 rfl) ?_
        refine lv_iadd hx hb dX12_dateOf_72 ?_
        refine lv_goto (tgt := 94) hx hb dX12_dateOf_73 (by decide) ?_
        have hpost : (((10000 * y) + (100 * (x_6 + 3))) + x_7) = f_X12_dateOf p0 := by subst er_2; subst er_4; subst ex_5; subst ex_6; subst ex_7; exact Eq.trans (if_neg c_8).symm hF
        have hP9 := hP.sub (ws' := []) [] rfl
        have hD9 := hD.sub (ws' := []) [] (by decide) rfl
        have hK9 := hK.sub (tys' := []) [] rfl
        exact W.iret (v := (((10000 * y) + (100 * (x_6 + 3))) + x_7)) hx hb hr (fun t ht hW => ⟨⟨(((10000 * y) + (100 * (x_6 + 3))) + x_7), (), rfl, hpost, by rw [ht]; exact hP9, va_K.moved hW.alike hK9, hD9⟩, hS.F ht⟩) hS.2.2 dX12_dateOf_94
    · exact absurd (by rw [er_2]; exact hG) c_3
  | succ k ih =>
    refine lv_iload_n hx hb dX12_dateOf_6 rfl (lv_at hl 0 rfl) ?_
    have hPc := hP.sub (ws' := []) [] rfl
    have hDc := hD.sub (ws' := []) [] (by decide) rfl
    have hKc := hK.sub (tys' := []) [] rfl
    have hFc := va_free (wc := []) hD hS hA [] rfl
    refine va_calli (va_runS (As := [.int y]) (rest := []) ⟨hx, hb, hml, hown, hts⟩ (k_X12_march l dC dI H.size y) (va_cwS 1 hts gX12_dateOf_X12_march rfl rfl rfl (by decide +kernel) ⟨Nat.le_of_ble_eq_true rfl, Nat.le_of_ble_eq_true rfl⟩) ⟨fun a U g mk q => by obtain ⟨q0, q1, qP, qK, qD⟩ := q; exact ⟨q0, q1, qP, va_K.moved (u := U) (U := U.calling g mk a) (Vm.Alike.refl U.vm) qK, qD⟩, fun U hU hW => ⟨rfl, by rw [hU], by rw [hU]; exact hPc, va_K.moved hW.alike hKc, hDc.weaken (fun _ _ _ _ => trivial)⟩⟩ rfl rfl hl.1 rfl (lv_room (Nat.le_of_ble_eq_true rfl)) dX12_dateOf_7 ⟨Nat.le_of_ble_eq_true rfl, Nat.le_of_ble_eq_true rfl⟩) hS (fun q _ h => hFc q h) hFc (fun r_9 u t H1 locs ht hvm hw hB hz1 hk1 hS => ?_)
    obtain ⟨hP1, hK1, hD1⟩ := hB
    rw [ht] at hP1
    have hK1 := va_K.moved hvm.symm hK1
    obtain ⟨hP, hD⟩ := va_join (wr := []) (w1 := []) hP hD [] [] rfl rfl (by decide) (by decide) hk1 hFc hP1 hD1
    generalize H1 = H at hP hS ⊢
    have hP : va_P (dC, dI) vwCl [] H := hP
    have hD : va_D A [] := hD
    have er_9 : r_9 = f_X12_march y := hw
    refine lv_iload_n hx hb dX12_dateOf_10 rfl (lv_at hl 1 rfl) ?_
    refine lv_icmp_le (tgt := 20) hx hb dX12_dateOf_11 (by decide) (fun c_10 => ?_) (fun c_10 => ?_)
    · refine lv_iload_n hx hb dX12_dateOf_20 rfl (lv_at hl 1 rfl) ?_
      refine lv_iload_n hx hb dX12_dateOf_21 rfl (lv_at hl 0 rfl) ?_
      have hPc := hP.sub (ws' := []) [] rfl
      have hDc := hD.sub (ws' := []) [] (by decide) rfl
      have hKc := hK.sub (tys' := []) [] rfl
      have hFc := va_free (wc := []) hD hS hA [] rfl
      refine va_calli (va_runS (As := [.int y]) (rest := [.int p0]) ⟨hx, hb, hml, hown, hts⟩ (k_X12_march l dC dI H.size y) (va_cwS 1 hts gX12_dateOf_X12_march rfl rfl rfl (by decide +kernel) ⟨Nat.le_of_ble_eq_true rfl, Nat.le_of_ble_eq_true rfl⟩) ⟨fun a U g mk q => by obtain ⟨q0, q1, qP, qK, qD⟩ := q; exact ⟨q0, q1, qP, va_K.moved (u := U) (U := U.calling g mk a) (Vm.Alike.refl U.vm) qK, qD⟩, fun U hU hW => ⟨rfl, by rw [hU], by rw [hU]; exact hPc, va_K.moved hW.alike hKc, hDc.weaken (fun _ _ _ _ => trivial)⟩⟩ rfl rfl hl.1 rfl (lv_room (Nat.le_of_ble_eq_true rfl)) dX12_dateOf_22 ⟨Nat.le_of_ble_eq_true rfl, Nat.le_of_ble_eq_true rfl⟩) hS (fun q _ h => hFc q h) hFc (fun r_11 u t H1 locs ht hvm hw hB hz1 hk1 hS => ?_)
      obtain ⟨hP1, hK1, hD1⟩ := hB
      rw [ht] at hP1
      have hK1 := va_K.moved hvm.symm hK1
      obtain ⟨hP, hD⟩ := va_join (wr := []) (w1 := []) hP hD [] [] rfl rfl (by decide) (by decide) hk1 hFc hP1 hD1
      generalize H1 = H at hP hS ⊢
      have hP : va_P (dC, dI) vwCl [] H := hP
      have hD : va_D A [] := hD
      have er_11 : r_11 = f_X12_march y := hw
      refine lv_isub hx hb dX12_dateOf_25 ?_
      refine lv_topi (fun x_12 ex_12 => ?_)
      refine lv_istore_n (lv' := [(2, .int x_12), (1, .int y), (0, .int p0)]) hx hb dX12_dateOf_26 rfl hl (by decide) rfl (fun ls hl => ?_)
      refine lv_iconst (v := 5) hx hb dX12_dateOf_27 (by decide) ?_
      refine lv_iload_n hx hb dX12_dateOf_28 rfl (lv_at hl 0 rfl) ?_
      refine lv_imul hx hb dX12_dateOf_29 ?_
      refine lv_iconst (v := 2) hx hb dX12_dateOf_30 (by decide) ?_
      refine lv_iadd hx hb dX12_dateOf_31 ?_
      refine lv_sipush (v := 153) hx hb dX12_dateOf_32 (by decide) ?_
      refine lv_idiv hx hb dX12_dateOf_35 (by decide) ?_
      refine lv_topi (fun x_13 ex_13 => ?_)
      refine lv_istore_n (lv' := [(3, .int x_13), (2, .int x_12), (1, .int y), (0, .int p0)]) hx hb dX12_dateOf_36 rfl hl (by decide) rfl (fun ls hl => ?_)
      refine lv_iload_n hx hb dX12_dateOf_37 rfl (lv_at hl 1 rfl) ?_
      refine lv_sipush (v := 153) hx hb dX12_dateOf_38 (by decide) ?_
      refine lv_iload_n hx hb dX12_dateOf_41 rfl (lv_at hl 0 rfl) ?_
      refine lv_imul hx hb dX12_dateOf_42 ?_
      refine lv_iconst (v := 2) hx hb dX12_dateOf_43 (by decide) ?_
      refine lv_iadd hx hb dX12_dateOf_44 ?_
      refine lv_iconst (v := 5) hx hb dX12_dateOf_45 (by decide) ?_
      refine lv_idiv hx hb dX12_dateOf_46 (by decide) ?_
      refine lv_isub hx hb dX12_dateOf_47 ?_
      refine lv_iconst (v := 1) hx hb dX12_dateOf_48 (by decide) ?_
      refine lv_iadd hx hb dX12_dateOf_49 ?_
      refine lv_topi (fun x_14 ex_14 => ?_)
      refine lv_istore (lv' := [(4, .int x_14), (3, .int x_13), (2, .int x_12), (1, .int y), (0, .int p0)]) hx hb dX12_dateOf_50 hl (by decide) rfl (fun ls hl => ?_)
      refine lv_iload_n hx hb dX12_dateOf_52 rfl (lv_at hl 1 rfl) ?_
      refine lv_bipush (v := 10) hx hb dX12_dateOf_53 (by decide) ?_
      refine lv_icmp_ge (tgt := 76) hx hb dX12_dateOf_55 (by decide) (fun c_15 => ?_) (fun c_15 => ?_)
      · refine lv_sipush (v := 10000) hx hb dX12_dateOf_76 (by decide) ?_
        refine lv_iload_n hx hb dX12_dateOf_79 rfl (lv_at hl 3 rfl) ?_
        refine lv_iconst (v := 1) hx hb dX12_dateOf_80 (by decide) ?_
        refine lv_iadd hx hb dX12_dateOf_81 ?_
        refine lv_imul hx hb dX12_dateOf_82 ?_
        refine lv_bipush (v := 100) hx hb dX12_dateOf_83 (by decide) ?_
        refine lv_iload_n hx hb dX12_dateOf_85 rfl (lv_at hl 1 rfl) ?_
        refine lv_bipush (v := 9) hx hb dX12_dateOf_86 (by decide) ?_
        refine lv_isub hx hb dX12_dateOf_88 ?_
        refine lv_imul hx hb dX12_dateOf_89 ?_
        refine lv_iadd hx hb dX12_dateOf_90 ?_
        refine lv_iload hx hb dX12_dateOf_91 (lv_at hl 0 rfl) ?_
        refine lv_iadd hx hb dX12_dateOf_93 ?_
        have hpost : (((10000 * (y + 1)) + (100 * (x_13 - 9))) + x_14) = f_X12_dateOf p0 := by subst er_9; subst er_11; subst ex_12; subst ex_13; subst ex_14; exact Eq.trans (if_pos c_15).symm ((congrArg (dateT p0) (if_pos c_10).symm).trans hF)
        have hP9 := hP.sub (ws' := []) [] rfl
        have hD9 := hD.sub (ws' := []) [] (by decide) rfl
        have hK9 := hK.sub (tys' := []) [] rfl
        exact W.iret (v := (((10000 * (y + 1)) + (100 * (x_13 - 9))) + x_14)) hx hb hr (fun t ht hW => ⟨⟨(((10000 * (y + 1)) + (100 * (x_13 - 9))) + x_14), (), rfl, hpost, by rw [ht]; exact hP9, va_K.moved hW.alike hK9, hD9⟩, hS.F ht⟩) hS.2.2 dX12_dateOf_94
      · refine lv_sipush (v := 10000) hx hb dX12_dateOf_58 (by decide) ?_
        refine lv_iload_n hx hb dX12_dateOf_61 rfl (lv_at hl 3 rfl) ?_
        refine lv_imul hx hb dX12_dateOf_62 ?_
        refine lv_bipush (v := 100) hx hb dX12_dateOf_63 (by decide) ?_
        refine lv_iload_n hx hb dX12_dateOf_65 rfl (lv_at hl 1 rfl) ?_
        refine lv_iconst (v := 3) hx hb dX12_dateOf_66 (by decide) ?_
        refine lv_iadd hx hb dX12_dateOf_67 ?_
        refine lv_imul hx hb dX12_dateOf_68 ?_
        refine lv_iadd hx hb dX12_dateOf_69 ?_
        refine lv_iload hx hb dX12_dateOf_70 (lv_at hl 0 rfl) ?_
        refine lv_iadd hx hb dX12_dateOf_72 ?_
        refine lv_goto (tgt := 94) hx hb dX12_dateOf_73 (by decide) ?_
        have hpost : (((10000 * y) + (100 * (x_13 + 3))) + x_14) = f_X12_dateOf p0 := by subst er_9; subst er_11; subst ex_12; subst ex_13; subst ex_14; exact Eq.trans (if_neg c_15).symm ((congrArg (dateT p0) (if_pos c_10).symm).trans hF)
        have hP9 := hP.sub (ws' := []) [] rfl
        have hD9 := hD.sub (ws' := []) [] (by decide) rfl
        have hK9 := hK.sub (tys' := []) [] rfl
        exact W.iret (v := (((10000 * y) + (100 * (x_13 + 3))) + x_14)) hx hb hr (fun t ht hW => ⟨⟨(((10000 * y) + (100 * (x_13 + 3))) + x_14), (), rfl, hpost, by rw [ht]; exact hP9, va_K.moved hW.alike hK9, hD9⟩, hS.F ht⟩) hS.2.2 dX12_dateOf_94
    · obtain ⟨x_16, ex_16⟩ : ∃ zz : Int32, zz = y + (-1) := ⟨_, rfl⟩
      refine lv_iinc (v := x_16) (lv' := [(1, .int x_16), (0, .int p0)]) hx hb dX12_dateOf_14 hl (k := 0) rfl (by rw [ex_16]; rfl) (by decide) rfl (fun ls hl => ?_)
      refine lv_goto (tgt := 6) hx hb dX12_dateOf_17 (by decide) ?_
      exact ih (ls := ls) (y := x_16) (hG := (by subst er_9; subst ex_16; exact hG c_10)) (hF := (by subst er_9; subst ex_16; exact (congrArg (dateT p0) (if_neg c_10).symm).trans hF)) (hl := lv_sub hl [0, 1] rfl) (H := H) (locs := locs) (hP := hP.sub [] rfl) (hS := hS)
