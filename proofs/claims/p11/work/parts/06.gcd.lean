theorem in01 (a b c : Int32) : f_X12_in a b c = 0 ∨ f_X12_in a b c = 1 := by
  unfold f_X12_in
  split
  · exact Or.inl rfl
  · split
    · exact Or.inl rfl
    · exact Or.inr rfl
theorem in_none (a : Int32) : f_X12_in a 0 (-1) = 0 := by
  unfold f_X12_in
  split
  · rfl
  · rename_i h
    split
    · rfl
    · rename_i h2
      exact absurd (Int32.lt_of_lt_of_le (by decide : (-1 : Int32) < 0) (Int32.not_lt.mp h)) h2
/-- the greatest common divisor by remainders, n steps at most -/
def gcdN : Nat → Int64 → Int64 → Int64
  | 0, x, _ => x
  | n + 1, x, y => if lg_cmp y 0 = 0 then x else gcdN n y (x - x / y * y)
/-- it ends within n steps -/
def gcdS : Nat → Int64 → Int64 → Prop
  | 0, _, y => lg_cmp y 0 = 0
  | n + 1, x, y => ¬ lg_cmp y 0 = 0 → gcdS n y (x - x / y * y)
def absL (a : Int64) : Int64 := if 0 ≤ lg_cmp a 0 then a else -a
def f_X6_commonDivisor (p0 : Int64) (p1 : Int64) : Int64 :=
  gcdN 200 p0 p1
set_option maxHeartbeats 4000000 in
set_option maxRecDepth 100000 in
theorem k_X6_commonDivisor (l : Launch) (dC : Nat → ClassId) (dI : Nat → Nat → Nat) (sz : Nat) (p0 : Int64) (p1 : Int64) : Met l yX6_commonDivisor wsX6_commonDivisor ({ frames := 0, cells := 0, slots := 0, locals := 0 }) (va_Pc [.long p0, .long p1] (fun U => U.heap.size = sz ∧ va_P (dC, dI) vwCl [] U.heap ∧ va_K (dC, dI) vwCl [] U ∧ va_D (fun _ => True) [])) (va_Ql (fun (r : Int64) (_ : Unit) => r = f_X6_commonDivisor p0 p1) (fun _ t => va_P (dC, dI) vwCl [] t.heap ∧ va_K (dC, dI) vwCl [] t ∧ va_D (va_A [] sz) []) (va_A [] sz)) 0 0 (va_A [] sz) := by
  refine Met.ofW (cc := cX6_commonDivisor) (maxL := 11) (ret := (some .long)) (by decide) rfl ?_
  intro p e s m args below meth c s₁ B hml hv
  obtain ⟨rfl, hsz, hP, hK, hD0⟩ := hv
  have hx := B.exec
  have hb := B.bytes
  have hr := B.returns
  have hts := atoms_spec (ws := wsX6_commonDivisor) B.pre
  have hown : s.vm.findClass RX6 = some m.cls := findClass_of_methodNamed B.named
  have hlocks := B.notSynchronized
  subst hsz
  have hD := hD0.self (sz := s.heap.size)
  generalize hAe : va_A [] s.heap.size = A at hD ⊢
  have hA : ∀ q : Nat, s.heap.size ≤ q → A q := fun q h => by rw [← hAe]; exact Or.inr h
  have hS : va_S A s.heap s.heap [] := va_S.rf
  have hP : va_P (dC, dI) vwCl [] s.heap := hP
  have hl := lv_entry ([.long p0, .long p1]) (n := 11) (Nat.le_of_ble_eq_true rfl)
  rw [lg_entry_eq]
  generalize (lg_sl ([.long p0, .long p1]) ++ List.replicate (11 - (lg_sl ([.long p0, .long p1])).length) Slot.unset).toArray = ls at hl ⊢
  have hl : lv_has ls 11 [(0, .long p0), (2, .long p1)] := hl
  refine lv_lload_n hx hb dX6_commonDivisor_0 rfl (lv_at hl 0 rfl) ?_
  refine lv_lstore (lv' := [(4, .long p0), (0, .long p0), (2, .long p1)]) hx hb dX6_commonDivisor_1 hl (by decide) rfl (fun ls hl => ?_)
  refine lv_lload_n hx hb dX6_commonDivisor_3 rfl (lv_at hl 2 rfl) ?_
  refine lv_lstore (lv' := [(6, .long p1), (4, .long p0), (0, .long p0), (2, .long p1)]) hx hb dX6_commonDivisor_4 hl (by decide) rfl (fun ls hl => ?_)
  refine lv_iconst (v := 0) hx hb dX6_commonDivisor_6 (by decide) ?_
  refine lv_istore (lv' := [(8, .int 0), (6, .long p1), (4, .long p0), (0, .long p0), (2, .long p1)]) hx hb dX6_commonDivisor_7 hl (by decide) rfl (fun ls hl => ?_)
  obtain ⟨i, ei⟩ : ∃ z : Int32, z = 0 := ⟨_, rfl⟩
  obtain ⟨y, ey⟩ : ∃ z : Int64, z = p1 := ⟨_, rfl⟩
  obtain ⟨x, ex⟩ : ∃ z : Int64, z = p0 := ⟨_, rfl⟩
  replace hl : lv_has ls 11 [(8, .int i), (6, .long y), (4, .long x), (0, .long p0), (2, .long p1)] := by rw [ex, ey, ei]; exact hl
  obtain ⟨k, ek⟩ : ∃ z : Nat, z = 200 := ⟨_, rfl⟩
  obtain ⟨j, ej⟩ : ∃ z : Nat, z = 0 := ⟨_, rfl⟩
  have hi : i = nI j := by rw [ei, ej]; rfl
  have hj : j + k = 200 := by rw [ek, ej]
  have hF : gcdN k x y = f_X6_commonDivisor p0 p1 := by rw [ek, ex, ey]; rfl
  clear ek ej ex ey ei
  induction k generalizing x y i j ls with
  | zero =>
    refine lv_iload hx hb dX6_commonDivisor_9 (lv_at hl 0 rfl) ?_
    refine lv_sipush (v := 200) hx hb dX6_commonDivisor_11 (by decide) ?_
    refine lv_icmp_ge (tgt := 45) hx hb dX6_commonDivisor_14 (by decide) (fun c_1 => ?_) (fun c_1 => ?_)
    · refine lv_lload hx hb dX6_commonDivisor_45 (lv_at hl 2 rfl) ?_
      have hpost : x = f_X6_commonDivisor p0 p1 := hF
      have hP9 := hP.sub (ws' := []) [] rfl
      have hD9 := hD.sub (ws' := []) [] (by decide) rfl
      have hK9 := hK.sub (tys' := []) [] rfl
      exact W.lret (v := x) hx hb hr (fun t ht hW => ⟨⟨x, (), rfl, hpost, by rw [ht]; exact hP9, va_K.moved hW.alike hK9, hD9⟩, hS.F ht⟩) hS.2.2 dX6_commonDivisor_47
    · exact absurd (by rw [hi, show j = 200 from hj]; decide) c_1
  | succ k ih =>
    refine lv_iload hx hb dX6_commonDivisor_9 (lv_at hl 0 rfl) ?_
    refine lv_sipush (v := 200) hx hb dX6_commonDivisor_11 (by decide) ?_
    refine lv_icmp_ge (tgt := 45) hx hb dX6_commonDivisor_14 (by decide) (fun c_2 => ?_) (fun c_2 => ?_)
    · exact absurd c_2 (by rw [hi]; exact nI_ge (b := 200) (by omega) (by decide))
    · refine lv_lload hx hb dX6_commonDivisor_17 (lv_at hl 1 rfl) ?_
      refine lv_lconst (v := 0) hx hb dX6_commonDivisor_19 (by decide) ?_
      refine W.lcmp hx hb dX6_commonDivisor_20 ?_
      refine lv_if_eq (tgt := 45) hx hb dX6_commonDivisor_21 (by decide) (fun c_3 => ?_) (fun c_3 => ?_)
      · refine lv_lload hx hb dX6_commonDivisor_45 (lv_at hl 2 rfl) ?_
        have hpost : x = f_X6_commonDivisor p0 p1 := (if_pos c_3).symm.trans hF
        have hP9 := hP.sub (ws' := []) [] rfl
        have hD9 := hD.sub (ws' := []) [] (by decide) rfl
        have hK9 := hK.sub (tys' := []) [] rfl
        exact W.lret (v := x) hx hb hr (fun t ht hW => ⟨⟨x, (), rfl, hpost, by rw [ht]; exact hP9, va_K.moved hW.alike hK9, hD9⟩, hS.F ht⟩) hS.2.2 dX6_commonDivisor_47
      · refine lv_lload hx hb dX6_commonDivisor_24 (lv_at hl 2 rfl) ?_
        refine lv_lload hx hb dX6_commonDivisor_26 (lv_at hl 1 rfl) ?_
        refine lv_lrem hx hb dX6_commonDivisor_28 (fun q => c_3 ((lg_cmp_eq _ _).mpr q)) ?_
        refine lv_topl (fun x_4 ex_4 => ?_)
        refine lv_lstore (lv' := [(9, .long x_4), (8, .int i), (6, .long y), (4, .long x), (0, .long p0), (2, .long p1)]) hx hb dX6_commonDivisor_29 hl (by decide) rfl (fun ls hl => ?_)
        refine lv_lload hx hb dX6_commonDivisor_31 (lv_at hl 2 rfl) ?_
        refine lv_lstore (lv' := [(4, .long y), (9, .long x_4), (8, .int i), (6, .long y), (0, .long p0), (2, .long p1)]) hx hb dX6_commonDivisor_33 hl (by decide) rfl (fun ls hl => ?_)
        refine lv_lload hx hb dX6_commonDivisor_35 (lv_at hl 1 rfl) ?_
        refine lv_lstore (lv' := [(6, .long x_4), (4, .long y), (9, .long x_4), (8, .int i), (0, .long p0), (2, .long p1)]) hx hb dX6_commonDivisor_37 hl (by decide) rfl (fun ls hl => ?_)
        obtain ⟨x_5, ex_5⟩ : ∃ zz : Int32, zz = i + 1 := ⟨_, rfl⟩
        refine lv_iinc (v := x_5) (lv' := [(8, .int x_5), (6, .long x_4), (4, .long y), (9, .long x_4), (0, .long p0), (2, .long p1)]) hx hb dX6_commonDivisor_39 hl (k := 3) rfl (by rw [ex_5]; rfl) (by decide) rfl (fun ls hl => ?_)
        refine lv_goto (tgt := 9) hx hb dX6_commonDivisor_42 (by decide) ?_
        exact ih (ls := ls) (x := y) (y := x_4) (i := x_5) (j := j + 1) (hi := (by rw [ex_5, hi]; exact nI_1 j)) (hj := (by omega)) (hF := (by rw [ex_4]; exact (if_neg c_3).symm.trans hF)) (hl := lv_sub hl [0, 1, 2, 4, 5] rfl)
def f_X12_common (p0 : Int64) (p1 : Int64) : Int64 :=
  if 0 ≤ (lg_cmp p0 0) then
    gcdN 200 p0 p1
  else
    let x_5 : Int64 := (-p0)
    gcdN 200 x_5 p1
set_option maxHeartbeats 4000000 in
set_option maxRecDepth 100000 in
theorem k_X12_common (l : Launch) (dC : Nat → ClassId) (dI : Nat → Nat → Nat) (sz : Nat) (p0 : Int64) (p1 : Int64) (hg : gcdS 200 (absL p0) p1) : Met l yX12_common wsX12_common ({ frames := 0, cells := 0, slots := 0, locals := 0 }) (va_Pc [.long p0, .long p1] (fun U => U.heap.size = sz ∧ va_P (dC, dI) vwCl [] U.heap ∧ va_K (dC, dI) vwCl [] U ∧ va_D (fun _ => True) [])) (va_Ql (fun (r : Int64) (_ : Unit) => r = f_X12_common p0 p1) (fun _ t => va_P (dC, dI) vwCl [] t.heap ∧ va_K (dC, dI) vwCl [] t ∧ va_D (va_A [] sz) []) (va_A [] sz)) 0 0 (va_A [] sz) := by
  refine Met.ofW (cc := cX12_common) (maxL := 10) (ret := (some .long)) (by decide) rfl ?_
  intro p e s m args below meth c s₁ B hml hv
  obtain ⟨rfl, hsz, hP, hK, hD0⟩ := hv
  have hx := B.exec
  have hb := B.bytes
  have hr := B.returns
  have hts := atoms_spec (ws := wsX12_common) B.pre
  have hown : s.vm.findClass RX12 = some m.cls := findClass_of_methodNamed B.named
  have hlocks := B.notSynchronized
  subst hsz
  have hD := hD0.self (sz := s.heap.size)
  generalize hAe : va_A [] s.heap.size = A at hD ⊢
  have hA : ∀ q : Nat, s.heap.size ≤ q → A q := fun q h => by rw [← hAe]; exact Or.inr h
  have hS : va_S A s.heap s.heap [] := va_S.rf
  have hP : va_P (dC, dI) vwCl [] s.heap := hP
  have hl := lv_entry ([.long p0, .long p1]) (n := 10) (Nat.le_of_ble_eq_true rfl)
  rw [lg_entry_eq]
  generalize (lg_sl ([.long p0, .long p1]) ++ List.replicate (10 - (lg_sl ([.long p0, .long p1])).length) Slot.unset).toArray = ls at hl ⊢
  have hl : lv_has ls 10 [(0, .long p0), (2, .long p1)] := hl
  refine lv_lload_n hx hb dX12_common_0 rfl (lv_at hl 0 rfl) ?_
  refine lv_lconst (v := 0) hx hb dX12_common_1 (by decide) ?_
  refine W.lcmp hx hb dX12_common_2 ?_
  refine lv_if_ge (tgt := 11) hx hb dX12_common_3 (by decide) (fun c_1 => ?_) (fun c_1 => ?_)
  · refine lv_lload_n hx hb dX12_common_11 rfl (lv_at hl 0 rfl) ?_
    refine lv_lstore (lv' := [(4, .long p0), (0, .long p0), (2, .long p1)]) hx hb dX12_common_12 hl (by decide) rfl (fun ls hl => ?_)
    refine lv_lload_n hx hb dX12_common_14 rfl (lv_at hl 2 rfl) ?_
    refine lv_lstore (lv' := [(6, .long p1), (4, .long p0), (0, .long p0), (2, .long p1)]) hx hb dX12_common_15 hl (by decide) rfl (fun ls hl => ?_)
    obtain ⟨y, ey⟩ : ∃ z : Int64, z = p1 := ⟨_, rfl⟩
    obtain ⟨x, ex⟩ : ∃ z : Int64, z = p0 := ⟨_, rfl⟩
    replace hl : lv_has ls 10 [(6, .long y), (4, .long x), (0, .long p0), (2, .long p1)] := by rw [ex, ey]; exact hl
    obtain ⟨k, ek⟩ : ∃ z : Nat, z = 200 := ⟨_, rfl⟩
    have hF : gcdN k x y = f_X12_common p0 p1 := by rw [ek, ex, ey]; refine Eq.symm ?_; refine (if_pos c_1).trans ?_; rfl
    have hG : gcdS k x y := by rw [ek, ex, ey]; exact (by have h9 := hg; unfold absL at h9; rw [if_pos c_1] at h9; exact h9)
    clear ek ex ey
    induction k generalizing x y ls with
    | zero =>
      refine lv_lload hx hb dX12_common_17 (lv_at hl 0 rfl) ?_
      refine lv_lconst (v := 0) hx hb dX12_common_19 (by decide) ?_
      refine W.lcmp hx hb dX12_common_20 ?_
      refine lv_if_eq (tgt := 42) hx hb dX12_common_21 (by decide) (fun c_2 => ?_) (fun c_2 => ?_)
      · refine lv_lload hx hb dX12_common_42 (lv_at hl 1 rfl) ?_
        have hpost : x = f_X12_common p0 p1 := hF
        have hP9 := hP.sub (ws' := []) [] rfl
        have hD9 := hD.sub (ws' := []) [] (by decide) rfl
        have hK9 := hK.sub (tys' := []) [] rfl
        exact W.lret (v := x) hx hb hr (fun t ht hW => ⟨⟨x, (), rfl, hpost, by rw [ht]; exact hP9, va_K.moved hW.alike hK9, hD9⟩, hS.F ht⟩) hS.2.2 dX12_common_44
      · exact absurd hG c_2
    | succ k ih =>
      refine lv_lload hx hb dX12_common_17 (lv_at hl 0 rfl) ?_
      refine lv_lconst (v := 0) hx hb dX12_common_19 (by decide) ?_
      refine W.lcmp hx hb dX12_common_20 ?_
      refine lv_if_eq (tgt := 42) hx hb dX12_common_21 (by decide) (fun c_3 => ?_) (fun c_3 => ?_)
      · refine lv_lload hx hb dX12_common_42 (lv_at hl 1 rfl) ?_
        have hpost : x = f_X12_common p0 p1 := (if_pos c_3).symm.trans hF
        have hP9 := hP.sub (ws' := []) [] rfl
        have hD9 := hD.sub (ws' := []) [] (by decide) rfl
        have hK9 := hK.sub (tys' := []) [] rfl
        exact W.lret (v := x) hx hb hr (fun t ht hW => ⟨⟨x, (), rfl, hpost, by rw [ht]; exact hP9, va_K.moved hW.alike hK9, hD9⟩, hS.F ht⟩) hS.2.2 dX12_common_44
      · refine lv_lload hx hb dX12_common_24 (lv_at hl 1 rfl) ?_
        refine lv_lload hx hb dX12_common_26 (lv_at hl 0 rfl) ?_
        refine lv_lrem hx hb dX12_common_28 (fun q => c_3 ((lg_cmp_eq _ _).mpr q)) ?_
        refine lv_topl (fun x_4 ex_4 => ?_)
        refine lv_lstore (lv' := [(8, .long x_4), (6, .long y), (4, .long x), (0, .long p0), (2, .long p1)]) hx hb dX12_common_29 hl (by decide) rfl (fun ls hl => ?_)
        refine lv_lload hx hb dX12_common_31 (lv_at hl 1 rfl) ?_
        refine lv_lstore (lv' := [(4, .long y), (8, .long x_4), (6, .long y), (0, .long p0), (2, .long p1)]) hx hb dX12_common_33 hl (by decide) rfl (fun ls hl => ?_)
        refine lv_lload hx hb dX12_common_35 (lv_at hl 1 rfl) ?_
        refine lv_lstore (lv' := [(6, .long x_4), (4, .long y), (8, .long x_4), (0, .long p0), (2, .long p1)]) hx hb dX12_common_37 hl (by decide) rfl (fun ls hl => ?_)
        refine lv_goto (tgt := 17) hx hb dX12_common_39 (by decide) ?_
        exact ih (ls := ls) (x := y) (y := x_4) (hG := (by rw [ex_4]; exact hG c_3)) (hF := (by rw [ex_4]; exact (if_neg c_3).symm.trans hF)) (hl := lv_sub hl [0, 1, 3, 4] rfl)
  · refine lv_lload_n hx hb dX12_common_6 rfl (lv_at hl 0 rfl) ?_
    refine lv_lneg hx hb dX12_common_7 ?_
    refine lv_goto (tgt := 12) hx hb dX12_common_8 (by decide) ?_
    refine lv_topl (fun x_5 ex_5 => ?_)
    refine lv_lstore (lv' := [(4, .long x_5), (0, .long p0), (2, .long p1)]) hx hb dX12_common_12 hl (by decide) rfl (fun ls hl => ?_)
    refine lv_lload_n hx hb dX12_common_14 rfl (lv_at hl 2 rfl) ?_
    refine lv_lstore (lv' := [(6, .long p1), (4, .long x_5), (0, .long p0), (2, .long p1)]) hx hb dX12_common_15 hl (by decide) rfl (fun ls hl => ?_)
    obtain ⟨y, ey⟩ : ∃ z : Int64, z = p1 := ⟨_, rfl⟩
    obtain ⟨x, ex⟩ : ∃ z : Int64, z = x_5 := ⟨_, rfl⟩
    replace hl : lv_has ls 10 [(6, .long y), (4, .long x), (0, .long p0), (2, .long p1)] := by rw [ex, ey]; exact hl
    obtain ⟨k, ek⟩ : ∃ z : Nat, z = 200 := ⟨_, rfl⟩
    have hF : gcdN k x y = f_X12_common p0 p1 := by rw [ek, ex, ey, ex_5]; refine Eq.symm ?_; refine (if_neg c_1).trans ?_; rfl
    have hG : gcdS k x y := by rw [ek, ex, ey, ex_5]; exact (by have h9 := hg; unfold absL at h9; rw [if_neg c_1] at h9; exact h9)
    clear ek ex ey
    induction k generalizing x y ls with
    | zero =>
      refine lv_lload hx hb dX12_common_17 (lv_at hl 0 rfl) ?_
      refine lv_lconst (v := 0) hx hb dX12_common_19 (by decide) ?_
      refine W.lcmp hx hb dX12_common_20 ?_
      refine lv_if_eq (tgt := 42) hx hb dX12_common_21 (by decide) (fun c_6 => ?_) (fun c_6 => ?_)
      · refine lv_lload hx hb dX12_common_42 (lv_at hl 1 rfl) ?_
        have hpost : x = f_X12_common p0 p1 := hF
        have hP9 := hP.sub (ws' := []) [] rfl
        have hD9 := hD.sub (ws' := []) [] (by decide) rfl
        have hK9 := hK.sub (tys' := []) [] rfl
        exact W.lret (v := x) hx hb hr (fun t ht hW => ⟨⟨x, (), rfl, hpost, by rw [ht]; exact hP9, va_K.moved hW.alike hK9, hD9⟩, hS.F ht⟩) hS.2.2 dX12_common_44
      · exact absurd hG c_6
    | succ k ih =>
      refine lv_lload hx hb dX12_common_17 (lv_at hl 0 rfl) ?_
      refine lv_lconst (v := 0) hx hb dX12_common_19 (by decide) ?_
      refine W.lcmp hx hb dX12_common_20 ?_
      refine lv_if_eq (tgt := 42) hx hb dX12_common_21 (by decide) (fun c_7 => ?_) (fun c_7 => ?_)
      · refine lv_lload hx hb dX12_common_42 (lv_at hl 1 rfl) ?_
        have hpost : x = f_X12_common p0 p1 := (if_pos c_7).symm.trans hF
        have hP9 := hP.sub (ws' := []) [] rfl
        have hD9 := hD.sub (ws' := []) [] (by decide) rfl
        have hK9 := hK.sub (tys' := []) [] rfl
        exact W.lret (v := x) hx hb hr (fun t ht hW => ⟨⟨x, (), rfl, hpost, by rw [ht]; exact hP9, va_K.moved hW.alike hK9, hD9⟩, hS.F ht⟩) hS.2.2 dX12_common_44
      · refine lv_lload hx hb dX12_common_24 (lv_at hl 1 rfl) ?_
        refine lv_lload hx hb dX12_common_26 (lv_at hl 0 rfl) ?_
        refine lv_lrem hx hb dX12_common_28 (fun q => c_7 ((lg_cmp_eq _ _).mpr q)) ?_
        refine lv_topl (fun x_8 ex_8 => ?_)
        refine lv_lstore (lv' := [(8, .long x_8), (6, .long y), (4, .long x), (0, .long p0), (2, .long p1)]) hx hb dX12_common_29 hl (by decide) rfl (fun ls hl => ?_)
        refine lv_lload hx hb dX12_common_31 (lv_at hl 1 rfl) ?_
        refine lv_lstore (lv' := [(4, .long y), (8, .long x_8), (6, .long y), (0, .long p0), (2, .long p1)]) hx hb dX12_common_33 hl (by decide) rfl (fun ls hl => ?_)
        refine lv_lload hx hb dX12_common_35 (lv_at hl 1 rfl) ?_
        refine lv_lstore (lv' := [(6, .long x_8), (4, .long y), (8, .long x_8), (0, .long p0), (2, .long p1)]) hx hb dX12_common_37 hl (by decide) rfl (fun ls hl => ?_)
        refine lv_goto (tgt := 17) hx hb dX12_common_39 (by decide) ?_
        exact ih (ls := ls) (x := y) (y := x_8) (hG := (by rw [ex_8]; exact hG c_7)) (hF := (by rw [ex_8]; exact (if_neg c_7).symm.trans hF)) (hl := lv_sub hl [0, 1, 3, 4] rfl)
def f_X6_thirtyDays (p0 : Int32) (p1 : Int32) (p2 : Int32) : Int32 :=
  let x_1 : Int32 := (if 30 < (p1 - p1 / 100 * 100) then 30 else (p1 - p1 / 100 * 100))
  let x_2 : Int32 := (p2 - p2 / 100 * 100)
  if x_2 = 31 then
    if p0 = 1 then
      let x_7 : Int32 := ((p2 / 10000) - (p1 / 10000))
      let x_8 : Int32 := (((p2 / 100) - (p2 / 100) / 100 * 100) - ((p1 / 100) - (p1 / 100) / 100 * 100))
      ((((360 * x_7) + (30 * x_8)) + 30) - x_1)
    else
      if x_1 = 30 then
        let x_12 : Int32 := ((p2 / 10000) - (p1 / 10000))
        let x_13 : Int32 := (((p2 / 100) - (p2 / 100) / 100 * 100) - ((p1 / 100) - (p1 / 100) / 100 * 100))
        ((((360 * x_12) + (30 * x_13)) + 30) - x_1)
      else
        let x_10 : Int32 := ((p2 / 10000) - (p1 / 10000))
        let x_11 : Int32 := (((p2 / 100) - (p2 / 100) / 100 * 100) - ((p1 / 100) - (p1 / 100) / 100 * 100))
        ((((360 * x_10) + (30 * x_11)) + x_2) - x_1)
  else
    let x_4 : Int32 := ((p2 / 10000) - (p1 / 10000))
    let x_5 : Int32 := (((p2 / 100) - (p2 / 100) / 100 * 100) - ((p1 / 100) - (p1 / 100) / 100 * 100))
    ((((360 * x_4) + (30 * x_5)) + x_2) - x_1)
set_option maxHeartbeats 4000000 in
set_option maxRecDepth 100000 in
theorem k_X6_thirtyDays (l : Launch) (dC : Nat → ClassId) (dI : Nat → Nat → Nat) (sz : Nat) (p0 : Int32) (p1 : Int32) (p2 : Int32) : Met l yX6_thirtyDays wsX6_thirtyDays ({ frames := 1, cells := 0, slots := 0, locals := 21 }) (va_Pc [.int p0, .int p1, .int p2] (fun U => U.heap.size = sz ∧ va_P (dC, dI) vwCl [] U.heap ∧ va_K (dC, dI) vwCl [] U ∧ va_D (fun _ => True) [])) (va_Qi (fun (r : Int32) (_ : Unit) => r = f_X6_thirtyDays p0 p1 p2) (fun _ t => va_P (dC, dI) vwCl [] t.heap ∧ va_K (dC, dI) vwCl [] t ∧ va_D (va_A [] sz) []) (va_A [] sz)) 0 0 (va_A [] sz) := by
  refine Met.ofW (cc := cX6_thirtyDays) (maxL := 7) (ret := (some .int)) (by decide) rfl ?_
  intro p e s m args below meth c s₁ B hml hv
  obtain ⟨rfl, hsz, hP, hK, hD0⟩ := hv
  have hx := B.exec
  have hb := B.bytes
  have hr := B.returns
  have hts := atoms_spec (ws := wsX6_thirtyDays) B.pre
  have hown : s.vm.findClass RX6 = some m.cls := findClass_of_methodNamed B.named
  have hlocks := B.notSynchronized
  subst hsz
  have hD := hD0.self (sz := s.heap.size)
  generalize hAe : va_A [] s.heap.size = A at hD ⊢
  have hA : ∀ q : Nat, s.heap.size ≤ q → A q := fun q h => by rw [← hAe]; exact Or.inr h
  have hS : va_S A s.heap s.heap [] := va_S.rf
  have hP : va_P (dC, dI) vwCl [] s.heap := hP
  have hl := lv_entry ([.int p0, .int p1, .int p2]) (n := 7) (Nat.le_of_ble_eq_true rfl)
  rw [lg_entry_eq]
  generalize (lg_sl ([.int p0, .int p1, .int p2]) ++ List.replicate (7 - (lg_sl ([.int p0, .int p1, .int p2])).length) Slot.unset).toArray = ls at hl ⊢
  have hl : lv_has ls 7 [(0, .int p0), (1, .int p1), (2, .int p2)] := hl
  refine lv_iload_n hx hb dX6_thirtyDays_0 rfl (lv_at hl 1 rfl) ?_
  refine lv_bipush (v := 100) hx hb dX6_thirtyDays_1 (by decide) ?_
  refine lv_irem hx hb dX6_thirtyDays_3 (by decide) ?_
  refine lv_bipush (v := 30) hx hb dX6_thirtyDays_4 (by decide) ?_
  refine va_mmin hx hb (hml.trans hl.1.symm) hown (hts (.methodLink RX6 40 Lib.Math.min.name) (by decide +kernel)) (hts (.static Lib.Math.min.name) (by decide +kernel)) (hts (.initialized "java/lang/Math") (by decide +kernel)) (hts (.code Lib.Math.min.name Lib.Math.min.code 2 (some .int)) (by decide +kernel)) (Nat.le_of_ble_eq_true rfl) (Nat.le_of_ble_eq_true rfl) (Nat.zero_le _) (Nat.zero_le _) dX6_thirtyDays_6 ?_
  refine lv_topi (fun x_1 ex_1 => ?_)
  refine lv_istore_n (lv' := [(3, .int x_1), (0, .int p0), (1, .int p1), (2, .int p2)]) hx hb dX6_thirtyDays_9 rfl hl (by decide) rfl (fun ls hl => ?_)
  refine lv_iload_n hx hb dX6_thirtyDays_10 rfl (lv_at hl 3 rfl) ?_
  refine lv_bipush (v := 100) hx hb dX6_thirtyDays_11 (by decide) ?_
  refine lv_irem hx hb dX6_thirtyDays_13 (by decide) ?_
  refine lv_topi (fun x_2 ex_2 => ?_)
  refine lv_istore (lv' := [(4, .int x_2), (3, .int x_1), (0, .int p0), (1, .int p1), (2, .int p2)]) hx hb dX6_thirtyDays_14 hl (by decide) rfl (fun ls hl => ?_)
  refine lv_iload hx hb dX6_thirtyDays_16 (lv_at hl 0 rfl) ?_
  refine lv_bipush (v := 31) hx hb dX6_thirtyDays_18 (by decide) ?_
  refine lv_icmp_ne (tgt := 38) hx hb dX6_thirtyDays_20 (by decide) (fun c_3 => ?_) (fun c_3 => ?_)
  · refine lv_iload_n hx hb dX6_thirtyDays_38 rfl (lv_at hl 4 rfl) ?_
    refine lv_sipush (v := 10000) hx hb dX6_thirtyDays_39 (by decide) ?_
    refine lv_idiv hx hb dX6_thirtyDays_42 (by decide) ?_
    refine lv_iload_n hx hb dX6_thirtyDays_43 rfl (lv_at hl 3 rfl) ?_
    refine lv_sipush (v := 10000) hx hb dX6_thirtyDays_44 (by decide) ?_
    refine lv_idiv hx hb dX6_thirtyDays_47 (by decide) ?_
    refine lv_isub hx hb dX6_thirtyDays_48 ?_
    refine lv_topi (fun x_4 ex_4 => ?_)
    refine lv_istore (lv' := [(5, .int x_4), (4, .int x_2), (3, .int x_1), (0, .int p0), (1, .int p1), (2, .int p2)]) hx hb dX6_thirtyDays_49 hl (by decide) rfl (fun ls hl => ?_)
    refine lv_iload_n hx hb dX6_thirtyDays_51 rfl (lv_at hl 5 rfl) ?_
    refine lv_bipush (v := 100) hx hb dX6_thirtyDays_52 (by decide) ?_
    refine lv_idiv hx hb dX6_thirtyDays_54 (by decide) ?_
    refine lv_bipush (v := 100) hx hb dX6_thirtyDays_55 (by decide) ?_
    refine lv_irem hx hb dX6_thirtyDays_57 (by decide) ?_
    refine lv_iload_n hx hb dX6_thirtyDays_58 rfl (lv_at hl 4 rfl) ?_
    refine lv_bipush (v := 100) hx hb dX6_thirtyDays_59 (by decide) ?_
    refine lv_idiv hx hb dX6_thirtyDays_61 (by decide) ?_
    refine lv_bipush (v := 100) hx hb dX6_thirtyDays_62 (by decide) ?_
    refine lv_irem hx hb dX6_thirtyDays_64 (by decide) ?_
    refine lv_isub hx hb dX6_thirtyDays_65 ?_
    refine lv_topi (fun x_5 ex_5 => ?_)
    refine lv_istore (lv' := [(6, .int x_5), (5, .int x_4), (4, .int x_2), (3, .int x_1), (0, .int p0), (1, .int p1), (2, .int p2)]) hx hb dX6_thirtyDays_66 hl (by decide) rfl (fun ls hl => ?_)
    refine lv_sipush (v := 360) hx hb dX6_thirtyDays_68 (by decide) ?_
    refine lv_iload hx hb dX6_thirtyDays_71 (lv_at hl 1 rfl) ?_
    refine lv_imul hx hb dX6_thirtyDays_73 ?_
    refine lv_bipush (v := 30) hx hb dX6_thirtyDays_74 (by decide) ?_
    refine lv_iload hx hb dX6_thirtyDays_76 (lv_at hl 0 rfl) ?_
    refine lv_imul hx hb dX6_thirtyDays_78 ?_
    refine lv_iadd hx hb dX6_thirtyDays_79 ?_
    refine lv_iload hx hb dX6_thirtyDays_80 (lv_at hl 2 rfl) ?_
    refine lv_iadd hx hb dX6_thirtyDays_82 ?_
    refine lv_iload_n hx hb dX6_thirtyDays_83 rfl (lv_at hl 3 rfl) ?_
    refine lv_isub hx hb dX6_thirtyDays_84 ?_
    have hpost : ((((360 * x_4) + (30 * x_5)) + x_2) - x_1) = f_X6_thirtyDays p0 p1 p2 := by subst ex_1 ex_2 ex_4 ex_5; refine Eq.symm ?_; refine (if_neg c_3).trans ?_; rfl
    have hP9 := hP.sub (ws' := []) [] rfl
    have hD9 := hD.sub (ws' := []) [] (by decide) rfl
    have hK9 := hK.sub (tys' := []) [] rfl
    exact W.iret (v := ((((360 * x_4) + (30 * x_5)) + x_2) - x_1)) hx hb hr (fun t ht hW => ⟨⟨((((360 * x_4) + (30 * x_5)) + x_2) - x_1), (), rfl, hpost, by rw [ht]; exact hP9, va_K.moved hW.alike hK9, hD9⟩, hS.F ht⟩) hS.2.2 dX6_thirtyDays_85
  · refine lv_iload_n hx hb dX6_thirtyDays_23 rfl (lv_at hl 2 rfl) ?_
    refine lv_iconst (v := 1) hx hb dX6_thirtyDays_24 (by decide) ?_
    refine lv_icmp_eq (tgt := 34) hx hb dX6_thirtyDays_25 (by decide) (fun c_6 => ?_) (fun c_6 => ?_)
    · refine lv_bipush (v := 30) hx hb dX6_thirtyDays_34 (by decide) ?_
      refine lv_istore (lv' := [(4, .int 30), (3, .int x_1), (0, .int p0), (1, .int p1), (2, .int p2)]) hx hb dX6_thirtyDays_36 hl (by decide) rfl (fun ls hl => ?_)
      refine lv_iload_n hx hb dX6_thirtyDays_38 rfl (lv_at hl 4 rfl) ?_
      refine lv_sipush (v := 10000) hx hb dX6_thirtyDays_39 (by decide) ?_
      refine lv_idiv hx hb dX6_thirtyDays_42 (by decide) ?_
      refine lv_iload_n hx hb dX6_thirtyDays_43 rfl (lv_at hl 3 rfl) ?_
      refine lv_sipush (v := 10000) hx hb dX6_thirtyDays_44 (by decide) ?_
      refine lv_idiv hx hb dX6_thirtyDays_47 (by decide) ?_
      refine lv_isub hx hb dX6_thirtyDays_48 ?_
      refine lv_topi (fun x_7 ex_7 => ?_)
      refine lv_istore (lv' := [(5, .int x_7), (4, .int 30), (3, .int x_1), (0, .int p0), (1, .int p1), (2, .int p2)]) hx hb dX6_thirtyDays_49 hl (by decide) rfl (fun ls hl => ?_)
      refine lv_iload_n hx hb dX6_thirtyDays_51 rfl (lv_at hl 5 rfl) ?_
      refine lv_bipush (v := 100) hx hb dX6_thirtyDays_52 (by decide) ?_
      refine lv_idiv hx hb dX6_thirtyDays_54 (by decide) ?_
      refine lv_bipush (v := 100) hx hb dX6_thirtyDays_55 (by decide) ?_
      refine lv_irem hx hb dX6_thirtyDays_57 (by decide) ?_
      refine lv_iload_n hx hb dX6_thirtyDays_58 rfl (lv_at hl 4 rfl) ?_
      refine lv_bipush (v := 100) hx hb dX6_thirtyDays_59 (by decide) ?_
      refine lv_idiv hx hb dX6_thirtyDays_61 (by decide) ?_
      refine lv_bipush (v := 100) hx hb dX6_thirtyDays_62 (by decide) ?_
      refine lv_irem hx hb dX6_thirtyDays_64 (by decide) ?_
      refine lv_isub hx hb dX6_thirtyDays_65 ?_
      refine lv_topi (fun x_8 ex_8 => ?_)
      refine lv_istore (lv' := [(6, .int x_8), (5, .int x_7), (4, .int 30), (3, .int x_1), (0, .int p0), (1, .int p1), (2, .int p2)]) hx hb dX6_thirtyDays_66 hl (by decide) rfl (fun ls hl => ?_)
      refine lv_sipush (v := 360) hx hb dX6_thirtyDays_68 (by decide) ?_
      refine lv_iload hx hb dX6_thirtyDays_71 (lv_at hl 1 rfl) ?_
      refine lv_imul hx hb dX6_thirtyDays_73 ?_
      refine lv_bipush (v := 30) hx hb dX6_thirtyDays_74 (by decide) ?_
      refine lv_iload hx hb dX6_thirtyDays_76 (lv_at hl 0 rfl) ?_
      refine lv_imul hx hb dX6_thirtyDays_78 ?_
      refine lv_iadd hx hb dX6_thirtyDays_79 ?_
      refine lv_iload hx hb dX6_thirtyDays_80 (lv_at hl 2 rfl) ?_
      refine lv_iadd hx hb dX6_thirtyDays_82 ?_
      refine lv_iload_n hx hb dX6_thirtyDays_83 rfl (lv_at hl 3 rfl) ?_
      refine lv_isub hx hb dX6_thirtyDays_84 ?_
      have hpost : ((((360 * x_7) + (30 * x_8)) + 30) - x_1) = f_X6_thirtyDays p0 p1 p2 := by subst ex_1 ex_2 ex_7 ex_8; refine Eq.symm ?_; refine (if_pos c_3).trans ?_; refine (if_pos c_6).trans ?_; rfl
      have hP9 := hP.sub (ws' := []) [] rfl
      have hD9 := hD.sub (ws' := []) [] (by decide) rfl
      have hK9 := hK.sub (tys' := []) [] rfl
      exact W.iret (v := ((((360 * x_7) + (30 * x_8)) + 30) - x_1)) hx hb hr (fun t ht hW => ⟨⟨((((360 * x_7) + (30 * x_8)) + 30) - x_1), (), rfl, hpost, by rw [ht]; exact hP9, va_K.moved hW.alike hK9, hD9⟩, hS.F ht⟩) hS.2.2 dX6_thirtyDays_85
    · refine lv_iload_n hx hb dX6_thirtyDays_28 rfl (lv_at hl 1 rfl) ?_
      refine lv_bipush (v := 30) hx hb dX6_thirtyDays_29 (by decide) ?_
      refine lv_icmp_ne (tgt := 38) hx hb dX6_thirtyDays_31 (by decide) (fun c_9 => ?_) (fun c_9 => ?_)
      · refine lv_iload_n hx hb dX6_thirtyDays_38 rfl (lv_at hl 4 rfl) ?_
        refine lv_sipush (v := 10000) hx hb dX6_thirtyDays_39 (by decide) ?_
        refine lv_idiv hx hb dX6_thirtyDays_42 (by decide) ?_
        refine lv_iload_n hx hb dX6_thirtyDays_43 rfl (lv_at hl 3 rfl) ?_
        refine lv_sipush (v := 10000) hx hb dX6_thirtyDays_44 (by decide) ?_
        refine lv_idiv hx hb dX6_thirtyDays_47 (by decide) ?_
        refine lv_isub hx hb dX6_thirtyDays_48 ?_
        refine lv_topi (fun x_10 ex_10 => ?_)
        refine lv_istore (lv' := [(5, .int x_10), (4, .int x_2), (3, .int x_1), (0, .int p0), (1, .int p1), (2, .int p2)]) hx hb dX6_thirtyDays_49 hl (by decide) rfl (fun ls hl => ?_)
        refine lv_iload_n hx hb dX6_thirtyDays_51 rfl (lv_at hl 5 rfl) ?_
        refine lv_bipush (v := 100) hx hb dX6_thirtyDays_52 (by decide) ?_
        refine lv_idiv hx hb dX6_thirtyDays_54 (by decide) ?_
        refine lv_bipush (v := 100) hx hb dX6_thirtyDays_55 (by decide) ?_
        refine lv_irem hx hb dX6_thirtyDays_57 (by decide) ?_
        refine lv_iload_n hx hb dX6_thirtyDays_58 rfl (lv_at hl 4 rfl) ?_
        refine lv_bipush (v := 100) hx hb dX6_thirtyDays_59 (by decide) ?_
        refine lv_idiv hx hb dX6_thirtyDays_61 (by decide) ?_
        refine lv_bipush (v := 100) hx hb dX6_thirtyDays_62 (by decide) ?_
        refine lv_irem hx hb dX6_thirtyDays_64 (by decide) ?_
        refine lv_isub hx hb dX6_thirtyDays_65 ?_
        refine lv_topi (fun x_11 ex_11 => ?_)
        refine lv_istore (lv' := [(6, .int x_11), (5, .int x_10), (4, .int x_2), (3, .int x_1), (0, .int p0), (1, .int p1), (2, .int p2)]) hx hb dX6_thirtyDays_66 hl (by decide) rfl (fun ls hl => ?_)
        refine lv_sipush (v := 360) hx hb dX6_thirtyDays_68 (by decide) ?_
        refine lv_iload hx hb dX6_thirtyDays_71 (lv_at hl 1 rfl) ?_
        refine lv_imul hx hb dX6_thirtyDays_73 ?_
        refine lv_bipush (v := 30) hx hb dX6_thirtyDays_74 (by decide) ?_
        refine lv_iload hx hb dX6_thirtyDays_76 (lv_at hl 0 rfl) ?_
        refine lv_imul hx hb dX6_thirtyDays_78 ?_
        refine lv_iadd hx hb dX6_thirtyDays_79 ?_
        refine lv_iload hx hb dX6_thirtyDays_80 (lv_at hl 2 rfl) ?_
        refine lv_iadd hx hb dX6_thirtyDays_82 ?_
        refine lv_iload_n hx hb dX6_thirtyDays_83 rfl (lv_at hl 3 rfl) ?_
        refine lv_isub hx hb dX6_thirtyDays_84 ?_
        have hpost : ((((360 * x_10) + (30 * x_11)) + x_2) - x_1) = f_X6_thirtyDays p0 p1 p2 := by subst ex_1 ex_2 ex_10 ex_11; refine Eq.symm ?_; refine (if_pos c_3).trans ?_; refine (if_neg c_6).trans ?_; refine (if_neg c_9).trans ?_; rfl
        have hP9 := hP.sub (ws' := []) [] rfl
        have hD9 := hD.sub (ws' := []) [] (by decide) rfl
        have hK9 := hK.sub (tys' := []) [] rfl
        exact W.iret (v := ((((360 * x_10) + (30 * x_11)) + x_2) - x_1)) hx hb hr (fun t ht hW => ⟨⟨((((360 * x_10) + (30 * x_11)) + x_2) - x_1), (), rfl, hpost, by rw [ht]; exact hP9, va_K.moved hW.alike hK9, hD9⟩, hS.F ht⟩) hS.2.2 dX6_thirtyDays_85
      · refine lv_bipush (v := 30) hx hb dX6_thirtyDays_34 (by decide) ?_
        refine lv_istore (lv' := [(4, .int 30), (3, .int x_1), (0, .int p0), (1, .int p1), (2, .int p2)]) hx hb dX6_thirtyDays_36 hl (by decide) rfl (fun ls hl => ?_)
        refine lv_iload_n hx hb dX6_thirtyDays_38 rfl (lv_at hl 4 rfl) ?_
        refine lv_sipush (v := 10000) hx hb dX6_thirtyDays_39 (by decide) ?_
        refine lv_idiv hx hb dX6_thirtyDays_42 (by decide) ?_
        refine lv_iload_n hx hb dX6_thirtyDays_43 rfl (lv_at hl 3 rfl) ?_
        refine lv_sipush (v := 10000) hx hb dX6_thirtyDays_44 (by decide) ?_
        refine lv_idiv hx hb dX6_thirtyDays_47 (by decide) ?_
        refine lv_isub hx hb dX6_thirtyDays_48 ?_
        refine lv_topi (fun x_12 ex_12 => ?_)
        refine lv_istore (lv' := [(5, .int x_12), (4, .int 30), (3, .int x_1), (0, .int p0), (1, .int p1), (2, .int p2)]) hx hb dX6_thirtyDays_49 hl (by decide) rfl (fun ls hl => ?_)
        refine lv_iload_n hx hb dX6_thirtyDays_51 rfl (lv_at hl 5 rfl) ?_
        refine lv_bipush (v := 100) hx hb dX6_thirtyDays_52 (by decide) ?_
        refine lv_idiv hx hb dX6_thirtyDays_54 (by decide) ?_
        refine lv_bipush (v := 100) hx hb dX6_thirtyDays_55 (by decide) ?_
        refine lv_irem hx hb dX6_thirtyDays_57 (by decide) ?_
        refine lv_iload_n hx hb dX6_thirtyDays_58 rfl (lv_at hl 4 rfl) ?_
        refine lv_bipush (v := 100) hx hb dX6_thirtyDays_59 (by decide) ?_
        refine lv_idiv hx hb dX6_thirtyDays_61 (by decide) ?_
        refine lv_bipush (v := 100) hx hb dX6_thirtyDays_62 (by decide) ?_
        refine lv_irem hx hb dX6_thirtyDays_64 (by decide) ?_
        refine lv_isub hx hb dX6_thirtyDays_65 ?_
        refine lv_topi (fun x_13 ex_13 => ?_)
        refine lv_istore (lv' := [(6, .int x_13), (5, .int x_12), (4, .int 30), (3, .int x_1), (0, .int p0), (1, .int p1), (2, .int p2)]) hx hb dX6_thirtyDays_66 hl (by decide) rfl (fun ls hl => ?_)
        refine lv_sipush (v := 360) hx hb dX6_thirtyDays_68 (by decide) ?_
        refine lv_iload hx hb dX6_thirtyDays_71 (lv_at hl 1 rfl) ?_
        refine lv_imul hx hb dX6_thirtyDays_73 ?_
        refine lv_bipush (v := 30) hx hb dX6_thirtyDays_74 (by decide) ?_
        refine lv_iload hx hb dX6_thirtyDays_76 (lv_at hl 0 rfl) ?_
        refine lv_imul hx hb dX6_thirtyDays_78 ?_
        refine lv_iadd hx hb dX6_thirtyDays_79 ?_
        refine lv_iload hx hb dX6_thirtyDays_80 (lv_at hl 2 rfl) ?_
        refine lv_iadd hx hb dX6_thirtyDays_82 ?_
        refine lv_iload_n hx hb dX6_thirtyDays_83 rfl (lv_at hl 3 rfl) ?_
        refine lv_isub hx hb dX6_thirtyDays_84 ?_
        have hpost : ((((360 * x_12) + (30 * x_13)) + 30) - x_1) = f_X6_thirtyDays p0 p1 p2 := by subst ex_1 ex_2 ex_12 ex_13; refine Eq.symm ?_; refine (if_pos c_3).trans ?_; refine (if_neg c_6).trans ?_; refine (if_pos c_9).trans ?_; rfl
        have hP9 := hP.sub (ws' := []) [] rfl
        have hD9 := hD.sub (ws' := []) [] (by decide) rfl
        have hK9 := hK.sub (tys' := []) [] rfl
        exact W.iret (v := ((((360 * x_12) + (30 * x_13)) + 30) - x_1)) hx hb hr (fun t ht hW => ⟨⟨((((360 * x_12) + (30 * x_13)) + 30) - x_1), (), rfl, hpost, by rw [ht]; exact hP9, va_K.moved hW.alike hK9, hD9⟩, hS.F ht⟩) hS.2.2 dX6_thirtyDays_85
theorem nz_a {x : Int64} (h : 0 ≤ lg_cmp x 1) : ¬ x = 0 := fun q => by rw [q] at h; exact absurd h (by decide)
theorem nz_b {x : Int64} (h : ¬ lg_cmp x 1 < 0) : ¬ x = 0 := fun q => by rw [q] at h; exact absurd (by decide) h
