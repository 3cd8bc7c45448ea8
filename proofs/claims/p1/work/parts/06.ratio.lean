/-- the greatest common divisor by remainders, n steps at most -/
def gcdN : Nat → Int64 → Int64 → Int64
  | 0, x, _ => x
  | n + 1, x, y => if lg_cmp y 0 = 0 then x else gcdN n y (x - x / y * y)
/-- it ends within n steps -/
def gcdS : Nat → Int64 → Int64 → Prop
  | 0, _, y => lg_cmp y 0 = 0
  | n + 1, x, y => ¬ lg_cmp y 0 = 0 → gcdS n y (x - x / y * y)
def absL (a : Int64) : Int64 := if 0 ≤ lg_cmp a 0 then a else -a
theorem nz_a {x : Int64} (h : 0 ≤ lg_cmp x 1) : ¬ x = 0 := fun q => by rw [q] at h; exact absurd h (by decide)
theorem nz_b {x : Int64} (h : ¬ lg_cmp x 1 < 0) : ¬ x = 0 := fun q => by rw [q] at h; exact absurd (by decide) h
def f_X6_commonDivisor (p0 : Int64) (p1 : Int64) : Int64 :=
  gcdN 200 p0 p1
set_option maxHeartbeats 4000000 in
set_option maxRecDepth 100000 in
theorem k_X6_commonDivisor (l : Launch) (dC : Nat → ClassId) (dI : Nat → Nat → Nat) (sz : Nat) (p0 : Int64) (p1 : Int64) : Met l yX6_commonDivisor wsX6_commonDivisor ({ frames := 0, cells := 0, slots := 0, locals := 0 }) (va_Pc [.long p0, .long p1] (fun U => U.heap.size = sz ∧ va_P (dC, dI) vwCl [] U.heap ∧ va_K (dC, dI) vwCl [] U ∧ va_D (fun _ => True) [])) (va_Ql (fun (r : Int64) (_ : Unit) => r = f_X6_commonDivisor p0 p1) (fun _ t => va_P (dC, dI) vwCl [] t.heap ∧ va_K (dC, dI) vwCl [] t ∧ va_D (va_A [] sz) []) (va_A [] sz)) 0 0 (va_A [] sz) := by
  refine Met.ofW (cc := cX6_commonDivisor) (maxL := 11) (ret := (some .long)) (by decide) rfl ?_
  intro p e s m args below meth c s₁ B hml hv
  obtain ⟨rfl, hsz, hP, hK, hD0⟩ := hv
  have hx := B.exec
  have hb := B.bytes
  have hr := B.returns
  have hts := atoms_spec (ws := wsX6_commonDivisor) B.pre
  have hown : s.vm.findClass RX6 = some m.cls := findClass_of_methodNamed B.named
  have hlocks := B.notSynchronized
  subst hsz
  have hD := hD0.self (sz := s.heap.size)
  generalize hAe : va_A [] s.heap.size = A at hD ⊢
  have hA : ∀ q : Nat, s.heap.size ≤ q → A q := fun q h => by rw [← hAe]; exact Or.inr h
  have hS : va_S A s.heap s.heap [] := va_S.rf
  have hP : va_P (dC, dI) vwCl [] s.heap := hP
  have hl := lv_entry ([.long p0, .long p1]) (n := 11) (Nat.le_of_ble_eq_true rfl)
  rw [lg_entry_eq]
  generalize (lg_sl ([.long p0, .long p1]) ++ List.replicate (11 - (lg_sl ([.long p0, .long p1])).length) Slot.unset).toArray = ls at hl ⊢
  have hl : lv_has ls 11 [(0, .long p0), (2, .long p1)] := hl
  refine lv_lload_n hx hb dX6_commonDivisor_0 rfl (lv_at hl 0 rfl) ?_
  refine lv_lstore (lv' := [(4, .long p0), (0, .long p0), (2, .long p1)]) hx hb dX6_commonDivisor_1 hl (by decide) rfl (fun ls hl => ?_)
  refine lv_lload_n hx hb dX6_commonDivisor_3 rfl (lv_at hl 2 rfl) ?_
  refine lv_lstore (lv' := [(6, .long p1), (4, .long p0), (0, .long p0), (2, .long p1)]) hx hb dX6_commonDivisor_4 hl (by decide) rfl (fun ls hl => ?_)
  refine lv_iconst (v := 0) hx hb dX6_commonDivisor_6 (by decide) ?_
  refine lv_istore (lv' := [(8, .int 0), (6, .long p1), (4, .long p0), (0, .long p0), (2, .long p1)]) hx hb dX6_commonDivisor_7 hl (by decide) rfl (fun ls hl => ?_)
  obtain ⟨i, ei⟩ : ∃ z : Int32, z = 0 := ⟨_, rfl⟩
  obtain ⟨y, ey⟩ : ∃ z : Int64, z = p1 := ⟨_, rfl⟩
  obtain ⟨x, ex⟩ : ∃ z : Int64, z = p0 := ⟨_, rfl⟩
  replace hl : lv_has ls 11 [(8, .int i), (6, .long y), (4, .long x), (0, .long p0), (2, .long p1)] := by rw [ex, ey, ei]; exact hl
  obtain ⟨k, ek⟩ : ∃ z : Nat, z = 200 := ⟨_, rfl⟩
  obtain ⟨j, ej⟩ : ∃ z : Nat, z = 0 := ⟨_, rfl⟩
  have hi : i = nI j := by rw [ei, ej]; rfl
  have hj : j + k = 200 := by rw [ek, ej]
  have hF : gcdN k x y = f_X6_commonDivisor p0 p1 := by rw [ek, ex, ey]; rfl
  clear ek ej ex ey ei
  induction k generalizing x y i j ls with
  | zero =>
    refine lv_iload hx hb dX6_commonDivisor_9 (lv_at hl 0 rfl) ?_
    refine lv_sipush (v := 200) hx hb dX6_commonDivisor_11 (by decide) ?_
    refine lv_icmp_ge (tgt := 45) hx hb dX6_commonDivisor_14 (by decide) (fun c_1 => ?_) (fun c_1 => ?_)
    · refine lv_lload hx hb dX6_commonDivisor_45 (lv_at hl 2 rfl) ?_
      have hpost : x = f_X6_commonDivisor p0 p1 := hF
      have hP9 := hP.sub (ws' := []) [] rfl
      have hD9 := hD.sub (ws' := []) [] (by decide) rfl
      have hK9 := hK.sub (tys' := []) [] rfl
      exact W.lret (v := x) hx hb hr (fun t ht hW => ⟨⟨x, (), rfl, hpost, by rw [ht]; exact hP9, va_K.moved hW.alike hK9, hD9⟩, hS.F ht⟩) hS.2.2 dX6_commonDivisor_47
    · exact absurd (by rw [hi, show j = 200 from hj]; decide) c_1
  | succ k ih =>
    refine lv_iload hx hb dX6_commonDivisor_9 (lv_at hl 0 rfl) ?_
    refine lv_sipush (v := 200) hx hb dX6_commonDivisor_11 (by decide) ?_
    refine lv_icmp_ge (tgt := 45) hx hb dX6_commonDivisor_14 (by decide) (fun c_2 => ?_) (fun c_2 => ?_)
    · exact absurd c_2 (by rw [hi]; exact nI_ge (b := 200) (by omega) (by decide))
    · refine lv_lload hx hb dX6_commonDivisor_17 (lv_at hl 1 rfl) ?_
      refine lv_lconst (v := 0) hx hb dX6_commonDivisor_19 (by decide) ?_
      refine W.lcmp hx hb dX6_commonDivisor_20 ?_
      refine lv_if_eq (tgt := 45) hx hb dX6_commonDivisor_21 (by decide) (fun c_3 => ?_) (fun c_3 => ?_)
      · refine lv_lload hx hb dX6_commonDivisor_45 (lv_at hl 2 rfl) ?_
        have hpost : x = f_X6_commonDivisor p0 p1 := (if_pos c_3).symm.trans hF
        have hP9 := hP.sub (ws' := []) [] rfl
        have hD9 := hD.sub (ws' := []) [] (by decide) rfl
        have hK9 := hK.sub (tys' := []) [] rfl
        exact W.lret (v := x) hx hb hr (fun t ht hW => ⟨⟨x, (), rfl, hpost, by rw [ht]; exact hP9, va_K.moved hW.alike hK9, hD9⟩, hS.F ht⟩) hS.2.2 dX6_commonDivisor_47
      · refine lv_lload hx hb dX6_commonDivisor_24 (lv_at hl 2 rfl) ?_
        refine lv_lload hx hb dX6_commonDivisor_26 (lv_at hl 1 rfl) ?_
        refine lv_lrem hx hb dX6_commonDivisor_28 (fun q => c_3 ((lg_cmp_eq _ _).mpr q)) ?_
        refine lv_topl (fun x_4 ex_4 => ?_)
        refine lv_lstore (lv' := [(9, .long x_4), (8, .int i), (6, .long y), (4, .long x), (0, .long p0), (2, .long p1)]) hx hb dX6_commonDivisor_29 hl (by decide) rfl (fun ls hl => ?_)
        refine lv_lload hx hb dX6_commonDivisor_31 (lv_at hl 2 rfl) ?_
        refine lv_lstore (lv' := [(4, .long y), (9, .long x_4), (8, .int i), (6, .long y), (0, .long p0), (2, .long p1)]) hx hb dX6_commonDivisor_33 hl (by decide) rfl (fun ls hl => ?_)
        refine lv_lload hx hb dX6_commonDivisor_35 (lv_at hl 1 rfl) ?_
        refine lv_lstore (lv' := [(6, .long x_4), (4, .long y), (9, .long x_4), (8, .int i), (0, .long p0), (2, .long p1)]) hx hb dX6_commonDivisor_37 hl (by decide) rfl (fun ls hl => ?_)
        obtain ⟨x_5, ex_5⟩ : ∃ zz : Int32, zz = i + 1 := ⟨_, rfl⟩
        refine lv_iinc (v := x_5) (lv' := [(8, .int x_5), (6, .long x_4), (4, .long y), (9, .long x_4), (0, .long p0), (2, .long p1)]) hx hb dX6_commonDivisor_39 hl (k := 3) rfl (by rw [ex_5]; rfl) (by decide) rfl (fun ls hl => ?_)
        refine lv_goto (tgt := 9) hx hb dX6_commonDivisor_42 (by decide) ?_
        exact ih (ls := ls) (x := y) (y := x_4) (i := x_5) (j := j + 1) (hi := (by rw [ex_5, hi]; exact nI_1 j)) (hj := (by omega)) (hF := (by rw [ex_4]; exact (if_neg c_3).symm.trans hF)) (hl := lv_sub hl [0, 1, 2, 4, 5] rfl)
def f_X12_common (p0 : Int64) (p1 : Int64) : Int64 :=
  if 0 ≤ (lg_cmp p0 0) then
    gcdN 200 p0 p1
  else
    let x_5 : Int64 := (-p0)
    gcdN 200 x_5 p1
set_option maxHeartbeats 4000000 in
set_option maxRecDepth 100000 in
theorem k_X12_common (l : Launch) (dC : Nat → ClassId) (dI : Nat → Nat → Nat) (sz : Nat) (p0 : Int64) (p1 : Int64) (hg : gcdS 200 (absL p0) p1) : Met l yX12_common wsX12_common ({ frames := 0, cells := 0, slots := 0, locals := 0 }) (va_Pc [.long p0, .long p1] (fun U => U.heap.size = sz ∧ va_P (dC, dI) vwCl [] U.heap ∧ va_K (dC, dI) vwCl [] U ∧ va_D (fun _ => True) [])) (va_Ql (fun (r : Int64) (_ : Unit) => r = f_X12_common p0 p1) (fun _ t => va_P (dC, dI) vwCl [] t.heap ∧ va_K (dC, dI) vwCl [] t ∧ va_D (va_A [] sz) []) (va_A [] sz)) 0 0 (va_A [] sz) := by
  refine Met.ofW (cc := cX12_common) (maxL := 10) (ret := (some .long)) (by decide) rfl ?_
  intro p e s m args below meth c s₁ B hml hv
  obtain ⟨rfl, hsz, hP, hK, hD0⟩ := hv
  have hx := B.exec
  have hb := B.bytes
  have hr := B.returns
  have hts := atoms_spec (ws := wsX12_common) B.pre
  have hown : s.vm.findClass RX12 = some m.cls := findClass_of_methodNamed B.named
  have hlocks := B.notSynchronized
  subst hsz
  have hD := hD0.self (sz := s.heap.size)
  generalize hAe : va_A [] s.heap.size = A at hD ⊢
  have hA : ∀ q : Nat, s.heap.size ≤ q → A q := fun q h => by rw [← hAe]; exact Or.inr h
  have hS : va_S A s.heap s.heap [] := va_S.rf
  have hP : va_P (dC, dI) vwCl [] s.heap := hP
  have hl := lv_entry ([.long p0, .long p1]) (n := 10) (Nat.le_of_ble_eq_true rfl)
  rw [lg_entry_eq]
  generalize (lg_sl ([.long p0, .long p1]) ++ List.replicate (10 - (lg_sl ([.long p0, .long p1])).length) Slot.unset).toArray = ls at hl ⊢
  have hl : lv_has ls 10 [(0, .long p0), (2, .long p1)] := hl
  refine lv_lload_n hx hb dX12_common_0 rfl (lv_at hl 0 rfl) ?_
  refine lv_lconst (v := 0) hx hb dX12_common_1 (by decide) ?_
  refine W.lcmp hx hb dX12_common_2 ?_
  refine lv_if_ge (tgt := 11) hx hb dX12_common_3 (by decide) (fun c_1 => ?_) (fun c_1 => ?_)
  · refine lv_lload_n hx hb dX12_common_11 rfl (lv_at hl 0 rfl) ?_
    refine lv_lstore (lv' := [(4, .long p0), (0, .long p0), (2, .long p1)]) hx hb dX12_common_12 hl (by decide) rfl (fun ls hl => ?_)
    refine lv_lload_n hx hb dX12_common_14 rfl (lv_at hl 2 rfl) ?_
    refine lv_lstore (lv' := [(6, .long p1), (4, .long p0), (0, .long p0), (2, .long p1)]) hx hb dX12_common_15 hl (by decide) rfl (fun ls hl => ?_)
    obtain ⟨y, ey⟩ : ∃ z : Int64, z = p1 := ⟨_, rfl⟩
    obtain ⟨x, ex⟩ : ∃ z : Int64, z = p0 := ⟨_, rfl⟩
    replace hl : lv_has ls 10 [(6, .long y), (4, .long x), (0, .long p0), (2, .long p1)] := by rw [ex, ey]; exact hl
    obtain ⟨k, ek⟩ : ∃ z : Nat, z = 200 := ⟨_, rfl⟩
    have hF : gcdN k x y = f_X12_common p0 p1 := by rw [ek, ex, ey]; refine Eq.symm ?_; refine (if_pos c_1).trans ?_; rfl
    have hG : gcdS k x y := by rw [ek, ex, ey]; exact (by have h9 := hg; unfold absL at h9; rw [if_pos c_1] at h9; exact h9)
    clear ek ex ey
    induction k generalizing x y ls with
    | zero =>
      refine lv_lload hx hb dX12_common_17 (lv_at hl 0 rfl) ?_
      refine lv_lconst (v := 0) hx hb dX12_common_19 (by decide) ?_
      refine W.lcmp hx hb dX12_common_20 ?_
      refine lv_if_eq (tgt := 42) hx hb dX12_common_21 (by decide) (fun c_2 => ?_) (fun c_2 => ?_)
      · refine lv_lload hx hb dX12_common_42 (lv_at hl 1 rfl) ?_
        have hpost : x = f_X12_common p0 p1 := hF
        have hP9 := hP.sub (ws' := []) [] rfl
        have hD9 := hD.sub (ws' := []) [] (by decide) rfl
        have hK9 := hK.sub (tys' := []) [] rfl
        exact W.lret (v := x) hx hb hr (fun t ht hW => ⟨⟨x, (), rfl, hpost, by rw [ht]; exact hP9, va_K.moved hW.alike hK9, hD9⟩, hS.F ht⟩) hS.2.2 dX12_common_44
      · exact absurd hG c_2
    | succ k ih =>
      refine lv_lload hx hb dX12_common_17 (lv_at hl 0 rfl) ?_
      refine lv_lconst (v := 0) hx hb dX12_common_19 (by decide) ?_
      refine W.lcmp hx hb dX12_common_20 ?_
      refine lv_if_eq (tgt := 42) hx hb dX12_common_21 (by decide) (fun c_3 => ?_) (fun c_3 => ?_)
      · refine lv_lload hx hb dX12_common_42 (lv_at hl 1 rfl) ?_
        have hpost : x = f_X12_common p0 p1 := (if_pos c_3).symm.trans hF
        have hP9 := hP.sub (ws' := []) [] rfl
        have hD9 := hD.sub (ws' := []) [] (by decide) rfl
        have hK9 := hK.sub (tys' := []) [] rfl
        exact W.lret (v := x) hx hb hr (fun t ht hW => ⟨⟨x, (), rfl, hpost, by rw [ht]; exact hP9, va_K.moved hW.alike hK9, hD9⟩, hS.F ht⟩) hS.2.2 dX12_common_44
      · refine lv_lload hx hb dX12_common_24 (lv_at hl 1 rfl) ?_
        refine lv_lload hx hb dX12_common_26 (lv_at hl 0 rfl) ?_
        refine lv_lrem hx hb dX12_common_28 (fun q => c_3 ((lg_cmp_eq _ _).mpr q)) ?_
        refine lv_topl (fun x_4 ex_4 => ?_)
        refine lv_lstore (lv' := [(8, .long x_4), (6, .long y), (4, .long x), (0, .long p0), (2, .long p1)]) hx hb dX12_common_29 hl (by decide) rfl (fun ls hl => ?_)
        refine lv_lload hx hb dX12_common_31 (lv_at hl 1 rfl) ?_
        refine lv_lstore (lv' := [(4, .long y), (8, .long x_4), (6, .long y), (0, .long p0), (2, .long p1)]) hx hb dX12_common_33 hl (by decide) rfl (fun ls hl => ?_)
        refine lv_lload hx hb dX12_common_35 (lv_at hl 1 rfl) ?_
        refine lv_lstore (lv' := [(6, .long x_4), (4, .long y), (8, .long x_4), (0, .long p0), (2, .long p1)]) hx hb dX12_common_37 hl (by decide) rfl (fun ls hl => ?_)
        refine lv_goto (tgt := 17) hx hb dX12_common_39 (by decide) ?_
        exact ih (ls := ls) (x := y) (y := x_4) (hG := (by rw [ex_4]; exact hG c_3)) (hF := (by rw [ex_4]; exact (if_neg c_3).symm.trans hF)) (hl := lv_sub hl [0, 1, 3, 4] rfl)
  · refine lv_lload_n hx hb dX12_common_6 rfl (lv_at hl 0 rfl) ?_
    refine lv_lneg hx hb dX12_common_7 ?_
    refine lv_goto (tgt := 12) hx hb dX12_common_8 (by decide) ?_
    refine lv_topl (fun x_5 ex_5 => ?_)
    refine lv_lstore (lv' := [(4, .long x_5), (0, .long p0), (2, .long p1)]) hx hb dX12_common_12 hl (by decide) rfl (fun ls hl => ?_)
    refine lv_lload_n hx hb dX12_common_14 rfl (lv_at hl 2 rfl) ?_
    refine lv_lstore (lv' := [(6, .long p1), (4, .long x_5), (0, .long p0), (2, .long p1)]) hx hb dX12_common_15 hl (by decide) rfl (fun ls hl => ?_)
    obtain ⟨y, ey⟩ : ∃ z : Int64, z = p1 := ⟨_, rfl⟩
    obtain ⟨x, ex⟩ : ∃ z : Int64, z = x_5 := ⟨_, rfl⟩
    replace hl : lv_has ls 10 [(6, .long y), (4, .long x), (0, .long p0), (2, .long p1)] := by rw [ex, ey]; exact hl
    obtain ⟨k, ek⟩ : ∃ z : Nat, z = 200 := ⟨_, rfl⟩
    have hF : gcdN k x y = f_X12_common p0 p1 := by rw [ek, ex, ey, ex_5]; refine Eq.symm ?_; refine (if_neg c_1).trans ?_; rfl
    have hG : gcdS k x y := by rw [ek, ex, ey, ex_5]; exact (by have h9 := hg; unfold absL at h9; rw [if_neg c_1] at h9; exact h9)
    clear ek ex ey
    induction k generalizing x y ls with
    | zero =>
      refine lv_lload hx hb dX12_common_17 (lv_at hl 0 rfl) ?_
      refine lv_lconst (v := 0) hx hb dX12_common_19 (by decide) ?_
      refine W.lcmp hx hb dX12_common_20 ?_
      refine lv_if_eq (tgt := 42) hx hb dX12_common_21 (by decide) (fun c_6 => ?_) (fun c_6 => ?_)
      · refine lv_lload hx hb dX12_common_42 (lv_at hl 1 rfl) ?_
        have hpost : x = f_X12_common p0 p1 := hF
        have hP9 := hP.sub (ws' := []) [] rfl
        have hD9 := hD.sub (ws' := []) [] (by decide) rfl
        have hK9 := hK.sub (tys' := []) [] rfl
        exact W.lret (v := x) hx hb hr (fun t ht hW => ⟨⟨x, (), rfl, hpost, by rw [ht]; exact hP9, va_K.moved hW.alike hK9, hD9⟩, hS.F ht⟩) hS.2.2 dX12_common_44
      · exact absurd hG c_6
    | succ k ih =>
      refine lv_lload hx hb dX12_common_17 (lv_at hl 0 rfl) ?_
      refine lv_lconst (v := 0) hx hb dX12_common_19 (by decide) ?_
      refine W.lcmp hx hb dX12_common_20 ?_
      refine lv_if_eq (tgt := 42) hx hb dX12_common_21 (by decide) (fun c_7 => ?_) (fun c_7 => ?_)
      · refine lv_lload hx hb dX12_common_42 (lv_at hl 1 rfl) ?_
        have hpost : x = f_X12_common p0 p1 := (if_pos c_7).symm.trans hF
        have hP9 := hP.sub (ws' := []) [] rfl
        have hD9 := hD.sub (ws' := []) [] (by decide) rfl
        have hK9 := hK.sub (tys' := []) [] rfl
        exact W.lret (v := x) hx hb hr (fun t ht hW => ⟨⟨x, (), rfl, hpost, by rw [ht]; exact hP9, va_K.moved hW.alike hK9, hD9⟩, hS.F ht⟩) hS.2.2 dX12_common_44
      · refine lv_lload hx hb dX12_common_24 (lv_at hl 1 rfl) ?_
        refine lv_lload hx hb dX12_common_26 (lv_at hl 0 rfl) ?_
        refine lv_lrem hx hb dX12_common_28 (fun q => c_7 ((lg_cmp_eq _ _).mpr q)) ?_
        refine lv_topl (fun x_8 ex_8 => ?_)
        refine lv_lstore (lv' := [(8, .long x_8), (6, .long y), (4, .long x), (0, .long p0), (2, .long p1)]) hx hb dX12_common_29 hl (by decide) rfl (fun ls hl => ?_)
        refine lv_lload hx hb dX12_common_31 (lv_at hl 1 rfl) ?_
        refine lv_lstore (lv' := [(4, .long y), (8, .long x_8), (6, .long y), (0, .long p0), (2, .long p1)]) hx hb dX12_common_33 hl (by decide) rfl (fun ls hl => ?_)
        refine lv_lload hx hb dX12_common_35 (lv_at hl 1 rfl) ?_
        refine lv_lstore (lv' := [(6, .long x_8), (4, .long y), (8, .long x_8), (0, .long p0), (2, .long p1)]) hx hb dX12_common_37 hl (by decide) rfl (fun ls hl => ?_)
        refine lv_goto (tgt := 17) hx hb dX12_common_39 (by decide) ?_
        exact ih (ls := ls) (x := y) (y := x_8) (hG := (by rw [ex_8]; exact hG c_7)) (hF := (by rw [ex_8]; exact (if_neg c_7).symm.trans hF)) (hl := lv_sub hl [0, 1, 3, 4] rfl)
def f_X6_set (u0 : Int64) (w0 : Int64) (p0 : Int64) (p1 : Int64) : Int64 × Int64 :=
  if 0 ≤ (lg_cmp p0 0) then
    let r_2 : Int64 := f_X6_commonDivisor p0 p1
    if 0 ≤ (lg_cmp r_2 1) then
      let x_4 : Int64 := (p0 / r_2)
      let x_5 : Int64 := (p1 / r_2)
      (x_4, x_5)
    else
      (0, 1)
  else
    let r_6 : Int64 := f_X6_commonDivisor (-p0) p1
    if 0 ≤ (lg_cmp r_6 1) then
      let x_8 : Int64 := (p0 / r_6)
      let x_9 : Int64 := (p1 / r_6)
      (x_8, x_9)
    else
      (0, 1)
set_option maxHeartbeats 4000000 in
set_option maxRecDepth 100000 in
theorem k_X6_set (l : Launch) (dC : Nat → ClassId) (dI : Nat → Nat → Nat) (sz : Nat) (h0 : Nat) (u0 : Int64) (w0 : Int64) (p0 : Int64) (p1 : Int64) : Met l yX6_set wsX6_set ({ frames := 1, cells := 0, slots := 0, locals := 30 }) (va_Pc [.ref h0, .long p0, .long p1] (fun U => U.heap.size = sz ∧ va_P (dC, dI) vwCl [(h0, .inr (5, [.long u0, .long w0]))] U.heap ∧ va_K (dC, dI) vwCl [] U ∧ va_D (fun _ => True) [(h0, .inr (5, [.long u0, .long w0]))])) (va_Qv (fun (_ : Unit) => True) (fun _ t => va_P (dC, dI) vwCl [(h0, .inr (5, [.long ((f_X6_set u0 w0 p0 p1).1), .long ((f_X6_set u0 w0 p0 p1).2)]))] t.heap ∧ va_K (dC, dI) vwCl [] t ∧ va_D (va_A [(h0, .inr (5, [.long u0, .long w0]))] sz) [(h0, .inr (5, [.long ((f_X6_set u0 w0 p0 p1).1), .long ((f_X6_set u0 w0 p0 p1).2)]))]) (va_A [(h0, .inr (5, [.long u0, .long w0]))] sz)) 0 0 (va_A [(h0, .inr (5, [.long u0, .long w0]))] sz) := by
  refine Met.ofW (cc := cX6_set) (maxL := 7) (ret := none) (by decide) rfl ?_
  intro p e s m args below meth c s₁ B hml hv
  obtain ⟨rfl, hsz, hP, hK, hD0⟩ := hv
  have hx := B.exec
  have hb := B.bytes
  have hr := B.returns
  have hts := atoms_spec (ws := wsX6_set) B.pre
  have hown : s.vm.findClass RX6 = some m.cls := findClass_of_methodNamed B.named
  have hlocks := B.notSynchronized
  have hinX6 : ∀ w ∈ u_ws RX6 TX6 2, w ∈ wsX6_set := (fun _ h9 => List.mem_cons_of_mem _ (List.mem_append_right _ h9))
  subst hsz
  have hD := hD0.self (sz := s.heap.size)
  generalize hAe : va_A [(h0, .inr (5, [.long u0, .long w0]))] s.heap.size = A at hD ⊢
  have hA : ∀ q : Nat, s.heap.size ≤ q → A q := fun q h => by rw [← hAe]; exact Or.inr h
  have hS : va_S A s.heap s.heap [] := va_S.rf
  have hP : va_P (dC, dI) vwCl [(h0, .inr (5, [.long u0, .long w0]))] s.heap := hP
  have hl := lv_entry ([.ref h0, .long p0, .long p1]) (n := 7) (Nat.le_of_ble_eq_true rfl)
  rw [lg_entry_eq]
  generalize (lg_sl ([.ref h0, .long p0, .long p1]) ++ List.replicate (7 - (lg_sl ([.ref h0, .long p0, .long p1])).length) Slot.unset).toArray = ls at hl ⊢
  have hl : lv_has ls 7 [(0, .ref h0), (1, .long p0), (3, .long p1)] := hl
  refine lv_lload_n hx hb dX6_set_0 rfl (lv_at hl 1 rfl) ?_
  refine lv_lconst (v := 0) hx hb dX6_set_1 (by decide) ?_
  refine W.lcmp hx hb dX6_set_2 ?_
  refine lv_if_ge (tgt := 11) hx hb dX6_set_3 (by decide) (fun c_1 => ?_) (fun c_1 => ?_)
  · refine lv_lload_n hx hb dX6_set_11 rfl (lv_at hl 1 rfl) ?_
    refine lv_lload_n hx hb dX6_set_12 rfl (lv_at hl 2 rfl) ?_
    have hPc := hP.sub (ws' := []) [] rfl
    have hDc := hD.sub (ws' := []) [] (by decide) rfl
    have hKc := hK.sub (tys' := []) [] rfl
    have hFc := va_free (wc := []) hD hS hA [] rfl
    refine va_calll (va_runS (As := [.long p0, .long p1]) (rest := []) ⟨hx, hb, hml, hown, hts⟩ (k_X6_commonDivisor l dC dI s.heap.size p0 p1) (va_cwS 2 hts gX6_set_X6_commonDivisor rfl rfl rfl (by decide +kernel) ⟨Nat.le_of_ble_eq_true rfl, Nat.le_of_ble_eq_true rfl⟩) ⟨fun a U g mk q => by obtain ⟨q0, q1, qP, qK, qD⟩ := q; exact ⟨q0, q1, qP, va_K.moved (u := U) (U := U.calling g mk a) (Vm.Alike.refl U.vm) qK, qD⟩, fun U hU hW => ⟨rfl, by rw [hU], by rw [hU]; exact hPc, va_K.moved hW.alike hKc, hDc.weaken (fun _ _ _ _ => trivial)⟩⟩ rfl rfl hl.1 rfl (lv_room (Nat.le_of_ble_eq_true rfl)) dX6_set_13 ⟨Nat.le_of_ble_eq_true rfl, Nat.le_of_ble_eq_true rfl⟩) hS (fun q _ h => hFc q h) hFc (fun r_2 u t H1 locs ht hvm hw hB hz1 hk1 hS => ?_)
    obtain ⟨hP1, hK1, hD1⟩ := hB
    rw [ht] at hP1
    have hK1 := va_K.moved hvm.symm hK1
    obtain ⟨hP, hD⟩ := va_join (wr := [(h0, .inr (5, [.long u0, .long w0]))]) (w1 := []) hP hD [] [0] rfl rfl (by decide) (by decide) hk1 hFc hP1 hD1
    generalize H1 = H at hP hS ⊢
    have hP : va_P (dC, dI) vwCl [(h0, .inr (5, [.long u0, .long w0]))] H := hP
    have hD : va_D A [(h0, .inr (5, [.long u0, .long w0]))] := hD
    have er_2 : r_2 = f_X6_commonDivisor p0 p1 := hw
    refine lv_lstore (lv' := [(5, .long r_2), (0, .ref h0), (1, .long p0), (3, .long p1)]) hx hb dX6_set_16 hl (by decide) rfl (fun ls hl => ?_)
    refine lv_lload hx hb dX6_set_18 (lv_at hl 0 rfl) ?_
    refine lv_lconst (v := 1) hx hb dX6_set_20 (by decide) ?_
    refine W.lcmp hx hb dX6_set_21 ?_
    refine lv_if_ge (tgt := 36) hx hb dX6_set_22 (by decide) (fun c_3 => ?_) (fun c_3 => ?_)
    · refine lv_aload_n hx hb dX6_set_36 rfl (lv_at hl 1 rfl) ?_
      refine lv_lload_n hx hb dX6_set_37 rfl (lv_at hl 2 rfl) ?_
      refine lv_lload hx hb dX6_set_38 (lv_at hl 0 rfl) ?_
      refine lv_ldiv hx hb dX6_set_40 (nz_a c_3) ?_
      refine lv_topl (fun x_4 ex_4 => ?_)
      refine va_put (D := (dC, dI)) (ci := 5) (v := .long x_4) (C := RX6) (T := TX6) (N := 2) hx hb hts hinX6 tyX6 tyX6_ok nmX6 hown hK hP hD hS 0 rfl rfl 0 (by decide) (hts (.fieldLink RX6 7 "BondCalendars$Ratio" "upper" "J") (by decide +kernel)) (fun _ h9 => h9) rfl (ty := .long) (by decide +kernel) rfl rfl (Nat.le_of_ble_eq_true rfl) dX6_set_41 (fun H locs hP hD hS => ?_)
      have hP : va_P (dC, dI) vwCl [(h0, .inr (5, [.long x_4, .long w0]))] H := hP
      have hD : va_D A [(h0, .inr (5, [.long x_4, .long w0]))] := hD
      refine lv_aload_n hx hb dX6_set_44 rfl (lv_at hl 1 rfl) ?_
      refine lv_lload_n hx hb dX6_set_45 rfl (lv_at hl 3 rfl) ?_
      refine lv_lload hx hb dX6_set_46 (lv_at hl 0 rfl) ?_
      refine lv_ldiv hx hb dX6_set_48 (nz_a c_3) ?_
      refine lv_topl (fun x_5 ex_5 => ?_)
      refine va_put (D := (dC, dI)) (ci := 5) (v := .long x_5) (C := RX6) (T := TX6) (N := 2) hx hb hts hinX6 tyX6 tyX6_ok nmX6 hown hK hP hD hS 0 rfl rfl 1 (by decide) (hts (.fieldLink RX6 13 "BondCalendars$Ratio" "lower" "J") (by decide +kernel)) (fun _ h9 => h9) rfl (ty := .long) (by decide +kernel) rfl rfl (Nat.le_of_ble_eq_true rfl) dX6_set_49 (fun H locs hP hD hS => ?_)
      have hP : va_P (dC, dI) vwCl [(h0, .inr (5, [.long x_4, .long x_5]))] H := hP
      have hD : va_D A [(h0, .inr (5, [.long x_4, .long x_5]))] := hD
      have hout : (x_4, x_5) = f_X6_set u0 w0 p0 p1 := by subst er_2 ex_4 ex_5; refine Eq.symm ?_; refine (if_pos c_1).trans ?_; refine (if_pos c_3).trans ?_; rfl
      have hP9 : va_P (dC, dI) vwCl [(h0, .inr (5, [.long ((f_X6_set u0 w0 p0 p1).1), .long ((f_X6_set u0 w0 p0 p1).2)]))] H := by rw [← hout]; exact hP.sub (ws' := [(h0, .inr (5, [.long x_4, .long x_5]))]) [0] rfl
      have hD9 : va_D A [(h0, .inr (5, [.long ((f_X6_set u0 w0 p0 p1).1), .long ((f_X6_set u0 w0 p0 p1).2)]))] := by rw [← hout]; exact hD.sub (ws' := [(h0, .inr (5, [.long x_4, .long x_5]))]) [0] (by decide) rfl
      have hK9 := hK.sub (tys' := []) [] rfl
      exact W.vret hx hb hr (fun t ht hW => ⟨⟨(), rfl, trivial, by rw [ht]; exact hP9, va_K.moved hW.alike hK9, hD9⟩, hS.F ht⟩) hS.2.2 dX6_set_52
    · refine lv_aload_n hx hb dX6_set_25 rfl (lv_at hl 1 rfl) ?_
      refine lv_lconst (v := 0) hx hb dX6_set_26 (by decide) ?_
      refine va_put (D := (dC, dI)) (ci := 5) (v := .long 0) (C := RX6) (T := TX6) (N := 2) hx hb hts hinX6 tyX6 tyX6_ok nmX6 hown hK hP hD hS 0 rfl rfl 0 (by decide) (hts (.fieldLink RX6 7 "BondCalendars$Ratio" "upper" "J") (by decide +kernel)) (fun _ h9 => h9) rfl (ty := .long) (by decide +kernel) rfl rfl (Nat.le_of_ble_eq_true rfl) dX6_set_27 (fun H locs hP hD hS => ?_)
      have hP : va_P (dC, dI) vwCl [(h0, .inr (5, [.long 0, .long w0]))] H := hP
      have hD : va_D A [(h0, .inr (5, [.long 0, .long w0]))] := hD
      refine lv_aload_n hx hb dX6_set_30 rfl (lv_at hl 1 rfl) ?_
      refine lv_lconst (v := 1) hx hb dX6_set_31 (by decide) ?_
      refine va_put (D := (dC, dI)) (ci := 5) (v := .long 1) (C := RX6) (T := TX6) (N := 2) hx hb hts hinX6 tyX6 tyX6_ok nmX6 hown hK hP hD hS 0 rfl rfl 1 (by decide) (hts (.fieldLink RX6 13 "BondCalendars$Ratio" "lower" "J") (by decide +kernel)) (fun _ h9 => h9) rfl (ty := .long) (by decide +kernel) rfl rfl (Nat.le_of_ble_eq_true rfl) dX6_set_32 (fun H locs hP hD hS => ?_)
      have hP : va_P (dC, dI) vwCl [(h0, .inr (5, [.long 0, .long 1]))] H := hP
      have hD : va_D A [(h0, .inr (5, [.long 0, .long 1]))] := hD
      have hout : (0, 1) = f_X6_set u0 w0 p0 p1 := by subst er_2; refine Eq.symm ?_; refine (if_pos c_1).trans ?_; refine (if_neg c_3).trans ?_; rfl
      have hP9 : va_P (dC, dI) vwCl [(h0, .inr (5, [.long ((f_X6_set u0 w0 p0 p1).1), .long ((f_X6_set u0 w0 p0 p1).2)]))] H := by rw [← hout]; exact hP.sub (ws' := [(h0, .inr (5, [.long 0, .long 1]))]) [0] rfl
      have hD9 : va_D A [(h0, .inr (5, [.long ((f_X6_set u0 w0 p0 p1).1), .long ((f_X6_set u0 w0 p0 p1).2)]))] := by rw [← hout]; exact hD.sub (ws' := [(h0, .inr (5, [.long 0, .long 1]))]) [0] (by decide) rfl
      have hK9 := hK.sub (tys' := []) [] rfl
      exact W.vret hx hb hr (fun t ht hW => ⟨⟨(), rfl, trivial, by rw [ht]; exact hP9, va_K.moved hW.alike hK9, hD9⟩, hS.F ht⟩) hS.2.2 dX6_set_35
  · refine lv_lload_n hx hb dX6_set_6 rfl (lv_at hl 1 rfl) ?_
    refine lv_lneg hx hb dX6_set_7 ?_
    refine lv_goto (tgt := 12) hx hb dX6_set_8 (by decide) ?_
    refine lv_lload_n hx hb dX6_set_12 rfl (lv_at hl 2 rfl) ?_
    have hPc := hP.sub (ws' := []) [] rfl
    have hDc := hD.sub (ws' := []) [] (by decide) rfl
    have hKc := hK.sub (tys' := []) [] rfl
    have hFc := va_free (wc := []) hD hS hA [] rfl
    refine va_calll (va_runS (As := [.long (-p0), .long p1]) (rest := []) ⟨hx, hb, hml, hown, hts⟩ (k_X6_commonDivisor l dC dI s.heap.size (-p0) p1) (va_cwS 2 hts gX6_set_X6_commonDivisor rfl rfl rfl (by decide +kernel) ⟨Nat.le_of_ble_eq_true rfl, Nat.le_of_ble_eq_true rfl⟩) ⟨fun a U g mk q => by obtain ⟨q0, q1, qP, qK, qD⟩ := q; exact ⟨q0, q1, qP, va_K.moved (u := U) (U := U.calling g mk a) (Vm.Alike.refl U.vm) qK, qD⟩, fun U hU hW => ⟨rfl, by rw [hU], by rw [hU]; exact hPc, va_K.moved hW.alike hKc, hDc.weaken (fun _ _ _ _ => trivial)⟩⟩ rfl rfl hl.1 rfl (lv_room (Nat.le_of_ble_eq_true rfl)) dX6_set_13 ⟨Nat.le_of_ble_eq_true rfl, Nat.le_of_ble_eq_true rfl⟩) hS (fun q _ h => hFc q h) hFc (fun r_6 u t H1 locs ht hvm hw hB hz1 hk1 hS => ?_)
    obtain ⟨hP1, hK1, hD1⟩ := hB
    rw [ht] at hP1
    have hK1 := va_K.moved hvm.symm hK1
    obtain ⟨hP, hD⟩ := va_join (wr := [(h0, .inr (5, [.long u0, .long w0]))]) (w1 := []) hP hD [] [0] rfl rfl (by decide) (by decide) hk1 hFc hP1 hD1
    generalize H1 = H at hP hS ⊢
    have hP : va_P (dC, dI) vwCl [(h0, .inr (5, [.long u0, .long w0]))] H := hP
    have hD : va_D A [(h0, .inr (5, [.long u0, .long w0]))] := hD
    have er_6 : r_6 = f_X6_commonDivisor (-p0) p1 := hw
    refine lv_lstore (lv' := [(5, .long r_6), (0, .ref h0), (1, .long p0), (3, .long p1)]) hx hb dX6_set_16 hl (by decide) rfl (fun ls hl => ?_)
    refine lv_lload hx hb dX6_set_18 (lv_at hl 0 rfl) ?_
    refine lv_lconst (v := 1) hx hb dX6_set_20 (by decide) ?_
    refine W.lcmp hx hb dX6_set_21 ?_
    refine lv_if_ge (tgt := 36) hx hb dX6_set_22 (by decide) (fun c_7 => ?_) (fun c_7 => ?_)
    · refine lv_aload_n hx hb dX6_set_36 rfl (lv_at hl 1 rfl) ?_
      refine lv_lload_n hx hb dX6_set_37 rfl (lv_at hl 2 rfl) ?_
      refine lv_lload hx hb dX6_set_38 (lv_at hl 0 rfl) ?_
      refine lv_ldiv hx hb dX6_set_40 (nz_a c_7) ?_
      refine lv_topl (fun x_8 ex_8 => ?_)
      refine va_put (D := (dC, dI)) (ci := 5) (v := .long x_8) (C := RX6) (T := TX6) (N := 2) hx hb hts hinX6 tyX6 tyX6_ok nmX6 hown hK hP hD hS 0 rfl rfl 0 (by decide) (hts (.fieldLink RX6 7 "BondCalendars$Ratio" "upper" "J") (by decide +kernel)) (fun _ h9 => h9) rfl (ty := .long) (by decide +kernel) rfl rfl (Nat.le_of_ble_eq_true rfl) dX6_set_41 (fun H locs hP hD hS => ?_)
      have hP : va_P (dC, dI) vwCl [(h0, .inr (5, [.long x_8, .long w0]))] H := hP
      have hD : va_D A [(h0, .inr (5, [.long x_8, .long w0]))] := hD
      refine lv_aload_n hx hb dX6_set_44 rfl (lv_at hl 1 rfl) ?_
      refine lv_lload_n hx hb dX6_set_45 rfl (lv_at hl 3 rfl) ?_
      refine lv_lload hx hb dX6_set_46 (lv_at hl 0 rfl) ?_
      refine lv_ldiv hx hb dX6_set_48 (nz_a c_7) ?_
      refine lv_topl (fun x_9 ex_9 => ?_)
      refine va_put (D := (dC, dI)) (ci := 5) (v := .long x_9) (C := RX6) (T := TX6) (N := 2) hx hb hts hinX6 tyX6 tyX6_ok nmX6 hown hK hP hD hS 0 rfl rfl 1 (by decide) (hts (.fieldLink RX6 13 "BondCalendars$Ratio" "lower" "J") (by decide +kernel)) (fun _ h9 => h9) rfl (ty := .long) (by decide +kernel) rfl rfl (Nat.le_of_ble_eq_true rfl) dX6_set_49 (fun H locs hP hD hS => ?_)
      have hP : va_P (dC, dI) vwCl [(h0, .inr (5, [.long x_8, .long x_9]))] H := hP
      have hD : va_D A [(h0, .inr (5, [.long x_8, .long x_9]))] := hD
      have hout : (x_8, x_9) = f_X6_set u0 w0 p0 p1 := by subst er_6 ex_8 ex_9; refine Eq.symm ?_; refine (if_neg c_1).trans ?_; refine (if_pos c_7).trans ?_; rfl
      have hP9 : va_P (dC, dI) vwCl [(h0, .inr (5, [.long ((f_X6_set u0 w0 p0 p1).1), .long ((f_X6_set u0 w0 p0 p1).2)]))] H := by rw [← hout]; exact hP.sub (ws' := [(h0, .inr (5, [.long x_8, .long x_9]))]) [0] rfl
      have hD9 : va_D A [(h0, .inr (5, [.long ((f_X6_set u0 w0 p0 p1).1), .long ((f_X6_set u0 w0 p0 p1).2)]))] := by rw [← hout]; exact hD.sub (ws' := [(h0, .inr (5, [.long x_8, .long x_9]))]) [0] (by decide) rfl
      have hK9 := hK.sub (tys' := []) [] rfl
      exact W.vret hx hb hr (fun t ht hW => ⟨⟨(), rfl, trivial, by rw [ht]; exact hP9, va_K.moved hW.alike hK9, hD9⟩, hS.F ht⟩) hS.2.2 dX6_set_52
    · refine lv_aload_n hx hb dX6_set_25 rfl (lv_at hl 1 rfl) ?_
      refine lv_lconst (v := 0) hx hb dX6_set_26 (by decide) ?_
      refine va_put (D := (dC, dI)) (ci := 5) (v := .long 0) (C := RX6) (T := TX6) (N := 2) hx hb hts hinX6 tyX6 tyX6_ok nmX6 hown hK hP hD hS 0 rfl rfl 0 (by decide) (hts (.fieldLink RX6 7 "BondCalendars$Ratio" "upper" "J") (by decide +kernel)) (fun _ h9 => h9) rfl (ty := .long) (by decide +kernel) rfl rfl (Nat.le_of_ble_eq_true rfl) dX6_set_27 (fun H locs hP hD hS => ?_)
      have hP : va_P (dC, dI) vwCl [(h0, .inr (5, [.long 0, .long w0]))] H := hP
      have hD : va_D A [(h0, .inr (5, [.long 0, .long w0]))] := hD
      refine lv_aload_n hx hb dX6_set_30 rfl (lv_at hl 1 rfl) ?_
      refine lv_lconst (v := 1) hx hb dX6_set_31 (by decide) ?_
      refine va_put (D := (dC, dI)) (ci := 5) (v := .long 1) (C := RX6) (T := TX6) (N := 2) hx hb hts hinX6 tyX6 tyX6_ok nmX6 hown hK hP hD hS 0 rfl rfl 1 (by decide) (hts (.fieldLink RX6 13 "BondCalendars$Ratio" "lower" "J") (by decide +kernel)) (fun _ h9 => h9) rfl (ty := .long) (by decide +kernel) rfl rfl (Nat.le_of_ble_eq_true rfl) dX6_set_32 (fun H locs hP hD hS => ?_)
      have hP : va_P (dC, dI) vwCl [(h0, .inr (5, [.long 0, .long 1]))] H := hP
      have hD : va_D A [(h0, .inr (5, [.long 0, .long 1]))] := hD
      have hout : (0, 1) = f_X6_set u0 w0 p0 p1 := by subst er_6; refine Eq.symm ?_; refine (if_neg c_1).trans ?_; refine (if_neg c_7).trans ?_; rfl
      have hP9 : va_P (dC, dI) vwCl [(h0, .inr (5, [.long ((f_X6_set u0 w0 p0 p1).1), .long ((f_X6_set u0 w0 p0 p1).2)]))] H := by rw [← hout]; exact hP.sub (ws' := [(h0, .inr (5, [.long 0, .long 1]))]) [0] rfl
      have hD9 : va_D A [(h0, .inr (5, [.long ((f_X6_set u0 w0 p0 p1).1), .long ((f_X6_set u0 w0 p0 p1).2)]))] := by rw [← hout]; exact hD.sub (ws' := [(h0, .inr (5, [.long 0, .long 1]))]) [0] (by decide) rfl
      have hK9 := hK.sub (tys' := []) [] rfl
      exact W.vret hx hb hr (fun t ht hW => ⟨⟨(), rfl, trivial, by rw [ht]; exact hP9, va_K.moved hW.alike hK9, hD9⟩, hS.F ht⟩) hS.2.2 dX6_set_35
def f_X12_sets (p0 : Int64) (p1 : Int64) : Int64 × Int64 :=
  let r_1 : Int64 := f_X12_common p0 p1
  let x_2 : Int64 := (p0 / r_1)
  let x_3 : Int64 := (p1 / r_1)
  (x_2, x_3)
set_option maxHeartbeats 4000000 in
set_option maxRecDepth 100000 in
theorem k_X12_sets (l : Launch) (dC : Nat → ClassId) (dI : Nat → Nat → Nat) (sz : Nat) (h0 : Nat) (fs_h0 : List Value) (p0 : Int64) (p1 : Int64) (hn_h0 : fs_h0.length = 69) (hg : gcdS 200 (absL p0) p1) (hnz : ¬ f_X12_common p0 p1 = 0) : Met l yX12_sets wsX12_sets ({ frames := 1, cells := 0, slots := 0, locals := 29 }) (va_Pc [.ref h0, .long p0, .long p1] (fun U => U.heap.size = sz ∧ va_P (dC, dI) vwCl [(h0, .inr (11, fs_h0))] U.heap ∧ va_K (dC, dI) vwCl [] U ∧ va_D (fun _ => True) [(h0, .inr (11, fs_h0))])) (va_Qv (fun (_ : Unit) => True) (fun _ t => va_P (dC, dI) vwCl [(h0, .inr (11, ((fs_h0.set 3 (.long ((f_X12_sets p0 p1).1))).set 4 (.long ((f_X12_sets p0 p1).2)))))] t.heap ∧ va_K (dC, dI) vwCl [] t ∧ va_D (va_A [(h0, .inr (11, fs_h0))] sz) [(h0, .inr (11, ((fs_h0.set 3 (.long ((f_X12_sets p0 p1).1))).set 4 (.long ((f_X12_sets p0 p1).2)))))]) (va_A [(h0, .inr (11, fs_h0))] sz)) 0 0 (va_A [(h0, .inr (11, fs_h0))] sz) := by
  refine Met.ofW (cc := cX12_sets) (maxL := 7) (ret := none) (by decide) rfl ?_
  intro p e s m args below meth c s₁ B hml hv
  obtain ⟨rfl, hsz, hP, hK, hD0⟩ := hv
  have hx := B.exec
  have hb := B.bytes
  have hr := B.returns
  have hts := atoms_spec (ws := wsX12_sets) B.pre
  have hown : s.vm.findClass RX12 = some m.cls := findClass_of_methodNamed B.named
  have hlocks := B.notSynchronized
  have hinX12 : ∀ w ∈ u_ws RX12 TX12 69, w ∈ wsX12_sets := (fun _ h9 => List.mem_cons_of_mem _ (List.mem_append_right _ h9))
  subst hsz
  have hD := hD0.self (sz := s.heap.size)
  generalize hAe : va_A [(h0, .inr (11, fs_h0))] s.heap.size = A at hD ⊢
  have hA : ∀ q : Nat, s.heap.size ≤ q → A q := fun q h => by rw [← hAe]; exact Or.inr h
  have hS : va_S A s.heap s.heap [] := va_S.rf
  have hP : va_P (dC, dI) vwCl [(h0, .inr (11, fs_h0))] s.heap := hP
  have hl := lv_entry ([.ref h0, .long p0, .long p1]) (n := 7) (Nat.le_of_ble_eq_true rfl)
  rw [lg_entry_eq]
  generalize (lg_sl ([.ref h0, .long p0, .long p1]) ++ List.replicate (7 - (lg_sl ([.ref h0, .long p0, .long p1])).length) Slot.unset).toArray = ls at hl ⊢
  have hl : lv_has ls 7 [(0, .ref h0), (1, .long p0), (3, .long p1)] := hl
  refine lv_lload_n hx hb dX12_sets_0 rfl (lv_at hl 1 rfl) ?_
  refine lv_lload_n hx hb dX12_sets_1 rfl (lv_at hl 2 rfl) ?_
  have hPc := hP.sub (ws' := []) [] rfl
  have hDc := hD.sub (ws' := []) [] (by decide) rfl
  have hKc := hK.sub (tys' := []) [] rfl
  have hFc := va_free (wc := []) hD hS hA [] rfl
  refine va_calll (va_runS (As := [.long p0, .long p1]) (rest := []) ⟨hx, hb, hml, hown, hts⟩ (k_X12_common l dC dI s.heap.size p0 p1 hg) (va_cwS 2 hts gX12_sets_X12_common rfl rfl rfl (by decide +kernel) ⟨Nat.le_of_ble_eq_true rfl, Nat.le_of_ble_eq_true rfl⟩) ⟨fun a U g mk q => by obtain ⟨q0, q1, qP, qK, qD⟩ := q; exact ⟨q0, q1, qP, va_K.moved (u := U) (U := U.calling g mk a) (Vm.Alike.refl U.vm) qK, qD⟩, fun U hU hW => ⟨rfl, by rw [hU], by rw [hU]; exact hPc, va_K.moved hW.alike hKc, hDc.weaken (fun _ _ _ _ => trivial)⟩⟩ rfl rfl hl.1 rfl (lv_room (Nat.le_of_ble_eq_true rfl)) dX12_sets_2 ⟨Nat.le_of_ble_eq_true rfl, Nat.le_of_ble_eq_true rfl⟩) hS (fun q _ h => hFc q h) hFc (fun r_1 u t H1 locs ht hvm hw hB hz1 hk1 hS => ?_)
  obtain ⟨hP1, hK1, hD1⟩ := hB
  rw [ht] at hP1
  have hK1 := va_K.moved hvm.symm hK1
  obtain ⟨hP, hD⟩ := va_join (wr := [(h0, .inr (11, fs_h0))]) (w1 := []) hP hD [] [0] rfl rfl (by decide) (by decide) hk1 hFc hP1 hD1
  generalize H1 = H at hP hS ⊢
  have hP : va_P (dC, dI) vwCl [(h0, .inr (11, fs_h0))] H := hP
  have hD : va_D A [(h0, .inr (11, fs_h0))] := hD
  have er_1 : r_1 = f_X12_common p0 p1 := hw
  refine lv_lstore (lv' := [(5, .long r_1), (0, .ref h0), (1, .long p0), (3, .long p1)]) hx hb dX12_sets_5 hl (by decide) rfl (fun ls hl => ?_)
  refine lv_aload_n hx hb dX12_sets_7 rfl (lv_at hl 1 rfl) ?_
  refine lv_lload_n hx hb dX12_sets_8 rfl (lv_at hl 2 rfl) ?_
  refine lv_lload hx hb dX12_sets_9 (lv_at hl 0 rfl) ?_
  refine lv_ldiv hx hb dX12_sets_11 (fun q => hnz (er_1 ▸ q)) ?_
  refine lv_topl (fun x_2 ex_2 => ?_)
  refine va_put (D := (dC, dI)) (ci := 11) (v := .long x_2) (C := RX12) (T := TX12) (N := 69) hx hb hts hinX12 tyX12 tyX12_ok nmX12 hown hK hP hD hS 0 rfl rfl 3 (by decide) (hts (.fieldLink RX12 161 "BondCalendarsModel" "up" "J") (by decide +kernel)) (fun _ h9 => h9) rfl (ty := .long) (by decide +kernel) rfl rfl (by rw [hn_h0]; decide) dX12_sets_12 (fun H locs hP hD hS => ?_)
  have hP : va_P (dC, dI) vwCl [(h0, .inr (11, (fs_h0.set 3 (.long x_2))))] H := hP
  have hD : va_D A [(h0, .inr (11, (fs_h0.set 3 (.long x_2))))] := hD
  refine lv_aload_n hx hb dX12_sets_15 rfl (lv_at hl 1 rfl) ?_
  refine lv_lload_n hx hb dX12_sets_16 rfl (lv_at hl 3 rfl) ?_
  refine lv_lload hx hb dX12_sets_17 (lv_at hl 0 rfl) ?_
  refine lv_ldiv hx hb dX12_sets_19 (fun q => hnz (er_1 ▸ q)) ?_
  refine lv_topl (fun x_3 ex_3 => ?_)
  refine va_put (D := (dC, dI)) (ci := 11) (v := .long x_3) (C := RX12) (T := TX12) (N := 69) hx hb hts hinX12 tyX12 tyX12_ok nmX12 hown hK hP hD hS 0 rfl rfl 4 (by decide) (hts (.fieldLink RX12 165 "BondCalendarsModel" "lo" "J") (by decide +kernel)) (fun _ h9 => h9) rfl (ty := .long) (by decide +kernel) rfl rfl (by rw [(List.length_set.trans hn_h0)]; decide) dX12_sets_20 (fun H locs hP hD hS => ?_)
  have hP : va_P (dC, dI) vwCl [(h0, .inr (11, ((fs_h0.set 3 (.long x_2)).set 4 (.long x_3))))] H := hP
  have hD : va_D A [(h0, .inr (11, ((fs_h0.set 3 (.long x_2)).set 4 (.long x_3))))] := hD
  have hout : (x_2, x_3) = f_X12_sets p0 p1 := by subst er_1 ex_2 ex_3; refine Eq.symm ?_; rfl
  have hP9 : va_P (dC, dI) vwCl [(h0, .inr (11, ((fs_h0.set 3 (.long ((f_X12_sets p0 p1).1))).set 4 (.long ((f_X12_sets p0 p1).2)))))] H := by rw [← hout]; exact hP.sub (ws' := [(h0, .inr (11, ((fs_h0.set 3 (.long x_2)).set 4 (.long x_3))))]) [0] rfl
  have hD9 : va_D A [(h0, .inr (11, ((fs_h0.set 3 (.long ((f_X12_sets p0 p1).1))).set 4 (.long ((f_X12_sets p0 p1).2)))))] := by rw [← hout]; exact hD.sub (ws' := [(h0, .inr (11, ((fs_h0.set 3 (.long x_2)).set 4 (.long x_3))))]) [0] (by decide) rfl
  have hK9 := hK.sub (tys' := []) [] rfl
  exact W.vret hx hb hr (fun t ht hW => ⟨⟨(), rfl, trivial, by rw [ht]; exact hP9, va_K.moved hW.alike hK9, hD9⟩, hS.F ht⟩) hS.2.2 dX12_sets_23
