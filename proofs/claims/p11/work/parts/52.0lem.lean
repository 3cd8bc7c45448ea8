theorem va_ldcSW {p : Program} {l : Launch} {e : Env} {R : Room} {s : State} {m : MethodId} {args : Array Value} {below : List Frame} {meth : Method} {c : Code} {H : Heap} {locs : List Loc} {cells slots : Nat} {Q : State → Prop} {cc : ByteArray} {pc : Nat} {ls : Array Slot} {rest : List Value} (hexec : p.tables.exec = Jvm.exec) (hb : c.code = cc) {own tx : String} {index q : Nat} (hown : s.vm.findClass own = some m.cls) (hZ : vk_R own index tx q s) (hdg : decode cc pc = .ok (.ldc_w index, 3)) (k : W p l e R s m args below meth c H locs cells slots Q (F0 m (pc + 3) ls (.ref q :: rest))) : W p l e R s m args below meth c H locs cells slots Q (F0 m pc ls rest) := by
  intro T hT X
  obtain ⟨t, a1, b1⟩ := k T hT X
  exact ⟨t, X.ldcStringW hexec hown (text := tx) (a := q) hZ.1 hZ.2 (g := F0 m pc ls rest) rfl (by rw [hb]; exact hdg) t a1, b1⟩
/-- from one state of the reading to another: the spot doesn't go back; a SIGN at the end was at the beginning or is further on; with a SIGN there is no fault -/
def SP (σ τ : gs) : Prop := (σ 0).1 33 ≤ (τ 0).1 33 ∧ (4 ≤ (τ 0).1 34 → (σ 0).1 33 < (τ 0).1 33 ∨ 4 ≤ (σ 0).1 34) ∧ ((4 ≤ (σ 0).1 34 → (σ 0).1 37 ≤ 0) → 4 ≤ (τ 0).1 34 → (τ 0).1 37 ≤ 0)
theorem SP.same {σ τ : gs} (e33 : (τ 0).1 33 = (σ 0).1 33) (e34 : (τ 0).1 34 = (σ 0).1 34) (e37 : (τ 0).1 37 = (σ 0).1 37) : SP σ τ := by
  refine ⟨by rw [e33]; exact Int32.le_refl _, fun h => Or.inr (by rw [← e34]; exact h), fun h h1 => ?_⟩
  rw [e37]
  rw [e34] at h1
  exact h h1
theorem SP.mk1 {σ τ : gs} (h : (σ 0).1 33 ≤ (τ 0).1 33) (h1 : 4 ≤ (τ 0).1 34 → (σ 0).1 33 < (τ 0).1 33) (h2 : 4 ≤ (τ 0).1 34 → (τ 0).1 37 ≤ 0) : SP σ τ := ⟨h, fun q => Or.inl (h1 q), fun _ q => h2 q⟩
theorem SP.tr {σ τ υ : gs} (h : SP σ τ) (h' : SP τ υ) : SP σ υ := by
  refine ⟨Int32.le_trans h.1 h'.1, fun q => ?_, fun k => h'.2.2 (h.2.2 k)⟩
  rcases h'.2.1 q with a | a
  · exact Or.inl (Int32.lt_of_le_of_lt h.1 a)
  · rcases h.2.1 a with b | b
    · exact Or.inl (Int32.lt_of_lt_of_le b h'.1)
    · exact Or.inr b
theorem ra_lt {h n1 n2 : gs} (iv : 4 ≤ (h 0).1 34 → (h 0).1 37 ≤ 0) (kk : 4 ≤ (h 0).1 34) (h1 : (h 0).1 37 ≤ 0 → 4 ≤ (n1 0).1 34 → (h 0).1 33 < (n1 0).1 33) (s1 : SP h n1) (s2 : SP n1 n2) : 4 ≤ (n2 0).1 34 → (h 0).1 33 < (n2 0).1 33 := by
  intro q
  rcases s2.2.1 q with a | a
  · exact Int32.lt_of_le_of_lt s1.1 a
  · exact Int32.lt_of_lt_of_le (h1 (iv kk) a) s2.1
theorem ra_m {s k s' k' : Int32} {n : Nat} (hl : 4 ≤ k' → s < s') (hle : s ≤ s') (hk : 4 ≤ k) (h9 : s' ≤ 900) (hm : ((900 : Int32).toInt - s.toInt).toNat * 2 + (if 4 ≤ k then 1 else 0) < n + 1) : ((900 : Int32).toInt - s'.toInt).toNat * 2 + (if 4 ≤ k' then 1 else 0) < n := by
  have a := Int32.le_iff_toInt_le.mp hle
  have b := Int32.le_iff_toInt_le.mp h9
  rw [if_pos hk] at hm
  by_cases h : 4 ≤ k'
  · have c := Int32.lt_iff_toInt_lt.mp (hl h)
    rw [if_pos h]
    omega
  · rw [if_neg h]
    omega
/-- a byte of the tape, or none -/
def mby (σ : gs) (p : Int32) : Int32 := if p < (σ 0).1 32 then (σ 16).1 p.toNatClampNeg &&& 255 else -1
theorem mby_n {σ : gs} {p : Int32} (h : (σ 0).1 32 ≤ p) : (-1 : Int32) = mby σ p := (if_neg (Int32.not_lt.mpr h)).symm
theorem mby_p {σ : gs} {p x y : Int32} (h : p < (σ 0).1 32) (ex : x = (σ 16).1 p.toNatClampNeg) (ey : y = x &&& 255) : y = mby σ p := by
  rw [ey, ex]
  exact (if_pos h).symm
/-- a number of so many digits -/
def dg (sp ac n : Int32) : Prop := 0 ≤ ac.toInt ∧ 0 ≤ n.toInt ∧ ∃ j : Nat, sp.toInt = ac.toInt + j ∧ n.toInt < 10 ^ (min j 8)
theorem dg_ch {a b c a' b' c' : Int32} (ha : a = a') (hb : b = b') (hc : c = c') (h : dg a' b' c') : dg a b c := by rw [ha, hb, hc]; exact h
theorem dg_0 {sp ac : Int32} (h : sp = ac) (h0 : 0 ≤ sp) : dg sp ac 0 := by
  have a := Int32.le_iff_toInt_le.mp h0
  have b0 : (0 : Int32).toInt = 0 := by decide
  subst h
  exact ⟨by omega, by omega, 0, by omega, by decide⟩
theorem dg_s {sp ac n x a b c d : Int32} (h : dg sp ac n) (ex : x = sp - ac) (h8 : x < 8) (e1 : a = 10 * n) (e2 : b = a + c) (e3 : d = b - 48) (h1 : 48 ≤ c) (h2 : c ≤ 57) : 0 ≤ d ∧ d ≤ 99999999 ∧ ∀ sp' : Int32, sp' = sp + 1 → sp < 900 → dg sp' ac d := by
  obtain ⟨q0, q1, j, q2, q3⟩ := h
  have l0 := Int32.toInt_lt sp
  have f8 := Int32.lt_iff_toInt_lt.mp h8
  have c1 := Int32.le_iff_toInt_le.mp h1
  have c2 := Int32.le_iff_toInt_le.mp h2
  have b8 : (8 : Int32).toInt = 8 := by decide
  have b0 : (0 : Int32).toInt = 0 := by decide
  have b1 : (1 : Int32).toInt = 1 := by decide
  have bt : (10 : Int32).toInt = 10 := by decide
  have b48 : (48 : Int32).toInt = 48 := by decide
  have b57 : (57 : Int32).toInt = 57 := by decide
  have b9 : (900 : Int32).toInt = 900 := by decide
  have bm : (99999999 : Int32).toInt = 99999999 := by decide
  have x1 : x.toInt = j := by
    rw [ex, Int32.toInt_sub, Int.bmod_eq_of_le (by omega) (by omega)]
    omega
  have j8 : j < 8 := by omega
  have q3' : n.toInt < 10 ^ j := by
    rw [Nat.min_eq_left (by omega)] at q3
    exact q3
  have p7 : (10 : Int) ^ j ≤ 10 ^ 7 := by
    have hh : ∀ j : Nat, j < 8 → (10 : Int) ^ j ≤ 10 ^ 7 := by decide
    exact hh j j8
  have p1 : (10 : Int) ^ (j + 1) = 10 * 10 ^ j := by rw [Int.pow_succ, Int.mul_comm]
  have a1 : a.toInt = 10 * n.toInt := by
    rw [e1, Int32.toInt_mul, bt]
    exact Int.bmod_eq_of_le (by omega) (by omega)
  have a2 : b.toInt = a.toInt + c.toInt := by
    rw [e2, Int32.toInt_add]
    exact Int.bmod_eq_of_le (by omega) (by omega)
  have a3 : d.toInt = b.toInt - 48 := by
    rw [e3, Int32.toInt_sub, b48]
    exact Int.bmod_eq_of_le (by omega) (by omega)
  refine ⟨Int32.le_iff_toInt_le.mpr (by omega), Int32.le_iff_toInt_le.mpr (by omega), fun sp' e h9 => ?_⟩
  have s9 := Int32.lt_iff_toInt_lt.mp h9
  have e4 : sp'.toInt = sp.toInt + 1 := by
    rw [e, Int32.toInt_add, b1]
    exact Int.bmod_eq_of_le (by omega) (by omega)
  refine ⟨q0, by omega, j + 1, by omega, ?_⟩
  rw [Nat.min_eq_left (by omega), p1]
  omega
theorem dg_k {sp ac n x sp' : Int32} (h : dg sp ac n) (ex : x = sp - ac) (h8 : 8 ≤ x) (e : sp' = sp + 1) (h9 : sp < 900) : dg sp' ac n := by
  obtain ⟨q0, q1, j, q2, q3⟩ := h
  have l0 := Int32.toInt_lt sp
  have f8 := Int32.le_iff_toInt_le.mp h8
  have s9 := Int32.lt_iff_toInt_lt.mp h9
  have b8 : (8 : Int32).toInt = 8 := by decide
  have b1 : (1 : Int32).toInt = 1 := by decide
  have b9 : (900 : Int32).toInt = 900 := by decide
  have x1 : x.toInt = j := by
    rw [ex, Int32.toInt_sub, Int.bmod_eq_of_le (by omega) (by omega)]
    omega
  have e4 : sp'.toInt = sp.toInt + 1 := by
    rw [e, Int32.toInt_add, b1]
    exact Int.bmod_eq_of_le (by omega) (by omega)
  refine ⟨q0, q1, j + 1, by omega, ?_⟩
  rw [Nat.min_eq_right (by omega)] at q3 ⊢
  exact q3

