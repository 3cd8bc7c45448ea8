theorem lv_eqi {p : Program} {l : Launch} {e : Env} {R : Room} {s : State} {m : MethodId} {args : Array Value} {below : List Frame} {meth : Method} {c : Code} {H : Heap} {locs : List Loc} {cells slots : Nat} {Q : State → Prop} {pc : Nat} {ls : Array Slot} {rest : List Value} {x y : Int32} (h : x = y) (k : W p l e R s m args below meth c H locs cells slots Q (F0 m pc ls (.int y :: rest))) : W p l e R s m args below meth c H locs cells slots Q (F0 m pc ls (.int x :: rest)) := by
  rw [h]
  exact k
theorem le_ch {a b a' b' : Int32} (ha : a = a') (hb : b = b') (h : a' ≤ b') : a ≤ b := by rw [ha, hb]; exact h
theorem lt_ch {a b a' b' : Int32} (ha : a = a') (hb : b = b') (h : a' < b') : a < b := by rw [ha, hb]; exact h
theorem cnt_lt {i x N : Int32} (h0 : 0 ≤ i) (h1 : i < N) (e : x = i + 1) : i < x := by
  have e2 := add1 h0 h1
  refine Int32.lt_iff_toInt_lt.mpr ?_
  rw [e, e2]
  omega
theorem ne_up {x n : Int32} (h : x ≤ n) (hn : ¬ x = n) : x < n := by
  have a := Int32.le_iff_toInt_le.mp h
  have c : x.toInt ≠ n.toInt := fun e => hn (Int32.toInt_inj.mp e)
  exact Int32.lt_iff_toInt_lt.mpr (by omega)
theorem cadd {c i x a m b d : Int32} (h0 : a ≤ i) (h1 : i ≤ m) (e : x = c + i) (hb : b.toInt = c.toInt + a.toInt) (hd : d.toInt = c.toInt + m.toInt) : b ≤ x ∧ x ≤ d := by
  have p := Int32.le_iff_toInt_le.mp h0
  have q := Int32.le_iff_toInt_le.mp h1
  have l1 := Int32.le_toInt b
  have l2 := Int32.toInt_lt d
  have e2 : x.toInt = c.toInt + i.toInt := by
    rw [e, Int32.toInt_add]
    exact Int.bmod_eq_of_le (by omega) (by omega)
  exact ⟨Int32.le_iff_toInt_le.mpr (by omega), Int32.le_iff_toInt_le.mpr (by omega)⟩
theorem nd {i x N : Int32} (h1 : i < N) (e : x = i + 1) : x.toInt = i.toInt + 1 := by
  have a := Int32.lt_iff_toInt_lt.mp h1
  have l := Int32.le_toInt i
  have u := Int32.toInt_lt N
  have b1 : (1 : Int32).toInt = 1 := by decide
  rw [e, Int32.toInt_add, b1]
  exact Int.bmod_eq_of_le (by omega) (by omega)
theorem nd_m {i x N : Int32} {n : Nat} (h1 : i < N) (hm : (N.toInt - i.toInt).toNat < n + 1) (e : x = i + 1) : (N.toInt - x.toInt).toNat < n := by
  have a := Int32.lt_iff_toInt_lt.mp h1
  have e2 := nd h1 e
  omega
theorem nd_lo {i x N a : Int32} (h1 : i < N) (h0 : a ≤ i) (e : x = i + 1) : a ≤ x := by
  have b := Int32.le_iff_toInt_le.mp h0
  have e2 := nd h1 e
  exact Int32.le_iff_toInt_le.mpr (by omega)
theorem nd_hi {i x N : Int32} (h1 : i < N) (e : x = i + 1) : x ≤ N := by
  have b := Int32.lt_iff_toInt_lt.mp h1
  have e2 := nd h1 e
  exact Int32.le_iff_toInt_le.mpr (by omega)
theorem b01_0 {r : Int32} (h : r = 0 ∨ r = 1) : 0 ≤ r := by rcases h with rfl | rfl <;> decide
theorem b01_1 {r : Int32} (h : r = 0 ∨ r = 1) : r ≤ 1 := by rcases h with rfl | rfl <;> decide
theorem isDate01 (d : Int32) : f_X12_isDate d = 0 ∨ f_X12_isDate d = 1 := by
  unfold f_X12_isDate
  simp only
  repeat' split
  all_goals first | exact Or.inl rfl | exact Or.inr rfl
theorem isMonthEnd01 (d : Int32) : f_X12_isMonthEnd d = 0 ∨ f_X12_isMonthEnd d = 1 := by
  unfold f_X12_isMonthEnd
  simp only
  repeat' split
  all_goals first | exact Or.inl rfl | exact Or.inr rfl
theorem one_le {r y : Int32} (e : r = y) (b : r = 0 ∨ r = 1) (h : ¬ r = 0) : 1 ≤ y := by
  rcases b with b | b
  · exact absurd b h
  · rw [← e, b]
    exact Int32.le_refl _
theorem ne_lt {x : Int32} (h : 0 ≤ x) (hn : ¬ x = 0) : 0 < x := by
  have a := Int32.le_iff_toInt_le.mp h
  have b0 : (0 : Int32).toInt = 0 := by decide
  have c : x.toInt ≠ 0 := fun e => hn (Int32.toInt_inj.mp (by rw [e]; rfl))
  exact Int32.lt_iff_toInt_lt.mpr (by omega)
theorem fd_0 {t x : Int32} (h0 : 0 ≤ t) (hm : t ≤ 900) (h : x ≤ 900) (e : x = t + 20) : t ≤ 880 + 0 := by
  have a := Int32.le_iff_toInt_le.mp h0
  have b := Int32.le_iff_toInt_le.mp h
  have c := Int32.le_iff_toInt_le.mp hm
  have b0 : (0 : Int32).toInt = 0 := by decide
  have b9 : (900 : Int32).toInt = 900 := by decide
  have b2 : (20 : Int32).toInt = 20 := by decide
  have b8 : (880 + 0 : Int32).toInt = 880 := by decide
  have e1 : x.toInt = t.toInt + 20 := by
    rw [e, Int32.toInt_add, b2]
    exact Int.bmod_eq_of_le (by omega) (by omega)
  exact Int32.le_iff_toInt_le.mpr (by omega)
theorem fd_l {t i : Int32} (h : t ≤ 880 + i) (h0 : 0 ≤ t) (hi : 0 ≤ i) (h1 : i < 20) : t < 900 := by
  have a := Int32.le_iff_toInt_le.mp h
  have b := Int32.le_iff_toInt_le.mp hi
  have c := Int32.lt_iff_toInt_lt.mp h1
  have b0 : (0 : Int32).toInt = 0 := by decide
  have b9 : (900 : Int32).toInt = 900 := by decide
  have b2 : (20 : Int32).toInt = 20 := by decide
  have b8 : (880 : Int32).toInt = 880 := by decide
  have e : (880 + i).toInt = 880 + i.toInt := by
    rw [Int32.toInt_add, b8]
    exact Int.bmod_eq_of_le (by omega) (by omega)
  exact Int32.lt_iff_toInt_lt.mpr (by omega)
theorem fd_s {t i x y : Int32} (h : t ≤ 880 + i) (h0 : 0 ≤ t) (hi : 0 ≤ i) (h1 : i < 20) (ex : x = t + 1) (ey : y = i + 1) : x ≤ 880 + y := by
  have hl := fd_l h h0 hi h1
  have e1 := add1 h0 hl
  have e2 := add1 hi h1
  have a := Int32.le_iff_toInt_le.mp h
  have b := Int32.le_iff_toInt_le.mp hi
  have c := Int32.lt_iff_toInt_lt.mp h1
  have b0 : (0 : Int32).toInt = 0 := by decide
  have b2 : (20 : Int32).toInt = 20 := by decide
  have b8 : (880 : Int32).toInt = 880 := by decide
  have e : (880 + i).toInt = 880 + i.toInt := by
    rw [Int32.toInt_add, b8]
    exact Int.bmod_eq_of_le (by omega) (by omega)
  have e' : (880 + y).toInt = 880 + i.toInt + 1 := by
    rw [ey, Int32.toInt_add, b8, e2]
    rw [← Int.add_assoc]
    exact Int.bmod_eq_of_le (by omega) (by omega)
  refine Int32.le_iff_toInt_le.mpr ?_
  rw [ex, e1, e']
  omega
theorem in_of {a b c r : Int32} (e : r = f_X12_in a b c) (h : ¬ r = 0) : b ≤ a ∧ a ≤ c := by
  rw [e] at h
  unfold f_X12_in at h
  by_cases h1 : a < b
  · rw [if_pos h1] at h
    exact absurd rfl h
  · rw [if_neg h1] at h
    by_cases h2 : c < a
    · rw [if_pos h2] at h
      exact absurd rfl h
    · exact ⟨Int32.not_lt.mp h1, Int32.not_lt.mp h2⟩

