theorem fd_0 {t x : Int32} (h0 : 0 ≤ t) (hm : t ≤ 900) (h : x ≤ 900) (e : x = t + 20) : t ≤ 880 + 0 := by
  have a := Int32.le_iff_toInt_le.mp h0
  have b := Int32.le_iff_toInt_le.mp h
  have c := Int32.le_iff_toInt_le.mp hm
  have b0 : (0 : Int32).toInt = 0 := by decide
  have b9 : (900 : Int32).toInt = 900 := by decide
  have b2 : (20 : Int32).toInt = 20 := by decide
  have b8 : (880 + 0 : Int32).toInt = 880 := by decide
  have e1 : x.toInt = t.toInt + 20 := by
    rw [e, Int32.toInt_add, b2]
    exact Int.bmod_eq_of_le (by omega) (by omega)
  exact Int32.le_iff_toInt_le.mpr (by omega)
theorem fd_l {t i : Int32} (h : t ≤ 880 + i) (h0 : 0 ≤ t) (hi : 0 ≤ i) (h1 : i < 20) : t < 900 := by
  have a := Int32.le_iff_toInt_le.mp h
  have b := Int32.le_iff_toInt_le.mp hi
  have c := Int32.lt_iff_toInt_lt.mp h1
  have b0 : (0 : Int32).toInt = 0 := by decide
  have b9 : (900 : Int32).toInt = 900 := by decide
  have b2 : (20 : Int32).toInt = 20 := by decide
  have b8 : (880 : Int32).toInt = 880 := by decide
  have e : (880 + i).toInt = 880 + i.toInt := by
    rw [Int32.toInt_add, b8]
    exact Int.bmod_eq_of_le (by omega) (by omega)
  exact Int32.lt_iff_toInt_lt.mpr (by omega)
theorem fd_s {t i x y : Int32} (h : t ≤ 880 + i) (h0 : 0 ≤ t) (hi : 0 ≤ i) (h1 : i < 20) (ex : x = t + 1) (ey : y = i + 1) : x ≤ 880 + y := by
  have hl := fd_l h h0 hi h1
  have e1 := add1 h0 hl
  have e2 := add1 hi h1
  have a := Int32.le_iff_toInt_le.mp h
  have b := Int32.le_iff_toInt_le.mp hi
  have c := Int32.lt_iff_toInt_lt.mp h1
  have b0 : (0 : Int32).toInt = 0 := by decide
  have b2 : (20 : Int32).toInt = 20 := by decide
  have b8 : (880 : Int32).toInt = 880 := by decide
  have e : (880 + i).toInt = 880 + i.toInt := by
    rw [Int32.toInt_add, b8]
    exact Int.bmod_eq_of_le (by omega) (by omega)
  have e' : (880 + y).toInt = 880 + i.toInt + 1 := by
    rw [ey, Int32.toInt_add, b8, e2]
    rw [← Int.add_assoc]
    exact Int.bmod_eq_of_le (by omega) (by omega)
  refine Int32.le_iff_toInt_le.mpr ?_
  rw [ex, e1, e']
  omega
theorem in_of {a b c r : Int32} (e : r = f_X12_in a b c) (h : ¬ r = 0) : b ≤ a ∧ a ≤ c := by
  rw [e] at h
  unfold f_X12_in at h
  by_cases h1 : a < b
  · rw [if_pos h1] at h
    exact absurd rfl h
  · rw [if_neg h1] at h
    by_cases h2 : c < a
    · rw [if_pos h2] at h
      exact absurd rfl h
    · exact ⟨Int32.not_lt.mp h1, Int32.not_lt.mp h2⟩

