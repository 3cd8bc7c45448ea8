theorem i3_add {a b : Int32} {x y : Int} (ha : a.toInt = x) (hb : b.toInt = y) (h1 : -2147483648 ≤ x + y) (h2 : x + y ≤ 2147483647) : (a + b).toInt = x + y := by
  rw [Int32.toInt_add, ha, hb]; exact Int.bmod_eq_of_le (by omega) (by omega)
theorem i3_sub {a b : Int32} {x y : Int} (ha : a.toInt = x) (hb : b.toInt = y) (h1 : -2147483648 ≤ x - y) (h2 : x - y ≤ 2147483647) : (a - b).toInt = x - y := by
  rw [Int32.toInt_sub, ha, hb]; exact Int.bmod_eq_of_le (by omega) (by omega)
theorem i3_mul {a b : Int32} {x y : Int} (ha : a.toInt = x) (hb : b.toInt = y) (h1 : -2147483648 ≤ x * y) (h2 : x * y ≤ 2147483647) : (a * b).toInt = x * y := by
  rw [Int32.toInt_mul, ha, hb]; exact Int.bmod_eq_of_le (by omega) (by omega)
theorem i3_div {a b : Int32} {x y : Int} (ha : a.toInt = x) (hb : b.toInt = y) (h1 : 0 ≤ x) (h2 : 0 < y) : (a / b).toInt = x / y := by
  rw [Int32.toInt_div, ha, hb, Int.tdiv_eq_ediv_of_nonneg h1]
  have q1 : 0 ≤ x / y := Int.ediv_nonneg h1 (by omega)
  have q2 : x / y ≤ x := Int.ediv_le_self _ h1
  have q3 : a.toInt < 2147483648 := Int32.toInt_lt a
  exact Int.bmod_eq_of_le (by omega) (by omega)
theorem i3_lt {a b : Int32} {x y : Int} (ha : a.toInt = x) (hb : b.toInt = y) : a < b ↔ x < y := by rw [Int32.lt_iff_toInt_lt, ha, hb]
theorem i3_le {a b : Int32} {x y : Int} (ha : a.toInt = x) (hb : b.toInt = y) : a ≤ b ↔ x ≤ y := by rw [Int32.le_iff_toInt_le, ha, hb]
theorem i3_eq {a b : Int32} {x y : Int} (ha : a.toInt = x) (hb : b.toInt = y) : a = b ↔ x = y := by rw [← Int32.toInt_inj, ha, hb]

theorem q_len : f_X3_lengthOfMonth = f_X12_daysIn := rfl
theorem in_if (a b c : Int32) {α : Type} (x y : α) : (if f_X12_in a b c = 0 then x else y) = (if a < b then x else if c < a then x else y) := by
  unfold f_X12_in
  split
  · rfl
  · split <;> rfl
theorem le_lt (a b : Int32) {α : Type} (x y : α) : (if a ≤ b then x else y) = (if b < a then y else x) := by
  by_cases h : a ≤ b
  · rw [if_pos h, if_neg (Int32.not_lt.mpr h)]
  · rw [if_neg h, if_pos (Int32.not_le.mp h)]
theorem q_isDate (d : Int32) : f_X3_isDate d = f_X12_isDate d := by
  simp only [f_X3_isDate, f_X12_isDate, in_if, q_len, le_lt d 20791231]
  rfl
theorem t2 {a : Int32} : 2 < a ↔ 3 ≤ a := by rw [Int32.lt_iff_toInt_lt, Int32.le_iff_toInt_le]; exact ⟨fun h => h, fun h => h⟩
theorem q_day (d : Int32) : f_X3_dayOf d = f_X12_dayOf d - 723120 := by
  simp only [f_X3_dayOf, f_X12_dayOf, f_X12_march, t2]
  split <;> grind
theorem q_days (a b : Int32) : f_X11_days a b = f_X12_days a b := by
  simp only [f_X11_days, f_X12_days, q_isDate, q_day, f_X12_good]
  split
  · rfl
  · split
    · rfl
    · grind
theorem q_months (a b c : Int32) : f_X11_months a b c = f_X12_months a b c := by
  simp only [f_X11_months, f_X12_months, q_isDate, in_if, f_X12_good, f_X3_monthsFrom, f_X12_monthsFrom, f_X12_isMonthEnd, q_len, le_lt b 120]
  grind
theorem q_size (a : Int32) : f_X11_size a = f_X12_size a := by
  rfl

theorem date_bounds {d : Int32} (h : ¬ f_X12_isDate d = 0) : ∃ D Y MM DD : Int, d.toInt = D ∧ D = 10000 * Y + 100 * MM + DD ∧ 1980 ≤ Y ∧ Y ≤ 2079 ∧ 1 ≤ MM ∧ MM ≤ 12 ∧ 1 ≤ DD ∧ DD ≤ 31 ∧ (d / 10000).toInt = Y ∧ (d / 100 - d / 100 / 100 * 100).toInt = MM ∧ (d - d / 100 * 100).toInt = DD ∧ DD ≤ (f_X12_daysIn (d / 10000) (d / 100 - d / 100 / 100 * 100)).toInt := by
  simp only [f_X12_isDate, in_if] at h
  by_cases c1 : d < 19800101
  · rw [if_pos c1] at h; exact absurd rfl h
  rw [if_neg c1] at h
  by_cases c2 : 20791231 < d
  · rw [if_pos c2] at h; exact absurd rfl h
  rw [if_neg c2] at h
  by_cases c3 : d / 100 - d / 100 / 100 * 100 < 1
  · rw [if_pos c3] at h; exact absurd rfl h
  rw [if_neg c3] at h
  by_cases c4 : 12 < d / 100 - d / 100 / 100 * 100
  · rw [if_pos c4] at h; exact absurd rfl h
  rw [if_neg c4] at h
  by_cases c5 : d - d / 100 * 100 < 1
  · rw [if_pos c5] at h; exact absurd rfl h
  rw [if_neg c5] at h
  by_cases c6 : f_X12_daysIn (d / 10000) (d / 100 - d / 100 / 100 * 100) < d - d / 100 * 100
  · rw [if_pos c6] at h; exact absurd rfl h
  have k1 : (19800101 : Int) ≤ d.toInt := Int32.le_iff_toInt_le.mp (Int32.not_lt.mp c1)
  have k2 : d.toInt ≤ 20791231 := Int32.le_iff_toInt_le.mp (Int32.not_lt.mp c2)
  have e1 := i3_div (a := d) (b := 10000) (x := d.toInt) (y := 10000) rfl rfl (by omega) (by decide)
  have e2 := i3_div (a := d) (b := 100) (x := d.toInt) (y := 100) rfl rfl (by omega) (by decide)
  have e3 := i3_div (b := 100) (y := 100) e2 rfl (by omega) (by decide)
  have e4 := i3_mul (b := 100) (y := 100) e3 rfl (by omega) (by omega)
  have e5 := i3_sub e2 e4 (by omega) (by omega)
  have e6 := i3_mul (b := 100) (y := 100) e2 rfl (by omega) (by omega)
  have e7 := i3_sub (a := d) (x := d.toInt) rfl e6 (by omega) (by omega)
  have k3 : (1 : Int) ≤ _ := Int32.le_iff_toInt_le.mp (Int32.not_lt.mp c3)
  have k4 : _ ≤ (12 : Int) := Int32.le_iff_toInt_le.mp (Int32.not_lt.mp c4)
  have k5 : (1 : Int) ≤ _ := Int32.le_iff_toInt_le.mp (Int32.not_lt.mp c5)
  have k6 := Int32.le_iff_toInt_le.mp (Int32.not_lt.mp c6)
  have k7 : (f_X12_daysIn (d / 10000) (d / 100 - d / 100 / 100 * 100)).toInt ≤ 31 := by
    unfold f_X12_daysIn
    repeat' split
    all_goals decide
  rw [e5] at k3 k4
  rw [e7] at k5 k6
  exact ⟨d.toInt, d.toInt / 10000, d.toInt / 100 - d.toInt / 100 / 100 * 100, d.toInt - d.toInt / 100 * 100, rfl, by omega, by omega, by omega, k3, k4, k5, by omega, e1, e5, e7, k6⟩

theorem day_bounds {d : Int32} (h : ¬ f_X12_isDate d = 0) : ∃ Y MM DD YY FF : Int, d.toInt = 10000 * Y + 100 * MM + DD ∧ 1980 ≤ Y ∧ Y ≤ 2079 ∧ 1 ≤ MM ∧ MM ≤ 12 ∧ 1 ≤ DD ∧ DD ≤ 31 ∧ ((3 ≤ MM ∧ YY = Y ∧ FF = MM - 3) ∨ (MM ≤ 2 ∧ YY = Y - 1 ∧ FF = MM + 9)) ∧ (f_X12_dayOf d).toInt = 365 * YY + YY / 4 - YY / 100 + YY / 400 + (153 * FF + 2) / 5 + DD - 1 ∧ DD ≤ (f_X12_daysIn (d / 10000) (d / 100 - d / 100 / 100 * 100)).toInt ∧ (d / 10000).toInt = Y ∧ (d / 100 - d / 100 / 100 * 100).toInt = MM ∧ (d - d / 100 * 100).toInt = DD := by
  obtain ⟨D, Y, MM, DD, hD, eD, y1, y2, m1, m2, d1, d2, hY, hM, hDD, hL⟩ := date_bounds h
  unfold f_X12_dayOf f_X12_march
  by_cases c : 3 ≤ d / 100 - d / 100 / 100 * 100
  · have cm : (3 : Int) ≤ MM := by rw [← hM]; exact Int32.le_iff_toInt_le.mp c
    have t1 := i3_mul (a := 365) (b := (d / 10000)) (x := 365) (y := Y) rfl hY (by omega) (by omega)
    obtain ⟨z1, ez1⟩ : ∃ q : Int, q = (365 * Y) := ⟨_, rfl⟩
    rw [← ez1] at t1
    have t2 := i3_div (a := (d / 10000)) (b := 4) (x := Y) (y := 4) hY rfl (by omega) (by omega)
    obtain ⟨z2, ez2⟩ : ∃ q : Int, q = (Y / 4) := ⟨_, rfl⟩
    rw [← ez2] at t2
    have t3 := i3_add (a := (365 * (d / 10000))) (b := ((d / 10000) / 4)) (x := z1) (y := z2) t1 t2 (by omega) (by omega)
    obtain ⟨z3, ez3⟩ : ∃ q : Int, q = (z1 + z2) := ⟨_, rfl⟩
    rw [← ez3] at t3
    have t4 := i3_div (a := (d / 10000)) (b := 100) (x := Y) (y := 100) hY rfl (by omega) (by omega)
    obtain ⟨z4, ez4⟩ : ∃ q : Int, q = (Y / 100) := ⟨_, rfl⟩
    rw [← ez4] at t4
    have t5 := i3_sub (a := ((365 * (d / 10000)) + ((d / 10000) / 4))) (b := ((d / 10000) / 100)) (x := z3) (y := z4) t3 t4 (by omega) (by omega)
    obtain ⟨z5, ez5⟩ : ∃ q : Int, q = (z3 - z4) := ⟨_, rfl⟩
    rw [← ez5] at t5
    have t6 := i3_div (a := (d / 10000)) (b := 400) (x := Y) (y := 400) hY rfl (by omega) (by omega)
    obtain ⟨z6, ez6⟩ : ∃ q : Int, q = (Y / 400) := ⟨_, rfl⟩
    rw [← ez6] at t6
    have t7 := i3_add (a := (((365 * (d / 10000)) + ((d / 10000) / 4)) - ((d / 10000) / 100))) (b := ((d / 10000) / 400)) (x := z5) (y := z6) t5 t6 (by omega) (by omega)
    obtain ⟨z7, ez7⟩ : ∃ q : Int, q = (z5 + z6) := ⟨_, rfl⟩
    rw [← ez7] at t7
    have t8 := i3_sub (a := ((d / 100) - (((d / 100) / 100) * 100))) (b := 3) (x := MM) (y := 3) hM rfl (by omega) (by omega)
    obtain ⟨z8, ez8⟩ : ∃ q : Int, q = (MM - 3) := ⟨_, rfl⟩
    rw [← ez8] at t8
    have t9 := i3_mul (a := 153) (b := (((d / 100) - (((d / 100) / 100) * 100)) - 3)) (x := 153) (y := z8) rfl t8 (by omega) (by omega)
    obtain ⟨z9, ez9⟩ : ∃ q : Int, q = (153 * z8) := ⟨_, rfl⟩
    rw [← ez9] at t9
    have t10 := i3_add (a := (153 * (((d / 100) - (((d / 100) / 100) * 100)) - 3))) (b := 2) (x := z9) (y := 2) t9 rfl (by omega) (by omega)
    obtain ⟨z10, ez10⟩ : ∃ q : Int, q = (z9 + 2) := ⟨_, rfl⟩
    rw [← ez10] at t10
    have t11 := i3_div (a := ((153 * (((d / 100) - (((d / 100) / 100) * 100)) - 3)) + 2)) (b := 5) (x := z10) (y := 5) t10 rfl (by omega) (by omega)
    obtain ⟨z11, ez11⟩ : ∃ q : Int, q = (z10 / 5) := ⟨_, rfl⟩
    rw [← ez11] at t11
    have t12 := i3_add (a := ((((365 * (d / 10000)) + ((d / 10000) / 4)) - ((d / 10000) / 100)) + ((d / 10000) / 400))) (b := (((153 * (((d / 100) - (((d / 100) / 100) * 100)) - 3)) + 2) / 5)) (x := z7) (y := z11) t7 t11 (by omega) (by omega)
    obtain ⟨z12, ez12⟩ : ∃ q : Int, q = (z7 + z11) := ⟨_, rfl⟩
    rw [← ez12] at t12
    have t13 := i3_add (a := (((((365 * (d / 10000)) + ((d / 10000) / 4)) - ((d / 10000) / 100)) + ((d / 10000) / 400)) + (((153 * (((d / 100) - (((d / 100) / 100) * 100)) - 3)) + 2) / 5))) (b := (d - ((d / 100) * 100))) (x := z12) (y := DD) t12 hDD (by omega) (by omega)
    obtain ⟨z13, ez13⟩ : ∃ q : Int, q = (z12 + DD) := ⟨_, rfl⟩
    rw [← ez13] at t13
    have t14 := i3_sub (a := ((((((365 * (d / 10000)) + ((d / 10000) / 4)) - ((d / 10000) / 100)) + ((d / 10000) / 400)) + (((153 * (((d / 100) - (((d / 100) / 100) * 100)) - 3)) + 2) / 5)) + (d - ((d / 100) * 100)))) (b := 1) (x := z13) (y := 1) t13 rfl (by omega) (by omega)
    obtain ⟨z14, ez14⟩ : ∃ q : Int, q = (z13 - 1) := ⟨_, rfl⟩
    rw [← ez14] at t14
    rw [if_pos c]
    refine ⟨Y, MM, DD, Y, MM - 3, by omega, y1, y2, m1, m2, d1, d2, Or.inl ⟨by omega, rfl, rfl⟩, ?_, hL, hY, hM, hDD⟩
    exact t14.trans (by omega)
  · have cm : MM < 3 := by rw [← hM]; exact Int32.lt_iff_toInt_lt.mp (Int32.not_le.mp c)
    have t1 := i3_sub (a := (d / 10000)) (b := 1) (x := Y) (y := 1) hY rfl (by omega) (by omega)
    obtain ⟨z1, ez1⟩ : ∃ q : Int, q = (Y - 1) := ⟨_, rfl⟩
    rw [← ez1] at t1
    have t2 := i3_mul (a := 365) (b := ((d / 10000) - 1)) (x := 365) (y := z1) rfl t1 (by omega) (by omega)
    obtain ⟨z2, ez2⟩ : ∃ q : Int, q = (365 * z1) := ⟨_, rfl⟩
    rw [← ez2] at t2
    have t3 := i3_div (a := ((d / 10000) - 1)) (b := 4) (x := z1) (y := 4) t1 rfl (by omega) (by omega)
    obtain ⟨z3, ez3⟩ : ∃ q : Int, q = (z1 / 4) := ⟨_, rfl⟩
    rw [← ez3] at t3
    have t4 := i3_add (a := (365 * ((d / 10000) - 1))) (b := (((d / 10000) - 1) / 4)) (x := z2) (y := z3) t2 t3 (by omega) (by omega)
    obtain ⟨z4, ez4⟩ : ∃ q : Int, q = (z2 + z3) := ⟨_, rfl⟩
    rw [← ez4] at t4
    have t5 := i3_div (a := ((d / 10000) - 1)) (b := 100) (x := z1) (y := 100) t1 rfl (by omega) (by omega)
    obtain ⟨z5, ez5⟩ : ∃ q : Int, q = (z1 / 100) := ⟨_, rfl⟩
    rw [← ez5] at t5
    have t6 := i3_sub (a := ((365 * ((d / 10000) - 1)) + (((d / 10000) - 1) / 4))) (b := (((d / 10000) - 1) / 100)) (x := z4) (y := z5) t4 t5 (by omega) (by omega)
    obtain ⟨z6, ez6⟩ : ∃ q : Int, q = (z4 - z5) := ⟨_, rfl⟩
    rw [← ez6] at t6
    have t7 := i3_div (a := ((d / 10000) - 1)) (b := 400) (x := z1) (y := 400) t1 rfl (by omega) (by omega)
    obtain ⟨z7, ez7⟩ : ∃ q : Int, q = (z1 / 400) := ⟨_, rfl⟩
    rw [← ez7] at t7
    have t8 := i3_add (a := (((365 * ((d / 10000) - 1)) + (((d / 10000) - 1) / 4)) - (((d / 10000) - 1) / 100))) (b := (((d / 10000) - 1) / 400)) (x := z6) (y := z7) t6 t7 (by omega) (by omega)
    obtain ⟨z8, ez8⟩ : ∃ q : Int, q = (z6 + z7) := ⟨_, rfl⟩
    rw [← ez8] at t8
    have t9 := i3_add (a := ((d / 100) - (((d / 100) / 100) * 100))) (b := 9) (x := MM) (y := 9) hM rfl (by omega) (by omega)
    obtain ⟨z9, ez9⟩ : ∃ q : Int, q = (MM + 9) := ⟨_, rfl⟩
    rw [← ez9] at t9
    have t10 := i3_mul (a := 153) (b := (((d / 100) - (((d / 100) / 100) * 100)) + 9)) (x := 153) (y := z9) rfl t9 (by omega) (by omega)
    obtain ⟨z10, ez10⟩ : ∃ q : Int, q = (153 * z9) := ⟨_, rfl⟩
    rw [← ez10] at t10
    have t11 := i3_add (a := (153 * (((d / 100) - (((d / 100) / 100) * 100)) + 9))) (b := 2) (x := z10) (y := 2) t10 rfl (by omega) (by omega)
    obtain ⟨z11, ez11⟩ : ∃ q : Int, q = (z10 + 2) := ⟨_, rfl⟩
    rw [← ez11] at t11
    have t12 := i3_div (a := ((153 * (((d / 100) - (((d / 100) / 100) * 100)) + 9)) + 2)) (b := 5) (x := z11) (y := 5) t11 rfl (by omega) (by omega)
    obtain ⟨z12, ez12⟩ : ∃ q : Int, q = (z11 / 5) := ⟨_, rfl⟩
    rw [← ez12] at t12
    have t13 := i3_add (a := ((((365 * ((d / 10000) - 1)) + (((d / 10000) - 1) / 4)) - (((d / 10000) - 1) / 100)) + (((d / 10000) - 1) / 400))) (b := (((153 * (((d / 100) - (((d / 100) / 100) * 100)) + 9)) + 2) / 5)) (x := z8) (y := z12) t8 t12 (by omega) (by omega)
    obtain ⟨z13, ez13⟩ : ∃ q : Int, q = (z8 + z12) := ⟨_, rfl⟩
    rw [← ez13] at t13
    have t14 := i3_add (a := (((((365 * ((d / 10000) - 1)) + (((d / 10000) - 1) / 4)) - (((d / 10000) - 1) / 100)) + (((d / 10000) - 1) / 400)) + (((153 * (((d / 100) - (((d / 100) / 100) * 100)) + 9)) + 2) / 5))) (b := (d - ((d / 100) * 100))) (x := z13) (y := DD) t13 hDD (by omega) (by omega)
    obtain ⟨z14, ez14⟩ : ∃ q : Int, q = (z13 + DD) := ⟨_, rfl⟩
    rw [← ez14] at t14
    have t15 := i3_sub (a := ((((((365 * ((d / 10000) - 1)) + (((d / 10000) - 1) / 4)) - (((d / 10000) - 1) / 100)) + (((d / 10000) - 1) / 400)) + (((153 * (((d / 100) - (((d / 100) / 100) * 100)) + 9)) + 2) / 5)) + (d - ((d / 100) * 100)))) (b := 1) (x := z14) (y := 1) t14 rfl (by omega) (by omega)
    obtain ⟨z15, ez15⟩ : ∃ q : Int, q = (z14 - 1) := ⟨_, rfl⟩
    rw [← ez15] at t15
    rw [if_neg c]
    refine ⟨Y, MM, DD, Y - 1, MM + 9, by omega, y1, y2, m1, m2, d1, d2, Or.inr ⟨by omega, rfl, rfl⟩, ?_, hL, hY, hM, hDD⟩
    exact t15.trans (by omega)
theorem day_range {d : Int32} (h : ¬ f_X12_isDate d = 0) : 723120 ≤ (f_X12_dayOf d).toInt ∧ (f_X12_dayOf d).toInt ≤ 759644 := by
  obtain ⟨Y, MM, DD, YY, FF, -, y1, y2, m1, m2, d1, d2, hc, e, -, -, -, -⟩ := day_bounds h
  rw [e]
  rcases hc with ⟨q1, q2, q3⟩ | ⟨q1, q2, q3⟩
  · have : MM = 3 ∨ MM = 4 ∨ MM = 5 ∨ MM = 6 ∨ MM = 7 ∨ MM = 8 ∨ MM = 9 ∨ MM = 10 ∨ MM = 11 ∨ MM = 12 := by omega
    constructor
    · omega
    · omega
  · constructor
    · omega
    · omega
theorem xor7 (a : Int32) : (0 ≤ a ^^^ 7) ↔ 0 ≤ a.toInt := by
  have h : (a.toBitVec ^^^ (7 : Int32).toBitVec).msb = a.toBitVec.msb := by
    rw [BitVec.msb_xor]
    show (a.toBitVec.msb ^^ false) = _
    simp
  rw [BitVec.msb_eq_toInt, BitVec.msb_eq_toInt, decide_eq_decide] at h
  rw [Int32.le_iff_toInt_le]
  have e : (a ^^^ 7).toInt = (a.toBitVec ^^^ (7 : Int32).toBitVec).toInt := rfl
  have e0 : (0 : Int32).toInt = 0 := rfl
  have e1 : a.toInt = a.toBitVec.toInt := rfl
  rw [e, e0, e1]
  constructor
  · intro q; exact Int.not_lt.mp (fun z => absurd (h.mpr z) (Int.not_lt.mpr q))
  · intro q; exact Int.not_lt.mp (fun z => absurd (h.mp z) (Int.not_lt.mpr q))
theorem i3_divn {a : Int32} {x : Int} (ha : a.toInt = x) (h1 : x < 0) (h2 : -2147483648 < x) : (a / 7).toInt = -((-x) / 7) := by
  have e : (7 : Int32).toInt = 7 := rfl
  rw [Int32.toInt_div, ha, e]
  have q : x.tdiv 7 = -((-x) / 7) := by
    have := Int.neg_tdiv (-x) 7
    rw [Int.neg_neg] at this
    rw [this, Int.tdiv_eq_ediv_of_nonneg (by omega)]
  rw [q]
  exact Int.bmod_eq_of_le (by omega) (by omega)
theorem wd_eq {t : Int32} (h1 : -1000 ≤ t.toInt) (h2 : t.toInt ≤ 1000000) : f_X3_weekdayOf t = (t + 7000001) - (t + 7000001) / 7 * 7 := by
  apply Int32.toInt_inj.mp
  have a1 := i3_add (a := t) (b := 7000001) (x := t.toInt) (y := 7000001) rfl rfl (by omega) (by omega)
  have a2 := i3_div (b := 7) (y := 7) a1 rfl (by omega) (by decide)
  have a3 := i3_mul (b := 7) (y := 7) a2 rfl (by omega) (by omega)
  have a4 := i3_sub a1 a3 (by omega) (by omega)
  have b1 := i3_add (a := t) (b := 1) (x := t.toInt) (y := 1) rfl rfl (by omega) (by omega)
  have hL : f_X3_weekdayOf t = f_J9_floorMod_7cf53 (t + 1) 7 := rfl
  rw [hL, a4]
  by_cases c : 0 ≤ ((t + 1) ^^^ 7)
  · have c' := (xor7 _).mp c
    rw [b1] at c'
    have b2 := i3_div (b := 7) (y := 7) b1 rfl (by omega) (by decide)
    have b3 := i3_mul (b := 7) (y := 7) b2 rfl (by omega) (by omega)
    have b4 := i3_sub b1 b3 (by omega) (by omega)
    have hv : f_J9_floorMod_7cf53 (t + 1) 7 = t + 1 - (t + 1) / 7 * 7 := if_pos c
    rw [hv, b4]
    clear hL hv a1 a2 a3 a4 b1 b2 b3 b4 c
    generalize t.toInt = T at *
    omega
  · have c' : t.toInt + 1 < 0 := by
      have this : ¬ 0 ≤ (t + 1).toInt := fun q => c ((xor7 _).mpr q)
      rw [b1] at this
      omega
    have b2 := i3_divn b1 c' (by omega)
    have b3 := i3_mul (b := 7) (y := 7) b2 rfl (by omega) (by omega)
    have b4 := i3_sub b1 b3 (by omega) (by omega)
    by_cases z : t + 1 - (t + 1) / 7 * 7 = 0
    · have hv : f_J9_floorMod_7cf53 (t + 1) 7 = t + 1 - (t + 1) / 7 * 7 := (if_neg c).trans (if_pos z)
      rw [hv, b4]
      have z' := (i3_eq (b := 0) (y := 0) b4 rfl).mp z
      clear hL hv a1 a2 a3 a4 b1 b2 b3 b4 c z
      generalize t.toInt = T at *
      omega
    · have hv : f_J9_floorMod_7cf53 (t + 1) 7 = t + 1 - (t + 1) / 7 * 7 + 7 := (if_neg c).trans (if_neg z)
      rw [hv]
      have z' : ¬ _ := fun q => z ((i3_eq (b := 0) (y := 0) b4 rfl).mpr q)
      have b5 := i3_add (b := 7) (y := 7) b4 rfl (by omega) (by omega)
      rw [b5]
      clear hL hv a1 a2 a3 a4 b1 b2 b3 b4 b5 c z
      generalize t.toInt = T at *
      omega
theorem wd_both {c : Int32} (h1 : 722120 ≤ c.toInt) (h2 : c.toInt ≤ 1000000) : f_X3_weekdayOf (c - 723120) = f_X12_weekdayOf c := by
  have a1 := i3_sub (a := c) (b := 723120) (x := c.toInt) (y := 723120) rfl rfl (by omega) (by omega)
  rw [wd_eq (by rw [a1]; omega) (by rw [a1]; omega)]
  rfl
theorem q_weekday (a : Int32) : f_X11_weekday a = f_X12_weekday a := by
  unfold f_X11_weekday f_X12_weekday
  rw [q_isDate]
  by_cases h : f_X12_isDate a = 0
  · rw [if_pos h, if_pos h]
  · rw [if_neg h, if_neg h, q_day]
    have r := day_range h
    exact wd_both (by omega) (by omega)
theorem biz_w (v : Int32) : (if 5 ≤ v then (0 : Int32) else 1) = (if v ≤ 4 then (1 : Int32) else 0) := by
  by_cases q : v ≤ 4
  · have q' : ¬ 5 ≤ v := by
      intro z
      have z1 := Int32.le_iff_toInt_le.mp z
      have z2 := Int32.le_iff_toInt_le.mp q
      have e5 : (5 : Int32).toInt = 5 := rfl
      have e4 : (4 : Int32).toInt = 4 := rfl
      omega
    rw [if_pos q, if_neg q']
  · have q' : 5 ≤ v := by
      apply Int32.le_iff_toInt_le.mpr
      have z2 := Int32.lt_iff_toInt_lt.mp (Int32.not_le.mp q)
      have e5 : (5 : Int32).toInt = 5 := rfl
      have e4 : (4 : Int32).toInt = 4 := rfl
      omega
    rw [if_neg q, if_pos q']
theorem biz_v (v : Int32) : (if (if 5 ≤ v then (0 : Int32) else 1) = 0 then (0 : Int32) else 1) = (if (if v ≤ 4 then (1 : Int32) else 0) = 0 then (0 : Int32) else 1) := by rw [biz_w]
/-- a BUSINESS DAY of the one is one of the other -/
theorem isB_eq {c : Int32} (h1 : 722120 ≤ c.toInt) (h2 : c.toInt ≤ 1000000) : f_X5_isBusinessDay (c - 723120) = f_X12_isBusiness c := by
  unfold f_X5_isBusinessDay f_X12_isBusiness
  rw [wd_both h1 h2]
  exact biz_w _

