theorem i3_add {a b : Int32} {x y : Int} (ha : a.toInt = x) (hb : b.toInt = y) (h1 : -2147483648 ≤ x + y) (h2 : x + y ≤ 2147483647) : (a + b).toInt = x + y := by
  rw [Int32.toInt_add, ha, hb]; exact Int.bmod_eq_of_le (by omega) (by omega)
theorem i3_sub {a b : Int32} {x y : Int} (ha : a.toInt = x) (hb : b.toInt = y) (h1 : -2147483648 ≤ x - y) (h2 : x - y ≤ 2147483647) : (a - b).toInt = x - y := by
  rw [Int32.toInt_sub, ha, hb]; exact Int.bmod_eq_of_le (by omega) (by omega)
theorem i3_mul {a b : Int32} {x y : Int} (ha : a.toInt = x) (hb : b.toInt = y) (h1 : -2147483648 ≤ x * y) (h2 : x * y ≤ 2147483647) : (a * b).toInt = x * y := by
  rw [Int32.toInt_mul, ha, hb]; exact Int.bmod_eq_of_le (by omega) (by omega)
theorem i3_div {a b : Int32} {x y : Int} (ha : a.toInt = x) (hb : b.toInt = y) (h1 : 0 ≤ x) (h2 : 0 < y) : (a / b).toInt = x / y := by
  rw [Int32.toInt_div, ha, hb, Int.tdiv_eq_ediv_of_nonneg h1]
  have q1 : 0 ≤ x / y := Int.ediv_nonneg h1 (by omega)
  have q2 : x / y ≤ x := Int.ediv_le_self _ h1
  have q3 : a.toInt < 2147483648 := Int32.toInt_lt a
  exact Int.bmod_eq_of_le (by omega) (by omega)
theorem i3_lt {a b : Int32} {x y : Int} (ha : a.toInt = x) (hb : b.toInt = y) : a < b ↔ x < y := by rw [Int32.lt_iff_toInt_lt, ha, hb]
theorem i3_le {a b : Int32} {x y : Int} (ha : a.toInt = x) (hb : b.toInt = y) : a ≤ b ↔ x ≤ y := by rw [Int32.le_iff_toInt_le, ha, hb]
theorem i3_eq {a b : Int32} {x y : Int} (ha : a.toInt = x) (hb : b.toInt = y) : a = b ↔ x = y := by rw [← Int32.toInt_inj, ha, hb]

theorem i6_sub {a b : Int64} {x y : Int} (ha : a.toInt = x) (hb : b.toInt = y) (h1 : -9223372036854775808 ≤ x - y) (h2 : x - y ≤ 9223372036854775807) : (a - b).toInt = x - y := by
  rw [Int64.toInt_sub, ha, hb]; exact Int.bmod_eq_of_le (by omega) (by omega)
theorem i6_mul {a b : Int64} {x y : Int} (ha : a.toInt = x) (hb : b.toInt = y) (h1 : -9223372036854775808 ≤ x * y) (h2 : x * y ≤ 9223372036854775807) : (a * b).toInt = x * y := by
  rw [Int64.toInt_mul, ha, hb]; exact Int.bmod_eq_of_le (by omega) (by omega)
theorem i6_div {a b : Int64} {x y : Int} (ha : a.toInt = x) (hb : b.toInt = y) (h1 : 0 ≤ x) (h2 : 0 < y) : (a / b).toInt = x / y := by
  rw [Int64.toInt_div, ha, hb, Int.tdiv_eq_ediv_of_nonneg h1]
  have q1 : 0 ≤ x / y := Int.ediv_nonneg h1 (by omega)
  have q2 : x / y ≤ x := Int.ediv_le_self _ h1
  have q3 : a.toInt < 9223372036854775808 := Int64.toInt_lt a
  exact Int.bmod_eq_of_le (by omega) (by omega)
def gcdB : Nat → Int64 → Int64 → Bool
  | 0, _, y => decide (lg_cmp y 0 = 0)
  | n + 1, x, y => decide (lg_cmp y 0 = 0) || gcdB n y (x - x / y * y)
theorem gcdB_S : ∀ (n : Nat) (x y : Int64), gcdB n x y = true → gcdS n x y := by
  intro n
  induction n with
  | zero =>
    intro x y h
    show lg_cmp y 0 = 0
    exact of_decide_eq_true h
  | succ n ih =>
    intro x y h hne
    have h2 : gcdB n y (x - x / y * y) = true := by
      have h3 : (decide (lg_cmp y 0 = 0) || gcdB n y (x - x / y * y)) = true := h
      rw [decide_eq_false hne, Bool.false_or] at h3
      exact h3
    exact ih _ _ h2
theorem absL_pos (x : Int32) : 0 ≤ (absL x.toInt64).toInt := by
  have e : x.toInt64.toInt = x.toInt := Int32.toInt_toInt64 x
  have b1 : -2147483648 ≤ x.toInt := Int32.le_toInt x
  have b2 : x.toInt < 2147483648 := Int32.toInt_lt x
  unfold absL
  split
  · rename_i h
    have h := Int64.le_iff_toInt_le.mp ((lg_cmp_ge _ _).mp h)
    exact h
  · rename_i h
    have h2 : x.toInt64.toInt < 0 := by
      by_cases q : x.toInt64.toInt < 0
      · exact q
      · exact absurd ((lg_cmp_ge _ _).mpr (Int64.le_iff_toInt_le.mpr (show (0 : Int64).toInt ≤ _ from Int.not_lt.mp q))) h
    rw [Int64.toInt_neg, Int.bmod_eq_of_le (by omega) (by omega)]
    omega

theorem rem_360 {A : Int64} (hA : 0 ≤ A.toInt) : ∃ m : Nat, m < 360 ∧ A - A / 360 * 360 = lN m := by
  have hA2 : A.toInt < 9223372036854775808 := Int64.toInt_lt A
  have h1 := i6_div (a := A) (b := 360) (x := A.toInt) (y := 360) rfl rfl hA (by decide)
  have h2 := i6_mul (b := 360) (y := 360) h1 rfl (by omega) (by omega)
  have h3 := i6_sub (rfl : A.toInt = A.toInt) h2 (by omega) (by omega)
  refine ⟨(A.toInt % 360).toNat, by omega, ?_⟩
  apply Int64.toInt_inj.mp
  rw [h3, lN_toInt (by omega)]
  omega
theorem gtab_360 : ∀ m : Nat, m < 360 → gcdB 199 360 (lN m) = true ∧ 0 ≤ lg_cmp (gcdN 199 360 (lN m)) 1 := by decide +kernel
theorem gcd_core_360 {A : Int64} (hA : 0 ≤ A.toInt) : gcdS 200 A 360 ∧ 0 ≤ lg_cmp (gcdN 200 A 360) 1 := by
  obtain ⟨m, hm, e⟩ := rem_360 hA
  obtain ⟨t1, t2⟩ := gtab_360 m hm
  have hne : ¬ lg_cmp (360 : Int64) 0 = 0 := by decide
  constructor
  · show ¬ lg_cmp 360 0 = 0 → gcdS 199 360 (A - A / 360 * 360)
    intro _
    rw [e]
    exact gcdB_S _ _ _ t1
  · show 0 ≤ lg_cmp (gcdN (199 + 1) A 360) 1
    rw [gcdN, if_neg hne, e]
    exact t2
theorem gcd_360 (x : Int32) : gcdS 200 (absL x.toInt64) 360 := (gcd_core_360 (absL_pos x)).1
theorem comm_360 (x : Int32) : f_X12_common x.toInt64 360 = gcdN 200 (absL x.toInt64) 360 := by
  unfold f_X12_common absL
  split <;> rfl
theorem gcn_360 (x : Int32) : ¬ f_X12_common x.toInt64 360 = 0 := by
  rw [comm_360]
  exact nz_a (gcd_core_360 (absL_pos x)).2
theorem set_360 (u w : Int64) (x : Int32) : f_X6_set u w x.toInt64 360 = f_X12_sets x.toInt64 360 := by
  have h := (gcd_core_360 (absL_pos x)).2
  unfold f_X6_set f_X12_sets
  rw [comm_360]
  unfold absL at h ⊢
  by_cases c : 0 ≤ lg_cmp x.toInt64 0
  · rw [if_pos c] at h ⊢
    rw [if_pos c]
    have h9 : 0 ≤ lg_cmp (f_X6_commonDivisor x.toInt64 360) 1 := h
    exact if_pos h9
  · rw [if_neg c] at h ⊢
    rw [if_neg c]
    have h9 : 0 ≤ lg_cmp (f_X6_commonDivisor (-x.toInt64) 360) 1 := h
    exact if_pos h9

theorem rem_365 {A : Int64} (hA : 0 ≤ A.toInt) : ∃ m : Nat, m < 365 ∧ A - A / 365 * 365 = lN m := by
  have hA2 : A.toInt < 9223372036854775808 := Int64.toInt_lt A
  have h1 := i6_div (a := A) (b := 365) (x := A.toInt) (y := 365) rfl rfl hA (by decide)
  have h2 := i6_mul (b := 365) (y := 365) h1 rfl (by omega) (by omega)
  have h3 := i6_sub (rfl : A.toInt = A.toInt) h2 (by omega) (by omega)
  refine ⟨(A.toInt % 365).toNat, by omega, ?_⟩
  apply Int64.toInt_inj.mp
  rw [h3, lN_toInt (by omega)]
  omega
theorem gtab_365 : ∀ m : Nat, m < 365 → gcdB 199 365 (lN m) = true ∧ 0 ≤ lg_cmp (gcdN 199 365 (lN m)) 1 := by decide +kernel
theorem gcd_core_365 {A : Int64} (hA : 0 ≤ A.toInt) : gcdS 200 A 365 ∧ 0 ≤ lg_cmp (gcdN 200 A 365) 1 := by
  obtain ⟨m, hm, e⟩ := rem_365 hA
  obtain ⟨t1, t2⟩ := gtab_365 m hm
  have hne : ¬ lg_cmp (365 : Int64) 0 = 0 := by decide
  constructor
  · show ¬ lg_cmp 365 0 = 0 → gcdS 199 365 (A - A / 365 * 365)
    intro _
    rw [e]
    exact gcdB_S _ _ _ t1
  · show 0 ≤ lg_cmp (gcdN (199 + 1) A 365) 1
    rw [gcdN, if_neg hne, e]
    exact t2
theorem gcd_365 (x : Int32) : gcdS 200 (absL x.toInt64) 365 := (gcd_core_365 (absL_pos x)).1
theorem comm_365 (x : Int32) : f_X12_common x.toInt64 365 = gcdN 200 (absL x.toInt64) 365 := by
  unfold f_X12_common absL
  split <;> rfl
theorem gcn_365 (x : Int32) : ¬ f_X12_common x.toInt64 365 = 0 := by
  rw [comm_365]
  exact nz_a (gcd_core_365 (absL_pos x)).2
theorem set_365 (u w : Int64) (x : Int32) : f_X6_set u w x.toInt64 365 = f_X12_sets x.toInt64 365 := by
  have h := (gcd_core_365 (absL_pos x)).2
  unfold f_X6_set f_X12_sets
  rw [comm_365]
  unfold absL at h ⊢
  by_cases c : 0 ≤ lg_cmp x.toInt64 0
  · rw [if_pos c] at h ⊢
    rw [if_pos c]
    have h9 : 0 ≤ lg_cmp (f_X6_commonDivisor x.toInt64 365) 1 := h
    exact if_pos h9
  · rw [if_neg c] at h ⊢
    rw [if_neg c]
    have h9 : 0 ≤ lg_cmp (f_X6_commonDivisor (-x.toInt64) 365) 1 := h
    exact if_pos h9

theorem q_len : f_X3_lengthOfMonth = f_X12_daysIn := rfl
theorem in_if (a b c : Int32) {α : Type} (x y : α) : (if f_X12_in a b c = 0 then x else y) = (if a < b then x else if c < a then x else y) := by
  unfold f_X12_in
  split
  · rfl
  · split <;> rfl
theorem le_lt (a b : Int32) {α : Type} (x y : α) : (if a ≤ b then x else y) = (if b < a then y else x) := by
  by_cases h : a ≤ b
  · rw [if_pos h, if_neg (Int32.not_lt.mpr h)]
  · rw [if_neg h, if_pos (Int32.not_le.mp h)]
theorem q_isDate (d : Int32) : f_X3_isDate d = f_X12_isDate d := by
  simp only [f_X3_isDate, f_X12_isDate, in_if, q_len, le_lt d 20791231]
  rfl
theorem t2 {a : Int32} : 2 < a ↔ 3 ≤ a := by rw [Int32.lt_iff_toInt_lt, Int32.le_iff_toInt_le]; exact ⟨fun h => h, fun h => h⟩
theorem q_day (d : Int32) : f_X3_dayOf d = f_X12_dayOf d - 723120 := by
  simp only [f_X3_dayOf, f_X12_dayOf, f_X12_march, t2]
  split <;> grind
theorem q_days (a b : Int32) : f_X11_days a b = f_X12_days a b := by
  simp only [f_X11_days, f_X12_days, q_isDate, q_day, f_X12_good]
  split
  · rfl
  · split
    · rfl
    · grind
theorem q_months (a b c : Int32) : f_X11_months a b c = f_X12_months a b c := by
  simp only [f_X11_months, f_X12_months, q_isDate, in_if, f_X12_good, f_X3_monthsFrom, f_X12_monthsFrom, f_X12_isMonthEnd, q_len, le_lt b 120]
  grind
theorem q_size (a : Int32) : f_X11_size a = f_X12_size a := by
  rfl

theorem date_bounds {d : Int32} (h : ¬ f_X12_isDate d = 0) : ∃ D Y MM DD : Int, d.toInt = D ∧ D = 10000 * Y + 100 * MM + DD ∧ 1980 ≤ Y ∧ Y ≤ 2079 ∧ 1 ≤ MM ∧ MM ≤ 12 ∧ 1 ≤ DD ∧ DD ≤ 31 ∧ (d / 10000).toInt = Y ∧ (d / 100 - d / 100 / 100 * 100).toInt = MM ∧ (d - d / 100 * 100).toInt = DD ∧ DD ≤ (f_X12_daysIn (d / 10000) (d / 100 - d / 100 / 100 * 100)).toInt := by
  simp only [f_X12_isDate, in_if] at h
  by_cases c1 : d < 19800101
  · rw [if_pos c1] at h; exact absurd rfl h
  rw [if_neg c1] at h
  by_cases c2 : 20791231 < d
  · rw [if_pos c2] at h; exact absurd rfl h
  rw [if_neg c2] at h
  by_cases c3 : d / 100 - d / 100 / 100 * 100 < 1
  · rw [if_pos c3] at h; exact absurd rfl h
  rw [if_neg c3] at h
  by_cases c4 : 12 < d / 100 - d / 100 / 100 * 100
  · rw [if_pos c4] at h; exact absurd rfl h
  rw [if_neg c4] at h
  by_cases c5 : d - d / 100 * 100 < 1
  · rw [if_pos c5] at h; exact absurd rfl h
  rw [if_neg c5] at h
  by_cases c6 : f_X12_daysIn (d / 10000) (d / 100 - d / 100 / 100 * 100) < d - d / 100 * 100
  · rw [if_pos c6] at h; exact absurd rfl h
  have k1 : (19800101 : Int) ≤ d.toInt := Int32.le_iff_toInt_le.mp (Int32.not_lt.mp c1)
  have k2 : d.toInt ≤ 20791231 := Int32.le_iff_toInt_le.mp (Int32.not_lt.mp c2)
  have e1 := i3_div (a := d) (b := 10000) (x := d.toInt) (y := 10000) rfl rfl (by omega) (by decide)
  have e2 := i3_div (a := d) (b := 100) (x := d.toInt) (y := 100) rfl rfl (by omega) (by decide)
  have e3 := i3_div (b := 100) (y := 100) e2 rfl (by omega) (by decide)
  have e4 := i3_mul (b := 100) (y := 100) e3 rfl (by omega) (by omega)
  have e5 := i3_sub e2 e4 (by omega) (by omega)
  have e6 := i3_mul (b := 100) (y := 100) e2 rfl (by omega) (by omega)
  have e7 := i3_sub (a := d) (x := d.toInt) rfl e6 (by omega) (by omega)
  have k3 : (1 : Int) ≤ _ := Int32.le_iff_toInt_le.mp (Int32.not_lt.mp c3)
  have k4 : _ ≤ (12 : Int) := Int32.le_iff_toInt_le.mp (Int32.not_lt.mp c4)
  have k5 : (1 : Int) ≤ _ := Int32.le_iff_toInt_le.mp (Int32.not_lt.mp c5)
  have k6 := Int32.le_iff_toInt_le.mp (Int32.not_lt.mp c6)
  have k7 : (f_X12_daysIn (d / 10000) (d / 100 - d / 100 / 100 * 100)).toInt ≤ 31 := by
    unfold f_X12_daysIn
    repeat' split
    all_goals decide
  rw [e5] at k3 k4
  rw [e7] at k5 k6
  exact ⟨d.toInt, d.toInt / 10000, d.toInt / 100 - d.toInt / 100 / 100 * 100, d.toInt - d.toInt / 100 * 100, rfl, by omega, by omega, by omega, k3, k4, k5, by omega, e1, e5, e7, k6⟩

theorem day_bounds {d : Int32} (h : ¬ f_X12_isDate d = 0) : ∃ Y MM DD YY FF : Int, d.toInt = 10000 * Y + 100 * MM + DD ∧ 1980 ≤ Y ∧ Y ≤ 2079 ∧ 1 ≤ MM ∧ MM ≤ 12 ∧ 1 ≤ DD ∧ DD ≤ 31 ∧ ((3 ≤ MM ∧ YY = Y ∧ FF = MM - 3) ∨ (MM ≤ 2 ∧ YY = Y - 1 ∧ FF = MM + 9)) ∧ (f_X12_dayOf d).toInt = 365 * YY + YY / 4 - YY / 100 + YY / 400 + (153 * FF + 2) / 5 + DD - 1 ∧ DD ≤ (f_X12_daysIn (d / 10000) (d / 100 - d / 100 / 100 * 100)).toInt ∧ (d / 10000).toInt = Y ∧ (d / 100 - d / 100 / 100 * 100).toInt = MM ∧ (d - d / 100 * 100).toInt = DD := by
  obtain ⟨D, Y, MM, DD, hD, eD, y1, y2, m1, m2, d1, d2, hY, hM, hDD, hL⟩ := date_bounds h
  unfold f_X12_dayOf f_X12_march
  by_cases c : 3 ≤ d / 100 - d / 100 / 100 * 100
  · have cm : (3 : Int) ≤ MM := by rw [← hM]; exact Int32.le_iff_toInt_le.mp c
    have t1 := i3_mul (a := 365) (b := (d / 10000)) (x := 365) (y := Y) rfl hY (by omega) (by omega)
    obtain ⟨z1, ez1⟩ : ∃ q : Int, q = (365 * Y) := ⟨_, rfl⟩
    rw [← ez1] at t1
    have t2 := i3_div (a := (d / 10000)) (b := 4) (x := Y) (y := 4) hY rfl (by omega) (by omega)
    obtain ⟨z2, ez2⟩ : ∃ q : Int, q = (Y / 4) := ⟨_, rfl⟩
    rw [← ez2] at t2
    have t3 := i3_add (a := (365 * (d / 10000))) (b := ((d / 10000) / 4)) (x := z1) (y := z2) t1 t2 (by omega) (by omega)
    obtain ⟨z3, ez3⟩ : ∃ q : Int, q = (z1 + z2) := ⟨_, rfl⟩
    rw [← ez3] at t3
    have t4 := i3_div (a := (d / 10000)) (b := 100) (x := Y) (y := 100) hY rfl (by omega) (by omega)
    obtain ⟨z4, ez4⟩ : ∃ q : Int, q = (Y / 100) := ⟨_, rfl⟩
    rw [← ez4] at t4
    have t5 := i3_sub (a := ((365 * (d / 10000)) + ((d / 10000) / 4))) (b := ((d / 10000) / 100)) (x := z3) (y := z4) t3 t4 (by omega) (by omega)
    obtain ⟨z5, ez5⟩ : ∃ q : Int, q = (z3 - z4) := ⟨_, rfl⟩
    rw [← ez5] at t5
    have t6 := i3_div (a := (d / 10000)) (b := 400) (x := Y) (y := 400) hY rfl (by omega) (by omega)
    obtain ⟨z6, ez6⟩ : ∃ q : Int, q = (Y / 400) := ⟨_, rfl⟩
    rw [← ez6] at t6
    have t7 := i3_add (a := (((365 * (d / 10000)) + ((d / 10000) / 4)) - ((d / 10000) / 100))) (b := ((d / 10000) / 400)) (x := z5) (y := z6) t5 t6 (by omega) (by omega)
    obtain ⟨z7, ez7⟩ : ∃ q : Int, q = (z5 + z6) := ⟨_, rfl⟩
    rw [← ez7] at t7
    have t8 := i3_sub (a := ((d / 100) - (((d / 100) / 100) * 100))) (b := 3) (x := MM) (y := 3) hM rfl (by omega) (by omega)
    obtain ⟨z8, ez8⟩ : ∃ q : Int, q = (MM - 3) := ⟨_, rfl⟩
    rw [← ez8] at t8
    have t9 := i3_mul (a := 153) (b := (((d / 100) - (((d / 100) / 100) * 100)) - 3)) (x := 153) (y := z8) rfl t8 (by omega) (by omega)
    obtain ⟨z9, ez9⟩ : ∃ q : Int, q = (153 * z8) := ⟨_, rfl⟩
    rw [← ez9] at t9
    have t10 := i3_add (a := (153 * (((d / 100) - (((d / 100) / 100) * 100)) - 3))) (b := 2) (x := z9) (y := 2) t9 rfl (by omega) (by omega)
    obtain ⟨z10, ez10⟩ : ∃ q : Int, q = (z9 + 2) := ⟨_, rfl⟩
    rw [← ez10] at t10
    have t11 := i3_div (a := ((153 * (((d / 100) - (((d / 100) / 100) * 100)) - 3)) + 2)) (b := 5) (x := z10) (y := 5) t10 rfl (by omega) (by omega)
    obtain ⟨z11, ez11⟩ : ∃ q : Int, q = (z10 / 5) := ⟨_, rfl⟩
    rw [← ez11] at t11
    have t12 := i3_add (a := ((((365 * (d / 10000)) + ((d / 10000) / 4)) - ((d / 10000) / 100)) + ((d / 10000) / 400))) (b := (((153 * (((d / 100) - (((d / 100) / 100) * 100)) - 3)) + 2) / 5)) (x := z7) (y := z11) t7 t11 (by omega) (by omega)
    obtain ⟨z12, ez12⟩ : ∃ q : Int, q = (z7 + z11) := ⟨_, rfl⟩
    rw [← ez12] at t12
    have t13 := i3_add (a := (((((365 * (d / 10000)) + ((d / 10000) / 4)) - ((d / 10000) / 100)) + ((d / 10000) / 400)) + (((153 * (((d / 100) - (((d / 100) / 100) * 100)) - 3)) + 2) / 5))) (b := (d - ((d / 100) * 100))) (x := z12) (y := DD) t12 hDD (by omega) (by omega)
    obtain ⟨z13, ez13⟩ : ∃ q : Int, q = (z12 + DD) := ⟨_, rfl⟩
    rw [← ez13] at t13
    have t14 := i3_sub (a := ((((((365 * (d / 10000)) + ((d / 10000) / 4)) - ((d / 10000) / 100)) + ((d / 10000) / 400)) + (((153 * (((d / 100) - (((d / 100) / 100) * 100)) - 3)) + 2) / 5)) + (d - ((d / 100) * 100)))) (b := 1) (x := z13) (y := 1) t13 rfl (by omega) (by omega)
    obtain ⟨z14, ez14⟩ : ∃ q : Int, q = (z13 - 1) := ⟨_, rfl⟩
    rw [← ez14] at t14
    rw [if_pos c]
    refine ⟨Y, MM, DD, Y, MM - 3, by omega, y1, y2, m1, m2, d1, d2, Or.inl ⟨by omega, rfl, rfl⟩, ?_, hL, hY, hM, hDD⟩
    exact t14.trans (by omega)
  · have cm : MM < 3 := by rw [← hM]; exact Int32.lt_iff_toInt_lt.mp (Int32.not_le.mp c)
    have t1 := i3_sub (a := (d / 10000)) (b := 1) (x := Y) (y := 1) hY rfl (by omega) (by omega)
    obtain ⟨z1, ez1⟩ : ∃ q : Int, q = (Y - 1) := ⟨_, rfl⟩
    rw [← ez1] at t1
    have t2 := i3_mul (a := 365) (b := ((d / 10000) - 1)) (x := 365) (y := z1) rfl t1 (by omega) (by omega)
    obtain ⟨z2, ez2⟩ : ∃ q : Int, q = (365 * z1) := ⟨_, rfl⟩
    rw [← ez2] at t2
    have t3 := i3_div (a := ((d / 10000) - 1)) (b := 4) (x := z1) (y := 4) t1 rfl (by omega) (by omega)
    obtain ⟨z3, ez3⟩ : ∃ q : Int, q = (z1 / 4) := ⟨_, rfl⟩
    rw [← ez3] at t3
    have t4 := i3_add (a := (365 * ((d / 10000) - 1))) (b := (((d / 10000) - 1) / 4)) (x := z2) (y := z3) t2 t3 (by omega) (by omega)
    obtain ⟨z4, ez4⟩ : ∃ q : Int, q = (z2 + z3) := ⟨_, rfl⟩
    rw [← ez4] at t4
    have t5 := i3_div (a := ((d / 10000) - 1)) (b := 100) (x := z1) (y := 100) t1 rfl (by omega) (by omega)
    obtain ⟨z5, ez5⟩ : ∃ q : Int, q = (z1 / 100) := ⟨_, rfl⟩
    rw [← ez5] at t5
    have t6 := i3_sub (a := ((365 * ((d / 10000) - 1)) + (((d / 10000) - 1) / 4))) (b := (((d / 10000) - 1) / 100)) (x := z4) (y := z5) t4 t5 (by omega) (by omega)
    obtain ⟨z6, ez6⟩ : ∃ q : Int, q = (z4 - z5) := ⟨_, rfl⟩
    rw [← ez6] at t6
    have t7 := i3_div (a := ((d / 10000) - 1)) (b := 400) (x := z1) (y := 400) t1 rfl (by omega) (by omega)
    obtain ⟨z7, ez7⟩ : ∃ q : Int, q = (z1 / 400) := ⟨_, rfl⟩
    rw [← ez7] at t7
    have t8 := i3_add (a := (((365 * ((d / 10000) - 1)) + (((d / 10000) - 1) / 4)) - (((d / 10000) - 1) / 100))) (b := (((d / 10000) - 1) / 400)) (x := z6) (y := z7) t6 t7 (by omega) (by omega)
    obtain ⟨z8, ez8⟩ : ∃ q : Int, q = (z6 + z7) := ⟨_, rfl⟩
    rw [← ez8] at t8
    have t9 := i3_add (a := ((d / 100) - (((d / 100) / 100) * 100))) (b := 9) (x := MM) (y := 9) hM rfl (by omega) (by omega)
    obtain ⟨z9, ez9⟩ : ∃ q : Int, q = (MM + 9) := ⟨_, rfl⟩
    rw [← ez9] at t9
    have t10 := i3_mul (a := 153) (b := (((d / 100) - (((d / 100) / 100) * 100)) + 9)) (x := 153) (y := z9) rfl t9 (by omega) (by omega)
    obtain ⟨z10, ez10⟩ : ∃ q : Int, q = (153 * z9) := ⟨_, rfl⟩
    rw [← ez10] at t10
    have t11 := i3_add (a := (153 * (((d / 100) - (((d / 100) / 100) * 100)) + 9))) (b := 2) (x := z10) (y := 2) t10 rfl (by omega) (by omega)
    obtain ⟨z11, ez11⟩ : ∃ q : Int, q = (z10 + 2) := ⟨_, rfl⟩
    rw [← ez11] at t11
    have t12 := i3_div (a := ((153 * (((d / 100) - (((d / 100) / 100) * 100)) + 9)) + 2)) (b := 5) (x := z11) (y := 5) t11 rfl (by omega) (by omega)
    obtain ⟨z12, ez12⟩ : ∃ q : Int, q = (z11 / 5) := ⟨_, rfl⟩
    rw [← ez12] at t12
    have t13 := i3_add (a := ((((365 * ((d / 10000) - 1)) + (((d / 10000) - 1) / 4)) - (((d / 10000) - 1) / 100)) + (((d / 10000) - 1) / 400))) (b := (((153 * (((d / 100) - (((d / 100) / 100) * 100)) + 9)) + 2) / 5)) (x := z8) (y := z12) t8 t12 (by omega) (by omega)
    obtain ⟨z13, ez13⟩ : ∃ q : Int, q = (z8 + z12) := ⟨_, rfl⟩
    rw [← ez13] at t13
    have t14 := i3_add (a := (((((365 * ((d / 10000) - 1)) + (((d / 10000) - 1) / 4)) - (((d / 10000) - 1) / 100)) + (((d / 10000) - 1) / 400)) + (((153 * (((d / 100) - (((d / 100) / 100) * 100)) + 9)) + 2) / 5))) (b := (d - ((d / 100) * 100))) (x := z13) (y := DD) t13 hDD (by omega) (by omega)
    obtain ⟨z14, ez14⟩ : ∃ q : Int, q = (z13 + DD) := ⟨_, rfl⟩
    rw [← ez14] at t14
    have t15 := i3_sub (a := ((((((365 * ((d / 10000) - 1)) + (((d / 10000) - 1) / 4)) - (((d / 10000) - 1) / 100)) + (((d / 10000) - 1) / 400)) + (((153 * (((d / 100) - (((d / 100) / 100) * 100)) + 9)) + 2) / 5)) + (d - ((d / 100) * 100)))) (b := 1) (x := z14) (y := 1) t14 rfl (by omega) (by omega)
    obtain ⟨z15, ez15⟩ : ∃ q : Int, q = (z14 - 1) := ⟨_, rfl⟩
    rw [← ez15] at t15
    rw [if_neg c]
    refine ⟨Y, MM, DD, Y - 1, MM + 9, by omega, y1, y2, m1, m2, d1, d2, Or.inr ⟨by omega, rfl, rfl⟩, ?_, hL, hY, hM, hDD⟩
    exact t15.trans (by omega)
theorem day_range {d : Int32} (h : ¬ f_X12_isDate d = 0) : 723120 ≤ (f_X12_dayOf d).toInt ∧ (f_X12_dayOf d).toInt ≤ 759644 := by
  obtain ⟨Y, MM, DD, YY, FF, -, y1, y2, m1, m2, d1, d2, hc, e, -, -, -, -⟩ := day_bounds h
  rw [e]
  rcases hc with ⟨q1, q2, q3⟩ | ⟨q1, q2, q3⟩
  · have : MM = 3 ∨ MM = 4 ∨ MM = 5 ∨ MM = 6 ∨ MM = 7 ∨ MM = 8 ∨ MM = 9 ∨ MM = 10 ∨ MM = 11 ∨ MM = 12 := by omega
    constructor
    · omega
    · omega
  · constructor
    · omega
    · omega
theorem xor7 (a : Int32) : (0 ≤ a ^^^ 7) ↔ 0 ≤ a.toInt := by
  have h : (a.toBitVec ^^^ (7 : Int32).toBitVec).msb = a.toBitVec.msb := by
    rw [BitVec.msb_xor]
    show (a.toBitVec.msb ^^ false) = _
    simp
  rw [BitVec.msb_eq_toInt, BitVec.msb_eq_toInt, decide_eq_decide] at h
  rw [Int32.le_iff_toInt_le]
  have e : (a ^^^ 7).toInt = (a.toBitVec ^^^ (7 : Int32).toBitVec).toInt := rfl
  have e0 : (0 : Int32).toInt = 0 := rfl
  have e1 : a.toInt = a.toBitVec.toInt := rfl
  rw [e, e0, e1]
  constructor
  · intro q; exact Int.not_lt.mp (fun z => absurd (h.mpr z) (Int.not_lt.mpr q))
  · intro q; exact Int.not_lt.mp (fun z => absurd (h.mp z) (Int.not_lt.mpr q))
theorem i3_divn {a : Int32} {x : Int} (ha : a.toInt = x) (h1 : x < 0) (h2 : -2147483648 < x) : (a / 7).toInt = -((-x) / 7) := by
  have e : (7 : Int32).toInt = 7 := rfl
  rw [Int32.toInt_div, ha, e]
  have q : x.tdiv 7 = -((-x) / 7) := by
    have := Int.neg_tdiv (-x) 7
    rw [Int.neg_neg] at this
    rw [this, Int.tdiv_eq_ediv_of_nonneg (by omega)]
  rw [q]
  exact Int.bmod_eq_of_le (by omega) (by omega)
theorem wd_eq {t : Int32} (h1 : -1000 ≤ t.toInt) (h2 : t.toInt ≤ 1000000) : f_X3_weekdayOf t = (t + 7000001) - (t + 7000001) / 7 * 7 := by
  apply Int32.toInt_inj.mp
  have a1 := i3_add (a := t) (b := 7000001) (x := t.toInt) (y := 7000001) rfl rfl (by omega) (by omega)
  have a2 := i3_div (b := 7) (y := 7) a1 rfl (by omega) (by decide)
  have a3 := i3_mul (b := 7) (y := 7) a2 rfl (by omega) (by omega)
  have a4 := i3_sub a1 a3 (by omega) (by omega)
  have b1 := i3_add (a := t) (b := 1) (x := t.toInt) (y := 1) rfl rfl (by omega) (by omega)
  have hL : f_X3_weekdayOf t = f_J9_floorMod_7cf53 (t + 1) 7 := rfl
  rw [hL, a4]
  by_cases c : 0 ≤ ((t + 1) ^^^ 7)
  · have c' := (xor7 _).mp c
    rw [b1] at c'
    have b2 := i3_div (b := 7) (y := 7) b1 rfl (by omega) (by decide)
    have b3 := i3_mul (b := 7) (y := 7) b2 rfl (by omega) (by omega)
    have b4 := i3_sub b1 b3 (by omega) (by omega)
    have hv : f_J9_floorMod_7cf53 (t + 1) 7 = t + 1 - (t + 1) / 7 * 7 := if_pos c
    rw [hv, b4]
    clear hL hv a1 a2 a3 a4 b1 b2 b3 b4 c
    generalize t.toInt = T at *
    omega
  · have c' : t.toInt + 1 < 0 := by
      have this : ¬ 0 ≤ (t + 1).toInt := fun q => c ((xor7 _).mpr q)
      rw [b1] at this
      omega
    have b2 := i3_divn b1 c' (by omega)
    have b3 := i3_mul (b := 7) (y := 7) b2 rfl (by omega) (by omega)
    have b4 := i3_sub b1 b3 (by omega) (by omega)
    by_cases z : t + 1 - (t + 1) / 7 * 7 = 0
    · have hv : f_J9_floorMod_7cf53 (t + 1) 7 = t + 1 - (t + 1) / 7 * 7 := (if_neg c).trans (if_pos z)
      rw [hv, b4]
      have z' := (i3_eq (b := 0) (y := 0) b4 rfl).mp z
      clear hL hv a1 a2 a3 a4 b1 b2 b3 b4 c z
      generalize t.toInt = T at *
      omega
    · have hv : f_J9_floorMod_7cf53 (t + 1) 7 = t + 1 - (t + 1) / 7 * 7 + 7 := (if_neg c).trans (if_neg z)
      rw [hv]
      have z' : ¬ _ := fun q => z ((i3_eq (b := 0) (y := 0) b4 rfl).mpr q)
      have b5 := i3_add (b := 7) (y := 7) b4 rfl (by omega) (by omega)
      rw [b5]
      clear hL hv a1 a2 a3 a4 b1 b2 b3 b4 b5 c z
      generalize t.toInt = T at *
      omega
theorem wd_both {c : Int32} (h1 : 722120 ≤ c.toInt) (h2 : c.toInt ≤ 1000000) : f_X3_weekdayOf (c - 723120) = f_X12_weekdayOf c := by
  have a1 := i3_sub (a := c) (b := 723120) (x := c.toInt) (y := 723120) rfl rfl (by omega) (by omega)
  rw [wd_eq (by rw [a1]; omega) (by rw [a1]; omega)]
  rfl
theorem q_weekday (a : Int32) : f_X11_weekday a = f_X12_weekday a := by
  unfold f_X11_weekday f_X12_weekday
  rw [q_isDate]
  by_cases h : f_X12_isDate a = 0
  · rw [if_pos h, if_pos h]
  · rw [if_neg h, if_neg h, q_day]
    have r := day_range h
    exact wd_both (by omega) (by omega)
theorem biz_w (v : Int32) : (if 5 ≤ v then (0 : Int32) else 1) = (if v ≤ 4 then (1 : Int32) else 0) := by
  by_cases q : v ≤ 4
  · have q' : ¬ 5 ≤ v := by
      intro z
      have z1 := Int32.le_iff_toInt_le.mp z
      have z2 := Int32.le_iff_toInt_le.mp q
      have e5 : (5 : Int32).toInt = 5 := rfl
      have e4 : (4 : Int32).toInt = 4 := rfl
      omega
    rw [if_pos q, if_neg q']
  · have q' : 5 ≤ v := by
      apply Int32.le_iff_toInt_le.mpr
      have z2 := Int32.lt_iff_toInt_lt.mp (Int32.not_le.mp q)
      have e5 : (5 : Int32).toInt = 5 := rfl
      have e4 : (4 : Int32).toInt = 4 := rfl
      omega
    rw [if_neg q, if_pos q']
theorem biz_v (v : Int32) : (if (if 5 ≤ v then (0 : Int32) else 1) = 0 then (0 : Int32) else 1) = (if (if v ≤ 4 then (1 : Int32) else 0) = 0 then (0 : Int32) else 1) := by rw [biz_w]
/-- a BUSINESS DAY of the one is one of the other -/
theorem isB_eq {c : Int32} (h1 : 722120 ≤ c.toInt) (h2 : c.toInt ≤ 1000000) : f_X5_isBusinessDay (c - 723120) = f_X12_isBusiness c := by
  unfold f_X5_isBusinessDay f_X12_isBusiness
  rw [wd_both h1 h2]
  exact biz_w _

theorem wd_z {a : Int32} (h1 : 722120 ≤ a.toInt) (h2 : a.toInt ≤ 1000000) : (f_X12_weekdayOf a).toInt = (a.toInt + 6276881) % 7 := by
  have a0 := i3_sub (a := a) (b := 723120) (x := a.toInt) (y := 723120) rfl rfl (by omega) (by omega)
  have a1 := i3_add (b := 7000001) (y := 7000001) a0 rfl (by omega) (by omega)
  have a2 := i3_div (b := 7) (y := 7) a1 rfl (by omega) (by decide)
  have a3 := i3_mul (b := 7) (y := 7) a2 rfl (by omega) (by omega)
  have a4 := i3_sub a1 a3 (by omega) (by omega)
  have e : f_X12_weekdayOf a = (a - 723120 + 7000001) - (a - 723120 + 7000001) / 7 * 7 := rfl
  rw [e, a4]
  clear e a0 a1 a2 a3 a4
  omega
theorem isB_z {a : Int32} (h1 : 722120 ≤ a.toInt) (h2 : a.toInt ≤ 1000000) : f_X12_isBusiness a = 0 ↔ 5 ≤ (a.toInt + 6276881) % 7 := by
  have w := wd_z h1 h2
  unfold f_X12_isBusiness
  obtain ⟨v, hv⟩ : ∃ v, v = f_X12_weekdayOf a := ⟨_, rfl⟩
  have w2 : v.toInt = (a.toInt + 6276881) % 7 := by rw [hv]; exact w
  have hs : (if v ≤ 4 then (1 : Int32) else 0) = 0 ↔ 5 ≤ v.toInt := by
    by_cases q : v ≤ 4
    · have q1 : v.toInt ≤ 4 := Int32.le_iff_toInt_le.mp q
      rw [if_pos q]
      exact ⟨fun z => absurd z (by decide), fun z => absurd q1 (by omega)⟩
    · have q1 : (4 : Int) < v.toInt := Int32.lt_iff_toInt_lt.mp (Int32.not_le.mp q)
      rw [if_neg q]
      exact ⟨fun _ => by omega, fun _ => rfl⟩
  rw [hv] at hs w2
  rw [w2] at hs
  exact hs

theorem biz_up : ∀ (n : Nat) (l a : Int32), 0 ≤ l.toInt → l.toInt ≤ 60 → 722120 + (n : Int) ≤ a.toInt → a.toInt + n ≤ 1000000 →
    (((a.toInt + 6276881) % 7 = 5 ∧ 3 * l.toInt - 1 ≤ n) ∨ ((a.toInt + 6276881) % 7 = 6 ∧ 3 * l.toInt - 2 ≤ n) ∨ 3 * l.toInt ≤ n) → bizS n 1 l a := by
  intro n
  induction n with
  | zero =>
    intro l a l0 l1 a0 a1 h
    show l ≤ 0
    apply Int32.le_iff_toInt_le.mpr
    have e0 : (0 : Int32).toInt = 0 := rfl
    omega
  | succ n ih =>
    intro l a l0 l1 a0 a1 h hne
    have l2 : (0 : Int) < l.toInt := Int32.lt_iff_toInt_lt.mp (Int32.not_le.mp hne)
    have e1 := i3_add (a := a) (b := 1) (x := a.toInt) (y := 1) rfl rfl (by omega) (by omega)
    have b := isB_z (a := a + 1) (by rw [e1]; omega) (by rw [e1]; omega)
    have m0 := i3_sub (a := l) (b := 0) (x := l.toInt) (y := 0) rfl rfl (by omega) (by omega)
    have m1 := i3_sub (a := l) (b := 1) (x := l.toInt) (y := 1) rfl rfl (by omega) (by omega)
    rw [e1] at b
    constructor
    · intro q
      have q := b.mp q
      exact ih (l - 0) (a + 1) (by rw [m0]; omega) (by rw [m0]; omega) (by rw [e1]; omega) (by rw [e1]; omega) (by rw [m0, e1]; omega)
    · intro q
      have q : ¬ _ := fun z => q (b.mpr z)
      exact ih (l - 1) (a + 1) (by rw [m1]; omega) (by rw [m1]; omega) (by rw [e1]; omega) (by rw [e1]; omega) (by rw [m1, e1]; omega)

theorem biz_dn : ∀ (n : Nat) (l a : Int32), 0 ≤ l.toInt → l.toInt ≤ 60 → 722120 + (n : Int) ≤ a.toInt → a.toInt + n ≤ 1000000 →
    (((a.toInt + 6276881) % 7 = 6 ∧ 3 * l.toInt - 1 ≤ n) ∨ ((a.toInt + 6276881) % 7 = 5 ∧ 3 * l.toInt - 2 ≤ n) ∨ 3 * l.toInt ≤ n) → bizS n (-1) l a := by
  intro n
  induction n with
  | zero =>
    intro l a l0 l1 a0 a1 h
    show l ≤ 0
    apply Int32.le_iff_toInt_le.mpr
    have e0 : (0 : Int32).toInt = 0 := rfl
    omega
  | succ n ih =>
    intro l a l0 l1 a0 a1 h hne
    have l2 : (0 : Int) < l.toInt := Int32.lt_iff_toInt_lt.mp (Int32.not_le.mp hne)
    have e1 := i3_add (a := a) (b := (-1)) (x := a.toInt) (y := -1) rfl rfl (by omega) (by omega)
    have b := isB_z (a := a + (-1)) (by rw [e1]; omega) (by rw [e1]; omega)
    have m0 := i3_sub (a := l) (b := 0) (x := l.toInt) (y := 0) rfl rfl (by omega) (by omega)
    have m1 := i3_sub (a := l) (b := 1) (x := l.toInt) (y := 1) rfl rfl (by omega) (by omega)
    rw [e1] at b
    constructor
    · intro q
      have q := b.mp q
      exact ih (l - 0) (a + (-1)) (by rw [m0]; omega) (by rw [m0]; omega) (by rw [e1]; omega) (by rw [e1]; omega) (by rw [m0, e1]; omega)
    · intro q
      have q : ¬ _ := fun z => q (b.mpr z)
      exact ih (l - 1) (a + (-1)) (by rw [m1]; omega) (by rw [m1]; omega) (by rw [e1]; omega) (by rw [e1]; omega) (by rw [m1, e1]; omega)

theorem biz_su : ∀ (n : Nat) (l a : Int32), 722120 + (n : Int) ≤ a.toInt → a.toInt + n ≤ 1000000 → bizN n 1 l (a - 723120) = bizM n 1 l a - 723120 ∧ a.toInt - n ≤ (bizM n 1 l a).toInt ∧ (bizM n 1 l a).toInt ≤ a.toInt + n := by
  intro n
  induction n with
  | zero => intro l a a0 a1; exact ⟨rfl, by show a.toInt - _ ≤ a.toInt; omega, by show a.toInt ≤ _; omega⟩
  | succ n ih =>
    intro l a a0 a1
    have e1 := i3_add (a := a) (b := 1) (x := a.toInt) (y := 1) rfl rfl (by omega) (by omega)
    have sh : a - 723120 + 1 = (a + 1) - 723120 := by grind
    have b := isB_eq (c := a + 1) (by rw [e1]; omega) (by rw [e1]; omega)
    have i0 := ih (l - 0) (a + 1) (by rw [e1]; omega) (by rw [e1]; omega)
    have i1 := ih (l - 1) (a + 1) (by rw [e1]; omega) (by rw [e1]; omega)
    have z0 : l - 0 = l := by grind
    have z1 : l + (-1) = l - 1 := by grind
    rw [bizN, bizM, sh, b, z1]
    by_cases c : l ≤ 0
    · rw [if_pos c, if_pos c]
      exact ⟨rfl, by omega, by omega⟩
    · rw [if_neg c, if_neg c]
      by_cases d : f_X12_isBusiness (a + 1) = 0
      · rw [if_pos d, if_pos d]
        rw [e1] at i0
        rw [z0] at i0 ⊢
        exact ⟨i0.1, by omega, by omega⟩
      · rw [if_neg d, if_neg d]
        rw [e1] at i1
        exact ⟨i1.1, by omega, by omega⟩

theorem biz_sd : ∀ (n : Nat) (l a : Int32), 722120 + (n : Int) ≤ a.toInt → a.toInt + n ≤ 1000000 → bizN n (-1) l (a - 723120) = bizM n (-1) l a - 723120 ∧ a.toInt - n ≤ (bizM n (-1) l a).toInt ∧ (bizM n (-1) l a).toInt ≤ a.toInt + n := by
  intro n
  induction n with
  | zero => intro l a a0 a1; exact ⟨rfl, by show a.toInt - _ ≤ a.toInt; omega, by show a.toInt ≤ _; omega⟩
  | succ n ih =>
    intro l a a0 a1
    have e1 := i3_add (a := a) (b := (-1)) (x := a.toInt) (y := -1) rfl rfl (by omega) (by omega)
    have sh : a - 723120 + (-1) = (a + (-1)) - 723120 := by grind
    have b := isB_eq (c := a + (-1)) (by rw [e1]; omega) (by rw [e1]; omega)
    have i0 := ih (l - 0) (a + (-1)) (by rw [e1]; omega) (by rw [e1]; omega)
    have i1 := ih (l - 1) (a + (-1)) (by rw [e1]; omega) (by rw [e1]; omega)
    have z0 : l - 0 = l := by grind
    have z1 : l + (-1) = l - 1 := by grind
    rw [bizN, bizM, sh, b, z1]
    by_cases c : l ≤ 0
    · rw [if_pos c, if_pos c]
      exact ⟨rfl, by omega, by omega⟩
    · rw [if_neg c, if_neg c]
      by_cases d : f_X12_isBusiness (a + (-1)) = 0
      · rw [if_pos d, if_pos d]
        rw [e1] at i0
        rw [z0] at i0 ⊢
        exact ⟨i0.1, by omega, by omega⟩
      · rw [if_neg d, if_neg d]
        rw [e1] at i1
        exact ⟨i1.1, by omega, by omega⟩

theorem in60 {n : Int32} (h : ¬ f_X12_in n (-60) 60 = 0) : -60 ≤ n.toInt ∧ n.toInt ≤ 60 := by
  have e := in_if n (-60) 60 (α := Prop) False True
  by_cases c1 : n < -60
  · exact absurd (by unfold f_X12_in; rw [if_pos c1]) h
  by_cases c2 : 60 < n
  · exact absurd (by unfold f_X12_in; rw [if_neg c1, if_pos c2]) h
  exact ⟨Int32.le_iff_toInt_le.mp (Int32.not_lt.mp c1), Int32.le_iff_toInt_le.mp (Int32.not_lt.mp c2)⟩
theorem biz_ok (p0 p1 : Int32) (h1 : ¬ f_X12_isDate p0 = 0) (h2 : ¬ f_X12_in p1 (-60) 60 = 0) : bizS 1000 (if 0 ≤ p1 then 1 else (-1)) (if 0 ≤ p1 then p1 else (-p1)) (f_X12_dayOf p0) := by
  obtain ⟨r1, r2⟩ := day_range h1
  obtain ⟨n1, n2⟩ := in60 h2
  by_cases c : 0 ≤ p1
  · have c' : (0 : Int) ≤ p1.toInt := Int32.le_iff_toInt_le.mp c
    rw [if_pos c, if_pos c]
    exact biz_up 1000 p1 _ c' n2 (by omega) (by omega) (by omega)
  · have c' : p1.toInt < (0 : Int) := Int32.lt_iff_toInt_lt.mp (Int32.not_le.mp c)
    rw [if_neg c, if_neg c]
    have e : (-p1).toInt = -p1.toInt := by rw [Int32.toInt_neg]; exact Int.bmod_eq_of_le (by omega) (by omega)
    exact biz_dn 1000 (-p1) _ (by rw [e]; omega) (by rw [e]; omega) (by omega) (by omega) (by rw [e]; omega)
theorem biz_rng (p0 p1 : Int32) (h1 : ¬ f_X12_isDate p0 = 0) : f_X5_businessDaysFrom (f_X12_dayOf p0 - 723120) p1 = f_X12_businessAfter (f_X12_dayOf p0) p1 - 723120 ∧ 722120 ≤ (f_X12_businessAfter (f_X12_dayOf p0) p1).toInt ∧ (f_X12_businessAfter (f_X12_dayOf p0) p1).toInt ≤ 763120 := by
  obtain ⟨r1, r2⟩ := day_range h1
  by_cases c : 0 ≤ p1
  · have e1 : f_X5_businessDaysFrom (f_X12_dayOf p0 - 723120) p1 = bizN 1000 1 p1 (f_X12_dayOf p0 - 723120) := if_pos c
    have e2 : f_X12_businessAfter (f_X12_dayOf p0) p1 = bizM 1000 1 p1 (f_X12_dayOf p0) := if_pos c
    obtain ⟨s1, s2, s3⟩ := biz_su 1000 p1 (f_X12_dayOf p0) (by omega) (by omega)
    rw [e1, e2]
    exact ⟨s1, by omega, by omega⟩
  · have e1 : f_X5_businessDaysFrom (f_X12_dayOf p0 - 723120) p1 = bizN 1000 (-1) (-p1) (f_X12_dayOf p0 - 723120) := if_neg c
    have e2 : f_X12_businessAfter (f_X12_dayOf p0) p1 = bizM 1000 (-1) (-p1) (f_X12_dayOf p0) := if_neg c
    obtain ⟨s1, s2, s3⟩ := biz_sd 1000 (-p1) (f_X12_dayOf p0) (by omega) (by omega)
    rw [e1, e2]
    exact ⟨s1, by omega, by omega⟩

theorem march_z {y : Int32} {Y : Int} (hy : y.toInt = Y) (h1 : 0 ≤ Y) (h2 : Y ≤ 4000) : (f_X12_march y).toInt = 365 * Y + Y / 4 - Y / 100 + Y / 400 := by
  have t1 := i3_mul (a := 365) (b := y) (x := 365) (y := Y) rfl hy (by omega) (by omega)
  have t2 := i3_div (a := y) (b := 4) (x := Y) (y := 4) hy rfl (by omega) (by omega)
  have t3 := i3_div (a := y) (b := 100) (x := Y) (y := 100) hy rfl (by omega) (by omega)
  have t4 := i3_div (a := y) (b := 400) (x := Y) (y := 400) hy rfl (by omega) (by omega)
  have t5 := i3_add t1 t2 (by omega) (by omega)
  have t6 := i3_sub t5 t3 (by omega) (by omega)
  exact i3_add t6 t4 (by omega) (by omega)
def yoeB (D : Nat) : Bool :=
  let oe := D % 146097
  let yo := (oe - oe / 1460 + oe / 36524 - oe / 146096) / 365
  Nat.ble (365 * yo + yo / 4 - yo / 100) oe && (Nat.ble (oe + 1) (365 * (yo + 1) + (yo + 1) / 4 - (yo + 1) / 100 + (yo + 1) / 400) && (Nat.ble oe (365 * yo + yo / 4 - yo / 100 + 365) && Nat.ble yo 399))
def yoeA : Nat → Nat → Bool
  | 0, _ => true
  | n + 1, D => yoeB D && yoeA n (D + 1)
theorem yoeA_all : ∀ n D, yoeA n D = true → ∀ k, k < n → yoeB (D + k) = true := by
  intro n
  induction n with
  | zero => intro D _ k hk; omega
  | succ n ih =>
    intro D h k hk
    have h2 : (yoeB D && yoeA n (D + 1)) = true := h
    rw [Bool.and_eq_true] at h2
    cases k with
    | zero => exact h2.1
    | succ k => rw [show D + (k + 1) = D + 1 + k by omega]; exact ih (D + 1) h2.2 k (by omega)
theorem yoe_t0 : ∀ i, i < 206 → yoeA 200 (722000 + 200 * i) = true := by decide +kernel
theorem yoe_nat {D oe yo : Nat} (h1 : 722000 ≤ D) (h2 : D < 763200) (e1 : oe = D % 146097) (e2 : yo = (oe - oe / 1460 + oe / 36524 - oe / 146096) / 365) : 365 * yo + yo / 4 - yo / 100 ≤ oe ∧ oe + 1 ≤ 365 * (yo + 1) + (yo + 1) / 4 - (yo + 1) / 100 + (yo + 1) / 400 ∧ oe ≤ 365 * yo + yo / 4 - yo / 100 + 365 ∧ yo ≤ 399 := by
  have t := yoeA_all 200 _ (yoe_t0 ((D - 722000) / 200) (by omega)) ((D - 722000) % 200) (by omega)
  rw [show 722000 + 200 * ((D - 722000) / 200) + (D - 722000) % 200 = D by omega] at t
  subst e2
  subst e1
  have t2 := t
  unfold yoeB at t2
  simp only [Bool.and_eq_true, Nat.ble_eq] at t2
  exact t2
theorem yoe_int {D oe yo : Int} (h1 : 722000 ≤ D) (h2 : D < 763200) (e1 : oe = D % 146097) (e2 : yo = (oe - oe / 1460 + oe / 36524 - oe / 146096) / 365) : 365 * yo + yo / 4 - yo / 100 ≤ oe ∧ oe + 1 ≤ 365 * (yo + 1) + (yo + 1) / 4 - (yo + 1) / 100 + (yo + 1) / 400 ∧ oe ≤ 365 * yo + yo / 4 - yo / 100 + 365 ∧ 0 ≤ yo ∧ yo ≤ 399 := by
  obtain ⟨D9, rfl⟩ : ∃ n : Nat, D = n := ⟨D.toNat, by clear e1 e2; omega⟩
  obtain ⟨o9, f1⟩ : ∃ n : Nat, n = D9 % 146097 := ⟨_, rfl⟩
  have b1 : oe = (o9 : Int) := by clear e2 h1 h2; omega
  subst b1
  obtain ⟨y9, f2⟩ : ∃ n : Nat, n = (o9 - o9 / 1460 + o9 / 36524 - o9 / 146096) / 365 := ⟨_, rfl⟩
  have c1 : o9 < 146097 := by clear e2 f2 e1; omega
  have b2 : yo = (y9 : Int) := by
    clear e1 f1 h1 h2
    have g1 : o9 / 1460 ≤ o9 := Nat.div_le_self _ _
    have g2 : o9 / 146096 ≤ o9 - o9 / 1460 + o9 / 36524 := by omega
    rw [e2, f2, Int.natCast_ediv, Int.natCast_sub g2, Int.natCast_add, Int.natCast_sub g1, Int.natCast_ediv, Int.natCast_ediv, Int.natCast_ediv]
    rfl
  subst b2
  clear e1 e2
  obtain ⟨u1, u2, u3, u4⟩ := yoe_nat (D := D9) (by clear f1 f2; omega) (by clear f1 f2; omega) f1 f2
  clear f1 f2 h1 h2 c1
  refine ⟨by clear u2 u3; omega, by clear u1 u3; omega, by clear u1 u2; omega, by clear u1 u2 u3; omega, by clear u1 u2 u3; omega⟩
theorem num_q4 (z : Int) : (4 * 400 + z) / 4 = 400 + z / 4 ∧ (4 * 400 + z) / 100 = 16 + z / 100 ∧ (4 * 400 + z + 1) / 4 = 400 + (z + 1) / 4 ∧ (4 * 400 + z + 1) / 100 = 16 + (z + 1) / 100 ∧ (4 * 400 + z + 1) / 400 = 4 + (z + 1) / 400 := ⟨by omega, by omega, by omega, by omega, by omega⟩
theorem num_r4 {z : Int} (h0 : 0 ≤ z) (h1 : z ≤ 399) : (4 * 400 + z) / 400 = 4 := by
  omega
theorem num_q5 (z : Int) : (5 * 400 + z) / 4 = 500 + z / 4 ∧ (5 * 400 + z) / 100 = 20 + z / 100 ∧ (5 * 400 + z + 1) / 4 = 500 + (z + 1) / 4 ∧ (5 * 400 + z + 1) / 100 = 20 + (z + 1) / 100 ∧ (5 * 400 + z + 1) / 400 = 5 + (z + 1) / 400 := ⟨by omega, by omega, by omega, by omega, by omega⟩
theorem num_r5 {z : Int} (h0 : 0 ≤ z) (h1 : z ≤ 399) : (5 * 400 + z) / 400 = 5 := by
  omega
theorem num_fin {E z oe D : Int} (he : E = 4 ∨ E = 5) (hD : D = E * 146097 + oe) (r1 : 722120 ≤ D) (r2 : D ≤ 763120) (h0 : 0 ≤ z) (h1 : z ≤ 399) (k1 : 365 * z + z / 4 - z / 100 ≤ oe) (k2 : oe < 365 * (z + 1) + (z + 1) / 4 - (z + 1) / 100 + (z + 1) / 400) : 1970 ≤ E * 400 + z ∧ E * 400 + z ≤ 2100 ∧ 365 * (E * 400 + z) + (E * 400 + z) / 4 - (E * 400 + z) / 100 + (E * 400 + z) / 400 + (oe - (365 * z + z / 4 - z / 100)) = D ∧ D < 365 * (E * 400 + z + 1) + (E * 400 + z + 1) / 4 - (E * 400 + z + 1) / 100 + (E * 400 + z + 1) / 400 := by
  rcases he with rfl | rfl
  · obtain ⟨q1, q2, q4, q5, q6⟩ := num_q4 z
    have q3 := num_r4 h0 h1
    rw [q1, q2, q3, q4, q5, q6]
    clear q1 q2 q3 q4 q5 q6
    refine ⟨?_, ?_, ?_, ?_⟩
    · clear k1; omega
    · clear k2; omega
    · clear k1 k2 r1 r2 h0 h1; omega
    · clear k1 r1 r2 h0 h1; omega
  · obtain ⟨q1, q2, q4, q5, q6⟩ := num_q5 z
    have q3 := num_r5 h0 h1
    rw [q1, q2, q3, q4, q5, q6]
    clear q1 q2 q3 q4 q5 q6
    refine ⟨?_, ?_, ?_, ?_⟩
    · clear k1; omega
    · clear k2; omega
    · clear k1 k2 r1 r2 h0 h1; omega
    · clear k1 r1 r2 h0 h1; omega
theorem num_1 {t : Int32} {T : Int} (ht : t.toInt = T) (h1 : -1000 ≤ T) (h2 : T ≤ 40000) : ∃ E oe : Int, (t + 723120).toInt = T + 723120 ∧ ((t + 723120) / 146097).toInt = E ∧ ((t + 723120) - (t + 723120) / 146097 * 146097).toInt = oe ∧ (E = 4 ∨ E = 5) ∧ T + 723120 = E * 146097 + oe ∧ 0 ≤ oe ∧ oe ≤ 146096 ∧ oe = (T + 723120) % 146097 := by
  have t1 := i3_add (a := t) (b := 723120) (x := T) (y := 723120) ht rfl (by omega) (by omega)
  have t2 := i3_div (b := 146097) (y := 146097) t1 rfl (by omega) (by omega)
  have t3 := i3_mul (b := 146097) (y := 146097) t2 rfl (by omega) (by omega)
  have t4 := i3_sub t1 t3 (by omega) (by omega)
  exact ⟨_, _, t1, t2, t4, by omega, by omega, by omega, by omega, by omega⟩
theorem num_2 {x : Int32} {oe : Int} (hx : x.toInt = oe) (h1 : 0 ≤ oe) (h2 : oe ≤ 146096) : ((((x - (x / 1460)) + (x / 36524)) - (x / 146096)) / 365).toInt = (oe - oe / 1460 + oe / 36524 - oe / 146096) / 365 := by
  have t1 := i3_div (a := x) (b := 1460) (x := oe) (y := 1460) hx rfl (by omega) (by omega)
  have t2 := i3_div (a := x) (b := 36524) (x := oe) (y := 36524) hx rfl (by omega) (by omega)
  have t3 := i3_div (a := x) (b := 146096) (x := oe) (y := 146096) hx rfl (by omega) (by omega)
  have t4 := i3_sub hx t1 (by omega) (by omega)
  have t5 := i3_add t4 t2 (by omega) (by omega)
  have t6 := i3_sub t5 t3 (by omega) (by omega)
  exact i3_div (b := 365) (y := 365) t6 rfl (by omega) (by omega)
theorem num_3 {x z : Int32} {oe Z : Int} (hx : x.toInt = oe) (hz : z.toInt = Z) (h1 : 0 ≤ oe) (h2 : oe ≤ 146096) (z1 : 0 ≤ Z) (z2 : Z ≤ 399) (k : 365 * Z + Z / 4 - Z / 100 ≤ oe) : (x - (((365 * z) + (z / 4)) - (z / 100))).toInt = oe - (365 * Z + Z / 4 - Z / 100) := by
  have t1 := i3_mul (a := 365) (b := z) (x := 365) (y := Z) rfl hz (by omega) (by omega)
  have t2 := i3_div (a := z) (b := 4) (x := Z) (y := 4) hz rfl (by omega) (by omega)
  have t3 := i3_div (a := z) (b := 100) (x := Z) (y := 100) hz rfl (by omega) (by omega)
  have t4 := i3_add t1 t2 (by omega) (by omega)
  have t5 := i3_sub t4 t3 (by omega) (by omega)
  exact i3_sub hx t5 (by omega) (by omega)
theorem num_4 {x : Int32} {o : Int} (hx : x.toInt = o) (h1 : 0 ≤ o) (h2 : o ≤ 365) : (((5 * x) + 2) / 153).toInt = (5 * o + 2) / 153 := by
  have t1 := i3_mul (a := 5) (b := x) (x := 5) (y := o) rfl hx (by omega) (by omega)
  have t2 := i3_add (b := 2) (y := 2) t1 rfl (by omega) (by omega)
  exact i3_div (b := 153) (y := 153) t2 rfl (by omega) (by omega)
theorem num_5 {x m : Int32} {o M : Int} (hx : x.toInt = o) (hm : m.toInt = M) (h1 : 0 ≤ o) (h2 : o ≤ 365) (m1 : 0 ≤ M) (m2 : M ≤ 11) : ((x - (((153 * m) + 2) / 5)) + 1).toInt = o - (153 * M + 2) / 5 + 1 := by
  have t1 := i3_mul (a := 153) (b := m) (x := 153) (y := M) rfl hm (by omega) (by omega)
  have t2 := i3_add (b := 2) (y := 2) t1 rfl (by omega) (by omega)
  have t3 := i3_div (b := 5) (y := 5) t2 rfl (by omega) (by omega)
  have t4 := i3_sub hx t3 (by omega) (by omega)
  exact i3_add (b := 1) (y := 1) t4 rfl (by omega) (by omega)
theorem num_6 {e z : Int32} {E Z : Int} (he : e.toInt = E) (hz : z.toInt = Z) (h : E = 4 ∨ E = 5) (z1 : 0 ≤ Z) (z2 : Z ≤ 399) : ((e * 400) + z).toInt = E * 400 + Z := by
  have t1 := i3_mul (a := e) (b := 400) (x := E) (y := 400) he rfl (by omega) (by omega)
  exact i3_add t1 hz (by omega) (by omega)
/-- a date's number of its parts -/
theorem num_7 {y m d : Int32} {Y M D : Int} (hy : y.toInt = Y) (hm : m.toInt = M) (hd : d.toInt = D) (y1 : 0 ≤ Y) (y2 : Y ≤ 3000) (m1 : 0 ≤ M) (m2 : M ≤ 20) (d1 : 0 ≤ D) (d2 : D ≤ 400) : (((y * 10000) + (m * 100)) + d).toInt = 10000 * Y + 100 * M + D := by
  have t1 := i3_mul (a := y) (b := 10000) (x := Y) (y := 10000) hy rfl (by omega) (by omega)
  have t2 := i3_mul (a := m) (b := 100) (x := M) (y := 100) hm rfl (by omega) (by omega)
  have t3 := i3_add t1 t2 (by omega) (by omega)
  exact (i3_add t3 hd (by omega) (by omega)).trans (by omega)
theorem num_8 {x2 x4 x6 x7 : Int32} {y M D : Int} (hy : ((x2 * 400) + x4).toInt = y) (hm : x6.toInt = M) (hd : x7.toInt = D) (y1 : 1970 ≤ y) (y2 : y ≤ 2100) (m1 : 0 ≤ M) (m2 : M ≤ 11) (d1 : 0 ≤ D) (d2 : D ≤ 400) :
    (10 ≤ M ∧ (if 10 ≤ x6 then (if 2 < x6 - 9 then ((((x2 * 400) + x4) + 0) * 10000 + (x6 - 9) * 100) + x7 else ((((x2 * 400) + x4) + 1) * 10000 + (x6 - 9) * 100) + x7) else (if 2 < x6 + 3 then ((((x2 * 400) + x4) + 0) * 10000 + (x6 + 3) * 100) + x7 else ((((x2 * 400) + x4) + 1) * 10000 + (x6 + 3) * 100) + x7)).toInt = 10000 * (y + 1) + 100 * (M - 9) + D) ∨
    (M < 10 ∧ (if 10 ≤ x6 then (if 2 < x6 - 9 then ((((x2 * 400) + x4) + 0) * 10000 + (x6 - 9) * 100) + x7 else ((((x2 * 400) + x4) + 1) * 10000 + (x6 - 9) * 100) + x7) else (if 2 < x6 + 3 then ((((x2 * 400) + x4) + 0) * 10000 + (x6 + 3) * 100) + x7 else ((((x2 * 400) + x4) + 1) * 10000 + (x6 + 3) * 100) + x7)).toInt = 10000 * y + 100 * (M + 3) + D) := by
  have ya := i3_add (b := 0) (y := 0) hy rfl (by omega) (by omega)
  have yb := i3_add (b := 1) (y := 1) hy rfl (by omega) (by omega)
  have ma := i3_sub (b := 9) (y := 9) hm rfl (by omega) (by omega)
  have mb := i3_add (b := 3) (y := 3) hm rfl (by omega) (by omega)
  by_cases c : 10 ≤ x6
  · have c1 : (10 : Int) ≤ M := (i3_le (a := 10) (x := 10) rfl hm).mp c
    have c2 : ¬ 2 < x6 - 9 := fun q => by have q := (i3_lt (a := 2) (x := 2) rfl ma).mp q; omega
    rw [if_pos c, if_neg c2]
    exact Or.inl ⟨c1, num_7 yb ma hd (by omega) (by omega) (by omega) (by omega) d1 d2⟩
  · have c1 : M < 10 := Int.not_le.mp fun q => c ((i3_le (a := 10) (x := 10) rfl hm).mpr q)
    have c2 : 2 < x6 + 3 := (i3_lt (a := 2) (x := 2) rfl mb).mpr (by omega)
    rw [if_neg c, if_pos c2]
    exact Or.inr ⟨c1, (num_7 ya mb hd (by omega) (by omega) (by omega) (by omega) d1 d2).trans (by omega)⟩
theorem num_9 {t x1 x2 x3 x4 x5 x6 x7 : Int32} (e1 : x1 = t + 723120) (e2 : x2 = x1 / 146097) (e3 : x3 = x1 - x2 * 146097) (e4 : x4 = (((x3 - (x3 / 1460)) + (x3 / 36524)) - (x3 / 146096)) / 365) (e5 : x5 = x3 - (((365 * x4) + (x4 / 4)) - (x4 / 100))) (e6 : x6 = ((5 * x5) + 2) / 153) (e7 : x7 = (x5 - (((153 * x6) + 2) / 5)) + 1) : f_X3_numberOf t = (if 10 ≤ x6 then (if 2 < x6 - 9 then ((((x2 * 400) + x4) + 0) * 10000 + (x6 - 9) * 100) + x7 else ((((x2 * 400) + x4) + 1) * 10000 + (x6 - 9) * 100) + x7) else (if 2 < x6 + 3 then ((((x2 * 400) + x4) + 0) * 10000 + (x6 + 3) * 100) + x7 else ((((x2 * 400) + x4) + 1) * 10000 + (x6 + 3) * 100) + x7)) := by
  subst e7; subst e6; subst e5; subst e4; subst e3; subst e2; subst e1; rfl
/-- a day's number: its March year, the days behind the first of March -/
theorem num_z {t : Int32} {T : Int} (ht : t.toInt = T) (h1 : -1000 ≤ T) (h2 : T ≤ 40000) : ∃ y o mf : Int, 1970 ≤ y ∧ y ≤ 2100 ∧ 365 * y + y / 4 - y / 100 + y / 400 + o = T + 723120 ∧ 0 ≤ o ∧ o ≤ 365 ∧ T + 723120 < 365 * (y + 1) + (y + 1) / 4 - (y + 1) / 100 + (y + 1) / 400 ∧ mf = (5 * o + 2) / 153 ∧ ((10 ≤ mf ∧ (f_X3_numberOf t).toInt = 10000 * (y + 1) + 100 * (mf - 9) + (o - (153 * mf + 2) / 5 + 1)) ∨ (mf < 10 ∧ (f_X3_numberOf t).toInt = 10000 * y + 100 * (mf + 3) + (o - (153 * mf + 2) / 5 + 1))) := by
  have g1 : 722120 ≤ T + 723120 := by omega
  have g2 : T + 723120 ≤ 763120 := by omega
  obtain ⟨x1, e1⟩ : ∃ z : Int32, z = t + 723120 := ⟨_, rfl⟩
  obtain ⟨x2, e2⟩ : ∃ z : Int32, z = x1 / 146097 := ⟨_, rfl⟩
  obtain ⟨x3, e3⟩ : ∃ z : Int32, z = x1 - x2 * 146097 := ⟨_, rfl⟩
  obtain ⟨x4, e4⟩ : ∃ z : Int32, z = (((x3 - (x3 / 1460)) + (x3 / 36524)) - (x3 / 146096)) / 365 := ⟨_, rfl⟩
  obtain ⟨x5, e5⟩ : ∃ z : Int32, z = x3 - (((365 * x4) + (x4 / 4)) - (x4 / 100)) := ⟨_, rfl⟩
  obtain ⟨x6, e6⟩ : ∃ z : Int32, z = ((5 * x5) + 2) / 153 := ⟨_, rfl⟩
  obtain ⟨x7, e7⟩ : ∃ z : Int32, z = (x5 - (((153 * x6) + 2) / 5)) + 1 := ⟨_, rfl⟩
  rw [num_9 e1 e2 e3 e4 e5 e6 e7]
  obtain ⟨E, oe, a1, a2, a3, a4, a5, a6, a7, a8⟩ := num_1 ht h1 h2
  rw [← e1] at a1 a2 a3
  rw [← e2] at a2 a3
  rw [← e3] at a3
  have b1 := num_2 a3 a6 a7
  rw [← e4] at b1
  obtain ⟨Z, eZ⟩ : ∃ z : Int, z = (oe - oe / 1460 + oe / 36524 - oe / 146096) / 365 := ⟨_, rfl⟩
  rw [← eZ] at b1
  obtain ⟨k1, k2, k3, k4, k5⟩ := yoe_int (D := T + 723120) (Int.le_trans (by decide) g1) (Int.lt_of_le_of_lt g2 (by decide)) a8 eZ
  have b2 := num_3 a3 b1 a6 a7 k4 k5 k1
  rw [← e5] at b2
  clear eZ a8
  obtain ⟨n1, n2, n3, n4⟩ := num_fin (D := T + 723120) a4 a5 g1 g2 k4 k5 k1 (Int.lt_of_add_one_le k2)
  obtain ⟨o, eo⟩ : ∃ z : Int, z = oe - (365 * Z + Z / 4 - Z / 100) := ⟨_, rfl⟩
  have o1 : 0 ≤ o := by rw [eo]; exact Int.sub_nonneg.mpr k1
  have o2 : o ≤ 365 := by rw [eo]; exact Int.sub_left_le_of_le_add k3
  rw [← eo] at b2 n3
  clear eo k1 k2 k3 a5 a6 a7 g1 g2
  have b3 := num_4 b2 o1 o2
  rw [← e6] at b3
  obtain ⟨M, eM⟩ : ∃ z : Int, z = (5 * o + 2) / 153 := ⟨_, rfl⟩
  rw [← eM] at b3
  have m1 : 0 ≤ M := by clear n1 n2 n3 n4; omega
  have m2 : M ≤ 11 := by clear n1 n2 n3 n4; omega
  have b4 := num_5 b2 b3 o1 o2 m1 m2
  rw [← e7] at b4
  have b5 := num_6 a2 b1 a4 k4 k5
  have d1 : 0 ≤ o - (153 * M + 2) / 5 + 1 := by clear n1 n2 n3 n4; omega
  have d2 : o - (153 * M + 2) / 5 + 1 ≤ 400 := by clear n1 n2 n3 n4; omega
  exact ⟨E * 400 + Z, o, M, n1, n2, n3, o1, o2, n4, eM, num_8 b5 b3 b4 n1 n2 m1 m2 d1 d2⟩
theorem march_b9 {y : Int} (h1 : 1970 ≤ y) (h2 : y ≤ 2103) : 365 * y + 470 ≤ 365 * y + y / 4 - y / 100 + y / 400 ∧ 365 * y + y / 4 - y / 100 + y / 400 ≤ 365 * y + 530 := by
  omega
theorem dY_hit {n : Nat} {c y : Int32} (h : f_X12_march y ≤ c) : dateS (n + 1) c y ∧ dateY (n + 1) c y = y := ⟨fun q => absurd h q, if_pos h⟩
theorem dY_miss {n : Nat} {c y : Int32} (h : ¬ f_X12_march y ≤ c) : (dateS n c (y + (-1)) → dateS (n + 1) c y) ∧ dateY (n + 1) c y = dateY n c (y + (-1)) := ⟨fun q _ => q, if_neg h⟩
theorem date_z0 {c y0 : Int32} {D Y0 y : Int} (hc : c.toInt = D) (h1 : 722120 ≤ D) (h2 : D ≤ 763120) (y1 : 1970 ≤ y) (y2 : y ≤ 2100) (k1 : 365 * y + y / 4 - y / 100 + y / 400 ≤ D) (k2 : D < 365 * (y + 1) + (y + 1) / 4 - (y + 1) / 100 + (y + 1) / 400) (e0 : y0.toInt = Y0) (b : Y0 = y + 1 ∨ Y0 = y + 2) : dateS 8 c y0 ∧ (dateY 8 c y0).toInt = y := by
  have z1 : 0 ≤ Y0 + -1 + -1 := by clear k1 k2; omega
  have z2 : Y0 ≤ 3000 := by clear k1 k2; omega
  have m0 := march_z e0 (by clear k1 k2; omega) (by clear k1 k2; omega)
  have e1 := i3_add (a := y0) (b := -1) (x := Y0) (y := -1) e0 rfl (by clear k1 k2 m0; omega) (by clear k1 k2 m0; omega)
  have m1 := march_z e1 (by clear k1 k2 m0; omega) (by clear k1 k2 m0; omega)
  have e2 := i3_add (a := y0 + (-1)) (b := -1) (x := Y0 + -1) (y := -1) e1 rfl (by clear k1 k2 m0 m1; omega) (by clear k1 k2 m0 m1; omega)
  have m2 := march_z e2 (by clear k1 k2 m0 m1; omega) (by clear k1 k2 m0 m1; omega)
  clear z1 z2 h1 h2
  rcases b with b | b
  · subst b
    have q0 : ¬ f_X12_march y0 ≤ c := fun q => Int.not_le.mpr k2 ((i3_le m0 hc).mp q)
    rw [show y + 1 + -1 = y by clear k1 k2 m0 m1 m2; omega] at e1 m1
    have q1 : f_X12_march (y0 + (-1)) ≤ c := (i3_le m1 hc).mpr k1
    obtain ⟨r1, r2⟩ := dY_miss (n := 7) q0
    obtain ⟨s1, s2⟩ := dY_hit (n := 6) q1
    exact ⟨r1 s1, by rw [r2, s2, e1]⟩
  · subst b
    rw [show y + 2 + -1 = y + 1 by clear k1 k2 m0 m1 m2; omega] at e1 m1 e2 m2
    rw [show y + 1 + -1 = y by clear k1 k2 m0 m1 m2; omega] at e2 m2
    have q1 : ¬ f_X12_march (y0 + (-1)) ≤ c := fun q => Int.not_le.mpr k2 ((i3_le m1 hc).mp q)
    have w1 := march_b9 (y := y + 1) (by clear k1 k2 m0 m1 m2; omega) (by clear k1 k2 m0 m1 m2; omega)
    have w2 := march_b9 (y := y + 2) (by clear k1 k2 m0 m1 m2; omega) (by clear k1 k2 m0 m1 m2; omega)
    have q0 : ¬ f_X12_march y0 ≤ c := fun q => by
      have q := (i3_le m0 hc).mp q
      clear m0 m1 m2 k1 q1
      have w3 := Int.le_trans w2.1 q
      have w4 := Int.lt_of_lt_of_le k2 w1.2
      clear q w1 w2 k2
      omega
    have q2 : f_X12_march (y0 + (-1) + (-1)) ≤ c := (i3_le m2 hc).mpr k1
    obtain ⟨r1, r2⟩ := dY_miss (n := 7) q0
    obtain ⟨r3, r4⟩ := dY_miss (n := 6) q1
    obtain ⟨s1, s2⟩ := dY_hit (n := 5) q2
    exact ⟨r1 (r3 s1), by rw [r2, r4, s2, e2]⟩
theorem date_z {c : Int32} {D : Int} (hc : c.toInt = D) (h1 : 722120 ≤ D) (h2 : D ≤ 763120) {y : Int} (y1 : 1970 ≤ y) (y2 : y ≤ 2100) (k1 : 365 * y + y / 4 - y / 100 + y / 400 ≤ D) (k2 : D < 365 * (y + 1) + (y + 1) / 4 - (y + 1) / 100 + (y + 1) / 400) : dateS 8 c (c / 365) ∧ (dateY 8 c (c / 365)).toInt = y := by
  have e0 := i3_div (a := c) (b := 365) (x := D) (y := 365) hc rfl (by clear k1 k2; omega) (by decide)
  refine date_z0 hc h1 h2 y1 y2 k1 k2 e0 ?_
  have w1 := march_b9 (y := y) (by clear k1 k2; omega) (by clear k1 k2; omega)
  have w2 := march_b9 (y := y + 1) (by clear k1 k2; omega) (by clear k1 k2; omega)
  have w3 := Int.le_trans w1.1 k1
  have w4 := Int.lt_of_lt_of_le k2 w2.2
  clear w1 w2 k1 k2 e0
  omega
theorem dateT_8 {v x3 x4 : Int32} {y M D : Int} (hy : v.toInt = y) (hm : x3.toInt = M) (hd : x4.toInt = D) (y1 : 1970 ≤ y) (y2 : y ≤ 2100) (m1 : 0 ≤ M) (m2 : M ≤ 11) (d1 : 0 ≤ D) (d2 : D ≤ 400) : (10 ≤ M ∧ (if 10 ≤ x3 then (((10000 * (v + 1)) + (100 * (x3 - 9))) + x4) else (((10000 * v) + (100 * (x3 + 3))) + x4)).toInt = 10000 * (y + 1) + 100 * (M - 9) + D) ∨ (M < 10 ∧ (if 10 ≤ x3 then (((10000 * (v + 1)) + (100 * (x3 - 9))) + x4) else (((10000 * v) + (100 * (x3 + 3))) + x4)).toInt = 10000 * y + 100 * (M + 3) + D) := by
  have yb := i3_add (b := 1) (y := 1) hy rfl (by omega) (by omega)
  have ma := i3_sub (b := 9) (y := 9) hm rfl (by omega) (by omega)
  have mb := i3_add (b := 3) (y := 3) hm rfl (by omega) (by omega)
  by_cases c : 10 ≤ x3
  · have c1 : (10 : Int) ≤ M := (i3_le (a := 10) (x := 10) rfl hm).mp c
    rw [if_pos c]
    have t1 := i3_mul (a := 10000) (x := 10000) rfl yb (by omega) (by omega)
    have t2 := i3_mul (a := 100) (x := 100) rfl ma (by omega) (by omega)
    exact Or.inl ⟨c1, i3_add (i3_add t1 t2 (by omega) (by omega)) hd (by omega) (by omega)⟩
  · have c1 : M < 10 := Int.not_le.mp fun q => c ((i3_le (a := 10) (x := 10) rfl hm).mpr q)
    rw [if_neg c]
    have t1 := i3_mul (a := 10000) (x := 10000) rfl hy (by omega) (by omega)
    have t2 := i3_mul (a := 100) (x := 100) rfl mb (by omega) (by omega)
    exact Or.inr ⟨c1, i3_add (i3_add t1 t2 (by omega) (by omega)) hd (by omega) (by omega)⟩
theorem dateT_9 {c v x2 x3 x4 : Int32} (e2 : x2 = c - f_X12_march v) (e3 : x3 = ((5 * x2) + 2) / 153) (e4 : x4 = (x2 - (((153 * x3) + 2) / 5)) + 1) : dateT c v = (if 10 ≤ x3 then (((10000 * (v + 1)) + (100 * (x3 - 9))) + x4) else (((10000 * v) + (100 * (x3 + 3))) + x4)) := by
  subst e4; subst e3; subst e2; rfl
theorem dateT_z {c v : Int32} {D y o mf : Int} (hc : c.toInt = D) (hv : v.toInt = y) (h1 : 722120 ≤ D) (h2 : D ≤ 763120) (y1 : 1970 ≤ y) (y2 : y ≤ 2100) (ho : 365 * y + y / 4 - y / 100 + y / 400 + o = D) (o1 : 0 ≤ o) (o2 : o ≤ 365) (hm : mf = (5 * o + 2) / 153) : (10 ≤ mf ∧ (dateT c v).toInt = 10000 * (y + 1) + 100 * (mf - 9) + (o - (153 * mf + 2) / 5 + 1)) ∨ (mf < 10 ∧ (dateT c v).toInt = 10000 * y + 100 * (mf + 3) + (o - (153 * mf + 2) / 5 + 1)) := by
  obtain ⟨x2, e2⟩ : ∃ z : Int32, z = c - f_X12_march v := ⟨_, rfl⟩
  obtain ⟨x3, e3⟩ : ∃ z : Int32, z = ((5 * x2) + 2) / 153 := ⟨_, rfl⟩
  obtain ⟨x4, e4⟩ : ∃ z : Int32, z = (x2 - (((153 * x3) + 2) / 5)) + 1 := ⟨_, rfl⟩
  rw [dateT_9 e2 e3 e4]
  have hr0 := march_z hv (by clear ho hm; omega) (by clear ho hm; omega)
  obtain ⟨M, eM⟩ : ∃ z : Int, z = 365 * y + y / 4 - y / 100 + y / 400 := ⟨_, rfl⟩
  rw [← eM] at hr0 ho
  clear eM
  have a1 := i3_sub hc hr0 (by clear hm; omega) (by clear hm; omega)
  rw [← e2, show D - M = o by clear hm; omega] at a1
  have b3 := num_4 a1 o1 o2
  rw [← e3, ← hm] at b3
  have m1 : 0 ≤ mf := by omega
  have m2 : mf ≤ 11 := by omega
  have b4 := num_5 a1 b3 o1 o2 m1 m2
  rw [← e4] at b4
  exact dateT_8 hv b3 b4 y1 y2 m1 m2 (by clear ho; omega) (by clear ho; omega)
/-- a day's number on both sides -/
theorem num_eq {c : Int32} (h1 : 722120 ≤ c.toInt) (h2 : c.toInt ≤ 763120) : dateS 8 c (c / 365) ∧ f_X3_numberOf (c - 723120) = f_X12_dateOf c := by
  have a1 := i3_sub (a := c) (b := 723120) (x := c.toInt) (y := 723120) rfl rfl (by omega) (by omega)
  obtain ⟨D, hD⟩ : ∃ z : Int, c.toInt = z := ⟨_, rfl⟩
  rw [hD] at h1 h2 a1
  obtain ⟨y, o, mf, y1, y2, ho, o1, o2, hk, hm, hn⟩ := num_z a1 (by omega) (by omega)
  rw [show D - 723120 + 723120 = D by clear hm hk ho hn; omega] at ho hk
  obtain ⟨s, hy⟩ := date_z hD h1 h2 y1 y2 (by rw [← ho]; clear ho hk hm hn; omega) hk
  refine ⟨s, ?_⟩
  apply Int32.toInt_inj.mp
  have hd := dateT_z hD hy h1 h2 y1 y2 ho o1 o2 hm
  show _ = (dateT c (dateY 8 c (c / 365))).toInt
  clear ho hk hm
  rcases hn with ⟨p1, p2⟩ | ⟨p1, p2⟩ <;> rcases hd with ⟨r1, r2⟩ | ⟨r1, r2⟩
  · rw [p2, r2]
  · clear p2 r2; omega
  · clear p2 r2; omega
  · rw [p2, r2]
theorem dIn_0 {y : Int32} {Y : Int} (hy : y.toInt = Y) (h1 : 0 ≤ Y) (h2 : Y ≤ 4000) : ((y - y / 4 * 4 = 0) ↔ Y - Y / 4 * 4 = 0) ∧ ((y - y / 100 * 100 = 0) ↔ Y - Y / 100 * 100 = 0) ∧ ((y - y / 400 * 400 = 0) ↔ Y - Y / 400 * 400 = 0) := by
  have a1 := i3_div (a := y) (b := 4) (x := Y) (y := 4) hy rfl h1 (by decide)
  have a2 := i3_mul (b := 4) (y := 4) a1 rfl (by omega) (by omega)
  have a3 := i3_sub hy a2 (by omega) (by omega)
  have b1 := i3_div (a := y) (b := 100) (x := Y) (y := 100) hy rfl h1 (by decide)
  have b2 := i3_mul (b := 100) (y := 100) b1 rfl (by omega) (by omega)
  have b3 := i3_sub hy b2 (by omega) (by omega)
  have c1 := i3_div (a := y) (b := 400) (x := Y) (y := 400) hy rfl h1 (by decide)
  have c2 := i3_mul (b := 400) (y := 400) c1 rfl (by omega) (by omega)
  have c3 := i3_sub hy c2 (by omega) (by omega)
  exact ⟨i3_eq (b := 0) (y := 0) a3 rfl, i3_eq (b := 0) (y := 0) b3 rfl, i3_eq (b := 0) (y := 0) c3 rfl⟩
/-- the length of a month, at most -/
theorem dIn_z {y m : Int32} {Y M : Int} (hy : y.toInt = Y) (hm : m.toInt = M) (h1 : 0 ≤ Y) (h2 : Y ≤ 4000) : ((M = 4 ∨ M = 6 ∨ M = 9 ∨ M = 11) → (f_X12_daysIn y m).toInt = 30) ∧ (M = 2 → ((f_X12_daysIn y m).toInt = 28 ∨ ((f_X12_daysIn y m).toInt = 29 ∧ Y - Y / 4 * 4 = 0 ∧ (Y - Y / 100 * 100 = 0 → Y - Y / 400 * 400 = 0)))) := by
  obtain ⟨l1, l2, l3⟩ := dIn_0 hy h1 h2
  have m2 := i3_eq (b := 2) (y := 2) hm rfl
  have m4 := i3_eq (b := 4) (y := 4) hm rfl
  have m6 := i3_eq (b := 6) (y := 6) hm rfl
  have m9 := i3_eq (b := 9) (y := 9) hm rfl
  have m11 := i3_eq (b := 11) (y := 11) hm rfl
  unfold f_X12_daysIn
  constructor
  · intro h
    have n2 : ¬ m = 2 := fun q => by have := m2.mp q; omega
    rcases h with h | h | h | h
    · rw [if_neg n2, if_pos (m4.mpr h)]; rfl
    · rw [if_neg n2, if_neg (fun q => by have := m4.mp q; omega), if_pos (m6.mpr h)]; rfl
    · rw [if_neg n2, if_neg (fun q => by have := m4.mp q; omega), if_neg (fun q => by have := m6.mp q; omega), if_pos (m9.mpr h)]; rfl
    · rw [if_neg n2, if_neg (fun q => by have := m4.mp q; omega), if_neg (fun q => by have := m6.mp q; omega), if_neg (fun q => by have := m9.mp q; omega), if_pos (m11.mpr h)]; rfl
  · intro h
    rw [if_pos (m2.mpr h)]
    by_cases c1 : y - y / 4 * 4 = 0
    · rw [if_pos c1]
      by_cases c2 : y - y / 100 * 100 = 0
      · rw [if_pos c2]
        by_cases c3 : y - y / 400 * 400 = 0
        · rw [if_pos c3]; exact Or.inr ⟨rfl, l1.mp c1, fun _ => l3.mp c3⟩
        · rw [if_neg c3]; exact Or.inl rfl
      · rw [if_neg c2]; exact Or.inr ⟨rfl, l1.mp c1, fun q => absurd (l2.mpr q) c2⟩
    · rw [if_neg c1]; exact Or.inl rfl
theorem march_mono {a b : Int} (h : a + 1 ≤ b) : 365 * (a + 1) + (a + 1) / 4 - (a + 1) / 100 + (a + 1) / 400 ≤ 365 * b + b / 4 - b / 100 + b / 400 := by
  omega
theorem march_uniq {a b D : Int} (a1 : 365 * a + a / 4 - a / 100 + a / 400 ≤ D) (a2 : D < 365 * (a + 1) + (a + 1) / 4 - (a + 1) / 100 + (a + 1) / 400) (b1 : 365 * b + b / 4 - b / 100 + b / 400 ≤ D) (b2 : D < 365 * (b + 1) + (b + 1) / 4 - (b + 1) / 100 + (b + 1) / 400) : a = b := by
  by_cases c : a + 1 ≤ b
  · exact absurd (Int.lt_of_lt_of_le a2 (march_mono c)) (Int.not_lt.mpr b1)
  · by_cases d : b + 1 ≤ a
    · exact absurd (Int.lt_of_lt_of_le b2 (march_mono d)) (Int.not_lt.mpr a1)
    · clear a1 a2 b1 b2; omega
theorem march_next {y : Int} : 365 * y + y / 4 - y / 100 + y / 400 + 365 ≤ 365 * (y + 1) + (y + 1) / 4 - (y + 1) / 100 + (y + 1) / 400 := by omega
theorem march_leap {y : Int} (h4 : (y + 1) - (y + 1) / 4 * 4 = 0) (h : (y + 1) - (y + 1) / 100 * 100 = 0 → (y + 1) - (y + 1) / 400 * 400 = 0) : 365 * y + y / 4 - y / 100 + y / 400 + 366 = 365 * (y + 1) + (y + 1) / 4 - (y + 1) / 100 + (y + 1) / 400 := by
  by_cases c : (y + 1) - (y + 1) / 100 * 100 = 0
  · have h := h c
    omega
  · clear h
    omega
theorem month_fin {F DD o : Int} (f0 : 0 ≤ F) (f1 : F ≤ 11) (d1 : 1 ≤ DD) (d2 : DD ≤ 31) (ho : o = (153 * F + 2) / 5 + DD - 1) (h : (F = 1 ∨ F = 3 ∨ F = 6 ∨ F = 8) → DD ≤ 30) (h9 : F = 11 → DD ≤ 29) : F = (5 * o + 2) / 153 ∧ o - (153 * F + 2) / 5 + 1 = DD ∧ 0 ≤ o ∧ o ≤ 365 ∧ (F ≤ 10 → o ≤ 336) := by
  have c : F = 0 ∨ F = 1 ∨ F = 2 ∨ F = 3 ∨ F = 4 ∨ F = 5 ∨ F = 6 ∨ F = 7 ∨ F = 8 ∨ F = 9 ∨ F = 10 ∨ F = 11 := by omega
  rcases c with rfl | rfl | rfl | rfl | rfl | rfl | rfl | rfl | rfl | rfl | rfl | rfl <;> omega
theorem lt_fin {A B o D k : Int} (e : A + o = D) (nx : A + k ≤ B) (h : o < k) : D < B := by omega
theorem num_core {Y MM DD YY FF D o : Int} (y1 : 1980 ≤ Y) (y2 : Y ≤ 2079) (m1 : 1 ≤ MM) (m2 : MM ≤ 12) (d1 : 1 ≤ DD) (d2 : DD ≤ 31) (hc : (3 ≤ MM ∧ YY = Y ∧ FF = MM - 3) ∨ (MM ≤ 2 ∧ YY = Y - 1 ∧ FF = MM + 9)) (hD : D = 365 * YY + YY / 4 - YY / 100 + YY / 400 + (153 * FF + 2) / 5 + DD - 1) (l1 : (MM = 4 ∨ MM = 6 ∨ MM = 9 ∨ MM = 11) → DD ≤ 30) (l2 : MM = 2 → (DD ≤ 28 ∨ (DD ≤ 29 ∧ Y - Y / 4 * 4 = 0 ∧ (Y - Y / 100 * 100 = 0 → Y - Y / 400 * 400 = 0)))) (ho : o = (153 * FF + 2) / 5 + DD - 1) :
    365 * YY + YY / 4 - YY / 100 + YY / 400 + o = D ∧ 0 ≤ o ∧ o ≤ 365 ∧ D < 365 * (YY + 1) + (YY + 1) / 4 - (YY + 1) / 100 + (YY + 1) / 400 ∧ FF = (5 * o + 2) / 153 ∧ o - (153 * FF + 2) / 5 + 1 = DD ∧ 0 ≤ FF ∧ FF ≤ 11 := by
  have f0 : 0 ≤ FF := by clear l1 l2 hD ho; omega
  have f1 : FF ≤ 11 := by clear l1 l2 hD ho; omega
  have g1 : (FF = 1 ∨ FF = 3 ∨ FF = 6 ∨ FF = 8) → DD ≤ 30 := by
    intro h; apply l1; clear l1 l2 hD ho; omega
  have g2 : FF = 11 → MM = 2 := by intro h; clear l1 l2 hD ho; omega
  have g3 : FF = 11 → DD ≤ 29 := by
    intro h
    rcases l2 (g2 h) with q | q
    · clear l1 l2 hD ho; omega
    · exact q.1
  obtain ⟨r1, r2, r3, r4, r5⟩ := month_fin f0 f1 d1 d2 ho g1 g3
  have e : 365 * YY + YY / 4 - YY / 100 + YY / 400 + o = D := by rw [hD, ho]; clear r1 r2 r3 r4 r5 l1 l2 hc hD ho; omega
  refine ⟨e, r3, r4, ?_, r1, r2, f0, f1⟩
  have nx := march_next (y := YY)
  by_cases c : FF ≤ 10
  · exact lt_fin e nx (Int.lt_of_le_of_lt (r5 c) (by decide))
  · have c11 : FF = 11 := by clear l1 l2 hD ho e r1 r2 nx; omega
    have c2 := g2 c11
    have cY : YY = Y - 1 := by clear l1 l2 hD ho e r1 r2 nx; omega
    rcases l2 c2 with q | ⟨q1, q2, q3⟩
    · have o4 : o < 365 := by rw [ho, c11]; clear l1 l2 hD ho e r1 r2 nx; omega
      exact lt_fin e nx o4
    · have eY : Y = YY + 1 := by rw [cY]; exact (Int.sub_add_cancel Y 1).symm
      rw [eY] at q2 q3
      have lp := march_leap (y := YY) q2 q3
      exact lt_fin e (Int.le_of_eq lp) (Int.lt_of_le_of_lt r4 (by decide))
/-- a DATE's day has the DATE's number -/
theorem num_day {d : Int32} (h : ¬ f_X12_isDate d = 0) : f_X3_numberOf (f_X12_dayOf d - 723120) = d := by
  have r := day_range h
  have a1 := i3_sub (a := f_X12_dayOf d) (b := 723120) (x := (f_X12_dayOf d).toInt) (y := 723120) rfl rfl (by omega) (by omega)
  obtain ⟨Y, MM, DD, YY, FF, hd, y1, y2, m1, m2, d1, d2, hc, e, hL, hY, hM, -⟩ := day_bounds h
  obtain ⟨D, hD⟩ : ∃ z : Int, (f_X12_dayOf d).toInt = z := ⟨_, rfl⟩
  rw [hD] at r a1 e
  obtain ⟨y, o, mf, z1, z2, ho, o1, o2, hk, hm, hn⟩ := num_z a1 (by clear e; omega) (by clear e; omega)
  rw [Int.sub_add_cancel] at ho hk
  obtain ⟨l1, l2⟩ := dIn_z hY hM (by clear e ho hk hm hn; omega) (by clear e ho hk hm hn; omega)
  obtain ⟨o9, ho9⟩ : ∃ z : Int, z = (153 * FF + 2) / 5 + DD - 1 := ⟨_, rfl⟩
  obtain ⟨c1, c2, c3, c4, c5, c6, c7, c8⟩ := num_core y1 y2 m1 m2 d1 d2 hc e (fun q => by rw [← l1 q]; exact hL) (fun q => by
    rcases l2 q with w | ⟨w1, w2⟩
    · exact Or.inl (by rw [← w]; exact hL)
    · exact Or.inr ⟨by rw [← w1]; exact hL, w2⟩) ho9
  have ey : y = YY := march_uniq (D := D) (by rw [← ho]; exact Int.le_add_of_nonneg_right o1) hk (by rw [← c1]; exact Int.le_add_of_nonneg_right c2) c4
  subst ey
  have eo : o = o9 := Int.add_left_cancel (ho.trans c1.symm)
  subst eo
  have em : mf = FF := hm.trans c5.symm
  subst em
  rw [c6] at hn
  apply Int32.toInt_inj.mp
  rw [hd]
  clear ho hk hm e hL l1 l2 c1 c4 c5 c6 ho9 a1 hd
  rcases hn with ⟨q1, q2⟩ | ⟨q1, q2⟩
  · rw [q2]; clear q2; omega
  · rw [q2]; clear q2; omega
/-- a DATE's day of the month -/
theorem dd_31 {d : Int32} (h : ¬ f_X12_isDate d = 0) : ((d - d / 100 * 100 = 31) ∧ 30 < d - d / 100 * 100) ∨ (¬ (d - d / 100 * 100 = 31) ∧ ¬ 30 < d - d / 100 * 100) := by
  obtain ⟨Y, MM, DD, YY, FF, -, -, -, -, -, d1, d2, -, -, -, -, -, hD⟩ := day_bounds h
  have e1 := i3_eq (b := 31) (y := 31) hD rfl
  have e2 := i3_lt (a := 30) (x := 30) rfl hD
  by_cases c : DD = 31
  · exact Or.inl ⟨e1.mpr c, e2.mpr (by omega)⟩
  · exact Or.inr ⟨fun q => c (e1.mp q), fun q => c (by have := e2.mp q; omega)⟩

theorem date_ok (p0 p1 : Int32) (h1 : ¬ f_X12_isDate p0 = 0) (h2 : ¬ f_X12_in p1 (-60) 60 = 0) : dateS 8 (f_X12_businessAfter (f_X12_dayOf p0) p1) (f_X12_businessAfter (f_X12_dayOf p0) p1 / 365) := by
  obtain ⟨-, s2, s3⟩ := biz_rng p0 p1 h1
  exact (num_eq s2 s3).1

