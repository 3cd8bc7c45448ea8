theorem i3_add {a b : Int32} {x y : Int} (ha : a.toInt = x) (hb : b.toInt = y) (h1 : -2147483648 ≤ x + y) (h2 : x + y ≤ 2147483647) : (a + b).toInt = x + y := by
  rw [Int32.toInt_add, ha, hb]; exact Int.bmod_eq_of_le (by omega) (by omega)
theorem i3_sub {a b : Int32} {x y : Int} (ha : a.toInt = x) (hb : b.toInt = y) (h1 : -2147483648 ≤ x - y) (h2 : x - y ≤ 2147483647) : (a - b).toInt = x - y := by
  rw [Int32.toInt_sub, ha, hb]; exact Int.bmod_eq_of_le (by omega) (by omega)
theorem i3_mul {a b : Int32} {x y : Int} (ha : a.toInt = x) (hb : b.toInt = y) (h1 : -2147483648 ≤ x * y) (h2 : x * y ≤ 2147483647) : (a * b).toInt = x * y := by
  rw [Int32.toInt_mul, ha, hb]; exact Int.bmod_eq_of_le (by omega) (by omega)
theorem i3_div {a b : Int32} {x y : Int} (ha : a.toInt = x) (hb : b.toInt = y) (h1 : 0 ≤ x) (h2 : 0 < y) : (a / b).toInt = x / y := by
  rw [Int32.toInt_div, ha, hb, Int.tdiv_eq_ediv_of_nonneg h1]
  have q1 : 0 ≤ x / y := Int.ediv_nonneg h1 (by omega)
  have q2 : x / y ≤ x := Int.ediv_le_self _ h1
  have q3 : a.toInt < 2147483648 := Int32.toInt_lt a
  exact Int.bmod_eq_of_le (by omega) (by omega)
theorem i3_lt {a b : Int32} {x y : Int} (ha : a.toInt = x) (hb : b.toInt = y) : a < b ↔ x < y := by rw [Int32.lt_iff_toInt_lt, ha, hb]
theorem i3_le {a b : Int32} {x y : Int} (ha : a.toInt = x) (hb : b.toInt = y) : a ≤ b ↔ x ≤ y := by rw [Int32.le_iff_toInt_le, ha, hb]
theorem i3_eq {a b : Int32} {x y : Int} (ha : a.toInt = x) (hb : b.toInt = y) : a = b ↔ x = y := by rw [← Int32.toInt_inj, ha, hb]

theorem i6_sub {a b : Int64} {x y : Int} (ha : a.toInt = x) (hb : b.toInt = y) (h1 : -9223372036854775808 ≤ x - y) (h2 : x - y ≤ 9223372036854775807) : (a - b).toInt = x - y := by
  rw [Int64.toInt_sub, ha, hb]; exact Int.bmod_eq_of_le (by omega) (by omega)
theorem i6_mul {a b : Int64} {x y : Int} (ha : a.toInt = x) (hb : b.toInt = y) (h1 : -9223372036854775808 ≤ x * y) (h2 : x * y ≤ 9223372036854775807) : (a * b).toInt = x * y := by
  rw [Int64.toInt_mul, ha, hb]; exact Int.bmod_eq_of_le (by omega) (by omega)
theorem i6_div {a b : Int64} {x y : Int} (ha : a.toInt = x) (hb : b.toInt = y) (h1 : 0 ≤ x) (h2 : 0 < y) : (a / b).toInt = x / y := by
  rw [Int64.toInt_div, ha, hb, Int.tdiv_eq_ediv_of_nonneg h1]
  have q1 : 0 ≤ x / y := Int.ediv_nonneg h1 (by omega)
  have q2 : x / y ≤ x := Int.ediv_le_self _ h1
  have q3 : a.toInt < 9223372036854775808 := Int64.toInt_lt a
  exact Int.bmod_eq_of_le (by omega) (by omega)
def gcdB : Nat → Int64 → Int64 → Bool
  | 0, _, y => decide (lg_cmp y 0 = 0)
  | n + 1, x, y => decide (lg_cmp y 0 = 0) || gcdB n y (x - x / y * y)
theorem gcdB_S : ∀ (n : Nat) (x y : Int64), gcdB n x y = true → gcdS n x y := by
  intro n
  induction n with
  | zero => intro x y h; exact of_decide_eq_true h
  | succ n ih =>
    intro x y h hne
    have h2 : gcdB n y (x - x / y * y) = true := by
      have h3 : (decide (lg_cmp y 0 = 0) || gcdB n y (x - x / y * y)) = true := h
      rw [decide_eq_false hne, Bool.false_or] at h3
      exact h3
    exact ih _ _ h2
theorem absL_pos (x : Int32) : 0 ≤ (absL x.toInt64).toInt := by
  have e : x.toInt64.toInt = x.toInt := Int32.toInt_toInt64 x
  have b1 : -2147483648 ≤ x.toInt := Int32.le_toInt x
  have b2 : x.toInt < 2147483648 := Int32.toInt_lt x
  unfold absL
  split
  · rename_i h
    have h := Int64.le_iff_toInt_le.mp ((lg_cmp_ge _ _).mp h)
    exact h
  · rename_i h
    have h2 : x.toInt64.toInt < 0 := by
      rcases Int.lt_or_ge x.toInt64.toInt 0 with q | q
      · exact q
      · exact absurd ((lg_cmp_ge _ _).mpr (Int64.le_iff_toInt_le.mpr q)) h
    rw [Int64.toInt_neg, Int.bmod_eq_of_le (by omega) (by omega)]
    omega

theorem rem_360 {A : Int64} (hA : 0 ≤ A.toInt) : ∃ m : Nat, m < 360 ∧ A - A / 360 * 360 = lN m := by
  have hA2 : A.toInt < 9223372036854775808 := Int64.toInt_lt A
  have h1 := i6_div (rfl : A.toInt = A.toInt) (rfl : (360 : Int64).toInt = 360) hA (by decide)
  have h2 := i6_mul h1 (rfl : (360 : Int64).toInt = 360) (by omega) (by omega)
  have h3 := i6_sub (rfl : A.toInt = A.toInt) h2 (by omega) (by omega)
  refine ⟨(A.toInt % 360).toNat, by omega, ?_⟩
  apply Int64.toInt_inj.mp
  rw [h3, lN_toInt (by omega)]
  omega
theorem gtab_360 : ∀ m : Nat, m < 360 → gcdB 199 360 (lN m) = true ∧ 0 ≤ lg_cmp (gcdN 199 360 (lN m)) 1 := by decide +kernel
theorem gcd_core_360 {A : Int64} (hA : 0 ≤ A.toInt) : gcdS 200 A 360 ∧ 0 ≤ lg_cmp (gcdN 200 A 360) 1 := by
  obtain ⟨m, hm, e⟩ := rem_360 hA
  obtain ⟨t1, t2⟩ := gtab_360 m hm
  have hne : ¬ lg_cmp (360 : Int64) 0 = 0 := by decide
  constructor
  · show ¬ lg_cmp 360 0 = 0 → gcdS 199 360 (A - A / 360 * 360)
    intro _
    rw [e]
    exact gcdB_S _ _ _ t1
  · show 0 ≤ lg_cmp (gcdN (199 + 1) A 360) 1
    rw [gcdN, if_neg hne, e]
    exact t2
theorem tgcd_360 (x : Int32) : gcdS 200 (absL x.toInt64) 360 := (gcd_core_360 (absL_pos x)).1
theorem comm_360 (x : Int32) : f_X12_common x.toInt64 360 = gcdN 200 (absL x.toInt64) 360 := by
  unfold f_X12_common absL
  split <;> rfl
theorem tgcn_360 (x : Int32) : ¬ f_X12_common x.toInt64 360 = 0 := by
  rw [comm_360]
  exact nz_a (gcd_core_360 (absL_pos x)).2
theorem set_360 (u w : Int64) (x : Int32) : f_X6_set u w x.toInt64 360 = f_X12_sets x.toInt64 360 := by
  have h := (gcd_core_360 (absL_pos x)).2
  unfold f_X6_set f_X12_sets
  rw [comm_360]
  unfold absL at h ⊢
  by_cases c : 0 ≤ lg_cmp x.toInt64 0
  · rw [if_pos c] at h ⊢
    simp only [if_pos c, f_X6_commonDivisor]
    rw [if_pos h]
  · rw [if_neg c] at h ⊢
    simp only [if_neg c, f_X6_commonDivisor]
    rw [if_pos h]

theorem rem_365 {A : Int64} (hA : 0 ≤ A.toInt) : ∃ m : Nat, m < 365 ∧ A - A / 365 * 365 = lN m := by
  have hA2 : A.toInt < 9223372036854775808 := Int64.toInt_lt A
  have h1 := i6_div (rfl : A.toInt = A.toInt) (rfl : (365 : Int64).toInt = 365) hA (by decide)
  have h2 := i6_mul h1 (rfl : (365 : Int64).toInt = 365) (by omega) (by omega)
  have h3 := i6_sub (rfl : A.toInt = A.toInt) h2 (by omega) (by omega)
  refine ⟨(A.toInt % 365).toNat, by omega, ?_⟩
  apply Int64.toInt_inj.mp
  rw [h3, lN_toInt (by omega)]
  omega
theorem gtab_365 : ∀ m : Nat, m < 365 → gcdB 199 365 (lN m) = true ∧ 0 ≤ lg_cmp (gcdN 199 365 (lN m)) 1 := by decide +kernel
theorem gcd_core_365 {A : Int64} (hA : 0 ≤ A.toInt) : gcdS 200 A 365 ∧ 0 ≤ lg_cmp (gcdN 200 A 365) 1 := by
  obtain ⟨m, hm, e⟩ := rem_365 hA
  obtain ⟨t1, t2⟩ := gtab_365 m hm
  have hne : ¬ lg_cmp (365 : Int64) 0 = 0 := by decide
  constructor
  · show ¬ lg_cmp 365 0 = 0 → gcdS 199 365 (A - A / 365 * 365)
    intro _
    rw [e]
    exact gcdB_S _ _ _ t1
  · show 0 ≤ lg_cmp (gcdN (199 + 1) A 365) 1
    rw [gcdN, if_neg hne, e]
    exact t2
theorem tgcd_365 (x : Int32) : gcdS 200 (absL x.toInt64) 365 := (gcd_core_365 (absL_pos x)).1
theorem comm_365 (x : Int32) : f_X12_common x.toInt64 365 = gcdN 200 (absL x.toInt64) 365 := by
  unfold f_X12_common absL
  split <;> rfl
theorem tgcn_365 (x : Int32) : ¬ f_X12_common x.toInt64 365 = 0 := by
  rw [comm_365]
  exact nz_a (gcd_core_365 (absL_pos x)).2
theorem set_365 (u w : Int64) (x : Int32) : f_X6_set u w x.toInt64 365 = f_X12_sets x.toInt64 365 := by
  have h := (gcd_core_365 (absL_pos x)).2
  unfold f_X6_set f_X12_sets
  rw [comm_365]
  unfold absL at h ⊢
  by_cases c : 0 ≤ lg_cmp x.toInt64 0
  · rw [if_pos c] at h ⊢
    simp only [if_pos c, f_X6_commonDivisor]
    rw [if_pos h]
  · rw [if_neg c] at h ⊢
    simp only [if_neg c, f_X6_commonDivisor]
    rw [if_pos h]

theorem q_len : f_X3_lengthOfMonth = f_X12_daysIn := rfl
theorem in_if (a b c : Int32) {α : Type} (x y : α) : (if f_X12_in a b c = 0 then x else y) = (if a < b then x else if c < a then x else y) := by
  unfold f_X12_in
  split
  · rfl
  · split <;> rfl
theorem le_lt (a b : Int32) {α : Type} (x y : α) : (if a ≤ b then x else y) = (if b < a then y else x) := by
  by_cases h : a ≤ b
  · rw [if_pos h, if_neg (Int32.not_lt.mpr h)]
  · rw [if_neg h, if_pos (Int32.not_le.mp h)]
theorem q_isDate (d : Int32) : f_X3_isDate d = f_X12_isDate d := by
  simp only [f_X3_isDate, f_X12_isDate, in_if, q_len, le_lt d 20791231]
theorem t2 {a : Int32} : 2 < a ↔ 3 ≤ a := by rw [Int32.lt_iff_toInt_lt, Int32.le_iff_toInt_le]; exact ⟨fun h => h, fun h => h⟩
theorem q_day (d : Int32) : f_X3_dayOf d = f_X12_dayOf d - 723120 := by
  simp only [f_X3_dayOf, f_X12_dayOf, f_X12_march, t2]
  split <;> grind
theorem q_days (a b : Int32) : f_X11_days a b = f_X12_days a b := by
  simp only [f_X11_days, f_X12_days, q_isDate, q_day, f_X12_good]
  split
  · rfl
  · split
    · rfl
    · grind
theorem q_months (a b c : Int32) : f_X11_months a b c = f_X12_months a b c := by
  simp only [f_X11_months, f_X12_months, q_isDate, in_if, f_X12_good, f_X3_monthsFrom, f_X12_monthsFrom, f_X12_isMonthEnd, q_len, le_lt b 120]
  grind
theorem q_size (a : Int32) : f_X11_size a = f_X12_size a := by
  rfl

