theorem march_z {y : Int32} {Y : Int} (hy : y.toInt = Y) (h1 : 0 ≤ Y) (h2 : Y ≤ 4000) : (f_X12_march y).toInt = 365 * Y + Y / 4 - Y / 100 + Y / 400 := by
  have t1 := i3_mul (a := 365) (b := y) (x := 365) (y := Y) rfl hy (by omega) (by omega)
  obtain ⟨z1, ez1⟩ : ∃ q : Int, q = (365 * Y) := ⟨_, rfl⟩
  rw [← ez1] at t1
  have t2 := i3_div (a := y) (b := 4) (x := Y) (y := 4) hy rfl (by omega) (by omega)
  obtain ⟨z2, ez2⟩ : ∃ q : Int, q = (Y / 4) := ⟨_, rfl⟩
  rw [← ez2] at t2
  have t3 := i3_add (a := (365 * y)) (b := (y / 4)) (x := z1) (y := z2) t1 t2 (by omega) (by omega)
  obtain ⟨z3, ez3⟩ : ∃ q : Int, q = (z1 + z2) := ⟨_, rfl⟩
  rw [← ez3] at t3
  have t4 := i3_div (a := y) (b := 100) (x := Y) (y := 100) hy rfl (by omega) (by omega)
  obtain ⟨z4, ez4⟩ : ∃ q : Int, q = (Y / 100) := ⟨_, rfl⟩
  rw [← ez4] at t4
  have t5 := i3_sub (a := ((365 * y) + (y / 4))) (b := (y / 100)) (x := z3) (y := z4) t3 t4 (by omega) (by omega)
  obtain ⟨z5, ez5⟩ : ∃ q : Int, q = (z3 - z4) := ⟨_, rfl⟩
  rw [← ez5] at t5
  have t6 := i3_div (a := y) (b := 400) (x := Y) (y := 400) hy rfl (by omega) (by omega)
  obtain ⟨z6, ez6⟩ : ∃ q : Int, q = (Y / 400) := ⟨_, rfl⟩
  rw [← ez6] at t6
  have t7 := i3_add (a := (((365 * y) + (y / 4)) - (y / 100))) (b := (y / 400)) (x := z5) (y := z6) t5 t6 (by omega) (by omega)
  obtain ⟨z7, ez7⟩ : ∃ q : Int, q = (z5 + z6) := ⟨_, rfl⟩
  rw [← ez7] at t7
  exact (show (f_X12_march y).toInt = z7 from t7).trans (by omega)
/-- a day's number: its March year, the days behind the first of March -/
theorem num_z {t : Int32} {T : Int} (ht : t.toInt = T) (h1 : -1000 ≤ T) (h2 : T ≤ 40000) : ∃ y o mf : Int, 1970 ≤ y ∧ y ≤ 2100 ∧ 365 * y + y / 4 - y / 100 + y / 400 + o = T + 723120 ∧ 0 ≤ o ∧ o ≤ 365 ∧ T + 723120 < 365 * (y + 1) + (y + 1) / 4 - (y + 1) / 100 + (y + 1) / 400 ∧ mf = (5 * o + 2) / 153 ∧ ((10 ≤ mf ∧ (f_X3_numberOf t).toInt = 10000 * (y + 1) + 100 * (mf - 9) + (o - (153 * mf + 2) / 5 + 1)) ∨ (mf < 10 ∧ (f_X3_numberOf t).toInt = 10000 * y + 100 * (mf + 3) + (o - (153 * mf + 2) / 5 + 1))) := by
  obtain ⟨x1, ex1⟩ : ∃ z : Int32, z = (t + 723120) := ⟨_, rfl⟩
  have t1 := i3_add (a := t) (b := 723120) (x := T) (y := 723120) ht rfl (by omega) (by omega)
  obtain ⟨z1, ez1⟩ : ∃ q : Int, q = (T + 723120) := ⟨_, rfl⟩
  rw [← ez1] at t1
  have hx1 : x1.toInt = z1 := by rw [ex1]; exact t1
  obtain ⟨x2, ex2⟩ : ∃ z : Int32, z = (x1 / 146097) := ⟨_, rfl⟩
  have t2 := i3_div (a := x1) (b := 146097) (x := z1) (y := 146097) hx1 rfl (by omega) (by omega)
  obtain ⟨z2, ez2⟩ : ∃ q : Int, q = (z1 / 146097) := ⟨_, rfl⟩
  rw [← ez2] at t2
  have hx2 : x2.toInt = z2 := by rw [ex2]; exact t2
  obtain ⟨x3, ex3⟩ : ∃ z : Int32, z = (x1 - (x2 * 146097)) := ⟨_, rfl⟩
  have t3 := i3_mul (a := x2) (b := 146097) (x := z2) (y := 146097) hx2 rfl (by omega) (by omega)
  obtain ⟨z3, ez3⟩ : ∃ q : Int, q = (z2 * 146097) := ⟨_, rfl⟩
  rw [← ez3] at t3
  have t4 := i3_sub (a := x1) (b := (x2 * 146097)) (x := z1) (y := z3) hx1 t3 (by omega) (by omega)
  obtain ⟨z4, ez4⟩ : ∃ q : Int, q = (z1 - z3) := ⟨_, rfl⟩
  rw [← ez4] at t4
  have hx3 : x3.toInt = z4 := by rw [ex3]; exact t4
  have era : z2 = 4 ∨ z2 = 5 := by omega
  have oe : 0 ≤ z4 ∧ z4 ≤ 146096 := by omega
  obtain ⟨x4, ex4⟩ : ∃ z : Int32, z = ((((x3 - (x3 / 1460)) + (x3 / 36524)) - (x3 / 146096)) / 365) := ⟨_, rfl⟩
  have t5 := i3_div (a := x3) (b := 1460) (x := z4) (y := 1460) hx3 rfl (by omega) (by omega)
  obtain ⟨z5, ez5⟩ : ∃ q : Int, q = (z4 / 1460) := ⟨_, rfl⟩
  rw [← ez5] at t5
  have t6 := i3_sub (a := x3) (b := (x3 / 1460)) (x := z4) (y := z5) hx3 t5 (by omega) (by omega)
  obtain ⟨z6, ez6⟩ : ∃ q : Int, q = (z4 - z5) := ⟨_, rfl⟩
  rw [← ez6] at t6
  have t7 := i3_div (a := x3) (b := 36524) (x := z4) (y := 36524) hx3 rfl (by omega) (by omega)
  obtain ⟨z7, ez7⟩ : ∃ q : Int, q = (z4 / 36524) := ⟨_, rfl⟩
  rw [← ez7] at t7
  have t8 := i3_add (a := (x3 - (x3 / 1460))) (b := (x3 / 36524)) (x := z6) (y := z7) t6 t7 (by omega) (by omega)
  obtain ⟨z8, ez8⟩ : ∃ q : Int, q = (z6 + z7) := ⟨_, rfl⟩
  rw [← ez8] at t8
  have t9 := i3_div (a := x3) (b := 146096) (x := z4) (y := 146096) hx3 rfl (by omega) (by omega)
  obtain ⟨z9, ez9⟩ : ∃ q : Int, q = (z4 / 146096) := ⟨_, rfl⟩
  rw [← ez9] at t9
  have t10 := i3_sub (a := ((x3 - (x3 / 1460)) + (x3 / 36524))) (b := (x3 / 146096)) (x := z8) (y := z9) t8 t9 (by omega) (by omega)
  obtain ⟨z10, ez10⟩ : ∃ q : Int, q = (z8 - z9) := ⟨_, rfl⟩
  rw [← ez10] at t10
  have t11 := i3_div (a := (((x3 - (x3 / 1460)) + (x3 / 36524)) - (x3 / 146096))) (b := 365) (x := z10) (y := 365) t10 rfl (by omega) (by omega)
  obtain ⟨z11, ez11⟩ : ∃ q : Int, q = (z10 / 365) := ⟨_, rfl⟩
  rw [← ez11] at t11
  have hx4 : x4.toInt = z11 := by rw [ex4]; exact t11
  have k1 : 365 * z11 + z11 / 4 - z11 / 100 ≤ z4 := by omega
  have k2 : z4 < 365 * (z11 + 1) + (z11 + 1) / 4 - (z11 + 1) / 100 + (z11 + 1) / 400 := by omega
  have k3 : 0 ≤ z11 ∧ z11 ≤ 399 := by omega
  obtain ⟨x5, ex5⟩ : ∃ z : Int32, z = (x3 - (((365 * x4) + (x4 / 4)) - (x4 / 100))) := ⟨_, rfl⟩
  have t12 := i3_mul (a := 365) (b := x4) (x := 365) (y := z11) rfl hx4 (by omega) (by omega)
  obtain ⟨z12, ez12⟩ : ∃ q : Int, q = (365 * z11) := ⟨_, rfl⟩
  rw [← ez12] at t12
  have t13 := i3_div (a := x4) (b := 4) (x := z11) (y := 4) hx4 rfl (by omega) (by omega)
  obtain ⟨z13, ez13⟩ : ∃ q : Int, q = (z11 / 4) := ⟨_, rfl⟩
  rw [← ez13] at t13
  have t14 := i3_add (a := (365 * x4)) (b := (x4 / 4)) (x := z12) (y := z13) t12 t13 (by omega) (by omega)
  obtain ⟨z14, ez14⟩ : ∃ q : Int, q = (z12 + z13) := ⟨_, rfl⟩
  rw [← ez14] at t14
  have t15 := i3_div (a := x4) (b := 100) (x := z11) (y := 100) hx4 rfl (by omega) (by omega)
  obtain ⟨z15, ez15⟩ : ∃ q : Int, q = (z11 / 100) := ⟨_, rfl⟩
  rw [← ez15] at t15
  have t16 := i3_sub (a := ((365 * x4) + (x4 / 4))) (b := (x4 / 100)) (x := z14) (y := z15) t14 t15 (by omega) (by omega)
  obtain ⟨z16, ez16⟩ : ∃ q : Int, q = (z14 - z15) := ⟨_, rfl⟩
  rw [← ez16] at t16
  have t17 := i3_sub (a := x3) (b := (((365 * x4) + (x4 / 4)) - (x4 / 100))) (x := z4) (y := z16) hx3 t16 (by omega) (by omega)
  obtain ⟨z17, ez17⟩ : ∃ q : Int, q = (z4 - z16) := ⟨_, rfl⟩
  rw [← ez17] at t17
  have hx5 : x5.toInt = z17 := by rw [ex5]; exact t17
  have k4 : 0 ≤ z17 ∧ z17 ≤ 365 := by omega
  obtain ⟨x6, ex6⟩ : ∃ z : Int32, z = (((5 * x5) + 2) / 153) := ⟨_, rfl⟩
  have t18 := i3_mul (a := 5) (b := x5) (x := 5) (y := z17) rfl hx5 (by omega) (by omega)
  obtain ⟨z18, ez18⟩ : ∃ q : Int, q = (5 * z17) := ⟨_, rfl⟩
  rw [← ez18] at t18
  have t19 := i3_add (a := (5 * x5)) (b := 2) (x := z18) (y := 2) t18 rfl (by omega) (by omega)
  obtain ⟨z19, ez19⟩ : ∃ q : Int, q = (z18 + 2) := ⟨_, rfl⟩
  rw [← ez19] at t19
  have t20 := i3_div (a := ((5 * x5) + 2)) (b := 153) (x := z19) (y := 153) t19 rfl (by omega) (by omega)
  obtain ⟨z20, ez20⟩ : ∃ q : Int, q = (z19 / 153) := ⟨_, rfl⟩
  rw [← ez20] at t20
  have hx6 : x6.toInt = z20 := by rw [ex6]; exact t20
  have k5 : 0 ≤ z20 ∧ z20 ≤ 11 := by omega
  obtain ⟨x7, ex7⟩ : ∃ z : Int32, z = ((x5 - (((153 * x6) + 2) / 5)) + 1) := ⟨_, rfl⟩
  have t21 := i3_mul (a := 153) (b := x6) (x := 153) (y := z20) rfl hx6 (by omega) (by omega)
  obtain ⟨z21, ez21⟩ : ∃ q : Int, q = (153 * z20) := ⟨_, rfl⟩
  rw [← ez21] at t21
  have t22 := i3_add (a := (153 * x6)) (b := 2) (x := z21) (y := 2) t21 rfl (by omega) (by omega)
  obtain ⟨z22, ez22⟩ : ∃ q : Int, q = (z21 + 2) := ⟨_, rfl⟩
  rw [← ez22] at t22
  have t23 := i3_div (a := ((153 * x6) + 2)) (b := 5) (x := z22) (y := 5) t22 rfl (by omega) (by omega)
  obtain ⟨z23, ez23⟩ : ∃ q : Int, q = (z22 / 5) := ⟨_, rfl⟩
  rw [← ez23] at t23
  have t24 := i3_sub (a := x5) (b := (((153 * x6) + 2) / 5)) (x := z17) (y := z23) hx5 t23 (by omega) (by omega)
  obtain ⟨z24, ez24⟩ : ∃ q : Int, q = (z17 - z23) := ⟨_, rfl⟩
  rw [← ez24] at t24
  have t25 := i3_add (a := (x5 - (((153 * x6) + 2) / 5))) (b := 1) (x := z24) (y := 1) t24 rfl (by omega) (by omega)
  obtain ⟨z25, ez25⟩ : ∃ q : Int, q = (z24 + 1) := ⟨_, rfl⟩
  rw [← ez25] at t25
  have hx7 : x7.toInt = z25 := by rw [ex7]; exact t25
  have k6 : 1 ≤ z25 ∧ z25 ≤ 31 := by omega
  have hf : f_X3_numberOf t = (if 10 ≤ x6 then (if 2 < x6 - 9 then ((((x2 * 400) + x4) + 0) * 10000 + (x6 - 9) * 100) + x7 else ((((x2 * 400) + x4) + 1) * 10000 + (x6 - 9) * 100) + x7) else (if 2 < x6 + 3 then ((((x2 * 400) + x4) + 0) * 10000 + (x6 + 3) * 100) + x7 else ((((x2 * 400) + x4) + 1) * 10000 + (x6 + 3) * 100) + x7)) := by
    subst ex7; subst ex6; subst ex5; subst ex4; subst ex3; subst ex2; subst ex1; rfl
  rw [hf]
  clear hf ex7 ex6 ex5 ex4 ex3 ex2 ex1
  refine ⟨z2 * 400 + z11, z17, z20, by omega, by omega, by omega, k4.1, k4.2, by omega, by omega, ?_⟩
  by_cases c : 10 ≤ x6
  · have cm : (10 : Int) ≤ z20 := by rw [← hx6]; exact Int32.le_iff_toInt_le.mp c
    have t26 := i3_sub (a := x6) (b := 9) (x := z20) (y := 9) hx6 rfl (by omega) (by omega)
    obtain ⟨z26, ez26⟩ : ∃ q : Int, q = (z20 - 9) := ⟨_, rfl⟩
    rw [← ez26] at t26
    have c2 : ¬ 2 < x6 - 9 := fun q => by have q2 := Int32.lt_iff_toInt_lt.mp q; rw [t26] at q2; have e2 : (2 : Int32).toInt = 2 := rfl; omega
    have t27 := i3_mul (a := x2) (b := 400) (x := z2) (y := 400) hx2 rfl (by omega) (by omega)
    obtain ⟨z27, ez27⟩ : ∃ q : Int, q = (z2 * 400) := ⟨_, rfl⟩
    rw [← ez27] at t27
    have t28 := i3_add (a := (x2 * 400)) (b := x4) (x := z27) (y := z11) t27 hx4 (by omega) (by omega)
    obtain ⟨z28, ez28⟩ : ∃ q : Int, q = (z27 + z11) := ⟨_, rfl⟩
    rw [← ez28] at t28
    have t29 := i3_add (a := ((x2 * 400) + x4)) (b := 1) (x := z28) (y := 1) t28 rfl (by omega) (by omega)
    obtain ⟨z29, ez29⟩ : ∃ q : Int, q = (z28 + 1) := ⟨_, rfl⟩
    rw [← ez29] at t29
    have t30 := i3_mul (a := (((x2 * 400) + x4) + 1)) (b := 10000) (x := z29) (y := 10000) t29 rfl (by omega) (by omega)
    obtain ⟨z30, ez30⟩ : ∃ q : Int, q = (z29 * 10000) := ⟨_, rfl⟩
    rw [← ez30] at t30
    have t31 := i3_sub (a := x6) (b := 9) (x := z20) (y := 9) hx6 rfl (by omega) (by omega)
    obtain ⟨z31, ez31⟩ : ∃ q : Int, q = (z20 - 9) := ⟨_, rfl⟩
    rw [← ez31] at t31
    have t32 := i3_mul (a := (x6 - 9)) (b := 100) (x := z31) (y := 100) t31 rfl (by omega) (by omega)
    obtain ⟨z32, ez32⟩ : ∃ q : Int, q = (z31 * 100) := ⟨_, rfl⟩
    rw [← ez32] at t32
    have t33 := i3_add (a := ((((x2 * 400) + x4) + 1) * 10000)) (b := ((x6 - 9) * 100)) (x := z30) (y := z32) t30 t32 (by omega) (by omega)
    obtain ⟨z33, ez33⟩ : ∃ q : Int, q = (z30 + z32) := ⟨_, rfl⟩
    rw [← ez33] at t33
    have t34 := i3_add (a := (((((x2 * 400) + x4) + 1) * 10000) + ((x6 - 9) * 100))) (b := x7) (x := z33) (y := z25) t33 hx7 (by omega) (by omega)
    obtain ⟨z34, ez34⟩ : ∃ q : Int, q = (z33 + z25) := ⟨_, rfl⟩
    rw [← ez34] at t34
    rw [if_pos c, if_neg c2]
    exact Or.inl ⟨cm, t34.trans (by omega)⟩
  · have cm : z20 < 10 := by rw [← hx6]; exact Int32.lt_iff_toInt_lt.mp (Int32.not_le.mp c)
    have t26 := i3_add (a := x6) (b := 3) (x := z20) (y := 3) hx6 rfl (by omega) (by omega)
    obtain ⟨z26, ez26⟩ : ∃ q : Int, q = (z20 + 3) := ⟨_, rfl⟩
    rw [← ez26] at t26
    have c2 : 2 < x6 + 3 := by apply Int32.lt_iff_toInt_lt.mpr; rw [t26]; have e2 : (2 : Int32).toInt = 2 := rfl; omega
    have t27 := i3_mul (a := x2) (b := 400) (x := z2) (y := 400) hx2 rfl (by omega) (by omega)
    obtain ⟨z27, ez27⟩ : ∃ q : Int, q = (z2 * 400) := ⟨_, rfl⟩
    rw [← ez27] at t27
    have t28 := i3_add (a := (x2 * 400)) (b := x4) (x := z27) (y := z11) t27 hx4 (by omega) (by omega)
    obtain ⟨z28, ez28⟩ : ∃ q : Int, q = (z27 + z11) := ⟨_, rfl⟩
    rw [← ez28] at t28
    have t29 := i3_add (a := ((x2 * 400) + x4)) (b := 0) (x := z28) (y := 0) t28 rfl (by omega) (by omega)
    obtain ⟨z29, ez29⟩ : ∃ q : Int, q = (z28 + 0) := ⟨_, rfl⟩
    rw [← ez29] at t29
    have t30 := i3_mul (a := (((x2 * 400) + x4) + 0)) (b := 10000) (x := z29) (y := 10000) t29 rfl (by omega) (by omega)
    obtain ⟨z30, ez30⟩ : ∃ q : Int, q = (z29 * 10000) := ⟨_, rfl⟩
    rw [← ez30] at t30
    have t31 := i3_add (a := x6) (b := 3) (x := z20) (y := 3) hx6 rfl (by omega) (by omega)
    obtain ⟨z31, ez31⟩ : ∃ q : Int, q = (z20 + 3) := ⟨_, rfl⟩
    rw [← ez31] at t31
    have t32 := i3_mul (a := (x6 + 3)) (b := 100) (x := z31) (y := 100) t31 rfl (by omega) (by omega)
    obtain ⟨z32, ez32⟩ : ∃ q : Int, q = (z31 * 100) := ⟨_, rfl⟩
    rw [← ez32] at t32
    have t33 := i3_add (a := ((((x2 * 400) + x4) + 0) * 10000)) (b := ((x6 + 3) * 100)) (x := z30) (y := z32) t30 t32 (by omega) (by omega)
    obtain ⟨z33, ez33⟩ : ∃ q : Int, q = (z30 + z32) := ⟨_, rfl⟩
    rw [← ez33] at t33
    have t34 := i3_add (a := (((((x2 * 400) + x4) + 0) * 10000) + ((x6 + 3) * 100))) (b := x7) (x := z33) (y := z25) t33 hx7 (by omega) (by omega)
    obtain ⟨z34, ez34⟩ : ∃ q : Int, q = (z33 + z25) := ⟨_, rfl⟩
    rw [← ez34] at t34
    rw [if_neg c, if_pos c2]
    exact Or.inr ⟨cm, t34.trans (by omega)⟩
theorem dY_hit {n : Nat} {c y : Int32} (h : f_X12_march y ≤ c) : dateS (n + 1) c y ∧ dateY (n + 1) c y = y := ⟨fun q => absurd h q, if_pos h⟩
theorem dY_miss {n : Nat} {c y : Int32} (h : ¬ f_X12_march y ≤ c) : (dateS n c (y + (-1)) → dateS (n + 1) c y) ∧ dateY (n + 1) c y = dateY n c (y + (-1)) := ⟨fun q _ => q, if_neg h⟩
theorem date_z {c : Int32} {D : Int} (hc : c.toInt = D) (h1 : 722120 ≤ D) (h2 : D ≤ 763120) {y : Int} (y1 : 1970 ≤ y) (y2 : y ≤ 2100) (k1 : 365 * (y) + (y) / 4 - (y) / 100 + (y) / 400 ≤ D) (k2 : D < 365 * (y + 1) + (y + 1) / 4 - (y + 1) / 100 + (y + 1) / 400) : dateS 8 c (c / 365) ∧ (dateY 8 c (c / 365)).toInt = y := by
  have e0 := i3_div (a := c) (b := 365) (x := D) (y := 365) hc rfl (by omega) (by omega)
  obtain ⟨y0, ey0⟩ : ∃ z : Int32, z = c / 365 := ⟨_, rfl⟩
  rw [← ey0] at e0 ⊢
  obtain ⟨Y0, eY0⟩ : ∃ z : Int, z = D / 365 := ⟨_, rfl⟩
  rw [← eY0] at e0
  have b : Y0 = y ∨ Y0 = y + 1 ∨ Y0 = y + 2 := by omega
  have m0 := march_z e0 (by omega) (by omega)
  have e1 := i3_add (a := y0) (b := -1) (x := Y0) (y := -1) e0 rfl (by omega) (by omega)
  have m1 := march_z e1 (by omega) (by omega)
  have e2 := i3_add (a := y0 + (-1)) (b := -1) (x := Y0 + -1) (y := -1) e1 rfl (by omega) (by omega)
  have m2 := march_z e2 (by omega) (by omega)
  rcases b with b | b | b
  · have q0 : f_X12_march y0 ≤ c := (i3_le m0 hc).mpr (by rw [b]; exact k1)
    obtain ⟨s1, s2⟩ := dY_hit (n := 7) q0
    exact ⟨s1, by rw [s2, e0, b]⟩
  · have q0 : ¬ f_X12_march y0 ≤ c := fun q => by have := (i3_le m0 hc).mp q; rw [b] at this; omega
    have q1 : f_X12_march (y0 + (-1)) ≤ c := (i3_le m1 hc).mpr (by rw [show Y0 + -1 = y by omega]; exact k1)
    obtain ⟨r1, r2⟩ := dY_miss (n := 7) q0
    obtain ⟨s1, s2⟩ := dY_hit (n := 6) q1
    exact ⟨r1 s1, by rw [r2, s2, e1]; omega⟩
  · have q0 : ¬ f_X12_march y0 ≤ c := fun q => by have := (i3_le m0 hc).mp q; rw [b] at this; omega
    have q1 : ¬ f_X12_march (y0 + (-1)) ≤ c := fun q => by have := (i3_le m1 hc).mp q; rw [show Y0 + -1 = y + 1 by omega] at this; omega
    have q2 : f_X12_march (y0 + (-1) + (-1)) ≤ c := (i3_le m2 hc).mpr (by rw [show Y0 + -1 + -1 = y by omega]; exact k1)
    obtain ⟨r1, r2⟩ := dY_miss (n := 7) q0
    obtain ⟨r3, r4⟩ := dY_miss (n := 6) q1
    obtain ⟨s1, s2⟩ := dY_hit (n := 5) q2
    exact ⟨r1 (r3 s1), by rw [r2, r4, s2, e2]; omega⟩
theorem dateT_z {c v : Int32} {D y o mf : Int} (hc : c.toInt = D) (hv : v.toInt = y) (h1 : 722120 ≤ D) (h2 : D ≤ 763120) (y1 : 1970 ≤ y) (y2 : y ≤ 2100) (ho : 365 * (y) + (y) / 4 - (y) / 100 + (y) / 400 + o = D) (o1 : 0 ≤ o) (o2 : o ≤ 365) (hm : mf = (5 * o + 2) / 153) : (10 ≤ mf ∧ (dateT c v).toInt = 10000 * (y + 1) + 100 * (mf - 9) + (o - (153 * mf + 2) / 5 + 1)) ∨ (mf < 10 ∧ (dateT c v).toInt = 10000 * y + 100 * (mf + 3) + (o - (153 * mf + 2) / 5 + 1)) := by
  have hr0 := march_z hv (by omega) (by omega)
  obtain ⟨M, eM⟩ : ∃ z : Int, z = 365 * (y) + (y) / 4 - (y) / 100 + (y) / 400 := ⟨_, rfl⟩
  rw [← eM] at hr0 ho
  obtain ⟨r, er⟩ : ∃ z : Int32, z = f_X12_march v := ⟨_, rfl⟩
  have hr : r.toInt = M := by rw [er]; exact hr0
  obtain ⟨x2, ex2⟩ : ∃ z : Int32, z = (c - r) := ⟨_, rfl⟩
  have t1 := i3_sub (a := c) (b := r) (x := D) (y := M) hc hr (by omega) (by omega)
  obtain ⟨z1, ez1⟩ : ∃ q : Int, q = (D - M) := ⟨_, rfl⟩
  rw [← ez1] at t1
  have hx2 : x2.toInt = z1 := by rw [ex2]; exact t1
  obtain ⟨x3, ex3⟩ : ∃ z : Int32, z = (((5 * x2) + 2) / 153) := ⟨_, rfl⟩
  have t2 := i3_mul (a := 5) (b := x2) (x := 5) (y := z1) rfl hx2 (by omega) (by omega)
  obtain ⟨z2, ez2⟩ : ∃ q : Int, q = (5 * z1) := ⟨_, rfl⟩
  rw [← ez2] at t2
  have t3 := i3_add (a := (5 * x2)) (b := 2) (x := z2) (y := 2) t2 rfl (by omega) (by omega)
  obtain ⟨z3, ez3⟩ : ∃ q : Int, q = (z2 + 2) := ⟨_, rfl⟩
  rw [← ez3] at t3
  have t4 := i3_div (a := ((5 * x2) + 2)) (b := 153) (x := z3) (y := 153) t3 rfl (by omega) (by omega)
  obtain ⟨z4, ez4⟩ : ∃ q : Int, q = (z3 / 153) := ⟨_, rfl⟩
  rw [← ez4] at t4
  have hx3 : x3.toInt = z4 := by rw [ex3]; exact t4
  have k5 : 0 ≤ z4 ∧ z4 ≤ 11 := by omega
  obtain ⟨x4, ex4⟩ : ∃ z : Int32, z = ((x2 - (((153 * x3) + 2) / 5)) + 1) := ⟨_, rfl⟩
  have t5 := i3_mul (a := 153) (b := x3) (x := 153) (y := z4) rfl hx3 (by omega) (by omega)
  obtain ⟨z5, ez5⟩ : ∃ q : Int, q = (153 * z4) := ⟨_, rfl⟩
  rw [← ez5] at t5
  have t6 := i3_add (a := (153 * x3)) (b := 2) (x := z5) (y := 2) t5 rfl (by omega) (by omega)
  obtain ⟨z6, ez6⟩ : ∃ q : Int, q = (z5 + 2) := ⟨_, rfl⟩
  rw [← ez6] at t6
  have t7 := i3_div (a := ((153 * x3) + 2)) (b := 5) (x := z6) (y := 5) t6 rfl (by omega) (by omega)
  obtain ⟨z7, ez7⟩ : ∃ q : Int, q = (z6 / 5) := ⟨_, rfl⟩
  rw [← ez7] at t7
  have t8 := i3_sub (a := x2) (b := (((153 * x3) + 2) / 5)) (x := z1) (y := z7) hx2 t7 (by omega) (by omega)
  obtain ⟨z8, ez8⟩ : ∃ q : Int, q = (z1 - z7) := ⟨_, rfl⟩
  rw [← ez8] at t8
  have t9 := i3_add (a := (x2 - (((153 * x3) + 2) / 5))) (b := 1) (x := z8) (y := 1) t8 rfl (by omega) (by omega)
  obtain ⟨z9, ez9⟩ : ∃ q : Int, q = (z8 + 1) := ⟨_, rfl⟩
  rw [← ez9] at t9
  have hx4 : x4.toInt = z9 := by rw [ex4]; exact t9
  have k6 : 1 ≤ z9 ∧ z9 ≤ 31 := by omega
  have hf : dateT c v = (if 10 ≤ x3 then (((10000 * (v + 1)) + (100 * (x3 - 9))) + x4) else (((10000 * v) + (100 * (x3 + 3))) + x4)) := by
    subst ex4; subst ex3; subst ex2; subst er; rfl
  rw [hf]
  clear hf ex4 ex3 ex2 er
  by_cases b : 10 ≤ x3
  · have cm : (10 : Int) ≤ z4 := by rw [← hx3]; exact Int32.le_iff_toInt_le.mp b
    have t10 := i3_add (a := v) (b := 1) (x := y) (y := 1) hv rfl (by omega) (by omega)
    obtain ⟨z10, ez10⟩ : ∃ q : Int, q = (y + 1) := ⟨_, rfl⟩
    rw [← ez10] at t10
    have t11 := i3_mul (a := 10000) (b := (v + 1)) (x := 10000) (y := z10) rfl t10 (by omega) (by omega)
    obtain ⟨z11, ez11⟩ : ∃ q : Int, q = (10000 * z10) := ⟨_, rfl⟩
    rw [← ez11] at t11
    have t12 := i3_sub (a := x3) (b := 9) (x := z4) (y := 9) hx3 rfl (by omega) (by omega)
    obtain ⟨z12, ez12⟩ : ∃ q : Int, q = (z4 - 9) := ⟨_, rfl⟩
    rw [← ez12] at t12
    have t13 := i3_mul (a := 100) (b := (x3 - 9)) (x := 100) (y := z12) rfl t12 (by omega) (by omega)
    obtain ⟨z13, ez13⟩ : ∃ q : Int, q = (100 * z12) := ⟨_, rfl⟩
    rw [← ez13] at t13
    have t14 := i3_add (a := (10000 * (v + 1))) (b := (100 * (x3 - 9))) (x := z11) (y := z13) t11 t13 (by omega) (by omega)
    obtain ⟨z14, ez14⟩ : ∃ q : Int, q = (z11 + z13) := ⟨_, rfl⟩
    rw [← ez14] at t14
    have t15 := i3_add (a := ((10000 * (v + 1)) + (100 * (x3 - 9)))) (b := x4) (x := z14) (y := z9) t14 hx4 (by omega) (by omega)
    obtain ⟨z15, ez15⟩ : ∃ q : Int, q = (z14 + z9) := ⟨_, rfl⟩
    rw [← ez15] at t15
    rw [if_pos b]
    exact Or.inl ⟨by omega, t15.trans (by omega)⟩
  · have cm : z4 < 10 := by rw [← hx3]; exact Int32.lt_iff_toInt_lt.mp (Int32.not_le.mp b)
    have t10 := i3_mul (a := 10000) (b := v) (x := 10000) (y := y) rfl hv (by omega) (by omega)
    obtain ⟨z10, ez10⟩ : ∃ q : Int, q = (10000 * y) := ⟨_, rfl⟩
    rw [← ez10] at t10
    have t11 := i3_add (a := x3) (b := 3) (x := z4) (y := 3) hx3 rfl (by omega) (by omega)
    obtain ⟨z11, ez11⟩ : ∃ q : Int, q = (z4 + 3) := ⟨_, rfl⟩
    rw [← ez11] at t11
    have t12 := i3_mul (a := 100) (b := (x3 + 3)) (x := 100) (y := z11) rfl t11 (by omega) (by omega)
    obtain ⟨z12, ez12⟩ : ∃ q : Int, q = (100 * z11) := ⟨_, rfl⟩
    rw [← ez12] at t12
    have t13 := i3_add (a := (10000 * v)) (b := (100 * (x3 + 3))) (x := z10) (y := z12) t10 t12 (by omega) (by omega)
    obtain ⟨z13, ez13⟩ : ∃ q : Int, q = (z10 + z12) := ⟨_, rfl⟩
    rw [← ez13] at t13
    have t14 := i3_add (a := ((10000 * v) + (100 * (x3 + 3)))) (b := x4) (x := z13) (y := z9) t13 hx4 (by omega) (by omega)
    obtain ⟨z14, ez14⟩ : ∃ q : Int, q = (z13 + z9) := ⟨_, rfl⟩
    rw [← ez14] at t14
    rw [if_neg b]
    exact Or.inr ⟨by omega, t14.trans (by omega)⟩
/-- a day's number on both sides -/
theorem num_eq {c : Int32} (h1 : 722120 ≤ c.toInt) (h2 : c.toInt ≤ 763120) : dateS 8 c (c / 365) ∧ f_X3_numberOf (c - 723120) = f_X12_dateOf c := by
  have a1 := i3_sub (a := c) (b := 723120) (x := c.toInt) (y := 723120) rfl rfl (by omega) (by omega)
  obtain ⟨y, o, mf, y1, y2, ho, o1, o2, hk, hm, hn⟩ := num_z a1 (by omega) (by omega)
  obtain ⟨s, hy⟩ := date_z (c := c) rfl h1 h2 y1 y2 (by omega) (by omega)
  refine ⟨s, ?_⟩
  apply Int32.toInt_inj.mp
  have hd := dateT_z (c := c) rfl hy h1 h2 y1 y2 (by omega) o1 o2 hm
  show _ = (dateT c (dateY 8 c (c / 365))).toInt
  rcases hn with ⟨p1, p2⟩ | ⟨p1, p2⟩ <;> rcases hd with ⟨r1, r2⟩ | ⟨r1, r2⟩
  · rw [p2, r2]
  · omega
  · omega
  · rw [p2, r2]

