theorem ymd_parts {d : Int32} {Y MM DD : Int} (eD : d.toInt = 10000 * Y + 100 * MM + DD) (y1 : 0 ≤ Y) (y2 : Y ≤ 4000) (m1 : 1 ≤ MM) (m2 : MM ≤ 12) (d1 : 0 ≤ DD) (d2 : DD ≤ 31) : (d / 10000).toInt = Y ∧ (d / 100 - d / 100 / 100 * 100).toInt = MM ∧ (d - d / 100 * 100).toInt = DD := by
  obtain ⟨D, hD⟩ : ∃ D : Int, d.toInt = D := ⟨_, rfl⟩
  rw [hD] at eD
  have e1 := i3_div (a := d) (b := 10000) (x := D) (y := 10000) hD rfl (by omega) (by decide)
  have e2 := i3_div (a := d) (b := 100) (x := D) (y := 100) hD rfl (by omega) (by decide)
  have e3 := i3_div (b := 100) (y := 100) e2 rfl (by omega) (by decide)
  have e4 := i3_mul (b := 100) (y := 100) e3 rfl (by omega) (by omega)
  have e5 := i3_sub e2 e4 (by omega) (by omega)
  have e6 := i3_mul (b := 100) (y := 100) e2 rfl (by omega) (by omega)
  have e7 := i3_sub (a := d) (x := D) hD e6 (by omega) (by omega)
  exact ⟨e1.trans (by omega), e5.trans (by omega), e7.trans (by omega)⟩
theorem day_ymd {d : Int32} {Y MM DD : Int} (eD : d.toInt = 10000 * Y + 100 * MM + DD) (y1 : 1 ≤ Y) (y2 : Y ≤ 4000) (m1 : 1 ≤ MM) (m2 : MM ≤ 12) (d1 : 1 ≤ DD) (d2 : DD ≤ 31) : ∃ YY FF : Int, ((3 ≤ MM ∧ YY = Y ∧ FF = MM - 3) ∨ (MM ≤ 2 ∧ YY = Y - 1 ∧ FF = MM + 9)) ∧ (f_X12_dayOf d).toInt = 365 * YY + YY / 4 - YY / 100 + YY / 400 + (153 * FF + 2) / 5 + DD - 1 := by
  obtain ⟨hY, hM, hDD⟩ := ymd_parts eD (by omega) y2 m1 m2 (by omega) d2
  unfold f_X12_dayOf f_X12_march
  by_cases c : 3 ≤ d / 100 - d / 100 / 100 * 100
  · have cm : (3 : Int) ≤ MM := by rw [← hM]; exact Int32.le_iff_toInt_le.mp c
    have t1 := i3_mul (a := 365) (b := (d / 10000)) (x := 365) (y := Y) rfl hY (by omega) (by omega)
    obtain ⟨z1, ez1⟩ : ∃ q : Int, q = (365 * Y) := ⟨_, rfl⟩
    rw [← ez1] at t1
    have t2 := i3_div (a := (d / 10000)) (b := 4) (x := Y) (y := 4) hY rfl (by omega) (by omega)
    obtain ⟨z2, ez2⟩ : ∃ q : Int, q = (Y / 4) := ⟨_, rfl⟩
    rw [← ez2] at t2
    have t3 := i3_add (a := (365 * (d / 10000))) (b := ((d / 10000) / 4)) (x := z1) (y := z2) t1 t2 (by omega) (by omega)
    obtain ⟨z3, ez3⟩ : ∃ q : Int, q = (z1 + z2) := ⟨_, rfl⟩
    rw [← ez3] at t3
    have t4 := i3_div (a := (d / 10000)) (b := 100) (x := Y) (y := 100) hY rfl (by omega) (by omega)
    obtain ⟨z4, ez4⟩ : ∃ q : Int, q = (Y / 100) := ⟨_, rfl⟩
    rw [← ez4] at t4
    have t5 := i3_sub (a := ((365 * (d / 10000)) + ((d / 10000) / 4))) (b := ((d / 10000) / 100)) (x := z3) (y := z4) t3 t4 (by omega) (by omega)
    obtain ⟨z5, ez5⟩ : ∃ q : Int, q = (z3 - z4) := ⟨_, rfl⟩
    rw [← ez5] at t5
    have t6 := i3_div (a := (d / 10000)) (b := 400) (x := Y) (y := 400) hY rfl (by omega) (by omega)
    obtain ⟨z6, ez6⟩ : ∃ q : Int, q = (Y / 400) := ⟨_, rfl⟩
    rw [← ez6] at t6
    have t7 := i3_add (a := (((365 * (d / 10000)) + ((d / 10000) / 4)) - ((d / 10000) / 100))) (b := ((d / 10000) / 400)) (x := z5) (y := z6) t5 t6 (by omega) (by omega)
    obtain ⟨z7, ez7⟩ : ∃ q : Int, q = (z5 + z6) := ⟨_, rfl⟩
    rw [← ez7] at t7
    have t8 := i3_sub (a := ((d / 100) - (((d / 100) / 100) * 100))) (b := 3) (x := MM) (y := 3) hM rfl (by omega) (by omega)
    obtain ⟨z8, ez8⟩ : ∃ q : Int, q = (MM - 3) := ⟨_, rfl⟩
    rw [← ez8] at t8
    have t9 := i3_mul (a := 153) (b := (((d / 100) - (((d / 100) / 100) * 100)) - 3)) (x := 153) (y := z8) rfl t8 (by omega) (by omega)
    obtain ⟨z9, ez9⟩ : ∃ q : Int, q = (153 * z8) := ⟨_, rfl⟩
    rw [← ez9] at t9
    have t10 := i3_add (a := (153 * (((d / 100) - (((d / 100) / 100) * 100)) - 3))) (b := 2) (x := z9) (y := 2) t9 rfl (by omega) (by omega)
    obtain ⟨z10, ez10⟩ : ∃ q : Int, q = (z9 + 2) := ⟨_, rfl⟩
    rw [← ez10] at t10
    have t11 := i3_div (a := ((153 * (((d / 100) - (((d / 100) / 100) * 100)) - 3)) + 2)) (b := 5) (x := z10) (y := 5) t10 rfl (by omega) (by omega)
    obtain ⟨z11, ez11⟩ : ∃ q : Int, q = (z10 / 5) := ⟨_, rfl⟩
    rw [← ez11] at t11
    have t12 := i3_add (a := ((((365 * (d / 10000)) + ((d / 10000) / 4)) - ((d / 10000) / 100)) + ((d / 10000) / 400))) (b := (((153 * (((d / 100) - (((d / 100) / 100) * 100)) - 3)) + 2) / 5)) (x := z7) (y := z11) t7 t11 (by omega) (by omega)
    obtain ⟨z12, ez12⟩ : ∃ q : Int, q = (z7 + z11) := ⟨_, rfl⟩
    rw [← ez12] at t12
    have t13 := i3_add (a := (((((365 * (d / 10000)) + ((d / 10000) / 4)) - ((d / 10000) / 100)) + ((d / 10000) / 400)) + (((153 * (((d / 100) - (((d / 100) / 100) * 100)) - 3)) + 2) / 5))) (b := (d - ((d / 100) * 100))) (x := z12) (y := DD) t12 hDD (by omega) (by omega)
    obtain ⟨z13, ez13⟩ : ∃ q : Int, q = (z12 + DD) := ⟨_, rfl⟩
    rw [← ez13] at t13
    have t14 := i3_sub (a := ((((((365 * (d / 10000)) + ((d / 10000) / 4)) - ((d / 10000) / 100)) + ((d / 10000) / 400)) + (((153 * (((d / 100) - (((d / 100) / 100) * 100)) - 3)) + 2) / 5)) + (d - ((d / 100) * 100)))) (b := 1) (x := z13) (y := 1) t13 rfl (by omega) (by omega)
    obtain ⟨z14, ez14⟩ : ∃ q : Int, q = (z13 - 1) := ⟨_, rfl⟩
    rw [← ez14] at t14
    rw [if_pos c]
    refine ⟨Y, MM - 3, Or.inl ⟨by omega, rfl, rfl⟩, ?_⟩
    exact t14.trans (by omega)
  · have cm : MM < 3 := by rw [← hM]; exact Int32.lt_iff_toInt_lt.mp (Int32.not_le.mp c)
    have t1 := i3_sub (a := (d / 10000)) (b := 1) (x := Y) (y := 1) hY rfl (by omega) (by omega)
    obtain ⟨z1, ez1⟩ : ∃ q : Int, q = (Y - 1) := ⟨_, rfl⟩
    rw [← ez1] at t1
    have t2 := i3_mul (a := 365) (b := ((d / 10000) - 1)) (x := 365) (y := z1) rfl t1 (by omega) (by omega)
    obtain ⟨z2, ez2⟩ : ∃ q : Int, q = (365 * z1) := ⟨_, rfl⟩
    rw [← ez2] at t2
    have t3 := i3_div (a := ((d / 10000) - 1)) (b := 4) (x := z1) (y := 4) t1 rfl (by omega) (by omega)
    obtain ⟨z3, ez3⟩ : ∃ q : Int, q = (z1 / 4) := ⟨_, rfl⟩
    rw [← ez3] at t3
    have t4 := i3_add (a := (365 * ((d / 10000) - 1))) (b := (((d / 10000) - 1) / 4)) (x := z2) (y := z3) t2 t3 (by omega) (by omega)
    obtain ⟨z4, ez4⟩ : ∃ q : Int, q = (z2 + z3) := ⟨_, rfl⟩
    rw [← ez4] at t4
    have t5 := i3_div (a := ((d / 10000) - 1)) (b := 100) (x := z1) (y := 100) t1 rfl (by omega) (by omega)
    obtain ⟨z5, ez5⟩ : ∃ q : Int, q = (z1 / 100) := ⟨_, rfl⟩
    rw [← ez5] at t5
    have t6 := i3_sub (a := ((365 * ((d / 10000) - 1)) + (((d / 10000) - 1) / 4))) (b := (((d / 10000) - 1) / 100)) (x := z4) (y := z5) t4 t5 (by omega) (by omega)
    obtain ⟨z6, ez6⟩ : ∃ q : Int, q = (z4 - z5) := ⟨_, rfl⟩
    rw [← ez6] at t6
    have t7 := i3_div (a := ((d / 10000) - 1)) (b := 400) (x := z1) (y := 400) t1 rfl (by omega) (by omega)
    obtain ⟨z7, ez7⟩ : ∃ q : Int, q = (z1 / 400) := ⟨_, rfl⟩
    rw [← ez7] at t7
    have t8 := i3_add (a := (((365 * ((d / 10000) - 1)) + (((d / 10000) - 1) / 4)) - (((d / 10000) - 1) / 100))) (b := (((d / 10000) - 1) / 400)) (x := z6) (y := z7) t6 t7 (by omega) (by omega)
    obtain ⟨z8, ez8⟩ : ∃ q : Int, q = (z6 + z7) := ⟨_, rfl⟩
    rw [← ez8] at t8
    have t9 := i3_add (a := ((d / 100) - (((d / 100) / 100) * 100))) (b := 9) (x := MM) (y := 9) hM rfl (by omega) (by omega)
    obtain ⟨z9, ez9⟩ : ∃ q : Int, q = (MM + 9) := ⟨_, rfl⟩
    rw [← ez9] at t9
    have t10 := i3_mul (a := 153) (b := (((d / 100) - (((d / 100) / 100) * 100)) + 9)) (x := 153) (y := z9) rfl t9 (by omega) (by omega)
    obtain ⟨z10, ez10⟩ : ∃ q : Int, q = (153 * z9) := ⟨_, rfl⟩
    rw [← ez10] at t10
    have t11 := i3_add (a := (153 * (((d / 100) - (((d / 100) / 100) * 100)) + 9))) (b := 2) (x := z10) (y := 2) t10 rfl (by omega) (by omega)
    obtain ⟨z11, ez11⟩ : ∃ q : Int, q = (z10 + 2) := ⟨_, rfl⟩
    rw [← ez11] at t11
    have t12 := i3_div (a := ((153 * (((d / 100) - (((d / 100) / 100) * 100)) + 9)) + 2)) (b := 5) (x := z11) (y := 5) t11 rfl (by omega) (by omega)
    obtain ⟨z12, ez12⟩ : ∃ q : Int, q = (z11 / 5) := ⟨_, rfl⟩
    rw [← ez12] at t12
    have t13 := i3_add (a := ((((365 * ((d / 10000) - 1)) + (((d / 10000) - 1) / 4)) - (((d / 10000) - 1) / 100)) + (((d / 10000) - 1) / 400))) (b := (((153 * (((d / 100) - (((d / 100) / 100) * 100)) + 9)) + 2) / 5)) (x := z8) (y := z12) t8 t12 (by omega) (by omega)
    obtain ⟨z13, ez13⟩ : ∃ q : Int, q = (z8 + z12) := ⟨_, rfl⟩
    rw [← ez13] at t13
    have t14 := i3_add (a := (((((365 * ((d / 10000) - 1)) + (((d / 10000) - 1) / 4)) - (((d / 10000) - 1) / 100)) + (((d / 10000) - 1) / 400)) + (((153 * (((d / 100) - (((d / 100) / 100) * 100)) + 9)) + 2) / 5))) (b := (d - ((d / 100) * 100))) (x := z13) (y := DD) t13 hDD (by omega) (by omega)
    obtain ⟨z14, ez14⟩ : ∃ q : Int, q = (z13 + DD) := ⟨_, rfl⟩
    rw [← ez14] at t14
    have t15 := i3_sub (a := ((((((365 * ((d / 10000) - 1)) + (((d / 10000) - 1) / 4)) - (((d / 10000) - 1) / 100)) + (((d / 10000) - 1) / 400)) + (((153 * (((d / 100) - (((d / 100) / 100) * 100)) + 9)) + 2) / 5)) + (d - ((d / 100) * 100)))) (b := 1) (x := z14) (y := 1) t14 rfl (by omega) (by omega)
    obtain ⟨z15, ez15⟩ : ∃ q : Int, q = (z14 - 1) := ⟨_, rfl⟩
    rw [← ez15] at t15
    rw [if_neg c]
    refine ⟨Y - 1, MM + 9, Or.inr ⟨by omega, rfl, rfl⟩, ?_⟩
    exact t15.trans (by omega)
/-- days ahead of a month (months counted from year 0) -/
def cc (a : Nat) : Nat := 365 * ((a - 2) / 12) + (a - 2) / 12 / 4 - (a - 2) / 12 / 100 + (a - 2) / 12 / 400 + (153 * ((a - 2) % 12) + 2) / 5
def ln (a : Nat) : Nat := cc (a + 1) - cc a
def en (a D : Nat) : Nat := if D ≤ ln a then D else ln a
/-- a month's length by its number -/
def lnm (a : Nat) : Nat := if a % 12 + 1 = 2 then (if a / 12 % 4 = 0 then (if a / 12 % 100 = 0 then (if a / 12 % 400 = 0 then 29 else 28) else 29) else 28) else if a % 12 + 1 = 4 then 30 else if a % 12 + 1 = 6 then 30 else if a % 12 + 1 = 9 then 30 else if a % 12 + 1 = 11 then 30 else 31
def LL0 : Nat := 108099329803920
def gok1 (a n D : Nat) : Bool := Nat.beq (LL0 % ((12 / n) * (cc (a + n) + en (a + n) D - (cc a + en a D)))) 0 && Nat.ble (cc a + en a D) (cc (a + n) + en (a + n) D)
def gokB (a : Nat) : Bool := Nat.beq (ln a) (lnm a) && (gok1 a 12 28 && gok1 a 12 29 && gok1 a 12 30 && gok1 a 12 31 && gok1 a 6 28 && gok1 a 6 29 && gok1 a 6 30 && gok1 a 6 31 && gok1 a 3 28 && gok1 a 3 29 && gok1 a 3 30 && gok1 a 3 31)
def gokA : Nat → Nat → Bool
  | 0, _ => true
  | n + 1, a => gokB a && gokA n (a + 1)
theorem gokA_all : ∀ n a, gokA n a = true → ∀ k, k < n → gokB (a + k) = true := by
  intro n
  induction n with
  | zero => intro a _ k hk; omega
  | succ n ih =>
    intro a h k hk
    have h2 : (gokB a && gokA n (a + 1)) = true := h
    rw [Bool.and_eq_true] at h2
    cases k with
    | zero => exact h2.1
    | succ k => rw [show a + (k + 1) = a + 1 + k by omega]; exact ih (a + 1) h2.2 k (by omega)
theorem gok_t : ∀ i, i < 26 → gokA 100 (22600 + 100 * i) = true := by decide +kernel
theorem gok_at {a : Nat} (h1 : 22600 ≤ a) (h2 : a < 25200) : gokB a = true := by
  have t := gokA_all 100 _ (gok_t ((a - 22600) / 100) (by omega)) ((a - 22600) % 100) (by omega)
  rw [show 22600 + 100 * ((a - 22600) / 100) + (a - 22600) % 100 = a by omega] at t
  exact t
theorem ln_lnm {a : Nat} (h1 : 22600 ≤ a) (h2 : a < 25200) : ln a = lnm a := by
  have h := gok_at h1 h2
  unfold gokB at h
  rw [Bool.and_eq_true] at h
  exact Nat.eq_of_beq_eq_true h.1
theorem lnm_b (a : Nat) : 28 ≤ lnm a ∧ lnm a ≤ 31 := by
  unfold lnm
  repeat' split
  all_goals decide
/-- the step of a grid -/
def stp (n : Nat) : Prop := n = 12 ∨ n = 6 ∨ n = 3
theorem gok_D {a n D : Nat} (hn : stp n) (h1 : 22600 ≤ a) (h2 : a < 25200) (hD : 28 ≤ D) (hD2 : D ≤ 31) : gok1 a n D = true := by
  have h := gok_at h1 h2
  unfold gokB at h
  simp only [Bool.and_eq_true] at h
  obtain ⟨-, ⟨⟨⟨⟨⟨⟨⟨⟨⟨⟨⟨q1, q2⟩, q3⟩, q4⟩, q5⟩, q6⟩, q7⟩, q8⟩, q9⟩, q10⟩, q11⟩, q12⟩⟩ := h
  have hd : D = 28 ∨ D = 29 ∨ D = 30 ∨ D = 31 := by omega
  rcases hn with rfl | rfl | rfl <;> rcases hd with rfl | rfl | rfl | rfl <;> assumption
theorem en_lo {a D : Nat} (h1 : 22600 ≤ a) (h2 : a < 25200) (hD : D ≤ 28) : en a D = D := by
  unfold en
  rw [if_pos]
  rw [ln_lnm h1 h2]
  have := (lnm_b a).1
  omega
theorem en_b {a D : Nat} (h1 : 22600 ≤ a) (h2 : a < 25200) (hD : 1 ≤ D) (hD2 : D ≤ 31) : 1 ≤ en a D ∧ en a D ≤ 31 := by
  unfold en
  rw [ln_lnm h1 h2]
  have := lnm_b a
  split <;> omega
/-- from one date of a grid to the next: what the days divide -/
theorem gok_all {a n D : Nat} (hn : stp n) (h1 : 22600 ≤ a) (h2 : a + n < 25200) (hD : 1 ≤ D) (hD2 : D ≤ 31) : cc a + en a D ≤ cc (a + n) + en (a + n) D ∧ (12 / n) * (cc (a + n) + en (a + n) D - (cc a + en a D)) ∣ LL0 := by
  have hn12 : n ≤ 12 := by rcases hn with rfl | rfl | rfl <;> decide
  by_cases h : 28 ≤ D
  · have g := gok_D hn h1 (by omega) h hD2
    unfold gok1 at g
    rw [Bool.and_eq_true] at g
    exact ⟨Nat.le_of_ble_eq_true g.2, Nat.dvd_of_mod_eq_zero (Nat.eq_of_beq_eq_true g.1)⟩
  · have g := gok_D (D := 28) hn h1 (by omega) (by decide) (by decide)
    unfold gok1 at g
    rw [Bool.and_eq_true] at g
    have g1 := Nat.le_of_ble_eq_true g.2
    have g2 := Nat.dvd_of_mod_eq_zero (Nat.eq_of_beq_eq_true g.1)
    rw [en_lo h1 (by omega) (by omega), en_lo (by omega) h2 (by omega)] at g1 g2 ⊢
    have e : cc (a + n) + 28 - (cc a + 28) = cc (a + n) + D - (cc a + D) := by omega
    rw [e] at g2
    exact ⟨by omega, g2⟩
theorem i3_mod {x : Int32} {n : Int32} {X Y : Int} (hx : x.toInt = X) (hn : n.toInt = Y) (h0 : 0 ≤ X) (hY : 0 < Y) (hs : X ≤ 2147483647) : (x - x / n * n).toInt = X % Y := by
  have e1 := i3_div hx hn h0 hY
  have q := Int.ediv_mul_le X (Int.ne_of_gt hY)
  have q0 : 0 ≤ X / Y * Y := Int.mul_nonneg (Int.ediv_nonneg h0 (by omega)) (by omega)
  have e2 := i3_mul e1 hn (by omega) (by omega)
  have e3 := i3_sub hx e2 (by omega) (by omega)
  rw [e3, Int.emod_def, Int.mul_comm Y]
theorem i3_is {x : Int32} {X : Int} (hx : x.toInt = X) (n : Int32) {Y : Int} (hn : n.toInt = Y) : (x = n) = (X = Y) := propext (i3_eq hx hn)
theorem daysIn_z {y m : Int32} {a : Nat} (hy : y.toInt = ((a / 12 : Nat) : Int)) (hm : m.toInt = ((a % 12 + 1 : Nat) : Int)) (ha : a < 40000) : (f_X12_daysIn y m).toInt = ((lnm a : Nat) : Int) := by
  have c : ∀ n : Nat, ((a / 12 : Nat) : Int) % n = ((a / 12 % n : Nat) : Int) := fun n => by rw [Int.natCast_emod]
  have k4 := i3_mod (n := 4) (Y := ((4 : Nat) : Int)) hy rfl (by omega) (by decide) (by omega)
  have k1 := i3_mod (n := 100) (Y := ((100 : Nat) : Int)) hy rfl (by omega) (by decide) (by omega)
  have k0 := i3_mod (n := 400) (Y := ((400 : Nat) : Int)) hy rfl (by omega) (by decide) (by omega)
  rw [c] at k4 k1 k0
  have z : ∀ {x : Int32} {n : Nat}, x.toInt = (n : Int) → ∀ (l : Int32) (k : Nat), l.toInt = (k : Int) → ((x = l) = (n = k)) := fun hx l k hl => propext ⟨fun h => by have := (i3_eq hx hl).mp h; omega, fun h => (i3_eq hx hl).mpr (by omega)⟩
  unfold f_X12_daysIn lnm
  simp only [z hm 2 2 rfl, z k4 0 0 rfl, z k1 0 0 rfl, z k0 0 0 rfl, z hm 4 4 rfl, z hm 6 6 rfl, z hm 9 9 rfl, z hm 11 11 rfl]
  repeat' split
  all_goals rfl
/-- MONTHS from a date: the month reached, the day in it -/
def ed (e : Int32) (a D : Nat) : Nat := if e = 0 then en a D else en a 31
theorem ed_b {e : Int32} {a D : Nat} (h1 : 22600 ≤ a) (h2 : a < 25200) (hD : 1 ≤ D) (hD2 : D ≤ 31) : 1 ≤ ed e a D ∧ ed e a D ≤ 31 := by
  unfold ed
  split
  · exact en_b h1 h2 hD hD2
  · exact en_b h1 h2 (by decide) (by decide)
theorem mf_z {d n e : Int32} {Y MM DD N : Int} (hY : (d / 10000).toInt = Y) (hM : (d / 100 - d / 100 / 100 * 100).toInt = MM) (hDD : (d - d / 100 * 100).toInt = DD) (y1 : 1980 ≤ Y) (y2 : Y ≤ 2079) (m1 : 1 ≤ MM) (m2 : MM ≤ 12) (d1 : 1 ≤ DD) (d2 : DD ≤ 31) (hn : n.toInt = N) (n1 : -1092 ≤ N) (n2 : N ≤ 48) (a D : Nat) (ha : (a : Int) = 12 * Y + MM - 1 + N) (hD : (D : Int) = DD) :
    (f_X12_monthsFrom d n e).toInt = 10000 * ((a / 12 : Nat) : Int) + 100 * ((a % 12 + 1 : Nat) : Int) + ((ed e a D : Nat) : Int) := by
  have t1 := i3_mul (b := 12) (y := 12) hY rfl (by omega) (by omega)
  have t2 := i3_add t1 hM (by omega) (by omega)
  have t3 := i3_sub (b := 1) (y := 1) t2 rfl (by omega) (by omega)
  have t4 := i3_add t3 hn (by omega) (by omega)
  have t5 : (((d / 10000) * 12 + (d / 100 - d / 100 / 100 * 100) - 1) + n).toInt = (a : Int) := t4.trans (by omega)
  obtain ⟨x, ex⟩ : ∃ x : Int32, x = ((d / 10000) * 12 + (d / 100 - d / 100 / 100 * 100) - 1) + n := ⟨_, rfl⟩
  rw [← ex] at t5
  have a1 : 22600 ≤ a := by omega
  have a2 : a < 25200 := by omega
  have u1 := i3_div (b := 12) (y := 12) t5 rfl (by omega) (by decide)
  have u1' : (x / 12).toInt = ((a / 12 : Nat) : Int) := u1.trans (by omega)
  have u2 := i3_mod (n := 12) (Y := 12) t5 rfl (by omega) (by decide) (by omega)
  have u3 := i3_add (b := 1) (y := 1) u2 rfl (by omega) (by omega)
  have u3' : (x - x / 12 * 12 + 1).toInt = ((a % 12 + 1 : Nat) : Int) := u3.trans (by omega)
  have u4 := daysIn_z u1' u3' (by omega)
  rw [← ln_lnm a1 a2] at u4
  have lb := lnm_b a
  rw [← ln_lnm a1 a2] at lb
  have v1 := i3_mul (b := 10000) (y := 10000) u1' rfl (by omega) (by omega)
  have v2 := i3_mul (b := 100) (y := 100) u3' rfl (by omega) (by omega)
  have v3 := i3_add v1 v2 (by omega) (by omega)
  have w1 := i3_add v3 u4 (by omega) (by omega)
  have w2 := i3_add v3 hDD (by omega) (by omega)
  unfold f_X12_monthsFrom
  simp only
  rw [← ex]
  have en31 : en a 31 = ln a := by
    unfold en
    split <;> omega
  by_cases he : e = 0
  · rw [if_pos he]
    have e1 : ed e a D = en a D := if_pos he
    rw [e1]
    by_cases hc : (d - d / 100 * 100) ≤ f_X12_daysIn (x / 12) (x - x / 12 * 12 + 1)
    · rw [if_pos hc]
      have hc2 := (i3_le hDD u4).mp hc
      have e2 : en a D = D := if_pos (by omega)
      rw [e2, w2]
      omega
    · rw [if_neg hc]
      have hc2 := mt (i3_le hDD u4).mpr hc
      have e2 : en a D = ln a := if_neg (by omega)
      rw [e2, w1]
      omega
  · rw [if_neg he]
    have e1 : ed e a D = en a 31 := if_neg he
    rw [e1, en31, w1]
    omega
theorem cc_day {a D : Nat} {d : Int32} (h1 : 22600 ≤ a) (h2 : a < 25200) (hD : 1 ≤ D) (hD2 : D ≤ 31) (e : d.toInt = 10000 * ((a / 12 : Nat) : Int) + 100 * ((a % 12 + 1 : Nat) : Int) + ((D : Nat) : Int)) : (f_X12_dayOf d).toInt + 1 = ((cc a + D : Nat) : Int) := by
  obtain ⟨YY, FF, hc, e2⟩ := day_ymd e (by omega) (by omega) (by omega) (by omega) (by omega) (by omega)
  have hy : YY = (((a - 2) / 12 : Nat) : Int) := by rcases hc with ⟨q1, q2, q3⟩ | ⟨q1, q2, q3⟩ <;> omega
  have hf : FF = (((a - 2) % 12 : Nat) : Int) := by rcases hc with ⟨q1, q2, q3⟩ | ⟨q1, q2, q3⟩ <;> omega
  rw [e2]
  unfold cc
  generalize (a - 2) / 12 = y at hy
  generalize (a - 2) % 12 = f at hf
  clear e e2 hc h1 h2
  omega
/-- a number of steps in a year -/
def oft (o : Int32) : Prop := o = 1 ∨ o = 2 ∨ o = 4
theorem oft_of {o : Int32} (h1 : 1 ≤ o) (h4 : o ≤ 4) (h3 : ¬ o = 3) : oft o := by
  have a := Int32.le_iff_toInt_le.mp h1
  have b := Int32.le_iff_toInt_le.mp h4
  have b1 : (1 : Int32).toInt = 1 := by decide
  have b4 : (4 : Int32).toInt = 4 := by decide
  have c : o.toInt ≠ 3 := fun e => h3 (Int32.toInt_inj.mp (by rw [e]; rfl))
  have d : o.toInt = 1 ∨ o.toInt = 2 ∨ o.toInt = 4 := by omega
  rcases d with d | d | d
  · exact Or.inl (Int32.toInt_inj.mp (by rw [d]; rfl))
  · exact Or.inr (Or.inl (Int32.toInt_inj.mp (by rw [d]; rfl)))
  · exact Or.inr (Or.inr (Int32.toInt_inj.mp (by rw [d]; rfl)))
theorem oft_1 {o : Int32} (h : oft o) : 1 ≤ o := by rcases h with rfl | rfl | rfl <;> decide
/-- how many months a step has -/
theorem oft_stp {o : Int32} (h : oft o) : ∃ n : Nat, stp n ∧ (12 / o).toInt = n ∧ (o.toInt : Int) = ((12 / n : Nat) : Int) := by
  rcases h with rfl | rfl | rfl
  · exact ⟨12, Or.inl rfl, by decide, by decide⟩
  · exact ⟨6, Or.inr (Or.inl rfl), by decide, by decide⟩
  · exact ⟨3, Or.inr (Or.inr rfl), by decide, by decide⟩
/-- a grid's date -/
def gdt (A O E k : Int32) : Int32 := f_X12_monthsFrom A (12 / O * k) (if E = 0 then 0 else if f_X12_isMonthEnd A = 0 then 0 else 1)
theorem gdt_z {A O E : Int32} (hA : 1 ≤ f_X12_isDate A) (hO : oft O) : ∃ (a0 D n : Nat) (e : Int32), stp n ∧ 23760 ≤ a0 ∧ a0 ≤ 24959 ∧ 1 ≤ D ∧ D ≤ 31 ∧ (O.toInt : Int) = ((12 / n : Nat) : Int) ∧ A.toInt = 10000 * ((a0 / 12 : Nat) : Int) + 100 * ((a0 % 12 + 1 : Nat) : Int) + ((D : Nat) : Int) ∧ ed e a0 D = D ∧
    ∀ (k : Int32) (a : Nat), -91 ≤ k.toInt → k.toInt ≤ 4 → (a : Int) = a0 + n * k.toInt → (gdt A O E k).toInt = 10000 * ((a / 12 : Nat) : Int) + 100 * ((a % 12 + 1 : Nat) : Int) + ((ed e a D : Nat) : Int) := by
  have hA' : ¬ f_X12_isDate A = 0 := fun h => absurd hA (by rw [h]; decide)
  obtain ⟨D0, Y, MM, DD, hD, eD, y1, y2, m1, m2, d1, d2, hY, hM, hDD, hL⟩ := date_bounds hA'
  obtain ⟨n, hn, n1, n2⟩ := oft_stp hO
  obtain ⟨a0, ea⟩ : ∃ a : Nat, (a : Int) = 12 * Y + MM - 1 := ⟨(12 * Y + MM - 1).toNat, by omega⟩
  obtain ⟨D, eDD⟩ : ∃ a : Nat, (a : Int) = DD := ⟨DD.toNat, by omega⟩
  have ya : Y = ((a0 / 12 : Nat) : Int) := by omega
  have ma : MM = ((a0 % 12 + 1 : Nat) : Int) := by omega
  have lz := daysIn_z (a := a0) (hY.trans ya) (hM.trans ma) (by omega)
  rw [← ln_lnm (by omega) (by omega)] at lz
  have hln := lnm_b a0
  rw [← ln_lnm (by omega) (by omega)] at hln
  refine ⟨a0, D, n, (if E = 0 then 0 else if f_X12_isMonthEnd A = 0 then 0 else 1), hn, by omega, by omega, by omega, by omega, n2, by omega, ?_, ?_⟩
  · have en0 : en a0 D = D := if_pos (by omega)
    unfold ed
    by_cases h1 : E = 0
    · rw [if_pos h1, if_pos rfl]
      exact en0
    · rw [if_neg h1]
      by_cases h2 : f_X12_isMonthEnd A = 0
      · rw [if_pos h2, if_pos rfl]
        exact en0
      · rw [if_neg h2, if_neg (by decide)]
        have h3 : (A - A / 100 * 100) = f_X12_daysIn (A / 10000) (A / 100 - A / 100 / 100 * 100) := by
          refine Classical.byContradiction (fun h4 => h2 ?_)
          unfold f_X12_isMonthEnd
          exact if_neg h4
        have h5 := (i3_eq hDD lz).mp h3
        have h6 : en a0 31 = ln a0 := by
          unfold en
          split <;> omega
        rw [h6]
        omega
  · intro k a k1 k2 hk
    have nk : -1092 ≤ (n : Int) * k.toInt ∧ (n : Int) * k.toInt ≤ 48 := by rcases hn with rfl | rfl | rfl <;> constructor <;> omega
    have t := i3_mul n1 (b := k) (y := k.toInt) rfl (by omega) (by omega)
    exact mf_z hY hM hDD y1 y2 m1 m2 d1 d2 t nk.1 nk.2 a D (by omega) eDD
theorem gdt_b {A O E k : Int32} (hA : 1 ≤ f_X12_isDate A) (hO : oft O) (h1 : -91 ≤ k) (h2 : k ≤ 4) : 0 ≤ gdt A O E k ∧ gdt A O E k ≤ 30000000 := by
  obtain ⟨a0, D, n, e, hn, a1, a2, d1, d2, ho, hA2, he, hg⟩ := gdt_z (E := E) hA hO
  have k1 : -91 ≤ k.toInt := Int32.le_iff_toInt_le.mp h1
  have k2 : k.toInt ≤ 4 := Int32.le_iff_toInt_le.mp h2
  have nk : -1092 ≤ (n : Int) * k.toInt ∧ (n : Int) * k.toInt ≤ 48 := by rcases hn with rfl | rfl | rfl <;> constructor <;> omega
  obtain ⟨a, ea⟩ : ∃ a : Nat, (a : Int) = a0 + n * k.toInt := ⟨((a0 : Int) + n * k.toInt).toNat, by omega⟩
  have g := hg k a k1 k2 ea
  have b := ed_b (e := e) (a := a) (D := D) (by omega) (by omega) d1 d2
  have b0 : (0 : Int32).toInt = 0 := by decide
  have b3 : (30000000 : Int32).toInt = 30000000 := by decide
  exact ⟨Int32.le_iff_toInt_le.mpr (by omega), Int32.le_iff_toInt_le.mpr (by omega)⟩
theorem gdt_0 {A O E : Int32} (hA : 1 ≤ f_X12_isDate A) (hO : oft O) : gdt A O E 0 = A := by
  obtain ⟨a0, D, n, e, hn, a1, a2, d1, d2, ho, hA2, he, hg⟩ := gdt_z (E := E) hA hO
  have b0 : (0 : Int32).toInt = 0 := by decide
  have g := hg 0 a0 (by omega) (by omega) (by rw [b0]; omega)
  rw [he] at g
  exact Int32.toInt_inj.mp (g.trans hA2.symm)
theorem gdt_le {A O E k : Int32} (hA : 1 ≤ f_X12_isDate A) (hO : oft O) (h1 : -91 ≤ k) (h2 : k ≤ 0) : gdt A O E k ≤ A := by
  obtain ⟨a0, D, n, e, hn, a1, a2, d1, d2, ho, hA2, he, hg⟩ := gdt_z (E := E) hA hO
  have k1 : -91 ≤ k.toInt := Int32.le_iff_toInt_le.mp h1
  have k2 : k.toInt ≤ 0 := Int32.le_iff_toInt_le.mp h2
  have nk : -1092 ≤ (n : Int) * k.toInt ∧ (n : Int) * k.toInt ≤ 0 ∧ (k.toInt < 0 → (n : Int) * k.toInt < 0) := by rcases hn with rfl | rfl | rfl <;> refine ⟨?_, ?_, ?_⟩ <;> omega
  obtain ⟨a, ea⟩ : ∃ a : Nat, (a : Int) = a0 + n * k.toInt := ⟨((a0 : Int) + n * k.toInt).toNat, by omega⟩
  have g := hg k a k1 (by omega) ea
  have b := ed_b (e := e) (a := a) (D := D) (by omega) (by omega) d1 d2
  by_cases hk : k.toInt = 0
  · have e1 : k = 0 := Int32.toInt_inj.mp (by rw [hk]; rfl)
    rw [e1, gdt_0 hA hO]
    exact Int32.le_refl _
  · have l : a < a0 := by
      have := nk.2.2 (by omega)
      omega
    have b0 : A.toInt = A.toInt := rfl
    exact Int32.le_iff_toInt_le.mpr (by omega)
/-- what a step's days divide -/
theorem gdt_dl {A O E k k' : Int32} (hA : 1 ≤ f_X12_isDate A) (hO : oft O) (h1 : -91 ≤ k) (h2 : k < 4) (e' : k'.toInt = k.toInt + 1) : (O.toInt * (f_X12_dayOf (gdt A O E k') - f_X12_dayOf (gdt A O E k)).toInt).natAbs ∣ LL0 := by
  obtain ⟨a0, D, n, e, hn, a1, a2, d1, d2, ho, hA2, he, hg⟩ := gdt_z (E := E) hA hO
  have k1 : -91 ≤ k.toInt := Int32.le_iff_toInt_le.mp h1
  have k2 : k.toInt < 4 := Int32.lt_iff_toInt_lt.mp h2
  have nk : -1092 ≤ (n : Int) * k.toInt ∧ (n : Int) * k.toInt ≤ 48 ∧ (n : Int) * (k.toInt + 1) = n * k.toInt + n ∧ n * k.toInt + n ≤ 48 := by rcases hn with rfl | rfl | rfl <;> refine ⟨?_, ?_, ?_, ?_⟩ <;> omega
  obtain ⟨a, ea⟩ : ∃ a : Nat, (a : Int) = a0 + n * k.toInt := ⟨((a0 : Int) + n * k.toInt).toNat, by omega⟩
  have hn12 : n ≤ 12 := by rcases hn with rfl | rfl | rfl <;> decide
  have g := hg k a k1 (by omega) ea
  have g' := hg k' (a + n) (by omega) (by omega) (by rw [e', nk.2.2.1]; omega)
  have b := ed_b (e := e) (a := a) (D := D) (by omega) (by omega) d1 d2
  have b' := ed_b (e := e) (a := a + n) (D := D) (by omega) (by omega) d1 d2
  have c := cc_day (by omega) (by omega) b.1 b.2 g
  have c' := cc_day (by omega) (by omega) b'.1 b'.2 g'
  obtain ⟨D', hd1, hd2, hD1, hD2⟩ : ∃ D', ed e a D = en a D' ∧ ed e (a + n) D = en (a + n) D' ∧ 1 ≤ D' ∧ D' ≤ 31 := by
    by_cases q : e = 0
    · exact ⟨D, if_pos q, if_pos q, d1, d2⟩
    · exact ⟨31, if_neg q, if_neg q, by decide, by decide⟩
  rw [hd1] at c
  rw [hd2] at c'
  obtain ⟨q1, q2⟩ := gok_all hn (a := a) (by omega) (by omega) hD1 hD2
  have cb : cc (a + n) + en (a + n) D' ≤ 3000000 := by
    have l1 := (en_b (a := a + n) (by omega) (by omega) hD1 hD2).2
    have l2 : cc (a + n) ≤ 2000000 := by
      unfold cc
      omega
    omega
  have s := i3_sub (a := f_X12_dayOf (gdt A O E k')) (b := f_X12_dayOf (gdt A O E k)) (x := (f_X12_dayOf (gdt A O E k')).toInt) (y := (f_X12_dayOf (gdt A O E k)).toInt) rfl rfl (by omega) (by omega)
  rw [s, ho]
  have f : (f_X12_dayOf (gdt A O E k')).toInt - (f_X12_dayOf (gdt A O E k)).toInt = ((cc (a + n) + en (a + n) D' - (cc a + en a D') : Nat) : Int) := by omega
  rw [f, ← Int.natCast_mul, Int.natAbs_natCast]
  exact q2

