theorem rem_int {x y : Int64} (hy : ¬ y = 0) : (x - x / y * y).toInt = x.toInt.tmod y.toInt ∧ (x.toInt.tmod y.toInt).natAbs < y.toInt.natAbs := by
  have h1 : y.toInt ≠ 0 := fun h => hy (Int64.toInt_inj.mp (by rw [h]; rfl))
  have l1 := Int64.le_toInt y
  have l2 := Int64.toInt_lt y
  have hn : (x.toInt.tmod y.toInt).natAbs < y.toInt.natAbs := by
    rw [Int.natAbs_tmod]
    exact Nat.mod_lt _ (by omega)
  refine ⟨?_, hn⟩
  rw [Int64.toInt_sub, Int64.toInt_mul, Int64.toInt_div, Int.bmod_mul_bmod, Int.sub_bmod_bmod]
  have e : x.toInt - x.toInt.tdiv y.toInt * y.toInt = x.toInt.tmod y.toInt := by rw [Int.tmod_def, Int.mul_comm]
  rw [e]
  exact Int.bmod_eq_of_le (by omega) (by omega)
/-- what a pair of numbers keeps by a remainder: its greatest common divisor -/
def gc (a b x y : Int64) : Prop := Nat.gcd x.toInt.natAbs y.toInt.natAbs = Nat.gcd a.toInt.natAbs b.toInt.natAbs
theorem ne_toInt {b : Int64} (h : ¬ b = 0) : b.toInt ≠ 0 := fun e => h (Int64.toInt_inj.mp (by rw [e]; rfl))
theorem gc_0 (a b : Int64) : gc a b a b := rfl
theorem gc_n {a b x : Int64} (e : x = -a) : gc a b x b := by
  have l1 := Int64.le_toInt a
  have l2 := Int64.toInt_lt a
  have h : x.toInt.natAbs = a.toInt.natAbs := by
    rw [e, Int64.toInt_neg]
    by_cases h9 : a.toInt = -9223372036854775808
    · rw [h9]
      decide
    · rw [Int.bmod_eq_of_le (by omega) (by omega)]
      omega
  unfold gc
  rw [h]
theorem gc_s {a b x y r : Int64} (h : gc a b x y) (hy : ¬ y = 0) (e : r = x - x / y * y) : gc a b y r := by
  have e1 : r.toInt = x.toInt.tmod y.toInt := by rw [e]; exact (rem_int hy).1
  have e2 : Nat.gcd y.toInt.natAbs r.toInt.natAbs = Nat.gcd x.toInt.natAbs y.toInt.natAbs := by
    rw [e1, Int.natAbs_tmod, Nat.gcd_comm, ← Nat.gcd_rec, Nat.gcd_comm]
  unfold gc
  rw [e2]
  exact h
theorem gc_m {x y r : Int64} {n : Nat} (hy : ¬ y = 0) (e : r = x - x / y * y) (hm : y.toInt.natAbs < n + 1) : r.toInt.natAbs < n := by
  have e1 : r.toInt = x.toInt.tmod y.toInt := by rw [e]; exact (rem_int hy).1
  have h2 := (rem_int (x := x) hy).2
  rw [e1]
  omega
theorem gc_e {a b x y : Int64} (h : gc a b x y) (hy : y = 0) : x.toInt.natAbs = Nat.gcd a.toInt.natAbs b.toInt.natAbs := by
  rw [← h, hy]
  exact (Nat.gcd_zero_right _).symm
/-- every lower WHOLE divides this -/
def LLn : Nat := 10809932980392000
def dL (x : Int64) : Prop := x.toInt.natAbs ∣ LLn
theorem dL_le {x : Int64} (h : dL x) : x.toInt.natAbs ≤ LLn := Nat.le_of_dvd (by decide) h
theorem dL_ne {x : Int64} (h : dL x) : ¬ x = 0 := fun e => by
  have h1 : (0 : Nat) ∣ LLn := by
    have h2 := h
    unfold dL at h2
    rw [e] at h2
    exact h2
  exact absurd (Nat.eq_zero_of_zero_dvd h1) (by decide)
theorem div_abs {b r : Int64} (hb : dL b) : (b / r).toInt.natAbs = b.toInt.natAbs / r.toInt.natAbs := by
  have h1 := dL_le hb
  have h2 : LLn < 9223372036854775808 := by decide
  have h3 : (b.toInt.tdiv r.toInt).natAbs = b.toInt.natAbs / r.toInt.natAbs := Int.natAbs_tdiv _ _
  have h4 : b.toInt.natAbs / r.toInt.natAbs ≤ b.toInt.natAbs := Nat.div_le_self _ _
  rw [Int64.toInt_div, Int.bmod_eq_of_le (by omega) (by omega)]
  exact h3
theorem mul_abs {x y : Int64} (h : x.toInt.natAbs * y.toInt.natAbs ∣ LLn) : (x * y).toInt.natAbs = x.toInt.natAbs * y.toInt.natAbs := by
  have h1 := Nat.le_of_dvd (by decide) h
  have h2 : LLn < 9223372036854775808 := by decide
  have h3 : (x.toInt * y.toInt).natAbs = x.toInt.natAbs * y.toInt.natAbs := Int.natAbs_mul _ _
  rw [Int64.toInt_mul, Int.bmod_eq_of_le (by omega) (by omega)]
  exact h3
/-- sets: the lower WHOLE -/
theorem dL_sets {b r : Int64} {n : Nat} (hb : dL b) (hr : r.toInt.natAbs = Nat.gcd n b.toInt.natAbs) : dL (b / r) := by
  unfold dL
  rw [div_abs hb, hr]
  exact Nat.dvd_trans (Nat.div_dvd_of_dvd (Nat.gcd_dvd_right _ _)) hb
theorem gcd_ne {b r : Int64} {n : Nat} (hb : dL b) (hr : r.toInt.natAbs = Nat.gcd n b.toInt.natAbs) : ¬ r = 0 := fun e => by
  have h1 := Nat.eq_zero_of_gcd_eq_zero_right (m := n) (n := b.toInt.natAbs) (by rw [← hr, e]; rfl)
  exact dL_ne hb (Int64.toInt_inj.mp (Int.natAbs_eq_zero.mp h1))
/-- adds: the least common multiple -/
theorem dL_adds {x b g q : Int64} (hx : dL x) (hb : dL b) (hg : g.toInt.natAbs = Nat.gcd x.toInt.natAbs b.toInt.natAbs) (eq : q = x / g) : dL (q * b) := by
  have h1 : q.toInt.natAbs * b.toInt.natAbs = Nat.lcm x.toInt.natAbs b.toInt.natAbs := by
    rw [eq, div_abs hx, hg]
    exact Nat.div_mul_right_comm (Nat.gcd_dvd_left _ _) _
  have h2 : q.toInt.natAbs * b.toInt.natAbs ∣ LLn := by
    rw [h1]
    exact Nat.lcm_dvd hx hb
  unfold dL
  rw [mul_abs h2]
  exact h2
theorem dL_l {x y : Int64} (h : x.toInt.natAbs * y.toInt.natAbs ∣ LLn) : dL x := Nat.dvd_trans (Nat.dvd_mul_right _ _) h
theorem dL_r {x y : Int64} (h : x.toInt.natAbs * y.toInt.natAbs ∣ LLn) : dL y := Nat.dvd_trans (Nat.dvd_mul_left _ _) h
theorem dL_times {x b o g q1 q2 : Int64} {m n : Nat} (h : x.toInt.natAbs * b.toInt.natAbs ∣ LLn) (ho : o.toInt.natAbs = Nat.gcd m x.toInt.natAbs) (hg : g.toInt.natAbs = Nat.gcd n b.toInt.natAbs) (e1 : q1 = x / o) (e2 : q2 = b / g) : dL (q1 * q2) := by
  have h1 : q1.toInt.natAbs ∣ x.toInt.natAbs := by
    rw [e1, div_abs (dL_l h), ho]
    exact Nat.div_dvd_of_dvd (Nat.gcd_dvd_right _ _)
  have h2 : q2.toInt.natAbs ∣ b.toInt.natAbs := by
    rw [e2, div_abs (dL_r h), hg]
    exact Nat.div_dvd_of_dvd (Nat.gcd_dvd_right _ _)
  have h3 : q1.toInt.natAbs * q2.toInt.natAbs ∣ LLn := Nat.dvd_trans (Nat.mul_dvd_mul h1 h2) h
  unfold dL
  rw [mul_abs h3]
  exact h3
theorem sets_dv {b r : Int64} {n : Nat} (hb : dL b) (hr : r.toInt.natAbs = Nat.gcd n b.toInt.natAbs) : (b / r).toInt.natAbs ∣ b.toInt.natAbs := by
  rw [div_abs hb, hr]
  exact Nat.div_dvd_of_dvd (Nat.gcd_dvd_right _ _)
theorem adds_dv {x b g q : Int64} (hx : dL x) (hb : dL b) (hg : g.toInt.natAbs = Nat.gcd x.toInt.natAbs b.toInt.natAbs) (eq : q = x / g) : (q * b).toInt.natAbs = Nat.lcm x.toInt.natAbs b.toInt.natAbs := by
  have h1 : q.toInt.natAbs * b.toInt.natAbs = Nat.lcm x.toInt.natAbs b.toInt.natAbs := by
    rw [eq, div_abs hx, hg]
    exact Nat.div_mul_right_comm (Nat.gcd_dvd_left _ _) _
  have h2 : q.toInt.natAbs * b.toInt.natAbs ∣ LLn := by
    rw [h1]
    exact Nat.lcm_dvd hx hb
  rw [mul_abs h2, h1]
theorem times_dv {x b o g q1 q2 : Int64} {m n : Nat} (h : x.toInt.natAbs * b.toInt.natAbs ∣ LLn) (ho : o.toInt.natAbs = Nat.gcd m x.toInt.natAbs) (hg : g.toInt.natAbs = Nat.gcd n b.toInt.natAbs) (e1 : q1 = x / o) (e2 : q2 = b / g) : (q1 * q2).toInt.natAbs ∣ x.toInt.natAbs * b.toInt.natAbs := by
  have h1 : q1.toInt.natAbs ∣ x.toInt.natAbs := by
    rw [e1, div_abs (dL_l h), ho]
    exact Nat.div_dvd_of_dvd (Nat.gcd_dvd_right _ _)
  have h2 : q2.toInt.natAbs ∣ b.toInt.natAbs := by
    rw [e2, div_abs (dL_r h), hg]
    exact Nat.div_dvd_of_dvd (Nat.gcd_dvd_right _ _)
  have h4 := Nat.mul_dvd_mul h1 h2
  rw [mul_abs (Nat.dvd_trans h4 h)]
  exact h4
theorem dL_1 {x : Int64} (h : dL x) : x.toInt.natAbs * (1 : Int64).toInt.natAbs ∣ LLn := by
  have e : (1 : Int64).toInt.natAbs = 1 := by decide
  rw [e, Nat.mul_one]
  exact h
theorem dL_of {x y : Int64} (h : dL x) (hp : y.toInt.natAbs ∣ x.toInt.natAbs * (1 : Int64).toInt.natAbs) : dL y := Nat.dvd_trans hp (dL_1 h)
theorem gL_self (σ : gs) (c k : Nat) (x : Int64) : ((gL σ c k x) c).2.1 k = x := by simp [gL, va_up, vp_updL]

