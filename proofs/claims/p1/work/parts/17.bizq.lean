theorem wd_z {a : Int32} (h1 : 722120 ≤ a.toInt) (h2 : a.toInt ≤ 1000000) : (f_X12_weekdayOf a).toInt = (a.toInt + 6276881) % 7 := by
  have a0 := i3_sub (a := a) (b := 723120) (x := a.toInt) (y := 723120) rfl rfl (by omega) (by omega)
  have a1 := i3_add (b := 7000001) (y := 7000001) a0 rfl (by omega) (by omega)
  have a2 := i3_div (b := 7) (y := 7) a1 rfl (by omega) (by decide)
  have a3 := i3_mul (b := 7) (y := 7) a2 rfl (by omega) (by omega)
  have a4 := i3_sub a1 a3 (by omega) (by omega)
  have e : f_X12_weekdayOf a = (a - 723120 + 7000001) - (a - 723120 + 7000001) / 7 * 7 := rfl
  rw [e, a4]
  clear e a0 a1 a2 a3 a4
  omega
theorem isB_z {a : Int32} (h1 : 722120 ≤ a.toInt) (h2 : a.toInt ≤ 1000000) : f_X12_isBusiness a = 0 ↔ 5 ≤ (a.toInt + 6276881) % 7 := by
  have w := wd_z h1 h2
  unfold f_X12_isBusiness
  obtain ⟨v, hv⟩ : ∃ v, v = f_X12_weekdayOf a := ⟨_, rfl⟩
  have w2 : v.toInt = (a.toInt + 6276881) % 7 := by rw [hv]; exact w
  have hs : (if v ≤ 4 then (1 : Int32) else 0) = 0 ↔ 5 ≤ v.toInt := by
    by_cases q : v ≤ 4
    · have q1 : v.toInt ≤ 4 := Int32.le_iff_toInt_le.mp q
      rw [if_pos q]
      exact ⟨fun z => absurd z (by decide), fun z => absurd q1 (by omega)⟩
    · have q1 : (4 : Int) < v.toInt := Int32.lt_iff_toInt_lt.mp (Int32.not_le.mp q)
      rw [if_neg q]
      exact ⟨fun _ => by omega, fun _ => rfl⟩
  rw [hv] at hs w2
  rw [w2] at hs
  exact hs

theorem biz_up : ∀ (n : Nat) (l a : Int32), 0 ≤ l.toInt → l.toInt ≤ 60 → 722120 + (n : Int) ≤ a.toInt → a.toInt + n ≤ 1000000 →
    (((a.toInt + 6276881) % 7 = 5 ∧ 3 * l.toInt - 1 ≤ n) ∨ ((a.toInt + 6276881) % 7 = 6 ∧ 3 * l.toInt - 2 ≤ n) ∨ 3 * l.toInt ≤ n) → bizS n 1 l a := by
  intro n
  induction n with
  | zero =>
    intro l a l0 l1 a0 a1 h
    show l ≤ 0
    apply Int32.le_iff_toInt_le.mpr
    have e0 : (0 : Int32).toInt = 0 := rfl
    omega
  | succ n ih =>
    intro l a l0 l1 a0 a1 h hne
    have l2 : (0 : Int) < l.toInt := Int32.lt_iff_toInt_lt.mp (Int32.not_le.mp hne)
    have e1 := i3_add (a := a) (b := 1) (x := a.toInt) (y := 1) rfl rfl (by omega) (by omega)
    have b := isB_z (a := a + 1) (by rw [e1]; omega) (by rw [e1]; omega)
    have m0 := i3_sub (a := l) (b := 0) (x := l.toInt) (y := 0) rfl rfl (by omega) (by omega)
    have m1 := i3_sub (a := l) (b := 1) (x := l.toInt) (y := 1) rfl rfl (by omega) (by omega)
    rw [e1] at b
    constructor
    · intro q
      have q := b.mp q
      exact ih (l - 0) (a + 1) (by rw [m0]; omega) (by rw [m0]; omega) (by rw [e1]; omega) (by rw [e1]; omega) (by rw [m0, e1]; omega)
    · intro q
      have q : ¬ _ := fun z => q (b.mpr z)
      exact ih (l - 1) (a + 1) (by rw [m1]; omega) (by rw [m1]; omega) (by rw [e1]; omega) (by rw [e1]; omega) (by rw [m1, e1]; omega)

theorem biz_dn : ∀ (n : Nat) (l a : Int32), 0 ≤ l.toInt → l.toInt ≤ 60 → 722120 + (n : Int) ≤ a.toInt → a.toInt + n ≤ 1000000 →
    (((a.toInt + 6276881) % 7 = 6 ∧ 3 * l.toInt - 1 ≤ n) ∨ ((a.toInt + 6276881) % 7 = 5 ∧ 3 * l.toInt - 2 ≤ n) ∨ 3 * l.toInt ≤ n) → bizS n (-1) l a := by
  intro n
  induction n with
  | zero =>
    intro l a l0 l1 a0 a1 h
    show l ≤ 0
    apply Int32.le_iff_toInt_le.mpr
    have e0 : (0 : Int32).toInt = 0 := rfl
    omega
  | succ n ih =>
    intro l a l0 l1 a0 a1 h hne
    have l2 : (0 : Int) < l.toInt := Int32.lt_iff_toInt_lt.mp (Int32.not_le.mp hne)
    have e1 := i3_add (a := a) (b := (-1)) (x := a.toInt) (y := -1) rfl rfl (by omega) (by omega)
    have b := isB_z (a := a + (-1)) (by rw [e1]; omega) (by rw [e1]; omega)
    have m0 := i3_sub (a := l) (b := 0) (x := l.toInt) (y := 0) rfl rfl (by omega) (by omega)
    have m1 := i3_sub (a := l) (b := 1) (x := l.toInt) (y := 1) rfl rfl (by omega) (by omega)
    rw [e1] at b
    constructor
    · intro q
      have q := b.mp q
      exact ih (l - 0) (a + (-1)) (by rw [m0]; omega) (by rw [m0]; omega) (by rw [e1]; omega) (by rw [e1]; omega) (by rw [m0, e1]; omega)
    · intro q
      have q : ¬ _ := fun z => q (b.mpr z)
      exact ih (l - 1) (a + (-1)) (by rw [m1]; omega) (by rw [m1]; omega) (by rw [e1]; omega) (by rw [e1]; omega) (by rw [m1, e1]; omega)

theorem biz_su : ∀ (n : Nat) (l a : Int32), 722120 + (n : Int) ≤ a.toInt → a.toInt + n ≤ 1000000 → bizN n 1 l (a - 723120) = bizM n 1 l a - 723120 ∧ a.toInt - n ≤ (bizM n 1 l a).toInt ∧ (bizM n 1 l a).toInt ≤ a.toInt + n := by
  intro n
  induction n with
  | zero => intro l a a0 a1; exact ⟨rfl, by show a.toInt - _ ≤ a.toInt; omega, by show a.toInt ≤ _; omega⟩
  | succ n ih =>
    intro l a a0 a1
    have e1 := i3_add (a := a) (b := 1) (x := a.toInt) (y := 1) rfl rfl (by omega) (by omega)
    have sh : a - 723120 + 1 = (a + 1) - 723120 := by grind
    have b := isB_eq (c := a + 1) (by rw [e1]; omega) (by rw [e1]; omega)
    have i0 := ih (l - 0) (a + 1) (by rw [e1]; omega) (by rw [e1]; omega)
    have i1 := ih (l - 1) (a + 1) (by rw [e1]; omega) (by rw [e1]; omega)
    have z0 : l - 0 = l := by grind
    have z1 : l + (-1) = l - 1 := by grind
    rw [bizN, bizM, sh, b, z1]
    by_cases c : l ≤ 0
    · rw [if_pos c, if_pos c]
      exact ⟨rfl, by omega, by omega⟩
    · rw [if_neg c, if_neg c]
      by_cases d : f_X12_isBusiness (a + 1) = 0
      · rw [if_pos d, if_pos d]
        rw [e1] at i0
        rw [z0] at i0 ⊢
        exact ⟨i0.1, by omega, by omega⟩
      · rw [if_neg d, if_neg d]
        rw [e1] at i1
        exact ⟨i1.1, by omega, by omega⟩

theorem biz_sd : ∀ (n : Nat) (l a : Int32), 722120 + (n : Int) ≤ a.toInt → a.toInt + n ≤ 1000000 → bizN n (-1) l (a - 723120) = bizM n (-1) l a - 723120 ∧ a.toInt - n ≤ (bizM n (-1) l a).toInt ∧ (bizM n (-1) l a).toInt ≤ a.toInt + n := by
  intro n
  induction n with
  | zero => intro l a a0 a1; exact ⟨rfl, by show a.toInt - _ ≤ a.toInt; omega, by show a.toInt ≤ _; omega⟩
  | succ n ih =>
    intro l a a0 a1
    have e1 := i3_add (a := a) (b := (-1)) (x := a.toInt) (y := -1) rfl rfl (by omega) (by omega)
    have sh : a - 723120 + (-1) = (a + (-1)) - 723120 := by grind
    have b := isB_eq (c := a + (-1)) (by rw [e1]; omega) (by rw [e1]; omega)
    have i0 := ih (l - 0) (a + (-1)) (by rw [e1]; omega) (by rw [e1]; omega)
    have i1 := ih (l - 1) (a + (-1)) (by rw [e1]; omega) (by rw [e1]; omega)
    have z0 : l - 0 = l := by grind
    have z1 : l + (-1) = l - 1 := by grind
    rw [bizN, bizM, sh, b, z1]
    by_cases c : l ≤ 0
    · rw [if_pos c, if_pos c]
      exact ⟨rfl, by omega, by omega⟩
    · rw [if_neg c, if_neg c]
      by_cases d : f_X12_isBusiness (a + (-1)) = 0
      · rw [if_pos d, if_pos d]
        rw [e1] at i0
        rw [z0] at i0 ⊢
        exact ⟨i0.1, by omega, by omega⟩
      · rw [if_neg d, if_neg d]
        rw [e1] at i1
        exact ⟨i1.1, by omega, by omega⟩

theorem in60 {n : Int32} (h : ¬ f_X12_in n (-60) 60 = 0) : -60 ≤ n.toInt ∧ n.toInt ≤ 60 := by
  have e := in_if n (-60) 60 (α := Prop) False True
  by_cases c1 : n < -60
  · exact absurd (by unfold f_X12_in; rw [if_pos c1]) h
  by_cases c2 : 60 < n
  · exact absurd (by unfold f_X12_in; rw [if_neg c1, if_pos c2]) h
  exact ⟨Int32.le_iff_toInt_le.mp (Int32.not_lt.mp c1), Int32.le_iff_toInt_le.mp (Int32.not_lt.mp c2)⟩
theorem tbiz_ok (p0 p1 : Int32) (h1 : ¬ f_X12_isDate p0 = 0) (h2 : ¬ f_X12_in p1 (-60) 60 = 0) : bizS 1000 (if 0 ≤ p1 then 1 else (-1)) (if 0 ≤ p1 then p1 else (-p1)) (f_X12_dayOf p0) := by
  obtain ⟨r1, r2⟩ := day_range h1
  obtain ⟨n1, n2⟩ := in60 h2
  by_cases c : 0 ≤ p1
  · have c' : (0 : Int) ≤ p1.toInt := Int32.le_iff_toInt_le.mp c
    rw [if_pos c, if_pos c]
    exact biz_up 1000 p1 _ c' n2 (by omega) (by omega) (by omega)
  · have c' : p1.toInt < (0 : Int) := Int32.lt_iff_toInt_lt.mp (Int32.not_le.mp c)
    rw [if_neg c, if_neg c]
    have e : (-p1).toInt = -p1.toInt := by rw [Int32.toInt_neg]; exact Int.bmod_eq_of_le (by omega) (by omega)
    exact biz_dn 1000 (-p1) _ (by rw [e]; omega) (by rw [e]; omega) (by omega) (by omega) (by rw [e]; omega)
theorem biz_rng (p0 p1 : Int32) (h1 : ¬ f_X12_isDate p0 = 0) : f_X5_businessDaysFrom (f_X12_dayOf p0 - 723120) p1 = f_X12_businessAfter (f_X12_dayOf p0) p1 - 723120 ∧ 722120 ≤ (f_X12_businessAfter (f_X12_dayOf p0) p1).toInt ∧ (f_X12_businessAfter (f_X12_dayOf p0) p1).toInt ≤ 763120 := by
  obtain ⟨r1, r2⟩ := day_range h1
  by_cases c : 0 ≤ p1
  · have e1 : f_X5_businessDaysFrom (f_X12_dayOf p0 - 723120) p1 = bizN 1000 1 p1 (f_X12_dayOf p0 - 723120) := if_pos c
    have e2 : f_X12_businessAfter (f_X12_dayOf p0) p1 = bizM 1000 1 p1 (f_X12_dayOf p0) := if_pos c
    obtain ⟨s1, s2, s3⟩ := biz_su 1000 p1 (f_X12_dayOf p0) (by omega) (by omega)
    rw [e1, e2]
    exact ⟨s1, by omega, by omega⟩
  · have e1 : f_X5_businessDaysFrom (f_X12_dayOf p0 - 723120) p1 = bizN 1000 (-1) (-p1) (f_X12_dayOf p0 - 723120) := if_neg c
    have e2 : f_X12_businessAfter (f_X12_dayOf p0) p1 = bizM 1000 (-1) (-p1) (f_X12_dayOf p0) := if_neg c
    obtain ⟨s1, s2, s3⟩ := biz_sd 1000 (-p1) (f_X12_dayOf p0) (by omega) (by omega)
    rw [e1, e2]
    exact ⟨s1, by omega, by omega⟩

