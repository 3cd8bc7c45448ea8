theorem neg_le {x y a b : Int32} (h : a ≤ y) (e : x = -y) (hb : b.toInt = -a.toInt ∧ -2147483648 < a.toInt) : x ≤ b := by
  have p := Int32.le_iff_toInt_le.mp h
  have l := Int32.toInt_lt y
  have e1 : x.toInt = -y.toInt := by
    rw [e, Int32.toInt_neg]
    exact Int.bmod_eq_of_le (by omega) (by omega)
  exact Int32.le_iff_toInt_le.mpr (by omega)
theorem neg_ge {x y a b c : Int32} (h : a ≤ y) (h2 : y ≤ b) (e : x = -y) (ha : -2147483648 < a.toInt) (hb : c.toInt = -b.toInt) : c ≤ x := by
  have p := Int32.le_iff_toInt_le.mp h
  have q := Int32.le_iff_toInt_le.mp h2
  have l := Int32.toInt_lt y
  have e1 : x.toInt = -y.toInt := by
    rw [e, Int32.toInt_neg]
    exact Int.bmod_eq_of_le (by omega) (by omega)
  exact Int32.le_iff_toInt_le.mpr (by omega)
theorem nc_lt {i n : Int32} (h0 : 0 ≤ i) (h : i < n) : i.toNatClampNeg < n.toNatClampNeg := by
  have a := Int32.le_iff_toInt_le.mp h0
  have b := Int32.lt_iff_toInt_lt.mp h
  have b0 : (0 : Int32).toInt = 0 := by decide
  show i.toInt.toNat < n.toInt.toNat
  omega
theorem nr_lo {a r p b : Int32} (h : a ≤ p) (hp : r.toInt ≤ p.toInt + 212 ∧ p.toInt - 212 ≤ r.toInt) (e : b.toInt = a.toInt - 212) : b ≤ r := by
  have := Int32.le_iff_toInt_le.mp h
  exact Int32.le_iff_toInt_le.mpr (by omega)
theorem nr_hi {a r p b : Int32} (h : p ≤ a) (hp : r.toInt ≤ p.toInt + 212 ∧ p.toInt - 212 ≤ r.toInt) (e : b.toInt = a.toInt + 212) : r ≤ b := by
  have := Int32.le_iff_toInt_le.mp h
  exact Int32.le_iff_toInt_le.mpr (by omega)

theorem gdt_ch {A A' O O' E E' k : Int32} (hA : A = A') (hO : O = O') (hE : E = E') : gdt A O E k = gdt A' O' E' k := by rw [hA, hO, hE]
theorem gdt_1 {A O E k : Int32} (h : E = 0) : gdt A O E k = f_X12_monthsFrom A (12 / O * k) 0 := by unfold gdt; rw [if_pos h]
theorem gdt_2 {A O E k : Int32} (h : ¬ E = 0) (h2 : f_X12_isMonthEnd A = 0) : gdt A O E k = f_X12_monthsFrom A (12 / O * k) 0 := by unfold gdt; rw [if_neg h, if_pos h2]
theorem gdt_3 {A O E k : Int32} (h : ¬ E = 0) (h2 : ¬ f_X12_isMonthEnd A = 0) : gdt A O E k = f_X12_monthsFrom A (12 / O * k) 1 := by unfold gdt; rw [if_neg h, if_neg h2]

/-- a bond's row, as it was read -/
def mRow (σ : gs) (b : Nat) : Prop := oft ((σ 2).1 b) ∧ 1 ≤ f_X12_isDate ((σ 5).1 b) ∧ (σ 5).1 b ≤ (σ 4).1 b ∧ (σ 6).1 b < (σ 5).1 b ∧ (σ 8).1 b ≤ (σ 5).1 b ∧ 0 ≤ (σ 7).1 b ∧ (σ 7).1 b ≤ 10 ∧ (σ 4).1 b ≤ 20791231
/-- a quote's row, as it was read -/
def mRq (σ : gs) (k : Nat) : Prop := 0 ≤ (σ 11).1 k ∧ (σ 11).1 k < (σ 0).1 23 ∧ (σ 12).1 k < (σ 4).1 (4 + ((σ 11).1 k).toNatClampNeg)
def mRead (σ : gs) : Prop := (σ 0).1 37 ≤ 0 → (∀ b : Nat, b < ((σ 0).1 23).toNatClampNeg → mRow σ (4 + b)) ∧ (∀ k : Nat, k < ((σ 0).1 24).toNatClampNeg → mRq σ (6 + k)) ∧ ((σ 0).1 29 = 0 ∨ 1 ≤ f_X12_isDate ((σ 0).1 26))
def mSame (σ τ : gs) (j : Nat) : Prop := (τ 2).1 j = (σ 2).1 j ∧ (τ 4).1 j = (σ 4).1 j ∧ (τ 5).1 j = (σ 5).1 j ∧ (τ 6).1 j = (σ 6).1 j ∧ (τ 7).1 j = (σ 7).1 j ∧ (τ 8).1 j = (σ 8).1 j
theorem mRow.same {σ τ : gs} {b : Nat} (h : mRow σ b) (e : mSame σ τ b) : mRow τ b := by
  obtain ⟨e2, e4, e5, e6, e7, e8⟩ := e
  unfold mRow
  rw [e2, e4, e5, e6, e7, e8]
  exact h
theorem mRead_0 {σ : gs} (h23 : (σ 0).1 23 = 0) (h24 : (σ 0).1 24 = 0) (h29 : (σ 0).1 29 = 0) : mRead σ := fun _ => ⟨fun b hb => by rw [h23] at hb; exact absurd hb (Nat.not_lt_zero _), fun k hk => by rw [h24] at hk; exact absurd hk (Nat.not_lt_zero _), Or.inl h29⟩
theorem mRead_bad {σ : gs} (h : 1 ≤ (σ 0).1 37) : mRead σ := fun h9 => absurd (Int32.le_trans h h9) (by decide)
theorem mRead_fr {σ τ : gs} (h : mRead σ) (hm : (σ 0).1 37 ≤ (τ 0).1 37) (e : ∀ j, mSame σ τ j) (e11 : τ 11 = σ 11) (e12 : τ 12 = σ 12) (e23 : (τ 0).1 23 = (σ 0).1 23) (e24 : (τ 0).1 24 = (σ 0).1 24) (e29 : (τ 0).1 29 = (σ 0).1 29) (e26 : (τ 0).1 26 = (σ 0).1 26) : mRead τ := by
  intro h9
  obtain ⟨h1, h2, h3⟩ := h (Int32.le_trans hm h9)
  refine ⟨fun b hb => ?_, fun k hk => ?_, ?_⟩
  · rw [e23] at hb
    exact (h1 b hb).same (e _)
  · rw [e24] at hk
    have q := h2 k hk
    unfold mRq
    rw [e11, e12, e23, (e _).2.1]
    exact q
  · rw [e29, e26]
    exact h3
theorem mRead_desk {σ τ : gs} {d : Int32} (h : mRead σ) (hm : (σ 0).1 37 ≤ (τ 0).1 37) (e : ∀ j, mSame σ τ j) (e11 : τ 11 = σ 11) (e12 : τ 12 = σ 12) (e23 : (τ 0).1 23 = (σ 0).1 23) (e24 : (τ 0).1 24 = (σ 0).1 24) (e26 : (τ 0).1 26 = d) (hd : 1 ≤ f_X12_isDate d) : mRead τ := by
  intro h9
  obtain ⟨h1, h2, h3⟩ := h (Int32.le_trans hm h9)
  refine ⟨fun b hb => ?_, fun k hk => ?_, Or.inr (by rw [e26]; exact hd)⟩
  · rw [e23] at hb
    exact (h1 b hb).same (e _)
  · rw [e24] at hk
    have q := h2 k hk
    unfold mRq
    rw [e11, e12, e23, (e _).2.1]
    exact q
theorem nc_1 {x y : Int32} {N : Int32} (h0 : 0 ≤ x) (h1 : x < N) (e : y = x + 1) : y.toNatClampNeg = x.toNatClampNeg + 1 := by
  have a := Int32.le_iff_toInt_le.mp h0
  have b0 : (0 : Int32).toInt = 0 := by decide
  have e2 := add1 h0 h1
  show y.toInt.toNat = x.toInt.toNat + 1
  rw [e, e2]
  omega
theorem nc_c {c x y : Int32} {n : Nat} (hc : c.toInt = n) (h0 : 0 ≤ x) (h1 : x ≤ 1000) (hn : n ≤ 1000) (e : y = c + x) : y.toNatClampNeg = n + x.toNatClampNeg := by
  have a := Int32.le_iff_toInt_le.mp h0
  have b := Int32.le_iff_toInt_le.mp h1
  have b0 : (0 : Int32).toInt = 0 := by decide
  have b1 : (1000 : Int32).toInt = 1000 := by decide
  have e2 : y.toInt = n + x.toInt := by rw [e]; exact i3_add hc rfl (by omega) (by omega)
  show y.toInt.toNat = n + x.toInt.toNat
  omega
theorem nc_e {x : Int32} (h : 0 ≤ x) : (x.toNatClampNeg : Int) = x.toInt := by
  have a := Int32.le_iff_toInt_le.mp h
  have b0 : (0 : Int32).toInt = 0 := by decide
  show ((x.toInt.toNat : Nat) : Int) = x.toInt
  omega
theorem mRead_bond {σ τ : gs} {b x : Int32} (h : mRead σ) (hm : (σ 0).1 37 ≤ 0) (h0 : 0 ≤ (σ 0).1 23) (h4 : (σ 0).1 23 < 4) (eb : b = 4 + (σ 0).1 23) (ex : (τ 0).1 23 = x) (hx : x = (σ 0).1 23 + 1) (row : mRow τ b.toNatClampNeg) (e : ∀ j, j ≠ b.toNatClampNeg → mSame σ τ j) (e11 : τ 11 = σ 11) (e12 : τ 12 = σ 12) (e24 : (τ 0).1 24 = (σ 0).1 24) (e29 : (τ 0).1 29 = (σ 0).1 29) (e26 : (τ 0).1 26 = (σ 0).1 26) : mRead τ := by
  intro _
  obtain ⟨h1, h2, h3⟩ := h hm
  have nb : b.toNatClampNeg = 4 + ((σ 0).1 23).toNatClampNeg := nc_c (n := 4) (by decide) h0 (Int32.le_trans (Int32.le_of_lt h4) (by decide)) (by decide) eb
  have nx : ((τ 0).1 23).toNatClampNeg = ((σ 0).1 23).toNatClampNeg + 1 := by rw [ex]; exact nc_1 h0 h4 hx
  refine ⟨fun i hi => ?_, fun k hk => ?_, ?_⟩
  · by_cases hq : i = ((σ 0).1 23).toNatClampNeg
    · rw [hq, ← nb]
      exact row
    · exact (h1 i (by omega)).same (e _ (by omega))
  · rw [e24] at hk
    obtain ⟨q1, q2, q3⟩ := h2 k hk
    have lt := nc_lt q1 q2
    unfold mRq
    rw [e11, e12, (e _ (by omega)).2.1]
    refine ⟨q1, Int32.lt_trans q2 ?_, q3⟩
    rw [ex]
    have e2 := add1 h0 h4
    exact Int32.lt_iff_toInt_lt.mpr (by rw [hx, e2]; omega)
  · rw [e29, e26]
    exact h3
theorem mRead_quote {σ τ : gs} {b d x q : Int32} (h : mRead σ) (hm : (σ 0).1 37 ≤ 0) (h0 : 0 ≤ (σ 0).1 24) (h6 : (σ 0).1 24 < 6) (eq : q = 6 + (σ 0).1 24) (ex : (τ 0).1 24 = x) (hx : x = (σ 0).1 24 + 1) (eb : (τ 11).1 q.toNatClampNeg = b) (b0 : 0 ≤ b) (b1 : b < (σ 0).1 23) (ed : (τ 12).1 q.toNatClampNeg = d) (hd : ∀ i : Int32, i = 4 + b → d < (σ 4).1 i.toNatClampNeg) (b4 : (σ 0).1 23 ≤ 4) (o11 : ∀ j, j ≠ q.toNatClampNeg → (τ 11).1 j = (σ 11).1 j) (o12 : ∀ j, j ≠ q.toNatClampNeg → (τ 12).1 j = (σ 12).1 j) (e : ∀ j, mSame σ τ j) (e23 : (τ 0).1 23 = (σ 0).1 23) (e29 : (τ 0).1 29 = (σ 0).1 29) (e26 : (τ 0).1 26 = (σ 0).1 26) : mRead τ := by
  intro _
  obtain ⟨h1, h2, h3⟩ := h hm
  have nq : q.toNatClampNeg = 6 + ((σ 0).1 24).toNatClampNeg := nc_c (n := 6) (by decide) h0 (Int32.le_trans (Int32.le_of_lt h6) (by decide)) (by decide) eq
  have nx : ((τ 0).1 24).toNatClampNeg = ((σ 0).1 24).toNatClampNeg + 1 := by rw [ex]; exact nc_1 h0 h6 hx
  refine ⟨fun i hi => ?_, fun k hk => ?_, ?_⟩
  · rw [e23] at hi
    exact (h1 i hi).same (e _)
  · unfold mRq
    by_cases hq : k = ((σ 0).1 24).toNatClampNeg
    · rw [hq, ← nq, eb, ed, e23, (e _).2.1]
      refine ⟨b0, b1, ?_⟩
      have n4 : ((4 + b : Int32)).toNatClampNeg = 4 + b.toNatClampNeg := nc_c (n := 4) (by decide) b0 (Int32.le_trans (Int32.le_of_lt b1) (Int32.le_trans b4 (by decide))) (by decide) rfl
      rw [← n4]
      exact hd _ rfl
    · rw [o11 _ (by omega), o12 _ (by omega), e23, (e _).2.1]
      exact h2 k (by omega)
  · rw [e29, e26]
    exact h3
/-- what reading leaves as it is: the rows in use -/
def LOW (σ τ : gs) : Prop := (∀ j : Nat, j < 4 → (τ 2).1 j = (σ 2).1 j ∧ (τ 4).1 j = (σ 4).1 j) ∧ ∀ j : Nat, j < 6 → (τ 11).1 j = (σ 11).1 j ∧ (τ 12).1 j = (σ 12).1 j
theorem LOW.cells {σ τ : gs} (h2 : τ 2 = σ 2) (h4 : τ 4 = σ 4) (h11 : τ 11 = σ 11) (h12 : τ 12 = σ 12) : LOW σ τ := ⟨fun j _ => by rw [h2, h4]; exact ⟨rfl, rfl⟩, fun j _ => by rw [h11, h12]; exact ⟨rfl, rfl⟩⟩
theorem LOW.tr {σ τ υ : gs} (h : LOW σ τ) (h' : LOW τ υ) : LOW σ υ := ⟨fun j hj => ⟨(h'.1 j hj).1.trans (h.1 j hj).1, (h'.1 j hj).2.trans (h.1 j hj).2⟩, fun j hj => ⟨(h'.2 j hj).1.trans (h.2 j hj).1, (h'.2 j hj).2.trans (h.2 j hj).2⟩⟩
theorem low_ne {b : Int32} {j n : Nat} {c : Int32} (hc : c.toInt = n) (hb : c ≤ b) (hj : j < n) : j ≠ b.toNatClampNeg := by
  have a := Int32.le_iff_toInt_le.mp hb
  have e : b.toNatClampNeg = b.toInt.toNat := rfl
  omega
theorem date_ge {d : Int32} (h : 1 ≤ f_X12_isDate d) : 19800101 ≤ d := by
  have h' : ¬ f_X12_isDate d = 0 := fun e => absurd h (by rw [e]; decide)
  obtain ⟨D, Y, MM, DD, hD, eD, y1, y2, m1, m2, d1, d2, -⟩ := date_bounds h'
  have b : (19800101 : Int32).toInt = 19800101 := by decide
  exact Int32.le_iff_toInt_le.mpr (by omega)
theorem date_le {d : Int32} (h : 1 ≤ f_X12_isDate d) : d ≤ 20791231 := by
  have h' : ¬ f_X12_isDate d = 0 := fun e => absurd h (by rw [e]; decide)
  obtain ⟨D, Y, MM, DD, hD, eD, y1, y2, m1, m2, d1, d2, -⟩ := date_bounds h'
  have b : (20791231 : Int32).toInt = 20791231 := by decide
  exact Int32.le_iff_toInt_le.mpr (by omega)
theorem kd {k x : Int32} {n : Nat} (h : -80 < k) (h0 : k ≤ 0) (e : x = k + -1) : -80 ≤ x ∧ x ≤ 0 ∧ ((k.toInt + 80).toNat < n + 1 → (x.toInt + 80).toNat < n) := by
  have a : -80 < k.toInt := Int32.lt_iff_toInt_lt.mp h
  have b : k.toInt ≤ 0 := Int32.le_iff_toInt_le.mp h0
  have b1 : (-1 : Int32).toInt = -1 := by decide
  have b8 : (-80 : Int32).toInt = -80 := by decide
  have b0 : (0 : Int32).toInt = 0 := by decide
  have e1 : x.toInt = k.toInt + -1 := by rw [e]; exact i3_add rfl b1 (by omega) (by omega)
  exact ⟨Int32.le_iff_toInt_le.mpr (by omega), Int32.le_iff_toInt_le.mpr (by omega), fun _ => by omega⟩

