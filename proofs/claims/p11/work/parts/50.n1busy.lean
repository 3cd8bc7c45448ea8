/-- the years that dateOf goes over -/
def DY (p y : Int32) : Prop := -2741 ≤ y.toInt ∧ y.toInt ≤ (p / 365).toInt ∧ (y = p / 365 ∨ p < f_X12_march (y + 1))
theorem dy_q {p : Int32} (hp : -1000000 ≤ p) : -2741 ≤ (p / 365).toInt ∧ (p / 365).toInt ≤ 5883517 ∧ (0 ≤ p.toInt → (p / 365).toInt = p.toInt / 365) := by
  have h := Int32.le_iff_toInt_le.mp hp
  have b : (-1000000 : Int32).toInt = -1000000 := by decide
  have l := Int32.toInt_lt p
  have b3 : (365 : Int32).toInt = 365 := by decide
  by_cases h0 : 0 ≤ p.toInt
  · have e := i3_div (a := p) (b := 365) (x := p.toInt) (y := 365) rfl rfl h0 (by decide)
    rw [e]
    exact ⟨by omega, by omega, fun _ => rfl⟩
  · have n : (p.toInt.tdiv 365).natAbs = p.toInt.natAbs / 365 := Int.natAbs_tdiv p.toInt 365
    have e : (p / 365).toInt = p.toInt.tdiv 365 := by
      rw [Int32.toInt_div, b3]
      exact Int.bmod_eq_of_le (by omega) (by omega)
    rw [e]
    exact ⟨by omega, by omega, fun h9 => absurd h9 h0⟩
theorem dy_0 {p x : Int32} (hp : -1000000 ≤ p) (e : x = p / 365) : DY p x := by
  rw [e]
  exact ⟨(dy_q hp).1, Int.le_refl _, Or.inl rfl⟩
theorem dy_gt {p y r : Int32} (hp : -1000000 ≤ p) (h : DY p y) (er : r = f_X12_march y) (hr : p < r) : -2741 < y.toInt := by
  refine Int.lt_iff_le_and_ne.mpr ⟨h.1, fun e => ?_⟩
  have e1 : y = -2741 := Int32.toInt_inj.mp (by rw [← e]; rfl)
  rw [er, e1] at hr
  exact absurd (Int32.lt_of_le_of_lt hp hr) (by decide)
theorem dy_sub {p x y : Int32} (hp : -1000000 ≤ p) (h : DY p y) (e : x = y + -1) (hy : -2741 < y.toInt) : x.toInt = y.toInt - 1 := by
  have b1 : (-1 : Int32).toInt = -1 := by decide
  have l := (dy_q hp).2.1
  have h2 := h.2.1
  rw [e, Int32.toInt_add, b1, Int.bmod_eq_of_le (by omega) (by omega)]
  omega
theorem dy_s {p x y r : Int32} (hp : -1000000 ≤ p) (h : DY p y) (er : r = f_X12_march y) (hr : p < r) (e : x = y + -1) : DY p x := by
  have g := dy_gt hp h er hr
  have s := dy_sub hp h e g
  have h2 := h.2.1
  refine ⟨by omega, by omega, Or.inr ?_⟩
  have e2 : x + 1 = y := by
    rw [e, Int32.add_assoc]
    show y + 0 = y
    exact Int32.add_zero y
  rw [e2, ← er]
  exact hr
theorem dy_m {p x y r : Int32} {n : Nat} (hp : -1000000 ≤ p) (h : DY p y) (er : r = f_X12_march y) (hr : p < r) (e : x = y + -1) (hm : (y.toInt + 2741).toNat < n + 1) : (x.toInt + 2741).toNat < n := by
  have g := dy_gt hp h er hr
  have s := dy_sub hp h e g
  omega
theorem march_zz {y : Int32} {Y : Int} (hy : y.toInt = Y) (h1 : 0 ≤ Y) (h2 : Y ≤ 4000) : (f_X12_march y).toInt = 365 * Y + Y / 4 - Y / 100 + Y / 400 := by
  have t1 := i3_mul (a := 365) (b := y) (x := 365) (y := Y) rfl hy (by omega) (by omega)
  have t2 := i3_div (a := y) (b := 4) (x := Y) (y := 4) hy rfl (by omega) (by omega)
  have t3 := i3_div (a := y) (b := 100) (x := Y) (y := 100) hy rfl (by omega) (by omega)
  have t4 := i3_div (a := y) (b := 400) (x := Y) (y := 400) hy rfl (by omega) (by omega)
  have t5 := i3_add t1 t2 (by omega) (by omega)
  have t6 := i3_sub t5 t3 (by omega) (by omega)
  exact i3_add t6 t4 (by omega) (by omega)
/-- a day's year, and the day's place in it -/
theorem dy_left {p y r m l : Int32} (h1 : 700000 ≤ p) (h2 : p ≤ 800000) (h : DY p y) (er : r = f_X12_march y) (hr : r ≤ p) (em : m = f_X12_march y) (el : l = p - m) : ∃ Y : Int, y.toInt = Y ∧ 1900 ≤ Y ∧ Y ≤ 2300 ∧ 0 ≤ l.toInt ∧ l.toInt ≤ 365 ∧ p.toInt = 365 * Y + Y / 4 - Y / 100 + Y / 400 + l.toInt ∧ p.toInt < 365 * (Y + 1) + (Y + 1) / 4 - (Y + 1) / 100 + (Y + 1) / 400 := by
  have p1 : 700000 ≤ p.toInt := Int32.le_iff_toInt_le.mp h1
  have p2 : p.toInt ≤ 800000 := Int32.le_iff_toInt_le.mp h2
  have q := dy_q (p := p) (Int32.le_trans (by decide) h1)
  have q3 := q.2.2 (by omega)
  obtain ⟨a, b, c⟩ := h
  obtain ⟨Y, hY⟩ : ∃ Y : Int, y.toInt = Y := ⟨_, rfl⟩
  rw [hY] at a b
  have hrp := Int32.le_iff_toInt_le.mp hr
  have y1e : (y + 1).toInt = Y + 1 := i3_add (b := 1) (y := 1) hY rfl (by omega) (by omega)
  -- the year isn't negative
  have y0 : 1900 ≤ Y := by
    rcases c with c | c
    · have : Y = p.toInt / 365 := by rw [← q3, ← c]; exact hY.symm
      omega
    · refine Classical.byContradiction (fun hn => ?_)
      have cl := Int32.lt_iff_toInt_lt.mp c
      by_cases hp : 0 ≤ Y + 1
      · rw [march_zz y1e hp (by omega)] at cl
        omega
      · have hneg : (f_X12_march (y + 1)).toInt ≤ 100000 := by
          have l1 : -2741 ≤ (y + 1).toInt := by omega
          have l2 : (y + 1).toInt < 0 := by omega
          generalize y + 1 = w at l1 l2
          have t1 := i3_mul (a := 365) (b := w) (x := 365) (y := w.toInt) rfl rfl (by omega) (by omega)
          have dv : ∀ k : Int32, ∀ K : Nat, k.toInt = K → 0 < K → (w / k).toInt.natAbs ≤ 2741 := by
            intro k K hk h0
            have n : (w.toInt.tdiv K).natAbs = w.toInt.natAbs / K := by rw [Int.natAbs_tdiv, Int.natAbs_natCast]; rfl
            have n2 : w.toInt.natAbs / K ≤ w.toInt.natAbs := Nat.div_le_self _ _
            rw [Int32.toInt_div, hk, Int.bmod_eq_of_le (by omega) (by omega)]
            omega
          have d4 := dv 4 4 rfl (by decide)
          have d1 := dv 100 100 rfl (by decide)
          have d0 := dv 400 400 rfl (by decide)
          have t5 := i3_add t1 (b := w / 4) (y := (w / 4).toInt) rfl (by omega) (by omega)
          have t6 := i3_sub t5 (b := w / 100) (y := (w / 100).toInt) rfl (by omega) (by omega)
          have t7 := i3_add t6 (b := w / 400) (y := (w / 400).toInt) rfl (by omega) (by omega)
          unfold f_X12_march
          rw [t7]
          omega
        omega
  have yu : Y ≤ 2300 := by omega
  have mz := march_zz hY (by omega) (by omega)
  have mz1 := march_zz y1e (by omega) (by omega)
  have c2 : p.toInt < 365 * (Y + 1) + (Y + 1) / 4 - (Y + 1) / 100 + (Y + 1) / 400 := by
    rcases c with c | c
    · exfalso
      have e1 : Y = p.toInt / 365 := by rw [← q3, ← c]; exact hY.symm
      rw [er, mz] at hrp
      omega
    · have cl := Int32.lt_iff_toInt_lt.mp c
      rw [mz1] at cl
      exact cl
  rw [er, mz] at hrp
  have le : l.toInt = p.toInt - (365 * Y + Y / 4 - Y / 100 + Y / 400) := by
    rw [el, em]
    exact i3_sub rfl mz (by omega) (by omega)
  refine ⟨Y, hY, y0, yu, by omega, ?_, by omega, c2⟩
  have g1 : (Y + 1) / 400 = (Y + 1) / 100 / 4 := by clear le c2 hrp; omega
  have g2 : Y / 400 = Y / 100 / 4 := by clear le c2 hrp; omega
  have g3 : (Y + 1) / 100 / 4 - Y / 100 / 4 ≤ (Y + 1) / 100 - Y / 100 := by clear le c2 hrp g1 g2; omega
  have g4 : (Y + 1) / 4 ≤ Y / 4 + 1 := by clear le c2 hrp g1 g2 g3; omega
  omega
theorem dt_tail {p y r m l a b f g h k d : Int32} (h1 : 700000 ≤ p) (h2 : p ≤ 800000) (hd : DY p y) (er : r = f_X12_march y) (hr : r ≤ p) (em : m = f_X12_march y) (el : l = p - m) (ea : a = 5 * l) (eb : b = a + 2) (ef : f = b / 153) (eg : g = 153 * f) (eh : h = g + 2) (ek : k = h / 5) (ed : ∃ z, z = l - k ∧ d = z + 1) : ∃ Y F D : Int, y.toInt = Y ∧ 1900 ≤ Y ∧ Y ≤ 2300 ∧ f.toInt = F ∧ 0 ≤ F ∧ F ≤ 11 ∧ d.toInt = D ∧ 1 ≤ D ∧ D ≤ 31 ∧ p.toInt = 365 * Y + Y / 4 - Y / 100 + Y / 400 + (153 * F + 2) / 5 + D - 1 := by
  obtain ⟨Y, hY, y1, y2, l1, l2, hp, -⟩ := dy_left h1 h2 hd er hr em el
  obtain ⟨z, ez, ed⟩ := ed
  obtain ⟨Lx, hL⟩ : ∃ x : Int, l.toInt = x := ⟨_, rfl⟩
  rw [hL] at l1 l2 hp
  have t1 : a.toInt = 5 * Lx := by rw [ea]; exact i3_mul (a := 5) (x := 5) rfl hL (by omega) (by omega)
  have t2 : b.toInt = 5 * Lx + 2 := by rw [eb]; exact i3_add (b := 2) (y := 2) t1 rfl (by omega) (by omega)
  have t3 : f.toInt = (5 * Lx + 2) / 153 := by rw [ef]; exact i3_div (b := 153) (y := 153) t2 rfl (by omega) (by decide)
  obtain ⟨F, hF⟩ : ∃ x : Int, x = (5 * Lx + 2) / 153 := ⟨_, rfl⟩
  rw [← hF] at t3
  have f0 : 0 ≤ F ∧ F ≤ 11 := by omega
  have t4 : g.toInt = 153 * F := by rw [eg]; exact i3_mul (a := 153) (x := 153) rfl t3 (by omega) (by omega)
  have t5 : h.toInt = 153 * F + 2 := by rw [eh]; exact i3_add (b := 2) (y := 2) t4 rfl (by omega) (by omega)
  have t6 : k.toInt = (153 * F + 2) / 5 := by rw [ek]; exact i3_div (b := 5) (y := 5) t5 rfl (by omega) (by decide)
  have t7 : z.toInt = Lx - (153 * F + 2) / 5 := by rw [ez]; exact i3_sub hL t6 (by omega) (by omega)
  have t8 : d.toInt = Lx - (153 * F + 2) / 5 + 1 := by rw [ed]; exact i3_add (b := 1) (y := 1) t7 rfl (by omega) (by omega)
  refine ⟨Y, F, Lx - (153 * F + 2) / 5 + 1, hY, y1, y2, t3, f0.1, f0.2, t8, ?_, ?_, ?_⟩
  · omega
  · omega
  · omega
theorem dt_a {p y f d u v w x r : Int32} {Y F D : Int} (hY : y.toInt = Y) (y1 : 1900 ≤ Y) (y2 : Y ≤ 2300) (hF : f.toInt = F) (f1 : 0 ≤ F) (f2 : F ≤ 11) (hD : d.toInt = D) (d1 : 1 ≤ D) (d2 : D ≤ 31) (hp : p.toInt = 365 * Y + Y / 4 - Y / 100 + Y / 400 + (153 * F + 2) / 5 + D - 1) (hc : ¬ 10 ≤ f) (e1 : u = 10000 * y) (e2 : v = f + 3) (e3 : w = 100 * v) (e4 : x = u + w) (e5 : r = x + d) : f_X12_dayOf r = p := by
  have c := Int32.lt_iff_toInt_lt.mp (Int32.not_le.mp hc)
  have b10 : (10 : Int32).toInt = 10 := by decide
  have t1 : u.toInt = 10000 * Y := by rw [e1]; exact i3_mul (a := 10000) (x := 10000) rfl hY (by omega) (by omega)
  have t2 : v.toInt = F + 3 := by rw [e2]; exact i3_add (b := 3) (y := 3) hF rfl (by omega) (by omega)
  have t3 : w.toInt = 100 * (F + 3) := by rw [e3]; exact i3_mul (a := 100) (x := 100) rfl t2 (by omega) (by omega)
  have t4 : x.toInt = 10000 * Y + 100 * (F + 3) := by rw [e4]; exact i3_add t1 t3 (by omega) (by omega)
  have t5 : r.toInt = 10000 * Y + 100 * (F + 3) + D := by rw [e5]; exact i3_add t4 hD (by omega) (by omega)
  obtain ⟨YY, FF, hh, e⟩ := day_ymd t5 (by omega) (by omega) (by omega) (by omega) d1 d2
  refine Int32.toInt_inj.mp ?_
  rw [e, hp]
  have z1 : YY = Y := by omega
  have z2 : FF = F := by omega
  rw [z1, z2]
theorem dt_b {p y f d t u v w x r : Int32} {Y F D : Int} (hY : y.toInt = Y) (y1 : 1900 ≤ Y) (y2 : Y ≤ 2300) (hF : f.toInt = F) (f1 : 0 ≤ F) (f2 : F ≤ 11) (hD : d.toInt = D) (d1 : 1 ≤ D) (d2 : D ≤ 31) (hp : p.toInt = 365 * Y + Y / 4 - Y / 100 + Y / 400 + (153 * F + 2) / 5 + D - 1) (hc : 10 ≤ f) (e0 : t = y + 1) (e1 : u = 10000 * t) (e2 : v = f - 9) (e3 : w = 100 * v) (e4 : x = u + w) (e5 : r = x + d) : f_X12_dayOf r = p := by
  have c := Int32.le_iff_toInt_le.mp hc
  have b10 : (10 : Int32).toInt = 10 := by decide
  have t0 : t.toInt = Y + 1 := by rw [e0]; exact i3_add (b := 1) (y := 1) hY rfl (by omega) (by omega)
  have t1 : u.toInt = 10000 * (Y + 1) := by rw [e1]; exact i3_mul (a := 10000) (x := 10000) rfl t0 (by omega) (by omega)
  have t2 : v.toInt = F - 9 := by rw [e2]; exact i3_sub (b := 9) (y := 9) hF rfl (by omega) (by omega)
  have t3 : w.toInt = 100 * (F - 9) := by rw [e3]; exact i3_mul (a := 100) (x := 100) rfl t2 (by omega) (by omega)
  have t4 : x.toInt = 10000 * (Y + 1) + 100 * (F - 9) := by rw [e4]; exact i3_add t1 t3 (by omega) (by omega)
  have t5 : r.toInt = 10000 * (Y + 1) + 100 * (F - 9) + D := by rw [e5]; exact i3_add t4 hD (by omega) (by omega)
  obtain ⟨YY, FF, hh, e⟩ := day_ymd t5 (by omega) (by omega) (by omega) (by omega) d1 d2
  refine Int32.toInt_inj.mp ?_
  rw [e, hp]
  have z1 : YY = Y := by omega
  have z2 : FF = F := by omega
  rw [z1, z2]
/-! business days -/
theorem wk_z {x : Int32} (h0 : -5000000 ≤ x.toInt) (h1 : x.toInt ≤ 100000000) : (f_X12_weekdayOf x).toInt = (x.toInt - 723120 + 7000001) % 7 := by
  unfold f_X12_weekdayOf
  have t1 := i3_sub (a := x) (b := 723120) (x := x.toInt) (y := 723120) rfl rfl (by omega) (by omega)
  have t2 := i3_add (b := 7000001) (y := 7000001) t1 rfl (by omega) (by omega)
  exact i3_mod (n := 7) (Y := 7) t2 rfl (by omega) (by decide) (by omega)
def wkd (x : Int) : Bool := decide (4 < (x - 723120 + 7000001) % 7)
theorem wk_3 (x : Int) (h1 : wkd x = true) (h2 : wkd (x + 1) = true) (h3 : wkd (x + 2) = true) : False := by
  unfold wkd at h1 h2 h3
  have a := of_decide_eq_true h1
  have b := of_decide_eq_true h2
  have c := of_decide_eq_true h3
  omega
/-- weekends just ahead -/
def wka (s x : Int) : Nat := if wkd (x + s) then (if wkd (x + s + s) then 2 else 1) else 0
/-- free days ahead -/
def fra (σ : gs) (s x : Int) (k : Nat) : Bool := decide (0 < s * (((σ 14).1 k).toInt - x))
def frn (σ : gs) (s x : Int) : Nat := (List.range ((σ 0).1 22).toNatClampNeg).countP (fra σ s x)
def bms (σ : gs) (s x : Int) (left : Int) : Nat := 3 * (left.toNat + frn σ s x) + wka s x
theorem countP_lt {α : Type} (p q : α → Bool) : ∀ (l : List α), (∀ a, q a = true → p a = true) → (∃ a ∈ l, p a = true ∧ q a = false) → l.countP q < l.countP p
  | [], _, h => by
    obtain ⟨a, ha, -⟩ := h
    cases ha
  | b :: l, hs, h => by
    have hm : l.countP q ≤ l.countP p := List.countP_mono_left (fun a _ => hs a)
    rw [List.countP_cons, List.countP_cons]
    obtain ⟨a, ha, h1, h2⟩ := h
    rcases List.mem_cons.mp ha with rfl | ha
    · rw [h1, h2]
      simp only [if_pos, if_neg]
      simp
      omega
    · have ih := countP_lt p q l hs ⟨a, ha, h1, h2⟩
      by_cases hb : q b = true
      · rw [hb, hs b hb]
        simp
        omega
      · have : (if q b = true then 1 else 0) = 0 := if_neg hb
        rw [this]
        omega
theorem frn_le {σ : gs} {s x : Int} (hs : s = 1 ∨ s = -1) : frn σ s (x + s) ≤ frn σ s x := by
  refine List.countP_mono_left (fun k _ h => ?_)
  have h1 := of_decide_eq_true h
  refine decide_eq_true ?_
  rcases hs with rfl | rfl <;> omega
theorem frn_lt {σ : gs} {s x : Int} (hs : s = 1 ∨ s = -1) {k : Nat} (hk : k < ((σ 0).1 22).toNatClampNeg) (e : ((σ 14).1 k).toInt = x + s) : frn σ s (x + s) < frn σ s x := by
  refine countP_lt _ _ _ (fun k h => ?_) ⟨k, List.mem_range.mpr hk, ?_, ?_⟩
  · have h1 := of_decide_eq_true h
    refine decide_eq_true ?_
    rcases hs with rfl | rfl <;> omega
  · refine decide_eq_true ?_
    rcases hs with rfl | rfl <;> omega
  · refine decide_eq_false ?_
    rcases hs with rfl | rfl <;> omega
theorem frn_b (σ : gs) (s x : Int) (hI : InvM σ) : frn σ s x ≤ 10 := by
  have h1 := mrd_11_22 (c := 0) hI rfl
  have h2 := Int32.le_iff_toInt_le.mp h1.2
  have b : (10 : Int32).toInt = 10 := by decide
  have h3 : frn σ s x ≤ (List.range ((σ 0).1 22).toNatClampNeg).length := List.countP_le_length
  rw [List.length_range] at h3
  have h4 : ((σ 0).1 22).toNatClampNeg = (((σ 0).1 22).toInt).toNat := rfl
  omega
theorem wka_b (s x : Int) : wka s x ≤ 2 := by
  unfold wka
  split
  · split <;> decide
  · decide
/-- what a business day's absence means -/
def nob (σ : gs) (x : Int32) : Prop := 4 < f_X12_weekdayOf x ∨ ∃ k : Nat, k < ((σ 0).1 22).toNatClampNeg ∧ (σ 14).1 k = x
theorem bms_s {σ : gs} {s : Int} (hs : s = 1 ∨ s = -1) {x x' : Int32} {l l' : Int} (h0 : -4000000 ≤ x.toInt) (h1 : x.toInt ≤ 90000000) (ex : x'.toInt = x.toInt + s) (hl : 0 < l) (hb : (nob σ x' ∧ l' = l) ∨ l' = l - 1) : bms σ s x'.toInt l' < bms σ s x.toInt l := by
  have f := frn_le (σ := σ) (s := s) (x := x.toInt) hs
  have w1 := wka_b s x'.toInt
  unfold bms
  rw [ex] at w1 ⊢
  have main : (l'.toNat + frn σ s (x.toInt + s) + 1 ≤ l.toNat + frn σ s x.toInt) → 3 * (l'.toNat + frn σ s (x.toInt + s)) + wka s (x.toInt + s) < 3 * (l.toNat + frn σ s x.toInt) + wka s x.toInt := fun h => by omega
  rcases hb with ⟨hb, rfl⟩ | rfl
  · rcases hb with hw | ⟨k, hk, e⟩
    · have hw2 := Int32.lt_iff_toInt_lt.mp hw
      have b4 : (4 : Int32).toInt = 4 := by decide
      have hx' : -5000000 ≤ x'.toInt ∧ x'.toInt ≤ 100000000 := by rcases hs with rfl | rfl <;> omega
      rw [wk_z hx'.1 hx'.2, ex, b4] at hw2
      have hk : wkd (x.toInt + s) = true := decide_eq_true hw2
      have e1 : wka s x.toInt = wka s (x.toInt + s) + 1 := by
        unfold wka
        rw [if_pos hk]
        by_cases h2 : wkd (x.toInt + s + s) = true
        · rw [if_pos h2, if_pos h2]
          have h3 : wkd (x.toInt + s + s + s) ≠ true := fun h3 => by
            rcases hs with rfl | rfl
            · have e3 : x.toInt + 1 + 2 = x.toInt + 1 + 1 + 1 := by omega
              exact wk_3 (x.toInt + 1) hk h2 (by rw [e3]; exact h3)
            · have e1 : x.toInt + -1 + -1 + -1 + 1 = x.toInt + -1 + -1 := by omega
              have e2 : x.toInt + -1 + -1 + -1 + 2 = x.toInt + -1 := by omega
              exact wk_3 (x.toInt + -1 + -1 + -1) h3 (by rw [e1]; exact h2) (by rw [e2]; exact hk)
          rw [if_neg h3]
        · rw [if_neg h2, if_neg h2]
      omega
    · have hlt := frn_lt (σ := σ) (s := s) (x := x.toInt) hs hk (by rw [e, ex])
      exact main (by omega)
  · exact main (by omega)
/-- how far it goes -/
def BI (σ : gs) (p : Int32) (s : Int) (x : Int32) (l : Int) : Prop := 0 ≤ s * (x.toInt - p.toInt) ∧ s * (x.toInt - p.toInt) + bms σ s x.toInt l ≤ 212
theorem bi_0 {σ : gs} {p l : Int32} {s : Int} (hI : InvM σ) (h : l ≤ 60) : BI σ p s p l.toInt := by
  have a := frn_b σ s p.toInt hI
  have b := wka_b s p.toInt
  have c := Int32.le_iff_toInt_le.mp h
  have b6 : (60 : Int32).toInt = 60 := by decide
  have e : s * (p.toInt - p.toInt) = 0 := by rw [Int.sub_self, Int.mul_zero]
  refine ⟨by rw [e]; omega, ?_⟩
  rw [e]
  unfold bms
  omega
theorem bi_x {σ : gs} {p x x' : Int32} {s : Int} {c : Int32} {l : Int} (hs : s = 1 ∨ s = -1) (hc : c.toInt = s) (p0 : -1000000 ≤ p) (p1 : p ≤ 5000000) (h : BI σ p s x l) (ex : x' = x + c) : x'.toInt = x.toInt + s ∧ -4000000 ≤ x.toInt ∧ x.toInt ≤ 90000000 := by
  have a : -1000000 ≤ p.toInt := Int32.le_iff_toInt_le.mp p0
  have b : p.toInt ≤ 5000000 := Int32.le_iff_toInt_le.mp p1
  obtain ⟨h1, h2⟩ := h
  have k : -1000212 ≤ x.toInt ∧ x.toInt ≤ 5000212 := by rcases hs with rfl | rfl <;> omega
  refine ⟨?_, by omega, by omega⟩
  rw [ex]
  exact i3_add rfl hc (by rcases hs with rfl | rfl <;> omega) (by rcases hs with rfl | rfl <;> omega)
theorem bi_l {l l' r : Int32} (hl : 0 < l) (hl2 : l ≤ 60) (e : l' = l - r) (hr : r = 0 ∨ r = 1) : (r = 0 → l'.toInt = l.toInt) ∧ (r = 1 → l'.toInt = l.toInt - 1) ∧ l' ≤ 60 ∧ 0 ≤ l' := by
  have a := Int32.lt_iff_toInt_lt.mp hl
  have b := Int32.le_iff_toInt_le.mp hl2
  have b0 : (0 : Int32).toInt = 0 := by decide
  have b1 : (1 : Int32).toInt = 1 := by decide
  have b6 : (60 : Int32).toInt = 60 := by decide
  have e1 : l'.toInt = l.toInt - r.toInt := by
    rw [e]
    exact i3_sub rfl rfl (by rcases hr with rfl | rfl <;> omega) (by rcases hr with rfl | rfl <;> omega)
  rcases hr with rfl | rfl
  · exact ⟨fun _ => by omega, fun h => absurd h (by decide), Int32.le_iff_toInt_le.mpr (by omega), Int32.le_iff_toInt_le.mpr (by omega)⟩
  · exact ⟨fun h => absurd h (by decide), fun _ => by omega, Int32.le_iff_toInt_le.mpr (by omega), Int32.le_iff_toInt_le.mpr (by omega)⟩
theorem bi_s {σ : gs} {p x x' l l' c : Int32} {s : Int} (hs : s = 1 ∨ s = -1) (hc : c.toInt = s) (p0 : -1000000 ≤ p) (p1 : p ≤ 5000000) (h : BI σ p s x l.toInt) (ex : x' = x + c) (hl : 0 < l) (hb : (nob σ x' ∧ l'.toInt = l.toInt) ∨ l'.toInt = l.toInt - 1) : BI σ p s x' l'.toInt ∧ bms σ s x'.toInt l'.toInt < bms σ s x.toInt l.toInt := by
  obtain ⟨e, a, b⟩ := bi_x hs hc p0 p1 h ex
  have hl2 : 0 < l.toInt := Int32.lt_iff_toInt_lt.mp hl
  have m := bms_s (σ := σ) hs a b e hl2 hb
  refine ⟨⟨?_, ?_⟩, m⟩
  · have := h.1
    rw [e]
    rcases hs with rfl | rfl <;> omega
  · have := h.2
    rw [e] at m ⊢
    rcases hs with rfl | rfl <;> omega
theorem bi_e {σ : gs} {p x : Int32} {s l : Int} (hs : s = 1 ∨ s = -1) (h : BI σ p s x l) : p.toInt - 212 ≤ x.toInt ∧ x.toInt ≤ p.toInt + 212 := by
  obtain ⟨h1, h2⟩ := h
  rcases hs with rfl | rfl <;> omega

theorem day_lo {r d : Int32} (e : r = f_X12_dayOf d) (h : 1 ≤ f_X12_isDate d) : 723120 ≤ r := by
  have h' : ¬ f_X12_isDate d = 0 := fun e => absurd h (by rw [e]; decide)
  rw [e]
  exact Int32.le_iff_toInt_le.mpr (day_range h').1
theorem day_hi {r d : Int32} (e : r = f_X12_dayOf d) (h : 1 ≤ f_X12_isDate d) : r ≤ 759644 := by
  have h' : ¬ f_X12_isDate d = 0 := fun e => absurd h (by rw [e]; decide)
  rw [e]
  exact Int32.le_iff_toInt_le.mpr (day_range h').2
theorem march_b {y : Int32} {Y : Int} (hy : y.toInt = Y) (h1 : -1 ≤ Y) (h2 : Y ≤ 3001) : -365 ≤ (f_X12_march y).toInt ∧ (f_X12_march y).toInt ≤ 1097000 := by
  by_cases h0 : 0 ≤ Y
  · rw [march_zz hy h0 (by omega)]
    omega
  · have e : y = -1 := Int32.toInt_inj.mp (by rw [hy]; show Y = -1; omega)
    rw [e]
    decide
theorem day_gl {r d : Int32} (e : r = f_X12_dayOf d) (h0 : 0 ≤ d) (h1 : d ≤ 30000000) : -400 ≤ r ∧ r ≤ 1200000 := by
  have k1 : 0 ≤ d.toInt := Int32.le_iff_toInt_le.mp h0
  have k2 : d.toInt ≤ 30000000 := Int32.le_iff_toInt_le.mp h1
  have e1 := i3_div (a := d) (b := 10000) (x := d.toInt) (y := 10000) rfl rfl (by omega) (by decide)
  have e2 := i3_div (a := d) (b := 100) (x := d.toInt) (y := 100) rfl rfl (by omega) (by decide)
  have e5 := i3_mod (n := 100) (Y := 100) e2 rfl (by omega) (by decide) (by omega)
  have e7 := i3_mod (x := d) (n := 100) (X := d.toInt) (Y := 100) rfl rfl (by omega) (by decide) (by omega)
  obtain ⟨m, hm, m0, m1⟩ : ∃ m : Int, (d / 100 - d / 100 / 100 * 100).toInt = m ∧ 0 ≤ m ∧ m ≤ 99 := ⟨_, e5, by omega, by omega⟩
  obtain ⟨y, hy, y0, y1⟩ : ∃ y : Int, (d / 10000).toInt = y ∧ 0 ≤ y ∧ y ≤ 3000 := ⟨_, e1, by omega, by omega⟩
  obtain ⟨q, hq, q0, q1⟩ : ∃ q : Int, (d - d / 100 * 100).toInt = q ∧ 0 ≤ q ∧ q ≤ 99 := ⟨_, e7, by omega, by omega⟩
  clear e1 e2 e5 e7
  have main : ∀ (w f : Int32) (Y F : Int), w.toInt = Y → -1 ≤ Y → Y ≤ 3000 → f.toInt = F → 0 ≤ F → F ≤ 99 → -400 ≤ ((f_X12_march w + (153 * f + 2) / 5) + (d - d / 100 * 100) - 1) ∧ ((f_X12_march w + (153 * f + 2) / 5) + (d - d / 100 * 100) - 1) ≤ 1200000 := by
    intro w f Y F hw w0 w1 hf f0 f1
    have b := march_b hw w0 (by omega)
    have t1 := i3_mul (a := 153) (x := 153) rfl hf (by omega) (by omega)
    have t2 := i3_add (b := 2) (y := 2) t1 rfl (by omega) (by omega)
    have t3 := i3_div (b := 5) (y := 5) t2 rfl (by omega) (by decide)
    have t4 := i3_add (a := f_X12_march w) (x := (f_X12_march w).toInt) rfl t3 (by omega) (by omega)
    have t5 := i3_add t4 hq (by omega) (by omega)
    have t6 := i3_sub (b := 1) (y := 1) t5 rfl (by omega) (by omega)
    have c1 : (-400 : Int32).toInt = -400 := by decide
    have c2 : (1200000 : Int32).toInt = 1200000 := by decide
    exact ⟨Int32.le_iff_toInt_le.mpr (by omega), Int32.le_iff_toInt_le.mpr (by omega)⟩
  rw [e]
  unfold f_X12_dayOf
  simp only
  by_cases c : 3 ≤ d / 100 - d / 100 / 100 * 100
  · rw [if_pos c]
    have c' := (i3_le (a := 3) (x := 3) rfl hm).mp c
    exact main _ _ y (m - 3) hy (by omega) y1 (i3_sub (b := 3) (y := 3) hm rfl (by omega) (by omega)) (by omega) (by omega)
  · rw [if_neg c]
    have c' := mt (i3_le (a := 3) (x := 3) rfl hm).mpr c
    exact main _ _ (y - 1) (m + 9) (i3_sub (b := 1) (y := 1) hy rfl (by omega) (by omega)) (by omega) (by omega) (i3_add (b := 9) (y := 9) hm rfl (by omega) (by omega)) (by omega) (by omega)

