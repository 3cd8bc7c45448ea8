def NowOK (x : Int32) : Prop := 723120 ≤ f_X12_dayOf x ∧ f_X12_dayOf x ≤ 759644
/-- a quote's row; its bond's row f places on -/
def mQr (σ : gs) (f k : Nat) : Prop := 0 ≤ (σ 11).1 k ∧ (σ 11).1 k < (σ 0).1 20 ∧ (σ 12).1 k < (σ 4).1 (f + ((σ 11).1 k).toNatClampNeg)
/-- what every state keeps -/
def Deep (σ : gs) : Prop := (∀ b : Nat, b < ((σ 0).1 20).toNatClampNeg → GridOK σ b ∧ EndOK σ b ∧ oft ((σ 2).1 b)) ∧ (∀ k : Nat, k < ((σ 0).1 21).toNatClampNeg → mQr σ 0 k) ∧ ((σ 0).1 28 = 0 ∨ NowOK ((σ 0).1 64)) ∧ ((σ 0).1 68 = 0 ∨ NowOK ((σ 0).1 65))
theorem Deep.fr {σ τ : gs} (h : Deep σ) (e2 : τ 2 = σ 2) (e4 : τ 4 = σ 4) (e9 : τ 9 = σ 9) (e11 : τ 11 = σ 11) (e12 : τ 12 = σ 12) (e17 : τ 17 = σ 17) (e18 : τ 18 = σ 18) (f20 : (τ 0).1 20 = (σ 0).1 20) (f21 : (τ 0).1 21 = (σ 0).1 21) (f28 : (τ 0).1 28 = (σ 0).1 28) (f64 : (τ 0).1 64 = (σ 0).1 64) (f65 : (τ 0).1 65 = (σ 0).1 65) (f68 : (τ 0).1 68 = (σ 0).1 68) : Deep τ := by
  unfold Deep GridOK EndOK mQr
  rw [e2, e4, e9, e11, e12, e17, e18, f20, f21, f28, f64, f65, f68]
  exact h
/-- the same with another day -/
theorem Deep.day {σ τ : gs} (h : Deep σ) (e2 : τ 2 = σ 2) (e4 : τ 4 = σ 4) (e9 : τ 9 = σ 9) (e11 : τ 11 = σ 11) (e12 : τ 12 = σ 12) (e17 : τ 17 = σ 17) (e18 : τ 18 = σ 18) (f20 : (τ 0).1 20 = (σ 0).1 20) (f21 : (τ 0).1 21 = (σ 0).1 21) (hd : (τ 0).1 28 = 0 ∨ NowOK ((τ 0).1 64)) (hk : (τ 0).1 68 = 0 ∨ NowOK ((τ 0).1 65)) : Deep τ := by
  refine ⟨?_, ?_, hd, hk⟩
  · unfold GridOK EndOK
    rw [e2, e4, e9, e17, e18, f20]
    exact h.1
  · unfold mQr
    rw [e4, e11, e12, f20, f21]
    exact h.2.1
theorem nc_le {x : Int32} {n : Nat} {N : Int32} (hN : N.toInt = n) (h : x ≤ N) : x.toNatClampNeg ≤ n := by
  have a := Int32.le_iff_toInt_le.mp h
  show x.toInt.toNat ≤ n
  omega
theorem Deep.low {σ τ : gs} (h : Deep σ) (hI : InvM σ) (l : LOW σ τ) (e9 : τ 9 = σ 9) (e17 : τ 17 = σ 17) (e18 : τ 18 = σ 18) (f20 : (τ 0).1 20 = (σ 0).1 20) (f21 : (τ 0).1 21 = (σ 0).1 21) (f28 : (τ 0).1 28 = (σ 0).1 28) (f64 : (τ 0).1 64 = (σ 0).1 64) (f65 : (τ 0).1 65 = (σ 0).1 65) (f68 : (τ 0).1 68 = (σ 0).1 68) : Deep τ := by
  have b4 := nc_le (n := 4) (by decide) (mrd_11_20 (c := 0) hI rfl).2
  have q6 := nc_le (n := 6) (by decide) (mrd_11_21 (c := 0) hI rfl).2
  refine ⟨fun b hb => ?_, fun k hk => ?_, by rw [f28, f64]; exact h.2.2.1, by rw [f68, f65]; exact h.2.2.2⟩
  · rw [f20] at hb
    obtain ⟨g, e, o⟩ := h.1 b hb
    have lb := l.1 b (by omega)
    refine ⟨g.ch lb.1 (fun j _ _ => by rw [e9]), e.ch hI lb.2 (by rw [e17]) (fun j _ _ => by rw [e18]), by rw [lb.1]; exact o⟩
  · rw [f21] at hk
    obtain ⟨q1, q2, q3⟩ := h.2.1 k hk
    have lk := l.2 k (by omega)
    have lt := nc_lt q1 q2
    unfold mQr
    rw [lk.1, lk.2, f20, (l.1 _ (by omega)).2]
    exact ⟨q1, q2, q3⟩
/-- what was read, taken over -/
def mT0 (σ : gs) : Prop := (∀ b : Nat, b < ((σ 0).1 20).toNatClampNeg → mRow σ (4 + b)) ∧ ∀ k : Nat, k < ((σ 0).1 21).toNatClampNeg → mQr σ 4 (6 + k)
theorem mT0_of {σ τ : gs} (h : mRead σ) (hf : (σ 0).1 37 ≤ 0) (e : ∀ j, mSame σ τ j) (e11 : τ 11 = σ 11) (e12 : τ 12 = σ 12) (f20 : (τ 0).1 20 = (σ 0).1 23) (f21 : (τ 0).1 21 = (σ 0).1 24) : mT0 τ := by
  obtain ⟨h1, h2, -⟩ := h hf
  refine ⟨fun b hb => ?_, fun k hk => ?_⟩
  · rw [f20] at hb
    exact (h1 b hb).same (e _)
  · rw [f21] at hk
    have q := h2 k hk
    unfold mQr
    rw [e11, e12, f20, (e _).2.1]
    exact q
theorem mT0.fr {σ τ : gs} (h : mT0 σ) (e : ∀ j, mSame σ τ j) (e11 : τ 11 = σ 11) (e12 : τ 12 = σ 12) (f20 : (τ 0).1 20 = (σ 0).1 20) (f21 : (τ 0).1 21 = (σ 0).1 21) : mT0 τ := by
  refine ⟨fun b hb => ?_, fun k hk => ?_⟩
  · rw [f20] at hb
    exact (h.1 b hb).same (e _)
  · rw [f21] at hk
    have q := h.2 k hk
    unfold mQr
    rw [e11, e12, f20, (e _).2.1]
    exact q
def mQl (σ : gs) (i : Int32) : Prop := ∀ k : Nat, k < i.toNatClampNeg → mQr σ 4 k
theorem ql_0 {σ : gs} : mQl σ 0 := fun k hk => absurd hk (Nat.not_lt_zero _)
theorem ql_s {σ τ : gs} {i j j' x v v' : Int32} (h : mT0 σ) (hq : mQl σ i) (h0 : 0 ≤ i) (hi : i < (σ 0).1 21) (h6 : (σ 0).1 21 ≤ 6) (ej : j = 6 + i) (ej' : j' = 6 + i) (ev : v = (σ 11).1 j.toNatClampNeg) (ev' : v' = (σ 12).1 j'.toNatClampNeg) (e11 : τ 11 = (upd (σ 11).1 i.toNatClampNeg v, (σ 11).2)) (e12 : τ 12 = (upd (σ 12).1 i.toNatClampNeg v', (σ 12).2)) (e : ∀ j, mSame σ τ j) (f20 : (τ 0).1 20 = (σ 0).1 20) (f21 : (τ 0).1 21 = (σ 0).1 21) (ex : x = i + 1) : mT0 τ ∧ mQl τ x := by
  have i6 : i ≤ 1000 := Int32.le_trans (Int32.le_of_lt (Int32.lt_of_lt_of_le hi h6)) (by decide)
  have nj : j.toNatClampNeg = 6 + i.toNatClampNeg := nc_c (n := 6) (by decide) h0 i6 (by decide) ej
  have nj' : j'.toNatClampNeg = 6 + i.toNatClampNeg := nc_c (n := 6) (by decide) h0 i6 (by decide) ej'
  have nx : x.toNatClampNeg = i.toNatClampNeg + 1 := nc_1 h0 hi ex
  have n6 := nc_le (n := 6) (by decide) h6
  have ni := nc_lt h0 hi
  have o11 : ∀ k, k ≠ i.toNatClampNeg → (τ 11).1 k = (σ 11).1 k := fun k hk => by rw [e11]; exact if_neg hk
  have o12 : ∀ k, k ≠ i.toNatClampNeg → (τ 12).1 k = (σ 12).1 k := fun k hk => by rw [e12]; exact if_neg hk
  have s11 : (τ 11).1 i.toNatClampNeg = v := by rw [e11]; exact if_pos rfl
  have s12 : (τ 12).1 i.toNatClampNeg = v' := by rw [e12]; exact if_pos rfl
  refine ⟨⟨fun b hb => ?_, fun k hk => ?_⟩, fun k hk => ?_⟩
  · rw [f20] at hb
    exact (h.1 b hb).same (e _)
  · rw [f21] at hk
    have q := h.2 k hk
    unfold mQr
    rw [o11 _ (by omega), o12 _ (by omega), f20, (e _).2.1]
    exact q
  · by_cases hki : k = i.toNatClampNeg
    · have q := h.2 i.toNatClampNeg ni
      unfold mQr
      rw [hki, s11, s12, f20, (e _).2.1, ev, ev', nj, nj']
      exact q
    · have q := hq k (by omega)
      unfold mQr
      rw [o11 _ hki, o12 _ hki, f20, (e _).2.1]
      exact q
def mDR (σ : gs) (i : Int32) : Prop := ∀ b : Nat, b < i.toNatClampNeg → GridOK σ b ∧ EndOK σ b ∧ oft ((σ 2).1 b) ∧ (σ 4).1 b = (σ 4).1 (4 + b)
theorem dr_0 {σ : gs} : mDR σ 0 := fun k hk => absurd hk (Nat.not_lt_zero _)
theorem ql_all {σ : gs} {i : Int32} (h : mQl σ i) (hi : (σ 0).1 21 ≤ i) : mQl σ ((σ 0).1 21) := fun k hk => h k (Nat.lt_of_lt_of_le hk (by
  have a := Int32.le_iff_toInt_le.mp hi
  show ((σ 0).1 21).toInt.toNat ≤ i.toInt.toNat
  omega))
theorem ql_fr {σ τ : gs} {i : Int32} (h : mQl σ i) (hI : InvM σ) (e : ∀ j, 4 ≤ j → (τ 4).1 j = (σ 4).1 j) (e11 : τ 11 = σ 11) (e12 : τ 12 = σ 12) (f20 : (τ 0).1 20 = (σ 0).1 20) : mQl τ i := fun k hk => by
  obtain ⟨q1, q2, q3⟩ := h k hk
  unfold mQr
  rw [e11, e12, f20, e _ (by omega)]
  exact ⟨q1, q2, q3⟩
theorem dr_s {σ n1 n2 n3 : gs} {i f x : Int32} (hT : mT0 σ) (hq : mQl σ ((σ 0).1 21)) (hD : mDR σ i) (hI : InvM σ) (h0 : 0 ≤ i) (hi : i < (σ 0).1 20) (ef : f = 4 + i) (ex : x = i + 1)
    (tb : TB σ n1 i.toNatClampNeg f.toNatClampNeg ∧ ∀ j : Nat, j ≠ i.toNatClampNeg → mSame σ n1 j) (a9 : n1 9 = σ 9) (a11 : n1 11 = σ 11) (a12 : n1 12 = σ 12) (a17 : n1 17 = σ 17) (a18 : n1 18 = σ 18) (a20 : (n1 0).1 20 = (σ 0).1 20) (a21 : (n1 0).1 21 = (σ 0).1 21)
    (gr : GridOK n2 i.toNatClampNeg ∧ ∀ j : Nat, (j < 96 * i.toNatClampNeg ∨ 96 * i.toNatClampNeg + 96 ≤ j) → (n2 9).1 j = (n1 9).1 j) (b2 : n2 2 = n1 2) (b4 : n2 4 = n1 4) (b5 : n2 5 = n1 5) (b6 : n2 6 = n1 6) (b7 : n2 7 = n1 7) (b8 : n2 8 = n1 8) (b11 : n2 11 = n1 11) (b12 : n2 12 = n1 12) (b17 : n2 17 = n1 17) (b18 : n2 18 = n1 18) (b20 : (n2 0).1 20 = (n1 0).1 20) (b21 : (n2 0).1 21 = (n1 0).1 21)
    (ge : EndOK n3 i.toNatClampNeg ∧ PP n2 n3 i.toNatClampNeg) (c2 : n3 2 = n2 2) (c4 : n3 4 = n2 4) (c5 : n3 5 = n2 5) (c6 : n3 6 = n2 6) (c7 : n3 7 = n2 7) (c8 : n3 8 = n2 8) (c9 : n3 9 = n2 9) (c11 : n3 11 = n2 11) (c12 : n3 12 = n2 12) (c20 : (n3 0).1 20 = (n2 0).1 20) (c21 : (n3 0).1 21 = (n2 0).1 21) : mT0 n3 ∧ mQl n3 ((n3 0).1 21) ∧ mDR n3 x := by
  have i4 : (σ 0).1 20 ≤ 4 := (mrd_11_20 (c := 0) hI rfl).2
  have n4 := nc_le (n := 4) (by decide) i4
  have ni := nc_lt h0 hi
  have i9 : i ≤ 1000 := Int32.le_trans (Int32.le_of_lt (Int32.lt_of_lt_of_le hi i4)) (by decide)
  have nf : f.toNatClampNeg = 4 + i.toNatClampNeg := nc_c (n := 4) (by decide) h0 i9 (by decide) ef
  have nx : x.toNatClampNeg = i.toNatClampNeg + 1 := nc_1 h0 hi ex
  have f20 : (n3 0).1 20 = (σ 0).1 20 := c20.trans (b20.trans a20)
  have f21 : (n3 0).1 21 = (σ 0).1 21 := c21.trans (b21.trans a21)
  have f11 : n3 11 = σ 11 := c11.trans (b11.trans a11)
  have f12 : n3 12 = σ 12 := c12.trans (b12.trans a12)
  have same : ∀ j : Nat, j ≠ i.toNatClampNeg → mSame σ n3 j := fun j hj => by
    have s := tb.2 j hj
    unfold mSame
    rw [c2, c4, c5, c6, c7, c8, b2, b4, b5, b6, b7, b8]
    exact s
  have ql : mQl n3 ((n3 0).1 21) := by
    rw [f21]
    exact ql_fr hq hI (fun j hj => (same j (by omega)).2.1) f11 f12 f20
  refine ⟨⟨fun b hb => ?_, fun k hk => ?_⟩, ql, fun b hb => ?_⟩
  · rw [f20] at hb
    exact (hT.1 b hb).same (same _ (by omega))
  · rw [f21] at hk
    obtain ⟨q1, q2, q3⟩ := hT.2 k hk
    unfold mQr
    rw [f11, f12, f20, (same _ (by omega)).2.1]
    exact ⟨q1, q2, q3⟩
  · by_cases hbi : b = i.toNatClampNeg
    · have e2 : (n3 2).1 b = (n2 2).1 b := by rw [c2]
      have r := hT.1 i.toNatClampNeg ni
      rw [hbi]
      refine ⟨gr.1.cells c2 c9, ge.1, ?_, ?_⟩
      · rw [c2, b2, tb.1.1, nf]
        exact r.1
      · rw [c4, b4, tb.1.2.1, nf]
        exact (tb.2 (4 + i.toNatClampNeg) (by omega)).2.1.symm
    · obtain ⟨g, en, o, m⟩ := hD b (by omega)
      have s := same b hbi
      have s4 := same (4 + b) (by omega)
      refine ⟨g.ch s.1 (fun j h1 h2 => ?_), en.ch hI s.2.1 ?_ (fun j h1 h2 => ?_), by rw [s.1]; exact o, by rw [s.2.1, s4.2.1]; exact m⟩
      · rw [c9, gr.2 j (by omega), a9]
      · rw [ge.2.1 b hbi, b17, a17]
      · rw [ge.2.2 j (by omega), b18, a18]
theorem deep_of {σ τ : gs} {i : Int32} (hq : mQl σ ((σ 0).1 21)) (hD : mDR σ i) (hI : InvM σ) (hi : (σ 0).1 20 ≤ i) (e2 : τ 2 = σ 2) (e4 : τ 4 = σ 4) (e9 : τ 9 = σ 9) (e11 : τ 11 = σ 11) (e12 : τ 12 = σ 12) (e17 : τ 17 = σ 17) (e18 : τ 18 = σ 18) (f20 : (τ 0).1 20 = (σ 0).1 20) (f21 : (τ 0).1 21 = (σ 0).1 21) (hn : NowOK ((τ 0).1 64)) (hk : (τ 0).1 68 = 0) : Deep τ := by
  have li : ((σ 0).1 20).toNatClampNeg ≤ i.toNatClampNeg := by
    have a := Int32.le_iff_toInt_le.mp hi
    show ((σ 0).1 20).toInt.toNat ≤ i.toInt.toNat
    omega
  refine ⟨fun b hb => ?_, fun k hk => ?_, Or.inr hn, Or.inl hk⟩
  · rw [f20] at hb
    obtain ⟨g, e, o, -⟩ := hD b (by omega)
    exact ⟨g.cells e2 e9, e.cells e4 e17 e18, by rw [e2]; exact o⟩
  · rw [f21] at hk
    obtain ⟨q1, q2, q3⟩ := hq k hk
    have lt := nc_lt q1 q2
    have m := (hD ((σ 11).1 k).toNatClampNeg (by omega)).2.2.2
    unfold mQr
    rw [e11, e12, e4, f20, Nat.zero_add, m]
    exact ⟨q1, q2, q3⟩
theorem now_date {d : Int32} (h : 1 ≤ f_X12_isDate d) : NowOK d := ⟨day_lo rfl h, day_hi rfl h⟩

