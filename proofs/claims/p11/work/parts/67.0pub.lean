theorem qd_lt {σ : gs} {k : Nat} {z z2 : Int32} (h : mQr σ 0 k) (ez : z = (σ 11).1 k) (ez2 : z2 = (σ 12).1 k) : 0 ≤ z ∧ z < (σ 0).1 20 ∧ z2 < (σ 4).1 z.toNatClampNeg := by
  obtain ⟨q1, q2, q3⟩ := h
  rw [Nat.zero_add] at q3
  rw [ez, ez2]
  exact ⟨q1, q2, q3⟩
theorem day_1 {x y d : Int32} (h1 : 723120 ≤ f_X12_dayOf x) (h2 : f_X12_dayOf x < 759644) (e : d = f_X12_dayOf x + 1) (hr : 700000 ≤ d → d ≤ 800000 → f_X12_dayOf y = d) : (f_X12_dayOf y).toInt = (f_X12_dayOf x).toInt + 1 ∧ NowOK y := by
  have a : 723120 ≤ (f_X12_dayOf x).toInt := Int32.le_iff_toInt_le.mp h1
  have b : (f_X12_dayOf x).toInt < 759644 := Int32.lt_iff_toInt_lt.mp h2
  have e1 : d.toInt = (f_X12_dayOf x).toInt + 1 := by rw [e]; exact i3_add (b := 1) (y := 1) rfl rfl (by omega) (by omega)
  have q := hr (Int32.le_iff_toInt_le.mpr (show (700000 : Int) ≤ d.toInt by omega)) (Int32.le_iff_toInt_le.mpr (show d.toInt ≤ (800000 : Int) by omega))
  refine ⟨by rw [q, e1], ?_, ?_⟩
  · rw [q]; exact Int32.le_iff_toInt_le.mpr (show (723120 : Int) ≤ d.toInt by omega)
  · rw [q]; exact Int32.le_iff_toInt_le.mpr (show d.toInt ≤ (759644 : Int) by omega)
theorem gd_lt {x n k : Int32} (hk : k < n) (h : (f_X12_dayOf x).toInt + (n.toInt - k.toInt) ≤ 759644) : f_X12_dayOf x < 759644 := by
  have a := Int32.lt_iff_toInt_lt.mp hk
  exact Int32.lt_iff_toInt_lt.mpr (show (f_X12_dayOf x).toInt < (759644 : Int) by omega)
theorem gd_s {x y n k k' : Int32} (h0 : 0 ≤ k) (hk : k < n) (h : (f_X12_dayOf x).toInt + (n.toInt - k.toInt) ≤ 759644) (hd : (f_X12_dayOf y).toInt = (f_X12_dayOf x).toInt + 1) (e : k' = k + 1) : (f_X12_dayOf y).toInt + (n.toInt - k'.toInt) ≤ 759644 := by
  have e2 := add1 h0 hk
  rw [hd, e, e2]
  omega
theorem rd_of {x n s : Int32} (hn : NowOK x) (h1 : 1 ≤ n) (h4 : n ≤ 4000) (es : s = f_X12_dayOf x + n) (hs : s ≤ f_X12_dayOf 20791231) : (f_X12_dayOf x).toInt + n.toInt ≤ 759644 := by
  have a : 723120 ≤ (f_X12_dayOf x).toInt := Int32.le_iff_toInt_le.mp hn.1
  have b : (f_X12_dayOf x).toInt ≤ 759644 := Int32.le_iff_toInt_le.mp hn.2
  have c : 1 ≤ n.toInt := Int32.le_iff_toInt_le.mp h1
  have d : n.toInt ≤ 4000 := Int32.le_iff_toInt_le.mp h4
  have e : s.toInt = (f_X12_dayOf x).toInt + n.toInt := by rw [es]; exact i3_add rfl rfl (by omega) (by omega)
  have g : (f_X12_dayOf 20791231).toInt = 759644 := by decide +kernel
  have f := Int32.le_iff_toInt_le.mp hs
  omega
theorem div2 {a : Int32} {x : Int} (ha : a.toInt = x) (h : -100000 ≤ x) (h2 : x ≤ 100000) : ∃ q : Int, (a / 2).toInt = q ∧ 2 * q ≤ x + 1 ∧ x ≤ 2 * q + 1 := by
  have e : (2 : Int32).toInt = 2 := rfl
  by_cases h0 : 0 ≤ x
  · exact ⟨x / 2, i3_div (b := 2) (y := 2) ha rfl h0 (by decide), by omega, by omega⟩
  · have q : x.tdiv 2 = -((-x) / 2) := by
      have := Int.neg_tdiv (-x) 2
      rw [Int.neg_neg] at this
      rw [this, Int.tdiv_eq_ediv_of_nonneg (by omega)]
    refine ⟨-((-x) / 2), ?_, by omega, by omega⟩
    rw [Int32.toInt_div, ha, e, q]
    exact Int.bmod_eq_of_le (by omega) (by omega)
theorem bis {b a t s z : Int32} (hb : -2001 ≤ b) (ha : a ≤ 10001) (hlt : b < a) (et : t = a - b) (h1 : 1 < t) (es : s = b + a) (ez : z = s / 2) : b < z ∧ z < a ∧ (a.toInt - z.toInt).toNat < (a.toInt - b.toInt).toNat ∧ (z.toInt - b.toInt).toNat < (a.toInt - b.toInt).toNat := by
  have b0 : -2001 ≤ b.toInt := Int32.le_iff_toInt_le.mp hb
  have a0 : a.toInt ≤ 10001 := Int32.le_iff_toInt_le.mp ha
  have l := Int32.lt_iff_toInt_lt.mp hlt
  have t0 : t.toInt = a.toInt - b.toInt := by rw [et]; exact i3_sub rfl rfl (by omega) (by omega)
  have t1 : 1 < t.toInt := Int32.lt_iff_toInt_lt.mp h1
  have s0 : s.toInt = b.toInt + a.toInt := by rw [es]; exact i3_add rfl rfl (by omega) (by omega)
  obtain ⟨q, hq, q1, q2⟩ := div2 s0 (by omega) (by omega)
  rw [← ez] at hq
  exact ⟨Int32.lt_iff_toInt_lt.mpr (by omega), Int32.lt_iff_toInt_lt.mpr (by omega), by omega, by omega⟩
/-! numbers as text -/
def p19 (d : Int32) (x : Int64) : Prop := ∃ n : Nat, n < 19 ∧ d = nI (n + 1) ∧ x = Int64.ofNat (10 ^ n)
theorem p19_ne {d : Int32} {x : Int64} (h : p19 d x) : x ≠ 0 := by
  obtain ⟨n, hn, -, rfl⟩ := h
  have : ∀ n, n < 19 → Int64.ofNat (10 ^ n) ≠ 0 := by decide +kernel
  exact this n hn
theorem p19_z {n : Nat} (h : n < 19) : (Int64.ofNat (10 ^ n)).toInt = 10 ^ n := by
  have : ∀ n, n < 19 → (Int64.ofNat (10 ^ n)).toInt = 10 ^ n := by decide +kernel
  exact this n h
theorem nI_z {n : Nat} (h : n < 100) : (nI n).toInt = n := by
  have : ∀ n, n < 100 → (nI n).toInt = n := by decide +kernel
  exact this n h
/-- a number of digits that suffices -/
def wnN (v : Int64) (l : Int32) (N : Nat) : Prop := 1 ≤ N ∧ N ≤ 19 ∧ v.toInt < 10 ^ N ∧ l.toInt ≤ N
theorem wn_0 {v : Int64} {l : Int32} : p19 1 1 ∧ ∀ N : Nat, wnN v l N → (1 : Int32).toInt ≤ N := by
  refine ⟨⟨0, by decide, by decide, by decide⟩, fun N h => ?_⟩
  have h1 := h.1
  have b : (1 : Int32).toInt = 1 := by decide
  omega
theorem wn_s {v x x' : Int64} {l d d' : Int32} (h : p19 d x) (hN : ∀ N : Nat, wnN v l N → d.toInt ≤ N) (hE : ∃ N : Nat, wnN v l N) (hc : d.toInt < l.toInt ∨ 9 < (v / x).toInt) (ex : x' = x * 10) (ed : d' = d + 1) : p19 d' x' ∧ (∀ N : Nat, wnN v l N → d'.toInt ≤ N) ∧ d'.toInt = d.toInt + 1 := by
  obtain ⟨n, hn, rfl, rfl⟩ := h
  have dz := nI_z (n := n + 1) (by omega)
  have xz := p19_z hn
  have key : ∀ N, wnN v l N → n + 1 < N := by
    intro N h
    obtain ⟨N1, N2, N3, N4⟩ := h
    rcases hc with hc | hc
    · omega
    · refine Classical.byContradiction (fun hh => ?_)
      have p : (10 : Int) ^ N ≤ 10 ^ (n + 1) := by
        have q : ∀ a, a < 20 → ∀ b, b < 20 → a ≤ b → (10 : Int) ^ a ≤ 10 ^ b := by decide +kernel
        exact q N (by omega) (n + 1) (by omega) (by omega)
      have v1 := Int64.le_toInt v
      have v2 := Int64.toInt_lt v
      have pn : (0 : Int) < 10 ^ n := by
        have q : ∀ a, a < 20 → (0 : Int) < 10 ^ a := by decide +kernel
        exact q n (by omega)
      have dv : (v / Int64.ofNat (10 ^ n)).toInt = v.toInt.tdiv (10 ^ n) := by
        have na : (v.toInt.tdiv (10 ^ n)).natAbs ≤ v.toInt.natAbs := by
          rw [Int.natAbs_tdiv]
          exact Nat.div_le_self _ _
        rw [Int64.toInt_div, xz]
        by_cases h9 : v.toInt = -9223372036854775808
        · by_cases hv : 0 ≤ v.toInt
          · omega
          · exfalso
            have : (v / Int64.ofNat (10 ^ n)).toInt ≤ 9 := by
              rw [Int64.toInt_div, xz, h9]
              have q : ∀ a, a < 19 → ((-9223372036854775808 : Int).tdiv (10 ^ a)).bmod (2 ^ 64) ≤ 9 := by decide +kernel
              exact q n hn
            omega
        · exact Int.bmod_eq_of_le (by omega) (by omega)
      rw [dv] at hc
      by_cases hv : 0 ≤ v.toInt
      · rw [Int.tdiv_eq_ediv_of_nonneg hv] at hc
        have e1 : (10 : Int) ^ (n + 1) = 10 * 10 ^ n := by rw [Int.pow_succ, Int.mul_comm]
        have e2 : v.toInt < 10 * 10 ^ n := by omega
        have e3 : v.toInt / 10 ^ n < 10 := Int.ediv_lt_of_lt_mul pn e2
        omega
      · have e3 : v.toInt.tdiv (10 ^ n) ≤ 0 := by
          have e4 : v.toInt.tdiv (10 ^ n) = -((-v.toInt) / 10 ^ n) := by
            have := Int.neg_tdiv (-v.toInt) (10 ^ n)
            rw [Int.neg_neg] at this
            rw [this, Int.tdiv_eq_ediv_of_nonneg (by omega)]
          have e5 : 0 ≤ (-v.toInt) / 10 ^ n := Int.ediv_nonneg (by omega) (by omega)
          omega
        omega
  obtain ⟨N, hN1⟩ := hE
  have n19 : n + 1 < 19 := by have := key N hN1; have := hN1.2.1; omega
  have k1 : nI (n + 1) + 1 = nI (n + 2) := (nI_1 (n + 1)).symm ▸ rfl
  have k2 : ∀ n, n < 18 → Int64.ofNat (10 ^ n) * 10 = Int64.ofNat (10 ^ (n + 1)) := by decide +kernel
  have d1 : d' = nI (n + 1 + 1) := by rw [ed]; exact nI_1 (n + 1)
  have dz' := nI_z (n := n + 1 + 1) (by omega)
  refine ⟨⟨n + 1, n19, d1, by rw [ex]; exact k2 n (by omega)⟩, fun N h => ?_, ?_⟩
  · have := key N h
    rw [d1, dz']
    omega
  · rw [d1, dz', dz]
    omega
theorem wn_b {d : Int32} {x : Int64} (h : p19 d x) : 1 ≤ d.toInt ∧ d.toInt ≤ 19 := by
  obtain ⟨n, hn, rfl, -⟩ := h
  have dz := nI_z (n := n + 1) (by omega)
  omega
theorem wn_m {d d' : Int32} {n : Nat} {x : Int64} (h : p19 d x) (e : d'.toInt = d.toInt + 1) (hm : (20 - d.toInt).toNat < n + 1) : (20 - d'.toInt).toNat < n := by
  have := wn_b h
  omega
/-- digits still to be written -/
def WR (x : Int64) (m : Nat) : Prop := (m = 0 ∧ x = 0) ∨ ∃ n, m = n + 1 ∧ n < 19 ∧ x = Int64.ofNat (10 ^ n)
def WI (a0 d a : Int32) (x : Int64) : Prop := ∃ m : Nat, WR x m ∧ a.toInt + m = a0.toInt + d.toInt ∧ a0.toInt ≤ a.toInt
theorem wi_0 {a d : Int32} {x : Int64} (h : p19 d x) : WI a d a x := by
  obtain ⟨n, hn, rfl, rfl⟩ := h
  have dz := nI_z (n := n + 1) (by omega)
  exact ⟨n + 1, Or.inr ⟨n, rfl, hn, rfl⟩, by omega, Int.le_refl _⟩
theorem wi_pos {a0 d a : Int32} {x : Int64} (h : WI a0 d a x) (hx : ¬ x = 0) : ∃ n : Nat, n < 19 ∧ x = Int64.ofNat (10 ^ n) ∧ a.toInt + (n + 1) = a0.toInt + d.toInt ∧ a0.toInt ≤ a.toInt := by
  obtain ⟨m, hm, e, l⟩ := h
  rcases hm with ⟨-, h0⟩ | ⟨n, rfl, hn, hx2⟩
  · exact absurd h0 hx
  · exact ⟨n, hn, hx2, by omega, l⟩
theorem wi_lt {v : Int64} {l a0 d a : Int32} {x : Int64} (h : WI a0 d a x) (hx : ¬ x = 0) (hd : ∀ N : Nat, wnN v l N → d.toInt ≤ N) (hE : ∃ N : Nat, wnN v l N ∧ a0.toInt + N ≤ 60) : a < 60 := by
  obtain ⟨n, hn, -, e, -⟩ := wi_pos h hx
  obtain ⟨N, h1, h2⟩ := hE
  have := hd N h1
  exact Int32.lt_iff_toInt_lt.mpr (show a.toInt < (60 : Int) by omega)
theorem wi_s {a0 d a a' : Int32} {x x' : Int64} (h : WI a0 d a x) (hx : ¬ x = 0) (ex : x' = x / 10) (ea : a'.toInt = a.toInt + 1) : WI a0 d a' x' ∧ x'.toInt.toNat < x.toInt.toNat := by
  obtain ⟨n, hn, rfl, e, l⟩ := wi_pos h hx
  have z := p19_z hn
  by_cases h0 : n = 0
  · subst h0
    have e1 : x' = 0 := by rw [ex]; decide
    exact ⟨⟨0, Or.inl ⟨rfl, e1⟩, by omega, by omega⟩, by rw [e1]; decide⟩
  · obtain ⟨k, rfl⟩ : ∃ k, n = k + 1 := ⟨n - 1, by omega⟩
    have q : ∀ k, k < 18 → Int64.ofNat (10 ^ (k + 1)) / 10 = Int64.ofNat (10 ^ k) ∧ (Int64.ofNat (10 ^ k)).toInt.toNat < (Int64.ofNat (10 ^ (k + 1))).toInt.toNat := by decide +kernel
    have e1 := q k (by omega)
    rw [ex, e1.1]
    exact ⟨⟨k + 1, Or.inr ⟨k, rfl, by omega, rfl⟩, by omega, by omega⟩, e1.2⟩
theorem wi_ne {x : Int64} (h : ¬ lg_cmp x 0 ≤ 0) : ¬ x = 0 := fun e => h (by rw [e]; decide)
theorem wi_e {v : Int64} {l a0 d a : Int32} {x : Int64} (h : WI a0 d a x) (hd : ∀ N : Nat, wnN v l N → d.toInt ≤ N) : a0 ≤ a ∧ ∀ N : Nat, wnN v l N → a.toInt ≤ a0.toInt + N := by
  obtain ⟨m, -, e, q⟩ := h
  exact ⟨Int32.le_iff_toInt_le.mpr q, fun N hN => by have := hd N hN; omega⟩
theorem lgc_9 {v x y : Int64} (e : y = v / x) (h : 0 < lg_cmp y 9) : 9 < (v / x).toInt := by
  rw [← e]
  have h2 : ¬ lg_cmp y 9 ≤ 0 := Int32.not_le.mpr h
  refine Classical.byContradiction (fun hn => h2 ?_)
  have b9 : (9 : Int64).toInt = 9 := by decide
  have h3 : y ≤ 9 := Int64.le_iff_toInt_le.mpr (by omega)
  unfold lg_cmp
  split
  · rename_i h4
    exact absurd h4 (Int64.not_lt.mpr h3)
  · split <;> decide
theorem gd_0 {x n : Int32} (h : (f_X12_dayOf x).toInt + n.toInt ≤ 759644) : (f_X12_dayOf x).toInt + (n.toInt - (0 : Int32).toInt) ≤ 759644 := by
  have z0 : (0 : Int32).toInt = 0 := by decide
  omega
theorem gd_lo {x y : Int32} {p : Prop} (h : 723120 ≤ f_X12_dayOf x) (hd : (f_X12_dayOf y).toInt = (f_X12_dayOf x).toInt + 1) (_ : p ∨ True) : 723120 ≤ f_X12_dayOf y := by
  have a := Int32.le_iff_toInt_le.mp h
  exact Int32.le_iff_toInt_le.mpr (by omega)
theorem dk_same {a b a' b' : Int32} (ha : a' = a) (hb : b' = b) (h : a = 0 ∨ NowOK b) : a' = 0 ∨ NowOK b' := by rw [ha, hb]; exact h
theorem wn_19 (v : Int64) : wnN v 1 19 := by
  have := Int64.toInt_lt v
  exact ⟨by decide, by decide, by omega, by decide⟩
theorem wn_i {x l B : Int32} {N : Nat} (h : x ≤ B) (hN : 1 ≤ N ∧ N ≤ 19 ∧ B.toInt < 10 ^ N ∧ l.toInt ≤ N) : wnN x.toInt64 l N := by
  have a := Int32.le_iff_toInt_le.mp h
  refine ⟨hN.1, hN.2.1, ?_, hN.2.2.2⟩
  rw [Int32.toInt_toInt64]
  omega
theorem rem_99 {y x : Int32} (h0 : 0 ≤ y) (e : x = y - y / 100 * 100) : x ≤ 99 := by
  have a : 0 ≤ y.toInt := Int32.le_iff_toInt_le.mp h0
  have l := Int32.toInt_lt y
  have q := i3_mod (x := y) (n := 100) (X := y.toInt) (Y := 100) rfl rfl a (by decide) (by omega)
  exact Int32.le_iff_toInt_le.mpr (show x.toInt ≤ (99 : Int) by rw [e, q]; omega)
theorem dv_pos {y x : Int32} (h0 : 0 ≤ y) (h1 : y ≤ 30000000) (e : x = y / 100) : 0 ≤ x := by
  have a : 0 ≤ y.toInt := Int32.le_iff_toInt_le.mp h0
  have q := i3_div (a := y) (b := 100) (x := y.toInt) (y := 100) rfl rfl a (by decide)
  exact Int32.le_iff_toInt_le.mpr (show (0 : Int) ≤ x.toInt by rw [e, q]; omega)
theorem dv_10k {y x : Int32} (h0 : 0 ≤ y) (h1 : y ≤ 30000000) (e : x = y / 10000) : x ≤ 3000 := by
  have a : 0 ≤ y.toInt := Int32.le_iff_toInt_le.mp h0
  have b : y.toInt ≤ 30000000 := Int32.le_iff_toInt_le.mp h1
  have q := i3_div (a := y) (b := 10000) (x := y.toInt) (y := 10000) rfl rfl a (by decide)
  exact Int32.le_iff_toInt_le.mpr (show x.toInt ≤ (3000 : Int) by rw [e, q]; omega)
theorem tm_lt {a : Int32} {U : Int} (h : a.toInt ≤ U) (hU : U < 60) : a < 60 := Int32.lt_iff_toInt_lt.mpr (show a.toInt < (60 : Int) by omega)
theorem tm_le {a : Int32} {U : Int} (h : a.toInt ≤ U) (hU : U ≤ 60) : a ≤ 60 := Int32.le_iff_toInt_le.mpr (show a.toInt ≤ (60 : Int) by omega)
theorem wnE {v : Int64} {l : Int32} {a : Int} (h : ∃ N : Nat, wnN v l N ∧ a + N ≤ 60) : ∃ N, wnN v l N := h.imp (fun _ q => q.1)

