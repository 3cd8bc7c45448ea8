/-! ===== what every state of the class keeps ===== -/
def okI : Nat → Nat → Int32 → Prop
  | 9, 1, x => 0 ≤ x ∧ x ≤ 900
  | 9, 3, x => 0 ≤ x
  | 9, 5, x => x ≤ 900
  | 9, 6, x => 0 ≤ x
  | 4, 1, x => 0 ≤ x ∧ x ≤ 10
  | 0, 9, x => 0 ≤ x ∧ x ≤ 81
  | 8, 1, x => 0 ≤ x ∧ x ≤ 64
  | _, _, _ => True
def okQ : Nat → Nat → Option Nat → Prop
  | 7, 0, r => r = none ∨ ∃ b, kX b = 0 ∧ r = some b
  | 2, 0, r => r = none ∨ ∃ b, kX b = 7 ∧ r = some b
  | 10, 8, r => ∃ d, kX d = 3 ∧ r = some d
  | 10, 9, r => ∃ d, kX d = 3 ∧ r = some d
  | _, _, _ => True
/-- cells of other kinds than these stay as they are -/
def gFr (L : List Nat) (σ τ : gs) : Prop := ∀ c, kX c ∉ L → τ c = σ c
theorem gFr.rfl {L : List Nat} {σ : gs} : gFr L σ σ := fun _ _ => Eq.refl _
theorem gFr.tr {L L' : List Nat} {σ τ υ : gs} (h : gFr L σ τ) (h' : gFr L' τ υ) (hs : ∀ x ∈ L', x ∈ L) : gFr L σ υ := fun c hc => (h' c (fun hm => hc (hs _ hm))).trans (h c hc)
theorem gFr.pI {L : List Nat} {σ τ : gs} {c k code : Nat} {x : Int32} (h : gFr L σ τ) (hc : kX c = code) (hm : code ∈ L) : gFr L σ (gI τ c k x) := fun i hi => (gI_ne τ k x (fun e => hi (by rw [e, hc]; exact hm))).trans (h i hi)
theorem gFr.pL {L : List Nat} {σ τ : gs} {c k code : Nat} {x : Int64} (h : gFr L σ τ) (hc : kX c = code) (hm : code ∈ L) : gFr L σ (gL τ c k x) := fun i hi => (gL_ne τ k x (fun e => hi (by rw [e, hc]; exact hm))).trans (h i hi)
theorem gFr.pD {L : List Nat} {σ τ : gs} {c k code : Nat} {x : UInt64} (h : gFr L σ τ) (hc : kX c = code) (hm : code ∈ L) : gFr L σ (gD τ c k x) := fun i hi => (gD_ne τ k x (fun e => hi (by rw [e, hc]; exact hm))).trans (h i hi)
theorem gFr.pQ {L : List Nat} {σ τ : gs} {c k code : Nat} {x : Option Nat} (h : gFr L σ τ) (hc : kX c = code) (hm : code ∈ L) : gFr L σ (gQ τ c k x) := fun i hi => (gQ_ne τ k x (fun e => hi (by rw [e, hc]; exact hm))).trans (h i hi)
def InvX (σ : gs) : Prop := (∀ c k, okI (kX c) k ((σ c).1 k)) ∧ ∀ c k, okQ (kX c) k ((σ c).2.2.2 k)
theorem inv_I {σ : gs} {c k : Nat} {x : Int32} (h : InvX σ) (hx : okI (kX c) k x) : InvX (gI σ c k x) := by
  refine ⟨fun i j => ?_, fun i j => ?_⟩
  · by_cases hi : i = c
    · subst hi
      by_cases hj : j = k
      · subst hj
        rw [gI_self]
        exact hx
      · rw [gI_oth σ i x hj]
        exact h.1 i j
    · rw [gI_ne σ k x hi]
      exact h.1 i j
  · rw [gI_q]
    exact h.2 i j
theorem inv_L {σ : gs} {c k : Nat} {x : Int64} (h : InvX σ) : InvX (gL σ c k x) := ⟨fun i j => by rw [gL_i]; exact h.1 i j, fun i j => by rw [gL_q]; exact h.2 i j⟩
theorem inv_D {σ : gs} {c k : Nat} {x : UInt64} (h : InvX σ) : InvX (gD σ c k x) := ⟨fun i j => by rw [gD_i]; exact h.1 i j, fun i j => by rw [gD_q]; exact h.2 i j⟩
theorem inv_Q {σ : gs} {c k : Nat} {x : Option Nat} (h : InvX σ) (hx : okQ (kX c) k x) : InvX (gQ σ c k x) := by
  refine ⟨fun i j => ?_, fun i j => ?_⟩
  · rw [gQ_i]
    exact h.1 i j
  · by_cases hi : i = c
    · subst hi
      by_cases hj : j = k
      · subst hj
        have e : ((gQ σ i j x) i).2.2.2 j = x := by simp [gQ, va_up]
        rw [e]
        exact hx
      · have e : ((gQ σ i k x) i).2.2.2 j = (σ i).2.2.2 j := by simp [gQ, va_up, hj]
        rw [e]
        exact h.2 i j
    · rw [gQ_ne σ k x hi]
      exact h.2 i j
theorem add1 {i N : Int32} (h0 : 0 ≤ i) (h1 : i < N) : (i + 1).toInt = i.toInt + 1 := by
  have a := Int32.lt_iff_toInt_lt.mp h1
  have b := Int32.le_iff_toInt_le.mp h0
  have c := Int32.toInt_lt N
  have b0 : (0 : Int32).toInt = 0 := by decide
  have b1 : (1 : Int32).toInt = 1 := by decide
  rw [Int32.toInt_add, b1]
  exact Int.bmod_eq_of_le (by omega) (by omega)
theorem eq_le {a b : Int32} (e : a = b) : a ≤ b := by rw [e]; exact Int32.le_refl _
theorem min_l {x a b : Int32} (e : x = if b < a then b else a) : x ≤ a := by
  rw [e]
  split
  · rename_i h
    exact Int32.le_of_lt h
  · exact Int32.le_refl _
theorem min_r {x a b : Int32} (e : x = if b < a then b else a) : x ≤ b := by
  rw [e]
  split
  · exact Int32.le_refl _
  · rename_i h
    exact Int32.not_lt.mp h
theorem kne {a b i j : Nat} (h1 : kX a = i) (h2 : kX b = j) (hij : i ≠ j) : a ≠ b := fun h => hij (by rw [← h1, ← h2, h])
theorem gl1 {a b E : Int32} (h : a < E) (e : b.toInt = a.toInt + 1) : b ≤ E := by
  have h1 := Int32.lt_iff_toInt_lt.mp h
  exact Int32.le_iff_toInt_le.mpr (by omega)
theorem gl2 {a b E : Int32} (h : E < a) (e : b.toInt + 1 = a.toInt) : E ≤ b := by
  have h1 := Int32.lt_iff_toInt_lt.mp h
  exact Int32.le_iff_toInt_le.mpr (by omega)
theorem lg1 (y : Int64) (h : ¬ lg_cmp y 1 < 0) : y ≠ 0 := fun e => h (by rw [e]; decide)
theorem ne_1 {y : Int64} (h : ¬ lg_cmp y 1 < 0) : y ≠ 0 := fun e => h (by rw [e]; decide)
theorem ne_0 {y : Int64} (h : ¬ lg_cmp y 0 ≤ 0) : y ≠ 0 := fun e => h (by rw [e]; decide)
theorem ne_i {y : Int32} (h : 1 ≤ y) : y ≠ 0 := fun e => absurd h (by rw [e]; decide)
theorem sub_k {i x k : Int32} (hk : 0 < k) (h : k ≤ i) (e : x = i - k) : 0 ≤ x ∧ x < i := by
  have a := Int32.lt_iff_toInt_lt.mp hk
  have b := Int32.le_iff_toInt_le.mp h
  have c := Int32.toInt_lt i
  have b0 : (0 : Int32).toInt = 0 := by decide
  have e2 : x.toInt = i.toInt - k.toInt := by
    rw [e, Int32.toInt_sub]
    exact Int.bmod_eq_of_le (by omega) (by omega)
  exact ⟨Int32.le_iff_toInt_le.mpr (by omega), Int32.lt_iff_toInt_lt.mpr (by omega)⟩
theorem sub_j {i x k : Int32} (hk : 0 < k) (h : k ≤ i) (e : x = i + (-k)) : 0 ≤ x ∧ x < i := sub_k hk h (by rw [e, Int32.sub_eq_add_neg])
theorem sub_lt {i x k : Int32} (hk : 0 < k) (h0 : 0 ≤ i) (e : x = i - k) : x < i := by
  have a := Int32.lt_iff_toInt_lt.mp hk
  have b := Int32.le_iff_toInt_le.mp h0
  have c := Int32.toInt_lt i
  have d := Int32.toInt_lt k
  have b0 : (0 : Int32).toInt = 0 := by decide
  have e2 : x.toInt = i.toInt - k.toInt := by
    rw [e, Int32.toInt_sub]
    exact Int.bmod_eq_of_le (by omega) (by omega)
  exact Int32.lt_iff_toInt_lt.mpr (by omega)
theorem sub_lj {i x k : Int32} (hk : 0 < k) (h0 : 0 ≤ i) (e : x = i + (-k)) : x < i := sub_lt hk h0 (by rw [e, Int32.sub_eq_add_neg])
theorem addc {i x k a m : Int32} (h0 : a ≤ i) (h1 : i ≤ m) (hk : 0 ≤ a.toInt + k.toInt) (hm : m.toInt + k.toInt < 2147483648) (e : x = i + k) : 0 ≤ x := by
  have p := Int32.le_iff_toInt_le.mp h0
  have q := Int32.le_iff_toInt_le.mp h1
  have b0 : (0 : Int32).toInt = 0 := by decide
  have e2 : x.toInt = i.toInt + k.toInt := by
    rw [e, Int32.toInt_add]
    exact Int.bmod_eq_of_le (by omega) (by omega)
  exact Int32.le_iff_toInt_le.mpr (by omega)
/-- tens: the scale of so many digits -/
def p10 (d : Int32) (x : Int64) : Prop := ∃ n : Nat, n < 18 ∧ d = nI (n + 1) ∧ x = Int64.ofNat (10 ^ n)
theorem p10_1 : p10 1 1 := ⟨0, by decide, by decide, by decide⟩
theorem p10_ne {d : Int32} {x : Int64} (h : p10 d x) : x ≠ 0 := by
  obtain ⟨n, hn, -, rfl⟩ := h
  have : ∀ n, n < 18 → Int64.ofNat (10 ^ n) ≠ 0 := by decide +kernel
  exact this n hn
theorem p10_s {d d' : Int32} {x x' : Int64} (h : p10 d x) (hd : d < 18) (ex : x' = x * 10) (ed : d' = d + 1) : p10 d' x' := by
  obtain ⟨n, hn, rfl, rfl⟩ := h
  have k1 : ∀ n, n < 18 → nI (n + 1) < 18 → n + 1 < 18 := by decide +kernel
  have k2 : ∀ n, n < 18 → Int64.ofNat (10 ^ n) * 10 = Int64.ofNat (10 ^ (n + 1)) := by decide +kernel
  exact ⟨n + 1, k1 n hn hd, by rw [ed]; exact nI_1 (n + 1), by rw [ex]; exact k2 n hn⟩
theorem str_lt {i : Int32} {kk n : Nat} (e : i = nI kk) (hk : kk < 2 ^ 31) (hn : n ≤ 7) (h : i < nI n) : kk < n := by
  rw [e] at h
  exact (nI_ltI hk (by omega)).mp h
/-- a letter's place on the tape -/
theorem widx {a b i x y l : Int32} (ha : 0 ≤ a) (hb0 : 0 ≤ b) (hb : b ≤ 900) (ey : y = b - a) (e : y = l) (h0 : 0 ≤ i) (h1 : i < l) (ex : x = a + i) : 0 ≤ x ∧ x < 900 := by
  have p := Int32.le_iff_toInt_le.mp ha
  have q := Int32.le_iff_toInt_le.mp hb0
  have r := Int32.le_iff_toInt_le.mp hb
  have u := Int32.le_iff_toInt_le.mp h0
  have v := Int32.lt_iff_toInt_lt.mp h1
  have w := Int32.toInt_lt a
  have b0 : (0 : Int32).toInt = 0 := by decide
  have b9 : (900 : Int32).toInt = 900 := by decide
  have e1 : y.toInt = b.toInt - a.toInt := by
    rw [ey, Int32.toInt_sub]
    exact Int.bmod_eq_of_le (by omega) (by omega)
  have e2 : l.toInt = y.toInt := by rw [e]
  have e3 : x.toInt = a.toInt + i.toInt := by
    rw [ex, Int32.toInt_add]
    exact Int.bmod_eq_of_le (by omega) (by omega)
  exact ⟨Int32.le_iff_toInt_le.mpr (by omega), Int32.lt_iff_toInt_lt.mpr (by omega)⟩
theorem dn_m {i x k : Int32} {n : Nat} (hk : 0 < k) (h0 : 0 ≤ i) (hm : (i.toInt + k.toInt).toNat < n + 1) (e : x = i + (-k)) : (x.toInt + k.toInt).toNat < n := by
  have a := Int32.lt_iff_toInt_lt.mp hk
  have b := Int32.le_iff_toInt_le.mp h0
  have c := Int32.toInt_lt i
  have d := Int32.toInt_lt k
  have b0 : (0 : Int32).toInt = 0 := by decide
  have e2 : x.toInt = i.toInt - k.toInt := by
    rw [e, ← Int32.sub_eq_add_neg, Int32.toInt_sub]
    exact Int.bmod_eq_of_le (by omega) (by omega)
  omega
theorem cnt_m {i x N : Int32} {n : Nat} (h0 : 0 ≤ i) (h1 : i < N) (hm : (N.toInt - i.toInt).toNat < n + 1) (e : x = i + 1) : (N.toInt - x.toInt).toNat < n := by
  have a := Int32.lt_iff_toInt_lt.mp h1
  have e2 := add1 h0 h1
  rw [e, e2]
  omega
theorem cnt_0 {i x N : Int32} (h0 : 0 ≤ i) (h1 : i < N) (e : x = i + 1) : 0 ≤ x := by
  have b := Int32.le_iff_toInt_le.mp h0
  have e2 := add1 h0 h1
  have b0 : (0 : Int32).toInt = 0 := by decide
  refine Int32.le_iff_toInt_le.mpr ?_
  rw [e, e2]
  omega
theorem cnt_N {i x N : Int32} (h0 : 0 ≤ i) (h1 : i < N) (e : x = i + 1) : x ≤ N := by
  have a := Int32.lt_iff_toInt_lt.mp h1
  have e2 := add1 h0 h1
  refine Int32.le_iff_toInt_le.mpr ?_
  rw [e, e2]
  omega

theorem ok_0_0 {c : Nat} (h : kX c = 0) (x : Int32) : okI (kX c) 0 x := by rw [h]; exact trivial
theorem ok_0_1 {c : Nat} (h : kX c = 0) (x : Int32) : okI (kX c) 1 x := by rw [h]; exact trivial
theorem ok_0_2 {c : Nat} (h : kX c = 0) (x : Int32) : okI (kX c) 2 x := by rw [h]; exact trivial
theorem ok_0_3 {c : Nat} (h : kX c = 0) (x : Int32) : okI (kX c) 3 x := by rw [h]; exact trivial
theorem ok_0_4 {c : Nat} (h : kX c = 0) (x : Int32) : okI (kX c) 4 x := by rw [h]; exact trivial
theorem ok_0_5 {c : Nat} (h : kX c = 0) (x : Int32) : okI (kX c) 5 x := by rw [h]; exact trivial
theorem ok_0_6 {c : Nat} (h : kX c = 0) (x : Int32) : okI (kX c) 6 x := by rw [h]; exact trivial
theorem ok_0_7 {c : Nat} (h : kX c = 0) (x : Int32) : okI (kX c) 7 x := by rw [h]; exact trivial
theorem ok_0_8 {c : Nat} (h : kX c = 0) (x : Int32) : okI (kX c) 8 x := by rw [h]; exact trivial
theorem ok_0_9 {c : Nat} (h : kX c = 0) (x : Int32) (hx : 0 ≤ x ∧ x ≤ 81) : okI (kX c) 9 x := by rw [h]; exact hx
theorem rd_0_9 {σ : gs} {c : Nat} (hI : InvX σ) (h : kX c = 0) : 0 ≤ (σ c).1 9 ∧ (σ c).1 9 ≤ 81 := by have h1 := hI.1 c 9; rw [h] at h1; exact h1
theorem ok_1_3 {c : Nat} (h : kX c = 1) (x : Int32) : okI (kX c) 3 x := by rw [h]; exact trivial
theorem okq_2_0 {c b : Nat} (h : kX c = 2) (hx : kX b = 7) : okQ (kX c) 0 (some b) := by rw [h]; exact Or.inr ⟨_, hx, rfl⟩
theorem rq_2_0 {σ : gs} {c : Nat} (hI : InvX σ) (h : kX c = 2) : (σ c).2.2.2 0 = none ∨ ∃ b, kX b = 7 ∧ (σ c).2.2.2 0 = some b := by have h1 := hI.2 c 0; rw [h] at h1; exact h1
theorem ok_3_0 {c : Nat} (h : kX c = 3) (x : Int32) : okI (kX c) 0 x := by rw [h]; exact trivial
theorem ok_3_1 {c : Nat} (h : kX c = 3) (x : Int32) : okI (kX c) 1 x := by rw [h]; exact trivial
theorem ok_3_4 {c : Nat} (h : kX c = 3) (x : Int32) : okI (kX c) 4 x := by rw [h]; exact trivial
theorem ok_3_9 {c : Nat} (h : kX c = 3) (x : Int32) : okI (kX c) 9 x := by rw [h]; exact trivial
theorem ok_3_10 {c : Nat} (h : kX c = 3) (x : Int32) : okI (kX c) 10 x := by rw [h]; exact trivial
theorem ok_4_1 {c : Nat} (h : kX c = 4) (x : Int32) (hx : 0 ≤ x ∧ x ≤ 10) : okI (kX c) 1 x := by rw [h]; exact hx
theorem rd_4_1 {σ : gs} {c : Nat} (hI : InvX σ) (h : kX c = 4) : 0 ≤ (σ c).1 1 ∧ (σ c).1 1 ≤ 10 := by have h1 := hI.1 c 1; rw [h] at h1; exact h1
theorem ok_6_1 {c : Nat} (h : kX c = 6) (x : Int32) : okI (kX c) 1 x := by rw [h]; exact trivial
theorem ok_6_2 {c : Nat} (h : kX c = 6) (x : Int32) : okI (kX c) 2 x := by rw [h]; exact trivial
theorem ok_6_3 {c : Nat} (h : kX c = 6) (x : Int32) : okI (kX c) 3 x := by rw [h]; exact trivial
theorem ok_6_4 {c : Nat} (h : kX c = 6) (x : Int32) : okI (kX c) 4 x := by rw [h]; exact trivial
theorem okq_7_0 {c b : Nat} (h : kX c = 7) (hx : kX b = 0) : okQ (kX c) 0 (some b) := by rw [h]; exact Or.inr ⟨_, hx, rfl⟩
theorem rq_7_0 {σ : gs} {c : Nat} (hI : InvX σ) (h : kX c = 7) : (σ c).2.2.2 0 = none ∨ ∃ b, kX b = 0 ∧ (σ c).2.2.2 0 = some b := by have h1 := hI.2 c 0; rw [h] at h1; exact h1
theorem ok_7_1 {c : Nat} (h : kX c = 7) (x : Int32) : okI (kX c) 1 x := by rw [h]; exact trivial
theorem ok_7_2 {c : Nat} (h : kX c = 7) (x : Int32) : okI (kX c) 2 x := by rw [h]; exact trivial
theorem ok_8_1 {c : Nat} (h : kX c = 8) (x : Int32) (hx : 0 ≤ x ∧ x ≤ 64) : okI (kX c) 1 x := by rw [h]; exact hx
theorem rd_8_1 {σ : gs} {c : Nat} (hI : InvX σ) (h : kX c = 8) : 0 ≤ (σ c).1 1 ∧ (σ c).1 1 ≤ 64 := by have h1 := hI.1 c 1; rw [h] at h1; exact h1
theorem ok_9_1 {c : Nat} (h : kX c = 9) (x : Int32) (hx : 0 ≤ x ∧ x ≤ 900) : okI (kX c) 1 x := by rw [h]; exact hx
theorem rd_9_1 {σ : gs} {c : Nat} (hI : InvX σ) (h : kX c = 9) : 0 ≤ (σ c).1 1 ∧ (σ c).1 1 ≤ 900 := by have h1 := hI.1 c 1; rw [h] at h1; exact h1
theorem ok_9_2 {c : Nat} (h : kX c = 9) (x : Int32) : okI (kX c) 2 x := by rw [h]; exact trivial
theorem ok_9_3 {c : Nat} (h : kX c = 9) (x : Int32) (hx : 0 ≤ x) : okI (kX c) 3 x := by rw [h]; exact hx
theorem rd_9_3 {σ : gs} {c : Nat} (hI : InvX σ) (h : kX c = 9) : 0 ≤ (σ c).1 3 := by have h1 := hI.1 c 3; rw [h] at h1; exact h1
theorem ok_9_4 {c : Nat} (h : kX c = 9) (x : Int32) : okI (kX c) 4 x := by rw [h]; exact trivial
theorem ok_9_5 {c : Nat} (h : kX c = 9) (x : Int32) (hx : x ≤ 900) : okI (kX c) 5 x := by rw [h]; exact hx
theorem rd_9_5 {σ : gs} {c : Nat} (hI : InvX σ) (h : kX c = 9) : (σ c).1 5 ≤ 900 := by have h1 := hI.1 c 5; rw [h] at h1; exact h1
theorem ok_9_6 {c : Nat} (h : kX c = 9) (x : Int32) (hx : 0 ≤ x) : okI (kX c) 6 x := by rw [h]; exact hx
theorem rd_9_6 {σ : gs} {c : Nat} (hI : InvX σ) (h : kX c = 9) : 0 ≤ (σ c).1 6 := by have h1 := hI.1 c 6; rw [h] at h1; exact h1
theorem okq_10_8 {c b : Nat} (h : kX c = 10) (hx : kX b = 3) : okQ (kX c) 8 (some b) := by rw [h]; exact ⟨_, hx, rfl⟩
theorem rq_10_8 {σ : gs} {c : Nat} (hI : InvX σ) (h : kX c = 10) : ∃ d, kX d = 3 ∧ (σ c).2.2.2 8 = some d := by have h1 := hI.2 c 8; rw [h] at h1; exact h1
theorem okq_10_9 {c b : Nat} (h : kX c = 10) (hx : kX b = 3) : okQ (kX c) 9 (some b) := by rw [h]; exact ⟨_, hx, rfl⟩
theorem rq_10_9 {σ : gs} {c : Nat} (hI : InvX σ) (h : kX c = 10) : ∃ d, kX d = 3 ∧ (σ c).2.2.2 9 = some d := by have h1 := hI.2 c 9; rw [h] at h1; exact h1
theorem ok_10_10 {c : Nat} (h : kX c = 10) (x : Int32) : okI (kX c) 10 x := by rw [h]; exact trivial
theorem ok_10_11 {c : Nat} (h : kX c = 10) (x : Int32) : okI (kX c) 11 x := by rw [h]; exact trivial
theorem ok_10_12 {c : Nat} (h : kX c = 10) (x : Int32) : okI (kX c) 12 x := by rw [h]; exact trivial
theorem ok_10_13 {c : Nat} (h : kX c = 10) (x : Int32) : okI (kX c) 13 x := by rw [h]; exact trivial
theorem ok_10_14 {c : Nat} (h : kX c = 10) (x : Int32) : okI (kX c) 14 x := by rw [h]; exact trivial
theorem ok_20 {c : Nat} (h : kX c = 20) (i : Nat) (x : Int32) : okI (kX c) i x := by rw [h]; exact trivial
theorem ok_21 {c : Nat} (h : kX c = 21) (i : Nat) (x : Int32) : okI (kX c) i x := by rw [h]; exact trivial
theorem ok_22 {c : Nat} (h : kX c = 22) (i : Nat) (x : Int32) : okI (kX c) i x := by rw [h]; exact trivial
theorem ok_23 {c : Nat} (h : kX c = 23) (i : Nat) (x : Int32) : okI (kX c) i x := by rw [h]; exact trivial
theorem ok_24 {c : Nat} (h : kX c = 24) (i : Nat) (x : Int32) : okI (kX c) i x := by rw [h]; exact trivial
theorem ok_25 {c : Nat} (h : kX c = 25) (i : Nat) (x : Int32) : okI (kX c) i x := by rw [h]; exact trivial
theorem ok_26 {c : Nat} (h : kX c = 26) (i : Nat) (x : Int32) : okI (kX c) i x := by rw [h]; exact trivial
theorem ok_27 {c : Nat} (h : kX c = 27) (i : Nat) (x : Int32) : okI (kX c) i x := by rw [h]; exact trivial
theorem ok_28 {c : Nat} (h : kX c = 28) (i : Nat) (x : Int32) : okI (kX c) i x := by rw [h]; exact trivial
theorem ok_29 {c : Nat} (h : kX c = 29) (i : Nat) (x : Int32) : okI (kX c) i x := by rw [h]; exact trivial
theorem ok_30 {c : Nat} (h : kX c = 30) (i : Nat) (x : Int32) : okI (kX c) i x := by rw [h]; exact trivial

