theorem LLn_eq : LLn = LL0 * 100 := by decide +kernel
theorem dL_0 {x : Int64} (h : x.toInt.natAbs ∣ LL0) : dL x := Nat.dvd_trans h (by rw [LLn_eq]; exact Nat.dvd_mul_right _ _)
theorem tm_100 {x : Int64} (h : x.toInt.natAbs ∣ LL0) : x.toInt.natAbs * (100 : Int64).toInt.natAbs ∣ LLn := by
  have e : (100 : Int64).toInt.natAbs = 100 := by decide
  rw [LLn_eq, e]
  exact Nat.mul_dvd_mul h (Nat.dvd_refl _)
theorem dL_dv {x : Int64} {n : Nat} (h : x.toInt.natAbs ∣ n) (hn : n ∣ LLn) : dL x := Nat.dvd_trans h hn
theorem lcm_0 {x a b : Nat} (h : x ∣ Nat.lcm a b) (ha : a ∣ LL0) (hb : b ∣ LL0) : x ∣ LL0 := Nat.dvd_trans h (Nat.lcm_dvd ha hb)
theorem lcm_n {x a b : Nat} (h : x ∣ Nat.lcm a b) (ha : a ∣ LLn) (hb : b ∣ LLn) : x ∣ LLn := Nat.dvd_trans h (Nat.lcm_dvd ha hb)
theorem dv_1 {x : Nat} (h : x ∣ (1 : Int64).toInt.natAbs) : x ∣ LL0 := Nat.dvd_trans h (by decide +kernel)
theorem dv_360 {x : Nat} (h : x ∣ (360 : Int64).toInt.natAbs) : x ∣ LL0 := Nat.dvd_trans h (by decide +kernel)
theorem dv_365 {x : Nat} (h : x ∣ (365 : Int64).toInt.natAbs) : x ∣ LL0 := Nat.dvd_trans h (by decide +kernel)
/-- a bond's grid: what a step's days divide -/
def GridOK (σ : gs) (b : Nat) : Prop := ∀ j : Nat, j < 95 → (((σ 2).1 b).toInt * ((σ 9).1 (96 * b + (j + 1)) - (σ 9).1 (96 * b + j)).toInt).natAbs ∣ LL0
/-- a bond's periods: the last one ends no earlier than the bond -/
def EndOK (σ : gs) (b : Nat) : Prop := 1 ≤ (σ 17).1 b ∧ (σ 4).1 b ≤ (σ 18).1 (82 * b + (((σ 17).1 b).toNatClampNeg - 1))
theorem GridOK.ch {σ τ : gs} {b : Nat} (h : GridOK σ b) (e2 : (τ 2).1 b = (σ 2).1 b) (e9 : ∀ j, 96 * b ≤ j → j < 96 * b + 96 → (τ 9).1 j = (σ 9).1 j) : GridOK τ b := by
  intro j hj
  rw [e2, e9 _ (by omega) (by omega), e9 _ (by omega) (by omega)]
  exact h j hj
theorem EndOK.ch {σ τ : gs} {b : Nat} (h : EndOK σ b) (hI : InvM σ) (e4 : (τ 4).1 b = (σ 4).1 b) (e17 : (τ 17).1 b = (σ 17).1 b) (e18 : ∀ j, 82 * b ≤ j → j < 82 * b + 82 → (τ 18).1 j = (σ 18).1 j) : EndOK τ b := by
  have hm := (mrd_57 (c := 17) hI rfl b).2
  have h8 := Int32.le_iff_toInt_le.mp hm
  have b8 : (82 : Int32).toInt = 82 := by decide
  have e : ((σ 17).1 b).toNatClampNeg = ((σ 17).1 b).toInt.toNat := rfl
  refine ⟨by rw [e17]; exact h.1, ?_⟩
  rw [e4, e17, e18 _ (by omega) (by omega)]
  exact h.2
theorem gI_at (σ : gs) (c k : Nat) (x : Int32) : (gI σ c k x) c = (upd (σ c).1 k x, (σ c).2) := by simp [gI, va_up]
/-- a bond's row taken over -/
def TB (σ τ : gs) (b f : Nat) : Prop := (τ 2).1 b = (σ 2).1 f ∧ (τ 4).1 b = (σ 4).1 f ∧ (τ 5).1 b = (σ 5).1 f ∧ (τ 6).1 b = (σ 6).1 f ∧ (τ 7).1 b = (σ 7).1 f ∧ (τ 8).1 b = (σ 8).1 f
theorem TB.row {σ τ : gs} {b f : Nat} (h : TB σ τ b f) (r : mRow σ f) : mRow τ b := by
  obtain ⟨e2, e4, e5, e6, e7, e8⟩ := h
  unfold mRow
  rw [e2, e4, e5, e6, e7, e8]
  exact r
theorem nat_at {x : Int32} {n : Nat} (h : x.toInt = (n : Int)) : x.toNatClampNeg = n := by
  show x.toInt.toNat = n
  omega
theorem cn_b {σ : gs} {p a c o d k k1 : Int32} {x : Int64} (hG : GridOK σ p.toNatClampNeg) (ha : ∀ j : Nat, (j : Int) = k.toInt + 91 → a = (σ 9).1 (96 * p.toNatClampNeg + j)) (hc : ∀ j : Nat, (j : Int) = k1.toInt + 91 → c = (σ 9).1 (96 * p.toNatClampNeg + j)) (hk : -91 ≤ k) (h4 : k < 4) (e1 : k1 = k + 1) (eo : o = (σ 2).1 p.toNatClampNeg) (ed : d = c - a) (ex : x = o.toInt64 * d.toInt64) : x.toInt.natAbs ∣ LL0 := by
  have k0 : -91 ≤ k.toInt := Int32.le_iff_toInt_le.mp hk
  have k4 : k.toInt < 4 := Int32.lt_iff_toInt_lt.mp h4
  have k1e : k1.toInt = k.toInt + 1 := by rw [e1]; exact i3_add (b := 1) (y := 1) rfl rfl (by omega) (by omega)
  obtain ⟨j, hj⟩ : ∃ j : Nat, (j : Int) = k.toInt + 91 := ⟨(k.toInt + 91).toNat, by omega⟩
  have ea := ha j hj
  have ec := hc (j + 1) (by omega)
  have g := hG j (by omega)
  have lo := Int32.le_toInt o
  have uo := Int32.toInt_lt o
  have ld := Int32.le_toInt d
  have ud := Int32.toInt_lt d
  have hm : (o.toInt * d.toInt).natAbs ≤ 2147483648 * 2147483648 := by
    rw [Int.natAbs_mul]
    exact Nat.mul_le_mul (by omega) (by omega)
  have e : x.toInt = o.toInt * d.toInt := by
    rw [ex, Int64.toInt_mul, Int32.toInt_toInt64, Int32.toInt_toInt64]
    exact Int.bmod_eq_of_le (by omega) (by omega)
  rw [e, eo, ed, ec, ea]
  exact g
theorem cur_s {σ : gs} {p s k x r : Int32} (hI : InvM σ) (hE : EndOK σ p.toNatClampNeg) (hs : s < (σ 4).1 p.toNatClampNeg) (hp : 0 ≤ p) (h0 : 0 ≤ k) (hk : k < (σ 17).1 p.toNatClampNeg) (he : ∀ j : Nat, (j : Int) = 82 * p.toInt + k.toInt → r = (σ 18).1 j) (hr : r ≤ s) (ex : x = k + 1) : x < (σ 17).1 p.toNatClampNeg ∧ 0 ≤ x := by
  have a := Int32.lt_iff_toInt_lt.mp hk
  have z := Int32.le_iff_toInt_le.mp h0
  have z0 : (0 : Int32).toInt = 0 := by decide
  have e1 := add1 h0 hk
  have pe := nc_e hp
  refine ⟨Int32.lt_iff_toInt_lt.mpr ?_, Int32.le_iff_toInt_le.mpr (by rw [ex, e1]; omega)⟩
  rw [ex, e1]
  refine Classical.byContradiction (fun hn => ?_)
  have e : ((σ 17).1 p.toNatClampNeg).toNatClampNeg = ((σ 17).1 p.toNatClampNeg).toInt.toNat := rfl
  have q := he (82 * p.toNatClampNeg + (((σ 17).1 p.toNatClampNeg).toNatClampNeg - 1)) (by omega)
  have h2 := hE.2
  rw [← q] at h2
  exact absurd (Int32.lt_of_lt_of_le hs h2) (Int32.not_lt.mpr hr)
/-- the rows outside a bond's stay as they are -/
def PP (σ τ : gs) (b : Nat) : Prop := (∀ j : Nat, j ≠ b → (τ 17).1 j = (σ 17).1 j) ∧ ∀ j : Nat, (j < 82 * b ∨ 82 * b + 82 ≤ j) → (τ 18).1 j = (σ 18).1 j
theorem PP.rf {σ : gs} {b : Nat} : PP σ σ b := ⟨fun _ _ => rfl, fun _ _ => rfl⟩
theorem PP.tr {σ τ υ : gs} {b : Nat} (h : PP σ τ b) (h' : PP τ υ b) : PP σ υ b := ⟨fun j hj => (h'.1 j hj).trans (h.1 j hj), fun j hj => (h'.2 j hj).trans (h.2 j hj)⟩
theorem PP.cells {σ τ υ : gs} {b : Nat} (h : PP σ τ b) (e17 : υ 17 = τ 17) (e18 : υ 18 = τ 18) : PP σ υ b := ⟨fun j hj => by rw [e17]; exact h.1 j hj, fun j hj => by rw [e18]; exact h.2 j hj⟩
/-- one end more -/
def LE1 (σ τ : gs) (b : Int32) (d : Int32) : Prop := ((τ 17).1 b.toNatClampNeg).toInt = ((σ 17).1 b.toNatClampNeg).toInt + 1 ∧ (τ 18).1 (82 * b.toNatClampNeg + ((σ 17).1 b.toNatClampNeg).toNatClampNeg) = d ∧ PP σ τ b.toNatClampNeg
theorem le1_of {σ τ : gs} {b d i n n' : Int32} (h0 : 0 ≤ b) (n0 : 0 ≤ n) (n2 : n < 82) (en : n = (σ 17).1 b.toNatClampNeg) (hi : i.toInt = 82 * b.toInt + n.toInt) (en' : n' = n + 1) (e17 : τ 17 = (upd (σ 17).1 b.toNatClampNeg n', (σ 17).2)) (e18 : τ 18 = (upd (σ 18).1 i.toNatClampNeg d, (σ 18).2)) : LE1 σ τ b d := by
  have be := nc_e h0
  have ne := nc_e n0
  have n2' : n.toInt < 82 := Int32.lt_iff_toInt_lt.mp n2
  have ei : i.toNatClampNeg = 82 * b.toNatClampNeg + n.toNatClampNeg := nat_at (by omega)
  have a1 := add1 n0 n2
  have z := Int32.le_iff_toInt_le.mp n0
  have z0 : (0 : Int32).toInt = 0 := by decide
  refine ⟨?_, ?_, fun j hj => ?_, fun j hj => ?_⟩
  · rw [e17, ← en]
    show (upd (σ 17).1 b.toNatClampNeg n' b.toNatClampNeg).toInt = _
    unfold upd
    rw [if_pos rfl, en', a1]
  · rw [e18, ← en, ← ei]
    show upd (σ 18).1 i.toNatClampNeg d i.toNatClampNeg = d
    unfold upd
    rw [if_pos rfl]
  · rw [e17]
    show upd (σ 17).1 b.toNatClampNeg n' j = _
    unfold upd
    rw [if_neg hj]
  · rw [e18]
    show upd (σ 18).1 i.toNatClampNeg d j = _
    unfold upd
    rw [if_neg (by omega)]
/-- the periods' ends as they are laid: as many as there can be, the last one the anchor behind the last step -/
def LPr (σ τ : gs) (b : Nat) (k : Int32) : Prop := ((τ 17).1 b).toInt ≤ k.toInt + 80 ∧ PP σ τ b ∧ (1 ≤ k → 1 ≤ (τ 17).1 b ∧ (τ 18).1 (82 * b + (((τ 17).1 b).toNatClampNeg - 1)) = (σ 5).1 b)
theorem lp_0 {σ τ : gs} {b : Int32} (e17 : τ 17 = (upd (σ 17).1 b.toNatClampNeg 0, (σ 17).2)) (e18 : τ 18 = σ 18) : LPr σ τ b.toNatClampNeg (-80) := by
  have e : (τ 17).1 b.toNatClampNeg = 0 := by
    rw [e17]
    show upd _ _ _ _ = _
    unfold upd
    rw [if_pos rfl]
  refine ⟨by rw [e]; decide, ⟨fun j hj => ?_, fun j _ => by rw [e18]⟩, fun h => absurd h (by decide)⟩
  rw [e17]
  show upd _ _ _ _ = _
  unfold upd
  rw [if_neg hj]
theorem lp_ge {k : Int32} (h : 1 ≤ k + 1) (h0 : k ≤ 0) (h8 : -80 ≤ k) : k = 0 := by
  have a : k.toInt ≤ 0 := Int32.le_iff_toInt_le.mp h0
  have b : -80 ≤ k.toInt := Int32.le_iff_toInt_le.mp h8
  have c : (k + 1).toInt = k.toInt + 1 := i3_add (b := 1) (y := 1) rfl rfl (by omega) (by omega)
  have d := Int32.le_iff_toInt_le.mp h
  have d1 : (1 : Int32).toInt = 1 := by decide
  exact Int32.toInt_inj.mp (show k.toInt = 0 by omega)
theorem lp_up {k x : Int32} (e : x = k + 1) (h0 : k ≤ 0) (h8 : -80 ≤ k) : x.toInt = k.toInt + 1 := by
  have a : k.toInt ≤ 0 := Int32.le_iff_toInt_le.mp h0
  have b : -80 ≤ k.toInt := Int32.le_iff_toInt_le.mp h8
  rw [e]
  exact i3_add (b := 1) (y := 1) rfl rfl (by omega) (by omega)
/-- no end at this step: then it isn't the last step -/
theorem lp_skip {σ τ : gs} {b k x r : Int32} (h : LPr σ τ b.toNatClampNeg k) (row : mRow σ b.toNatClampNeg) (hr : r = gdt ((σ 5).1 b.toNatClampNeg) ((σ 2).1 b.toNatClampNeg) ((σ 10).1 b.toNatClampNeg) k) (hn : r ≤ (σ 6).1 b.toNatClampNeg ∨ r < (σ 8).1 b.toNatClampNeg) (h0 : k ≤ 0) (h8 : -80 ≤ k) (e : x = k + 1) : LPr σ τ b.toNatClampNeg x := by
  have u := lp_up e h0 h8
  refine ⟨by have := h.1; omega, h.2.1, fun q => ?_⟩
  have k0 := lp_ge (by rw [← e]; exact q) h0 h8
  exfalso
  rw [k0, gdt_0 row.2.1 row.1] at hr
  rcases hn with hn | hn
  · exact absurd (Int32.lt_of_lt_of_le row.2.2.2.1 (by rw [← hr]; exact hn)) (Int32.not_lt.mpr (Int32.le_refl _))
  · exact absurd (Int32.lt_of_lt_of_le hn row.2.2.2.2.1) (by rw [← hr]; exact Int32.not_lt.mpr (Int32.le_refl _))
theorem lp_lay {σ τ υ : gs} {b k x r : Int32} (h : LPr σ τ b.toNatClampNeg k) (hI : InvM τ) (row : mRow σ b.toNatClampNeg) (hr : r = gdt ((σ 5).1 b.toNatClampNeg) ((σ 2).1 b.toNatClampNeg) ((σ 10).1 b.toNatClampNeg) k) (hl : LE1 τ υ b r) (h0 : k ≤ 0) (h8 : -80 ≤ k) (e : x = k + 1) : LPr σ υ b.toNatClampNeg x := by
  have u := lp_up e h0 h8
  obtain ⟨l1, l2, l3⟩ := hl
  have m0 := Int32.le_iff_toInt_le.mp (mrd_57 (c := 17) hI rfl b.toNatClampNeg).1
  have z0 : (0 : Int32).toInt = 0 := by decide
  refine ⟨by have := h.1; omega, h.2.1.tr l3, fun q => ?_⟩
  have k0 := lp_ge (by rw [← e]; exact q) h0 h8
  have b1 : (1 : Int32).toInt = 1 := by decide
  refine ⟨Int32.le_iff_toInt_le.mpr (by omega), ?_⟩
  have en : ((υ 17).1 b.toNatClampNeg).toNatClampNeg - 1 = ((τ 17).1 b.toNatClampNeg).toNatClampNeg := by
    show ((υ 17).1 b.toNatClampNeg).toInt.toNat - 1 = ((τ 17).1 b.toNatClampNeg).toInt.toNat
    omega
  rw [en, l2, hr, k0, gdt_0 row.2.1 row.1]
theorem lp_lt {σ τ : gs} {b : Nat} {k : Int32} (h : LPr σ τ b k) (hk : k ≤ 1) : (τ 17).1 b < 82 := by
  have a := h.1
  have c := Int32.le_iff_toInt_le.mp hk
  have b1 : (1 : Int32).toInt = 1 := by decide
  have b8 : (82 : Int32).toInt = 82 := by decide
  exact Int32.lt_iff_toInt_lt.mpr (by omega)
/-- behind all ends -/
theorem lp_end0 {σ τ : gs} {b : Int32} {k : Int32} (h : LPr σ τ b.toNatClampNeg k) (hk : 1 ≤ k) (row : mRow σ b.toNatClampNeg) (e4 : τ 4 = σ 4) (hn : ¬ (σ 5).1 b.toNatClampNeg < (σ 4).1 b.toNatClampNeg) : EndOK τ b.toNatClampNeg := by
  obtain ⟨q1, q2⟩ := h.2.2 hk
  refine ⟨q1, ?_⟩
  rw [q2, e4]
  exact Int32.not_lt.mp hn
theorem lp_end1 {τ υ : gs} {b d : Int32} (hI : InvM τ) (hl : LE1 τ υ b d) (e4 : (υ 4).1 b.toNatClampNeg = d) : EndOK υ b.toNatClampNeg := by
  obtain ⟨l1, l2, l3⟩ := hl
  have m0 := Int32.le_iff_toInt_le.mp (mrd_57 (c := 17) hI rfl b.toNatClampNeg).1
  have z0 : (0 : Int32).toInt = 0 := by decide
  have b1 : (1 : Int32).toInt = 1 := by decide
  refine ⟨Int32.le_iff_toInt_le.mpr (by omega), ?_⟩
  have en : ((υ 17).1 b.toNatClampNeg).toNatClampNeg - 1 = ((τ 17).1 b.toNatClampNeg).toNatClampNeg := by
    show ((υ 17).1 b.toNatClampNeg).toInt.toNat - 1 = ((τ 17).1 b.toNatClampNeg).toInt.toNat
    omega
  rw [en, l2, e4]
  exact Int32.le_refl _
theorem EndOK.cells {σ τ : gs} {b : Nat} (h : EndOK σ b) (e4 : τ 4 = σ 4) (e17 : τ 17 = σ 17) (e18 : τ 18 = σ 18) : EndOK τ b := by
  unfold EndOK
  rw [e4, e17, e18]
  exact h
theorem GridOK.cells {σ τ : gs} {b : Nat} (h : GridOK σ b) (e2 : τ 2 = σ 2) (e9 : τ 9 = σ 9) : GridOK τ b := by
  unfold GridOK
  rw [e2, e9]
  exact h
/-- the grid as it is laid -/
def LG (σ τ : gs) (b : Nat) (x : Int32) : Prop := (∀ (j : Nat) (k : Int32), (j : Int) = k.toInt + 91 → -91 ≤ k → k < x → (τ 9).1 (96 * b + j) = f_X12_dayOf (gdt ((σ 5).1 b) ((σ 2).1 b) ((σ 10).1 b) k)) ∧ ∀ j : Nat, (j < 96 * b ∨ 96 * b + 96 ≤ j) → (τ 9).1 j = (σ 9).1 j
theorem lg_0 {σ : gs} {b : Nat} : LG σ σ b (-91) := ⟨fun j k _ h1 h2 => absurd (Int32.lt_of_le_of_lt h1 h2) (Int32.not_lt.mpr (Int32.le_refl _)), fun _ _ => rfl⟩
theorem lg_s {σ τ υ : gs} {b k x r d i : Int32} (h : LG σ τ b.toNatClampNeg k) (h0 : 0 ≤ b) (hk : -91 ≤ k) (h4 : k ≤ 4) (hi : i.toInt = 96 * b.toInt + 91 + k.toInt) (hr : r = gdt ((σ 5).1 b.toNatClampNeg) ((σ 2).1 b.toNatClampNeg) ((σ 10).1 b.toNatClampNeg) k) (hd : d = f_X12_dayOf r) (e9 : υ 9 = (upd (τ 9).1 i.toNatClampNeg d, (τ 9).2)) (ex : x = k + 1) : LG σ υ b.toNatClampNeg x := by
  have be := nc_e h0
  have k0 : -91 ≤ k.toInt := Int32.le_iff_toInt_le.mp hk
  have k4 : k.toInt ≤ 4 := Int32.le_iff_toInt_le.mp h4
  obtain ⟨j0, hj0⟩ : ∃ j : Nat, (j : Int) = k.toInt + 91 := ⟨(k.toInt + 91).toNat, by omega⟩
  have ei : i.toNatClampNeg = 96 * b.toNatClampNeg + j0 := nat_at (by omega)
  have xe : x.toInt = k.toInt + 1 := by rw [ex]; exact i3_add (b := 1) (y := 1) rfl rfl (by omega) (by omega)
  refine ⟨fun j q hj q1 q2 => ?_, fun j hj => ?_⟩
  · have q1' : -91 ≤ q.toInt := Int32.le_iff_toInt_le.mp q1
    have q2' := Int32.lt_iff_toInt_lt.mp q2
    rw [e9]
    show upd _ _ _ _ = _
    unfold upd
    by_cases hq : q.toInt = k.toInt
    · have eq : q = k := Int32.toInt_inj.mp hq
      rw [if_pos (by omega), hd, hr, eq]
    · rw [if_neg (by omega)]
      exact h.1 j q hj q1 (Int32.lt_iff_toInt_lt.mpr (by omega))
  · rw [e9]
    show upd _ _ _ _ = _
    unfold upd
    rw [if_neg (by omega)]
    exact h.2 j hj
theorem lg_e {σ τ : gs} {b : Nat} {k : Int32} (h : LG σ τ b k) (hk : 4 < k) (ho : oft ((σ 2).1 b)) (hA : 1 ≤ f_X12_isDate ((σ 5).1 b)) (e2 : (τ 2).1 b = (σ 2).1 b) : GridOK τ b := by
  intro j hj
  have k5 := Int32.lt_iff_toInt_lt.mp hk
  have b4 : (4 : Int32).toInt = 4 := by decide
  have i1 : ∀ n : Nat, n < 96 → (Int32.ofInt (n - 91)).toInt = n - 91 := fun n hn => by
    have hs : Int32.size = 4294967296 := by decide
    rw [Int32.toInt_ofInt]
    exact Int.bmod_eq_of_le (by omega) (by omega)
  have a := i1 j (by omega)
  have a' := i1 (j + 1) (by omega)
  have c1 : (-91 : Int32).toInt = -91 := by decide
  have g := h.1 j (Int32.ofInt (j - 91)) (by omega) (Int32.le_iff_toInt_le.mpr (by omega)) (Int32.lt_iff_toInt_lt.mpr (by omega))
  have g' := h.1 (j + 1) (Int32.ofInt ((j + 1 : Nat) - 91)) (by omega) (Int32.le_iff_toInt_le.mpr (by omega)) (Int32.lt_iff_toInt_lt.mpr (by omega))
  rw [e2, g, g']
  exact gdt_dl hA ho (Int32.le_iff_toInt_le.mpr (by omega)) (Int32.lt_iff_toInt_lt.mpr (by omega)) (by omega)

