/-! ===== the general road: states, worlds ===== -/
/-- a cell's row: its ints, longs, doubles and references (by numbers of cells), by field or element -/
abbrev rw4 : Type := (Nat → Int32) × (Nat → Int64) × (Nat → UInt64) × (Nat → Option Nat)
abbrev gs : Type := Nat → rw4
def gI (σ : gs) (c k : Nat) (x : Int32) : gs := va_up σ c (upd (σ c).1 k x, (σ c).2)
def gL (σ : gs) (c k : Nat) (x : Int64) : gs := va_up σ c ((σ c).1, vp_updL (σ c).2.1 k x, (σ c).2.2)
def gD (σ : gs) (c k : Nat) (x : UInt64) : gs := va_up σ c ((σ c).1, (σ c).2.1, vf_upd (σ c).2.2.1 k x, (σ c).2.2.2)
def gQ (σ : gs) (c k : Nat) (x : Option Nat) : gs := va_up σ c ((σ c).1, (σ c).2.1, (σ c).2.2.1, va_up (σ c).2.2.2 k x)
def wG (n : Nat) (ad : Nat → Nat) (e : Nat → va_E) : va_W := (List.range n).map (fun c => (ad c, e c))
theorem wG_at {n : Nat} {ad : Nat → Nat} {e : Nat → va_E} {c : Nat} (h : c < n) : (wG n ad e)[c]? = some (ad c, e c) := by
  unfold wG
  rw [List.getElem?_map, List.getElem?_range h]
  rfl
theorem wG_of {n : Nat} {ad : Nat → Nat} {e : Nat → va_E} {c : Nat} {q : Nat × va_E} (h : (wG n ad e)[c]? = some q) : c < n ∧ q = (ad c, e c) := by
  have hc : c < n := by
    have h1 := (List.getElem?_eq_some_iff.mp h).1
    unfold wG at h1
    rw [List.length_map, List.length_range] at h1
    exact h1
  rw [wG_at hc] at h
  exact ⟨hc, (Option.some.inj h).symm⟩
theorem wG_set {n : Nat} {ad : Nat → Nat} {e e' : Nat → va_E} {c : Nat} (ho : ∀ i, i ≠ c → e' i = e i) : (wG n ad e).set c (ad c, e' c) = wG n ad e' := by
  refine List.ext_getElem? (fun i => ?_)
  by_cases hi : i < n
  · rw [wG_at hi]
    by_cases hc : c = i
    · subst hc
      rw [List.getElem?_set_self (by unfold wG; rw [List.length_map, List.length_range]; exact hi)]
    · rw [List.getElem?_set_ne hc, wG_at hi, ho i (fun h => hc h.symm)]
  · have h1 : ∀ (e : Nat → va_E), (wG n ad e)[i]? = none := fun e => by
      unfold wG
      rw [List.getElem?_eq_none]
      rw [List.length_map, List.length_range]
      exact Nat.not_lt.mp hi
    rw [h1 e', List.getElem?_eq_none]
    rw [List.length_set]
    unfold wG
    rw [List.length_map, List.length_range]
    exact Nat.not_lt.mp hi
/-- what is told of the heap and of the tables outside the worlds: the words as String constants, the statics that String's members ask for, what a throw asks for -/
def gW (adK : Nat → Nat) (U : State) : Prop := vk_R RX12 272 "desk" (adK 0) U ∧ vk_R RX12 277 "holiday" (adK 1) U ∧ vk_R RX12 282 "bond" (adK 2) U ∧ vk_R RX12 287 "quote" (adK 3) U ∧ vk_R RX12 292 "from" (adK 4) U ∧ vk_R RX12 298 "cash" (adK 5) U ∧ vk_R RX12 314 "thirty" (adK 6) U ∧ vk_R RX12 316 "euro" (adK 7) U ∧ vk_R RX12 318 "money" (adK 8) U ∧ vk_R RX12 320 "fixed" (adK 9) U ∧ vk_R RX12 322 "actual" (adK 10) U ∧ vk_R RX12 324 "per" (adK 11) U ∧ vk_R RX12 329 "eom" (adK 12) U ∧ vk_R RX12 339 "ex" (adK 13) U ∧ vk_R RX12 340 "mature" (adK 14) U ∧ vk_R RX12 341 "last" (adK 15) U ∧ vk_R RX12 343 "issue" (adK 16) U ∧ vk_R RX12 344 "first" (adK 17) U ∧ vk_R RX7 62 "desk" (adK 18) U ∧ vk_R RX7 71 "holiday" (adK 19) U ∧ vk_R RX7 73 "bond" (adK 20) U ∧ vk_R RX7 75 "quote" (adK 21) U ∧ vk_R RX7 86 "from" (adK 22) U ∧ vk_R RX7 98 "cash" (adK 23) U ∧ vk_R RX7 152 "per" (adK 24) U ∧ vk_R RX7 163 "eom" (adK 25) U ∧ vk_R RX7 168 "thirty" (adK 26) U ∧ vk_R RX7 170 "euro" (adK 27) U ∧ vk_R RX7 172 "money" (adK 28) U ∧ vk_R RX7 174 "fixed" (adK 29) U ∧ vk_R RX7 176 "actual" (adK 30) U ∧ vk_R RX7 178 "mature" (adK 31) U ∧ vk_R RX7 186 "last" (adK 32) U ∧ vk_R RX7 204 "issue" (adK 33) U ∧ vk_R RX7 218 "first" (adK 34) U ∧ vk_R RX7 230 "ex" (adK 35) U
def gT (adK adV : Nat → Nat) (A : Nat → Prop) (U : State) (H : Heap) : Prop := sk_F adK adV 0 A U H ∧ gW adK U ∧ hx_Z A U H
theorem gW.same {adK : Nat → Nat} {u U : State} (hv : U.vm = u.vm) (h : gW adK u) : gW adK U := by
  obtain ⟨h0, h1, h2, h3, h4, h5, h6, h7, h8, h9, h10, h11, h12, h13, h14, h15, h16, h17, h18, h19, h20, h21, h22, h23, h24, h25, h26, h27, h28, h29, h30, h31, h32, h33, h34, h35⟩ := h
  exact ⟨vk_R.same hv h0, vk_R.same hv h1, vk_R.same hv h2, vk_R.same hv h3, vk_R.same hv h4, vk_R.same hv h5, vk_R.same hv h6, vk_R.same hv h7, vk_R.same hv h8, vk_R.same hv h9, vk_R.same hv h10, vk_R.same hv h11, vk_R.same hv h12, vk_R.same hv h13, vk_R.same hv h14, vk_R.same hv h15, vk_R.same hv h16, vk_R.same hv h17, vk_R.same hv h18, vk_R.same hv h19, vk_R.same hv h20, vk_R.same hv h21, vk_R.same hv h22, vk_R.same hv h23, vk_R.same hv h24, vk_R.same hv h25, vk_R.same hv h26, vk_R.same hv h27, vk_R.same hv h28, vk_R.same hv h29, vk_R.same hv h30, vk_R.same hv h31, vk_R.same hv h32, vk_R.same hv h33, vk_R.same hv h34, vk_R.same hv h35⟩
theorem gW.warm {adK : Nat → Nat} {s U : State} (hW : s.WarmedH U.vm) (h : gW adK s) : gW adK U := by
  obtain ⟨h0, h1, h2, h3, h4, h5, h6, h7, h8, h9, h10, h11, h12, h13, h14, h15, h16, h17, h18, h19, h20, h21, h22, h23, h24, h25, h26, h27, h28, h29, h30, h31, h32, h33, h34, h35⟩ := h
  exact ⟨vk_R.warm hW h0, vk_R.warm hW h1, vk_R.warm hW h2, vk_R.warm hW h3, vk_R.warm hW h4, vk_R.warm hW h5, vk_R.warm hW h6, vk_R.warm hW h7, vk_R.warm hW h8, vk_R.warm hW h9, vk_R.warm hW h10, vk_R.warm hW h11, vk_R.warm hW h12, vk_R.warm hW h13, vk_R.warm hW h14, vk_R.warm hW h15, vk_R.warm hW h16, vk_R.warm hW h17, vk_R.warm hW h18, vk_R.warm hW h19, vk_R.warm hW h20, vk_R.warm hW h21, vk_R.warm hW h22, vk_R.warm hW h23, vk_R.warm hW h24, vk_R.warm hW h25, vk_R.warm hW h26, vk_R.warm hW h27, vk_R.warm hW h28, vk_R.warm hW h29, vk_R.warm hW h30, vk_R.warm hW h31, vk_R.warm hW h32, vk_R.warm hW h33, vk_R.warm hW h34, vk_R.warm hW h35⟩
theorem gT.same {adK adV : Nat → Nat} {A : Nat → Prop} {u U : State} {H : Heap} (hv : U.vm = u.vm) (h : gT adK adV A u H) : gT adK adV A U H := ⟨sk_F.moved (by rw [hv]; exact Vm.Alike.refl u.vm) h.1, h.2.1.same hv, hx_Z.moved (by rw [hv]; exact Vm.Alike.refl u.vm) h.2.2⟩
theorem gT.warm {adK adV : Nat → Nat} {A : Nat → Prop} {s U : State} {H : Heap} (hW : s.WarmedH U.vm) (h : gT adK adV A s H) : gT adK adV A U H := ⟨sk_F.moved hW.alike h.1, h.2.1.warm hW, hx_Z.moved hW.alike h.2.2⟩
theorem gT.kept {adK adV : Nat → Nat} {A : Nat → Prop} {U : State} {H H1 : Heap} (h : gT adK adV A U H) (hq : ∀ a : Nat, a < H.size → ¬ A a → H1[a]? = H[a]?) : gT adK adV A U H1 := ⟨h.1.kept hq, h.2.1, h.2.2.kept hq⟩
theorem gT.narrow {adK adV : Nat → Nat} {A B : Nat → Prop} {U : State} {H : Heap} (h : gT adK adV A U H) (hAB : ∀ q, B q → A q) : gT adK adV B U H := ⟨h.1.narrow hAB, h.2.1, h.2.2.narrow hAB⟩
/-- a contract's start and end over such a world -/
def gPre (adK adV : Nat → Nat) (D : va_G) (w : va_W) (T : List (ClassId × FieldType)) (sz : Nat) (U : State) : Prop := U.heap.size = sz ∧ va_P D vwCl w U.heap ∧ va_K D vwCl T U ∧ va_D (fun _ => True) w ∧ gT adK adV (va_A w sz) U U.heap
def gPost (D : va_G) (A : Nat → Prop) (w' : va_W) (t : State) : Prop := va_P D vwCl w' t.heap ∧ va_D A w'
theorem gBlind {adK adV : Nat → Nat} {D : va_G} {w : va_W} {T : List (ClassId × FieldType)} {sz : Nat} {As : List Value} : FrameBlind (va_Pc As (gPre adK adV D w T sz)) := fun a U g mk q => by
  obtain ⟨q0, q1, qP, qK, qD, qT⟩ := q
  exact ⟨q0, q1, qP, va_K.moved (u := U) (U := U.calling g mk a) (Vm.Alike.refl U.vm) qK, qD, gT.same (u := U) (U := U.calling g mk a) rfl qT⟩
theorem gStart {adK adV : Nat → Nat} {D : va_G} {w : va_W} {T : List (ClassId × FieldType)} {As : List Value} {s : State} {H : Heap} {A : Nat → Prop} {locs : List Loc} (hP : va_P D vwCl w H) (hD : va_D A w) (hK : va_K D vwCl T s) (hT : gT adK adV A s s.heap) (hS : va_S A s.heap H locs) (hF : ∀ q, va_A w H.size q → A q) (d : Drawn) : ∀ U : State, U.heap = H → (s.setDrawn d).WarmedH U.vm → va_Pc As (gPre adK adV D w T H.size) As.toArray U := fun U hU hW =>
  ⟨rfl, by rw [hU], by rw [hU]; exact hP, va_K.moved hW.alike hK, hD.weaken (fun _ _ _ _ => trivial), by rw [hU]; exact gT.warm hW (gT.same (u := s) (U := s.setDrawn d) rfl ((hT.kept hS.2.1).narrow hF))⟩
theorem gKd {D : va_G} {cl : List vw_C} {T : List (ClassId × FieldType)} {s : State} (h : va_K D cl T s) (d : Drawn) : va_K D cl T (s.setDrawn d) := va_K.moved (u := s) (U := s.setDrawn d) (Vm.Alike.refl s.vm) h
theorem gFree {w : va_W} {A : Nat → Prop} {H0 H : Heap} {locs : List Loc} (hD : va_D A w) (hS : va_S A H0 H locs) (hA : ∀ q : Nat, H0.size ≤ q → A q) : ∀ q, va_A w H.size q → A q := fun q h => by
  rcases h with ⟨k, e, h⟩ | h
  · exact hD.2 k _ h
  · exact hA q (Nat.le_trans hS.1 h)
theorem gBack {D : va_G} {w w' : va_W} {A : Nat → Prop} {H H1 : Heap} {t : State} (hF : ∀ q, va_A w H.size q → A q) (ht : t.heap = H1) (hB : gPost D (va_A w H.size) w' t) : va_P D vwCl w' H1 ∧ va_D A w' := by
  subst ht
  exact ⟨hB.1, hB.2.weaken (fun _ _ _ h => hF _ h)⟩
/-- behind a call that touches nothing of the world -/
theorem gKeep {D : va_G} {w : va_W} {H H1 : Heap} (hP : va_P D vwCl w H) (hk : ∀ q : Nat, q < H.size → ¬ va_A [] H.size q → H1[q]? = H[q]?) : va_P D vwCl w H1 := by
  intro k q hq
  have h0 := hP k q hq
  have key : ∀ cell : Cell, H[q.1]? = some cell → H1[q.1]? = some cell := fun cell hc => by
    have hlt : q.1 < H.size := (Array.getElem?_eq_some_iff.mp hc).1
    have hn : ¬ va_A [] H.size q.1 := by
      intro h
      rcases h with ⟨k, e, h⟩ | h
      · simp at h
      · exact absurd hlt (Nat.not_lt.mpr h)
    rw [hk q.1 hlt hn]
    exact hc
  obtain ⟨a, e⟩ := q
  cases e with
  | inl x => exact key _ h0
  | inr x =>
    obtain ⟨r, h1, cell, q1, q2⟩ := h0
    exact ⟨r, h1, cell, key cell q1, q2⟩
theorem gPut {D : va_G} {w : va_W} {f : gs → va_W} {σ' : gs} {H : Heap} {A : Nat → Prop} (e : w = f σ') (hP : va_P D vwCl w H) (hD : va_D A w) : ∃ z : gs, z = σ' ∧ va_P D vwCl (f z) H ∧ va_D A (f z) := by
  subst e
  exact ⟨σ', rfl, hP, hD⟩
theorem gI_self (σ : gs) (c k : Nat) (x : Int32) : ((gI σ c k x) c).1 k = x := by simp [gI, va_up, upd]
theorem gI_oth (σ : gs) (c : Nat) {k j : Nat} (x : Int32) (h : j ≠ k) : ((gI σ c k x) c).1 j = (σ c).1 j := by simp [gI, va_up, upd, h]
theorem gI_ne (σ : gs) {c i : Nat} (k : Nat) (x : Int32) (h : i ≠ c) : (gI σ c k x) i = σ i := by simp [gI, va_up, h]
theorem gL_ne (σ : gs) {c i : Nat} (k : Nat) (x : Int64) (h : i ≠ c) : (gL σ c k x) i = σ i := by simp [gL, va_up, h]
theorem gD_ne (σ : gs) {c i : Nat} (k : Nat) (x : UInt64) (h : i ≠ c) : (gD σ c k x) i = σ i := by simp [gD, va_up, h]
theorem gQ_ne (σ : gs) {c i : Nat} (k : Nat) (x : Option Nat) (h : i ≠ c) : (gQ σ c k x) i = σ i := by simp [gQ, va_up, h]
theorem gL_i (σ : gs) (c k : Nat) (x : Int64) (i : Nat) : ((gL σ c k x) i).1 = (σ i).1 := by by_cases h : i = c <;> simp [gL, va_up, h]
theorem gD_i (σ : gs) (c k : Nat) (x : UInt64) (i : Nat) : ((gD σ c k x) i).1 = (σ i).1 := by by_cases h : i = c <;> simp [gD, va_up, h]
theorem gQ_i (σ : gs) (c k : Nat) (x : Option Nat) (i : Nat) : ((gQ σ c k x) i).1 = (σ i).1 := by by_cases h : i = c <;> simp [gQ, va_up, h]
theorem gI_q (σ : gs) (c k : Nat) (x : Int32) (i : Nat) : ((gI σ c k x) i).2.2.2 = (σ i).2.2.2 := by by_cases h : i = c <;> simp [gI, va_up, h]
theorem gL_q (σ : gs) (c k : Nat) (x : Int64) (i : Nat) : ((gL σ c k x) i).2.2.2 = (σ i).2.2.2 := by by_cases h : i = c <;> simp [gL, va_up, h]
theorem gD_q (σ : gs) (c k : Nat) (x : UInt64) (i : Nat) : ((gD σ c k x) i).2.2.2 = (σ i).2.2.2 := by by_cases h : i = c <;> simp [gD, va_up, h]
/-- an index within a row -/
theorem gin {i N : Int32} {n : Nat} (hN : N.toInt = n) (h0 : 0 ≤ i) (h1 : i < N) : vp_in i n := by
  intro h
  rcases h with h | h
  · exact absurd h0 (Int32.not_le.mpr h)
  · have a := Int32.lt_iff_toInt_lt.mp h1
    have b := Int32.le_iff_toInt_le.mp h0
    have e : (i.toNatClampNeg : Int) = i.toInt := by
      rw [Int32.toNatClampNeg]
      exact Int.toNat_of_nonneg b
    omega

/-- the kinds of the class's cells -/
def kX (c : Nat) : Nat := (10 :: 6 :: 9 :: 20 :: 7 :: 5 :: 5 :: 5 :: 2 :: 5 :: 8 :: 21 :: 1 :: 22 :: 23 :: 24 :: 24 :: 24 :: 24 :: 1 :: 22 :: 23 :: 24 :: 24 :: 24 :: 24 :: 1 :: 22 :: 23 :: 24 :: 24 :: 24 :: 24 :: 3 :: 4 :: 25 :: 26 :: 0 :: 27 :: 24 :: 24 :: 24 :: 28 :: 28 :: 0 :: 27 :: 24 :: 24 :: 24 :: 28 :: 28 :: 0 :: 27 :: 24 :: 24 :: 24 :: 28 :: 28 :: 0 :: 27 :: 24 :: 24 :: 24 :: 28 :: 28 :: 29 :: 7 :: 5 :: 5 :: 5 :: 7 :: 5 :: 5 :: 5 :: 7 :: 5 :: 5 :: 5 :: 7 :: 5 :: 5 :: 5 :: 7 :: 5 :: 5 :: 5 :: 7 :: 5 :: 5 :: 5 :: 30 :: 30 :: 30 :: 5 :: 3 :: 4 :: 25 :: 26 :: 0 :: 27 :: 24 :: 24 :: 24 :: 28 :: 28 :: 0 :: 27 :: 24 :: 24 :: 24 :: 28 :: 28 :: 0 :: 27 :: 24 :: 24 :: 24 :: 28 :: 28 :: 0 :: 27 :: 24 :: 24 :: 24 :: 28 :: 28 :: 29 :: 7 :: 5 :: 5 :: 5 :: 7 :: 5 :: 5 :: 5 :: 7 :: 5 :: 5 :: 5 :: 7 :: 5 :: 5 :: 5 :: 7 :: 5 :: 5 :: 5 :: 7 :: 5 :: 5 :: 5 :: 30 :: 30 :: 30 :: 5 :: [] : List Nat)[c]?.getD 99
def fX0 (ad : Nat → Nat) (ρ : rw4) (c : Nat) : List Value := [.int (ρ.1 0), .int (ρ.1 1), .int (ρ.1 2), .int (ρ.1 3), .int (ρ.1 4), .int (ρ.1 5), .int (ρ.1 6), .int (ρ.1 7), .int (ρ.1 8), .int (ρ.1 9), .ref (ad (c + 1)), .ref (ad (c + 2)), .ref (ad (c + 3)), .ref (ad (c + 4)), .ref (ad (c + 5)), .ref (ad (c + 6))]
def fX1 (ad : Nat → Nat) (ρ : rw4) (c : Nat) : List Value := [.ref (ad (c + 1)), .ref (ad (c + 2)), .long (ρ.2.1 2), .int (ρ.1 3)]
def fX2 (ad : Nat → Nat) (ρ : rw4) (c : Nat) : List Value := [va_re ad (ρ.2.2.2 0), .double (ρ.2.2.1 1), .double (ρ.2.2.1 2), .double (ρ.2.2.1 3), .double (ρ.2.2.1 4), .double (ρ.2.2.1 5)]
def fX4 (ad : Nat → Nat) (ρ : rw4) (c : Nat) : List Value := [.int (ρ.1 0), .int (ρ.1 1), .ref (ad (c + 1)), .ref (ad (c + 3)), .int (ρ.1 4), .ref (ad (c + 32)), .ref (ad (c + 57)), .ref (ad (c + 58)), .ref (ad (c + 59)), .int (ρ.1 9), .int (ρ.1 10), .ref (ad (c + 60))]
def fX5 (ad : Nat → Nat) (ρ : rw4) (c : Nat) : List Value := [.ref (ad (c + 1)), .int (ρ.1 1)]
def fX6 (ad : Nat → Nat) (ρ : rw4) (c : Nat) : List Value := [.long (ρ.2.1 0), .long (ρ.2.1 1)]
def fX7 (ad : Nat → Nat) (ρ : rw4) (c : Nat) : List Value := [.ref (ad 2), .int (ρ.1 1), .int (ρ.1 2), .int (ρ.1 3), .int (ρ.1 4)]
def fX8 (ad : Nat → Nat) (ρ : rw4) (c : Nat) : List Value := [va_re ad (ρ.2.2.2 0), .int (ρ.1 1), .int (ρ.1 2), .ref (ad (c + 1)), .ref (ad (c + 2)), .ref (ad (c + 3)), .double (ρ.2.2.1 6), .double (ρ.2.2.1 7)]
def fX9 (ad : Nat → Nat) (ρ : rw4) (c : Nat) : List Value := [.ref (ad 11), .int (ρ.1 1)]
def fX10 (ad : Nat → Nat) (ρ : rw4) (c : Nat) : List Value := [.ref (ad 3), .int (ρ.1 1), .int (ρ.1 2), .int (ρ.1 3), .int (ρ.1 4), .int (ρ.1 5), .int (ρ.1 6)]
def fX11 (ad : Nat → Nat) (ρ : rw4) (c : Nat) : List Value := [.ref (ad 1), .ref (ad 4), .ref (ad 8), .ref (ad 9), .ref (ad 10), .ref (ad 12), .ref (ad 19), .ref (ad 26), va_re ad (ρ.2.2.2 8), va_re ad (ρ.2.2.2 9), .int (ρ.1 10), .int (ρ.1 11), .int (ρ.1 12), .int (ρ.1 13), .int (ρ.1 14)]
def eX (ad : Nat → Nat) (cA : Nat → ClassId) (ρ : rw4) (c : Nat) : va_E := match kX c with
  | 0 => .inr (0, fX0 ad ρ c)
  | 1 => .inr (1, fX1 ad ρ c)
  | 2 => .inr (2, fX2 ad ρ c)
  | 3 => .inr (3, fX4 ad ρ c)
  | 4 => .inr (4, fX5 ad ρ c)
  | 5 => .inr (5, fX6 ad ρ c)
  | 6 => .inr (6, fX7 ad ρ c)
  | 7 => .inr (7, fX8 ad ρ c)
  | 8 => .inr (8, fX9 ad ρ c)
  | 9 => .inr (9, fX10 ad ρ c)
  | 10 => .inr (10, fX11 ad ρ c)
  | 20 => .inl (cA c, 900, .inl ρ.1)
  | 21 => .inl (cA c, 64, .inl ρ.1)
  | 22 => .inl (cA c, 4, .inl ρ.1)
  | 23 => .inl (cA c, 4, .inr (.inr (.inr (.inr (fun b => if b < 4 then some (ad (c + 1 + b)) else none)))))
  | 24 => .inl (cA c, 81, .inl ρ.1)
  | 25 => .inl (cA c, 10, .inl ρ.1)
  | 26 => .inl (cA c, 4, .inr (.inr (.inr (.inr (fun b => if b < 4 then some (ad (c + 1 + 7 * b)) else none)))))
  | 27 => .inl (cA c, 94, .inl ρ.1)
  | 28 => .inl (cA c, 81, .inr (.inr (.inr (.inl ρ.2.2.1))))
  | 29 => .inl (cA c, 6, .inr (.inr (.inr (.inr (fun b => if b < 6 then some (ad (c + 1 + 4 * b)) else none)))))
  | 30 => .inl (cA c, 6, .inl ρ.1)
  | _ => .inr (99, [])
def wX (ad : Nat → Nat) (cA : Nat → ClassId) (σ : gs) : va_W := wG 155 ad (fun c => eX ad cA (σ c) c)
def tyX (c : Nat) : FieldType := match kX c with
  | 20 => .byte
  | 21 => .char
  | 22 => .int
  | 23 => .array .int
  | 24 => .int
  | 25 => .int
  | 26 => .object RX0
  | 27 => .int
  | 28 => .double
  | 29 => .object RX8
  | 30 => .int
  | _ => .byte
def tX (cA : Nat → ClassId) : List (ClassId × FieldType) := (List.range 155).map (fun c => (if kX c < 20 then cA 3 else cA c, tyX c))
theorem kX_lt {c k : Nat} (h : kX c = k) (hk : k ≠ 99 := by decide) : c < 155 := by
  refine Nat.lt_of_not_le (fun h1 => hk ?_)
  rw [← h]
  unfold kX
  rw [List.getElem?_eq_none h1]
  rfl
theorem ex_0 {ad : Nat → Nat} {cA : Nat → ClassId} {ρ : rw4} {c : Nat} (h : kX c = 0) : eX ad cA ρ c = .inr (0, fX0 ad ρ c) := by unfold eX; rw [h] <;> rfl
theorem at_0 {ad : Nat → Nat} {cA : Nat → ClassId} {σ : gs} {c : Nat} (h : kX c = 0) : (wX ad cA σ)[c]? = some (ad c, .inr (0, fX0 ad (σ c) c)) := (wG_at (kX_lt h)).trans (by rw [ex_0 h])
theorem se_0_0 {ad : Nat → Nat} {cA : Nat → ClassId} {σ : gs} {c : Nat} {x : Int32} (h : kX c = 0) : (wX ad cA σ).set c (ad c, .inr (0, (fX0 ad (σ c) c).set 0 (.int x))) = wX ad cA (gI σ c 0 x) := by
  have e1 : (Sum.inr (0, (fX0 ad (σ c) c).set 0 (.int x)) : va_E) = eX ad cA ((gI σ c 0 x) c) c := by
    rw [ex_0 h]
    show _ = Sum.inr (0, fX0 ad ((va_up σ c (upd (σ c).1 0 x, (σ c).2)) c) c)
    rw [va_up_self]
    rfl
  rw [e1]
  exact wG_set (e := fun i => eX ad cA (σ i) i) (e' := fun i => eX ad cA ((gI σ c 0 x) i) i) (fun i hi => by show eX ad cA ((gI σ c 0 x) i) i = eX ad cA (σ i) i; rw [gI_ne σ 0 _ hi])
theorem se_0_1 {ad : Nat → Nat} {cA : Nat → ClassId} {σ : gs} {c : Nat} {x : Int32} (h : kX c = 0) : (wX ad cA σ).set c (ad c, .inr (0, (fX0 ad (σ c) c).set 1 (.int x))) = wX ad cA (gI σ c 1 x) := by
  have e1 : (Sum.inr (0, (fX0 ad (σ c) c).set 1 (.int x)) : va_E) = eX ad cA ((gI σ c 1 x) c) c := by
    rw [ex_0 h]
    show _ = Sum.inr (0, fX0 ad ((va_up σ c (upd (σ c).1 1 x, (σ c).2)) c) c)
    rw [va_up_self]
    rfl
  rw [e1]
  exact wG_set (e := fun i => eX ad cA (σ i) i) (e' := fun i => eX ad cA ((gI σ c 1 x) i) i) (fun i hi => by show eX ad cA ((gI σ c 1 x) i) i = eX ad cA (σ i) i; rw [gI_ne σ 1 _ hi])
theorem se_0_2 {ad : Nat → Nat} {cA : Nat → ClassId} {σ : gs} {c : Nat} {x : Int32} (h : kX c = 0) : (wX ad cA σ).set c (ad c, .inr (0, (fX0 ad (σ c) c).set 2 (.int x))) = wX ad cA (gI σ c 2 x) := by
  have e1 : (Sum.inr (0, (fX0 ad (σ c) c).set 2 (.int x)) : va_E) = eX ad cA ((gI σ c 2 x) c) c := by
    rw [ex_0 h]
    show _ = Sum.inr (0, fX0 ad ((va_up σ c (upd (σ c).1 2 x, (σ c).2)) c) c)
    rw [va_up_self]
    rfl
  rw [e1]
  exact wG_set (e := fun i => eX ad cA (σ i) i) (e' := fun i => eX ad cA ((gI σ c 2 x) i) i) (fun i hi => by show eX ad cA ((gI σ c 2 x) i) i = eX ad cA (σ i) i; rw [gI_ne σ 2 _ hi])
theorem se_0_3 {ad : Nat → Nat} {cA : Nat → ClassId} {σ : gs} {c : Nat} {x : Int32} (h : kX c = 0) : (wX ad cA σ).set c (ad c, .inr (0, (fX0 ad (σ c) c).set 3 (.int x))) = wX ad cA (gI σ c 3 x) := by
  have e1 : (Sum.inr (0, (fX0 ad (σ c) c).set 3 (.int x)) : va_E) = eX ad cA ((gI σ c 3 x) c) c := by
    rw [ex_0 h]
    show _ = Sum.inr (0, fX0 ad ((va_up σ c (upd (σ c).1 3 x, (σ c).2)) c) c)
    rw [va_up_self]
    rfl
  rw [e1]
  exact wG_set (e := fun i => eX ad cA (σ i) i) (e' := fun i => eX ad cA ((gI σ c 3 x) i) i) (fun i hi => by show eX ad cA ((gI σ c 3 x) i) i = eX ad cA (σ i) i; rw [gI_ne σ 3 _ hi])
theorem se_0_4 {ad : Nat → Nat} {cA : Nat → ClassId} {σ : gs} {c : Nat} {x : Int32} (h : kX c = 0) : (wX ad cA σ).set c (ad c, .inr (0, (fX0 ad (σ c) c).set 4 (.int x))) = wX ad cA (gI σ c 4 x) := by
  have e1 : (Sum.inr (0, (fX0 ad (σ c) c).set 4 (.int x)) : va_E) = eX ad cA ((gI σ c 4 x) c) c := by
    rw [ex_0 h]
    show _ = Sum.inr (0, fX0 ad ((va_up σ c (upd (σ c).1 4 x, (σ c).2)) c) c)
    rw [va_up_self]
    rfl
  rw [e1]
  exact wG_set (e := fun i => eX ad cA (σ i) i) (e' := fun i => eX ad cA ((gI σ c 4 x) i) i) (fun i hi => by show eX ad cA ((gI σ c 4 x) i) i = eX ad cA (σ i) i; rw [gI_ne σ 4 _ hi])
theorem se_0_5 {ad : Nat → Nat} {cA : Nat → ClassId} {σ : gs} {c : Nat} {x : Int32} (h : kX c = 0) : (wX ad cA σ).set c (ad c, .inr (0, (fX0 ad (σ c) c).set 5 (.int x))) = wX ad cA (gI σ c 5 x) := by
  have e1 : (Sum.inr (0, (fX0 ad (σ c) c).set 5 (.int x)) : va_E) = eX ad cA ((gI σ c 5 x) c) c := by
    rw [ex_0 h]
    show _ = Sum.inr (0, fX0 ad ((va_up σ c (upd (σ c).1 5 x, (σ c).2)) c) c)
    rw [va_up_self]
    rfl
  rw [e1]
  exact wG_set (e := fun i => eX ad cA (σ i) i) (e' := fun i => eX ad cA ((gI σ c 5 x) i) i) (fun i hi => by show eX ad cA ((gI σ c 5 x) i) i = eX ad cA (σ i) i; rw [gI_ne σ 5 _ hi])
theorem se_0_6 {ad : Nat → Nat} {cA : Nat → ClassId} {σ : gs} {c : Nat} {x : Int32} (h : kX c = 0) : (wX ad cA σ).set c (ad c, .inr (0, (fX0 ad (σ c) c).set 6 (.int x))) = wX ad cA (gI σ c 6 x) := by
  have e1 : (Sum.inr (0, (fX0 ad (σ c) c).set 6 (.int x)) : va_E) = eX ad cA ((gI σ c 6 x) c) c := by
    rw [ex_0 h]
    show _ = Sum.inr (0, fX0 ad ((va_up σ c (upd (σ c).1 6 x, (σ c).2)) c) c)
    rw [va_up_self]
    rfl
  rw [e1]
  exact wG_set (e := fun i => eX ad cA (σ i) i) (e' := fun i => eX ad cA ((gI σ c 6 x) i) i) (fun i hi => by show eX ad cA ((gI σ c 6 x) i) i = eX ad cA (σ i) i; rw [gI_ne σ 6 _ hi])
theorem se_0_7 {ad : Nat → Nat} {cA : Nat → ClassId} {σ : gs} {c : Nat} {x : Int32} (h : kX c = 0) : (wX ad cA σ).set c (ad c, .inr (0, (fX0 ad (σ c) c).set 7 (.int x))) = wX ad cA (gI σ c 7 x) := by
  have e1 : (Sum.inr (0, (fX0 ad (σ c) c).set 7 (.int x)) : va_E) = eX ad cA ((gI σ c 7 x) c) c := by
    rw [ex_0 h]
    show _ = Sum.inr (0, fX0 ad ((va_up σ c (upd (σ c).1 7 x, (σ c).2)) c) c)
    rw [va_up_self]
    rfl
  rw [e1]
  exact wG_set (e := fun i => eX ad cA (σ i) i) (e' := fun i => eX ad cA ((gI σ c 7 x) i) i) (fun i hi => by show eX ad cA ((gI σ c 7 x) i) i = eX ad cA (σ i) i; rw [gI_ne σ 7 _ hi])
theorem se_0_8 {ad : Nat → Nat} {cA : Nat → ClassId} {σ : gs} {c : Nat} {x : Int32} (h : kX c = 0) : (wX ad cA σ).set c (ad c, .inr (0, (fX0 ad (σ c) c).set 8 (.int x))) = wX ad cA (gI σ c 8 x) := by
  have e1 : (Sum.inr (0, (fX0 ad (σ c) c).set 8 (.int x)) : va_E) = eX ad cA ((gI σ c 8 x) c) c := by
    rw [ex_0 h]
    show _ = Sum.inr (0, fX0 ad ((va_up σ c (upd (σ c).1 8 x, (σ c).2)) c) c)
    rw [va_up_self]
    rfl
  rw [e1]
  exact wG_set (e := fun i => eX ad cA (σ i) i) (e' := fun i => eX ad cA ((gI σ c 8 x) i) i) (fun i hi => by show eX ad cA ((gI σ c 8 x) i) i = eX ad cA (σ i) i; rw [gI_ne σ 8 _ hi])
theorem se_0_9 {ad : Nat → Nat} {cA : Nat → ClassId} {σ : gs} {c : Nat} {x : Int32} (h : kX c = 0) : (wX ad cA σ).set c (ad c, .inr (0, (fX0 ad (σ c) c).set 9 (.int x))) = wX ad cA (gI σ c 9 x) := by
  have e1 : (Sum.inr (0, (fX0 ad (σ c) c).set 9 (.int x)) : va_E) = eX ad cA ((gI σ c 9 x) c) c := by
    rw [ex_0 h]
    show _ = Sum.inr (0, fX0 ad ((va_up σ c (upd (σ c).1 9 x, (σ c).2)) c) c)
    rw [va_up_self]
    rfl
  rw [e1]
  exact wG_set (e := fun i => eX ad cA (σ i) i) (e' := fun i => eX ad cA ((gI σ c 9 x) i) i) (fun i hi => by show eX ad cA ((gI σ c 9 x) i) i = eX ad cA (σ i) i; rw [gI_ne σ 9 _ hi])
theorem ex_1 {ad : Nat → Nat} {cA : Nat → ClassId} {ρ : rw4} {c : Nat} (h : kX c = 1) : eX ad cA ρ c = .inr (1, fX1 ad ρ c) := by unfold eX; rw [h] <;> rfl
theorem at_1 {ad : Nat → Nat} {cA : Nat → ClassId} {σ : gs} {c : Nat} (h : kX c = 1) : (wX ad cA σ)[c]? = some (ad c, .inr (1, fX1 ad (σ c) c)) := (wG_at (kX_lt h)).trans (by rw [ex_1 h])
theorem se_1_2 {ad : Nat → Nat} {cA : Nat → ClassId} {σ : gs} {c : Nat} {x : Int64} (h : kX c = 1) : (wX ad cA σ).set c (ad c, .inr (1, (fX1 ad (σ c) c).set 2 (.long x))) = wX ad cA (gL σ c 2 x) := by
  have e1 : (Sum.inr (1, (fX1 ad (σ c) c).set 2 (.long x)) : va_E) = eX ad cA ((gL σ c 2 x) c) c := by
    rw [ex_1 h]
    show _ = Sum.inr (1, fX1 ad ((va_up σ c ((σ c).1, vp_updL (σ c).2.1 2 x, (σ c).2.2)) c) c)
    rw [va_up_self]
    rfl
  rw [e1]
  exact wG_set (e := fun i => eX ad cA (σ i) i) (e' := fun i => eX ad cA ((gL σ c 2 x) i) i) (fun i hi => by show eX ad cA ((gL σ c 2 x) i) i = eX ad cA (σ i) i; rw [gL_ne σ 2 _ hi])
theorem se_1_3 {ad : Nat → Nat} {cA : Nat → ClassId} {σ : gs} {c : Nat} {x : Int32} (h : kX c = 1) : (wX ad cA σ).set c (ad c, .inr (1, (fX1 ad (σ c) c).set 3 (.int x))) = wX ad cA (gI σ c 3 x) := by
  have e1 : (Sum.inr (1, (fX1 ad (σ c) c).set 3 (.int x)) : va_E) = eX ad cA ((gI σ c 3 x) c) c := by
    rw [ex_1 h]
    show _ = Sum.inr (1, fX1 ad ((va_up σ c (upd (σ c).1 3 x, (σ c).2)) c) c)
    rw [va_up_self]
    rfl
  rw [e1]
  exact wG_set (e := fun i => eX ad cA (σ i) i) (e' := fun i => eX ad cA ((gI σ c 3 x) i) i) (fun i hi => by show eX ad cA ((gI σ c 3 x) i) i = eX ad cA (σ i) i; rw [gI_ne σ 3 _ hi])
theorem ex_2 {ad : Nat → Nat} {cA : Nat → ClassId} {ρ : rw4} {c : Nat} (h : kX c = 2) : eX ad cA ρ c = .inr (2, fX2 ad ρ c) := by unfold eX; rw [h] <;> rfl
theorem at_2 {ad : Nat → Nat} {cA : Nat → ClassId} {σ : gs} {c : Nat} (h : kX c = 2) : (wX ad cA σ)[c]? = some (ad c, .inr (2, fX2 ad (σ c) c)) := (wG_at (kX_lt h)).trans (by rw [ex_2 h])
theorem se_2_0 {ad : Nat → Nat} {cA : Nat → ClassId} {σ : gs} {c : Nat} {x : Nat} (h : kX c = 2) : (wX ad cA σ).set c (ad c, .inr (2, (fX2 ad (σ c) c).set 0 (.ref (ad x)))) = wX ad cA (gQ σ c 0 (some x)) := by
  have e1 : (Sum.inr (2, (fX2 ad (σ c) c).set 0 (.ref (ad x))) : va_E) = eX ad cA ((gQ σ c 0 (some x)) c) c := by
    rw [ex_2 h]
    show _ = Sum.inr (2, fX2 ad ((va_up σ c ((σ c).1, (σ c).2.1, (σ c).2.2.1, va_up (σ c).2.2.2 0 (some x))) c) c)
    rw [va_up_self]
    rfl
  rw [e1]
  exact wG_set (e := fun i => eX ad cA (σ i) i) (e' := fun i => eX ad cA ((gQ σ c 0 (some x)) i) i) (fun i hi => by show eX ad cA ((gQ σ c 0 (some x)) i) i = eX ad cA (σ i) i; rw [gQ_ne σ 0 _ hi])
theorem se_2_1 {ad : Nat → Nat} {cA : Nat → ClassId} {σ : gs} {c : Nat} {x : UInt64} (h : kX c = 2) : (wX ad cA σ).set c (ad c, .inr (2, (fX2 ad (σ c) c).set 1 (.double x))) = wX ad cA (gD σ c 1 x) := by
  have e1 : (Sum.inr (2, (fX2 ad (σ c) c).set 1 (.double x)) : va_E) = eX ad cA ((gD σ c 1 x) c) c := by
    rw [ex_2 h]
    show _ = Sum.inr (2, fX2 ad ((va_up σ c ((σ c).1, (σ c).2.1, vf_upd (σ c).2.2.1 1 x, (σ c).2.2.2)) c) c)
    rw [va_up_self]
    rfl
  rw [e1]
  exact wG_set (e := fun i => eX ad cA (σ i) i) (e' := fun i => eX ad cA ((gD σ c 1 x) i) i) (fun i hi => by show eX ad cA ((gD σ c 1 x) i) i = eX ad cA (σ i) i; rw [gD_ne σ 1 _ hi])
theorem se_2_2 {ad : Nat → Nat} {cA : Nat → ClassId} {σ : gs} {c : Nat} {x : UInt64} (h : kX c = 2) : (wX ad cA σ).set c (ad c, .inr (2, (fX2 ad (σ c) c).set 2 (.double x))) = wX ad cA (gD σ c 2 x) := by
  have e1 : (Sum.inr (2, (fX2 ad (σ c) c).set 2 (.double x)) : va_E) = eX ad cA ((gD σ c 2 x) c) c := by
    rw [ex_2 h]
    show _ = Sum.inr (2, fX2 ad ((va_up σ c ((σ c).1, (σ c).2.1, vf_upd (σ c).2.2.1 2 x, (σ c).2.2.2)) c) c)
    rw [va_up_self]
    rfl
  rw [e1]
  exact wG_set (e := fun i => eX ad cA (σ i) i) (e' := fun i => eX ad cA ((gD σ c 2 x) i) i) (fun i hi => by show eX ad cA ((gD σ c 2 x) i) i = eX ad cA (σ i) i; rw [gD_ne σ 2 _ hi])
theorem se_2_3 {ad : Nat → Nat} {cA : Nat → ClassId} {σ : gs} {c : Nat} {x : UInt64} (h : kX c = 2) : (wX ad cA σ).set c (ad c, .inr (2, (fX2 ad (σ c) c).set 3 (.double x))) = wX ad cA (gD σ c 3 x) := by
  have e1 : (Sum.inr (2, (fX2 ad (σ c) c).set 3 (.double x)) : va_E) = eX ad cA ((gD σ c 3 x) c) c := by
    rw [ex_2 h]
    show _ = Sum.inr (2, fX2 ad ((va_up σ c ((σ c).1, (σ c).2.1, vf_upd (σ c).2.2.1 3 x, (σ c).2.2.2)) c) c)
    rw [va_up_self]
    rfl
  rw [e1]
  exact wG_set (e := fun i => eX ad cA (σ i) i) (e' := fun i => eX ad cA ((gD σ c 3 x) i) i) (fun i hi => by show eX ad cA ((gD σ c 3 x) i) i = eX ad cA (σ i) i; rw [gD_ne σ 3 _ hi])
theorem se_2_4 {ad : Nat → Nat} {cA : Nat → ClassId} {σ : gs} {c : Nat} {x : UInt64} (h : kX c = 2) : (wX ad cA σ).set c (ad c, .inr (2, (fX2 ad (σ c) c).set 4 (.double x))) = wX ad cA (gD σ c 4 x) := by
  have e1 : (Sum.inr (2, (fX2 ad (σ c) c).set 4 (.double x)) : va_E) = eX ad cA ((gD σ c 4 x) c) c := by
    rw [ex_2 h]
    show _ = Sum.inr (2, fX2 ad ((va_up σ c ((σ c).1, (σ c).2.1, vf_upd (σ c).2.2.1 4 x, (σ c).2.2.2)) c) c)
    rw [va_up_self]
    rfl
  rw [e1]
  exact wG_set (e := fun i => eX ad cA (σ i) i) (e' := fun i => eX ad cA ((gD σ c 4 x) i) i) (fun i hi => by show eX ad cA ((gD σ c 4 x) i) i = eX ad cA (σ i) i; rw [gD_ne σ 4 _ hi])
theorem se_2_5 {ad : Nat → Nat} {cA : Nat → ClassId} {σ : gs} {c : Nat} {x : UInt64} (h : kX c = 2) : (wX ad cA σ).set c (ad c, .inr (2, (fX2 ad (σ c) c).set 5 (.double x))) = wX ad cA (gD σ c 5 x) := by
  have e1 : (Sum.inr (2, (fX2 ad (σ c) c).set 5 (.double x)) : va_E) = eX ad cA ((gD σ c 5 x) c) c := by
    rw [ex_2 h]
    show _ = Sum.inr (2, fX2 ad ((va_up σ c ((σ c).1, (σ c).2.1, vf_upd (σ c).2.2.1 5 x, (σ c).2.2.2)) c) c)
    rw [va_up_self]
    rfl
  rw [e1]
  exact wG_set (e := fun i => eX ad cA (σ i) i) (e' := fun i => eX ad cA ((gD σ c 5 x) i) i) (fun i hi => by show eX ad cA ((gD σ c 5 x) i) i = eX ad cA (σ i) i; rw [gD_ne σ 5 _ hi])
theorem ex_3 {ad : Nat → Nat} {cA : Nat → ClassId} {ρ : rw4} {c : Nat} (h : kX c = 3) : eX ad cA ρ c = .inr (3, fX4 ad ρ c) := by unfold eX; rw [h] <;> rfl
theorem at_3 {ad : Nat → Nat} {cA : Nat → ClassId} {σ : gs} {c : Nat} (h : kX c = 3) : (wX ad cA σ)[c]? = some (ad c, .inr (3, fX4 ad (σ c) c)) := (wG_at (kX_lt h)).trans (by rw [ex_3 h])
theorem se_3_0 {ad : Nat → Nat} {cA : Nat → ClassId} {σ : gs} {c : Nat} {x : Int32} (h : kX c = 3) : (wX ad cA σ).set c (ad c, .inr (3, (fX4 ad (σ c) c).set 0 (.int x))) = wX ad cA (gI σ c 0 x) := by
  have e1 : (Sum.inr (3, (fX4 ad (σ c) c).set 0 (.int x)) : va_E) = eX ad cA ((gI σ c 0 x) c) c := by
    rw [ex_3 h]
    show _ = Sum.inr (3, fX4 ad ((va_up σ c (upd (σ c).1 0 x, (σ c).2)) c) c)
    rw [va_up_self]
    rfl
  rw [e1]
  exact wG_set (e := fun i => eX ad cA (σ i) i) (e' := fun i => eX ad cA ((gI σ c 0 x) i) i) (fun i hi => by show eX ad cA ((gI σ c 0 x) i) i = eX ad cA (σ i) i; rw [gI_ne σ 0 _ hi])
theorem se_3_1 {ad : Nat → Nat} {cA : Nat → ClassId} {σ : gs} {c : Nat} {x : Int32} (h : kX c = 3) : (wX ad cA σ).set c (ad c, .inr (3, (fX4 ad (σ c) c).set 1 (.int x))) = wX ad cA (gI σ c 1 x) := by
  have e1 : (Sum.inr (3, (fX4 ad (σ c) c).set 1 (.int x)) : va_E) = eX ad cA ((gI σ c 1 x) c) c := by
    rw [ex_3 h]
    show _ = Sum.inr (3, fX4 ad ((va_up σ c (upd (σ c).1 1 x, (σ c).2)) c) c)
    rw [va_up_self]
    rfl
  rw [e1]
  exact wG_set (e := fun i => eX ad cA (σ i) i) (e' := fun i => eX ad cA ((gI σ c 1 x) i) i) (fun i hi => by show eX ad cA ((gI σ c 1 x) i) i = eX ad cA (σ i) i; rw [gI_ne σ 1 _ hi])
theorem se_3_4 {ad : Nat → Nat} {cA : Nat → ClassId} {σ : gs} {c : Nat} {x : Int32} (h : kX c = 3) : (wX ad cA σ).set c (ad c, .inr (3, (fX4 ad (σ c) c).set 4 (.int x))) = wX ad cA (gI σ c 4 x) := by
  have e1 : (Sum.inr (3, (fX4 ad (σ c) c).set 4 (.int x)) : va_E) = eX ad cA ((gI σ c 4 x) c) c := by
    rw [ex_3 h]
    show _ = Sum.inr (3, fX4 ad ((va_up σ c (upd (σ c).1 4 x, (σ c).2)) c) c)
    rw [va_up_self]
    rfl
  rw [e1]
  exact wG_set (e := fun i => eX ad cA (σ i) i) (e' := fun i => eX ad cA ((gI σ c 4 x) i) i) (fun i hi => by show eX ad cA ((gI σ c 4 x) i) i = eX ad cA (σ i) i; rw [gI_ne σ 4 _ hi])
theorem se_3_9 {ad : Nat → Nat} {cA : Nat → ClassId} {σ : gs} {c : Nat} {x : Int32} (h : kX c = 3) : (wX ad cA σ).set c (ad c, .inr (3, (fX4 ad (σ c) c).set 9 (.int x))) = wX ad cA (gI σ c 9 x) := by
  have e1 : (Sum.inr (3, (fX4 ad (σ c) c).set 9 (.int x)) : va_E) = eX ad cA ((gI σ c 9 x) c) c := by
    rw [ex_3 h]
    show _ = Sum.inr (3, fX4 ad ((va_up σ c (upd (σ c).1 9 x, (σ c).2)) c) c)
    rw [va_up_self]
    rfl
  rw [e1]
  exact wG_set (e := fun i => eX ad cA (σ i) i) (e' := fun i => eX ad cA ((gI σ c 9 x) i) i) (fun i hi => by show eX ad cA ((gI σ c 9 x) i) i = eX ad cA (σ i) i; rw [gI_ne σ 9 _ hi])
theorem se_3_10 {ad : Nat → Nat} {cA : Nat → ClassId} {σ : gs} {c : Nat} {x : Int32} (h : kX c = 3) : (wX ad cA σ).set c (ad c, .inr (3, (fX4 ad (σ c) c).set 10 (.int x))) = wX ad cA (gI σ c 10 x) := by
  have e1 : (Sum.inr (3, (fX4 ad (σ c) c).set 10 (.int x)) : va_E) = eX ad cA ((gI σ c 10 x) c) c := by
    rw [ex_3 h]
    show _ = Sum.inr (3, fX4 ad ((va_up σ c (upd (σ c).1 10 x, (σ c).2)) c) c)
    rw [va_up_self]
    rfl
  rw [e1]
  exact wG_set (e := fun i => eX ad cA (σ i) i) (e' := fun i => eX ad cA ((gI σ c 10 x) i) i) (fun i hi => by show eX ad cA ((gI σ c 10 x) i) i = eX ad cA (σ i) i; rw [gI_ne σ 10 _ hi])
theorem ex_4 {ad : Nat → Nat} {cA : Nat → ClassId} {ρ : rw4} {c : Nat} (h : kX c = 4) : eX ad cA ρ c = .inr (4, fX5 ad ρ c) := by unfold eX; rw [h] <;> rfl
theorem at_4 {ad : Nat → Nat} {cA : Nat → ClassId} {σ : gs} {c : Nat} (h : kX c = 4) : (wX ad cA σ)[c]? = some (ad c, .inr (4, fX5 ad (σ c) c)) := (wG_at (kX_lt h)).trans (by rw [ex_4 h])
theorem se_4_1 {ad : Nat → Nat} {cA : Nat → ClassId} {σ : gs} {c : Nat} {x : Int32} (h : kX c = 4) : (wX ad cA σ).set c (ad c, .inr (4, (fX5 ad (σ c) c).set 1 (.int x))) = wX ad cA (gI σ c 1 x) := by
  have e1 : (Sum.inr (4, (fX5 ad (σ c) c).set 1 (.int x)) : va_E) = eX ad cA ((gI σ c 1 x) c) c := by
    rw [ex_4 h]
    show _ = Sum.inr (4, fX5 ad ((va_up σ c (upd (σ c).1 1 x, (σ c).2)) c) c)
    rw [va_up_self]
    rfl
  rw [e1]
  exact wG_set (e := fun i => eX ad cA (σ i) i) (e' := fun i => eX ad cA ((gI σ c 1 x) i) i) (fun i hi => by show eX ad cA ((gI σ c 1 x) i) i = eX ad cA (σ i) i; rw [gI_ne σ 1 _ hi])
theorem ex_5 {ad : Nat → Nat} {cA : Nat → ClassId} {ρ : rw4} {c : Nat} (h : kX c = 5) : eX ad cA ρ c = .inr (5, fX6 ad ρ c) := by unfold eX; rw [h] <;> rfl
theorem at_5 {ad : Nat → Nat} {cA : Nat → ClassId} {σ : gs} {c : Nat} (h : kX c = 5) : (wX ad cA σ)[c]? = some (ad c, .inr (5, fX6 ad (σ c) c)) := (wG_at (kX_lt h)).trans (by rw [ex_5 h])
theorem se_5_0 {ad : Nat → Nat} {cA : Nat → ClassId} {σ : gs} {c : Nat} {x : Int64} (h : kX c = 5) : (wX ad cA σ).set c (ad c, .inr (5, (fX6 ad (σ c) c).set 0 (.long x))) = wX ad cA (gL σ c 0 x) := by
  have e1 : (Sum.inr (5, (fX6 ad (σ c) c).set 0 (.long x)) : va_E) = eX ad cA ((gL σ c 0 x) c) c := by
    rw [ex_5 h]
    show _ = Sum.inr (5, fX6 ad ((va_up σ c ((σ c).1, vp_updL (σ c).2.1 0 x, (σ c).2.2)) c) c)
    rw [va_up_self]
    rfl
  rw [e1]
  exact wG_set (e := fun i => eX ad cA (σ i) i) (e' := fun i => eX ad cA ((gL σ c 0 x) i) i) (fun i hi => by show eX ad cA ((gL σ c 0 x) i) i = eX ad cA (σ i) i; rw [gL_ne σ 0 _ hi])
theorem se_5_1 {ad : Nat → Nat} {cA : Nat → ClassId} {σ : gs} {c : Nat} {x : Int64} (h : kX c = 5) : (wX ad cA σ).set c (ad c, .inr (5, (fX6 ad (σ c) c).set 1 (.long x))) = wX ad cA (gL σ c 1 x) := by
  have e1 : (Sum.inr (5, (fX6 ad (σ c) c).set 1 (.long x)) : va_E) = eX ad cA ((gL σ c 1 x) c) c := by
    rw [ex_5 h]
    show _ = Sum.inr (5, fX6 ad ((va_up σ c ((σ c).1, vp_updL (σ c).2.1 1 x, (σ c).2.2)) c) c)
    rw [va_up_self]
    rfl
  rw [e1]
  exact wG_set (e := fun i => eX ad cA (σ i) i) (e' := fun i => eX ad cA ((gL σ c 1 x) i) i) (fun i hi => by show eX ad cA ((gL σ c 1 x) i) i = eX ad cA (σ i) i; rw [gL_ne σ 1 _ hi])
theorem ex_6 {ad : Nat → Nat} {cA : Nat → ClassId} {ρ : rw4} {c : Nat} (h : kX c = 6) : eX ad cA ρ c = .inr (6, fX7 ad ρ c) := by unfold eX; rw [h] <;> rfl
theorem at_6 {ad : Nat → Nat} {cA : Nat → ClassId} {σ : gs} {c : Nat} (h : kX c = 6) : (wX ad cA σ)[c]? = some (ad c, .inr (6, fX7 ad (σ c) c)) := (wG_at (kX_lt h)).trans (by rw [ex_6 h])
theorem se_6_1 {ad : Nat → Nat} {cA : Nat → ClassId} {σ : gs} {c : Nat} {x : Int32} (h : kX c = 6) : (wX ad cA σ).set c (ad c, .inr (6, (fX7 ad (σ c) c).set 1 (.int x))) = wX ad cA (gI σ c 1 x) := by
  have e1 : (Sum.inr (6, (fX7 ad (σ c) c).set 1 (.int x)) : va_E) = eX ad cA ((gI σ c 1 x) c) c := by
    rw [ex_6 h]
    show _ = Sum.inr (6, fX7 ad ((va_up σ c (upd (σ c).1 1 x, (σ c).2)) c) c)
    rw [va_up_self]
    rfl
  rw [e1]
  exact wG_set (e := fun i => eX ad cA (σ i) i) (e' := fun i => eX ad cA ((gI σ c 1 x) i) i) (fun i hi => by show eX ad cA ((gI σ c 1 x) i) i = eX ad cA (σ i) i; rw [gI_ne σ 1 _ hi])
theorem se_6_2 {ad : Nat → Nat} {cA : Nat → ClassId} {σ : gs} {c : Nat} {x : Int32} (h : kX c = 6) : (wX ad cA σ).set c (ad c, .inr (6, (fX7 ad (σ c) c).set 2 (.int x))) = wX ad cA (gI σ c 2 x) := by
  have e1 : (Sum.inr (6, (fX7 ad (σ c) c).set 2 (.int x)) : va_E) = eX ad cA ((gI σ c 2 x) c) c := by
    rw [ex_6 h]
    show _ = Sum.inr (6, fX7 ad ((va_up σ c (upd (σ c).1 2 x, (σ c).2)) c) c)
    rw [va_up_self]
    rfl
  rw [e1]
  exact wG_set (e := fun i => eX ad cA (σ i) i) (e' := fun i => eX ad cA ((gI σ c 2 x) i) i) (fun i hi => by show eX ad cA ((gI σ c 2 x) i) i = eX ad cA (σ i) i; rw [gI_ne σ 2 _ hi])
theorem se_6_3 {ad : Nat → Nat} {cA : Nat → ClassId} {σ : gs} {c : Nat} {x : Int32} (h : kX c = 6) : (wX ad cA σ).set c (ad c, .inr (6, (fX7 ad (σ c) c).set 3 (.int x))) = wX ad cA (gI σ c 3 x) := by
  have e1 : (Sum.inr (6, (fX7 ad (σ c) c).set 3 (.int x)) : va_E) = eX ad cA ((gI σ c 3 x) c) c := by
    rw [ex_6 h]
    show _ = Sum.inr (6, fX7 ad ((va_up σ c (upd (σ c).1 3 x, (σ c).2)) c) c)
    rw [va_up_self]
    rfl
  rw [e1]
  exact wG_set (e := fun i => eX ad cA (σ i) i) (e' := fun i => eX ad cA ((gI σ c 3 x) i) i) (fun i hi => by show eX ad cA ((gI σ c 3 x) i) i = eX ad cA (σ i) i; rw [gI_ne σ 3 _ hi])
theorem se_6_4 {ad : Nat → Nat} {cA : Nat → ClassId} {σ : gs} {c : Nat} {x : Int32} (h : kX c = 6) : (wX ad cA σ).set c (ad c, .inr (6, (fX7 ad (σ c) c).set 4 (.int x))) = wX ad cA (gI σ c 4 x) := by
  have e1 : (Sum.inr (6, (fX7 ad (σ c) c).set 4 (.int x)) : va_E) = eX ad cA ((gI σ c 4 x) c) c := by
    rw [ex_6 h]
    show _ = Sum.inr (6, fX7 ad ((va_up σ c (upd (σ c).1 4 x, (σ c).2)) c) c)
    rw [va_up_self]
    rfl
  rw [e1]
  exact wG_set (e := fun i => eX ad cA (σ i) i) (e' := fun i => eX ad cA ((gI σ c 4 x) i) i) (fun i hi => by show eX ad cA ((gI σ c 4 x) i) i = eX ad cA (σ i) i; rw [gI_ne σ 4 _ hi])
theorem ex_7 {ad : Nat → Nat} {cA : Nat → ClassId} {ρ : rw4} {c : Nat} (h : kX c = 7) : eX ad cA ρ c = .inr (7, fX8 ad ρ c) := by unfold eX; rw [h] <;> rfl
theorem at_7 {ad : Nat → Nat} {cA : Nat → ClassId} {σ : gs} {c : Nat} (h : kX c = 7) : (wX ad cA σ)[c]? = some (ad c, .inr (7, fX8 ad (σ c) c)) := (wG_at (kX_lt h)).trans (by rw [ex_7 h])
theorem se_7_0 {ad : Nat → Nat} {cA : Nat → ClassId} {σ : gs} {c : Nat} {x : Nat} (h : kX c = 7) : (wX ad cA σ).set c (ad c, .inr (7, (fX8 ad (σ c) c).set 0 (.ref (ad x)))) = wX ad cA (gQ σ c 0 (some x)) := by
  have e1 : (Sum.inr (7, (fX8 ad (σ c) c).set 0 (.ref (ad x))) : va_E) = eX ad cA ((gQ σ c 0 (some x)) c) c := by
    rw [ex_7 h]
    show _ = Sum.inr (7, fX8 ad ((va_up σ c ((σ c).1, (σ c).2.1, (σ c).2.2.1, va_up (σ c).2.2.2 0 (some x))) c) c)
    rw [va_up_self]
    rfl
  rw [e1]
  exact wG_set (e := fun i => eX ad cA (σ i) i) (e' := fun i => eX ad cA ((gQ σ c 0 (some x)) i) i) (fun i hi => by show eX ad cA ((gQ σ c 0 (some x)) i) i = eX ad cA (σ i) i; rw [gQ_ne σ 0 _ hi])
theorem se_7_1 {ad : Nat → Nat} {cA : Nat → ClassId} {σ : gs} {c : Nat} {x : Int32} (h : kX c = 7) : (wX ad cA σ).set c (ad c, .inr (7, (fX8 ad (σ c) c).set 1 (.int x))) = wX ad cA (gI σ c 1 x) := by
  have e1 : (Sum.inr (7, (fX8 ad (σ c) c).set 1 (.int x)) : va_E) = eX ad cA ((gI σ c 1 x) c) c := by
    rw [ex_7 h]
    show _ = Sum.inr (7, fX8 ad ((va_up σ c (upd (σ c).1 1 x, (σ c).2)) c) c)
    rw [va_up_self]
    rfl
  rw [e1]
  exact wG_set (e := fun i => eX ad cA (σ i) i) (e' := fun i => eX ad cA ((gI σ c 1 x) i) i) (fun i hi => by show eX ad cA ((gI σ c 1 x) i) i = eX ad cA (σ i) i; rw [gI_ne σ 1 _ hi])
theorem se_7_2 {ad : Nat → Nat} {cA : Nat → ClassId} {σ : gs} {c : Nat} {x : Int32} (h : kX c = 7) : (wX ad cA σ).set c (ad c, .inr (7, (fX8 ad (σ c) c).set 2 (.int x))) = wX ad cA (gI σ c 2 x) := by
  have e1 : (Sum.inr (7, (fX8 ad (σ c) c).set 2 (.int x)) : va_E) = eX ad cA ((gI σ c 2 x) c) c := by
    rw [ex_7 h]
    show _ = Sum.inr (7, fX8 ad ((va_up σ c (upd (σ c).1 2 x, (σ c).2)) c) c)
    rw [va_up_self]
    rfl
  rw [e1]
  exact wG_set (e := fun i => eX ad cA (σ i) i) (e' := fun i => eX ad cA ((gI σ c 2 x) i) i) (fun i hi => by show eX ad cA ((gI σ c 2 x) i) i = eX ad cA (σ i) i; rw [gI_ne σ 2 _ hi])
theorem se_7_6 {ad : Nat → Nat} {cA : Nat → ClassId} {σ : gs} {c : Nat} {x : UInt64} (h : kX c = 7) : (wX ad cA σ).set c (ad c, .inr (7, (fX8 ad (σ c) c).set 6 (.double x))) = wX ad cA (gD σ c 6 x) := by
  have e1 : (Sum.inr (7, (fX8 ad (σ c) c).set 6 (.double x)) : va_E) = eX ad cA ((gD σ c 6 x) c) c := by
    rw [ex_7 h]
    show _ = Sum.inr (7, fX8 ad ((va_up σ c ((σ c).1, (σ c).2.1, vf_upd (σ c).2.2.1 6 x, (σ c).2.2.2)) c) c)
    rw [va_up_self]
    rfl
  rw [e1]
  exact wG_set (e := fun i => eX ad cA (σ i) i) (e' := fun i => eX ad cA ((gD σ c 6 x) i) i) (fun i hi => by show eX ad cA ((gD σ c 6 x) i) i = eX ad cA (σ i) i; rw [gD_ne σ 6 _ hi])
theorem se_7_7 {ad : Nat → Nat} {cA : Nat → ClassId} {σ : gs} {c : Nat} {x : UInt64} (h : kX c = 7) : (wX ad cA σ).set c (ad c, .inr (7, (fX8 ad (σ c) c).set 7 (.double x))) = wX ad cA (gD σ c 7 x) := by
  have e1 : (Sum.inr (7, (fX8 ad (σ c) c).set 7 (.double x)) : va_E) = eX ad cA ((gD σ c 7 x) c) c := by
    rw [ex_7 h]
    show _ = Sum.inr (7, fX8 ad ((va_up σ c ((σ c).1, (σ c).2.1, vf_upd (σ c).2.2.1 7 x, (σ c).2.2.2)) c) c)
    rw [va_up_self]
    rfl
  rw [e1]
  exact wG_set (e := fun i => eX ad cA (σ i) i) (e' := fun i => eX ad cA ((gD σ c 7 x) i) i) (fun i hi => by show eX ad cA ((gD σ c 7 x) i) i = eX ad cA (σ i) i; rw [gD_ne σ 7 _ hi])
theorem ex_8 {ad : Nat → Nat} {cA : Nat → ClassId} {ρ : rw4} {c : Nat} (h : kX c = 8) : eX ad cA ρ c = .inr (8, fX9 ad ρ c) := by unfold eX; rw [h] <;> rfl
theorem at_8 {ad : Nat → Nat} {cA : Nat → ClassId} {σ : gs} {c : Nat} (h : kX c = 8) : (wX ad cA σ)[c]? = some (ad c, .inr (8, fX9 ad (σ c) c)) := (wG_at (kX_lt h)).trans (by rw [ex_8 h])
theorem se_8_1 {ad : Nat → Nat} {cA : Nat → ClassId} {σ : gs} {c : Nat} {x : Int32} (h : kX c = 8) : (wX ad cA σ).set c (ad c, .inr (8, (fX9 ad (σ c) c).set 1 (.int x))) = wX ad cA (gI σ c 1 x) := by
  have e1 : (Sum.inr (8, (fX9 ad (σ c) c).set 1 (.int x)) : va_E) = eX ad cA ((gI σ c 1 x) c) c := by
    rw [ex_8 h]
    show _ = Sum.inr (8, fX9 ad ((va_up σ c (upd (σ c).1 1 x, (σ c).2)) c) c)
    rw [va_up_self]
    rfl
  rw [e1]
  exact wG_set (e := fun i => eX ad cA (σ i) i) (e' := fun i => eX ad cA ((gI σ c 1 x) i) i) (fun i hi => by show eX ad cA ((gI σ c 1 x) i) i = eX ad cA (σ i) i; rw [gI_ne σ 1 _ hi])
theorem ex_9 {ad : Nat → Nat} {cA : Nat → ClassId} {ρ : rw4} {c : Nat} (h : kX c = 9) : eX ad cA ρ c = .inr (9, fX10 ad ρ c) := by unfold eX; rw [h] <;> rfl
theorem at_9 {ad : Nat → Nat} {cA : Nat → ClassId} {σ : gs} {c : Nat} (h : kX c = 9) : (wX ad cA σ)[c]? = some (ad c, .inr (9, fX10 ad (σ c) c)) := (wG_at (kX_lt h)).trans (by rw [ex_9 h])
theorem se_9_1 {ad : Nat → Nat} {cA : Nat → ClassId} {σ : gs} {c : Nat} {x : Int32} (h : kX c = 9) : (wX ad cA σ).set c (ad c, .inr (9, (fX10 ad (σ c) c).set 1 (.int x))) = wX ad cA (gI σ c 1 x) := by
  have e1 : (Sum.inr (9, (fX10 ad (σ c) c).set 1 (.int x)) : va_E) = eX ad cA ((gI σ c 1 x) c) c := by
    rw [ex_9 h]
    show _ = Sum.inr (9, fX10 ad ((va_up σ c (upd (σ c).1 1 x, (σ c).2)) c) c)
    rw [va_up_self]
    rfl
  rw [e1]
  exact wG_set (e := fun i => eX ad cA (σ i) i) (e' := fun i => eX ad cA ((gI σ c 1 x) i) i) (fun i hi => by show eX ad cA ((gI σ c 1 x) i) i = eX ad cA (σ i) i; rw [gI_ne σ 1 _ hi])
theorem se_9_2 {ad : Nat → Nat} {cA : Nat → ClassId} {σ : gs} {c : Nat} {x : Int32} (h : kX c = 9) : (wX ad cA σ).set c (ad c, .inr (9, (fX10 ad (σ c) c).set 2 (.int x))) = wX ad cA (gI σ c 2 x) := by
  have e1 : (Sum.inr (9, (fX10 ad (σ c) c).set 2 (.int x)) : va_E) = eX ad cA ((gI σ c 2 x) c) c := by
    rw [ex_9 h]
    show _ = Sum.inr (9, fX10 ad ((va_up σ c (upd (σ c).1 2 x, (σ c).2)) c) c)
    rw [va_up_self]
    rfl
  rw [e1]
  exact wG_set (e := fun i => eX ad cA (σ i) i) (e' := fun i => eX ad cA ((gI σ c 2 x) i) i) (fun i hi => by show eX ad cA ((gI σ c 2 x) i) i = eX ad cA (σ i) i; rw [gI_ne σ 2 _ hi])
theorem se_9_3 {ad : Nat → Nat} {cA : Nat → ClassId} {σ : gs} {c : Nat} {x : Int32} (h : kX c = 9) : (wX ad cA σ).set c (ad c, .inr (9, (fX10 ad (σ c) c).set 3 (.int x))) = wX ad cA (gI σ c 3 x) := by
  have e1 : (Sum.inr (9, (fX10 ad (σ c) c).set 3 (.int x)) : va_E) = eX ad cA ((gI σ c 3 x) c) c := by
    rw [ex_9 h]
    show _ = Sum.inr (9, fX10 ad ((va_up σ c (upd (σ c).1 3 x, (σ c).2)) c) c)
    rw [va_up_self]
    rfl
  rw [e1]
  exact wG_set (e := fun i => eX ad cA (σ i) i) (e' := fun i => eX ad cA ((gI σ c 3 x) i) i) (fun i hi => by show eX ad cA ((gI σ c 3 x) i) i = eX ad cA (σ i) i; rw [gI_ne σ 3 _ hi])
theorem se_9_4 {ad : Nat → Nat} {cA : Nat → ClassId} {σ : gs} {c : Nat} {x : Int32} (h : kX c = 9) : (wX ad cA σ).set c (ad c, .inr (9, (fX10 ad (σ c) c).set 4 (.int x))) = wX ad cA (gI σ c 4 x) := by
  have e1 : (Sum.inr (9, (fX10 ad (σ c) c).set 4 (.int x)) : va_E) = eX ad cA ((gI σ c 4 x) c) c := by
    rw [ex_9 h]
    show _ = Sum.inr (9, fX10 ad ((va_up σ c (upd (σ c).1 4 x, (σ c).2)) c) c)
    rw [va_up_self]
    rfl
  rw [e1]
  exact wG_set (e := fun i => eX ad cA (σ i) i) (e' := fun i => eX ad cA ((gI σ c 4 x) i) i) (fun i hi => by show eX ad cA ((gI σ c 4 x) i) i = eX ad cA (σ i) i; rw [gI_ne σ 4 _ hi])
theorem se_9_5 {ad : Nat → Nat} {cA : Nat → ClassId} {σ : gs} {c : Nat} {x : Int32} (h : kX c = 9) : (wX ad cA σ).set c (ad c, .inr (9, (fX10 ad (σ c) c).set 5 (.int x))) = wX ad cA (gI σ c 5 x) := by
  have e1 : (Sum.inr (9, (fX10 ad (σ c) c).set 5 (.int x)) : va_E) = eX ad cA ((gI σ c 5 x) c) c := by
    rw [ex_9 h]
    show _ = Sum.inr (9, fX10 ad ((va_up σ c (upd (σ c).1 5 x, (σ c).2)) c) c)
    rw [va_up_self]
    rfl
  rw [e1]
  exact wG_set (e := fun i => eX ad cA (σ i) i) (e' := fun i => eX ad cA ((gI σ c 5 x) i) i) (fun i hi => by show eX ad cA ((gI σ c 5 x) i) i = eX ad cA (σ i) i; rw [gI_ne σ 5 _ hi])
theorem se_9_6 {ad : Nat → Nat} {cA : Nat → ClassId} {σ : gs} {c : Nat} {x : Int32} (h : kX c = 9) : (wX ad cA σ).set c (ad c, .inr (9, (fX10 ad (σ c) c).set 6 (.int x))) = wX ad cA (gI σ c 6 x) := by
  have e1 : (Sum.inr (9, (fX10 ad (σ c) c).set 6 (.int x)) : va_E) = eX ad cA ((gI σ c 6 x) c) c := by
    rw [ex_9 h]
    show _ = Sum.inr (9, fX10 ad ((va_up σ c (upd (σ c).1 6 x, (σ c).2)) c) c)
    rw [va_up_self]
    rfl
  rw [e1]
  exact wG_set (e := fun i => eX ad cA (σ i) i) (e' := fun i => eX ad cA ((gI σ c 6 x) i) i) (fun i hi => by show eX ad cA ((gI σ c 6 x) i) i = eX ad cA (σ i) i; rw [gI_ne σ 6 _ hi])
theorem ex_10 {ad : Nat → Nat} {cA : Nat → ClassId} {ρ : rw4} {c : Nat} (h : kX c = 10) : eX ad cA ρ c = .inr (10, fX11 ad ρ c) := by unfold eX; rw [h] <;> rfl
theorem at_10 {ad : Nat → Nat} {cA : Nat → ClassId} {σ : gs} {c : Nat} (h : kX c = 10) : (wX ad cA σ)[c]? = some (ad c, .inr (10, fX11 ad (σ c) c)) := (wG_at (kX_lt h)).trans (by rw [ex_10 h])
theorem se_10_8 {ad : Nat → Nat} {cA : Nat → ClassId} {σ : gs} {c : Nat} {x : Nat} (h : kX c = 10) : (wX ad cA σ).set c (ad c, .inr (10, (fX11 ad (σ c) c).set 8 (.ref (ad x)))) = wX ad cA (gQ σ c 8 (some x)) := by
  have e1 : (Sum.inr (10, (fX11 ad (σ c) c).set 8 (.ref (ad x))) : va_E) = eX ad cA ((gQ σ c 8 (some x)) c) c := by
    rw [ex_10 h]
    show _ = Sum.inr (10, fX11 ad ((va_up σ c ((σ c).1, (σ c).2.1, (σ c).2.2.1, va_up (σ c).2.2.2 8 (some x))) c) c)
    rw [va_up_self]
    rfl
  rw [e1]
  exact wG_set (e := fun i => eX ad cA (σ i) i) (e' := fun i => eX ad cA ((gQ σ c 8 (some x)) i) i) (fun i hi => by show eX ad cA ((gQ σ c 8 (some x)) i) i = eX ad cA (σ i) i; rw [gQ_ne σ 8 _ hi])
theorem se_10_9 {ad : Nat → Nat} {cA : Nat → ClassId} {σ : gs} {c : Nat} {x : Nat} (h : kX c = 10) : (wX ad cA σ).set c (ad c, .inr (10, (fX11 ad (σ c) c).set 9 (.ref (ad x)))) = wX ad cA (gQ σ c 9 (some x)) := by
  have e1 : (Sum.inr (10, (fX11 ad (σ c) c).set 9 (.ref (ad x))) : va_E) = eX ad cA ((gQ σ c 9 (some x)) c) c := by
    rw [ex_10 h]
    show _ = Sum.inr (10, fX11 ad ((va_up σ c ((σ c).1, (σ c).2.1, (σ c).2.2.1, va_up (σ c).2.2.2 9 (some x))) c) c)
    rw [va_up_self]
    rfl
  rw [e1]
  exact wG_set (e := fun i => eX ad cA (σ i) i) (e' := fun i => eX ad cA ((gQ σ c 9 (some x)) i) i) (fun i hi => by show eX ad cA ((gQ σ c 9 (some x)) i) i = eX ad cA (σ i) i; rw [gQ_ne σ 9 _ hi])
theorem se_10_10 {ad : Nat → Nat} {cA : Nat → ClassId} {σ : gs} {c : Nat} {x : Int32} (h : kX c = 10) : (wX ad cA σ).set c (ad c, .inr (10, (fX11 ad (σ c) c).set 10 (.int x))) = wX ad cA (gI σ c 10 x) := by
  have e1 : (Sum.inr (10, (fX11 ad (σ c) c).set 10 (.int x)) : va_E) = eX ad cA ((gI σ c 10 x) c) c := by
    rw [ex_10 h]
    show _ = Sum.inr (10, fX11 ad ((va_up σ c (upd (σ c).1 10 x, (σ c).2)) c) c)
    rw [va_up_self]
    rfl
  rw [e1]
  exact wG_set (e := fun i => eX ad cA (σ i) i) (e' := fun i => eX ad cA ((gI σ c 10 x) i) i) (fun i hi => by show eX ad cA ((gI σ c 10 x) i) i = eX ad cA (σ i) i; rw [gI_ne σ 10 _ hi])
theorem se_10_11 {ad : Nat → Nat} {cA : Nat → ClassId} {σ : gs} {c : Nat} {x : Int32} (h : kX c = 10) : (wX ad cA σ).set c (ad c, .inr (10, (fX11 ad (σ c) c).set 11 (.int x))) = wX ad cA (gI σ c 11 x) := by
  have e1 : (Sum.inr (10, (fX11 ad (σ c) c).set 11 (.int x)) : va_E) = eX ad cA ((gI σ c 11 x) c) c := by
    rw [ex_10 h]
    show _ = Sum.inr (10, fX11 ad ((va_up σ c (upd (σ c).1 11 x, (σ c).2)) c) c)
    rw [va_up_self]
    rfl
  rw [e1]
  exact wG_set (e := fun i => eX ad cA (σ i) i) (e' := fun i => eX ad cA ((gI σ c 11 x) i) i) (fun i hi => by show eX ad cA ((gI σ c 11 x) i) i = eX ad cA (σ i) i; rw [gI_ne σ 11 _ hi])
theorem se_10_12 {ad : Nat → Nat} {cA : Nat → ClassId} {σ : gs} {c : Nat} {x : Int32} (h : kX c = 10) : (wX ad cA σ).set c (ad c, .inr (10, (fX11 ad (σ c) c).set 12 (.int x))) = wX ad cA (gI σ c 12 x) := by
  have e1 : (Sum.inr (10, (fX11 ad (σ c) c).set 12 (.int x)) : va_E) = eX ad cA ((gI σ c 12 x) c) c := by
    rw [ex_10 h]
    show _ = Sum.inr (10, fX11 ad ((va_up σ c (upd (σ c).1 12 x, (σ c).2)) c) c)
    rw [va_up_self]
    rfl
  rw [e1]
  exact wG_set (e := fun i => eX ad cA (σ i) i) (e' := fun i => eX ad cA ((gI σ c 12 x) i) i) (fun i hi => by show eX ad cA ((gI σ c 12 x) i) i = eX ad cA (σ i) i; rw [gI_ne σ 12 _ hi])
theorem se_10_13 {ad : Nat → Nat} {cA : Nat → ClassId} {σ : gs} {c : Nat} {x : Int32} (h : kX c = 10) : (wX ad cA σ).set c (ad c, .inr (10, (fX11 ad (σ c) c).set 13 (.int x))) = wX ad cA (gI σ c 13 x) := by
  have e1 : (Sum.inr (10, (fX11 ad (σ c) c).set 13 (.int x)) : va_E) = eX ad cA ((gI σ c 13 x) c) c := by
    rw [ex_10 h]
    show _ = Sum.inr (10, fX11 ad ((va_up σ c (upd (σ c).1 13 x, (σ c).2)) c) c)
    rw [va_up_self]
    rfl
  rw [e1]
  exact wG_set (e := fun i => eX ad cA (σ i) i) (e' := fun i => eX ad cA ((gI σ c 13 x) i) i) (fun i hi => by show eX ad cA ((gI σ c 13 x) i) i = eX ad cA (σ i) i; rw [gI_ne σ 13 _ hi])
theorem se_10_14 {ad : Nat → Nat} {cA : Nat → ClassId} {σ : gs} {c : Nat} {x : Int32} (h : kX c = 10) : (wX ad cA σ).set c (ad c, .inr (10, (fX11 ad (σ c) c).set 14 (.int x))) = wX ad cA (gI σ c 14 x) := by
  have e1 : (Sum.inr (10, (fX11 ad (σ c) c).set 14 (.int x)) : va_E) = eX ad cA ((gI σ c 14 x) c) c := by
    rw [ex_10 h]
    show _ = Sum.inr (10, fX11 ad ((va_up σ c (upd (σ c).1 14 x, (σ c).2)) c) c)
    rw [va_up_self]
    rfl
  rw [e1]
  exact wG_set (e := fun i => eX ad cA (σ i) i) (e' := fun i => eX ad cA ((gI σ c 14 x) i) i) (fun i hi => by show eX ad cA ((gI σ c 14 x) i) i = eX ad cA (σ i) i; rw [gI_ne σ 14 _ hi])
theorem ex_20 {ad : Nat → Nat} {cA : Nat → ClassId} {ρ : rw4} {c : Nat} (h : kX c = 20) : eX ad cA ρ c = .inl (cA c, 900, .inl ρ.1) := by unfold eX; rw [h] <;> rfl
theorem at_20 {ad : Nat → Nat} {cA : Nat → ClassId} {σ : gs} {c : Nat} (h : kX c = 20) : (wX ad cA σ)[c]? = some (ad c, .inl (cA c, 900, .inl (σ c).1)) := (wG_at (kX_lt h)).trans (by rw [ex_20 h])
theorem ty_20 {cA : Nat → ClassId} {c : Nat} (h : kX c = 20) : (tX cA)[c]? = some (cA c, .byte) := by
  unfold tX
  rw [List.getElem?_map, List.getElem?_range (kX_lt h)]
  show some (if kX c < 20 then cA 3 else cA c, tyX c) = _
  unfold tyX
  rw [h]
  rfl
theorem se_20 {ad : Nat → Nat} {cA : Nat → ClassId} {σ : gs} {c i : Nat} {x : Int32} (h : kX c = 20) : (wX ad cA σ).set c (ad c, .inl (cA c, 900, (.inl (upd (σ c).1 i x)))) = wX ad cA (gI σ c i x) := by
  have e1 : (Sum.inl (cA c, 900, (.inl (upd (σ c).1 i x))) : va_E) = eX ad cA ((gI σ c i x) c) c := by
    rw [ex_20 h]
    show _ = (Sum.inl (cA c, 900, .inl ((va_up σ c (upd (σ c).1 i x, (σ c).2)) c).1) : va_E)
    rw [va_up_self]
  rw [e1]
  exact wG_set (e := fun i => eX ad cA (σ i) i) (e' := fun i9 => eX ad cA ((gI σ c i x) i9) i9) (fun i9 hi => by show eX ad cA ((gI σ c i x) i9) i9 = eX ad cA (σ i9) i9; rw [gI_ne σ i _ hi])
theorem ex_21 {ad : Nat → Nat} {cA : Nat → ClassId} {ρ : rw4} {c : Nat} (h : kX c = 21) : eX ad cA ρ c = .inl (cA c, 64, .inl ρ.1) := by unfold eX; rw [h] <;> rfl
theorem at_21 {ad : Nat → Nat} {cA : Nat → ClassId} {σ : gs} {c : Nat} (h : kX c = 21) : (wX ad cA σ)[c]? = some (ad c, .inl (cA c, 64, .inl (σ c).1)) := (wG_at (kX_lt h)).trans (by rw [ex_21 h])
theorem ty_21 {cA : Nat → ClassId} {c : Nat} (h : kX c = 21) : (tX cA)[c]? = some (cA c, .char) := by
  unfold tX
  rw [List.getElem?_map, List.getElem?_range (kX_lt h)]
  show some (if kX c < 20 then cA 3 else cA c, tyX c) = _
  unfold tyX
  rw [h]
  rfl
theorem se_21 {ad : Nat → Nat} {cA : Nat → ClassId} {σ : gs} {c i : Nat} {x : Int32} (h : kX c = 21) : (wX ad cA σ).set c (ad c, .inl (cA c, 64, (.inl (upd (σ c).1 i x)))) = wX ad cA (gI σ c i x) := by
  have e1 : (Sum.inl (cA c, 64, (.inl (upd (σ c).1 i x))) : va_E) = eX ad cA ((gI σ c i x) c) c := by
    rw [ex_21 h]
    show _ = (Sum.inl (cA c, 64, .inl ((va_up σ c (upd (σ c).1 i x, (σ c).2)) c).1) : va_E)
    rw [va_up_self]
  rw [e1]
  exact wG_set (e := fun i => eX ad cA (σ i) i) (e' := fun i9 => eX ad cA ((gI σ c i x) i9) i9) (fun i9 hi => by show eX ad cA ((gI σ c i x) i9) i9 = eX ad cA (σ i9) i9; rw [gI_ne σ i _ hi])
theorem ex_22 {ad : Nat → Nat} {cA : Nat → ClassId} {ρ : rw4} {c : Nat} (h : kX c = 22) : eX ad cA ρ c = .inl (cA c, 4, .inl ρ.1) := by unfold eX; rw [h] <;> rfl
theorem at_22 {ad : Nat → Nat} {cA : Nat → ClassId} {σ : gs} {c : Nat} (h : kX c = 22) : (wX ad cA σ)[c]? = some (ad c, .inl (cA c, 4, .inl (σ c).1)) := (wG_at (kX_lt h)).trans (by rw [ex_22 h])
theorem ty_22 {cA : Nat → ClassId} {c : Nat} (h : kX c = 22) : (tX cA)[c]? = some (cA c, .int) := by
  unfold tX
  rw [List.getElem?_map, List.getElem?_range (kX_lt h)]
  show some (if kX c < 20 then cA 3 else cA c, tyX c) = _
  unfold tyX
  rw [h]
  rfl
theorem se_22 {ad : Nat → Nat} {cA : Nat → ClassId} {σ : gs} {c i : Nat} {x : Int32} (h : kX c = 22) : (wX ad cA σ).set c (ad c, .inl (cA c, 4, (.inl (upd (σ c).1 i x)))) = wX ad cA (gI σ c i x) := by
  have e1 : (Sum.inl (cA c, 4, (.inl (upd (σ c).1 i x))) : va_E) = eX ad cA ((gI σ c i x) c) c := by
    rw [ex_22 h]
    show _ = (Sum.inl (cA c, 4, .inl ((va_up σ c (upd (σ c).1 i x, (σ c).2)) c).1) : va_E)
    rw [va_up_self]
  rw [e1]
  exact wG_set (e := fun i => eX ad cA (σ i) i) (e' := fun i9 => eX ad cA ((gI σ c i x) i9) i9) (fun i9 hi => by show eX ad cA ((gI σ c i x) i9) i9 = eX ad cA (σ i9) i9; rw [gI_ne σ i _ hi])
theorem ex_23 {ad : Nat → Nat} {cA : Nat → ClassId} {ρ : rw4} {c : Nat} (h : kX c = 23) : eX ad cA ρ c = .inl (cA c, 4, .inr (.inr (.inr (.inr (fun b => if b < 4 then some (ad (c + 1 + b)) else none))))) := by unfold eX; rw [h] <;> rfl
theorem at_23 {ad : Nat → Nat} {cA : Nat → ClassId} {σ : gs} {c : Nat} (h : kX c = 23) : (wX ad cA σ)[c]? = some (ad c, .inl (cA c, 4, .inr (.inr (.inr (.inr (fun b => if b < 4 then some (ad (c + 1 + b)) else none)))))) := (wG_at (kX_lt h)).trans (by rw [ex_23 h])
theorem ty_23 {cA : Nat → ClassId} {c : Nat} (h : kX c = 23) : (tX cA)[c]? = some (cA c, .array .int) := by
  unfold tX
  rw [List.getElem?_map, List.getElem?_range (kX_lt h)]
  show some (if kX c < 20 then cA 3 else cA c, tyX c) = _
  unfold tyX
  rw [h]
  rfl
theorem ex_24 {ad : Nat → Nat} {cA : Nat → ClassId} {ρ : rw4} {c : Nat} (h : kX c = 24) : eX ad cA ρ c = .inl (cA c, 81, .inl ρ.1) := by unfold eX; rw [h] <;> rfl
theorem at_24 {ad : Nat → Nat} {cA : Nat → ClassId} {σ : gs} {c : Nat} (h : kX c = 24) : (wX ad cA σ)[c]? = some (ad c, .inl (cA c, 81, .inl (σ c).1)) := (wG_at (kX_lt h)).trans (by rw [ex_24 h])
theorem ty_24 {cA : Nat → ClassId} {c : Nat} (h : kX c = 24) : (tX cA)[c]? = some (cA c, .int) := by
  unfold tX
  rw [List.getElem?_map, List.getElem?_range (kX_lt h)]
  show some (if kX c < 20 then cA 3 else cA c, tyX c) = _
  unfold tyX
  rw [h]
  rfl
theorem se_24 {ad : Nat → Nat} {cA : Nat → ClassId} {σ : gs} {c i : Nat} {x : Int32} (h : kX c = 24) : (wX ad cA σ).set c (ad c, .inl (cA c, 81, (.inl (upd (σ c).1 i x)))) = wX ad cA (gI σ c i x) := by
  have e1 : (Sum.inl (cA c, 81, (.inl (upd (σ c).1 i x))) : va_E) = eX ad cA ((gI σ c i x) c) c := by
    rw [ex_24 h]
    show _ = (Sum.inl (cA c, 81, .inl ((va_up σ c (upd (σ c).1 i x, (σ c).2)) c).1) : va_E)
    rw [va_up_self]
  rw [e1]
  exact wG_set (e := fun i => eX ad cA (σ i) i) (e' := fun i9 => eX ad cA ((gI σ c i x) i9) i9) (fun i9 hi => by show eX ad cA ((gI σ c i x) i9) i9 = eX ad cA (σ i9) i9; rw [gI_ne σ i _ hi])
theorem ex_25 {ad : Nat → Nat} {cA : Nat → ClassId} {ρ : rw4} {c : Nat} (h : kX c = 25) : eX ad cA ρ c = .inl (cA c, 10, .inl ρ.1) := by unfold eX; rw [h] <;> rfl
theorem at_25 {ad : Nat → Nat} {cA : Nat → ClassId} {σ : gs} {c : Nat} (h : kX c = 25) : (wX ad cA σ)[c]? = some (ad c, .inl (cA c, 10, .inl (σ c).1)) := (wG_at (kX_lt h)).trans (by rw [ex_25 h])
theorem ty_25 {cA : Nat → ClassId} {c : Nat} (h : kX c = 25) : (tX cA)[c]? = some (cA c, .int) := by
  unfold tX
  rw [List.getElem?_map, List.getElem?_range (kX_lt h)]
  show some (if kX c < 20 then cA 3 else cA c, tyX c) = _
  unfold tyX
  rw [h]
  rfl
theorem se_25 {ad : Nat → Nat} {cA : Nat → ClassId} {σ : gs} {c i : Nat} {x : Int32} (h : kX c = 25) : (wX ad cA σ).set c (ad c, .inl (cA c, 10, (.inl (upd (σ c).1 i x)))) = wX ad cA (gI σ c i x) := by
  have e1 : (Sum.inl (cA c, 10, (.inl (upd (σ c).1 i x))) : va_E) = eX ad cA ((gI σ c i x) c) c := by
    rw [ex_25 h]
    show _ = (Sum.inl (cA c, 10, .inl ((va_up σ c (upd (σ c).1 i x, (σ c).2)) c).1) : va_E)
    rw [va_up_self]
  rw [e1]
  exact wG_set (e := fun i => eX ad cA (σ i) i) (e' := fun i9 => eX ad cA ((gI σ c i x) i9) i9) (fun i9 hi => by show eX ad cA ((gI σ c i x) i9) i9 = eX ad cA (σ i9) i9; rw [gI_ne σ i _ hi])
theorem ex_26 {ad : Nat → Nat} {cA : Nat → ClassId} {ρ : rw4} {c : Nat} (h : kX c = 26) : eX ad cA ρ c = .inl (cA c, 4, .inr (.inr (.inr (.inr (fun b => if b < 4 then some (ad (c + 1 + 7 * b)) else none))))) := by unfold eX; rw [h] <;> rfl
theorem at_26 {ad : Nat → Nat} {cA : Nat → ClassId} {σ : gs} {c : Nat} (h : kX c = 26) : (wX ad cA σ)[c]? = some (ad c, .inl (cA c, 4, .inr (.inr (.inr (.inr (fun b => if b < 4 then some (ad (c + 1 + 7 * b)) else none)))))) := (wG_at (kX_lt h)).trans (by rw [ex_26 h])
theorem ty_26 {cA : Nat → ClassId} {c : Nat} (h : kX c = 26) : (tX cA)[c]? = some (cA c, .object RX0) := by
  unfold tX
  rw [List.getElem?_map, List.getElem?_range (kX_lt h)]
  show some (if kX c < 20 then cA 3 else cA c, tyX c) = _
  unfold tyX
  rw [h]
  rfl
theorem ex_27 {ad : Nat → Nat} {cA : Nat → ClassId} {ρ : rw4} {c : Nat} (h : kX c = 27) : eX ad cA ρ c = .inl (cA c, 94, .inl ρ.1) := by unfold eX; rw [h] <;> rfl
theorem at_27 {ad : Nat → Nat} {cA : Nat → ClassId} {σ : gs} {c : Nat} (h : kX c = 27) : (wX ad cA σ)[c]? = some (ad c, .inl (cA c, 94, .inl (σ c).1)) := (wG_at (kX_lt h)).trans (by rw [ex_27 h])
theorem ty_27 {cA : Nat → ClassId} {c : Nat} (h : kX c = 27) : (tX cA)[c]? = some (cA c, .int) := by
  unfold tX
  rw [List.getElem?_map, List.getElem?_range (kX_lt h)]
  show some (if kX c < 20 then cA 3 else cA c, tyX c) = _
  unfold tyX
  rw [h]
  rfl
theorem se_27 {ad : Nat → Nat} {cA : Nat → ClassId} {σ : gs} {c i : Nat} {x : Int32} (h : kX c = 27) : (wX ad cA σ).set c (ad c, .inl (cA c, 94, (.inl (upd (σ c).1 i x)))) = wX ad cA (gI σ c i x) := by
  have e1 : (Sum.inl (cA c, 94, (.inl (upd (σ c).1 i x))) : va_E) = eX ad cA ((gI σ c i x) c) c := by
    rw [ex_27 h]
    show _ = (Sum.inl (cA c, 94, .inl ((va_up σ c (upd (σ c).1 i x, (σ c).2)) c).1) : va_E)
    rw [va_up_self]
  rw [e1]
  exact wG_set (e := fun i => eX ad cA (σ i) i) (e' := fun i9 => eX ad cA ((gI σ c i x) i9) i9) (fun i9 hi => by show eX ad cA ((gI σ c i x) i9) i9 = eX ad cA (σ i9) i9; rw [gI_ne σ i _ hi])
theorem ex_28 {ad : Nat → Nat} {cA : Nat → ClassId} {ρ : rw4} {c : Nat} (h : kX c = 28) : eX ad cA ρ c = .inl (cA c, 81, .inr (.inr (.inr (.inl ρ.2.2.1)))) := by unfold eX; rw [h] <;> rfl
theorem at_28 {ad : Nat → Nat} {cA : Nat → ClassId} {σ : gs} {c : Nat} (h : kX c = 28) : (wX ad cA σ)[c]? = some (ad c, .inl (cA c, 81, .inr (.inr (.inr (.inl (σ c).2.2.1))))) := (wG_at (kX_lt h)).trans (by rw [ex_28 h])
theorem ty_28 {cA : Nat → ClassId} {c : Nat} (h : kX c = 28) : (tX cA)[c]? = some (cA c, .double) := by
  unfold tX
  rw [List.getElem?_map, List.getElem?_range (kX_lt h)]
  show some (if kX c < 20 then cA 3 else cA c, tyX c) = _
  unfold tyX
  rw [h]
  rfl
theorem se_28 {ad : Nat → Nat} {cA : Nat → ClassId} {σ : gs} {c i : Nat} {x : UInt64} (h : kX c = 28) : (wX ad cA σ).set c (ad c, .inl (cA c, 81, (.inr (.inr (.inr (.inl (vf_upd (σ c).2.2.1 i x))))))) = wX ad cA (gD σ c i x) := by
  have e1 : (Sum.inl (cA c, 81, (.inr (.inr (.inr (.inl (vf_upd (σ c).2.2.1 i x)))))) : va_E) = eX ad cA ((gD σ c i x) c) c := by
    rw [ex_28 h]
    show _ = (Sum.inl (cA c, 81, .inr (.inr (.inr (.inl ((va_up σ c ((σ c).1, (σ c).2.1, vf_upd (σ c).2.2.1 i x, (σ c).2.2.2)) c).2.2.1)))) : va_E)
    rw [va_up_self]
  rw [e1]
  exact wG_set (e := fun i => eX ad cA (σ i) i) (e' := fun i9 => eX ad cA ((gD σ c i x) i9) i9) (fun i9 hi => by show eX ad cA ((gD σ c i x) i9) i9 = eX ad cA (σ i9) i9; rw [gD_ne σ i _ hi])
theorem ex_29 {ad : Nat → Nat} {cA : Nat → ClassId} {ρ : rw4} {c : Nat} (h : kX c = 29) : eX ad cA ρ c = .inl (cA c, 6, .inr (.inr (.inr (.inr (fun b => if b < 6 then some (ad (c + 1 + 4 * b)) else none))))) := by unfold eX; rw [h] <;> rfl
theorem at_29 {ad : Nat → Nat} {cA : Nat → ClassId} {σ : gs} {c : Nat} (h : kX c = 29) : (wX ad cA σ)[c]? = some (ad c, .inl (cA c, 6, .inr (.inr (.inr (.inr (fun b => if b < 6 then some (ad (c + 1 + 4 * b)) else none)))))) := (wG_at (kX_lt h)).trans (by rw [ex_29 h])
theorem ty_29 {cA : Nat → ClassId} {c : Nat} (h : kX c = 29) : (tX cA)[c]? = some (cA c, .object RX8) := by
  unfold tX
  rw [List.getElem?_map, List.getElem?_range (kX_lt h)]
  show some (if kX c < 20 then cA 3 else cA c, tyX c) = _
  unfold tyX
  rw [h]
  rfl
theorem ex_30 {ad : Nat → Nat} {cA : Nat → ClassId} {ρ : rw4} {c : Nat} (h : kX c = 30) : eX ad cA ρ c = .inl (cA c, 6, .inl ρ.1) := by unfold eX; rw [h] <;> rfl
theorem at_30 {ad : Nat → Nat} {cA : Nat → ClassId} {σ : gs} {c : Nat} (h : kX c = 30) : (wX ad cA σ)[c]? = some (ad c, .inl (cA c, 6, .inl (σ c).1)) := (wG_at (kX_lt h)).trans (by rw [ex_30 h])
theorem ty_30 {cA : Nat → ClassId} {c : Nat} (h : kX c = 30) : (tX cA)[c]? = some (cA c, .int) := by
  unfold tX
  rw [List.getElem?_map, List.getElem?_range (kX_lt h)]
  show some (if kX c < 20 then cA 3 else cA c, tyX c) = _
  unfold tyX
  rw [h]
  rfl
theorem se_30 {ad : Nat → Nat} {cA : Nat → ClassId} {σ : gs} {c i : Nat} {x : Int32} (h : kX c = 30) : (wX ad cA σ).set c (ad c, .inl (cA c, 6, (.inl (upd (σ c).1 i x)))) = wX ad cA (gI σ c i x) := by
  have e1 : (Sum.inl (cA c, 6, (.inl (upd (σ c).1 i x))) : va_E) = eX ad cA ((gI σ c i x) c) c := by
    rw [ex_30 h]
    show _ = (Sum.inl (cA c, 6, .inl ((va_up σ c (upd (σ c).1 i x, (σ c).2)) c).1) : va_E)
    rw [va_up_self]
  rw [e1]
  exact wG_set (e := fun i => eX ad cA (σ i) i) (e' := fun i9 => eX ad cA ((gI σ c i x) i9) i9) (fun i9 hi => by show eX ad cA ((gI σ c i x) i9) i9 = eX ad cA (σ i9) i9; rw [gI_ne σ i _ hi])
theorem kk_0_1 {c : Nat} (h : kX c = 0) : kX (c + 1) = 27 := by
  have hc := kX_lt h
  revert h
  revert hc
  revert c
  decide +kernel
theorem kk_0_2 {c : Nat} (h : kX c = 0) : kX (c + 2) = 24 := by
  have hc := kX_lt h
  revert h
  revert hc
  revert c
  decide +kernel
theorem kk_0_3 {c : Nat} (h : kX c = 0) : kX (c + 3) = 24 := by
  have hc := kX_lt h
  revert h
  revert hc
  revert c
  decide +kernel
theorem kk_0_4 {c : Nat} (h : kX c = 0) : kX (c + 4) = 24 := by
  have hc := kX_lt h
  revert h
  revert hc
  revert c
  decide +kernel
theorem kk_0_5 {c : Nat} (h : kX c = 0) : kX (c + 5) = 28 := by
  have hc := kX_lt h
  revert h
  revert hc
  revert c
  decide +kernel
theorem kk_0_6 {c : Nat} (h : kX c = 0) : kX (c + 6) = 28 := by
  have hc := kX_lt h
  revert h
  revert hc
  revert c
  decide +kernel
theorem kk_1_1 {c : Nat} (h : kX c = 1) : kX (c + 1) = 22 := by
  have hc := kX_lt h
  revert h
  revert hc
  revert c
  decide +kernel
theorem kk_1_2 {c : Nat} (h : kX c = 1) : kX (c + 2) = 23 := by
  have hc := kX_lt h
  revert h
  revert hc
  revert c
  decide +kernel
theorem kk_3_1 {c : Nat} (h : kX c = 3) : kX (c + 1) = 4 := by
  have hc := kX_lt h
  revert h
  revert hc
  revert c
  decide +kernel
theorem kk_3_3 {c : Nat} (h : kX c = 3) : kX (c + 3) = 26 := by
  have hc := kX_lt h
  revert h
  revert hc
  revert c
  decide +kernel
theorem kk_3_32 {c : Nat} (h : kX c = 3) : kX (c + 32) = 29 := by
  have hc := kX_lt h
  revert h
  revert hc
  revert c
  decide +kernel
theorem kk_3_57 {c : Nat} (h : kX c = 3) : kX (c + 57) = 30 := by
  have hc := kX_lt h
  revert h
  revert hc
  revert c
  decide +kernel
theorem kk_3_58 {c : Nat} (h : kX c = 3) : kX (c + 58) = 30 := by
  have hc := kX_lt h
  revert h
  revert hc
  revert c
  decide +kernel
theorem kk_3_59 {c : Nat} (h : kX c = 3) : kX (c + 59) = 30 := by
  have hc := kX_lt h
  revert h
  revert hc
  revert c
  decide +kernel
theorem kk_3_60 {c : Nat} (h : kX c = 3) : kX (c + 60) = 5 := by
  have hc := kX_lt h
  revert h
  revert hc
  revert c
  decide +kernel
theorem kk_4_1 {c : Nat} (h : kX c = 4) : kX (c + 1) = 25 := by
  have hc := kX_lt h
  revert h
  revert hc
  revert c
  decide +kernel
theorem kk_7_1 {c : Nat} (h : kX c = 7) : kX (c + 1) = 5 := by
  have hc := kX_lt h
  revert h
  revert hc
  revert c
  decide +kernel
theorem kk_7_2 {c : Nat} (h : kX c = 7) : kX (c + 2) = 5 := by
  have hc := kX_lt h
  revert h
  revert hc
  revert c
  decide +kernel
theorem kk_7_3 {c : Nat} (h : kX c = 7) : kX (c + 3) = 5 := by
  have hc := kX_lt h
  revert h
  revert hc
  revert c
  decide +kernel
theorem kr_23 {c b : Nat} (h : kX c = 23) (hb : b < 4) : kX (c + 1 + b) = 24 := by
  have hc := kX_lt h
  revert h
  revert hc
  revert c
  revert hb
  revert b
  decide +kernel
theorem va_rd_23 {ad : Nat → Nat} {c : Nat} {i : Int32} (h : vp_in i 4) : va_rf ((fun b => if b < 4 then some (ad (c + 1 + b)) else none) i.toNatClampNeg) = .ref (ad (c + 1 + i.toNatClampNeg)) := by
  have hlt : i.toNatClampNeg < 4 := Nat.not_le.mp fun q => h (Or.inr q)
  show va_rf (if i.toNatClampNeg < 4 then some (ad (c + 1 + i.toNatClampNeg)) else none) = _
  rw [if_pos hlt]
  rfl
theorem kr_26 {c b : Nat} (h : kX c = 26) (hb : b < 4) : kX (c + 1 + 7 * b) = 0 := by
  have hc := kX_lt h
  revert h
  revert hc
  revert c
  revert hb
  revert b
  decide +kernel
theorem va_rd_26 {ad : Nat → Nat} {c : Nat} {i : Int32} (h : vp_in i 4) : va_rf ((fun b => if b < 4 then some (ad (c + 1 + 7 * b)) else none) i.toNatClampNeg) = .ref (ad (c + 1 + 7 * i.toNatClampNeg)) := by
  have hlt : i.toNatClampNeg < 4 := Nat.not_le.mp fun q => h (Or.inr q)
  show va_rf (if i.toNatClampNeg < 4 then some (ad (c + 1 + 7 * i.toNatClampNeg)) else none) = _
  rw [if_pos hlt]
  rfl
theorem kr_29 {c b : Nat} (h : kX c = 29) (hb : b < 6) : kX (c + 1 + 4 * b) = 7 := by
  have hc := kX_lt h
  revert h
  revert hc
  revert c
  revert hb
  revert b
  decide +kernel
theorem va_rd_29 {ad : Nat → Nat} {c : Nat} {i : Int32} (h : vp_in i 6) : va_rf ((fun b => if b < 6 then some (ad (c + 1 + 4 * b)) else none) i.toNatClampNeg) = .ref (ad (c + 1 + 4 * i.toNatClampNeg)) := by
  have hlt : i.toNatClampNeg < 6 := Nat.not_le.mp fun q => h (Or.inr q)
  show va_rf (if i.toNatClampNeg < 6 then some (ad (c + 1 + 4 * i.toNatClampNeg)) else none) = _
  rw [if_pos hlt]
  rfl

