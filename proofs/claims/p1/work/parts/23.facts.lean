section ST
variable {args : Array Value} {s : State}
/-- what the Statement gives of the start, by its place -/
theorem st_g {w : Cond} (h : (Jvm.Cond.and given_1 narrow_1).before args s = true) (i : Nat) (e : (flatC (Jvm.Cond.and given_1 narrow_1))[i]? = some w) : w.before args s = true := flat_of_before _ h w (List.mem_of_getElem? e)
/-- a word of the tables, by its place -/
theorem st_t {w : Cond} (h : ∀ v ∈ lw_tbl, v.before args s = true) (i : Nat) (e : lw_tbl[i]? = some w) : w.before args s = true := h w (List.mem_of_getElem? e)
theorem st_q {own tx : String} {k : Nat} (h1 : (Cond.stringRef own k tx).before args s = true) (h2 : (Cond.exactly (.string own k) "java/lang/String").before args s = true) : ∃ a : Nat, vk_R own k tx a s := by
  obtain ⟨a, c, cell, k9, he, -⟩ := Cond.exactly_spec h2
  exact ⟨a, vk_R.of h1 he⟩
def st_W (own : String) (k : Nat) (bs : List Int32) (A : Nat → Prop) (s : State) (aK aV : Nat) : Prop :=
  va_O "java/lang/String" aK A s s.heap ∧ va_OF "java/lang/String" "coder" "B" (Value.int 0) aK A s s.heap ∧ va_OF "java/lang/String" "value" "[B" (Value.ref aV) aK A s s.heap ∧ va_T FieldType.byte aV bs.length (fun j => Value.int (bs.getD j 0)) A s s.heap
theorem st_w {own tx : String} {k : Nat} {bs : List Int32} {A : Nat → Prop} (hn : bs.length < 2 ^ 31) (hA : ∀ a : Nat, a < s.heap.size → ¬ A a) (hr : (Cond.stringRef own k tx).before args s = true)
    (h1 : (Cond.exactly (.string own k) "java/lang/String").before args s = true) (h2 : (Cond.eq ((Term.string own k).field "java/lang/String" "coder" "B") (.int 0)).before args s = true) (h3 : (Cond.arrayOf ((Term.string own k).field "java/lang/String" "value" "[B") .byte).before args s = true)
    (h4 : (Cond.eq ((Term.string own k).field "java/lang/String" "value" "[B").length (.int (Int32.ofNat bs.length))).before args s = true)
    (h5 : ∀ j, j < bs.length → (Cond.eq (((Term.string own k).field "java/lang/String" "value" "[B").elem (.int (Int32.ofNat j))) (.int (bs.getD j 0))).before args s = true) :
    ∃ aK aV : Nat, vk_R own k tx aK s ∧ st_W own k bs A s aK aV := by
  have z : ∀ i, i < 1 → i = 0 := fun i h => by omega
  obtain ⟨adK, adV, hS, he⟩ := vk_Sof (args := args) (s := s) (N := 1) (tm := fun _ => .string own k) (len := [bs.length]) (byt := [bs]) (A := A) (fun i h => by rw [z i h]; exact hn) (fun _ _ => h1) (fun _ _ => h2) (fun _ _ => h3) (fun i h => by rw [z i h]; exact h4) (fun i h j hj => by rw [z i h] at hj ⊢; exact h5 j hj) (fun i j h1 h2 h3 => absurd ((z i h1).trans (z j h2).symm) h3) hA
  exact ⟨adK 0, adV 0, vk_R.of hr (he 0 (by decide)), hS.1 0 (by decide)⟩
theorem st_uv {o n d : String} {v w : Value} {t : Nat} {A : Nat → Prop} {U : State} {H : Heap} (h1 : va_OF o n d v t A U H) (h2 : va_OF o n d w t A U H) : v = w := by
  obtain ⟨cf, k, i, f, cell, a1, a2, a3, a4, a5, -⟩ := h1
  obtain ⟨cf', k', i', f', cell', b1, b2, b3, b4, b5, -⟩ := h2
  cases Option.some.inj (a1.symm.trans b1)
  cases Option.some.inj (a3.symm.trans b3)
  exact Option.some.inj (a5.symm.trans b5)
theorem st_ut {ty : FieldType} {t N M : Nat} {f g : Nat → Value} {A : Nat → Prop} {U : State} {H : Heap} (hN : N < 2 ^ 31) (hM : M < 2 ^ 31) (h1 : va_T ty t N f A U H) (h2 : va_T ty t M g A U H) : N = M ∧ ∀ j, j < N → f j = g j := by
  obtain ⟨cell, a1, -, -, -, a5, a6, -⟩ := h1
  obtain ⟨cell', b1, -, -, -, b5, b6, -⟩ := h2
  cases Option.some.inj (a1.symm.trans b1)
  have e : Int32.ofNat N = Int32.ofNat M := a5.symm.trans b5
  have e2 : N = M := by
    have q1 := congrArg Int32.toInt e
    rw [Int32.toInt_ofNat_of_lt hN, Int32.toInt_ofNat_of_lt hM] at q1
    omega
  subst e2
  exact ⟨rfl, fun j hj => Option.some.inj ((a6 j hj).symm.trans (b6 j hj))⟩
theorem st_S {A : Nat → Prop} {k0 k1 k2 k3 v0 v1 v2 v3 : Nat} (h0 : st_W RX12 272 (sk_B.getD 0 []) A s k0 v0) (h1 : st_W RX12 277 (sk_B.getD 1 []) A s k1 v1) (h2 : st_W RX12 282 (sk_B.getD 2 []) A s k2 v2) (h3 : st_W RX12 287 (sk_B.getD 3 []) A s k3 v3) :
    vk_S 4 sk_L sk_B (fun i => [k0, k1, k2, k3].getD i 0) (fun i => [v0, v1, v2, v3].getD i 0) A s s.heap := by
  have hall : ∀ i : Nat, i < 4 → va_O "java/lang/String" ([k0, k1, k2, k3].getD i 0) A s s.heap ∧ va_OF "java/lang/String" "coder" "B" (Value.int 0) ([k0, k1, k2, k3].getD i 0) A s s.heap ∧ va_OF "java/lang/String" "value" "[B" (Value.ref ([v0, v1, v2, v3].getD i 0)) ([k0, k1, k2, k3].getD i 0) A s s.heap ∧ va_T FieldType.byte ([v0, v1, v2, v3].getD i 0) (sk_L.getD i 0) (fun j => Value.int ((sk_B.getD i []).getD j 0)) A s s.heap := by
    intro i hi
    rcases sk_i hi with rfl | rfl | rfl | rfl
    · exact h0
    · exact h1
    · exact h2
    · exact h3
  refine ⟨hall, fun i j hi hj e => ?_⟩
  obtain ⟨-, -, a3, a4⟩ := hall i hi
  obtain ⟨-, -, b3, b4⟩ := hall j hj
  have e' : [k0, k1, k2, k3].getD i 0 = [k0, k1, k2, k3].getD j 0 := e
  rw [e'] at a3
  have ev := st_uv a3 b3
  injection ev with ev
  rw [ev] at a4
  have l7 := sk_len hi
  have l8 := sk_len hj
  obtain ⟨u1, u2⟩ := st_ut (by omega) (by omega) a4 b4
  have u3 := u2 0
  clear hall a3 a4 b3 b4 e e' ev h0 h1 h2 h3 l7 l8 u2
  rcases sk_i hi with rfl | rfl | rfl | rfl <;> rcases sk_i hj with rfl | rfl | rfl | rfl <;> first | rfl | (exfalso; revert u1; decide) | (exfalso; have u4 := u3 (by decide); injection u4 with u4; revert u4; decide)
end ST
section ST2
variable {args : Array Value} {s : State}
set_option maxRecDepth 100000 in
theorem st_facts (hts : ∀ w ∈ lw_tbl, w.before args s = true) (hgv : (Jvm.Cond.and given_1 narrow_1).before args s = true) : ∃ (q7_62 q7_71 q7_73 q7_75 q11_386 : Nat) (adK adV : Nat → Nat), vk_R RX7 62 "desk" q7_62 s ∧ vk_R RX7 71 "holiday" q7_71 s ∧ vk_R RX7 73 "bond" q7_73 s ∧ vk_R RX7 75 "quote" q7_75 s ∧ vk_R RX12 272 "desk" (adK 0) s ∧ vk_R RX12 277 "holiday" (adK 1) s ∧ vk_R RX12 282 "bond" (adK 2) s ∧ vk_R RX12 287 "quote" (adK 3) s ∧ vk_R RX11 386 "no such holiday" q11_386 s ∧ sk_F adK adV 0 (fun q : Nat => s.heap.size ≤ q) s s.heap ∧ hx_Z (fun q : Nat => s.heap.size ≤ q) s s.heap := by
  have hA : ∀ a : Nat, a < s.heap.size → ¬ (fun q : Nat => s.heap.size ≤ q) a := fun a h => Nat.not_le.mpr h
  obtain ⟨r0, hr0⟩ := st_q (own := RX7) (k := 62) (tx := "desk") (st_t hts 576 rfl) (st_g hgv 23 rfl)
  obtain ⟨r1, hr1⟩ := st_q (own := RX7) (k := 71) (tx := "holiday") (st_t hts 665 rfl) (st_g hgv 47 rfl)
  obtain ⟨r2, hr2⟩ := st_q (own := RX7) (k := 73) (tx := "bond") (st_t hts 666 rfl) (st_g hgv 58 rfl)
  obtain ⟨r3, hr3⟩ := st_q (own := RX7) (k := 75) (tx := "quote") (st_t hts 667 rfl) (st_g hgv 66 rfl)
  obtain ⟨r4, hr4⟩ := st_q (own := RX11) (k := 386) (tx := "no such holiday") (st_t hts 1220 rfl) (st_g hgv 177 rfl)
  obtain ⟨k0, v0, a0, b0⟩ := st_w (own := RX12) (k := 272) (tx := "desk") (bs := sk_B.getD 0 []) (by decide) hA (st_t hts 1508 rfl) (st_g hgv 196 rfl) (st_g hgv 197 rfl) (st_g hgv 198 rfl) (st_g hgv 199 rfl) (fun j hj => by
    have hj : j < 4 := hj
    rcases (show j = 0 ∨ j = 1 ∨ j = 2 ∨ j = 3 by omega) with rfl | rfl | rfl | rfl
    · exact st_g hgv 200 rfl
    · exact st_g hgv 201 rfl
    · exact st_g hgv 202 rfl
    · exact st_g hgv 203 rfl)
  obtain ⟨k1, v1, a1, b1⟩ := st_w (own := RX12) (k := 277) (tx := "holiday") (bs := sk_B.getD 1 []) (by decide) hA (st_t hts 1554 rfl) (st_g hgv 223 rfl) (st_g hgv 224 rfl) (st_g hgv 225 rfl) (st_g hgv 226 rfl) (fun j hj => by
    have hj : j < 7 := hj
    rcases (show j = 0 ∨ j = 1 ∨ j = 2 ∨ j = 3 ∨ j = 4 ∨ j = 5 ∨ j = 6 by omega) with rfl | rfl | rfl | rfl | rfl | rfl | rfl
    · exact st_g hgv 227 rfl
    · exact st_g hgv 228 rfl
    · exact st_g hgv 229 rfl
    · exact st_g hgv 230 rfl
    · exact st_g hgv 231 rfl
    · exact st_g hgv 232 rfl
    · exact st_g hgv 233 rfl)
  obtain ⟨k2, v2, a2, b2⟩ := st_w (own := RX12) (k := 282) (tx := "bond") (bs := sk_B.getD 2 []) (by decide) hA (st_t hts 1569 rfl) (st_g hgv 235 rfl) (st_g hgv 236 rfl) (st_g hgv 237 rfl) (st_g hgv 238 rfl) (fun j hj => by
    have hj : j < 4 := hj
    rcases (show j = 0 ∨ j = 1 ∨ j = 2 ∨ j = 3 by omega) with rfl | rfl | rfl | rfl
    · exact st_g hgv 239 rfl
    · exact st_g hgv 240 rfl
    · exact st_g hgv 241 rfl
    · exact st_g hgv 242 rfl)
  obtain ⟨k3, v3, a3, b3⟩ := st_w (own := RX12) (k := 287) (tx := "quote") (bs := sk_B.getD 3 []) (by decide) hA (st_t hts 1616 rfl) (st_g hgv 358 rfl) (st_g hgv 359 rfl) (st_g hgv 360 rfl) (st_g hgv 361 rfl) (fun j hj => by
    have hj : j < 5 := hj
    rcases (show j = 0 ∨ j = 1 ∨ j = 2 ∨ j = 3 ∨ j = 4 by omega) with rfl | rfl | rfl | rfl | rfl
    · exact st_g hgv 362 rfl
    · exact st_g hgv 363 rfl
    · exact st_g hgv 364 rfl
    · exact st_g hgv 365 rfl
    · exact st_g hgv 366 rfl)
  have zc : va_Z "java/lang/String" "COMPACT_STRINGS" "Z" (.int 1) (fun q : Nat => s.heap.size ≤ q) s s.heap := va_Zof (args := args) (st_t hts 590 rfl) (st_t hts 115 rfl) (Cond.eq_int (a := .static "java/lang/String" "COMPACT_STRINGS" "Z") (b := .int 1) (st_g hgv 4 rfl) rfl) hA
  have zf := vx_Zqof (args := args) (C := "jdk/internal/util/Preconditions") (n := "SIOOBE_FORMATTER") (d := "Ljava/util/function/BiFunction;") (A := fun q : Nat => s.heap.size ≤ q) (st_t hts 606 rfl) (st_t hts 117 rfl) (st_g hgv 5 rfl) hA
  have zu := vx_Zqof (args := args) (C := Bundle.tN) (n := "UNASSIGNED_STACK") (d := Bundle.steD) (A := fun q : Nat => s.heap.size ≤ q) (st_t hts 1208 rfl) (st_t hts 122 rfl) (st_g hgv 9 rfl) hA
  have zs := vx_Zqof (args := args) (C := Bundle.tN) (n := "SUPPRESSED_SENTINEL") (d := Bundle.listD) (A := fun q : Nat => s.heap.size ≤ q) (st_t hts 1210 rfl) (st_t hts 122 rfl) (st_g hgv 10 rfl) hA
  exact ⟨r0, r1, r2, r3, r4, fun i => [k0, k1, k2, k3].getD i 0, fun i => [v0, v1, v2, v3].getD i 0, hr0, hr1, hr2, hr3, a0, a1, a2, a3, hr4, ⟨st_S b0 b1 b2 b3, zc, zf.1⟩, zu, zs⟩
end ST2

