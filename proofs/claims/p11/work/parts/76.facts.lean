section ST
variable {args : Array Value} {s : State}
/-- what the Statement gives of the start, by its place -/
theorem st_g {w : Cond} (h : (Jvm.Cond.and given_1 narrow_1).before args s = true) (i : Nat) (e : (flatC (Jvm.Cond.and given_1 narrow_1))[i]? = some w) : w.before args s = true := flat_of_before _ h w (List.mem_of_getElem? e)
/-- a word of the tables, by its place -/
theorem st_t {w : Cond} (h : ∀ v ∈ lw_tbl, v.before args s = true) (i : Nat) (e : lw_tbl[i]? = some w) : w.before args s = true := h w (List.mem_of_getElem? e)
theorem st_q {own tx : String} {k : Nat} (h1 : (Cond.stringRef own k tx).before args s = true) (h2 : (Cond.exactly (.string own k) "java/lang/String").before args s = true) : ∃ a : Nat, vk_R own k tx a s := by
  obtain ⟨a, c, cell, k9, he, -⟩ := Cond.exactly_spec h2
  exact ⟨a, vk_R.of h1 he⟩
def st_W (own : String) (k : Nat) (bs : List Int32) (A : Nat → Prop) (s : State) (aK aV : Nat) : Prop :=
  va_O "java/lang/String" aK A s s.heap ∧ va_OF "java/lang/String" "coder" "B" (Value.int 0) aK A s s.heap ∧ va_OF "java/lang/String" "value" "[B" (Value.ref aV) aK A s s.heap ∧ va_T FieldType.byte aV bs.length (fun j => Value.int (bs.getD j 0)) A s s.heap
theorem st_w {own tx : String} {k : Nat} {bs : List Int32} {A : Nat → Prop} (hn : bs.length < 2 ^ 31) (hA : ∀ a : Nat, a < s.heap.size → ¬ A a) (hr : (Cond.stringRef own k tx).before args s = true)
    (h1 : (Cond.exactly (.string own k) "java/lang/String").before args s = true) (h2 : (Cond.eq ((Term.string own k).field "java/lang/String" "coder" "B") (.int 0)).before args s = true) (h3 : (Cond.arrayOf ((Term.string own k).field "java/lang/String" "value" "[B") .byte).before args s = true)
    (h4 : (Cond.eq ((Term.string own k).field "java/lang/String" "value" "[B").length (.int (Int32.ofNat bs.length))).before args s = true)
    (h5 : ∀ j, j < bs.length → (Cond.eq (((Term.string own k).field "java/lang/String" "value" "[B").elem (.int (Int32.ofNat j))) (.int (bs.getD j 0))).before args s = true) :
    ∃ aK aV : Nat, vk_R own k tx aK s ∧ st_W own k bs A s aK aV := by
  have z : ∀ i, i < 1 → i = 0 := fun i h => by omega
  obtain ⟨adK, adV, hS, he⟩ := vk_Sof (args := args) (s := s) (N := 1) (tm := fun _ => .string own k) (len := [bs.length]) (byt := [bs]) (A := A) (fun i h => by rw [z i h]; exact hn) (fun _ _ => h1) (fun _ _ => h2) (fun _ _ => h3) (fun i h => by rw [z i h]; exact h4) (fun i h j hj => by rw [z i h] at hj ⊢; exact h5 j hj) (fun i j h1 h2 h3 => absurd ((z i h1).trans (z j h2).symm) h3) hA
  exact ⟨adK 0, adV 0, vk_R.of hr (he 0 (by decide)), hS.1 0 (by decide)⟩
end ST

section STA
variable {args : Array Value} {s : State}
theorem st_w2 {own tx : String} {k : Nat} {bs : List Int32} {A : Nat → Prop} (hn : bs.length < 2 ^ 31) (hA : ∀ a : Nat, a < s.heap.size → ¬ A a) (hr : (Cond.stringRef own k tx).before args s = true)
    (h1 : (Cond.exactly (.string own k) "java/lang/String").before args s = true) (h2 : (Cond.eq ((Term.string own k).field "java/lang/String" "coder" "B") (.int 0)).before args s = true) (h3 : (Cond.arrayOf ((Term.string own k).field "java/lang/String" "value" "[B") .byte).before args s = true)
    (h4 : (Cond.eq ((Term.string own k).field "java/lang/String" "value" "[B").length (.int (Int32.ofNat bs.length))).before args s = true)
    (h5 : ∀ j, j < bs.length → (Cond.eq (((Term.string own k).field "java/lang/String" "value" "[B").elem (.int (Int32.ofNat j))) (.int (bs.getD j 0))).before args s = true) :
    ∃ aK aV : Nat, vk_R own k tx aK s ∧ vk_S 1 [bs.length] [bs] (fun _ => aK) (fun _ => aV) A s s.heap := by
  have z : ∀ i, i < 1 → i = 0 := fun i h => by omega
  obtain ⟨adK, adV, hS, he⟩ := vk_Sof (args := args) (s := s) (N := 1) (tm := fun _ => .string own k) (len := [bs.length]) (byt := [bs]) (A := A) (fun i h => by rw [z i h]; exact hn) (fun _ _ => h1) (fun _ _ => h2) (fun _ _ => h3) (fun i h => by rw [z i h]; exact h4) (fun i h j hj => by rw [z i h] at hj ⊢; exact h5 j hj) (fun i j h1 h2 h3 => absurd ((z i h1).trans (z j h2).symm) h3) hA
  exact ⟨adK 0, adV 0, vk_R.of hr (he 0 (by decide)), fun i h => by rw [z i h]; exact hS.1 0 (by decide), fun i j h1 h2 _ => (z i h1).trans (z j h2).symm⟩
end STA
theorem lt_cons {P : Nat → Prop} {n : Nat} (h : ∀ c, c < n → P c) (hn : P n) : ∀ c, c < n + 1 → P c := fun c hc => by
  rcases Nat.lt_succ_iff_lt_or_eq.mp hc with h1 | h1
  · exact h c h1
  · rw [h1]; exact hn
theorem lt_nil {P : Nat → Prop} : ∀ c, c < 0 → P c := fun c h => absurd h (Nat.not_lt_zero _)
section STB
variable {args : Array Value} {s : State}
set_option maxRecDepth 100000 in
set_option maxHeartbeats 8000000 in
theorem st_facts (hts : ∀ w ∈ lw_tbl, w.before args s = true) (hgv : (Jvm.Cond.and given_1 narrow_1).before args s = true) : ∃ (adK adV : Nat → Nat) (sa : Nat), gT adK adV (fun q : Nat => s.heap.size ≤ q) s s.heap ∧ vk_R RX11 386 "no such holiday" sa s := by
  have hA : ∀ a : Nat, a < s.heap.size → ¬ (fun q : Nat => s.heap.size ≤ q) a := fun a h => Nat.not_le.mpr h
  obtain ⟨sa, hsa⟩ := st_q (own := RX11) (k := 386) (tx := "no such holiday") (st_t hts 1220 rfl) (st_g hgv 177 rfl)
  obtain ⟨k0, v0, a0, b0⟩ := st_w2 (args := args) (s := s) (own := RX12) (k := 272) (tx := "desk") (bs := sk_B.getD 0 []) (by decide) hA (st_t hts 1504 rfl) (st_g hgv 196 rfl) (st_g hgv 197 rfl) (st_g hgv 198 rfl) (st_g hgv 199 rfl) (fun j hj => by
    have hj : j < 4 := hj
    rcases (show j = 0 ∨ j = 1 ∨ j = 2 ∨ j = 3 by omega) with rfl | rfl | rfl | rfl
    · exact st_g hgv 200 rfl
    · exact st_g hgv 201 rfl
    · exact st_g hgv 202 rfl
    · exact st_g hgv 203 rfl)
  obtain ⟨k1, v1, a1, b1⟩ := st_w2 (args := args) (s := s) (own := RX12) (k := 277) (tx := "holiday") (bs := sk_B.getD 1 []) (by decide) hA (st_t hts 1550 rfl) (st_g hgv 223 rfl) (st_g hgv 224 rfl) (st_g hgv 225 rfl) (st_g hgv 226 rfl) (fun j hj => by
    have hj : j < 7 := hj
    rcases (show j = 0 ∨ j = 1 ∨ j = 2 ∨ j = 3 ∨ j = 4 ∨ j = 5 ∨ j = 6 by omega) with rfl | rfl | rfl | rfl | rfl | rfl | rfl
    · exact st_g hgv 227 rfl
    · exact st_g hgv 228 rfl
    · exact st_g hgv 229 rfl
    · exact st_g hgv 230 rfl
    · exact st_g hgv 231 rfl
    · exact st_g hgv 232 rfl
    · exact st_g hgv 233 rfl)
  obtain ⟨k2, v2, a2, b2⟩ := st_w2 (args := args) (s := s) (own := RX12) (k := 282) (tx := "bond") (bs := sk_B.getD 2 []) (by decide) hA (st_t hts 1565 rfl) (st_g hgv 235 rfl) (st_g hgv 236 rfl) (st_g hgv 237 rfl) (st_g hgv 238 rfl) (fun j hj => by
    have hj : j < 4 := hj
    rcases (show j = 0 ∨ j = 1 ∨ j = 2 ∨ j = 3 by omega) with rfl | rfl | rfl | rfl
    · exact st_g hgv 239 rfl
    · exact st_g hgv 240 rfl
    · exact st_g hgv 241 rfl
    · exact st_g hgv 242 rfl)
  obtain ⟨k3, v3, a3, b3⟩ := st_w2 (args := args) (s := s) (own := RX12) (k := 287) (tx := "quote") (bs := sk_B.getD 3 []) (by decide) hA (st_t hts 1612 rfl) (st_g hgv 358 rfl) (st_g hgv 359 rfl) (st_g hgv 360 rfl) (st_g hgv 361 rfl) (fun j hj => by
    have hj : j < 5 := hj
    rcases (show j = 0 ∨ j = 1 ∨ j = 2 ∨ j = 3 ∨ j = 4 by omega) with rfl | rfl | rfl | rfl | rfl
    · exact st_g hgv 362 rfl
    · exact st_g hgv 363 rfl
    · exact st_g hgv 364 rfl
    · exact st_g hgv 365 rfl
    · exact st_g hgv 366 rfl)
  obtain ⟨k4, v4, a4, b4⟩ := st_w2 (args := args) (s := s) (own := RX12) (k := 292) (tx := "from") (bs := sk_B.getD 4 []) (by decide) hA (st_t hts 1519 rfl) (st_g hgv 205 rfl) (st_g hgv 206 rfl) (st_g hgv 207 rfl) (st_g hgv 208 rfl) (fun j hj => by
    have hj : j < 4 := hj
    rcases (show j = 0 ∨ j = 1 ∨ j = 2 ∨ j = 3 by omega) with rfl | rfl | rfl | rfl
    · exact st_g hgv 209 rfl
    · exact st_g hgv 210 rfl
    · exact st_g hgv 211 rfl
    · exact st_g hgv 212 rfl)
  obtain ⟨k5, v5, a5, b5⟩ := st_w2 (args := args) (s := s) (own := RX12) (k := 298) (tx := "cash") (bs := sk_B.getD 5 []) (by decide) hA (st_t hts 1540 rfl) (st_g hgv 214 rfl) (st_g hgv 215 rfl) (st_g hgv 216 rfl) (st_g hgv 217 rfl) (fun j hj => by
    have hj : j < 4 := hj
    rcases (show j = 0 ∨ j = 1 ∨ j = 2 ∨ j = 3 by omega) with rfl | rfl | rfl | rfl
    · exact st_g hgv 218 rfl
    · exact st_g hgv 219 rfl
    · exact st_g hgv 220 rfl
    · exact st_g hgv 221 rfl)
  obtain ⟨k6, v6, a6, b6⟩ := st_w2 (args := args) (s := s) (own := RX12) (k := 314) (tx := "thirty") (bs := sk_B.getD 6 []) (by decide) hA (st_t hts 1575 rfl) (st_g hgv 252 rfl) (st_g hgv 253 rfl) (st_g hgv 254 rfl) (st_g hgv 255 rfl) (fun j hj => by
    have hj : j < 6 := hj
    rcases (show j = 0 ∨ j = 1 ∨ j = 2 ∨ j = 3 ∨ j = 4 ∨ j = 5 by omega) with rfl | rfl | rfl | rfl | rfl | rfl
    · exact st_g hgv 256 rfl
    · exact st_g hgv 257 rfl
    · exact st_g hgv 258 rfl
    · exact st_g hgv 259 rfl
    · exact st_g hgv 260 rfl
    · exact st_g hgv 261 rfl)
  obtain ⟨k7, v7, a7, b7⟩ := st_w2 (args := args) (s := s) (own := RX12) (k := 316) (tx := "euro") (bs := sk_B.getD 7 []) (by decide) hA (st_t hts 1576 rfl) (st_g hgv 263 rfl) (st_g hgv 264 rfl) (st_g hgv 265 rfl) (st_g hgv 266 rfl) (fun j hj => by
    have hj : j < 4 := hj
    rcases (show j = 0 ∨ j = 1 ∨ j = 2 ∨ j = 3 by omega) with rfl | rfl | rfl | rfl
    · exact st_g hgv 267 rfl
    · exact st_g hgv 268 rfl
    · exact st_g hgv 269 rfl
    · exact st_g hgv 270 rfl)
  obtain ⟨k8, v8, a8, b8⟩ := st_w2 (args := args) (s := s) (own := RX12) (k := 318) (tx := "money") (bs := sk_B.getD 8 []) (by decide) hA (st_t hts 1577 rfl) (st_g hgv 272 rfl) (st_g hgv 273 rfl) (st_g hgv 274 rfl) (st_g hgv 275 rfl) (fun j hj => by
    have hj : j < 5 := hj
    rcases (show j = 0 ∨ j = 1 ∨ j = 2 ∨ j = 3 ∨ j = 4 by omega) with rfl | rfl | rfl | rfl | rfl
    · exact st_g hgv 276 rfl
    · exact st_g hgv 277 rfl
    · exact st_g hgv 278 rfl
    · exact st_g hgv 279 rfl
    · exact st_g hgv 280 rfl)
  obtain ⟨k9, v9, a9, b9⟩ := st_w2 (args := args) (s := s) (own := RX12) (k := 320) (tx := "fixed") (bs := sk_B.getD 9 []) (by decide) hA (st_t hts 1578 rfl) (st_g hgv 282 rfl) (st_g hgv 283 rfl) (st_g hgv 284 rfl) (st_g hgv 285 rfl) (fun j hj => by
    have hj : j < 5 := hj
    rcases (show j = 0 ∨ j = 1 ∨ j = 2 ∨ j = 3 ∨ j = 4 by omega) with rfl | rfl | rfl | rfl | rfl
    · exact st_g hgv 286 rfl
    · exact st_g hgv 287 rfl
    · exact st_g hgv 288 rfl
    · exact st_g hgv 289 rfl
    · exact st_g hgv 290 rfl)
  obtain ⟨k10, v10, a10, b10⟩ := st_w2 (args := args) (s := s) (own := RX12) (k := 322) (tx := "actual") (bs := sk_B.getD 10 []) (by decide) hA (st_t hts 1579 rfl) (st_g hgv 292 rfl) (st_g hgv 293 rfl) (st_g hgv 294 rfl) (st_g hgv 295 rfl) (fun j hj => by
    have hj : j < 6 := hj
    rcases (show j = 0 ∨ j = 1 ∨ j = 2 ∨ j = 3 ∨ j = 4 ∨ j = 5 by omega) with rfl | rfl | rfl | rfl | rfl | rfl
    · exact st_g hgv 296 rfl
    · exact st_g hgv 297 rfl
    · exact st_g hgv 298 rfl
    · exact st_g hgv 299 rfl
    · exact st_g hgv 300 rfl
    · exact st_g hgv 301 rfl)
  obtain ⟨k11, v11, a11, b11⟩ := st_w2 (args := args) (s := s) (own := RX12) (k := 324) (tx := "per") (bs := sk_B.getD 11 []) (by decide) hA (st_t hts 1570 rfl) (st_g hgv 244 rfl) (st_g hgv 245 rfl) (st_g hgv 246 rfl) (st_g hgv 247 rfl) (fun j hj => by
    have hj : j < 3 := hj
    rcases (show j = 0 ∨ j = 1 ∨ j = 2 by omega) with rfl | rfl | rfl
    · exact st_g hgv 248 rfl
    · exact st_g hgv 249 rfl
    · exact st_g hgv 250 rfl)
  obtain ⟨k12, v12, a12, b12⟩ := st_w2 (args := args) (s := s) (own := RX12) (k := 329) (tx := "eom") (bs := sk_B.getD 12 []) (by decide) hA (st_t hts 1580 rfl) (st_g hgv 303 rfl) (st_g hgv 304 rfl) (st_g hgv 305 rfl) (st_g hgv 306 rfl) (fun j hj => by
    have hj : j < 3 := hj
    rcases (show j = 0 ∨ j = 1 ∨ j = 2 by omega) with rfl | rfl | rfl
    · exact st_g hgv 307 rfl
    · exact st_g hgv 308 rfl
    · exact st_g hgv 309 rfl)
  obtain ⟨k13, v13, a13, b13⟩ := st_w2 (args := args) (s := s) (own := RX12) (k := 339) (tx := "ex") (bs := sk_B.getD 13 []) (by decide) hA (st_t hts 1611 rfl) (st_g hgv 351 rfl) (st_g hgv 352 rfl) (st_g hgv 353 rfl) (st_g hgv 354 rfl) (fun j hj => by
    have hj : j < 2 := hj
    rcases (show j = 0 ∨ j = 1 by omega) with rfl | rfl
    · exact st_g hgv 355 rfl
    · exact st_g hgv 356 rfl)
  obtain ⟨k14, v14, a14, b14⟩ := st_w2 (args := args) (s := s) (own := RX12) (k := 340) (tx := "mature") (bs := sk_B.getD 14 []) (by decide) hA (st_t hts 1585 rfl) (st_g hgv 311 rfl) (st_g hgv 312 rfl) (st_g hgv 313 rfl) (st_g hgv 314 rfl) (fun j hj => by
    have hj : j < 6 := hj
    rcases (show j = 0 ∨ j = 1 ∨ j = 2 ∨ j = 3 ∨ j = 4 ∨ j = 5 by omega) with rfl | rfl | rfl | rfl | rfl | rfl
    · exact st_g hgv 315 rfl
    · exact st_g hgv 316 rfl
    · exact st_g hgv 317 rfl
    · exact st_g hgv 318 rfl
    · exact st_g hgv 319 rfl
    · exact st_g hgv 320 rfl)
  obtain ⟨k15, v15, a15, b15⟩ := st_w2 (args := args) (s := s) (own := RX12) (k := 341) (tx := "last") (bs := sk_B.getD 15 []) (by decide) hA (st_t hts 1586 rfl) (st_g hgv 322 rfl) (st_g hgv 323 rfl) (st_g hgv 324 rfl) (st_g hgv 325 rfl) (fun j hj => by
    have hj : j < 4 := hj
    rcases (show j = 0 ∨ j = 1 ∨ j = 2 ∨ j = 3 by omega) with rfl | rfl | rfl | rfl
    · exact st_g hgv 326 rfl
    · exact st_g hgv 327 rfl
    · exact st_g hgv 328 rfl
    · exact st_g hgv 329 rfl)
  obtain ⟨k16, v16, a16, b16⟩ := st_w2 (args := args) (s := s) (own := RX12) (k := 343) (tx := "issue") (bs := sk_B.getD 16 []) (by decide) hA (st_t hts 1601 rfl) (st_g hgv 331 rfl) (st_g hgv 332 rfl) (st_g hgv 333 rfl) (st_g hgv 334 rfl) (fun j hj => by
    have hj : j < 5 := hj
    rcases (show j = 0 ∨ j = 1 ∨ j = 2 ∨ j = 3 ∨ j = 4 by omega) with rfl | rfl | rfl | rfl | rfl
    · exact st_g hgv 335 rfl
    · exact st_g hgv 336 rfl
    · exact st_g hgv 337 rfl
    · exact st_g hgv 338 rfl
    · exact st_g hgv 339 rfl)
  obtain ⟨k17, v17, a17, b17⟩ := st_w2 (args := args) (s := s) (own := RX12) (k := 344) (tx := "first") (bs := sk_B.getD 17 []) (by decide) hA (st_t hts 1606 rfl) (st_g hgv 341 rfl) (st_g hgv 342 rfl) (st_g hgv 343 rfl) (st_g hgv 344 rfl) (fun j hj => by
    have hj : j < 5 := hj
    rcases (show j = 0 ∨ j = 1 ∨ j = 2 ∨ j = 3 ∨ j = 4 by omega) with rfl | rfl | rfl | rfl | rfl
    · exact st_g hgv 345 rfl
    · exact st_g hgv 346 rfl
    · exact st_g hgv 347 rfl
    · exact st_g hgv 348 rfl
    · exact st_g hgv 349 rfl)
  obtain ⟨k18, v18, a18, b18⟩ := st_w2 (args := args) (s := s) (own := RX7) (k := 62) (tx := "desk") (bs := sk_B.getD 18 []) (by decide) hA (st_t hts 576 rfl) (st_g hgv 23 rfl) (st_g hgv 24 rfl) (st_g hgv 25 rfl) (st_g hgv 26 rfl) (fun j hj => by
    have hj : j < 4 := hj
    rcases (show j = 0 ∨ j = 1 ∨ j = 2 ∨ j = 3 by omega) with rfl | rfl | rfl | rfl
    · exact st_g hgv 27 rfl
    · exact st_g hgv 28 rfl
    · exact st_g hgv 29 rfl
    · exact st_g hgv 30 rfl)
  obtain ⟨k19, v19, a19, b19⟩ := st_w2 (args := args) (s := s) (own := RX7) (k := 71) (tx := "holiday") (bs := sk_B.getD 19 []) (by decide) hA (st_t hts 665 rfl) (st_g hgv 47 rfl) (st_g hgv 48 rfl) (st_g hgv 49 rfl) (st_g hgv 50 rfl) (fun j hj => by
    have hj : j < 7 := hj
    rcases (show j = 0 ∨ j = 1 ∨ j = 2 ∨ j = 3 ∨ j = 4 ∨ j = 5 ∨ j = 6 by omega) with rfl | rfl | rfl | rfl | rfl | rfl | rfl
    · exact st_g hgv 51 rfl
    · exact st_g hgv 52 rfl
    · exact st_g hgv 53 rfl
    · exact st_g hgv 54 rfl
    · exact st_g hgv 55 rfl
    · exact st_g hgv 56 rfl
    · exact st_g hgv 57 rfl)
  obtain ⟨k20, v20, a20, b20⟩ := st_w2 (args := args) (s := s) (own := RX7) (k := 73) (tx := "bond") (bs := sk_B.getD 20 []) (by decide) hA (st_t hts 666 rfl) (st_g hgv 58 rfl) (st_g hgv 59 rfl) (st_g hgv 60 rfl) (st_g hgv 61 rfl) (fun j hj => by
    have hj : j < 4 := hj
    rcases (show j = 0 ∨ j = 1 ∨ j = 2 ∨ j = 3 by omega) with rfl | rfl | rfl | rfl
    · exact st_g hgv 62 rfl
    · exact st_g hgv 63 rfl
    · exact st_g hgv 64 rfl
    · exact st_g hgv 65 rfl)
  obtain ⟨k21, v21, a21, b21⟩ := st_w2 (args := args) (s := s) (own := RX7) (k := 75) (tx := "quote") (bs := sk_B.getD 21 []) (by decide) hA (st_t hts 667 rfl) (st_g hgv 66 rfl) (st_g hgv 67 rfl) (st_g hgv 68 rfl) (st_g hgv 69 rfl) (fun j hj => by
    have hj : j < 5 := hj
    rcases (show j = 0 ∨ j = 1 ∨ j = 2 ∨ j = 3 ∨ j = 4 by omega) with rfl | rfl | rfl | rfl | rfl
    · exact st_g hgv 70 rfl
    · exact st_g hgv 71 rfl
    · exact st_g hgv 72 rfl
    · exact st_g hgv 73 rfl
    · exact st_g hgv 74 rfl)
  obtain ⟨k22, v22, a22, b22⟩ := st_w2 (args := args) (s := s) (own := RX7) (k := 86) (tx := "from") (bs := sk_B.getD 22 []) (by decide) hA (st_t hts 638 rfl) (st_g hgv 31 rfl) (st_g hgv 32 rfl) (st_g hgv 33 rfl) (st_g hgv 34 rfl) (fun j hj => by
    have hj : j < 4 := hj
    rcases (show j = 0 ∨ j = 1 ∨ j = 2 ∨ j = 3 by omega) with rfl | rfl | rfl | rfl
    · exact st_g hgv 35 rfl
    · exact st_g hgv 36 rfl
    · exact st_g hgv 37 rfl
    · exact st_g hgv 38 rfl)
  obtain ⟨k23, v23, a23, b23⟩ := st_w2 (args := args) (s := s) (own := RX7) (k := 98) (tx := "cash") (bs := sk_B.getD 23 []) (by decide) hA (st_t hts 664 rfl) (st_g hgv 39 rfl) (st_g hgv 40 rfl) (st_g hgv 41 rfl) (st_g hgv 42 rfl) (fun j hj => by
    have hj : j < 4 := hj
    rcases (show j = 0 ∨ j = 1 ∨ j = 2 ∨ j = 3 by omega) with rfl | rfl | rfl | rfl
    · exact st_g hgv 43 rfl
    · exact st_g hgv 44 rfl
    · exact st_g hgv 45 rfl
    · exact st_g hgv 46 rfl)
  obtain ⟨k24, v24, a24, b24⟩ := st_w2 (args := args) (s := s) (own := RX7) (k := 152) (tx := "per") (bs := sk_B.getD 24 []) (by decide) hA (st_t hts 688 rfl) (st_g hgv 75 rfl) (st_g hgv 76 rfl) (st_g hgv 77 rfl) (st_g hgv 78 rfl) (fun j hj => by
    have hj : j < 3 := hj
    rcases (show j = 0 ∨ j = 1 ∨ j = 2 by omega) with rfl | rfl | rfl
    · exact st_g hgv 79 rfl
    · exact st_g hgv 80 rfl
    · exact st_g hgv 81 rfl)
  obtain ⟨k25, v25, a25, b25⟩ := st_w2 (args := args) (s := s) (own := RX7) (k := 163) (tx := "eom") (bs := sk_B.getD 25 []) (by decide) hA (st_t hts 698 rfl) (st_g hgv 128 rfl) (st_g hgv 129 rfl) (st_g hgv 130 rfl) (st_g hgv 131 rfl) (fun j hj => by
    have hj : j < 3 := hj
    rcases (show j = 0 ∨ j = 1 ∨ j = 2 by omega) with rfl | rfl | rfl
    · exact st_g hgv 132 rfl
    · exact st_g hgv 133 rfl
    · exact st_g hgv 134 rfl)
  obtain ⟨k26, v26, a26, b26⟩ := st_w2 (args := args) (s := s) (own := RX7) (k := 168) (tx := "thirty") (bs := sk_B.getD 26 []) (by decide) hA (st_t hts 693 rfl) (st_g hgv 82 rfl) (st_g hgv 83 rfl) (st_g hgv 84 rfl) (st_g hgv 85 rfl) (fun j hj => by
    have hj : j < 6 := hj
    rcases (show j = 0 ∨ j = 1 ∨ j = 2 ∨ j = 3 ∨ j = 4 ∨ j = 5 by omega) with rfl | rfl | rfl | rfl | rfl | rfl
    · exact st_g hgv 86 rfl
    · exact st_g hgv 87 rfl
    · exact st_g hgv 88 rfl
    · exact st_g hgv 89 rfl
    · exact st_g hgv 90 rfl
    · exact st_g hgv 91 rfl)
  obtain ⟨k27, v27, a27, b27⟩ := st_w2 (args := args) (s := s) (own := RX7) (k := 170) (tx := "euro") (bs := sk_B.getD 27 []) (by decide) hA (st_t hts 694 rfl) (st_g hgv 92 rfl) (st_g hgv 93 rfl) (st_g hgv 94 rfl) (st_g hgv 95 rfl) (fun j hj => by
    have hj : j < 4 := hj
    rcases (show j = 0 ∨ j = 1 ∨ j = 2 ∨ j = 3 by omega) with rfl | rfl | rfl | rfl
    · exact st_g hgv 96 rfl
    · exact st_g hgv 97 rfl
    · exact st_g hgv 98 rfl
    · exact st_g hgv 99 rfl)
  obtain ⟨k28, v28, a28, b28⟩ := st_w2 (args := args) (s := s) (own := RX7) (k := 172) (tx := "money") (bs := sk_B.getD 28 []) (by decide) hA (st_t hts 695 rfl) (st_g hgv 100 rfl) (st_g hgv 101 rfl) (st_g hgv 102 rfl) (st_g hgv 103 rfl) (fun j hj => by
    have hj : j < 5 := hj
    rcases (show j = 0 ∨ j = 1 ∨ j = 2 ∨ j = 3 ∨ j = 4 by omega) with rfl | rfl | rfl | rfl | rfl
    · exact st_g hgv 104 rfl
    · exact st_g hgv 105 rfl
    · exact st_g hgv 106 rfl
    · exact st_g hgv 107 rfl
    · exact st_g hgv 108 rfl)
  obtain ⟨k29, v29, a29, b29⟩ := st_w2 (args := args) (s := s) (own := RX7) (k := 174) (tx := "fixed") (bs := sk_B.getD 29 []) (by decide) hA (st_t hts 696 rfl) (st_g hgv 109 rfl) (st_g hgv 110 rfl) (st_g hgv 111 rfl) (st_g hgv 112 rfl) (fun j hj => by
    have hj : j < 5 := hj
    rcases (show j = 0 ∨ j = 1 ∨ j = 2 ∨ j = 3 ∨ j = 4 by omega) with rfl | rfl | rfl | rfl | rfl
    · exact st_g hgv 113 rfl
    · exact st_g hgv 114 rfl
    · exact st_g hgv 115 rfl
    · exact st_g hgv 116 rfl
    · exact st_g hgv 117 rfl)
  obtain ⟨k30, v30, a30, b30⟩ := st_w2 (args := args) (s := s) (own := RX7) (k := 176) (tx := "actual") (bs := sk_B.getD 30 []) (by decide) hA (st_t hts 697 rfl) (st_g hgv 118 rfl) (st_g hgv 119 rfl) (st_g hgv 120 rfl) (st_g hgv 121 rfl) (fun j hj => by
    have hj : j < 6 := hj
    rcases (show j = 0 ∨ j = 1 ∨ j = 2 ∨ j = 3 ∨ j = 4 ∨ j = 5 by omega) with rfl | rfl | rfl | rfl | rfl | rfl
    · exact st_g hgv 122 rfl
    · exact st_g hgv 123 rfl
    · exact st_g hgv 124 rfl
    · exact st_g hgv 125 rfl
    · exact st_g hgv 126 rfl
    · exact st_g hgv 127 rfl)
  obtain ⟨k31, v31, a31, b31⟩ := st_w2 (args := args) (s := s) (own := RX7) (k := 178) (tx := "mature") (bs := sk_B.getD 31 []) (by decide) hA (st_t hts 703 rfl) (st_g hgv 135 rfl) (st_g hgv 136 rfl) (st_g hgv 137 rfl) (st_g hgv 138 rfl) (fun j hj => by
    have hj : j < 6 := hj
    rcases (show j = 0 ∨ j = 1 ∨ j = 2 ∨ j = 3 ∨ j = 4 ∨ j = 5 by omega) with rfl | rfl | rfl | rfl | rfl | rfl
    · exact st_g hgv 139 rfl
    · exact st_g hgv 140 rfl
    · exact st_g hgv 141 rfl
    · exact st_g hgv 142 rfl
    · exact st_g hgv 143 rfl
    · exact st_g hgv 144 rfl)
  obtain ⟨k32, v32, a32, b32⟩ := st_w2 (args := args) (s := s) (own := RX7) (k := 186) (tx := "last") (bs := sk_B.getD 32 []) (by decide) hA (st_t hts 704 rfl) (st_g hgv 145 rfl) (st_g hgv 146 rfl) (st_g hgv 147 rfl) (st_g hgv 148 rfl) (fun j hj => by
    have hj : j < 4 := hj
    rcases (show j = 0 ∨ j = 1 ∨ j = 2 ∨ j = 3 by omega) with rfl | rfl | rfl | rfl
    · exact st_g hgv 149 rfl
    · exact st_g hgv 150 rfl
    · exact st_g hgv 151 rfl
    · exact st_g hgv 152 rfl)
  obtain ⟨k33, v33, a33, b33⟩ := st_w2 (args := args) (s := s) (own := RX7) (k := 204) (tx := "issue") (bs := sk_B.getD 33 []) (by decide) hA (st_t hts 722 rfl) (st_g hgv 153 rfl) (st_g hgv 154 rfl) (st_g hgv 155 rfl) (st_g hgv 156 rfl) (fun j hj => by
    have hj : j < 5 := hj
    rcases (show j = 0 ∨ j = 1 ∨ j = 2 ∨ j = 3 ∨ j = 4 by omega) with rfl | rfl | rfl | rfl | rfl
    · exact st_g hgv 157 rfl
    · exact st_g hgv 158 rfl
    · exact st_g hgv 159 rfl
    · exact st_g hgv 160 rfl
    · exact st_g hgv 161 rfl)
  obtain ⟨k34, v34, a34, b34⟩ := st_w2 (args := args) (s := s) (own := RX7) (k := 218) (tx := "first") (bs := sk_B.getD 34 []) (by decide) hA (st_t hts 739 rfl) (st_g hgv 162 rfl) (st_g hgv 163 rfl) (st_g hgv 164 rfl) (st_g hgv 165 rfl) (fun j hj => by
    have hj : j < 5 := hj
    rcases (show j = 0 ∨ j = 1 ∨ j = 2 ∨ j = 3 ∨ j = 4 by omega) with rfl | rfl | rfl | rfl | rfl
    · exact st_g hgv 166 rfl
    · exact st_g hgv 167 rfl
    · exact st_g hgv 168 rfl
    · exact st_g hgv 169 rfl
    · exact st_g hgv 170 rfl)
  obtain ⟨k35, v35, a35, b35⟩ := st_w2 (args := args) (s := s) (own := RX7) (k := 230) (tx := "ex") (bs := sk_B.getD 35 []) (by decide) hA (st_t hts 748 rfl) (st_g hgv 171 rfl) (st_g hgv 172 rfl) (st_g hgv 173 rfl) (st_g hgv 174 rfl) (fun j hj => by
    have hj : j < 2 := hj
    rcases (show j = 0 ∨ j = 1 by omega) with rfl | rfl
    · exact st_g hgv 175 rfl
    · exact st_g hgv 176 rfl)
  have zc : va_Z "java/lang/String" "COMPACT_STRINGS" "Z" (.int 1) (fun q : Nat => s.heap.size ≤ q) s s.heap := va_Zof (args := args) (st_t hts 590 rfl) (st_t hts 115 rfl) (Cond.eq_int (a := .static "java/lang/String" "COMPACT_STRINGS" "Z") (b := .int 1) (st_g hgv 4 rfl) rfl) hA
  have zf := vx_Zqof (args := args) (C := "jdk/internal/util/Preconditions") (n := "SIOOBE_FORMATTER") (d := "Ljava/util/function/BiFunction;") (A := (fun q : Nat => s.heap.size ≤ q)) (st_t hts 606 rfl) (st_t hts 117 rfl) (st_g hgv 5 rfl) hA
  have zu := vx_Zqof (args := args) (C := Bundle.tN) (n := "UNASSIGNED_STACK") (d := Bundle.steD) (A := (fun q : Nat => s.heap.size ≤ q)) (st_t hts 1208 rfl) (st_t hts 122 rfl) (st_g hgv 9 rfl) hA
  have zs := vx_Zqof (args := args) (C := Bundle.tN) (n := "SUPPRESSED_SENTINEL") (d := Bundle.listD) (A := (fun q : Nat => s.heap.size ≤ q)) (st_t hts 1210 rfl) (st_t hts 122 rfl) (st_g hgv 10 rfl) hA
  have hSS : sk_S (fun i => [k0, k1, k2, k3, k4, k5, k6, k7, k8, k9, k10, k11, k12, k13, k14, k15, k16, k17, k18, k19, k20, k21, k22, k23, k24, k25, k26, k27, k28, k29, k30, k31, k32, k33, k34, k35].getD i 0) (fun i => [v0, v1, v2, v3, v4, v5, v6, v7, v8, v9, v10, v11, v12, v13, v14, v15, v16, v17, v18, v19, v20, v21, v22, v23, v24, v25, v26, v27, v28, v29, v30, v31, v32, v33, v34, v35].getD i 0) (fun q : Nat => s.heap.size ≤ q) s s.heap := (lt_cons (lt_cons (lt_cons (lt_cons (lt_cons (lt_cons (lt_cons (lt_cons (lt_cons (lt_cons (lt_cons (lt_cons (lt_cons (lt_cons (lt_cons (lt_cons (lt_cons (lt_cons (lt_cons (lt_cons (lt_cons (lt_cons (lt_cons (lt_cons (lt_cons (lt_cons (lt_cons (lt_cons (lt_cons (lt_cons (lt_cons (lt_cons (lt_cons (lt_cons (lt_cons (lt_cons lt_nil b0) b1) b2) b3) b4) b5) b6) b7) b8) b9) b10) b11) b12) b13) b14) b15) b16) b17) b18) b19) b20) b21) b22) b23) b24) b25) b26) b27) b28) b29) b30) b31) b32) b33) b34) b35)
  exact ⟨fun i => [k0, k1, k2, k3, k4, k5, k6, k7, k8, k9, k10, k11, k12, k13, k14, k15, k16, k17, k18, k19, k20, k21, k22, k23, k24, k25, k26, k27, k28, k29, k30, k31, k32, k33, k34, k35].getD i 0, fun i => [v0, v1, v2, v3, v4, v5, v6, v7, v8, v9, v10, v11, v12, v13, v14, v15, v16, v17, v18, v19, v20, v21, v22, v23, v24, v25, v26, v27, v28, v29, v30, v31, v32, v33, v34, v35].getD i 0, sa, ⟨⟨hSS, zc, zf.1⟩, ⟨a0, a1, a2, a3, a4, a5, a6, a7, a8, a9, a10, a11, a12, a13, a14, a15, a16, a17, a18, a19, a20, a21, a22, a23, a24, a25, a26, a27, a28, a29, a30, a31, a32, a33, a34, a35⟩, zu, zs⟩, hsa⟩
end STB
