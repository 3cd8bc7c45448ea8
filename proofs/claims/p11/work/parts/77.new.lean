theorem gD_of {ws : va_W} {A : Nat → Prop} {n M9 : Nat} {e : Nat → va_E} (perm inv : List Nat) (hlen : ws.length = M9) (hl9 : ∀ c, c < n → perm.getD c 0 < M9) (hi : ∀ c, c < n → inv.getD (perm.getD c 0) 0 = c) (hD : va_D A ws) : va_D A (wG n (fun c => ((ws.map Prod.fst)[perm.getD c 0]?).getD 0) e) := by
  have hl : ∀ c, c < n → perm.getD c 0 < ws.length := fun c hc => by rw [hlen]; exact hl9 c hc
  have key : ∀ c, c < n → ∃ x, ws[perm.getD c 0]? = some (((ws.map Prod.fst)[perm.getD c 0]?).getD 0, x) := fun c hc => by
    have h := hl c hc
    refine ⟨(ws[perm.getD c 0]'h).2, ?_⟩
    rw [List.getElem?_map, List.getElem?_eq_getElem h]
    rfl
  refine ⟨fun i j p q h1 h2 h3 => ?_, fun k q h => ?_⟩
  · obtain ⟨c1, rfl⟩ := wG_of h1
    obtain ⟨c2, rfl⟩ := wG_of h2
    obtain ⟨x, hx⟩ := key i c1
    obtain ⟨y, hy⟩ := key j c2
    have h4 := hD.1 _ _ _ _ hx hy h3
    rw [← hi i c1, ← hi j c2, h4]
  · obtain ⟨c1, rfl⟩ := wG_of h
    obtain ⟨x, hx⟩ := key k c1
    have h9 := hD.2 _ _ hx
    exact h9
theorem fe4 {g : Nat → Nat} {a b c d n0 n1 n2 n3 : Nat} (e0 : n0 = 0) (e1 : n1 = 1) (e2 : n2 = 2) (e3 : n3 = 3) (h0 : g 0 = a) (h1 : g 1 = b) (h2 : g 2 = c) (h3 : g 3 = d) : (fun i => if i < 4 then some (g i) else none) = va_up (va_up (va_up (va_up (fun _ => none) n0 (some a)) n1 (some b)) n2 (some c)) n3 (some d) := by
  subst e0 e1 e2 e3 h0 h1 h2 h3
  funext i
  by_cases h : i < 4
  · rcases (show i = 0 ∨ i = 1 ∨ i = 2 ∨ i = 3 by omega) with rfl | rfl | rfl | rfl <;> rfl
  · rw [if_neg h]
    unfold va_up
    rw [if_neg (by omega), if_neg (by omega), if_neg (by omega), if_neg (by omega)]
theorem fe6 {g : Nat → Nat} {a b c d e f n0 n1 n2 n3 n4 n5 : Nat} (e0 : n0 = 0) (e1 : n1 = 1) (e2 : n2 = 2) (e3 : n3 = 3) (e4 : n4 = 4) (e5 : n5 = 5) (h0 : g 0 = a) (h1 : g 1 = b) (h2 : g 2 = c) (h3 : g 3 = d) (h4 : g 4 = e) (h5 : g 5 = f) : (fun i => if i < 6 then some (g i) else none) = va_up (va_up (va_up (va_up (va_up (va_up (fun _ => none) n0 (some a)) n1 (some b)) n2 (some c)) n3 (some d)) n4 (some e)) n5 (some f) := by
  subst e0 e1 e2 e3 e4 e5 h0 h1 h2 h3 h4 h5
  funext i
  by_cases h : i < 6
  · rcases (show i = 0 ∨ i = 1 ∨ i = 2 ∨ i = 3 ∨ i = 4 ∨ i = 5 by omega) with rfl | rfl | rfl | rfl | rfl | rfl <;> rfl
  · rw [if_neg h]
    unfold va_up
    rw [if_neg (by omega), if_neg (by omega), if_neg (by omega), if_neg (by omega), if_neg (by omega), if_neg (by omega)]
theorem wG_P {D : va_G} {n : Nat} {ad : Nat → Nat} {e : Nat → va_E} {H : Heap} (h : ∀ c, c < n → va_at D vwCl (ad c, e c) H) : va_P D vwCl (wG n ad e) H := fun k q hq => by
  obtain ⟨c1, rfl⟩ := wG_of hq
  exact h k c1

def pmX : List Nat := [0, 1, 2, 3, 4, 5, 6, 7, 8, 9, 10, 11, 12, 13, 14, 15, 16, 17, 18, 19, 20, 21, 22, 23, 24, 25, 26, 27, 28, 29, 30, 31, 32, 33, 34, 35, 36, 42, 43, 44, 45, 46, 47, 48, 49, 50, 51, 52, 53, 54, 55, 56, 57, 58, 59, 60, 61, 62, 63, 64, 65, 66, 67, 68, 69, 37, 70, 71, 72, 73, 74, 75, 76, 77, 78, 79, 80, 81, 82, 83, 84, 85, 86, 87, 88, 89, 90, 91, 92, 93, 38, 39, 40, 41, 94, 95, 96, 97, 103, 104, 105, 106, 107, 108, 109, 110, 111, 112, 113, 114, 115, 116, 117, 118, 119, 120, 121, 122, 123, 124, 125, 126, 127, 128, 129, 130, 98, 131, 132, 133, 134, 135, 136, 137, 138, 139, 140, 141, 142, 143, 144, 145, 146, 147, 148, 149, 150, 151, 152, 153, 154, 99, 100, 101, 102]
def ivX : List Nat := [0, 1, 2, 3, 4, 5, 6, 7, 8, 9, 10, 11, 12, 13, 14, 15, 16, 17, 18, 19, 20, 21, 22, 23, 24, 25, 26, 27, 28, 29, 30, 31, 32, 33, 34, 35, 36, 65, 90, 91, 92, 93, 37, 38, 39, 40, 41, 42, 43, 44, 45, 46, 47, 48, 49, 50, 51, 52, 53, 54, 55, 56, 57, 58, 59, 60, 61, 62, 63, 64, 66, 67, 68, 69, 70, 71, 72, 73, 74, 75, 76, 77, 78, 79, 80, 81, 82, 83, 84, 85, 86, 87, 88, 89, 94, 95, 96, 97, 126, 151, 152, 153, 154, 98, 99, 100, 101, 102, 103, 104, 105, 106, 107, 108, 109, 110, 111, 112, 113, 114, 115, 116, 117, 118, 119, 120, 121, 122, 123, 124, 125, 127, 128, 129, 130, 131, 132, 133, 134, 135, 136, 137, 138, 139, 140, 141, 142, 143, 144, 145, 146, 147, 148, 149, 150]
def σX : gs := fun c => ((fun k => if c = 0 ∧ k = 14 then (-1) else if c = 1 ∧ k = 2 then (-1) else if c = 33 ∧ k = 10 then (-1) else if c = 37 ∧ k = 1 then 1 else if c = 37 ∧ k = 8 then 90 else if c = 44 ∧ k = 1 then 1 else if c = 44 ∧ k = 8 then 90 else if c = 51 ∧ k = 1 then 1 else if c = 51 ∧ k = 8 then 90 else if c = 58 ∧ k = 1 then 1 else if c = 58 ∧ k = 8 then 90 else if c = 94 ∧ k = 10 then (-1) else if c = 98 ∧ k = 1 then 1 else if c = 98 ∧ k = 8 then 90 else if c = 105 ∧ k = 1 then 1 else if c = 105 ∧ k = 8 then 90 else if c = 112 ∧ k = 1 then 1 else if c = 112 ∧ k = 8 then 90 else if c = 119 ∧ k = 1 then 1 else if c = 119 ∧ k = 8 then 90 else 0), (fun k => if kX c = 5 ∧ k = 1 then 1 else 0), (fun _ => 0), (fun k => if c = 0 ∧ k = 8 then some 33 else if c = 0 ∧ k = 9 then some 94 else none))
abbrev wsX (h0 : Nat) (Qz : Nat → Nat) (Cz : Nat → ClassId) : va_W := [(h0, .inr (10, [.ref (Qz 0), .ref (Qz 3), .ref (Qz 7), .ref (Qz 8), .ref (Qz 9), .ref (Qz 11), .ref (Qz 18), .ref (Qz 25), .ref (Qz 32), .ref (Qz 93), .int 0, .int 0, .int 0, .int 0, .int (-1)])), ((Qz 0), .inr (6, [.ref (Qz 1), .int 0, .int (-1), .int 0, .int 0])), ((Qz 1), .inr (9, [.ref (Qz 2), .int 0, .int 0, .int 0, .int 0, .int 0, .int 0])), ((Qz 2), .inl ((Cz 0), 900, .inl (fun _ => 0))), ((Qz 3), .inr (7, [.null, .int 0, .int 0, .ref (Qz 4), .ref (Qz 5), .ref (Qz 6), .double 0, .double 0])), ((Qz 4), .inr (5, [.long 0, .long 1])), ((Qz 5), .inr (5, [.long 0, .long 1])), ((Qz 6), .inr (5, [.long 0, .long 1])), ((Qz 7), .inr (2, [.null, .double 0, .double 0, .double 0, .double 0, .double 0])), ((Qz 8), .inr (5, [.long 0, .long 1])), ((Qz 9), .inr (8, [.ref (Qz 10), .int 0])), ((Qz 10), .inl ((Cz 1), 64, .inl (fun _ => 0))), ((Qz 11), .inr (1, [.ref (Qz 12), .ref (Qz 13), .long 0, .int 0])), ((Qz 12), .inl ((Cz 2), 4, .inl (fun _ => 0))), ((Qz 13), .inl ((Cz 3), 4, .inr (.inr (.inr (.inr (va_up (va_up (va_up (va_up (fun _ => none) 0 (some (Qz 14))) 1 (some (Qz 15))) 2 (some (Qz 16))) 3 (some (Qz 17)))))))), ((Qz 14), .inl ((Cz 2), 81, .inl (fun _ => 0))), ((Qz 15), .inl ((Cz 2), 81, .inl (fun _ => 0))), ((Qz 16), .inl ((Cz 2), 81, .inl (fun _ => 0))), ((Qz 17), .inl ((Cz 2), 81, .inl (fun _ => 0))), ((Qz 18), .inr (1, [.ref (Qz 19), .ref (Qz 20), .long 0, .int 0])), ((Qz 19), .inl ((Cz 4), 4, .inl (fun _ => 0))), ((Qz 20), .inl ((Cz 5), 4, .inr (.inr (.inr (.inr (va_up (va_up (va_up (va_up (fun _ => none) 0 (some (Qz 21))) 1 (some (Qz 22))) 2 (some (Qz 23))) 3 (some (Qz 24)))))))), ((Qz 21), .inl ((Cz 4), 81, .inl (fun _ => 0))), ((Qz 22), .inl ((Cz 4), 81, .inl (fun _ => 0))), ((Qz 23), .inl ((Cz 4), 81, .inl (fun _ => 0))), ((Qz 24), .inl ((Cz 4), 81, .inl (fun _ => 0))), ((Qz 25), .inr (1, [.ref (Qz 26), .ref (Qz 27), .long 0, .int 0])), ((Qz 26), .inl ((Cz 6), 4, .inl (fun _ => 0))), ((Qz 27), .inl ((Cz 7), 4, .inr (.inr (.inr (.inr (va_up (va_up (va_up (va_up (fun _ => none) 0 (some (Qz 28))) 1 (some (Qz 29))) 2 (some (Qz 30))) 3 (some (Qz 31)))))))), ((Qz 28), .inl ((Cz 6), 81, .inl (fun _ => 0))), ((Qz 29), .inl ((Cz 6), 81, .inl (fun _ => 0))), ((Qz 30), .inl ((Cz 6), 81, .inl (fun _ => 0))), ((Qz 31), .inl ((Cz 6), 81, .inl (fun _ => 0))), ((Qz 32), .inr (3, [.int 0, .int 0, .ref (Qz 33), .ref (Qz 35), .int 0, .ref (Qz 36), .ref (Qz 37), .ref (Qz 38), .ref (Qz 39), .int 0, .int (-1), .ref (Qz 40)])), ((Qz 33), .inr (4, [.ref (Qz 34), .int 0])), ((Qz 34), .inl ((Cz 8), 10, .inl (fun _ => 0))), ((Qz 35), .inl ((Cz 9), 4, .inr (.inr (.inr (.inr (va_up (va_up (va_up (va_up (fun _ => none) (0 : Int32).toNatClampNeg (some (Qz 41))) (1 : Int32).toNatClampNeg (some (Qz 48))) (2 : Int32).toNatClampNeg (some (Qz 55))) (3 : Int32).toNatClampNeg (some (Qz 62)))))))), ((Qz 36), .inl ((Cz 10), 6, .inr (.inr (.inr (.inr (va_up (va_up (va_up (va_up (va_up (va_up (fun _ => none) (0 : Int32).toNatClampNeg (some (Qz 69))) (1 : Int32).toNatClampNeg (some (Qz 73))) (2 : Int32).toNatClampNeg (some (Qz 77))) (3 : Int32).toNatClampNeg (some (Qz 81))) (4 : Int32).toNatClampNeg (some (Qz 85))) (5 : Int32).toNatClampNeg (some (Qz 89)))))))), ((Qz 37), .inl ((Cz 11), 6, .inl (fun _ => 0))), ((Qz 38), .inl ((Cz 12), 6, .inl (fun _ => 0))), ((Qz 39), .inl ((Cz 13), 6, .inl (fun _ => 0))), ((Qz 40), .inr (5, [.long 0, .long 1])), ((Qz 41), .inr (0, [.int 0, .int 1, .int 0, .int 0, .int 0, .int 0, .int 0, .int 0, .int 90, .int 0, .ref (Qz 42), .ref (Qz 43), .ref (Qz 44), .ref (Qz 45), .ref (Qz 46), .ref (Qz 47)])), ((Qz 42), .inl ((Cz 14), 94, .inl (fun _ => 0))), ((Qz 43), .inl ((Cz 15), 81, .inl (fun _ => 0))), ((Qz 44), .inl ((Cz 16), 81, .inl (fun _ => 0))), ((Qz 45), .inl ((Cz 17), 81, .inl (fun _ => 0))), ((Qz 46), .inl ((Cz 18), 81, .inr (.inr (.inr (.inl (fun _ => 0)))))), ((Qz 47), .inl ((Cz 19), 81, .inr (.inr (.inr (.inl (fun _ => 0)))))), ((Qz 48), .inr (0, [.int 0, .int 1, .int 0, .int 0, .int 0, .int 0, .int 0, .int 0, .int 90, .int 0, .ref (Qz 49), .ref (Qz 50), .ref (Qz 51), .ref (Qz 52), .ref (Qz 53), .ref (Qz 54)])), ((Qz 49), .inl ((Cz 20), 94, .inl (fun _ => 0))), ((Qz 50), .inl ((Cz 21), 81, .inl (fun _ => 0))), ((Qz 51), .inl ((Cz 22), 81, .inl (fun _ => 0))), ((Qz 52), .inl ((Cz 23), 81, .inl (fun _ => 0))), ((Qz 53), .inl ((Cz 24), 81, .inr (.inr (.inr (.inl (fun _ => 0)))))), ((Qz 54), .inl ((Cz 25), 81, .inr (.inr (.inr (.inl (fun _ => 0)))))), ((Qz 55), .inr (0, [.int 0, .int 1, .int 0, .int 0, .int 0, .int 0, .int 0, .int 0, .int 90, .int 0, .ref (Qz 56), .ref (Qz 57), .ref (Qz 58), .ref (Qz 59), .ref (Qz 60), .ref (Qz 61)])), ((Qz 56), .inl ((Cz 26), 94, .inl (fun _ => 0))), ((Qz 57), .inl ((Cz 27), 81, .inl (fun _ => 0))), ((Qz 58), .inl ((Cz 28), 81, .inl (fun _ => 0))), ((Qz 59), .inl ((Cz 29), 81, .inl (fun _ => 0))), ((Qz 60), .inl ((Cz 30), 81, .inr (.inr (.inr (.inl (fun _ => 0)))))), ((Qz 61), .inl ((Cz 31), 81, .inr (.inr (.inr (.inl (fun _ => 0)))))), ((Qz 62), .inr (0, [.int 0, .int 1, .int 0, .int 0, .int 0, .int 0, .int 0, .int 0, .int 90, .int 0, .ref (Qz 63), .ref (Qz 64), .ref (Qz 65), .ref (Qz 66), .ref (Qz 67), .ref (Qz 68)])), ((Qz 63), .inl ((Cz 32), 94, .inl (fun _ => 0))), ((Qz 64), .inl ((Cz 33), 81, .inl (fun _ => 0))), ((Qz 65), .inl ((Cz 34), 81, .inl (fun _ => 0))), ((Qz 66), .inl ((Cz 35), 81, .inl (fun _ => 0))), ((Qz 67), .inl ((Cz 36), 81, .inr (.inr (.inr (.inl (fun _ => 0)))))), ((Qz 68), .inl ((Cz 37), 81, .inr (.inr (.inr (.inl (fun _ => 0)))))), ((Qz 69), .inr (7, [.null, .int 0, .int 0, .ref (Qz 70), .ref (Qz 71), .ref (Qz 72), .double 0, .double 0])), ((Qz 70), .inr (5, [.long 0, .long 1])), ((Qz 71), .inr (5, [.long 0, .long 1])), ((Qz 72), .inr (5, [.long 0, .long 1])), ((Qz 73), .inr (7, [.null, .int 0, .int 0, .ref (Qz 74), .ref (Qz 75), .ref (Qz 76), .double 0, .double 0])), ((Qz 74), .inr (5, [.long 0, .long 1])), ((Qz 75), .inr (5, [.long 0, .long 1])), ((Qz 76), .inr (5, [.long 0, .long 1])), ((Qz 77), .inr (7, [.null, .int 0, .int 0, .ref (Qz 78), .ref (Qz 79), .ref (Qz 80), .double 0, .double 0])), ((Qz 78), .inr (5, [.long 0, .long 1])), ((Qz 79), .inr (5, [.long 0, .long 1])), ((Qz 80), .inr (5, [.long 0, .long 1])), ((Qz 81), .inr (7, [.null, .int 0, .int 0, .ref (Qz 82), .ref (Qz 83), .ref (Qz 84), .double 0, .double 0])), ((Qz 82), .inr (5, [.long 0, .long 1])), ((Qz 83), .inr (5, [.long 0, .long 1])), ((Qz 84), .inr (5, [.long 0, .long 1])), ((Qz 85), .inr (7, [.null, .int 0, .int 0, .ref (Qz 86), .ref (Qz 87), .ref (Qz 88), .double 0, .double 0])), ((Qz 86), .inr (5, [.long 0, .long 1])), ((Qz 87), .inr (5, [.long 0, .long 1])), ((Qz 88), .inr (5, [.long 0, .long 1])), ((Qz 89), .inr (7, [.null, .int 0, .int 0, .ref (Qz 90), .ref (Qz 91), .ref (Qz 92), .double 0, .double 0])), ((Qz 90), .inr (5, [.long 0, .long 1])), ((Qz 91), .inr (5, [.long 0, .long 1])), ((Qz 92), .inr (5, [.long 0, .long 1])), ((Qz 93), .inr (3, [.int 0, .int 0, .ref (Qz 94), .ref (Qz 96), .int 0, .ref (Qz 97), .ref (Qz 98), .ref (Qz 99), .ref (Qz 100), .int 0, .int (-1), .ref (Qz 101)])), ((Qz 94), .inr (4, [.ref (Qz 95), .int 0])), ((Qz 95), .inl ((Cz 38), 10, .inl (fun _ => 0))), ((Qz 96), .inl ((Cz 39), 4, .inr (.inr (.inr (.inr (va_up (va_up (va_up (va_up (fun _ => none) (0 : Int32).toNatClampNeg (some (Qz 102))) (1 : Int32).toNatClampNeg (some (Qz 109))) (2 : Int32).toNatClampNeg (some (Qz 116))) (3 : Int32).toNatClampNeg (some (Qz 123)))))))), ((Qz 97), .inl ((Cz 40), 6, .inr (.inr (.inr (.inr (va_up (va_up (va_up (va_up (va_up (va_up (fun _ => none) (0 : Int32).toNatClampNeg (some (Qz 130))) (1 : Int32).toNatClampNeg (some (Qz 134))) (2 : Int32).toNatClampNeg (some (Qz 138))) (3 : Int32).toNatClampNeg (some (Qz 142))) (4 : Int32).toNatClampNeg (some (Qz 146))) (5 : Int32).toNatClampNeg (some (Qz 150)))))))), ((Qz 98), .inl ((Cz 41), 6, .inl (fun _ => 0))), ((Qz 99), .inl ((Cz 42), 6, .inl (fun _ => 0))), ((Qz 100), .inl ((Cz 43), 6, .inl (fun _ => 0))), ((Qz 101), .inr (5, [.long 0, .long 1])), ((Qz 102), .inr (0, [.int 0, .int 1, .int 0, .int 0, .int 0, .int 0, .int 0, .int 0, .int 90, .int 0, .ref (Qz 103), .ref (Qz 104), .ref (Qz 105), .ref (Qz 106), .ref (Qz 107), .ref (Qz 108)])), ((Qz 103), .inl ((Cz 44), 94, .inl (fun _ => 0))), ((Qz 104), .inl ((Cz 45), 81, .inl (fun _ => 0))), ((Qz 105), .inl ((Cz 46), 81, .inl (fun _ => 0))), ((Qz 106), .inl ((Cz 47), 81, .inl (fun _ => 0))), ((Qz 107), .inl ((Cz 48), 81, .inr (.inr (.inr (.inl (fun _ => 0)))))), ((Qz 108), .inl ((Cz 49), 81, .inr (.inr (.inr (.inl (fun _ => 0)))))), ((Qz 109), .inr (0, [.int 0, .int 1, .int 0, .int 0, .int 0, .int 0, .int 0, .int 0, .int 90, .int 0, .ref (Qz 110), .ref (Qz 111), .ref (Qz 112), .ref (Qz 113), .ref (Qz 114), .ref (Qz 115)])), ((Qz 110), .inl ((Cz 50), 94, .inl (fun _ => 0))), ((Qz 111), .inl ((Cz 51), 81, .inl (fun _ => 0))), ((Qz 112), .inl ((Cz 52), 81, .inl (fun _ => 0))), ((Qz 113), .inl ((Cz 53), 81, .inl (fun _ => 0))), ((Qz 114), .inl ((Cz 54), 81, .inr (.inr (.inr (.inl (fun _ => 0)))))), ((Qz 115), .inl ((Cz 55), 81, .inr (.inr (.inr (.inl (fun _ => 0)))))), ((Qz 116), .inr (0, [.int 0, .int 1, .int 0, .int 0, .int 0, .int 0, .int 0, .int 0, .int 90, .int 0, .ref (Qz 117), .ref (Qz 118), .ref (Qz 119), .ref (Qz 120), .ref (Qz 121), .ref (Qz 122)])), ((Qz 117), .inl ((Cz 56), 94, .inl (fun _ => 0))), ((Qz 118), .inl ((Cz 57), 81, .inl (fun _ => 0))), ((Qz 119), .inl ((Cz 58), 81, .inl (fun _ => 0))), ((Qz 120), .inl ((Cz 59), 81, .inl (fun _ => 0))), ((Qz 121), .inl ((Cz 60), 81, .inr (.inr (.inr (.inl (fun _ => 0)))))), ((Qz 122), .inl ((Cz 61), 81, .inr (.inr (.inr (.inl (fun _ => 0)))))), ((Qz 123), .inr (0, [.int 0, .int 1, .int 0, .int 0, .int 0, .int 0, .int 0, .int 0, .int 90, .int 0, .ref (Qz 124), .ref (Qz 125), .ref (Qz 126), .ref (Qz 127), .ref (Qz 128), .ref (Qz 129)])), ((Qz 124), .inl ((Cz 62), 94, .inl (fun _ => 0))), ((Qz 125), .inl ((Cz 63), 81, .inl (fun _ => 0))), ((Qz 126), .inl ((Cz 64), 81, .inl (fun _ => 0))), ((Qz 127), .inl ((Cz 65), 81, .inl (fun _ => 0))), ((Qz 128), .inl ((Cz 66), 81, .inr (.inr (.inr (.inl (fun _ => 0)))))), ((Qz 129), .inl ((Cz 67), 81, .inr (.inr (.inr (.inl (fun _ => 0)))))), ((Qz 130), .inr (7, [.null, .int 0, .int 0, .ref (Qz 131), .ref (Qz 132), .ref (Qz 133), .double 0, .double 0])), ((Qz 131), .inr (5, [.long 0, .long 1])), ((Qz 132), .inr (5, [.long 0, .long 1])), ((Qz 133), .inr (5, [.long 0, .long 1])), ((Qz 134), .inr (7, [.null, .int 0, .int 0, .ref (Qz 135), .ref (Qz 136), .ref (Qz 137), .double 0, .double 0])), ((Qz 135), .inr (5, [.long 0, .long 1])), ((Qz 136), .inr (5, [.long 0, .long 1])), ((Qz 137), .inr (5, [.long 0, .long 1])), ((Qz 138), .inr (7, [.null, .int 0, .int 0, .ref (Qz 139), .ref (Qz 140), .ref (Qz 141), .double 0, .double 0])), ((Qz 139), .inr (5, [.long 0, .long 1])), ((Qz 140), .inr (5, [.long 0, .long 1])), ((Qz 141), .inr (5, [.long 0, .long 1])), ((Qz 142), .inr (7, [.null, .int 0, .int 0, .ref (Qz 143), .ref (Qz 144), .ref (Qz 145), .double 0, .double 0])), ((Qz 143), .inr (5, [.long 0, .long 1])), ((Qz 144), .inr (5, [.long 0, .long 1])), ((Qz 145), .inr (5, [.long 0, .long 1])), ((Qz 146), .inr (7, [.null, .int 0, .int 0, .ref (Qz 147), .ref (Qz 148), .ref (Qz 149), .double 0, .double 0])), ((Qz 147), .inr (5, [.long 0, .long 1])), ((Qz 148), .inr (5, [.long 0, .long 1])), ((Qz 149), .inr (5, [.long 0, .long 1])), ((Qz 150), .inr (7, [.null, .int 0, .int 0, .ref (Qz 151), .ref (Qz 152), .ref (Qz 153), .double 0, .double 0])), ((Qz 151), .inr (5, [.long 0, .long 1])), ((Qz 152), .inr (5, [.long 0, .long 1])), ((Qz 153), .inr (5, [.long 0, .long 1]))]
abbrev adX (h0 : Nat) (Qz : Nat → Nat) (Cz : Nat → ClassId) : Nat → Nat := fun c => (((wsX h0 Qz Cz).map Prod.fst)[pmX.getD c 0]?).getD 0
abbrev caX (h0 : Nat) (Qz : Nat → Nat) (Cz : Nat → ClassId) : Nat → ClassId := fun c => [(Cz 0), (Cz 0), (Cz 0), (Cz 0), (Cz 0), (Cz 0), (Cz 0), (Cz 0), (Cz 0), (Cz 0), (Cz 0), (Cz 1), (Cz 0), (Cz 2), (Cz 3), (Cz 2), (Cz 2), (Cz 2), (Cz 2), (Cz 0), (Cz 4), (Cz 5), (Cz 4), (Cz 4), (Cz 4), (Cz 4), (Cz 0), (Cz 6), (Cz 7), (Cz 6), (Cz 6), (Cz 6), (Cz 6), (Cz 0), (Cz 0), (Cz 8), (Cz 9), (Cz 0), (Cz 14), (Cz 15), (Cz 16), (Cz 17), (Cz 18), (Cz 19), (Cz 0), (Cz 20), (Cz 21), (Cz 22), (Cz 23), (Cz 24), (Cz 25), (Cz 0), (Cz 26), (Cz 27), (Cz 28), (Cz 29), (Cz 30), (Cz 31), (Cz 0), (Cz 32), (Cz 33), (Cz 34), (Cz 35), (Cz 36), (Cz 37), (Cz 10), (Cz 0), (Cz 0), (Cz 0), (Cz 0), (Cz 0), (Cz 0), (Cz 0), (Cz 0), (Cz 0), (Cz 0), (Cz 0), (Cz 0), (Cz 0), (Cz 0), (Cz 0), (Cz 0), (Cz 0), (Cz 0), (Cz 0), (Cz 0), (Cz 0), (Cz 0), (Cz 0), (Cz 0), (Cz 11), (Cz 12), (Cz 13), (Cz 0), (Cz 0), (Cz 0), (Cz 38), (Cz 39), (Cz 0), (Cz 44), (Cz 45), (Cz 46), (Cz 47), (Cz 48), (Cz 49), (Cz 0), (Cz 50), (Cz 51), (Cz 52), (Cz 53), (Cz 54), (Cz 55), (Cz 0), (Cz 56), (Cz 57), (Cz 58), (Cz 59), (Cz 60), (Cz 61), (Cz 0), (Cz 62), (Cz 63), (Cz 64), (Cz 65), (Cz 66), (Cz 67), (Cz 40), (Cz 0), (Cz 0), (Cz 0), (Cz 0), (Cz 0), (Cz 0), (Cz 0), (Cz 0), (Cz 0), (Cz 0), (Cz 0), (Cz 0), (Cz 0), (Cz 0), (Cz 0), (Cz 0), (Cz 0), (Cz 0), (Cz 0), (Cz 0), (Cz 0), (Cz 0), (Cz 0), (Cz 0), (Cz 41), (Cz 42), (Cz 43), (Cz 0)].getD c (Cz 0)
set_option maxHeartbeats 40000000 in
set_option maxRecDepth 100000 in
theorem new_PX {D : va_G} {H : Heap} (h0 : Nat) (Qz : Nat → Nat) (Cz : Nat → ClassId) (hP : va_P D vwCl (wsX h0 Qz Cz) H) : va_P D vwCl (wX (adX h0 Qz Cz) (caX h0 Qz Cz) σX) H :=
  wG_P (e := fun c => eX (adX h0 Qz Cz) (caX h0 Qz Cz) (σX c) c) (lt_cons (lt_cons (lt_cons (lt_cons (lt_cons (lt_cons (lt_cons (lt_cons (lt_cons (lt_cons (lt_cons (lt_cons (lt_cons (lt_cons (lt_cons (lt_cons (lt_cons (lt_cons (lt_cons (lt_cons (lt_cons (lt_cons (lt_cons (lt_cons (lt_cons (lt_cons (lt_cons (lt_cons (lt_cons (lt_cons (lt_cons (lt_cons (lt_cons (lt_cons (lt_cons (lt_cons (lt_cons (lt_cons (lt_cons (lt_cons (lt_cons (lt_cons (lt_cons (lt_cons (lt_cons (lt_cons (lt_cons (lt_cons (lt_cons (lt_cons (lt_cons (lt_cons (lt_cons (lt_cons (lt_cons (lt_cons (lt_cons (lt_cons (lt_cons (lt_cons (lt_cons (lt_cons (lt_cons (lt_cons (lt_cons (lt_cons (lt_cons (lt_cons (lt_cons (lt_cons (lt_cons (lt_cons (lt_cons (lt_cons (lt_cons (lt_cons (lt_cons (lt_cons (lt_cons (lt_cons (lt_cons (lt_cons (lt_cons (lt_cons (lt_cons (lt_cons (lt_cons (lt_cons (lt_cons (lt_cons (lt_cons (lt_cons (lt_cons (lt_cons (lt_cons (lt_cons (lt_cons (lt_cons (lt_cons (lt_cons (lt_cons (lt_cons (lt_cons (lt_cons (lt_cons (lt_cons (lt_cons (lt_cons (lt_cons (lt_cons (lt_cons (lt_cons (lt_cons (lt_cons (lt_cons (lt_cons (lt_cons (lt_cons (lt_cons (lt_cons (lt_cons (lt_cons (lt_cons (lt_cons (lt_cons (lt_cons (lt_cons (lt_cons (lt_cons (lt_cons (lt_cons (lt_cons (lt_cons (lt_cons (lt_cons (lt_cons (lt_cons (lt_cons (lt_cons (lt_cons (lt_cons (lt_cons (lt_cons (lt_cons (lt_cons (lt_cons (lt_cons (lt_cons (lt_cons (lt_cons (lt_cons (lt_cons (lt_cons (lt_cons (lt_cons lt_nil (hP 0 _ rfl)) (hP 1 _ rfl)) (hP 2 _ rfl)) (hP 3 _ rfl)) (hP 4 _ rfl)) (hP 5 _ rfl)) (hP 6 _ rfl)) (hP 7 _ rfl)) (hP 8 _ rfl)) (hP 9 _ rfl)) (hP 10 _ rfl)) (hP 11 _ rfl)) (hP 12 _ rfl)) (hP 13 _ rfl)) (show va_at D vwCl ((Qz 13), .inl ((Cz 3), 4, .inr (.inr (.inr (.inr (fun b => if b < 4 then some (adX h0 Qz Cz (14 + 1 + b)) else none)))))) H from by rw [fe4 (g := fun b => adX h0 Qz Cz (14 + 1 + b)) rfl rfl rfl rfl rfl rfl rfl rfl]; exact hP 14 _ rfl)) (hP 15 _ rfl)) (hP 16 _ rfl)) (hP 17 _ rfl)) (hP 18 _ rfl)) (hP 19 _ rfl)) (hP 20 _ rfl)) (show va_at D vwCl ((Qz 20), .inl ((Cz 5), 4, .inr (.inr (.inr (.inr (fun b => if b < 4 then some (adX h0 Qz Cz (21 + 1 + b)) else none)))))) H from by rw [fe4 (g := fun b => adX h0 Qz Cz (21 + 1 + b)) rfl rfl rfl rfl rfl rfl rfl rfl]; exact hP 21 _ rfl)) (hP 22 _ rfl)) (hP 23 _ rfl)) (hP 24 _ rfl)) (hP 25 _ rfl)) (hP 26 _ rfl)) (hP 27 _ rfl)) (show va_at D vwCl ((Qz 27), .inl ((Cz 7), 4, .inr (.inr (.inr (.inr (fun b => if b < 4 then some (adX h0 Qz Cz (28 + 1 + b)) else none)))))) H from by rw [fe4 (g := fun b => adX h0 Qz Cz (28 + 1 + b)) rfl rfl rfl rfl rfl rfl rfl rfl]; exact hP 28 _ rfl)) (hP 29 _ rfl)) (hP 30 _ rfl)) (hP 31 _ rfl)) (hP 32 _ rfl)) (hP 33 _ rfl)) (hP 34 _ rfl)) (hP 35 _ rfl)) (show va_at D vwCl ((Qz 35), .inl ((Cz 9), 4, .inr (.inr (.inr (.inr (fun b => if b < 4 then some (adX h0 Qz Cz (36 + 1 + 7 * b)) else none)))))) H from by rw [fe4 (g := fun b => adX h0 Qz Cz (36 + 1 + 7 * b)) rfl rfl rfl rfl rfl rfl rfl rfl]; exact hP 36 _ rfl)) (hP 42 _ rfl)) (hP 43 _ rfl)) (hP 44 _ rfl)) (hP 45 _ rfl)) (hP 46 _ rfl)) (hP 47 _ rfl)) (hP 48 _ rfl)) (hP 49 _ rfl)) (hP 50 _ rfl)) (hP 51 _ rfl)) (hP 52 _ rfl)) (hP 53 _ rfl)) (hP 54 _ rfl)) (hP 55 _ rfl)) (hP 56 _ rfl)) (hP 57 _ rfl)) (hP 58 _ rfl)) (hP 59 _ rfl)) (hP 60 _ rfl)) (hP 61 _ rfl)) (hP 62 _ rfl)) (hP 63 _ rfl)) (hP 64 _ rfl)) (hP 65 _ rfl)) (hP 66 _ rfl)) (hP 67 _ rfl)) (hP 68 _ rfl)) (hP 69 _ rfl)) (show va_at D vwCl ((Qz 36), .inl ((Cz 10), 6, .inr (.inr (.inr (.inr (fun b => if b < 6 then some (adX h0 Qz Cz (65 + 1 + 4 * b)) else none)))))) H from by rw [fe6 (g := fun b => adX h0 Qz Cz (65 + 1 + 4 * b)) rfl rfl rfl rfl rfl rfl rfl rfl rfl rfl rfl rfl]; exact hP 37 _ rfl)) (hP 70 _ rfl)) (hP 71 _ rfl)) (hP 72 _ rfl)) (hP 73 _ rfl)) (hP 74 _ rfl)) (hP 75 _ rfl)) (hP 76 _ rfl)) (hP 77 _ rfl)) (hP 78 _ rfl)) (hP 79 _ rfl)) (hP 80 _ rfl)) (hP 81 _ rfl)) (hP 82 _ rfl)) (hP 83 _ rfl)) (hP 84 _ rfl)) (hP 85 _ rfl)) (hP 86 _ rfl)) (hP 87 _ rfl)) (hP 88 _ rfl)) (hP 89 _ rfl)) (hP 90 _ rfl)) (hP 91 _ rfl)) (hP 92 _ rfl)) (hP 93 _ rfl)) (hP 38 _ rfl)) (hP 39 _ rfl)) (hP 40 _ rfl)) (hP 41 _ rfl)) (hP 94 _ rfl)) (hP 95 _ rfl)) (hP 96 _ rfl)) (show va_at D vwCl ((Qz 96), .inl ((Cz 39), 4, .inr (.inr (.inr (.inr (fun b => if b < 4 then some (adX h0 Qz Cz (97 + 1 + 7 * b)) else none)))))) H from by rw [fe4 (g := fun b => adX h0 Qz Cz (97 + 1 + 7 * b)) rfl rfl rfl rfl rfl rfl rfl rfl]; exact hP 97 _ rfl)) (hP 103 _ rfl)) (hP 104 _ rfl)) (hP 105 _ rfl)) (hP 106 _ rfl)) (hP 107 _ rfl)) (hP 108 _ rfl)) (hP 109 _ rfl)) (hP 110 _ rfl)) (hP 111 _ rfl)) (hP 112 _ rfl)) (hP 113 _ rfl)) (hP 114 _ rfl)) (hP 115 _ rfl)) (hP 116 _ rfl)) (hP 117 _ rfl)) (hP 118 _ rfl)) (hP 119 _ rfl)) (hP 120 _ rfl)) (hP 121 _ rfl)) (hP 122 _ rfl)) (hP 123 _ rfl)) (hP 124 _ rfl)) (hP 125 _ rfl)) (hP 126 _ rfl)) (hP 127 _ rfl)) (hP 128 _ rfl)) (hP 129 _ rfl)) (hP 130 _ rfl)) (show va_at D vwCl ((Qz 97), .inl ((Cz 40), 6, .inr (.inr (.inr (.inr (fun b => if b < 6 then some (adX h0 Qz Cz (126 + 1 + 4 * b)) else none)))))) H from by rw [fe6 (g := fun b => adX h0 Qz Cz (126 + 1 + 4 * b)) rfl rfl rfl rfl rfl rfl rfl rfl rfl rfl rfl rfl]; exact hP 98 _ rfl)) (hP 131 _ rfl)) (hP 132 _ rfl)) (hP 133 _ rfl)) (hP 134 _ rfl)) (hP 135 _ rfl)) (hP 136 _ rfl)) (hP 137 _ rfl)) (hP 138 _ rfl)) (hP 139 _ rfl)) (hP 140 _ rfl)) (hP 141 _ rfl)) (hP 142 _ rfl)) (hP 143 _ rfl)) (hP 144 _ rfl)) (hP 145 _ rfl)) (hP 146 _ rfl)) (hP 147 _ rfl)) (hP 148 _ rfl)) (hP 149 _ rfl)) (hP 150 _ rfl)) (hP 151 _ rfl)) (hP 152 _ rfl)) (hP 153 _ rfl)) (hP 154 _ rfl)) (hP 99 _ rfl)) (hP 100 _ rfl)) (hP 101 _ rfl)) (hP 102 _ rfl))
set_option maxRecDepth 100000 in
theorem new_DX {A : Nat → Prop} (h0 : Nat) (Qz : Nat → Nat) (Cz : Nat → ClassId) (hD : va_D A (wsX h0 Qz Cz)) : va_D A (wX (adX h0 Qz Cz) (caX h0 Qz Cz) σX) := gD_of (M9 := 155) pmX ivX rfl (by decide +kernel) (by decide +kernel) hD
set_option maxHeartbeats 40000000 in
set_option maxRecDepth 100000 in
theorem new_KX {D : va_G} {U : State} (h0 : Nat) (Qz : Nat → Nat) (Cz : Nat → ClassId) (hK : va_K D vwCl [((Cz 0), .byte), ((Cz 1), .char), ((Cz 2), .int), ((Cz 3), .array .int), ((Cz 2), .int), ((Cz 2), .int), ((Cz 2), .int), ((Cz 2), .int), ((Cz 4), .int), ((Cz 5), .array .int), ((Cz 4), .int), ((Cz 4), .int), ((Cz 4), .int), ((Cz 4), .int), ((Cz 6), .int), ((Cz 7), .array .int), ((Cz 6), .int), ((Cz 6), .int), ((Cz 6), .int), ((Cz 6), .int), ((Cz 8), .int), ((Cz 9), .object RX0), ((Cz 10), .object RX8), ((Cz 11), .int), ((Cz 12), .int), ((Cz 13), .int), ((Cz 14), .int), ((Cz 15), .int), ((Cz 16), .int), ((Cz 17), .int), ((Cz 18), .double), ((Cz 19), .double), ((Cz 20), .int), ((Cz 21), .int), ((Cz 22), .int), ((Cz 23), .int), ((Cz 24), .double), ((Cz 25), .double), ((Cz 26), .int), ((Cz 27), .int), ((Cz 28), .int), ((Cz 29), .int), ((Cz 30), .double), ((Cz 31), .double), ((Cz 32), .int), ((Cz 33), .int), ((Cz 34), .int), ((Cz 35), .int), ((Cz 36), .double), ((Cz 37), .double), ((Cz 38), .int), ((Cz 39), .object RX0), ((Cz 40), .object RX8), ((Cz 41), .int), ((Cz 42), .int), ((Cz 43), .int), ((Cz 44), .int), ((Cz 45), .int), ((Cz 46), .int), ((Cz 47), .int), ((Cz 48), .double), ((Cz 49), .double), ((Cz 50), .int), ((Cz 51), .int), ((Cz 52), .int), ((Cz 53), .int), ((Cz 54), .double), ((Cz 55), .double), ((Cz 56), .int), ((Cz 57), .int), ((Cz 58), .int), ((Cz 59), .int), ((Cz 60), .double), ((Cz 61), .double), ((Cz 62), .int), ((Cz 63), .int), ((Cz 64), .int), ((Cz 65), .int), ((Cz 66), .double), ((Cz 67), .double)] U) : va_K D vwCl (tX (caX h0 Qz Cz)) U := hK.sub [0, 0, 0, 0, 0, 0, 0, 0, 0, 0, 0, 1, 0, 2, 3, 2, 2, 2, 2, 0, 8, 9, 8, 8, 8, 8, 0, 14, 15, 14, 14, 14, 14, 0, 0, 20, 21, 0, 26, 27, 28, 29, 30, 31, 0, 32, 33, 34, 35, 36, 37, 0, 38, 39, 40, 41, 42, 43, 0, 44, 45, 46, 47, 48, 49, 22, 0, 0, 0, 0, 0, 0, 0, 0, 0, 0, 0, 0, 0, 0, 0, 0, 0, 0, 0, 0, 0, 0, 0, 0, 23, 24, 25, 0, 0, 0, 50, 51, 0, 56, 57, 58, 59, 60, 61, 0, 62, 63, 64, 65, 66, 67, 0, 68, 69, 70, 71, 72, 73, 0, 74, 75, 76, 77, 78, 79, 52, 0, 0, 0, 0, 0, 0, 0, 0, 0, 0, 0, 0, 0, 0, 0, 0, 0, 0, 0, 0, 0, 0, 0, 0, 53, 54, 55, 0] rfl
def pmM : List Nat := [0, 1, 2, 3, 4, 5, 6, 7, 8, 9, 10, 11, 12, 13, 14, 15, 16, 17, 18, 19, 20, 21, 22, 23, 24, 25, 26, 27, 28, 29, 30]
def ivM : List Nat := [0, 1, 2, 3, 4, 5, 6, 7, 8, 9, 10, 11, 12, 13, 14, 15, 16, 17, 18, 19, 20, 21, 22, 23, 24, 25, 26, 27, 28, 29, 30]
def σM : gs := fun c => ((fun k => if c = 0 ∧ k = 2 then (-1) else 0), (fun k =>  0), (fun _ => 0), (fun k =>  none))
abbrev wsM (h0 : Nat) (Qz : Nat → Nat) (Cz : Nat → ClassId) : va_W := [(h0, .inr (11, [.int 0, .int 0, .int (-1), .long 0, .long 0, .ref (Qz 0), .ref (Qz 1), .ref (Qz 2), .ref (Qz 3), .ref (Qz 4), .ref (Qz 5), .ref (Qz 6), .ref (Qz 7), .ref (Qz 8), .ref (Qz 9), .ref (Qz 10), .ref (Qz 11), .ref (Qz 12), .ref (Qz 13), .ref (Qz 14), .int 0, .int 0, .int 0, .int 0, .int 0, .int 0, .int 0, .int 0, .int 0, .int 0, .ref (Qz 15), .int 0, .int 0, .int 0, .int 0, .int 0, .int 0, .int 0, .long 0, .ref (Qz 16), .ref (Qz 17), .ref (Qz 18), .ref (Qz 19), .ref (Qz 20), .ref (Qz 21), .ref (Qz 22), .int 0, .int 0, .int 0, .int 0, .double 0, .double 0, .double 0, .double 0, .double 0, .double 0, .double 0, .ref (Qz 23), .ref (Qz 24), .ref (Qz 25), .ref (Qz 26), .ref (Qz 27), .ref (Qz 28), .ref (Qz 29), .int 0, .int 0, .long 0, .long 0, .int 0])), ((Qz 0), .inl ((Cz 0), 8, .inl (fun _ => 0))), ((Qz 1), .inl ((Cz 1), 8, .inl (fun _ => 0))), ((Qz 2), .inl ((Cz 2), 8, .inl (fun _ => 0))), ((Qz 3), .inl ((Cz 3), 8, .inl (fun _ => 0))), ((Qz 4), .inl ((Cz 4), 8, .inl (fun _ => 0))), ((Qz 5), .inl ((Cz 5), 8, .inl (fun _ => 0))), ((Qz 6), .inl ((Cz 6), 8, .inl (fun _ => 0))), ((Qz 7), .inl ((Cz 7), 8, .inl (fun _ => 0))), ((Qz 8), .inl ((Cz 8), 768, .inl (fun _ => 0))), ((Qz 9), .inl ((Cz 9), 8, .inl (fun _ => 0))), ((Qz 10), .inl ((Cz 10), 12, .inl (fun _ => 0))), ((Qz 11), .inl ((Cz 11), 12, .inl (fun _ => 0))), ((Qz 12), .inl ((Cz 12), 12, .inl (fun _ => 0))), ((Qz 13), .inl ((Cz 13), 10, .inl (fun _ => 0))), ((Qz 14), .inl ((Cz 14), 10, .inl (fun _ => 0))), ((Qz 15), .inl ((Cz 15), 900, .inl (fun _ => 0))), ((Qz 16), .inl ((Cz 16), 4, .inl (fun _ => 0))), ((Qz 17), .inl ((Cz 17), 328, .inl (fun _ => 0))), ((Qz 18), .inl ((Cz 18), 328, .inl (fun _ => 0))), ((Qz 19), .inl ((Cz 19), 328, .inl (fun _ => 0))), ((Qz 20), .inl ((Cz 20), 328, .inr (.inr (.inr (.inl (fun _ => 0)))))), ((Qz 21), .inl ((Cz 21), 328, .inr (.inr (.inr (.inl (fun _ => 0)))))), ((Qz 22), .inl ((Cz 22), 60, .inl (fun _ => 0))), ((Qz 23), .inl ((Cz 23), 2001, .inr (.inr (.inr (.inl (fun _ => 0)))))), ((Qz 24), .inl ((Cz 24), 4, .inl (fun _ => 0))), ((Qz 25), .inl ((Cz 25), 328, .inl (fun _ => 0))), ((Qz 26), .inl ((Cz 26), 4, .inl (fun _ => 0))), ((Qz 27), .inl ((Cz 27), 328, .inl (fun _ => 0))), ((Qz 28), .inl ((Cz 28), 4, .inl (fun _ => 0))), ((Qz 29), .inl ((Cz 29), 328, .inl (fun _ => 0)))]
abbrev adM (h0 : Nat) (Qz : Nat → Nat) (Cz : Nat → ClassId) : Nat → Nat := fun c => (((wsM h0 Qz Cz).map Prod.fst)[pmM.getD c 0]?).getD 0
abbrev caM (h0 : Nat) (Qz : Nat → Nat) (Cz : Nat → ClassId) : Nat → ClassId := fun c => [(Cz 0), (Cz 0), (Cz 1), (Cz 2), (Cz 3), (Cz 4), (Cz 5), (Cz 6), (Cz 7), (Cz 8), (Cz 9), (Cz 10), (Cz 11), (Cz 12), (Cz 13), (Cz 14), (Cz 15), (Cz 16), (Cz 17), (Cz 18), (Cz 19), (Cz 20), (Cz 21), (Cz 22), (Cz 23), (Cz 24), (Cz 25), (Cz 26), (Cz 27), (Cz 28), (Cz 29)].getD c (Cz 0)
set_option maxHeartbeats 40000000 in
set_option maxRecDepth 100000 in
theorem new_PM {D : va_G} {H : Heap} (h0 : Nat) (Qz : Nat → Nat) (Cz : Nat → ClassId) (hP : va_P D vwCl (wsM h0 Qz Cz) H) : va_P D vwCl (wM (adM h0 Qz Cz) (caM h0 Qz Cz) σM) H :=
  wG_P (e := fun c => eM (adM h0 Qz Cz) (caM h0 Qz Cz) (σM c) c) (lt_cons (lt_cons (lt_cons (lt_cons (lt_cons (lt_cons (lt_cons (lt_cons (lt_cons (lt_cons (lt_cons (lt_cons (lt_cons (lt_cons (lt_cons (lt_cons (lt_cons (lt_cons (lt_cons (lt_cons (lt_cons (lt_cons (lt_cons (lt_cons (lt_cons (lt_cons (lt_cons (lt_cons (lt_cons (lt_cons (lt_cons lt_nil (hP 0 _ rfl)) (hP 1 _ rfl)) (hP 2 _ rfl)) (hP 3 _ rfl)) (hP 4 _ rfl)) (hP 5 _ rfl)) (hP 6 _ rfl)) (hP 7 _ rfl)) (hP 8 _ rfl)) (hP 9 _ rfl)) (hP 10 _ rfl)) (hP 11 _ rfl)) (hP 12 _ rfl)) (hP 13 _ rfl)) (hP 14 _ rfl)) (hP 15 _ rfl)) (hP 16 _ rfl)) (hP 17 _ rfl)) (hP 18 _ rfl)) (hP 19 _ rfl)) (hP 20 _ rfl)) (hP 21 _ rfl)) (hP 22 _ rfl)) (hP 23 _ rfl)) (hP 24 _ rfl)) (hP 25 _ rfl)) (hP 26 _ rfl)) (hP 27 _ rfl)) (hP 28 _ rfl)) (hP 29 _ rfl)) (hP 30 _ rfl))
set_option maxRecDepth 100000 in
theorem new_DM {A : Nat → Prop} (h0 : Nat) (Qz : Nat → Nat) (Cz : Nat → ClassId) (hD : va_D A (wsM h0 Qz Cz)) : va_D A (wM (adM h0 Qz Cz) (caM h0 Qz Cz) σM) := gD_of (M9 := 31) pmM ivM rfl (by decide +kernel) (by decide +kernel) hD
set_option maxHeartbeats 40000000 in
set_option maxRecDepth 100000 in
theorem new_KM {D : va_G} {U : State} (h0 : Nat) (Qz : Nat → Nat) (Cz : Nat → ClassId) (hK : va_K D vwCl [((Cz 0), .int), ((Cz 1), .int), ((Cz 2), .int), ((Cz 3), .int), ((Cz 4), .int), ((Cz 5), .int), ((Cz 6), .int), ((Cz 7), .int), ((Cz 8), .int), ((Cz 9), .boolean), ((Cz 10), .int), ((Cz 11), .int), ((Cz 12), .int), ((Cz 13), .int), ((Cz 14), .int), ((Cz 15), .byte), ((Cz 16), .int), ((Cz 17), .int), ((Cz 18), .int), ((Cz 19), .int), ((Cz 20), .double), ((Cz 21), .double), ((Cz 22), .byte), ((Cz 23), .double), ((Cz 24), .int), ((Cz 25), .int), ((Cz 26), .int), ((Cz 27), .int), ((Cz 28), .int), ((Cz 29), .int)] U) : va_K D vwCl (tM (caM h0 Qz Cz)) U := hK.sub [0, 0, 1, 2, 3, 4, 5, 6, 7, 8, 9, 10, 11, 12, 13, 14, 15, 16, 17, 18, 19, 20, 21, 22, 23, 24, 25, 26, 27, 28, 29] rfl
theorem okI0 : ∀ a k : Nat, okI a k 0 := by
  intro a k
  unfold okI
  split <;> first | trivial | decide
theorem mok0 : ∀ a k : Nat, mok a k 0 := by
  intro a k
  unfold mok
  split <;> first | trivial | decide
theorem kX10 : ∀ c, kX c = 10 → c = 0 := fun c h => by
  have hc := kX_lt h
  revert h
  revert hc
  revert c
  decide +kernel
theorem inv_σX : InvX σX := by
  refine ⟨fun c k => ?_, fun c k => ?_⟩
  · by_cases h0 : c = 0 ∧ k = 14
    · obtain ⟨rfl, rfl⟩ := h0
      show True
      trivial
    by_cases h1 : c = 1 ∧ k = 2
    · obtain ⟨rfl, rfl⟩ := h1
      show True
      trivial
    by_cases h2 : c = 33 ∧ k = 10
    · obtain ⟨rfl, rfl⟩ := h2
      show True
      trivial
    by_cases h3 : c = 37 ∧ k = 1
    · obtain ⟨rfl, rfl⟩ := h3
      show True
      trivial
    by_cases h4 : c = 37 ∧ k = 8
    · obtain ⟨rfl, rfl⟩ := h4
      show True
      trivial
    by_cases h5 : c = 44 ∧ k = 1
    · obtain ⟨rfl, rfl⟩ := h5
      show True
      trivial
    by_cases h6 : c = 44 ∧ k = 8
    · obtain ⟨rfl, rfl⟩ := h6
      show True
      trivial
    by_cases h7 : c = 51 ∧ k = 1
    · obtain ⟨rfl, rfl⟩ := h7
      show True
      trivial
    by_cases h8 : c = 51 ∧ k = 8
    · obtain ⟨rfl, rfl⟩ := h8
      show True
      trivial
    by_cases h9 : c = 58 ∧ k = 1
    · obtain ⟨rfl, rfl⟩ := h9
      show True
      trivial
    by_cases h10 : c = 58 ∧ k = 8
    · obtain ⟨rfl, rfl⟩ := h10
      show True
      trivial
    by_cases h11 : c = 94 ∧ k = 10
    · obtain ⟨rfl, rfl⟩ := h11
      show True
      trivial
    by_cases h12 : c = 98 ∧ k = 1
    · obtain ⟨rfl, rfl⟩ := h12
      show True
      trivial
    by_cases h13 : c = 98 ∧ k = 8
    · obtain ⟨rfl, rfl⟩ := h13
      show True
      trivial
    by_cases h14 : c = 105 ∧ k = 1
    · obtain ⟨rfl, rfl⟩ := h14
      show True
      trivial
    by_cases h15 : c = 105 ∧ k = 8
    · obtain ⟨rfl, rfl⟩ := h15
      show True
      trivial
    by_cases h16 : c = 112 ∧ k = 1
    · obtain ⟨rfl, rfl⟩ := h16
      show True
      trivial
    by_cases h17 : c = 112 ∧ k = 8
    · obtain ⟨rfl, rfl⟩ := h17
      show True
      trivial
    by_cases h18 : c = 119 ∧ k = 1
    · obtain ⟨rfl, rfl⟩ := h18
      show True
      trivial
    by_cases h19 : c = 119 ∧ k = 8
    · obtain ⟨rfl, rfl⟩ := h19
      show True
      trivial
    have e9 : (σX c).1 k = 0 := by
      unfold σX
      simp only [if_neg h0, if_neg h1, if_neg h2, if_neg h3, if_neg h4, if_neg h5, if_neg h6, if_neg h7, if_neg h8, if_neg h9, if_neg h10, if_neg h11, if_neg h12, if_neg h13, if_neg h14, if_neg h15, if_neg h16, if_neg h17, if_neg h18, if_neg h19]
    rw [e9]
    exact okI0 _ _
  · show okQ (kX c) k (if _ then _ else _)
    repeat' split
    · rename_i h
      obtain ⟨rfl, rfl⟩ := h
      exact ⟨33, rfl, rfl⟩
    · rename_i h
      obtain ⟨rfl, rfl⟩ := h
      exact ⟨94, rfl, rfl⟩
    · rename_i h1 h2
      unfold okQ
      split
      · exact Or.inl rfl
      · exact Or.inl rfl
      · rename_i he
        exact absurd ⟨kX10 c he, rfl⟩ h1
      · rename_i he
        exact absurd ⟨kX10 c he, rfl⟩ h2
      · trivial
theorem inv_σM : InvM σM := by
  intro c k
  show mok (kM c) k (if _ then _ else _)
  split
  · rename_i h
    obtain ⟨rfl, rfl⟩ := h
    trivial
  · exact mok0 _ _
theorem deep_σM : Deep σM := ⟨fun b hb => absurd hb (Nat.not_lt_zero _), fun k hk => absurd hk (Nat.not_lt_zero _), Or.inl rfl, Or.inl rfl⟩

