/-- the kinds of the reference's cells -/
def kM (c : Nat) : Nat := if c = 0 then 11 else if c < 31 then 40 + c else 99
def fX12 (ad : Nat → Nat) (ρ : rw4) : List Value := .int (ρ.1 0) :: .int (ρ.1 1) :: .int (ρ.1 2) :: .long (ρ.2.1 3) :: .long (ρ.2.1 4) :: .ref (ad 1) :: .ref (ad 2) :: .ref (ad 3) :: .ref (ad 4) :: .ref (ad 5) :: .ref (ad 6) :: .ref (ad 7) :: .ref (ad 8) :: .ref (ad 9) :: .ref (ad 10) :: .ref (ad 11) :: .ref (ad 12) :: .ref (ad 13) :: .ref (ad 14) :: .ref (ad 15) :: .int (ρ.1 20) :: .int (ρ.1 21) :: .int (ρ.1 22) :: .int (ρ.1 23) :: .int (ρ.1 24) :: .int (ρ.1 25) :: .int (ρ.1 26) :: .int (ρ.1 27) :: .int (ρ.1 28) :: .int (ρ.1 29) :: .ref (ad 16) :: .int (ρ.1 31) :: .int (ρ.1 32) :: .int (ρ.1 33) :: .int (ρ.1 34) :: .int (ρ.1 35) :: .int (ρ.1 36) :: .int (ρ.1 37) :: .long (ρ.2.1 38) :: .ref (ad 17) :: .ref (ad 18) :: .ref (ad 19) :: .ref (ad 20) :: .ref (ad 21) :: .ref (ad 22) :: .ref (ad 23) :: .int (ρ.1 46) :: .int (ρ.1 47) :: .int (ρ.1 48) :: .int (ρ.1 49) :: .double (ρ.2.2.1 50) :: .double (ρ.2.2.1 51) :: .double (ρ.2.2.1 52) :: .double (ρ.2.2.1 53) :: .double (ρ.2.2.1 54) :: .double (ρ.2.2.1 55) :: .double (ρ.2.2.1 56) :: .ref (ad 24) :: .ref (ad 25) :: .ref (ad 26) :: .ref (ad 27) :: .ref (ad 28) :: .ref (ad 29) :: .ref (ad 30) :: .int (ρ.1 64) :: .int (ρ.1 65) :: .long (ρ.2.1 66) :: .long (ρ.2.1 67) :: .int (ρ.1 68) :: []
def eM (ad : Nat → Nat) (cA : Nat → ClassId) (ρ : rw4) (c : Nat) : va_E := match c with
  | 0 => .inr (11, fX12 ad ρ)
  | 1 => .inl (cA 1, 8, .inl ρ.1)
  | 2 => .inl (cA 2, 8, .inl ρ.1)
  | 3 => .inl (cA 3, 8, .inl ρ.1)
  | 4 => .inl (cA 4, 8, .inl ρ.1)
  | 5 => .inl (cA 5, 8, .inl ρ.1)
  | 6 => .inl (cA 6, 8, .inl ρ.1)
  | 7 => .inl (cA 7, 8, .inl ρ.1)
  | 8 => .inl (cA 8, 8, .inl ρ.1)
  | 9 => .inl (cA 9, 768, .inl ρ.1)
  | 10 => .inl (cA 10, 8, .inl ρ.1)
  | 11 => .inl (cA 11, 12, .inl ρ.1)
  | 12 => .inl (cA 12, 12, .inl ρ.1)
  | 13 => .inl (cA 13, 12, .inl ρ.1)
  | 14 => .inl (cA 14, 10, .inl ρ.1)
  | 15 => .inl (cA 15, 10, .inl ρ.1)
  | 16 => .inl (cA 16, 900, .inl ρ.1)
  | 17 => .inl (cA 17, 4, .inl ρ.1)
  | 18 => .inl (cA 18, 328, .inl ρ.1)
  | 19 => .inl (cA 19, 328, .inl ρ.1)
  | 20 => .inl (cA 20, 328, .inl ρ.1)
  | 21 => .inl (cA 21, 328, .inr (.inr (.inr (.inl ρ.2.2.1))))
  | 22 => .inl (cA 22, 328, .inr (.inr (.inr (.inl ρ.2.2.1))))
  | 23 => .inl (cA 23, 60, .inl ρ.1)
  | 24 => .inl (cA 24, 2001, .inr (.inr (.inr (.inl ρ.2.2.1))))
  | 25 => .inl (cA 25, 4, .inl ρ.1)
  | 26 => .inl (cA 26, 328, .inl ρ.1)
  | 27 => .inl (cA 27, 4, .inl ρ.1)
  | 28 => .inl (cA 28, 328, .inl ρ.1)
  | 29 => .inl (cA 29, 4, .inl ρ.1)
  | 30 => .inl (cA 30, 328, .inl ρ.1)
  | _ => .inr (99, [])
def wM (ad : Nat → Nat) (cA : Nat → ClassId) (σ : gs) : va_W := wG 31 ad (fun c => eM ad cA (σ c) c)
def tyM (c : Nat) : FieldType := match c with
  | 1 => .int
  | 2 => .int
  | 3 => .int
  | 4 => .int
  | 5 => .int
  | 6 => .int
  | 7 => .int
  | 8 => .int
  | 9 => .int
  | 10 => .boolean
  | 11 => .int
  | 12 => .int
  | 13 => .int
  | 14 => .int
  | 15 => .int
  | 16 => .byte
  | 17 => .int
  | 18 => .int
  | 19 => .int
  | 20 => .int
  | 21 => .double
  | 22 => .double
  | 23 => .byte
  | 24 => .double
  | 25 => .int
  | 26 => .int
  | 27 => .int
  | 28 => .int
  | 29 => .int
  | 30 => .int
  | _ => .int
def tM (cA : Nat → ClassId) : List (ClassId × FieldType) := (List.range 31).map (fun c => (if c = 0 then cA 1 else cA c, tyM c))
theorem mat_11 {ad : Nat → Nat} {cA : Nat → ClassId} {σ : gs} (h : kM 0 = 11) : (wM ad cA σ)[0]? = some (ad 0, .inr (11, fX12 ad (σ 0))) := wG_at (Nat.le_of_ble_eq_true rfl)
theorem mse_11_0 {ad : Nat → Nat} {cA : Nat → ClassId} {σ : gs} {x : Int32} (h : kM 0 = 11) : (wM ad cA σ).set 0 (ad 0, .inr (11, (fX12 ad (σ 0)).set 0 (.int x))) = wM ad cA (gI σ 0 0 x) := by
  have e1 : (Sum.inr (11, (fX12 ad (σ 0)).set 0 (.int x)) : va_E) = eM ad cA ((gI σ 0 0 x) 0) 0 := by
    show _ = (Sum.inr (11, fX12 ad ((va_up σ 0 (upd (σ 0).1 0 x, (σ 0).2)) 0)) : va_E)
    rw [va_up_self]
    rfl
  rw [e1]
  exact wG_set (e := fun i => eM ad cA (σ i) i) (e' := fun i => eM ad cA ((gI σ 0 0 x) i) i) (fun i hi => by show eM ad cA ((gI σ 0 0 x) i) i = eM ad cA (σ i) i; rw [gI_ne σ 0 _ hi])
theorem mse_11_1 {ad : Nat → Nat} {cA : Nat → ClassId} {σ : gs} {x : Int32} (h : kM 0 = 11) : (wM ad cA σ).set 0 (ad 0, .inr (11, (fX12 ad (σ 0)).set 1 (.int x))) = wM ad cA (gI σ 0 1 x) := by
  have e1 : (Sum.inr (11, (fX12 ad (σ 0)).set 1 (.int x)) : va_E) = eM ad cA ((gI σ 0 1 x) 0) 0 := by
    show _ = (Sum.inr (11, fX12 ad ((va_up σ 0 (upd (σ 0).1 1 x, (σ 0).2)) 0)) : va_E)
    rw [va_up_self]
    rfl
  rw [e1]
  exact wG_set (e := fun i => eM ad cA (σ i) i) (e' := fun i => eM ad cA ((gI σ 0 1 x) i) i) (fun i hi => by show eM ad cA ((gI σ 0 1 x) i) i = eM ad cA (σ i) i; rw [gI_ne σ 1 _ hi])
theorem mse_11_2 {ad : Nat → Nat} {cA : Nat → ClassId} {σ : gs} {x : Int32} (h : kM 0 = 11) : (wM ad cA σ).set 0 (ad 0, .inr (11, (fX12 ad (σ 0)).set 2 (.int x))) = wM ad cA (gI σ 0 2 x) := by
  have e1 : (Sum.inr (11, (fX12 ad (σ 0)).set 2 (.int x)) : va_E) = eM ad cA ((gI σ 0 2 x) 0) 0 := by
    show _ = (Sum.inr (11, fX12 ad ((va_up σ 0 (upd (σ 0).1 2 x, (σ 0).2)) 0)) : va_E)
    rw [va_up_self]
    rfl
  rw [e1]
  exact wG_set (e := fun i => eM ad cA (σ i) i) (e' := fun i => eM ad cA ((gI σ 0 2 x) i) i) (fun i hi => by show eM ad cA ((gI σ 0 2 x) i) i = eM ad cA (σ i) i; rw [gI_ne σ 2 _ hi])
theorem mse_11_3 {ad : Nat → Nat} {cA : Nat → ClassId} {σ : gs} {x : Int64} (h : kM 0 = 11) : (wM ad cA σ).set 0 (ad 0, .inr (11, (fX12 ad (σ 0)).set 3 (.long x))) = wM ad cA (gL σ 0 3 x) := by
  have e1 : (Sum.inr (11, (fX12 ad (σ 0)).set 3 (.long x)) : va_E) = eM ad cA ((gL σ 0 3 x) 0) 0 := by
    show _ = (Sum.inr (11, fX12 ad ((va_up σ 0 ((σ 0).1, vp_updL (σ 0).2.1 3 x, (σ 0).2.2)) 0)) : va_E)
    rw [va_up_self]
    rfl
  rw [e1]
  exact wG_set (e := fun i => eM ad cA (σ i) i) (e' := fun i => eM ad cA ((gL σ 0 3 x) i) i) (fun i hi => by show eM ad cA ((gL σ 0 3 x) i) i = eM ad cA (σ i) i; rw [gL_ne σ 3 _ hi])
theorem mse_11_4 {ad : Nat → Nat} {cA : Nat → ClassId} {σ : gs} {x : Int64} (h : kM 0 = 11) : (wM ad cA σ).set 0 (ad 0, .inr (11, (fX12 ad (σ 0)).set 4 (.long x))) = wM ad cA (gL σ 0 4 x) := by
  have e1 : (Sum.inr (11, (fX12 ad (σ 0)).set 4 (.long x)) : va_E) = eM ad cA ((gL σ 0 4 x) 0) 0 := by
    show _ = (Sum.inr (11, fX12 ad ((va_up σ 0 ((σ 0).1, vp_updL (σ 0).2.1 4 x, (σ 0).2.2)) 0)) : va_E)
    rw [va_up_self]
    rfl
  rw [e1]
  exact wG_set (e := fun i => eM ad cA (σ i) i) (e' := fun i => eM ad cA ((gL σ 0 4 x) i) i) (fun i hi => by show eM ad cA ((gL σ 0 4 x) i) i = eM ad cA (σ i) i; rw [gL_ne σ 4 _ hi])
theorem mse_11_20 {ad : Nat → Nat} {cA : Nat → ClassId} {σ : gs} {x : Int32} (h : kM 0 = 11) : (wM ad cA σ).set 0 (ad 0, .inr (11, (fX12 ad (σ 0)).set 20 (.int x))) = wM ad cA (gI σ 0 20 x) := by
  have e1 : (Sum.inr (11, (fX12 ad (σ 0)).set 20 (.int x)) : va_E) = eM ad cA ((gI σ 0 20 x) 0) 0 := by
    show _ = (Sum.inr (11, fX12 ad ((va_up σ 0 (upd (σ 0).1 20 x, (σ 0).2)) 0)) : va_E)
    rw [va_up_self]
    rfl
  rw [e1]
  exact wG_set (e := fun i => eM ad cA (σ i) i) (e' := fun i => eM ad cA ((gI σ 0 20 x) i) i) (fun i hi => by show eM ad cA ((gI σ 0 20 x) i) i = eM ad cA (σ i) i; rw [gI_ne σ 20 _ hi])
theorem mse_11_21 {ad : Nat → Nat} {cA : Nat → ClassId} {σ : gs} {x : Int32} (h : kM 0 = 11) : (wM ad cA σ).set 0 (ad 0, .inr (11, (fX12 ad (σ 0)).set 21 (.int x))) = wM ad cA (gI σ 0 21 x) := by
  have e1 : (Sum.inr (11, (fX12 ad (σ 0)).set 21 (.int x)) : va_E) = eM ad cA ((gI σ 0 21 x) 0) 0 := by
    show _ = (Sum.inr (11, fX12 ad ((va_up σ 0 (upd (σ 0).1 21 x, (σ 0).2)) 0)) : va_E)
    rw [va_up_self]
    rfl
  rw [e1]
  exact wG_set (e := fun i => eM ad cA (σ i) i) (e' := fun i => eM ad cA ((gI σ 0 21 x) i) i) (fun i hi => by show eM ad cA ((gI σ 0 21 x) i) i = eM ad cA (σ i) i; rw [gI_ne σ 21 _ hi])
theorem mse_11_22 {ad : Nat → Nat} {cA : Nat → ClassId} {σ : gs} {x : Int32} (h : kM 0 = 11) : (wM ad cA σ).set 0 (ad 0, .inr (11, (fX12 ad (σ 0)).set 22 (.int x))) = wM ad cA (gI σ 0 22 x) := by
  have e1 : (Sum.inr (11, (fX12 ad (σ 0)).set 22 (.int x)) : va_E) = eM ad cA ((gI σ 0 22 x) 0) 0 := by
    show _ = (Sum.inr (11, fX12 ad ((va_up σ 0 (upd (σ 0).1 22 x, (σ 0).2)) 0)) : va_E)
    rw [va_up_self]
    rfl
  rw [e1]
  exact wG_set (e := fun i => eM ad cA (σ i) i) (e' := fun i => eM ad cA ((gI σ 0 22 x) i) i) (fun i hi => by show eM ad cA ((gI σ 0 22 x) i) i = eM ad cA (σ i) i; rw [gI_ne σ 22 _ hi])
theorem mse_11_23 {ad : Nat → Nat} {cA : Nat → ClassId} {σ : gs} {x : Int32} (h : kM 0 = 11) : (wM ad cA σ).set 0 (ad 0, .inr (11, (fX12 ad (σ 0)).set 23 (.int x))) = wM ad cA (gI σ 0 23 x) := by
  have e1 : (Sum.inr (11, (fX12 ad (σ 0)).set 23 (.int x)) : va_E) = eM ad cA ((gI σ 0 23 x) 0) 0 := by
    show _ = (Sum.inr (11, fX12 ad ((va_up σ 0 (upd (σ 0).1 23 x, (σ 0).2)) 0)) : va_E)
    rw [va_up_self]
    rfl
  rw [e1]
  exact wG_set (e := fun i => eM ad cA (σ i) i) (e' := fun i => eM ad cA ((gI σ 0 23 x) i) i) (fun i hi => by show eM ad cA ((gI σ 0 23 x) i) i = eM ad cA (σ i) i; rw [gI_ne σ 23 _ hi])
theorem mse_11_24 {ad : Nat → Nat} {cA : Nat → ClassId} {σ : gs} {x : Int32} (h : kM 0 = 11) : (wM ad cA σ).set 0 (ad 0, .inr (11, (fX12 ad (σ 0)).set 24 (.int x))) = wM ad cA (gI σ 0 24 x) := by
  have e1 : (Sum.inr (11, (fX12 ad (σ 0)).set 24 (.int x)) : va_E) = eM ad cA ((gI σ 0 24 x) 0) 0 := by
    show _ = (Sum.inr (11, fX12 ad ((va_up σ 0 (upd (σ 0).1 24 x, (σ 0).2)) 0)) : va_E)
    rw [va_up_self]
    rfl
  rw [e1]
  exact wG_set (e := fun i => eM ad cA (σ i) i) (e' := fun i => eM ad cA ((gI σ 0 24 x) i) i) (fun i hi => by show eM ad cA ((gI σ 0 24 x) i) i = eM ad cA (σ i) i; rw [gI_ne σ 24 _ hi])
theorem mse_11_25 {ad : Nat → Nat} {cA : Nat → ClassId} {σ : gs} {x : Int32} (h : kM 0 = 11) : (wM ad cA σ).set 0 (ad 0, .inr (11, (fX12 ad (σ 0)).set 25 (.int x))) = wM ad cA (gI σ 0 25 x) := by
  have e1 : (Sum.inr (11, (fX12 ad (σ 0)).set 25 (.int x)) : va_E) = eM ad cA ((gI σ 0 25 x) 0) 0 := by
    show _ = (Sum.inr (11, fX12 ad ((va_up σ 0 (upd (σ 0).1 25 x, (σ 0).2)) 0)) : va_E)
    rw [va_up_self]
    rfl
  rw [e1]
  exact wG_set (e := fun i => eM ad cA (σ i) i) (e' := fun i => eM ad cA ((gI σ 0 25 x) i) i) (fun i hi => by show eM ad cA ((gI σ 0 25 x) i) i = eM ad cA (σ i) i; rw [gI_ne σ 25 _ hi])
theorem mse_11_26 {ad : Nat → Nat} {cA : Nat → ClassId} {σ : gs} {x : Int32} (h : kM 0 = 11) : (wM ad cA σ).set 0 (ad 0, .inr (11, (fX12 ad (σ 0)).set 26 (.int x))) = wM ad cA (gI σ 0 26 x) := by
  have e1 : (Sum.inr (11, (fX12 ad (σ 0)).set 26 (.int x)) : va_E) = eM ad cA ((gI σ 0 26 x) 0) 0 := by
    show _ = (Sum.inr (11, fX12 ad ((va_up σ 0 (upd (σ 0).1 26 x, (σ 0).2)) 0)) : va_E)
    rw [va_up_self]
    rfl
  rw [e1]
  exact wG_set (e := fun i => eM ad cA (σ i) i) (e' := fun i => eM ad cA ((gI σ 0 26 x) i) i) (fun i hi => by show eM ad cA ((gI σ 0 26 x) i) i = eM ad cA (σ i) i; rw [gI_ne σ 26 _ hi])
theorem mse_11_27 {ad : Nat → Nat} {cA : Nat → ClassId} {σ : gs} {x : Int32} (h : kM 0 = 11) : (wM ad cA σ).set 0 (ad 0, .inr (11, (fX12 ad (σ 0)).set 27 (.int x))) = wM ad cA (gI σ 0 27 x) := by
  have e1 : (Sum.inr (11, (fX12 ad (σ 0)).set 27 (.int x)) : va_E) = eM ad cA ((gI σ 0 27 x) 0) 0 := by
    show _ = (Sum.inr (11, fX12 ad ((va_up σ 0 (upd (σ 0).1 27 x, (σ 0).2)) 0)) : va_E)
    rw [va_up_self]
    rfl
  rw [e1]
  exact wG_set (e := fun i => eM ad cA (σ i) i) (e' := fun i => eM ad cA ((gI σ 0 27 x) i) i) (fun i hi => by show eM ad cA ((gI σ 0 27 x) i) i = eM ad cA (σ i) i; rw [gI_ne σ 27 _ hi])
theorem mse_11_28 {ad : Nat → Nat} {cA : Nat → ClassId} {σ : gs} {x : Int32} (h : kM 0 = 11) : (wM ad cA σ).set 0 (ad 0, .inr (11, (fX12 ad (σ 0)).set 28 (.int x))) = wM ad cA (gI σ 0 28 x) := by
  have e1 : (Sum.inr (11, (fX12 ad (σ 0)).set 28 (.int x)) : va_E) = eM ad cA ((gI σ 0 28 x) 0) 0 := by
    show _ = (Sum.inr (11, fX12 ad ((va_up σ 0 (upd (σ 0).1 28 x, (σ 0).2)) 0)) : va_E)
    rw [va_up_self]
    rfl
  rw [e1]
  exact wG_set (e := fun i => eM ad cA (σ i) i) (e' := fun i => eM ad cA ((gI σ 0 28 x) i) i) (fun i hi => by show eM ad cA ((gI σ 0 28 x) i) i = eM ad cA (σ i) i; rw [gI_ne σ 28 _ hi])
theorem mse_11_29 {ad : Nat → Nat} {cA : Nat → ClassId} {σ : gs} {x : Int32} (h : kM 0 = 11) : (wM ad cA σ).set 0 (ad 0, .inr (11, (fX12 ad (σ 0)).set 29 (.int x))) = wM ad cA (gI σ 0 29 x) := by
  have e1 : (Sum.inr (11, (fX12 ad (σ 0)).set 29 (.int x)) : va_E) = eM ad cA ((gI σ 0 29 x) 0) 0 := by
    show _ = (Sum.inr (11, fX12 ad ((va_up σ 0 (upd (σ 0).1 29 x, (σ 0).2)) 0)) : va_E)
    rw [va_up_self]
    rfl
  rw [e1]
  exact wG_set (e := fun i => eM ad cA (σ i) i) (e' := fun i => eM ad cA ((gI σ 0 29 x) i) i) (fun i hi => by show eM ad cA ((gI σ 0 29 x) i) i = eM ad cA (σ i) i; rw [gI_ne σ 29 _ hi])
theorem mse_11_31 {ad : Nat → Nat} {cA : Nat → ClassId} {σ : gs} {x : Int32} (h : kM 0 = 11) : (wM ad cA σ).set 0 (ad 0, .inr (11, (fX12 ad (σ 0)).set 31 (.int x))) = wM ad cA (gI σ 0 31 x) := by
  have e1 : (Sum.inr (11, (fX12 ad (σ 0)).set 31 (.int x)) : va_E) = eM ad cA ((gI σ 0 31 x) 0) 0 := by
    show _ = (Sum.inr (11, fX12 ad ((va_up σ 0 (upd (σ 0).1 31 x, (σ 0).2)) 0)) : va_E)
    rw [va_up_self]
    rfl
  rw [e1]
  exact wG_set (e := fun i => eM ad cA (σ i) i) (e' := fun i => eM ad cA ((gI σ 0 31 x) i) i) (fun i hi => by show eM ad cA ((gI σ 0 31 x) i) i = eM ad cA (σ i) i; rw [gI_ne σ 31 _ hi])
theorem mse_11_32 {ad : Nat → Nat} {cA : Nat → ClassId} {σ : gs} {x : Int32} (h : kM 0 = 11) : (wM ad cA σ).set 0 (ad 0, .inr (11, (fX12 ad (σ 0)).set 32 (.int x))) = wM ad cA (gI σ 0 32 x) := by
  have e1 : (Sum.inr (11, (fX12 ad (σ 0)).set 32 (.int x)) : va_E) = eM ad cA ((gI σ 0 32 x) 0) 0 := by
    show _ = (Sum.inr (11, fX12 ad ((va_up σ 0 (upd (σ 0).1 32 x, (σ 0).2)) 0)) : va_E)
    rw [va_up_self]
    rfl
  rw [e1]
  exact wG_set (e := fun i => eM ad cA (σ i) i) (e' := fun i => eM ad cA ((gI σ 0 32 x) i) i) (fun i hi => by show eM ad cA ((gI σ 0 32 x) i) i = eM ad cA (σ i) i; rw [gI_ne σ 32 _ hi])
theorem mse_11_33 {ad : Nat → Nat} {cA : Nat → ClassId} {σ : gs} {x : Int32} (h : kM 0 = 11) : (wM ad cA σ).set 0 (ad 0, .inr (11, (fX12 ad (σ 0)).set 33 (.int x))) = wM ad cA (gI σ 0 33 x) := by
  have e1 : (Sum.inr (11, (fX12 ad (σ 0)).set 33 (.int x)) : va_E) = eM ad cA ((gI σ 0 33 x) 0) 0 := by
    show _ = (Sum.inr (11, fX12 ad ((va_up σ 0 (upd (σ 0).1 33 x, (σ 0).2)) 0)) : va_E)
    rw [va_up_self]
    rfl
  rw [e1]
  exact wG_set (e := fun i => eM ad cA (σ i) i) (e' := fun i => eM ad cA ((gI σ 0 33 x) i) i) (fun i hi => by show eM ad cA ((gI σ 0 33 x) i) i = eM ad cA (σ i) i; rw [gI_ne σ 33 _ hi])
theorem mse_11_34 {ad : Nat → Nat} {cA : Nat → ClassId} {σ : gs} {x : Int32} (h : kM 0 = 11) : (wM ad cA σ).set 0 (ad 0, .inr (11, (fX12 ad (σ 0)).set 34 (.int x))) = wM ad cA (gI σ 0 34 x) := by
  have e1 : (Sum.inr (11, (fX12 ad (σ 0)).set 34 (.int x)) : va_E) = eM ad cA ((gI σ 0 34 x) 0) 0 := by
    show _ = (Sum.inr (11, fX12 ad ((va_up σ 0 (upd (σ 0).1 34 x, (σ 0).2)) 0)) : va_E)
    rw [va_up_self]
    rfl
  rw [e1]
  exact wG_set (e := fun i => eM ad cA (σ i) i) (e' := fun i => eM ad cA ((gI σ 0 34 x) i) i) (fun i hi => by show eM ad cA ((gI σ 0 34 x) i) i = eM ad cA (σ i) i; rw [gI_ne σ 34 _ hi])
theorem mse_11_35 {ad : Nat → Nat} {cA : Nat → ClassId} {σ : gs} {x : Int32} (h : kM 0 = 11) : (wM ad cA σ).set 0 (ad 0, .inr (11, (fX12 ad (σ 0)).set 35 (.int x))) = wM ad cA (gI σ 0 35 x) := by
  have e1 : (Sum.inr (11, (fX12 ad (σ 0)).set 35 (.int x)) : va_E) = eM ad cA ((gI σ 0 35 x) 0) 0 := by
    show _ = (Sum.inr (11, fX12 ad ((va_up σ 0 (upd (σ 0).1 35 x, (σ 0).2)) 0)) : va_E)
    rw [va_up_self]
    rfl
  rw [e1]
  exact wG_set (e := fun i => eM ad cA (σ i) i) (e' := fun i => eM ad cA ((gI σ 0 35 x) i) i) (fun i hi => by show eM ad cA ((gI σ 0 35 x) i) i = eM ad cA (σ i) i; rw [gI_ne σ 35 _ hi])
theorem mse_11_36 {ad : Nat → Nat} {cA : Nat → ClassId} {σ : gs} {x : Int32} (h : kM 0 = 11) : (wM ad cA σ).set 0 (ad 0, .inr (11, (fX12 ad (σ 0)).set 36 (.int x))) = wM ad cA (gI σ 0 36 x) := by
  have e1 : (Sum.inr (11, (fX12 ad (σ 0)).set 36 (.int x)) : va_E) = eM ad cA ((gI σ 0 36 x) 0) 0 := by
    show _ = (Sum.inr (11, fX12 ad ((va_up σ 0 (upd (σ 0).1 36 x, (σ 0).2)) 0)) : va_E)
    rw [va_up_self]
    rfl
  rw [e1]
  exact wG_set (e := fun i => eM ad cA (σ i) i) (e' := fun i => eM ad cA ((gI σ 0 36 x) i) i) (fun i hi => by show eM ad cA ((gI σ 0 36 x) i) i = eM ad cA (σ i) i; rw [gI_ne σ 36 _ hi])
theorem mse_11_37 {ad : Nat → Nat} {cA : Nat → ClassId} {σ : gs} {x : Int32} (h : kM 0 = 11) : (wM ad cA σ).set 0 (ad 0, .inr (11, (fX12 ad (σ 0)).set 37 (.int x))) = wM ad cA (gI σ 0 37 x) := by
  have e1 : (Sum.inr (11, (fX12 ad (σ 0)).set 37 (.int x)) : va_E) = eM ad cA ((gI σ 0 37 x) 0) 0 := by
    show _ = (Sum.inr (11, fX12 ad ((va_up σ 0 (upd (σ 0).1 37 x, (σ 0).2)) 0)) : va_E)
    rw [va_up_self]
    rfl
  rw [e1]
  exact wG_set (e := fun i => eM ad cA (σ i) i) (e' := fun i => eM ad cA ((gI σ 0 37 x) i) i) (fun i hi => by show eM ad cA ((gI σ 0 37 x) i) i = eM ad cA (σ i) i; rw [gI_ne σ 37 _ hi])
theorem mse_11_38 {ad : Nat → Nat} {cA : Nat → ClassId} {σ : gs} {x : Int64} (h : kM 0 = 11) : (wM ad cA σ).set 0 (ad 0, .inr (11, (fX12 ad (σ 0)).set 38 (.long x))) = wM ad cA (gL σ 0 38 x) := by
  have e1 : (Sum.inr (11, (fX12 ad (σ 0)).set 38 (.long x)) : va_E) = eM ad cA ((gL σ 0 38 x) 0) 0 := by
    show _ = (Sum.inr (11, fX12 ad ((va_up σ 0 ((σ 0).1, vp_updL (σ 0).2.1 38 x, (σ 0).2.2)) 0)) : va_E)
    rw [va_up_self]
    rfl
  rw [e1]
  exact wG_set (e := fun i => eM ad cA (σ i) i) (e' := fun i => eM ad cA ((gL σ 0 38 x) i) i) (fun i hi => by show eM ad cA ((gL σ 0 38 x) i) i = eM ad cA (σ i) i; rw [gL_ne σ 38 _ hi])
theorem mse_11_46 {ad : Nat → Nat} {cA : Nat → ClassId} {σ : gs} {x : Int32} (h : kM 0 = 11) : (wM ad cA σ).set 0 (ad 0, .inr (11, (fX12 ad (σ 0)).set 46 (.int x))) = wM ad cA (gI σ 0 46 x) := by
  have e1 : (Sum.inr (11, (fX12 ad (σ 0)).set 46 (.int x)) : va_E) = eM ad cA ((gI σ 0 46 x) 0) 0 := by
    show _ = (Sum.inr (11, fX12 ad ((va_up σ 0 (upd (σ 0).1 46 x, (σ 0).2)) 0)) : va_E)
    rw [va_up_self]
    rfl
  rw [e1]
  exact wG_set (e := fun i => eM ad cA (σ i) i) (e' := fun i => eM ad cA ((gI σ 0 46 x) i) i) (fun i hi => by show eM ad cA ((gI σ 0 46 x) i) i = eM ad cA (σ i) i; rw [gI_ne σ 46 _ hi])
theorem mse_11_47 {ad : Nat → Nat} {cA : Nat → ClassId} {σ : gs} {x : Int32} (h : kM 0 = 11) : (wM ad cA σ).set 0 (ad 0, .inr (11, (fX12 ad (σ 0)).set 47 (.int x))) = wM ad cA (gI σ 0 47 x) := by
  have e1 : (Sum.inr (11, (fX12 ad (σ 0)).set 47 (.int x)) : va_E) = eM ad cA ((gI σ 0 47 x) 0) 0 := by
    show _ = (Sum.inr (11, fX12 ad ((va_up σ 0 (upd (σ 0).1 47 x, (σ 0).2)) 0)) : va_E)
    rw [va_up_self]
    rfl
  rw [e1]
  exact wG_set (e := fun i => eM ad cA (σ i) i) (e' := fun i => eM ad cA ((gI σ 0 47 x) i) i) (fun i hi => by show eM ad cA ((gI σ 0 47 x) i) i = eM ad cA (σ i) i; rw [gI_ne σ 47 _ hi])
theorem mse_11_48 {ad : Nat → Nat} {cA : Nat → ClassId} {σ : gs} {x : Int32} (h : kM 0 = 11) : (wM ad cA σ).set 0 (ad 0, .inr (11, (fX12 ad (σ 0)).set 48 (.int x))) = wM ad cA (gI σ 0 48 x) := by
  have e1 : (Sum.inr (11, (fX12 ad (σ 0)).set 48 (.int x)) : va_E) = eM ad cA ((gI σ 0 48 x) 0) 0 := by
    show _ = (Sum.inr (11, fX12 ad ((va_up σ 0 (upd (σ 0).1 48 x, (σ 0).2)) 0)) : va_E)
    rw [va_up_self]
    rfl
  rw [e1]
  exact wG_set (e := fun i => eM ad cA (σ i) i) (e' := fun i => eM ad cA ((gI σ 0 48 x) i) i) (fun i hi => by show eM ad cA ((gI σ 0 48 x) i) i = eM ad cA (σ i) i; rw [gI_ne σ 48 _ hi])
theorem mse_11_49 {ad : Nat → Nat} {cA : Nat → ClassId} {σ : gs} {x : Int32} (h : kM 0 = 11) : (wM ad cA σ).set 0 (ad 0, .inr (11, (fX12 ad (σ 0)).set 49 (.int x))) = wM ad cA (gI σ 0 49 x) := by
  have e1 : (Sum.inr (11, (fX12 ad (σ 0)).set 49 (.int x)) : va_E) = eM ad cA ((gI σ 0 49 x) 0) 0 := by
    show _ = (Sum.inr (11, fX12 ad ((va_up σ 0 (upd (σ 0).1 49 x, (σ 0).2)) 0)) : va_E)
    rw [va_up_self]
    rfl
  rw [e1]
  exact wG_set (e := fun i => eM ad cA (σ i) i) (e' := fun i => eM ad cA ((gI σ 0 49 x) i) i) (fun i hi => by show eM ad cA ((gI σ 0 49 x) i) i = eM ad cA (σ i) i; rw [gI_ne σ 49 _ hi])
theorem mse_11_50 {ad : Nat → Nat} {cA : Nat → ClassId} {σ : gs} {x : UInt64} (h : kM 0 = 11) : (wM ad cA σ).set 0 (ad 0, .inr (11, (fX12 ad (σ 0)).set 50 (.double x))) = wM ad cA (gD σ 0 50 x) := by
  have e1 : (Sum.inr (11, (fX12 ad (σ 0)).set 50 (.double x)) : va_E) = eM ad cA ((gD σ 0 50 x) 0) 0 := by
    show _ = (Sum.inr (11, fX12 ad ((va_up σ 0 ((σ 0).1, (σ 0).2.1, vf_upd (σ 0).2.2.1 50 x, (σ 0).2.2.2)) 0)) : va_E)
    rw [va_up_self]
    rfl
  rw [e1]
  exact wG_set (e := fun i => eM ad cA (σ i) i) (e' := fun i => eM ad cA ((gD σ 0 50 x) i) i) (fun i hi => by show eM ad cA ((gD σ 0 50 x) i) i = eM ad cA (σ i) i; rw [gD_ne σ 50 _ hi])
theorem mse_11_51 {ad : Nat → Nat} {cA : Nat → ClassId} {σ : gs} {x : UInt64} (h : kM 0 = 11) : (wM ad cA σ).set 0 (ad 0, .inr (11, (fX12 ad (σ 0)).set 51 (.double x))) = wM ad cA (gD σ 0 51 x) := by
  have e1 : (Sum.inr (11, (fX12 ad (σ 0)).set 51 (.double x)) : va_E) = eM ad cA ((gD σ 0 51 x) 0) 0 := by
    show _ = (Sum.inr (11, fX12 ad ((va_up σ 0 ((σ 0).1, (σ 0).2.1, vf_upd (σ 0).2.2.1 51 x, (σ 0).2.2.2)) 0)) : va_E)
    rw [va_up_self]
    rfl
  rw [e1]
  exact wG_set (e := fun i => eM ad cA (σ i) i) (e' := fun i => eM ad cA ((gD σ 0 51 x) i) i) (fun i hi => by show eM ad cA ((gD σ 0 51 x) i) i = eM ad cA (σ i) i; rw [gD_ne σ 51 _ hi])
theorem mse_11_52 {ad : Nat → Nat} {cA : Nat → ClassId} {σ : gs} {x : UInt64} (h : kM 0 = 11) : (wM ad cA σ).set 0 (ad 0, .inr (11, (fX12 ad (σ 0)).set 52 (.double x))) = wM ad cA (gD σ 0 52 x) := by
  have e1 : (Sum.inr (11, (fX12 ad (σ 0)).set 52 (.double x)) : va_E) = eM ad cA ((gD σ 0 52 x) 0) 0 := by
    show _ = (Sum.inr (11, fX12 ad ((va_up σ 0 ((σ 0).1, (σ 0).2.1, vf_upd (σ 0).2.2.1 52 x, (σ 0).2.2.2)) 0)) : va_E)
    rw [va_up_self]
    rfl
  rw [e1]
  exact wG_set (e := fun i => eM ad cA (σ i) i) (e' := fun i => eM ad cA ((gD σ 0 52 x) i) i) (fun i hi => by show eM ad cA ((gD σ 0 52 x) i) i = eM ad cA (σ i) i; rw [gD_ne σ 52 _ hi])
theorem mse_11_53 {ad : Nat → Nat} {cA : Nat → ClassId} {σ : gs} {x : UInt64} (h : kM 0 = 11) : (wM ad cA σ).set 0 (ad 0, .inr (11, (fX12 ad (σ 0)).set 53 (.double x))) = wM ad cA (gD σ 0 53 x) := by
  have e1 : (Sum.inr (11, (fX12 ad (σ 0)).set 53 (.double x)) : va_E) = eM ad cA ((gD σ 0 53 x) 0) 0 := by
    show _ = (Sum.inr (11, fX12 ad ((va_up σ 0 ((σ 0).1, (σ 0).2.1, vf_upd (σ 0).2.2.1 53 x, (σ 0).2.2.2)) 0)) : va_E)
    rw [va_up_self]
    rfl
  rw [e1]
  exact wG_set (e := fun i => eM ad cA (σ i) i) (e' := fun i => eM ad cA ((gD σ 0 53 x) i) i) (fun i hi => by show eM ad cA ((gD σ 0 53 x) i) i = eM ad cA (σ i) i; rw [gD_ne σ 53 _ hi])
theorem mse_11_54 {ad : Nat → Nat} {cA : Nat → ClassId} {σ : gs} {x : UInt64} (h : kM 0 = 11) : (wM ad cA σ).set 0 (ad 0, .inr (11, (fX12 ad (σ 0)).set 54 (.double x))) = wM ad cA (gD σ 0 54 x) := by
  have e1 : (Sum.inr (11, (fX12 ad (σ 0)).set 54 (.double x)) : va_E) = eM ad cA ((gD σ 0 54 x) 0) 0 := by
    show _ = (Sum.inr (11, fX12 ad ((va_up σ 0 ((σ 0).1, (σ 0).2.1, vf_upd (σ 0).2.2.1 54 x, (σ 0).2.2.2)) 0)) : va_E)
    rw [va_up_self]
    rfl
  rw [e1]
  exact wG_set (e := fun i => eM ad cA (σ i) i) (e' := fun i => eM ad cA ((gD σ 0 54 x) i) i) (fun i hi => by show eM ad cA ((gD σ 0 54 x) i) i = eM ad cA (σ i) i; rw [gD_ne σ 54 _ hi])
theorem mse_11_55 {ad : Nat → Nat} {cA : Nat → ClassId} {σ : gs} {x : UInt64} (h : kM 0 = 11) : (wM ad cA σ).set 0 (ad 0, .inr (11, (fX12 ad (σ 0)).set 55 (.double x))) = wM ad cA (gD σ 0 55 x) := by
  have e1 : (Sum.inr (11, (fX12 ad (σ 0)).set 55 (.double x)) : va_E) = eM ad cA ((gD σ 0 55 x) 0) 0 := by
    show _ = (Sum.inr (11, fX12 ad ((va_up σ 0 ((σ 0).1, (σ 0).2.1, vf_upd (σ 0).2.2.1 55 x, (σ 0).2.2.2)) 0)) : va_E)
    rw [va_up_self]
    rfl
  rw [e1]
  exact wG_set (e := fun i => eM ad cA (σ i) i) (e' := fun i => eM ad cA ((gD σ 0 55 x) i) i) (fun i hi => by show eM ad cA ((gD σ 0 55 x) i) i = eM ad cA (σ i) i; rw [gD_ne σ 55 _ hi])
theorem mse_11_56 {ad : Nat → Nat} {cA : Nat → ClassId} {σ : gs} {x : UInt64} (h : kM 0 = 11) : (wM ad cA σ).set 0 (ad 0, .inr (11, (fX12 ad (σ 0)).set 56 (.double x))) = wM ad cA (gD σ 0 56 x) := by
  have e1 : (Sum.inr (11, (fX12 ad (σ 0)).set 56 (.double x)) : va_E) = eM ad cA ((gD σ 0 56 x) 0) 0 := by
    show _ = (Sum.inr (11, fX12 ad ((va_up σ 0 ((σ 0).1, (σ 0).2.1, vf_upd (σ 0).2.2.1 56 x, (σ 0).2.2.2)) 0)) : va_E)
    rw [va_up_self]
    rfl
  rw [e1]
  exact wG_set (e := fun i => eM ad cA (σ i) i) (e' := fun i => eM ad cA ((gD σ 0 56 x) i) i) (fun i hi => by show eM ad cA ((gD σ 0 56 x) i) i = eM ad cA (σ i) i; rw [gD_ne σ 56 _ hi])
theorem mse_11_64 {ad : Nat → Nat} {cA : Nat → ClassId} {σ : gs} {x : Int32} (h : kM 0 = 11) : (wM ad cA σ).set 0 (ad 0, .inr (11, (fX12 ad (σ 0)).set 64 (.int x))) = wM ad cA (gI σ 0 64 x) := by
  have e1 : (Sum.inr (11, (fX12 ad (σ 0)).set 64 (.int x)) : va_E) = eM ad cA ((gI σ 0 64 x) 0) 0 := by
    show _ = (Sum.inr (11, fX12 ad ((va_up σ 0 (upd (σ 0).1 64 x, (σ 0).2)) 0)) : va_E)
    rw [va_up_self]
    rfl
  rw [e1]
  exact wG_set (e := fun i => eM ad cA (σ i) i) (e' := fun i => eM ad cA ((gI σ 0 64 x) i) i) (fun i hi => by show eM ad cA ((gI σ 0 64 x) i) i = eM ad cA (σ i) i; rw [gI_ne σ 64 _ hi])
theorem mse_11_65 {ad : Nat → Nat} {cA : Nat → ClassId} {σ : gs} {x : Int32} (h : kM 0 = 11) : (wM ad cA σ).set 0 (ad 0, .inr (11, (fX12 ad (σ 0)).set 65 (.int x))) = wM ad cA (gI σ 0 65 x) := by
  have e1 : (Sum.inr (11, (fX12 ad (σ 0)).set 65 (.int x)) : va_E) = eM ad cA ((gI σ 0 65 x) 0) 0 := by
    show _ = (Sum.inr (11, fX12 ad ((va_up σ 0 (upd (σ 0).1 65 x, (σ 0).2)) 0)) : va_E)
    rw [va_up_self]
    rfl
  rw [e1]
  exact wG_set (e := fun i => eM ad cA (σ i) i) (e' := fun i => eM ad cA ((gI σ 0 65 x) i) i) (fun i hi => by show eM ad cA ((gI σ 0 65 x) i) i = eM ad cA (σ i) i; rw [gI_ne σ 65 _ hi])
theorem mse_11_66 {ad : Nat → Nat} {cA : Nat → ClassId} {σ : gs} {x : Int64} (h : kM 0 = 11) : (wM ad cA σ).set 0 (ad 0, .inr (11, (fX12 ad (σ 0)).set 66 (.long x))) = wM ad cA (gL σ 0 66 x) := by
  have e1 : (Sum.inr (11, (fX12 ad (σ 0)).set 66 (.long x)) : va_E) = eM ad cA ((gL σ 0 66 x) 0) 0 := by
    show _ = (Sum.inr (11, fX12 ad ((va_up σ 0 ((σ 0).1, vp_updL (σ 0).2.1 66 x, (σ 0).2.2)) 0)) : va_E)
    rw [va_up_self]
    rfl
  rw [e1]
  exact wG_set (e := fun i => eM ad cA (σ i) i) (e' := fun i => eM ad cA ((gL σ 0 66 x) i) i) (fun i hi => by show eM ad cA ((gL σ 0 66 x) i) i = eM ad cA (σ i) i; rw [gL_ne σ 66 _ hi])
theorem mse_11_67 {ad : Nat → Nat} {cA : Nat → ClassId} {σ : gs} {x : Int64} (h : kM 0 = 11) : (wM ad cA σ).set 0 (ad 0, .inr (11, (fX12 ad (σ 0)).set 67 (.long x))) = wM ad cA (gL σ 0 67 x) := by
  have e1 : (Sum.inr (11, (fX12 ad (σ 0)).set 67 (.long x)) : va_E) = eM ad cA ((gL σ 0 67 x) 0) 0 := by
    show _ = (Sum.inr (11, fX12 ad ((va_up σ 0 ((σ 0).1, vp_updL (σ 0).2.1 67 x, (σ 0).2.2)) 0)) : va_E)
    rw [va_up_self]
    rfl
  rw [e1]
  exact wG_set (e := fun i => eM ad cA (σ i) i) (e' := fun i => eM ad cA ((gL σ 0 67 x) i) i) (fun i hi => by show eM ad cA ((gL σ 0 67 x) i) i = eM ad cA (σ i) i; rw [gL_ne σ 67 _ hi])
theorem mse_11_68 {ad : Nat → Nat} {cA : Nat → ClassId} {σ : gs} {x : Int32} (h : kM 0 = 11) : (wM ad cA σ).set 0 (ad 0, .inr (11, (fX12 ad (σ 0)).set 68 (.int x))) = wM ad cA (gI σ 0 68 x) := by
  have e1 : (Sum.inr (11, (fX12 ad (σ 0)).set 68 (.int x)) : va_E) = eM ad cA ((gI σ 0 68 x) 0) 0 := by
    show _ = (Sum.inr (11, fX12 ad ((va_up σ 0 (upd (σ 0).1 68 x, (σ 0).2)) 0)) : va_E)
    rw [va_up_self]
    rfl
  rw [e1]
  exact wG_set (e := fun i => eM ad cA (σ i) i) (e' := fun i => eM ad cA ((gI σ 0 68 x) i) i) (fun i hi => by show eM ad cA ((gI σ 0 68 x) i) i = eM ad cA (σ i) i; rw [gI_ne σ 68 _ hi])
theorem mat_41 {ad : Nat → Nat} {cA : Nat → ClassId} {σ : gs} (h : kM 1 = 41) : (wM ad cA σ)[1]? = some (ad 1, .inl (cA 1, 8, .inl (σ 1).1)) := wG_at (Nat.le_of_ble_eq_true rfl)
theorem mty_41 {cA : Nat → ClassId} (h : kM 1 = 41) : (tM cA)[1]? = some (cA 1, .int) := by
  unfold tM
  rw [List.getElem?_map, List.getElem?_range (Nat.le_of_ble_eq_true rfl)]
  rfl
theorem mse_41 {ad : Nat → Nat} {cA : Nat → ClassId} {σ : gs} {i : Nat} {x : Int32} (h : kM 1 = 41) : (wM ad cA σ).set 1 (ad 1, .inl (cA 1, 8, (.inl (upd (σ 1).1 i x)))) = wM ad cA (gI σ 1 i x) := by
  have e1 : (Sum.inl (cA 1, 8, (.inl (upd (σ 1).1 i x))) : va_E) = eM ad cA ((gI σ 1 i x) 1) 1 := by
    show _ = (Sum.inl (cA 1, 8, .inl ((va_up σ 1 (upd (σ 1).1 i x, (σ 1).2)) 1).1) : va_E)
    rw [va_up_self]
  rw [e1]
  exact wG_set (e := fun i => eM ad cA (σ i) i) (e' := fun i9 => eM ad cA ((gI σ 1 i x) i9) i9) (fun i9 hi => by show eM ad cA ((gI σ 1 i x) i9) i9 = eM ad cA (σ i9) i9; rw [gI_ne σ i _ hi])
theorem mat_42 {ad : Nat → Nat} {cA : Nat → ClassId} {σ : gs} (h : kM 2 = 42) : (wM ad cA σ)[2]? = some (ad 2, .inl (cA 2, 8, .inl (σ 2).1)) := wG_at (Nat.le_of_ble_eq_true rfl)
theorem mty_42 {cA : Nat → ClassId} (h : kM 2 = 42) : (tM cA)[2]? = some (cA 2, .int) := by
  unfold tM
  rw [List.getElem?_map, List.getElem?_range (Nat.le_of_ble_eq_true rfl)]
  rfl
theorem mse_42 {ad : Nat → Nat} {cA : Nat → ClassId} {σ : gs} {i : Nat} {x : Int32} (h : kM 2 = 42) : (wM ad cA σ).set 2 (ad 2, .inl (cA 2, 8, (.inl (upd (σ 2).1 i x)))) = wM ad cA (gI σ 2 i x) := by
  have e1 : (Sum.inl (cA 2, 8, (.inl (upd (σ 2).1 i x))) : va_E) = eM ad cA ((gI σ 2 i x) 2) 2 := by
    show _ = (Sum.inl (cA 2, 8, .inl ((va_up σ 2 (upd (σ 2).1 i x, (σ 2).2)) 2).1) : va_E)
    rw [va_up_self]
  rw [e1]
  exact wG_set (e := fun i => eM ad cA (σ i) i) (e' := fun i9 => eM ad cA ((gI σ 2 i x) i9) i9) (fun i9 hi => by show eM ad cA ((gI σ 2 i x) i9) i9 = eM ad cA (σ i9) i9; rw [gI_ne σ i _ hi])
theorem mat_43 {ad : Nat → Nat} {cA : Nat → ClassId} {σ : gs} (h : kM 3 = 43) : (wM ad cA σ)[3]? = some (ad 3, .inl (cA 3, 8, .inl (σ 3).1)) := wG_at (Nat.le_of_ble_eq_true rfl)
theorem mty_43 {cA : Nat → ClassId} (h : kM 3 = 43) : (tM cA)[3]? = some (cA 3, .int) := by
  unfold tM
  rw [List.getElem?_map, List.getElem?_range (Nat.le_of_ble_eq_true rfl)]
  rfl
theorem mse_43 {ad : Nat → Nat} {cA : Nat → ClassId} {σ : gs} {i : Nat} {x : Int32} (h : kM 3 = 43) : (wM ad cA σ).set 3 (ad 3, .inl (cA 3, 8, (.inl (upd (σ 3).1 i x)))) = wM ad cA (gI σ 3 i x) := by
  have e1 : (Sum.inl (cA 3, 8, (.inl (upd (σ 3).1 i x))) : va_E) = eM ad cA ((gI σ 3 i x) 3) 3 := by
    show _ = (Sum.inl (cA 3, 8, .inl ((va_up σ 3 (upd (σ 3).1 i x, (σ 3).2)) 3).1) : va_E)
    rw [va_up_self]
  rw [e1]
  exact wG_set (e := fun i => eM ad cA (σ i) i) (e' := fun i9 => eM ad cA ((gI σ 3 i x) i9) i9) (fun i9 hi => by show eM ad cA ((gI σ 3 i x) i9) i9 = eM ad cA (σ i9) i9; rw [gI_ne σ i _ hi])
theorem mat_44 {ad : Nat → Nat} {cA : Nat → ClassId} {σ : gs} (h : kM 4 = 44) : (wM ad cA σ)[4]? = some (ad 4, .inl (cA 4, 8, .inl (σ 4).1)) := wG_at (Nat.le_of_ble_eq_true rfl)
theorem mty_44 {cA : Nat → ClassId} (h : kM 4 = 44) : (tM cA)[4]? = some (cA 4, .int) := by
  unfold tM
  rw [List.getElem?_map, List.getElem?_range (Nat.le_of_ble_eq_true rfl)]
  rfl
theorem mse_44 {ad : Nat → Nat} {cA : Nat → ClassId} {σ : gs} {i : Nat} {x : Int32} (h : kM 4 = 44) : (wM ad cA σ).set 4 (ad 4, .inl (cA 4, 8, (.inl (upd (σ 4).1 i x)))) = wM ad cA (gI σ 4 i x) := by
  have e1 : (Sum.inl (cA 4, 8, (.inl (upd (σ 4).1 i x))) : va_E) = eM ad cA ((gI σ 4 i x) 4) 4 := by
    show _ = (Sum.inl (cA 4, 8, .inl ((va_up σ 4 (upd (σ 4).1 i x, (σ 4).2)) 4).1) : va_E)
    rw [va_up_self]
  rw [e1]
  exact wG_set (e := fun i => eM ad cA (σ i) i) (e' := fun i9 => eM ad cA ((gI σ 4 i x) i9) i9) (fun i9 hi => by show eM ad cA ((gI σ 4 i x) i9) i9 = eM ad cA (σ i9) i9; rw [gI_ne σ i _ hi])
theorem mat_45 {ad : Nat → Nat} {cA : Nat → ClassId} {σ : gs} (h : kM 5 = 45) : (wM ad cA σ)[5]? = some (ad 5, .inl (cA 5, 8, .inl (σ 5).1)) := wG_at (Nat.le_of_ble_eq_true rfl)
theorem mty_45 {cA : Nat → ClassId} (h : kM 5 = 45) : (tM cA)[5]? = some (cA 5, .int) := by
  unfold tM
  rw [List.getElem?_map, List.getElem?_range (Nat.le_of_ble_eq_true rfl)]
  rfl
theorem mse_45 {ad : Nat → Nat} {cA : Nat → ClassId} {σ : gs} {i : Nat} {x : Int32} (h : kM 5 = 45) : (wM ad cA σ).set 5 (ad 5, .inl (cA 5, 8, (.inl (upd (σ 5).1 i x)))) = wM ad cA (gI σ 5 i x) := by
  have e1 : (Sum.inl (cA 5, 8, (.inl (upd (σ 5).1 i x))) : va_E) = eM ad cA ((gI σ 5 i x) 5) 5 := by
    show _ = (Sum.inl (cA 5, 8, .inl ((va_up σ 5 (upd (σ 5).1 i x, (σ 5).2)) 5).1) : va_E)
    rw [va_up_self]
  rw [e1]
  exact wG_set (e := fun i => eM ad cA (σ i) i) (e' := fun i9 => eM ad cA ((gI σ 5 i x) i9) i9) (fun i9 hi => by show eM ad cA ((gI σ 5 i x) i9) i9 = eM ad cA (σ i9) i9; rw [gI_ne σ i _ hi])
theorem mat_46 {ad : Nat → Nat} {cA : Nat → ClassId} {σ : gs} (h : kM 6 = 46) : (wM ad cA σ)[6]? = some (ad 6, .inl (cA 6, 8, .inl (σ 6).1)) := wG_at (Nat.le_of_ble_eq_true rfl)
theorem mty_46 {cA : Nat → ClassId} (h : kM 6 = 46) : (tM cA)[6]? = some (cA 6, .int) := by
  unfold tM
  rw [List.getElem?_map, List.getElem?_range (Nat.le_of_ble_eq_true rfl)]
  rfl
theorem mse_46 {ad : Nat → Nat} {cA : Nat → ClassId} {σ : gs} {i : Nat} {x : Int32} (h : kM 6 = 46) : (wM ad cA σ).set 6 (ad 6, .inl (cA 6, 8, (.inl (upd (σ 6).1 i x)))) = wM ad cA (gI σ 6 i x) := by
  have e1 : (Sum.inl (cA 6, 8, (.inl (upd (σ 6).1 i x))) : va_E) = eM ad cA ((gI σ 6 i x) 6) 6 := by
    show _ = (Sum.inl (cA 6, 8, .inl ((va_up σ 6 (upd (σ 6).1 i x, (σ 6).2)) 6).1) : va_E)
    rw [va_up_self]
  rw [e1]
  exact wG_set (e := fun i => eM ad cA (σ i) i) (e' := fun i9 => eM ad cA ((gI σ 6 i x) i9) i9) (fun i9 hi => by show eM ad cA ((gI σ 6 i x) i9) i9 = eM ad cA (σ i9) i9; rw [gI_ne σ i _ hi])
theorem mat_47 {ad : Nat → Nat} {cA : Nat → ClassId} {σ : gs} (h : kM 7 = 47) : (wM ad cA σ)[7]? = some (ad 7, .inl (cA 7, 8, .inl (σ 7).1)) := wG_at (Nat.le_of_ble_eq_true rfl)
theorem mty_47 {cA : Nat → ClassId} (h : kM 7 = 47) : (tM cA)[7]? = some (cA 7, .int) := by
  unfold tM
  rw [List.getElem?_map, List.getElem?_range (Nat.le_of_ble_eq_true rfl)]
  rfl
theorem mse_47 {ad : Nat → Nat} {cA : Nat → ClassId} {σ : gs} {i : Nat} {x : Int32} (h : kM 7 = 47) : (wM ad cA σ).set 7 (ad 7, .inl (cA 7, 8, (.inl (upd (σ 7).1 i x)))) = wM ad cA (gI σ 7 i x) := by
  have e1 : (Sum.inl (cA 7, 8, (.inl (upd (σ 7).1 i x))) : va_E) = eM ad cA ((gI σ 7 i x) 7) 7 := by
    show _ = (Sum.inl (cA 7, 8, .inl ((va_up σ 7 (upd (σ 7).1 i x, (σ 7).2)) 7).1) : va_E)
    rw [va_up_self]
  rw [e1]
  exact wG_set (e := fun i => eM ad cA (σ i) i) (e' := fun i9 => eM ad cA ((gI σ 7 i x) i9) i9) (fun i9 hi => by show eM ad cA ((gI σ 7 i x) i9) i9 = eM ad cA (σ i9) i9; rw [gI_ne σ i _ hi])
theorem mat_48 {ad : Nat → Nat} {cA : Nat → ClassId} {σ : gs} (h : kM 8 = 48) : (wM ad cA σ)[8]? = some (ad 8, .inl (cA 8, 8, .inl (σ 8).1)) := wG_at (Nat.le_of_ble_eq_true rfl)
theorem mty_48 {cA : Nat → ClassId} (h : kM 8 = 48) : (tM cA)[8]? = some (cA 8, .int) := by
  unfold tM
  rw [List.getElem?_map, List.getElem?_range (Nat.le_of_ble_eq_true rfl)]
  rfl
theorem mse_48 {ad : Nat → Nat} {cA : Nat → ClassId} {σ : gs} {i : Nat} {x : Int32} (h : kM 8 = 48) : (wM ad cA σ).set 8 (ad 8, .inl (cA 8, 8, (.inl (upd (σ 8).1 i x)))) = wM ad cA (gI σ 8 i x) := by
  have e1 : (Sum.inl (cA 8, 8, (.inl (upd (σ 8).1 i x))) : va_E) = eM ad cA ((gI σ 8 i x) 8) 8 := by
    show _ = (Sum.inl (cA 8, 8, .inl ((va_up σ 8 (upd (σ 8).1 i x, (σ 8).2)) 8).1) : va_E)
    rw [va_up_self]
  rw [e1]
  exact wG_set (e := fun i => eM ad cA (σ i) i) (e' := fun i9 => eM ad cA ((gI σ 8 i x) i9) i9) (fun i9 hi => by show eM ad cA ((gI σ 8 i x) i9) i9 = eM ad cA (σ i9) i9; rw [gI_ne σ i _ hi])
theorem mat_49 {ad : Nat → Nat} {cA : Nat → ClassId} {σ : gs} (h : kM 9 = 49) : (wM ad cA σ)[9]? = some (ad 9, .inl (cA 9, 768, .inl (σ 9).1)) := wG_at (Nat.le_of_ble_eq_true rfl)
theorem mty_49 {cA : Nat → ClassId} (h : kM 9 = 49) : (tM cA)[9]? = some (cA 9, .int) := by
  unfold tM
  rw [List.getElem?_map, List.getElem?_range (Nat.le_of_ble_eq_true rfl)]
  rfl
theorem mse_49 {ad : Nat → Nat} {cA : Nat → ClassId} {σ : gs} {i : Nat} {x : Int32} (h : kM 9 = 49) : (wM ad cA σ).set 9 (ad 9, .inl (cA 9, 768, (.inl (upd (σ 9).1 i x)))) = wM ad cA (gI σ 9 i x) := by
  have e1 : (Sum.inl (cA 9, 768, (.inl (upd (σ 9).1 i x))) : va_E) = eM ad cA ((gI σ 9 i x) 9) 9 := by
    show _ = (Sum.inl (cA 9, 768, .inl ((va_up σ 9 (upd (σ 9).1 i x, (σ 9).2)) 9).1) : va_E)
    rw [va_up_self]
  rw [e1]
  exact wG_set (e := fun i => eM ad cA (σ i) i) (e' := fun i9 => eM ad cA ((gI σ 9 i x) i9) i9) (fun i9 hi => by show eM ad cA ((gI σ 9 i x) i9) i9 = eM ad cA (σ i9) i9; rw [gI_ne σ i _ hi])
theorem mat_50 {ad : Nat → Nat} {cA : Nat → ClassId} {σ : gs} (h : kM 10 = 50) : (wM ad cA σ)[10]? = some (ad 10, .inl (cA 10, 8, .inl (σ 10).1)) := wG_at (Nat.le_of_ble_eq_true rfl)
theorem mty_50 {cA : Nat → ClassId} (h : kM 10 = 50) : (tM cA)[10]? = some (cA 10, .boolean) := by
  unfold tM
  rw [List.getElem?_map, List.getElem?_range (Nat.le_of_ble_eq_true rfl)]
  rfl
theorem mse_50 {ad : Nat → Nat} {cA : Nat → ClassId} {σ : gs} {i : Nat} {x : Int32} (h : kM 10 = 50) : (wM ad cA σ).set 10 (ad 10, .inl (cA 10, 8, (.inl (upd (σ 10).1 i x)))) = wM ad cA (gI σ 10 i x) := by
  have e1 : (Sum.inl (cA 10, 8, (.inl (upd (σ 10).1 i x))) : va_E) = eM ad cA ((gI σ 10 i x) 10) 10 := by
    show _ = (Sum.inl (cA 10, 8, .inl ((va_up σ 10 (upd (σ 10).1 i x, (σ 10).2)) 10).1) : va_E)
    rw [va_up_self]
  rw [e1]
  exact wG_set (e := fun i => eM ad cA (σ i) i) (e' := fun i9 => eM ad cA ((gI σ 10 i x) i9) i9) (fun i9 hi => by show eM ad cA ((gI σ 10 i x) i9) i9 = eM ad cA (σ i9) i9; rw [gI_ne σ i _ hi])
theorem mat_51 {ad : Nat → Nat} {cA : Nat → ClassId} {σ : gs} (h : kM 11 = 51) : (wM ad cA σ)[11]? = some (ad 11, .inl (cA 11, 12, .inl (σ 11).1)) := wG_at (Nat.le_of_ble_eq_true rfl)
theorem mty_51 {cA : Nat → ClassId} (h : kM 11 = 51) : (tM cA)[11]? = some (cA 11, .int) := by
  unfold tM
  rw [List.getElem?_map, List.getElem?_range (Nat.le_of_ble_eq_true rfl)]
  rfl
theorem mse_51 {ad : Nat → Nat} {cA : Nat → ClassId} {σ : gs} {i : Nat} {x : Int32} (h : kM 11 = 51) : (wM ad cA σ).set 11 (ad 11, .inl (cA 11, 12, (.inl (upd (σ 11).1 i x)))) = wM ad cA (gI σ 11 i x) := by
  have e1 : (Sum.inl (cA 11, 12, (.inl (upd (σ 11).1 i x))) : va_E) = eM ad cA ((gI σ 11 i x) 11) 11 := by
    show _ = (Sum.inl (cA 11, 12, .inl ((va_up σ 11 (upd (σ 11).1 i x, (σ 11).2)) 11).1) : va_E)
    rw [va_up_self]
  rw [e1]
  exact wG_set (e := fun i => eM ad cA (σ i) i) (e' := fun i9 => eM ad cA ((gI σ 11 i x) i9) i9) (fun i9 hi => by show eM ad cA ((gI σ 11 i x) i9) i9 = eM ad cA (σ i9) i9; rw [gI_ne σ i _ hi])
theorem mat_52 {ad : Nat → Nat} {cA : Nat → ClassId} {σ : gs} (h : kM 12 = 52) : (wM ad cA σ)[12]? = some (ad 12, .inl (cA 12, 12, .inl (σ 12).1)) := wG_at (Nat.le_of_ble_eq_true rfl)
theorem mty_52 {cA : Nat → ClassId} (h : kM 12 = 52) : (tM cA)[12]? = some (cA 12, .int) := by
  unfold tM
  rw [List.getElem?_map, List.getElem?_range (Nat.le_of_ble_eq_true rfl)]
  rfl
theorem mse_52 {ad : Nat → Nat} {cA : Nat → ClassId} {σ : gs} {i : Nat} {x : Int32} (h : kM 12 = 52) : (wM ad cA σ).set 12 (ad 12, .inl (cA 12, 12, (.inl (upd (σ 12).1 i x)))) = wM ad cA (gI σ 12 i x) := by
  have e1 : (Sum.inl (cA 12, 12, (.inl (upd (σ 12).1 i x))) : va_E) = eM ad cA ((gI σ 12 i x) 12) 12 := by
    show _ = (Sum.inl (cA 12, 12, .inl ((va_up σ 12 (upd (σ 12).1 i x, (σ 12).2)) 12).1) : va_E)
    rw [va_up_self]
  rw [e1]
  exact wG_set (e := fun i => eM ad cA (σ i) i) (e' := fun i9 => eM ad cA ((gI σ 12 i x) i9) i9) (fun i9 hi => by show eM ad cA ((gI σ 12 i x) i9) i9 = eM ad cA (σ i9) i9; rw [gI_ne σ i _ hi])
theorem mat_53 {ad : Nat → Nat} {cA : Nat → ClassId} {σ : gs} (h : kM 13 = 53) : (wM ad cA σ)[13]? = some (ad 13, .inl (cA 13, 12, .inl (σ 13).1)) := wG_at (Nat.le_of_ble_eq_true rfl)
theorem mty_53 {cA : Nat → ClassId} (h : kM 13 = 53) : (tM cA)[13]? = some (cA 13, .int) := by
  unfold tM
  rw [List.getElem?_map, List.getElem?_range (Nat.le_of_ble_eq_true rfl)]
  rfl
theorem mse_53 {ad : Nat → Nat} {cA : Nat → ClassId} {σ : gs} {i : Nat} {x : Int32} (h : kM 13 = 53) : (wM ad cA σ).set 13 (ad 13, .inl (cA 13, 12, (.inl (upd (σ 13).1 i x)))) = wM ad cA (gI σ 13 i x) := by
  have e1 : (Sum.inl (cA 13, 12, (.inl (upd (σ 13).1 i x))) : va_E) = eM ad cA ((gI σ 13 i x) 13) 13 := by
    show _ = (Sum.inl (cA 13, 12, .inl ((va_up σ 13 (upd (σ 13).1 i x, (σ 13).2)) 13).1) : va_E)
    rw [va_up_self]
  rw [e1]
  exact wG_set (e := fun i => eM ad cA (σ i) i) (e' := fun i9 => eM ad cA ((gI σ 13 i x) i9) i9) (fun i9 hi => by show eM ad cA ((gI σ 13 i x) i9) i9 = eM ad cA (σ i9) i9; rw [gI_ne σ i _ hi])
theorem mat_54 {ad : Nat → Nat} {cA : Nat → ClassId} {σ : gs} (h : kM 14 = 54) : (wM ad cA σ)[14]? = some (ad 14, .inl (cA 14, 10, .inl (σ 14).1)) := wG_at (Nat.le_of_ble_eq_true rfl)
theorem mty_54 {cA : Nat → ClassId} (h : kM 14 = 54) : (tM cA)[14]? = some (cA 14, .int) := by
  unfold tM
  rw [List.getElem?_map, List.getElem?_range (Nat.le_of_ble_eq_true rfl)]
  rfl
theorem mse_54 {ad : Nat → Nat} {cA : Nat → ClassId} {σ : gs} {i : Nat} {x : Int32} (h : kM 14 = 54) : (wM ad cA σ).set 14 (ad 14, .inl (cA 14, 10, (.inl (upd (σ 14).1 i x)))) = wM ad cA (gI σ 14 i x) := by
  have e1 : (Sum.inl (cA 14, 10, (.inl (upd (σ 14).1 i x))) : va_E) = eM ad cA ((gI σ 14 i x) 14) 14 := by
    show _ = (Sum.inl (cA 14, 10, .inl ((va_up σ 14 (upd (σ 14).1 i x, (σ 14).2)) 14).1) : va_E)
    rw [va_up_self]
  rw [e1]
  exact wG_set (e := fun i => eM ad cA (σ i) i) (e' := fun i9 => eM ad cA ((gI σ 14 i x) i9) i9) (fun i9 hi => by show eM ad cA ((gI σ 14 i x) i9) i9 = eM ad cA (σ i9) i9; rw [gI_ne σ i _ hi])
theorem mat_55 {ad : Nat → Nat} {cA : Nat → ClassId} {σ : gs} (h : kM 15 = 55) : (wM ad cA σ)[15]? = some (ad 15, .inl (cA 15, 10, .inl (σ 15).1)) := wG_at (Nat.le_of_ble_eq_true rfl)
theorem mty_55 {cA : Nat → ClassId} (h : kM 15 = 55) : (tM cA)[15]? = some (cA 15, .int) := by
  unfold tM
  rw [List.getElem?_map, List.getElem?_range (Nat.le_of_ble_eq_true rfl)]
  rfl
theorem mse_55 {ad : Nat → Nat} {cA : Nat → ClassId} {σ : gs} {i : Nat} {x : Int32} (h : kM 15 = 55) : (wM ad cA σ).set 15 (ad 15, .inl (cA 15, 10, (.inl (upd (σ 15).1 i x)))) = wM ad cA (gI σ 15 i x) := by
  have e1 : (Sum.inl (cA 15, 10, (.inl (upd (σ 15).1 i x))) : va_E) = eM ad cA ((gI σ 15 i x) 15) 15 := by
    show _ = (Sum.inl (cA 15, 10, .inl ((va_up σ 15 (upd (σ 15).1 i x, (σ 15).2)) 15).1) : va_E)
    rw [va_up_self]
  rw [e1]
  exact wG_set (e := fun i => eM ad cA (σ i) i) (e' := fun i9 => eM ad cA ((gI σ 15 i x) i9) i9) (fun i9 hi => by show eM ad cA ((gI σ 15 i x) i9) i9 = eM ad cA (σ i9) i9; rw [gI_ne σ i _ hi])
theorem mat_56 {ad : Nat → Nat} {cA : Nat → ClassId} {σ : gs} (h : kM 16 = 56) : (wM ad cA σ)[16]? = some (ad 16, .inl (cA 16, 900, .inl (σ 16).1)) := wG_at (Nat.le_of_ble_eq_true rfl)
theorem mty_56 {cA : Nat → ClassId} (h : kM 16 = 56) : (tM cA)[16]? = some (cA 16, .byte) := by
  unfold tM
  rw [List.getElem?_map, List.getElem?_range (Nat.le_of_ble_eq_true rfl)]
  rfl
theorem mse_56 {ad : Nat → Nat} {cA : Nat → ClassId} {σ : gs} {i : Nat} {x : Int32} (h : kM 16 = 56) : (wM ad cA σ).set 16 (ad 16, .inl (cA 16, 900, (.inl (upd (σ 16).1 i x)))) = wM ad cA (gI σ 16 i x) := by
  have e1 : (Sum.inl (cA 16, 900, (.inl (upd (σ 16).1 i x))) : va_E) = eM ad cA ((gI σ 16 i x) 16) 16 := by
    show _ = (Sum.inl (cA 16, 900, .inl ((va_up σ 16 (upd (σ 16).1 i x, (σ 16).2)) 16).1) : va_E)
    rw [va_up_self]
  rw [e1]
  exact wG_set (e := fun i => eM ad cA (σ i) i) (e' := fun i9 => eM ad cA ((gI σ 16 i x) i9) i9) (fun i9 hi => by show eM ad cA ((gI σ 16 i x) i9) i9 = eM ad cA (σ i9) i9; rw [gI_ne σ i _ hi])
theorem mat_57 {ad : Nat → Nat} {cA : Nat → ClassId} {σ : gs} (h : kM 17 = 57) : (wM ad cA σ)[17]? = some (ad 17, .inl (cA 17, 4, .inl (σ 17).1)) := wG_at (Nat.le_of_ble_eq_true rfl)
theorem mty_57 {cA : Nat → ClassId} (h : kM 17 = 57) : (tM cA)[17]? = some (cA 17, .int) := by
  unfold tM
  rw [List.getElem?_map, List.getElem?_range (Nat.le_of_ble_eq_true rfl)]
  rfl
theorem mse_57 {ad : Nat → Nat} {cA : Nat → ClassId} {σ : gs} {i : Nat} {x : Int32} (h : kM 17 = 57) : (wM ad cA σ).set 17 (ad 17, .inl (cA 17, 4, (.inl (upd (σ 17).1 i x)))) = wM ad cA (gI σ 17 i x) := by
  have e1 : (Sum.inl (cA 17, 4, (.inl (upd (σ 17).1 i x))) : va_E) = eM ad cA ((gI σ 17 i x) 17) 17 := by
    show _ = (Sum.inl (cA 17, 4, .inl ((va_up σ 17 (upd (σ 17).1 i x, (σ 17).2)) 17).1) : va_E)
    rw [va_up_self]
  rw [e1]
  exact wG_set (e := fun i => eM ad cA (σ i) i) (e' := fun i9 => eM ad cA ((gI σ 17 i x) i9) i9) (fun i9 hi => by show eM ad cA ((gI σ 17 i x) i9) i9 = eM ad cA (σ i9) i9; rw [gI_ne σ i _ hi])
theorem mat_58 {ad : Nat → Nat} {cA : Nat → ClassId} {σ : gs} (h : kM 18 = 58) : (wM ad cA σ)[18]? = some (ad 18, .inl (cA 18, 328, .inl (σ 18).1)) := wG_at (Nat.le_of_ble_eq_true rfl)
theorem mty_58 {cA : Nat → ClassId} (h : kM 18 = 58) : (tM cA)[18]? = some (cA 18, .int) := by
  unfold tM
  rw [List.getElem?_map, List.getElem?_range (Nat.le_of_ble_eq_true rfl)]
  rfl
theorem mse_58 {ad : Nat → Nat} {cA : Nat → ClassId} {σ : gs} {i : Nat} {x : Int32} (h : kM 18 = 58) : (wM ad cA σ).set 18 (ad 18, .inl (cA 18, 328, (.inl (upd (σ 18).1 i x)))) = wM ad cA (gI σ 18 i x) := by
  have e1 : (Sum.inl (cA 18, 328, (.inl (upd (σ 18).1 i x))) : va_E) = eM ad cA ((gI σ 18 i x) 18) 18 := by
    show _ = (Sum.inl (cA 18, 328, .inl ((va_up σ 18 (upd (σ 18).1 i x, (σ 18).2)) 18).1) : va_E)
    rw [va_up_self]
  rw [e1]
  exact wG_set (e := fun i => eM ad cA (σ i) i) (e' := fun i9 => eM ad cA ((gI σ 18 i x) i9) i9) (fun i9 hi => by show eM ad cA ((gI σ 18 i x) i9) i9 = eM ad cA (σ i9) i9; rw [gI_ne σ i _ hi])
theorem mat_59 {ad : Nat → Nat} {cA : Nat → ClassId} {σ : gs} (h : kM 19 = 59) : (wM ad cA σ)[19]? = some (ad 19, .inl (cA 19, 328, .inl (σ 19).1)) := wG_at (Nat.le_of_ble_eq_true rfl)
theorem mty_59 {cA : Nat → ClassId} (h : kM 19 = 59) : (tM cA)[19]? = some (cA 19, .int) := by
  unfold tM
  rw [List.getElem?_map, List.getElem?_range (Nat.le_of_ble_eq_true rfl)]
  rfl
theorem mse_59 {ad : Nat → Nat} {cA : Nat → ClassId} {σ : gs} {i : Nat} {x : Int32} (h : kM 19 = 59) : (wM ad cA σ).set 19 (ad 19, .inl (cA 19, 328, (.inl (upd (σ 19).1 i x)))) = wM ad cA (gI σ 19 i x) := by
  have e1 : (Sum.inl (cA 19, 328, (.inl (upd (σ 19).1 i x))) : va_E) = eM ad cA ((gI σ 19 i x) 19) 19 := by
    show _ = (Sum.inl (cA 19, 328, .inl ((va_up σ 19 (upd (σ 19).1 i x, (σ 19).2)) 19).1) : va_E)
    rw [va_up_self]
  rw [e1]
  exact wG_set (e := fun i => eM ad cA (σ i) i) (e' := fun i9 => eM ad cA ((gI σ 19 i x) i9) i9) (fun i9 hi => by show eM ad cA ((gI σ 19 i x) i9) i9 = eM ad cA (σ i9) i9; rw [gI_ne σ i _ hi])
theorem mat_60 {ad : Nat → Nat} {cA : Nat → ClassId} {σ : gs} (h : kM 20 = 60) : (wM ad cA σ)[20]? = some (ad 20, .inl (cA 20, 328, .inl (σ 20).1)) := wG_at (Nat.le_of_ble_eq_true rfl)
theorem mty_60 {cA : Nat → ClassId} (h : kM 20 = 60) : (tM cA)[20]? = some (cA 20, .int) := by
  unfold tM
  rw [List.getElem?_map, List.getElem?_range (Nat.le_of_ble_eq_true rfl)]
  rfl
theorem mse_60 {ad : Nat → Nat} {cA : Nat → ClassId} {σ : gs} {i : Nat} {x : Int32} (h : kM 20 = 60) : (wM ad cA σ).set 20 (ad 20, .inl (cA 20, 328, (.inl (upd (σ 20).1 i x)))) = wM ad cA (gI σ 20 i x) := by
  have e1 : (Sum.inl (cA 20, 328, (.inl (upd (σ 20).1 i x))) : va_E) = eM ad cA ((gI σ 20 i x) 20) 20 := by
    show _ = (Sum.inl (cA 20, 328, .inl ((va_up σ 20 (upd (σ 20).1 i x, (σ 20).2)) 20).1) : va_E)
    rw [va_up_self]
  rw [e1]
  exact wG_set (e := fun i => eM ad cA (σ i) i) (e' := fun i9 => eM ad cA ((gI σ 20 i x) i9) i9) (fun i9 hi => by show eM ad cA ((gI σ 20 i x) i9) i9 = eM ad cA (σ i9) i9; rw [gI_ne σ i _ hi])
theorem mat_61 {ad : Nat → Nat} {cA : Nat → ClassId} {σ : gs} (h : kM 21 = 61) : (wM ad cA σ)[21]? = some (ad 21, .inl (cA 21, 328, .inr (.inr (.inr (.inl (σ 21).2.2.1))))) := wG_at (Nat.le_of_ble_eq_true rfl)
theorem mty_61 {cA : Nat → ClassId} (h : kM 21 = 61) : (tM cA)[21]? = some (cA 21, .double) := by
  unfold tM
  rw [List.getElem?_map, List.getElem?_range (Nat.le_of_ble_eq_true rfl)]
  rfl
theorem mse_61 {ad : Nat → Nat} {cA : Nat → ClassId} {σ : gs} {i : Nat} {x : UInt64} (h : kM 21 = 61) : (wM ad cA σ).set 21 (ad 21, .inl (cA 21, 328, (.inr (.inr (.inr (.inl (vf_upd (σ 21).2.2.1 i x))))))) = wM ad cA (gD σ 21 i x) := by
  have e1 : (Sum.inl (cA 21, 328, (.inr (.inr (.inr (.inl (vf_upd (σ 21).2.2.1 i x)))))) : va_E) = eM ad cA ((gD σ 21 i x) 21) 21 := by
    show _ = (Sum.inl (cA 21, 328, .inr (.inr (.inr (.inl ((va_up σ 21 ((σ 21).1, (σ 21).2.1, vf_upd (σ 21).2.2.1 i x, (σ 21).2.2.2)) 21).2.2.1)))) : va_E)
    rw [va_up_self]
  rw [e1]
  exact wG_set (e := fun i => eM ad cA (σ i) i) (e' := fun i9 => eM ad cA ((gD σ 21 i x) i9) i9) (fun i9 hi => by show eM ad cA ((gD σ 21 i x) i9) i9 = eM ad cA (σ i9) i9; rw [gD_ne σ i _ hi])
theorem mat_62 {ad : Nat → Nat} {cA : Nat → ClassId} {σ : gs} (h : kM 22 = 62) : (wM ad cA σ)[22]? = some (ad 22, .inl (cA 22, 328, .inr (.inr (.inr (.inl (σ 22).2.2.1))))) := wG_at (Nat.le_of_ble_eq_true rfl)
theorem mty_62 {cA : Nat → ClassId} (h : kM 22 = 62) : (tM cA)[22]? = some (cA 22, .double) := by
  unfold tM
  rw [List.getElem?_map, List.getElem?_range (Nat.le_of_ble_eq_true rfl)]
  rfl
theorem mse_62 {ad : Nat → Nat} {cA : Nat → ClassId} {σ : gs} {i : Nat} {x : UInt64} (h : kM 22 = 62) : (wM ad cA σ).set 22 (ad 22, .inl (cA 22, 328, (.inr (.inr (.inr (.inl (vf_upd (σ 22).2.2.1 i x))))))) = wM ad cA (gD σ 22 i x) := by
  have e1 : (Sum.inl (cA 22, 328, (.inr (.inr (.inr (.inl (vf_upd (σ 22).2.2.1 i x)))))) : va_E) = eM ad cA ((gD σ 22 i x) 22) 22 := by
    show _ = (Sum.inl (cA 22, 328, .inr (.inr (.inr (.inl ((va_up σ 22 ((σ 22).1, (σ 22).2.1, vf_upd (σ 22).2.2.1 i x, (σ 22).2.2.2)) 22).2.2.1)))) : va_E)
    rw [va_up_self]
  rw [e1]
  exact wG_set (e := fun i => eM ad cA (σ i) i) (e' := fun i9 => eM ad cA ((gD σ 22 i x) i9) i9) (fun i9 hi => by show eM ad cA ((gD σ 22 i x) i9) i9 = eM ad cA (σ i9) i9; rw [gD_ne σ i _ hi])
theorem mat_63 {ad : Nat → Nat} {cA : Nat → ClassId} {σ : gs} (h : kM 23 = 63) : (wM ad cA σ)[23]? = some (ad 23, .inl (cA 23, 60, .inl (σ 23).1)) := wG_at (Nat.le_of_ble_eq_true rfl)
theorem mty_63 {cA : Nat → ClassId} (h : kM 23 = 63) : (tM cA)[23]? = some (cA 23, .byte) := by
  unfold tM
  rw [List.getElem?_map, List.getElem?_range (Nat.le_of_ble_eq_true rfl)]
  rfl
theorem mse_63 {ad : Nat → Nat} {cA : Nat → ClassId} {σ : gs} {i : Nat} {x : Int32} (h : kM 23 = 63) : (wM ad cA σ).set 23 (ad 23, .inl (cA 23, 60, (.inl (upd (σ 23).1 i x)))) = wM ad cA (gI σ 23 i x) := by
  have e1 : (Sum.inl (cA 23, 60, (.inl (upd (σ 23).1 i x))) : va_E) = eM ad cA ((gI σ 23 i x) 23) 23 := by
    show _ = (Sum.inl (cA 23, 60, .inl ((va_up σ 23 (upd (σ 23).1 i x, (σ 23).2)) 23).1) : va_E)
    rw [va_up_self]
  rw [e1]
  exact wG_set (e := fun i => eM ad cA (σ i) i) (e' := fun i9 => eM ad cA ((gI σ 23 i x) i9) i9) (fun i9 hi => by show eM ad cA ((gI σ 23 i x) i9) i9 = eM ad cA (σ i9) i9; rw [gI_ne σ i _ hi])
theorem mat_64 {ad : Nat → Nat} {cA : Nat → ClassId} {σ : gs} (h : kM 24 = 64) : (wM ad cA σ)[24]? = some (ad 24, .inl (cA 24, 2001, .inr (.inr (.inr (.inl (σ 24).2.2.1))))) := wG_at (Nat.le_of_ble_eq_true rfl)
theorem mty_64 {cA : Nat → ClassId} (h : kM 24 = 64) : (tM cA)[24]? = some (cA 24, .double) := by
  unfold tM
  rw [List.getElem?_map, List.getElem?_range (Nat.le_of_ble_eq_true rfl)]
  rfl
theorem mse_64 {ad : Nat → Nat} {cA : Nat → ClassId} {σ : gs} {i : Nat} {x : UInt64} (h : kM 24 = 64) : (wM ad cA σ).set 24 (ad 24, .inl (cA 24, 2001, (.inr (.inr (.inr (.inl (vf_upd (σ 24).2.2.1 i x))))))) = wM ad cA (gD σ 24 i x) := by
  have e1 : (Sum.inl (cA 24, 2001, (.inr (.inr (.inr (.inl (vf_upd (σ 24).2.2.1 i x)))))) : va_E) = eM ad cA ((gD σ 24 i x) 24) 24 := by
    show _ = (Sum.inl (cA 24, 2001, .inr (.inr (.inr (.inl ((va_up σ 24 ((σ 24).1, (σ 24).2.1, vf_upd (σ 24).2.2.1 i x, (σ 24).2.2.2)) 24).2.2.1)))) : va_E)
    rw [va_up_self]
  rw [e1]
  exact wG_set (e := fun i => eM ad cA (σ i) i) (e' := fun i9 => eM ad cA ((gD σ 24 i x) i9) i9) (fun i9 hi => by show eM ad cA ((gD σ 24 i x) i9) i9 = eM ad cA (σ i9) i9; rw [gD_ne σ i _ hi])
theorem mat_65 {ad : Nat → Nat} {cA : Nat → ClassId} {σ : gs} (h : kM 25 = 65) : (wM ad cA σ)[25]? = some (ad 25, .inl (cA 25, 4, .inl (σ 25).1)) := wG_at (Nat.le_of_ble_eq_true rfl)
theorem mty_65 {cA : Nat → ClassId} (h : kM 25 = 65) : (tM cA)[25]? = some (cA 25, .int) := by
  unfold tM
  rw [List.getElem?_map, List.getElem?_range (Nat.le_of_ble_eq_true rfl)]
  rfl
theorem mse_65 {ad : Nat → Nat} {cA : Nat → ClassId} {σ : gs} {i : Nat} {x : Int32} (h : kM 25 = 65) : (wM ad cA σ).set 25 (ad 25, .inl (cA 25, 4, (.inl (upd (σ 25).1 i x)))) = wM ad cA (gI σ 25 i x) := by
  have e1 : (Sum.inl (cA 25, 4, (.inl (upd (σ 25).1 i x))) : va_E) = eM ad cA ((gI σ 25 i x) 25) 25 := by
    show _ = (Sum.inl (cA 25, 4, .inl ((va_up σ 25 (upd (σ 25).1 i x, (σ 25).2)) 25).1) : va_E)
    rw [va_up_self]
  rw [e1]
  exact wG_set (e := fun i => eM ad cA (σ i) i) (e' := fun i9 => eM ad cA ((gI σ 25 i x) i9) i9) (fun i9 hi => by show eM ad cA ((gI σ 25 i x) i9) i9 = eM ad cA (σ i9) i9; rw [gI_ne σ i _ hi])
theorem mat_66 {ad : Nat → Nat} {cA : Nat → ClassId} {σ : gs} (h : kM 26 = 66) : (wM ad cA σ)[26]? = some (ad 26, .inl (cA 26, 328, .inl (σ 26).1)) := wG_at (Nat.le_of_ble_eq_true rfl)
theorem mty_66 {cA : Nat → ClassId} (h : kM 26 = 66) : (tM cA)[26]? = some (cA 26, .int) := by
  unfold tM
  rw [List.getElem?_map, List.getElem?_range (Nat.le_of_ble_eq_true rfl)]
  rfl
theorem mse_66 {ad : Nat → Nat} {cA : Nat → ClassId} {σ : gs} {i : Nat} {x : Int32} (h : kM 26 = 66) : (wM ad cA σ).set 26 (ad 26, .inl (cA 26, 328, (.inl (upd (σ 26).1 i x)))) = wM ad cA (gI σ 26 i x) := by
  have e1 : (Sum.inl (cA 26, 328, (.inl (upd (σ 26).1 i x))) : va_E) = eM ad cA ((gI σ 26 i x) 26) 26 := by
    show _ = (Sum.inl (cA 26, 328, .inl ((va_up σ 26 (upd (σ 26).1 i x, (σ 26).2)) 26).1) : va_E)
    rw [va_up_self]
  rw [e1]
  exact wG_set (e := fun i => eM ad cA (σ i) i) (e' := fun i9 => eM ad cA ((gI σ 26 i x) i9) i9) (fun i9 hi => by show eM ad cA ((gI σ 26 i x) i9) i9 = eM ad cA (σ i9) i9; rw [gI_ne σ i _ hi])
theorem mat_67 {ad : Nat → Nat} {cA : Nat → ClassId} {σ : gs} (h : kM 27 = 67) : (wM ad cA σ)[27]? = some (ad 27, .inl (cA 27, 4, .inl (σ 27).1)) := wG_at (Nat.le_of_ble_eq_true rfl)
theorem mty_67 {cA : Nat → ClassId} (h : kM 27 = 67) : (tM cA)[27]? = some (cA 27, .int) := by
  unfold tM
  rw [List.getElem?_map, List.getElem?_range (Nat.le_of_ble_eq_true rfl)]
  rfl
theorem mse_67 {ad : Nat → Nat} {cA : Nat → ClassId} {σ : gs} {i : Nat} {x : Int32} (h : kM 27 = 67) : (wM ad cA σ).set 27 (ad 27, .inl (cA 27, 4, (.inl (upd (σ 27).1 i x)))) = wM ad cA (gI σ 27 i x) := by
  have e1 : (Sum.inl (cA 27, 4, (.inl (upd (σ 27).1 i x))) : va_E) = eM ad cA ((gI σ 27 i x) 27) 27 := by
    show _ = (Sum.inl (cA 27, 4, .inl ((va_up σ 27 (upd (σ 27).1 i x, (σ 27).2)) 27).1) : va_E)
    rw [va_up_self]
  rw [e1]
  exact wG_set (e := fun i => eM ad cA (σ i) i) (e' := fun i9 => eM ad cA ((gI σ 27 i x) i9) i9) (fun i9 hi => by show eM ad cA ((gI σ 27 i x) i9) i9 = eM ad cA (σ i9) i9; rw [gI_ne σ i _ hi])
theorem mat_68 {ad : Nat → Nat} {cA : Nat → ClassId} {σ : gs} (h : kM 28 = 68) : (wM ad cA σ)[28]? = some (ad 28, .inl (cA 28, 328, .inl (σ 28).1)) := wG_at (Nat.le_of_ble_eq_true rfl)
theorem mty_68 {cA : Nat → ClassId} (h : kM 28 = 68) : (tM cA)[28]? = some (cA 28, .int) := by
  unfold tM
  rw [List.getElem?_map, List.getElem?_range (Nat.le_of_ble_eq_true rfl)]
  rfl
theorem mse_68 {ad : Nat → Nat} {cA : Nat → ClassId} {σ : gs} {i : Nat} {x : Int32} (h : kM 28 = 68) : (wM ad cA σ).set 28 (ad 28, .inl (cA 28, 328, (.inl (upd (σ 28).1 i x)))) = wM ad cA (gI σ 28 i x) := by
  have e1 : (Sum.inl (cA 28, 328, (.inl (upd (σ 28).1 i x))) : va_E) = eM ad cA ((gI σ 28 i x) 28) 28 := by
    show _ = (Sum.inl (cA 28, 328, .inl ((va_up σ 28 (upd (σ 28).1 i x, (σ 28).2)) 28).1) : va_E)
    rw [va_up_self]
  rw [e1]
  exact wG_set (e := fun i => eM ad cA (σ i) i) (e' := fun i9 => eM ad cA ((gI σ 28 i x) i9) i9) (fun i9 hi => by show eM ad cA ((gI σ 28 i x) i9) i9 = eM ad cA (σ i9) i9; rw [gI_ne σ i _ hi])
theorem mat_69 {ad : Nat → Nat} {cA : Nat → ClassId} {σ : gs} (h : kM 29 = 69) : (wM ad cA σ)[29]? = some (ad 29, .inl (cA 29, 4, .inl (σ 29).1)) := wG_at (Nat.le_of_ble_eq_true rfl)
theorem mty_69 {cA : Nat → ClassId} (h : kM 29 = 69) : (tM cA)[29]? = some (cA 29, .int) := by
  unfold tM
  rw [List.getElem?_map, List.getElem?_range (Nat.le_of_ble_eq_true rfl)]
  rfl
theorem mse_69 {ad : Nat → Nat} {cA : Nat → ClassId} {σ : gs} {i : Nat} {x : Int32} (h : kM 29 = 69) : (wM ad cA σ).set 29 (ad 29, .inl (cA 29, 4, (.inl (upd (σ 29).1 i x)))) = wM ad cA (gI σ 29 i x) := by
  have e1 : (Sum.inl (cA 29, 4, (.inl (upd (σ 29).1 i x))) : va_E) = eM ad cA ((gI σ 29 i x) 29) 29 := by
    show _ = (Sum.inl (cA 29, 4, .inl ((va_up σ 29 (upd (σ 29).1 i x, (σ 29).2)) 29).1) : va_E)
    rw [va_up_self]
  rw [e1]
  exact wG_set (e := fun i => eM ad cA (σ i) i) (e' := fun i9 => eM ad cA ((gI σ 29 i x) i9) i9) (fun i9 hi => by show eM ad cA ((gI σ 29 i x) i9) i9 = eM ad cA (σ i9) i9; rw [gI_ne σ i _ hi])
theorem mat_70 {ad : Nat → Nat} {cA : Nat → ClassId} {σ : gs} (h : kM 30 = 70) : (wM ad cA σ)[30]? = some (ad 30, .inl (cA 30, 328, .inl (σ 30).1)) := wG_at (Nat.le_of_ble_eq_true rfl)
theorem mty_70 {cA : Nat → ClassId} (h : kM 30 = 70) : (tM cA)[30]? = some (cA 30, .int) := by
  unfold tM
  rw [List.getElem?_map, List.getElem?_range (Nat.le_of_ble_eq_true rfl)]
  rfl
theorem mse_70 {ad : Nat → Nat} {cA : Nat → ClassId} {σ : gs} {i : Nat} {x : Int32} (h : kM 30 = 70) : (wM ad cA σ).set 30 (ad 30, .inl (cA 30, 328, (.inl (upd (σ 30).1 i x)))) = wM ad cA (gI σ 30 i x) := by
  have e1 : (Sum.inl (cA 30, 328, (.inl (upd (σ 30).1 i x))) : va_E) = eM ad cA ((gI σ 30 i x) 30) 30 := by
    show _ = (Sum.inl (cA 30, 328, .inl ((va_up σ 30 (upd (σ 30).1 i x, (σ 30).2)) 30).1) : va_E)
    rw [va_up_self]
  rw [e1]
  exact wG_set (e := fun i => eM ad cA (σ i) i) (e' := fun i9 => eM ad cA ((gI σ 30 i x) i9) i9) (fun i9 hi => by show eM ad cA ((gI σ 30 i x) i9) i9 = eM ad cA (σ i9) i9; rw [gI_ne σ i _ hi])
def mok : Nat → Nat → Int32 → Prop
  | 11, 20, x => 0 ≤ x ∧ x ≤ 4
  | 11, 21, x => 0 ≤ x ∧ x ≤ 6
  | 11, 22, x => 0 ≤ x ∧ x ≤ 10
  | 11, 23, x => 0 ≤ x ∧ x ≤ 4
  | 11, 24, x => 0 ≤ x ∧ x ≤ 6
  | 11, 25, x => 0 ≤ x ∧ x ≤ 10
  | 11, 28, x => 0 ≤ x ∧ x ≤ 1
  | 11, 29, x => 0 ≤ x ∧ x ≤ 1
  | 11, 31, x => 0 ≤ x ∧ x ≤ 900
  | 11, 32, x => 0 ≤ x ∧ x ≤ 900
  | 11, 33, x => 0 ≤ x ∧ x ≤ 900
  | 11, 36, x => 0 ≤ x ∧ x ≤ 99999999
  | 11, 37, x => 0 ≤ x
  | 11, 46, x => 0 ≤ x
  | 11, 47, x => 0 ≤ x ∧ x ≤ 3
  | 11, 48, x => 0 ≤ x
  | 11, 68, x => 0 ≤ x ∧ x ≤ 1
  | 54, _, x => (-1000) ≤ x ∧ x ≤ 4000000
  | 55, _, x => (-1000) ≤ x ∧ x ≤ 4000000
  | 57, _, x => 0 ≤ x ∧ x ≤ 82
  | 58, _, x => 0 ≤ x ∧ x ≤ 30000000
  | 59, _, x => (-1000) ≤ x ∧ x ≤ 4000000
  | 60, _, x => (-1000) ≤ x ∧ x ≤ 4000000
  | _, _, _ => True
def InvM (σ : gs) : Prop := ∀ c k, mok (kM c) k ((σ c).1 k)
theorem minv_I {σ : gs} {c k : Nat} {x : Int32} (h : InvM σ) (hx : mok (kM c) k x) : InvM (gI σ c k x) := by
  intro i j
  by_cases hi : i = c
  · subst hi
    by_cases hj : j = k
    · subst hj
      rw [gI_self]
      exact hx
    · rw [gI_oth σ i x hj]
      exact h i j
  · rw [gI_ne σ k x hi]
    exact h i j
theorem minv_L {σ : gs} {c k : Nat} {x : Int64} (h : InvM σ) : InvM (gL σ c k x) := fun i j => by rw [gL_i]; exact h i j
theorem minv_D {σ : gs} {c k : Nat} {x : UInt64} (h : InvM σ) : InvM (gD σ c k x) := fun i j => by rw [gD_i]; exact h i j
/-- arrays of other kinds, and the object's other ints, stay as they are -/
def mFr (L F : List Nat) (σ τ : gs) : Prop := (∀ c, c ≠ 0 → kM c ∉ L → τ c = σ c) ∧ ∀ k, k ∉ F → (τ 0).1 k = (σ 0).1 k
theorem mFr.rfl {L F : List Nat} {σ : gs} : mFr L F σ σ := ⟨fun _ _ _ => Eq.refl _, fun _ _ => Eq.refl _⟩
theorem mFr.tr {L F L' F' : List Nat} {σ τ υ : gs} (h : mFr L F σ τ) (h' : mFr L' F' τ υ) (hs : ∀ x ∈ L', x ∈ L) (hf : ∀ x ∈ F', x ∈ F) : mFr L F σ υ := ⟨fun c h0 hc => (h'.1 c h0 (fun hm => hc (hs _ hm))).trans (h.1 c h0 hc), fun k hk => (h'.2 k (fun hm => hk (hf _ hm))).trans (h.2 k hk)⟩
theorem mFr.aI {L F : List Nat} {σ τ : gs} {c k : Nat} {x : Int32} (h : mFr L F σ τ) (h0 : c ≠ 0) (hm : kM c ∈ L) : mFr L F σ (gI τ c k x) := ⟨fun i hi hk => (gI_ne τ k x (fun e => hk (by rw [e]; exact hm))).trans (h.1 i hi hk), fun j hj => by rw [gI_ne τ k x (fun e => h0 e.symm)]; exact h.2 j hj⟩
theorem mFr.aD {L F : List Nat} {σ τ : gs} {c k : Nat} {x : UInt64} (h : mFr L F σ τ) (h0 : c ≠ 0) (hm : kM c ∈ L) : mFr L F σ (gD τ c k x) := ⟨fun i hi hk => (gD_ne τ k x (fun e => hk (by rw [e]; exact hm))).trans (h.1 i hi hk), fun j hj => by rw [gD_i]; exact h.2 j hj⟩
theorem mFr.oI {L F : List Nat} {σ τ : gs} {k : Nat} {x : Int32} (h : mFr L F σ τ) (hm : k ∈ F) : mFr L F σ (gI τ 0 k x) := ⟨fun i hi hk => (gI_ne τ k x hi).trans (h.1 i hi hk), fun j hj => by rw [gI_oth τ 0 x (fun e => hj (by rw [e]; exact hm))]; exact h.2 j hj⟩
theorem mFr.oL {L F : List Nat} {σ τ : gs} {k : Nat} {x : Int64} (h : mFr L F σ τ) : mFr L F σ (gL τ 0 k x) := ⟨fun i hi hk => (gL_ne τ k x hi).trans (h.1 i hi hk), fun j hj => by rw [gL_i]; exact h.2 j hj⟩
theorem mFr.oD {L F : List Nat} {σ τ : gs} {k : Nat} {x : UInt64} (h : mFr L F σ τ) : mFr L F σ (gD τ 0 k x) := ⟨fun i hi hk => (gD_ne τ k x hi).trans (h.1 i hi hk), fun j hj => by rw [gD_i]; exact h.2 j hj⟩
theorem mok_11_0 {c : Nat} (h : kM c = 11) (x : Int32) : mok (kM c) 0 x := by rw [h]; exact trivial
theorem mok_11_1 {c : Nat} (h : kM c = 11) (x : Int32) : mok (kM c) 1 x := by rw [h]; exact trivial
theorem mok_11_2 {c : Nat} (h : kM c = 11) (x : Int32) : mok (kM c) 2 x := by rw [h]; exact trivial
theorem mok_11_20 {c : Nat} (h : kM c = 11) (x : Int32) (hx : 0 ≤ x ∧ x ≤ 4) : mok (kM c) 20 x := by rw [h]; exact hx
theorem mrd_11_20 {σ : gs} {c : Nat} (hI : InvM σ) (h : kM c = 11) : 0 ≤ (σ c).1 20 ∧ (σ c).1 20 ≤ 4 := by have h1 := hI c 20; rw [h] at h1; exact h1
theorem mok_11_21 {c : Nat} (h : kM c = 11) (x : Int32) (hx : 0 ≤ x ∧ x ≤ 6) : mok (kM c) 21 x := by rw [h]; exact hx
theorem mrd_11_21 {σ : gs} {c : Nat} (hI : InvM σ) (h : kM c = 11) : 0 ≤ (σ c).1 21 ∧ (σ c).1 21 ≤ 6 := by have h1 := hI c 21; rw [h] at h1; exact h1
theorem mok_11_22 {c : Nat} (h : kM c = 11) (x : Int32) (hx : 0 ≤ x ∧ x ≤ 10) : mok (kM c) 22 x := by rw [h]; exact hx
theorem mrd_11_22 {σ : gs} {c : Nat} (hI : InvM σ) (h : kM c = 11) : 0 ≤ (σ c).1 22 ∧ (σ c).1 22 ≤ 10 := by have h1 := hI c 22; rw [h] at h1; exact h1
theorem mok_11_23 {c : Nat} (h : kM c = 11) (x : Int32) (hx : 0 ≤ x ∧ x ≤ 4) : mok (kM c) 23 x := by rw [h]; exact hx
theorem mrd_11_23 {σ : gs} {c : Nat} (hI : InvM σ) (h : kM c = 11) : 0 ≤ (σ c).1 23 ∧ (σ c).1 23 ≤ 4 := by have h1 := hI c 23; rw [h] at h1; exact h1
theorem mok_11_24 {c : Nat} (h : kM c = 11) (x : Int32) (hx : 0 ≤ x ∧ x ≤ 6) : mok (kM c) 24 x := by rw [h]; exact hx
theorem mrd_11_24 {σ : gs} {c : Nat} (hI : InvM σ) (h : kM c = 11) : 0 ≤ (σ c).1 24 ∧ (σ c).1 24 ≤ 6 := by have h1 := hI c 24; rw [h] at h1; exact h1
theorem mok_11_25 {c : Nat} (h : kM c = 11) (x : Int32) (hx : 0 ≤ x ∧ x ≤ 10) : mok (kM c) 25 x := by rw [h]; exact hx
theorem mrd_11_25 {σ : gs} {c : Nat} (hI : InvM σ) (h : kM c = 11) : 0 ≤ (σ c).1 25 ∧ (σ c).1 25 ≤ 10 := by have h1 := hI c 25; rw [h] at h1; exact h1
theorem mok_11_26 {c : Nat} (h : kM c = 11) (x : Int32) : mok (kM c) 26 x := by rw [h]; exact trivial
theorem mok_11_27 {c : Nat} (h : kM c = 11) (x : Int32) : mok (kM c) 27 x := by rw [h]; exact trivial
theorem mok_11_28 {c : Nat} (h : kM c = 11) (x : Int32) (hx : 0 ≤ x ∧ x ≤ 1) : mok (kM c) 28 x := by rw [h]; exact hx
theorem mrd_11_28 {σ : gs} {c : Nat} (hI : InvM σ) (h : kM c = 11) : 0 ≤ (σ c).1 28 ∧ (σ c).1 28 ≤ 1 := by have h1 := hI c 28; rw [h] at h1; exact h1
theorem mok_11_29 {c : Nat} (h : kM c = 11) (x : Int32) (hx : 0 ≤ x ∧ x ≤ 1) : mok (kM c) 29 x := by rw [h]; exact hx
theorem mrd_11_29 {σ : gs} {c : Nat} (hI : InvM σ) (h : kM c = 11) : 0 ≤ (σ c).1 29 ∧ (σ c).1 29 ≤ 1 := by have h1 := hI c 29; rw [h] at h1; exact h1
theorem mok_11_31 {c : Nat} (h : kM c = 11) (x : Int32) (hx : 0 ≤ x ∧ x ≤ 900) : mok (kM c) 31 x := by rw [h]; exact hx
theorem mrd_11_31 {σ : gs} {c : Nat} (hI : InvM σ) (h : kM c = 11) : 0 ≤ (σ c).1 31 ∧ (σ c).1 31 ≤ 900 := by have h1 := hI c 31; rw [h] at h1; exact h1
theorem mok_11_32 {c : Nat} (h : kM c = 11) (x : Int32) (hx : 0 ≤ x ∧ x ≤ 900) : mok (kM c) 32 x := by rw [h]; exact hx
theorem mrd_11_32 {σ : gs} {c : Nat} (hI : InvM σ) (h : kM c = 11) : 0 ≤ (σ c).1 32 ∧ (σ c).1 32 ≤ 900 := by have h1 := hI c 32; rw [h] at h1; exact h1
theorem mok_11_33 {c : Nat} (h : kM c = 11) (x : Int32) (hx : 0 ≤ x ∧ x ≤ 900) : mok (kM c) 33 x := by rw [h]; exact hx
theorem mrd_11_33 {σ : gs} {c : Nat} (hI : InvM σ) (h : kM c = 11) : 0 ≤ (σ c).1 33 ∧ (σ c).1 33 ≤ 900 := by have h1 := hI c 33; rw [h] at h1; exact h1
theorem mok_11_34 {c : Nat} (h : kM c = 11) (x : Int32) : mok (kM c) 34 x := by rw [h]; exact trivial
theorem mok_11_35 {c : Nat} (h : kM c = 11) (x : Int32) : mok (kM c) 35 x := by rw [h]; exact trivial
theorem mok_11_36 {c : Nat} (h : kM c = 11) (x : Int32) (hx : 0 ≤ x ∧ x ≤ 99999999) : mok (kM c) 36 x := by rw [h]; exact hx
theorem mrd_11_36 {σ : gs} {c : Nat} (hI : InvM σ) (h : kM c = 11) : 0 ≤ (σ c).1 36 ∧ (σ c).1 36 ≤ 99999999 := by have h1 := hI c 36; rw [h] at h1; exact h1
theorem mok_11_37 {c : Nat} (h : kM c = 11) (x : Int32) (hx : 0 ≤ x) : mok (kM c) 37 x := by rw [h]; exact hx
theorem mrd_11_37 {σ : gs} {c : Nat} (hI : InvM σ) (h : kM c = 11) : 0 ≤ (σ c).1 37 := by have h1 := hI c 37; rw [h] at h1; exact h1
theorem mok_11_46 {c : Nat} (h : kM c = 11) (x : Int32) (hx : 0 ≤ x) : mok (kM c) 46 x := by rw [h]; exact hx
theorem mrd_11_46 {σ : gs} {c : Nat} (hI : InvM σ) (h : kM c = 11) : 0 ≤ (σ c).1 46 := by have h1 := hI c 46; rw [h] at h1; exact h1
theorem mok_11_47 {c : Nat} (h : kM c = 11) (x : Int32) (hx : 0 ≤ x ∧ x ≤ 3) : mok (kM c) 47 x := by rw [h]; exact hx
theorem mrd_11_47 {σ : gs} {c : Nat} (hI : InvM σ) (h : kM c = 11) : 0 ≤ (σ c).1 47 ∧ (σ c).1 47 ≤ 3 := by have h1 := hI c 47; rw [h] at h1; exact h1
theorem mok_11_48 {c : Nat} (h : kM c = 11) (x : Int32) (hx : 0 ≤ x) : mok (kM c) 48 x := by rw [h]; exact hx
theorem mrd_11_48 {σ : gs} {c : Nat} (hI : InvM σ) (h : kM c = 11) : 0 ≤ (σ c).1 48 := by have h1 := hI c 48; rw [h] at h1; exact h1
theorem mok_11_49 {c : Nat} (h : kM c = 11) (x : Int32) : mok (kM c) 49 x := by rw [h]; exact trivial
theorem mok_11_64 {c : Nat} (h : kM c = 11) (x : Int32) : mok (kM c) 64 x := by rw [h]; exact trivial
theorem mok_11_65 {c : Nat} (h : kM c = 11) (x : Int32) : mok (kM c) 65 x := by rw [h]; exact trivial
theorem mok_11_68 {c : Nat} (h : kM c = 11) (x : Int32) (hx : 0 ≤ x ∧ x ≤ 1) : mok (kM c) 68 x := by rw [h]; exact hx
theorem mrd_11_68 {σ : gs} {c : Nat} (hI : InvM σ) (h : kM c = 11) : 0 ≤ (σ c).1 68 ∧ (σ c).1 68 ≤ 1 := by have h1 := hI c 68; rw [h] at h1; exact h1
theorem mok_41 {c : Nat} (h : kM c = 41) (i : Nat) (x : Int32) : mok (kM c) i x := by rw [h]; exact trivial
theorem mok_42 {c : Nat} (h : kM c = 42) (i : Nat) (x : Int32) : mok (kM c) i x := by rw [h]; exact trivial
theorem mok_43 {c : Nat} (h : kM c = 43) (i : Nat) (x : Int32) : mok (kM c) i x := by rw [h]; exact trivial
theorem mok_44 {c : Nat} (h : kM c = 44) (i : Nat) (x : Int32) : mok (kM c) i x := by rw [h]; exact trivial
theorem mok_45 {c : Nat} (h : kM c = 45) (i : Nat) (x : Int32) : mok (kM c) i x := by rw [h]; exact trivial
theorem mok_46 {c : Nat} (h : kM c = 46) (i : Nat) (x : Int32) : mok (kM c) i x := by rw [h]; exact trivial
theorem mok_47 {c : Nat} (h : kM c = 47) (i : Nat) (x : Int32) : mok (kM c) i x := by rw [h]; exact trivial
theorem mok_48 {c : Nat} (h : kM c = 48) (i : Nat) (x : Int32) : mok (kM c) i x := by rw [h]; exact trivial
theorem mok_49 {c : Nat} (h : kM c = 49) (i : Nat) (x : Int32) : mok (kM c) i x := by rw [h]; exact trivial
theorem mok_50 {c : Nat} (h : kM c = 50) (i : Nat) (x : Int32) : mok (kM c) i x := by rw [h]; exact trivial
theorem mok_51 {c : Nat} (h : kM c = 51) (i : Nat) (x : Int32) : mok (kM c) i x := by rw [h]; exact trivial
theorem mok_52 {c : Nat} (h : kM c = 52) (i : Nat) (x : Int32) : mok (kM c) i x := by rw [h]; exact trivial
theorem mok_53 {c : Nat} (h : kM c = 53) (i : Nat) (x : Int32) : mok (kM c) i x := by rw [h]; exact trivial
theorem mok_54 {c : Nat} (h : kM c = 54) (i : Nat) (x : Int32) (hx : (-1000) ≤ x ∧ x ≤ 4000000) : mok (kM c) i x := by rw [h]; exact hx
theorem mrd_54 {σ : gs} {c : Nat} (hI : InvM σ) (h : kM c = 54) (i : Nat) : (-1000) ≤ (σ c).1 i ∧ (σ c).1 i ≤ 4000000 := by have h1 := hI c i; rw [h] at h1; exact h1
theorem mok_55 {c : Nat} (h : kM c = 55) (i : Nat) (x : Int32) (hx : (-1000) ≤ x ∧ x ≤ 4000000) : mok (kM c) i x := by rw [h]; exact hx
theorem mrd_55 {σ : gs} {c : Nat} (hI : InvM σ) (h : kM c = 55) (i : Nat) : (-1000) ≤ (σ c).1 i ∧ (σ c).1 i ≤ 4000000 := by have h1 := hI c i; rw [h] at h1; exact h1
theorem mok_56 {c : Nat} (h : kM c = 56) (i : Nat) (x : Int32) : mok (kM c) i x := by rw [h]; exact trivial
theorem mok_57 {c : Nat} (h : kM c = 57) (i : Nat) (x : Int32) (hx : 0 ≤ x ∧ x ≤ 82) : mok (kM c) i x := by rw [h]; exact hx
theorem mrd_57 {σ : gs} {c : Nat} (hI : InvM σ) (h : kM c = 57) (i : Nat) : 0 ≤ (σ c).1 i ∧ (σ c).1 i ≤ 82 := by have h1 := hI c i; rw [h] at h1; exact h1
theorem mok_58 {c : Nat} (h : kM c = 58) (i : Nat) (x : Int32) (hx : 0 ≤ x ∧ x ≤ 30000000) : mok (kM c) i x := by rw [h]; exact hx
theorem mrd_58 {σ : gs} {c : Nat} (hI : InvM σ) (h : kM c = 58) (i : Nat) : 0 ≤ (σ c).1 i ∧ (σ c).1 i ≤ 30000000 := by have h1 := hI c i; rw [h] at h1; exact h1
theorem mok_59 {c : Nat} (h : kM c = 59) (i : Nat) (x : Int32) (hx : (-1000) ≤ x ∧ x ≤ 4000000) : mok (kM c) i x := by rw [h]; exact hx
theorem mrd_59 {σ : gs} {c : Nat} (hI : InvM σ) (h : kM c = 59) (i : Nat) : (-1000) ≤ (σ c).1 i ∧ (σ c).1 i ≤ 4000000 := by have h1 := hI c i; rw [h] at h1; exact h1
theorem mok_60 {c : Nat} (h : kM c = 60) (i : Nat) (x : Int32) (hx : (-1000) ≤ x ∧ x ≤ 4000000) : mok (kM c) i x := by rw [h]; exact hx
theorem mrd_60 {σ : gs} {c : Nat} (hI : InvM σ) (h : kM c = 60) (i : Nat) : (-1000) ≤ (σ c).1 i ∧ (σ c).1 i ≤ 4000000 := by have h1 := hI c i; rw [h] at h1; exact h1
theorem mok_61 {c : Nat} (h : kM c = 61) (i : Nat) (x : Int32) : mok (kM c) i x := by rw [h]; exact trivial
theorem mok_62 {c : Nat} (h : kM c = 62) (i : Nat) (x : Int32) : mok (kM c) i x := by rw [h]; exact trivial
theorem mok_63 {c : Nat} (h : kM c = 63) (i : Nat) (x : Int32) : mok (kM c) i x := by rw [h]; exact trivial
theorem mok_64 {c : Nat} (h : kM c = 64) (i : Nat) (x : Int32) : mok (kM c) i x := by rw [h]; exact trivial
theorem mok_65 {c : Nat} (h : kM c = 65) (i : Nat) (x : Int32) : mok (kM c) i x := by rw [h]; exact trivial
theorem mok_66 {c : Nat} (h : kM c = 66) (i : Nat) (x : Int32) : mok (kM c) i x := by rw [h]; exact trivial
theorem mok_67 {c : Nat} (h : kM c = 67) (i : Nat) (x : Int32) : mok (kM c) i x := by rw [h]; exact trivial
theorem mok_68 {c : Nat} (h : kM c = 68) (i : Nat) (x : Int32) : mok (kM c) i x := by rw [h]; exact trivial
theorem mok_69 {c : Nat} (h : kM c = 69) (i : Nat) (x : Int32) : mok (kM c) i x := by rw [h]; exact trivial
theorem mok_70 {c : Nat} (h : kM c = 70) (i : Nat) (x : Int32) : mok (kM c) i x := by rw [h]; exact trivial

