def hy_wX : List Cond := .code yX11_holiday cX11_holiday 2 (some .int) :: ([.fieldLink RX11 60 "BondCalendars" "live" "LBondCalendars$Desk;", .fieldLink RX11 146 "BondCalendars$Desk" "holidays" "LBondCalendars$Holidays;", .fieldLink RX11 378 "BondCalendars$Holidays" "count" "I", .fieldLink RX11 381 "BondCalendars$Holidays" "list" "[I", .methodLink RX11 159 yX3_numberOf, .static yX3_numberOf, .initialized RX3, .code yX3_numberOf cX3_numberOf 10 (some .int), .constant RX3 15 (723120), .constant RX3 16 (146097), .constant RX3 17 (36524), .constant RX3 18 (146096)] ++ wsX110 ++ wsX40 ++ wsX50 ++ hx_ws)
def hy_wL : List Cond := .codeWith yL_holiday cL_holiday 4 (some .int) [(0, 9, 12, 13)] :: ([.classLink RL 13 hx_X, .methodLink RL 7 yX11_holiday, .instanceMethod yX11_holiday, .selects RX11 yX11_holiday yX11_holiday, .initialized RX11] ++ hy_wX)
theorem hy_wX_good : hy_wX.all goodWord = true := by decide +kernel
theorem hy_gN : GoodIn hy_wX (va_wsS RX11 159 yX3_numberOf wsX3_numberOf) := goodIn_sub (fun w h => List.mem_cons_of_mem _ (List.mem_append_left _ (List.mem_append_left _ (List.mem_append_left _ (List.mem_append_left _ ((show ∀ w ∈ va_wsS RX11 159 yX3_numberOf wsX3_numberOf, w ∈ ([.fieldLink RX11 60 "BondCalendars" "live" "LBondCalendars$Desk;", .fieldLink RX11 146 "BondCalendars$Desk" "holidays" "LBondCalendars$Holidays;", .fieldLink RX11 378 "BondCalendars$Holidays" "count" "I", .fieldLink RX11 381 "BondCalendars$Holidays" "list" "[I", .methodLink RX11 159 yX3_numberOf, .static yX3_numberOf, .initialized RX3, .code yX3_numberOf cX3_numberOf 10 (some .int), .constant RX3 15 (723120), .constant RX3 16 (146097), .constant RX3 17 (36524), .constant RX3 18 (146096)] : List Cond) by decide +kernel) w h)))))) (by decide +kernel)
theorem hy_gX : GoodIn hy_wL (wsV RL 7 RX11 yX11_holiday hy_wX) := goodIn_app (goodIn_sub (List.forall_mem_cons.mpr ⟨List.mem_cons_of_mem _ (List.mem_append_left _ (List.mem_of_getElem? (i := 1) rfl)), List.forall_mem_cons.mpr ⟨List.mem_cons_of_mem _ (List.mem_append_left _ (List.mem_of_getElem? (i := 2) rfl)), List.forall_mem_cons.mpr ⟨List.mem_cons_of_mem _ (List.mem_append_left _ (List.mem_of_getElem? (i := 3) rfl)), List.forall_mem_cons.mpr ⟨List.mem_cons_of_mem _ (List.mem_append_left _ (List.mem_of_getElem? (i := 4) rfl)), fun _ h => absurd h List.not_mem_nil⟩⟩⟩⟩) (by decide +kernel)) (goodIn_sub (fun w h => List.mem_cons_of_mem _ (List.mem_append_right _ h)) hy_wX_good)
set_option maxHeartbeats 8000000 in
set_option maxRecDepth 100000 in
/-- holiday over any state: a date, or a throw; nothing is written -/
theorem n_X11_holiday (l : Launch) (hl0 : l.stackTraces = false) (dC : Nat → ClassId) (dI : Nat → Nat → Nat) (ad : Nat → Nat) (cA : Nat → ClassId) (adK adV : Nat → Nat) (sz : Nat) (σ : gs) (hI : InvX σ) (sa : Nat) (p0 : Int32) : vx_Met l yX11_holiday hy_wX ({ frames := 6, cells := 1, slots := 6, locals := 110 }) (va_Pc [.ref (ad 0), .int p0] (fun U => gPre adK adV (dC, dI) (wX ad cA σ) (tX cA) sz U ∧ vk_R RX11 386 "no such holiday" sa U)) (va_Qi (fun (_ : Int32) (_ : Unit) => True) (fun _ _ => True) (va_A [] sz)) (vx_X (S := Unit) (fun _ => True) (fun E _ t => E = hx_X ∧ va_K (dC, dI) vwCl [] t) (va_A [] sz)) 1 6 (va_A [] sz) := by
  refine vx_ofW (cc := cX11_holiday) (maxL := 2) (ret := (some .int)) (by decide) rfl ?_
  intro p e s m args below meth c s₁ B hml htab hv
  obtain ⟨rfl, ⟨hsz, hP, hK, hD0, hT⟩, hR⟩ := hv
  have hx := B.exec
  have hb := B.bytes
  have hr := B.returns
  have hts := atoms_spec (ws := hy_wX) B.pre
  have hown : s.vm.findClass RX11 = some m.cls := findClass_of_methodNamed B.named
  have hlocks := B.notSynchronized
  have hinX11 : ∀ w ∈ u_ws RX11 TX11 15, w ∈ hy_wX := (fun _ h9 => List.mem_cons_of_mem _ (List.mem_append_left _ (List.mem_append_left _ (List.mem_append_left _ (List.mem_append_right _ h9)))))
  have hinX4 : ∀ w ∈ u_ws RX4 TX4 12, w ∈ hy_wX := (fun _ h9 => List.mem_cons_of_mem _ (List.mem_append_left _ (List.mem_append_left _ (List.mem_append_right _ h9))))
  have hinX5 : ∀ w ∈ u_ws RX5 TX5 2, w ∈ hy_wX := (fun _ h9 => List.mem_cons_of_mem _ (List.mem_append_left _ (List.mem_append_right _ h9)))
  have hinH : ∀ w ∈ hx_ws, w ∈ hy_wX := (fun _ h9 => List.mem_cons_of_mem _ (List.mem_append_right _ h9))
  subst hsz
  have hS : va_S (va_A [] s.heap.size) s.heap s.heap [] := va_S.rf
  have hA : ∀ q : Nat, s.heap.size ≤ q → va_A [] s.heap.size q := fun q h => Or.inr h
  have hZ : hx_Z (va_A [] s.heap.size) s s.heap := hT.2.2.narrow (fun q h => by
    rcases h with ⟨k, e, h⟩ | h
    · simp at h
    · exact Or.inr h)
  have hKe := hK.sub (tys' := []) [] rfl
  have hl := lv_entry ([.ref (ad 0), .int p0]) (n := 2) (Nat.le_of_ble_eq_true rfl)
  rw [lg_entry_eq]
  generalize (lg_sl ([.ref (ad 0), .int p0]) ++ List.replicate (2 - (lg_sl ([.ref (ad 0), .int p0])).length) Slot.unset).toArray = ls at hl ⊢
  have hl : lv_has ls 2 [(0, .ref (ad 0)), (1, .int p0)] := hl
  have fin : W p l e (headSpec hy_wX { frames := 6, cells := 1, slots := 6, locals := 110 }).room s m [Value.ref (ad 0), Value.int p0].toArray below meth c s.heap [] 0 0 (vx_MQ below (va_Qi (fun (_ : Int32) (_ : Unit) => True) (fun _ _ => True) (va_A [] s.heap.size)) (vx_X (S := Unit) (fun _ => True) (fun E _ t => E = hx_X ∧ va_K (dC, dI) vwCl [] t) (va_A [] s.heap.size)) [Value.ref (ad 0), Value.int p0].toArray s 1 6 (va_A [] s.heap.size)) (F0 m 33 ls []) :=
    hx_throw (cc := cX11_holiday) (is := 386) (text := "no such holiday") (sa := sa) (A := va_A [] s.heap.size) hx hb hl0 hown (fun w h => hts w (hinH w h)) hR hZ hS (hl.1.trans hml.symm) dX11_holiday_33 dX11_holiday_36 dX11_holiday_37 dX11_holiday_40 dX11_holiday_43 (fun x h => (htab x h).elim) (Nat.le_of_ble_eq_true rfl) (Nat.le_of_ble_eq_true rfl) (Nat.le_of_ble_eq_true rfl) (Nat.le_of_ble_eq_true rfl) hlocks
      (fun t hvm hsz1 hk => ⟨(), trivial, ⟨rfl, va_K.moved hvm hKe⟩, ⟨hsz1, fun q hq _ => hk q hq⟩⟩) (fun z hz => nomatch hz) (Nat.le_refl _) (Nat.le_refl _)
  obtain ⟨b8, hb8, q8⟩ := rq_10_8 (c := 0) hI rfl
  refine lv_iload_n hx hb dX11_holiday_0 rfl (lv_at hl 1 rfl) ?_
  refine lv_if_lt (tgt := 33) hx hb dX11_holiday_1 (by decide) (fun c_1 => fin) (fun c_1 => ?_)
  refine lv_iload_n hx hb dX11_holiday_4 rfl (lv_at hl 1 rfl) ?_
  refine lv_aload_n hx hb dX11_holiday_5 rfl (lv_at hl 0 rfl) ?_
  refine va_get (D := (dC, dI)) (ci := 10) (v := .ref (ad b8)) (C := RX11) (T := TX11) (N := 15) hx hb hts hinX11 hown hK hP 0 (at_10 rfl) rfl 8 (by decide) (hts (.fieldLink RX11 60 "BondCalendars" "live" "LBondCalendars$Desk;") (List.mem_cons_of_mem _ (List.mem_append_left _ (List.mem_append_left _ (List.mem_append_left _ (List.mem_append_left _ (List.mem_of_getElem? (i := 0) rfl))))))) (fun _ h9 => h9) (by show some (va_re ad ((σ 0).2.2.2 8)) = _; rw [q8]; rfl) dX11_holiday_6 ?_
  refine va_get (D := (dC, dI)) (ci := 3) (v := .ref (ad (b8 + 1))) (C := RX4) (T := TX4) (N := 12) hx hb hts hinX4 hown hK hP b8 (at_3 hb8) rfl 2 (by decide) (hts (.fieldLink RX11 146 "BondCalendars$Desk" "holidays" "LBondCalendars$Holidays;") (List.mem_cons_of_mem _ (List.mem_append_left _ (List.mem_append_left _ (List.mem_append_left _ (List.mem_append_left _ (List.mem_of_getElem? (i := 1) rfl))))))) (fun _ h9 => h9) rfl dX11_holiday_9 ?_
  refine va_get (D := (dC, dI)) (ci := 4) (v := .int ((σ (b8 + 1)).1 1)) (C := RX5) (T := TX5) (N := 2) hx hb hts hinX5 hown hK hP (b8 + 1) (at_4 (kk_3_1 hb8)) rfl 1 (by decide) (hts (.fieldLink RX11 378 "BondCalendars$Holidays" "count" "I") (List.mem_cons_of_mem _ (List.mem_append_left _ (List.mem_append_left _ (List.mem_append_left _ (List.mem_append_left _ (List.mem_of_getElem? (i := 2) rfl))))))) (fun _ h9 => h9) rfl dX11_holiday_12 ?_
  refine lv_icmp_ge (tgt := 33) hx hb dX11_holiday_15 (by decide) (fun c_2 => fin) (fun c_2 => ?_)
  refine lv_iload_n hx hb dX11_holiday_18 rfl (lv_at hl 1 rfl) ?_
  refine lv_aload_n hx hb dX11_holiday_19 rfl (lv_at hl 0 rfl) ?_
  refine va_get (D := (dC, dI)) (ci := 10) (v := .ref (ad b8)) (C := RX11) (T := TX11) (N := 15) hx hb hts hinX11 hown hK hP 0 (at_10 rfl) rfl 8 (by decide) (hts (.fieldLink RX11 60 "BondCalendars" "live" "LBondCalendars$Desk;") (List.mem_cons_of_mem _ (List.mem_append_left _ (List.mem_append_left _ (List.mem_append_left _ (List.mem_append_left _ (List.mem_of_getElem? (i := 0) rfl))))))) (fun _ h9 => h9) (by show some (va_re ad ((σ 0).2.2.2 8)) = _; rw [q8]; rfl) dX11_holiday_20 ?_
  refine va_get (D := (dC, dI)) (ci := 3) (v := .ref (ad (b8 + 1))) (C := RX4) (T := TX4) (N := 12) hx hb hts hinX4 hown hK hP b8 (at_3 hb8) rfl 2 (by decide) (hts (.fieldLink RX11 146 "BondCalendars$Desk" "holidays" "LBondCalendars$Holidays;") (List.mem_cons_of_mem _ (List.mem_append_left _ (List.mem_append_left _ (List.mem_append_left _ (List.mem_append_left _ (List.mem_of_getElem? (i := 1) rfl))))))) (fun _ h9 => h9) rfl dX11_holiday_23 ?_
  refine va_get (D := (dC, dI)) (ci := 4) (v := .ref (ad (b8 + 1 + 1))) (C := RX5) (T := TX5) (N := 2) hx hb hts hinX5 hown hK hP (b8 + 1) (at_4 (kk_3_1 hb8)) rfl 0 (by decide) (hts (.fieldLink RX11 381 "BondCalendars$Holidays" "list" "[I") (List.mem_cons_of_mem _ (List.mem_append_left _ (List.mem_append_left _ (List.mem_append_left _ (List.mem_append_left _ (List.mem_of_getElem? (i := 3) rfl))))))) (fun _ h9 => h9) rfl dX11_holiday_26 ?_
  refine va_alen (v := 10) hx hb hK hP (b8 + 1 + 1) (b8 + 1 + 1) (at_25 (kk_4_1 (kk_3_1 hb8))) (ty_25 (kk_4_1 (kk_3_1 hb8))) rfl dX11_holiday_29 ?_
  refine lv_icmp_lt (tgt := 44) hx hb dX11_holiday_30 (by decide) (fun c_3 => ?_) (fun c_3 => fin)
  refine lv_aload_n hx hb dX11_holiday_44 rfl (lv_at hl 0 rfl) ?_
  refine va_get (D := (dC, dI)) (ci := 10) (v := .ref (ad b8)) (C := RX11) (T := TX11) (N := 15) hx hb hts hinX11 hown hK hP 0 (at_10 rfl) rfl 8 (by decide) (hts (.fieldLink RX11 60 "BondCalendars" "live" "LBondCalendars$Desk;") (List.mem_cons_of_mem _ (List.mem_append_left _ (List.mem_append_left _ (List.mem_append_left _ (List.mem_append_left _ (List.mem_of_getElem? (i := 0) rfl))))))) (fun _ h9 => h9) (by show some (va_re ad ((σ 0).2.2.2 8)) = _; rw [q8]; rfl) dX11_holiday_45 ?_
  refine va_get (D := (dC, dI)) (ci := 3) (v := .ref (ad (b8 + 1))) (C := RX4) (T := TX4) (N := 12) hx hb hts hinX4 hown hK hP b8 (at_3 hb8) rfl 2 (by decide) (hts (.fieldLink RX11 146 "BondCalendars$Desk" "holidays" "LBondCalendars$Holidays;") (List.mem_cons_of_mem _ (List.mem_append_left _ (List.mem_append_left _ (List.mem_append_left _ (List.mem_append_left _ (List.mem_of_getElem? (i := 1) rfl))))))) (fun _ h9 => h9) rfl dX11_holiday_48 ?_
  refine va_get (D := (dC, dI)) (ci := 4) (v := .ref (ad (b8 + 1 + 1))) (C := RX5) (T := TX5) (N := 2) hx hb hts hinX5 hown hK hP (b8 + 1) (at_4 (kk_3_1 hb8)) rfl 0 (by decide) (hts (.fieldLink RX11 381 "BondCalendars$Holidays" "list" "[I") (List.mem_cons_of_mem _ (List.mem_append_left _ (List.mem_append_left _ (List.mem_append_left _ (List.mem_append_left _ (List.mem_of_getElem? (i := 3) rfl))))))) (fun _ h9 => h9) rfl dX11_holiday_51 ?_
  refine lv_iload_n hx hb dX11_holiday_54 rfl (lv_at hl 1 rfl) ?_
  refine va_iald hx hb hK hP (b8 + 1 + 1) (b8 + 1 + 1) (at_25 (kk_4_1 (kk_3_1 hb8))) (ty_25 (kk_4_1 (kk_3_1 hb8))) (gin (N := 10) (by decide) (Int32.not_lt.mp c_1) c_3) dX11_holiday_55 ?_
  refine lv_topi (fun x_1 _ => ?_)
  have hF := gFree (w := []) (hx_D0 (A := va_A [] s.heap.size)) hS hA
  refine va_calli (va_runS (As := [.int x_1]) (rest := []) ⟨hx, hb, hml, hown, hts⟩ (k_X3_numberOf l dC dI s.heap.size x_1) (va_cwS 1 hts hy_gN rfl rfl rfl (by decide +kernel) ⟨Nat.le_of_ble_eq_true rfl, Nat.le_of_ble_eq_true rfl⟩) ⟨fun a U g mk q => by obtain ⟨q0, q1, qP, qK, qD⟩ := q; exact ⟨q0, q1, qP, va_K.moved (u := U) (U := U.calling g mk a) (Vm.Alike.refl U.vm) qK, qD⟩, fun U hU hW => ⟨rfl, by rw [hU], hx_P0, va_K.moved hW.alike hKe, hx_D0⟩⟩ rfl rfl hl.1 rfl (lv_room (Nat.le_of_ble_eq_true rfl)) dX11_holiday_56 ⟨Nat.le_of_ble_eq_true rfl, Nat.le_of_ble_eq_true rfl⟩) hS (fun q _ h => hF q h) hF (fun r_2 u t H locs ht hvm hw hB hz1 hk1 hS => ?_)
  refine vx_ret ?_
  refine W.widen (k := 1) (n := 6) (Nat.le_of_ble_eq_true rfl) (Nat.le_of_ble_eq_true rfl) ?_
  exact W.iret (v := r_2) hx hb hr (fun t ht hW => ⟨⟨r_2, (), rfl, trivial, trivial⟩, hS.F ht⟩) hS.2.2 dX11_holiday_59
theorem gOther {D : va_G} {w w2 : va_W} {H H1 : Heap} (hP : va_P D vwCl w2 H) (hk : ∀ q : Nat, q < H.size → ¬ va_A w H.size q → H1[q]? = H[q]?) (dj : ∀ (k : Nat) (e : va_E) (i : Nat) (e' : va_E) (a a' : Nat), w2[k]? = some (a, e) → w[i]? = some (a', e') → a' ≠ a) : va_P D vwCl w2 H1 := by
  intro k q hq
  have h0 := hP k q hq
  have key : ∀ cell : Cell, H[q.1]? = some cell → H1[q.1]? = some cell := fun cell hc => by
    have hlt : q.1 < H.size := (Array.getElem?_eq_some_iff.mp hc).1
    have hn : ¬ va_A w H.size q.1 := by
      intro h
      rcases h with ⟨i, e, h⟩ | h
      · exact dj k q.2 i e q.1 q.1 hq h rfl
      · exact absurd hlt (Nat.not_lt.mpr h)
    rw [hk q.1 hlt hn]
    exact hc
  obtain ⟨a, e⟩ := q
  cases e with
  | inl x => exact key _ h0
  | inr x =>
    obtain ⟨r, h1, cell, q1, q2⟩ := h0
    exact ⟨r, h1, cell, key cell q1, q2⟩
theorem dj_sym {w w2 : va_W} (dj : ∀ (k : Nat) (e : va_E) (i : Nat) (e' : va_E) (a a' : Nat), w2[k]? = some (a, e) → w[i]? = some (a', e') → a' ≠ a) : ∀ (k : Nat) (e : va_E) (i : Nat) (e' : va_E) (a a' : Nat), w[k]? = some (a, e) → w2[i]? = some (a', e') → a' ≠ a := fun k e i e' a a' h1 h2 h3 => dj i e' k e a' a h2 h1 h3.symm
theorem dj_G {n n2 : Nat} {ad am : Nat → Nat} {f g : Nat → va_E} (h : ∀ i, i < n → ∀ j, j < n2 → ad i ≠ am j) : ∀ (k : Nat) (e : va_E) (i : Nat) (e' : va_E) (a a' : Nat), (wG n2 am g)[k]? = some (a, e) → (wG n ad f)[i]? = some (a', e') → a' ≠ a := fun k e i e' a a' h1 h2 => by
  obtain ⟨c1, e1⟩ := wG_of h1
  obtain ⟨c2, e2⟩ := wG_of h2
  cases e1
  cases e2
  exact h i c2 k c1
theorem dj_1 {n : Nat} {ad : Nat → Nat} {f : Nat → va_E} {lo : Nat} {x : va_E} (h : ∀ i, i < n → ad i ≠ lo) : ∀ (k : Nat) (e : va_E) (i : Nat) (e' : va_E) (a a' : Nat), ([(lo, x)] : va_W)[k]? = some (a, e) → (wG n ad f)[i]? = some (a', e') → a' ≠ a := fun k e i e' a a' h1 h2 => by
  obtain ⟨c2, e2⟩ := wG_of h2
  cases e2
  cases k with
  | zero =>
    cases h1
    exact h i c2
  | succ k => simp at h1
theorem dj_0 {w : va_W} : ∀ (k : Nat) (e : va_E) (i : Nat) (e' : va_E) (a a' : Nat), w[k]? = some (a, e) → ([] : va_W)[i]? = some (a', e') → a' ≠ a := fun k e i e' a a' _ h2 => by simp at h2
set_option maxHeartbeats 8000000 in
set_option maxRecDepth 100000 in
/-- the law's own holiday over any state -/
theorem n_L_holiday (l : Launch) (hl0 : l.stackTraces = false) (dC : Nat → ClassId) (dI : Nat → Nat → Nat) (ad : Nat → Nat) (cA : Nat → ClassId) (adK adV : Nat → Nat) (sz : Nat) (σ : gs) (hI : InvX σ) (lo : Nat) (cL : ClassId) (f : Nat → Int64) (djX : ∀ i, i < 155 → ad i ≠ lo) (sa : Nat) (p1 : Int32) : Met l yL_holiday hy_wL ({ frames := 7, cells := 1, slots := 6, locals := 131 }) (va_Pc [.ref (ad 0), .int p1, .ref lo] (fun U => gPre adK adV (dC, dI) (wX ad cA σ) (tX cA) sz U ∧ vk_R RX11 386 "no such holiday" sa U ∧ va_P (dC, dI) vwCl [(lo, .inl (cL, 1, .inr (.inl f)))] U.heap ∧ va_K (dC, dI) vwCl [(cL, .long)] U ∧ va_D (fun _ => True) [(lo, .inl (cL, 1, .inr (.inl f)))])) (va_Qi (fun (_ : Int32) (_ : Nat → Int64) => True) (fun g t => va_P (dC, dI) vwCl [(lo, .inl (cL, 1, .inr (.inl g)))] t.heap) (va_A [(lo, .inl (cL, 1, .inr (.inl f)))] sz)) 1 6 (va_A [(lo, .inl (cL, 1, .inr (.inl f)))] sz) := by
  refine hx_met (vx_ofWH (cc := cL_holiday) (maxL := 4) (ret := (some .int)) (hh := [(0, 9, 12, 13)]) (by decide) rfl ?_)
  intro p e s m args below meth c s₁ B hml hv
  obtain ⟨rfl, ⟨hsz, hP, hK, hD0, hT⟩, hR, hPO, hKO, hDO0⟩ := hv
  have hx := B.exec
  have hb := B.bytes
  have hr := B.returns
  have hts := atoms_spec (ws := hy_wL) B.pre
  have hown : s.vm.findClass RL = some m.cls := findClass_of_methodNamed B.named
  have hlocks := B.notSynchronized
  have htab := vx_table (x := yL_holiday) B (hts _ List.mem_cons_self)
  subst hsz
  have hDO := hDO0.self (sz := s.heap.size)
  generalize hAe : va_A [(lo, .inl (cL, 1, .inr (.inl f)))] s.heap.size = A at hDO ⊢
  have hA : ∀ q : Nat, s.heap.size ≤ q → A q := fun q h => by rw [← hAe]; exact Or.inr h
  have hS : va_S A s.heap s.heap [] := va_S.rf
  have hl := lv_entry ([.ref (ad 0), .int p1, .ref lo]) (n := 4) (Nat.le_of_ble_eq_true rfl)
  rw [lg_entry_eq]
  generalize (lg_sl ([.ref (ad 0), .int p1, .ref lo]) ++ List.replicate (4 - (lg_sl ([.ref (ad 0), .int p1, .ref lo])).length) Slot.unset).toArray = ls at hl ⊢
  have hl : lv_has ls 4 [(0, .ref (ad 0)), (1, .int p1), (2, .ref lo)] := hl
  refine lv_aload_n hx hb dL_holiday_0 rfl (lv_at hl 2 rfl) ?_
  refine lv_iconst (v := 0) hx hb dL_holiday_1 rfl ?_
  refine lv_aload_n hx hb dL_holiday_2 rfl (lv_at hl 0 rfl) ?_
  refine lv_iload_n hx hb dL_holiday_3 rfl (lv_at hl 1 rfl) ?_
  have hF := gFree (w := []) (hx_D0 (A := A)) hS hA
  refine vx_calli (vx_runV (As := [.int p1]) (rest := [.int 0, .ref lo]) ⟨hx, hb, hml, hown, hts⟩ (n_X11_holiday l hl0 dC dI ad cA adK adV s.heap.size σ hI sa p1) (cwV 1 hts hy_gX rfl rfl rfl (by decide +kernel) ⟨Nat.le_of_ble_eq_true rfl, Nat.le_of_ble_eq_true rfl⟩) ⟨fun a U g mk q => by obtain ⟨q1, q2, q3⟩ := q; exact ⟨q1, (gBlind (As := [.ref (ad 0), .int p1]) a U g mk ⟨q1, q2⟩).2, vk_R.same rfl q3⟩, va_recv hK hP (ci := 10) (q0 := 0) rfl (at_10 rfl), fun U hU hW => ⟨rfl, ⟨by rw [hU], by rw [hU]; exact hP, va_K.moved hW.alike hK, hD0, by rw [hU]; exact gT.warm hW hT⟩, vk_R.warm hW hR⟩⟩ rfl rfl hl.1 rfl (lv_room (Nat.le_of_ble_eq_true rfl)) dL_holiday_4 ⟨Nat.le_of_ble_eq_true rfl, Nat.le_of_ble_eq_true rfl⟩) hS (fun q _ h => hF q h) hF (fun q _ h => hF q h) (fun E ce q9 u t H1 locs ht hvm hw hB hz1 hk1 hS hce hcv hcl => ?_) (fun r u t H1 locs ht hvm hw hB hz1 hk1 hS => ?_)
  · obtain ⟨rfl, hK1⟩ := hB
    have hPO := gOther hPO hk1 dj_0
    refine vx_catch hown [] _ [] htab (fun z hz => nomatch hz) (by decide) (by decide) (hts (.classLink RL 13 hx_X) (List.mem_cons_of_mem _ (List.mem_append_left _ (List.mem_of_getElem? (i := 0) rfl)))) (hx_cast hcl) hce hcv hcl ?_
    refine vx_ret ?_
    refine lv_astore_n (lv' := [(3, .ref q9), (0, .ref (ad 0)), (1, .int p1), (2, .ref lo)]) hx hb dL_holiday_12 rfl hl (by decide) rfl (fun ls hl => ?_)
    refine lv_iconst (v := 1) hx hb dL_holiday_13 rfl ?_
    exact W.iret (v := 1) hx hb hr (fun t ht hW => ⟨⟨1, f, rfl, trivial, by show va_P (dC, dI) vwCl _ t.heap; rw [ht]; exact hPO⟩, hS.F ht⟩) hS.2.2 dL_holiday_14
  · have hPO := gOther hPO hk1 dj_0
    refine lv_i2l hx hb dL_holiday_7 rfl ?_
    refine va_last hx hb hKO hPO hDO hS 0 0 rfl rfl (gin (N := 1) (by decide) (by decide) (by decide)) dL_holiday_8 (fun H locs hPO hDO hS => ?_)
    obtain ⟨g9, hg9⟩ : ∃ g9 : Nat → Int64, va_P (dC, dI) vwCl [(lo, .inl (cL, 1, .inr (.inl g9)))] H := ⟨_, hPO⟩
    refine vx_ret ?_
    refine lv_goto (tgt := 15) hx hb dL_holiday_9 (by decide) ?_
    refine lv_iconst (v := 0) hx hb dL_holiday_15 rfl ?_
    exact W.iret (v := 0) hx hb hr (fun t ht hW => ⟨⟨0, g9, rfl, trivial, by show va_P (dC, dI) vwCl _ t.heap; rw [ht]; exact hg9⟩, hS.F ht⟩) hS.2.2 dL_holiday_16
def hy_T : List Cond := va_wsS RL 191 yL_holiday hy_wL
theorem hy_gT : GoodIn hy_T (va_wsS RL 191 yL_holiday hy_wL) := goodIn_sub (fun _ h => h) (by decide +kernel)
def hy_ix : List Nat := [1173, 1174, 101, 1175, 1176, 1177, 1178, 1179, 102, 1180, 499, 440, 332, 328, 900, 710, 119, 711, 663, 712, 713, 714, 506, 508, 510, 512, 514, 516, 518, 520, 522, 524, 526, 528, 530, 532, 534, 466, 468, 470, 472, 474, 476, 478, 480, 482, 484, 486, 488, 333, 335, 122, 1203, 1212, 1214, 1217, 1219, 1204, 1205, 132, 133, 1206, 1211, 1215, 1235, 1193, 1236, 1195, 1237, 1197, 1207, 1209, 1199, 1231, 1232, 1234, 1199, 1222, 1225, 1225, 1226, 1227, 1228, 1228, 1229, 1230, 1231, 1221, 1182, 1190, 1191, 1192, 1194, 1196, 1198, 1202, 1201, 1200, 1223, 1224, 1181, 125]
set_option maxRecDepth 100000 in
theorem hy_T_eq : hy_T.map some = hy_ix.map (fun i => lw_tbl[i]?) := by decide +kernel
theorem hy_T_in : ∀ w ∈ hy_T, w ∈ lw_tbl := fun w h => by
  have h1 : some w ∈ hy_T.map some := List.mem_map.mpr ⟨w, h, rfl⟩
  rw [hy_T_eq] at h1
  obtain ⟨i, _, e⟩ := List.mem_map.mp h1
  exact List.mem_of_getElem? e
