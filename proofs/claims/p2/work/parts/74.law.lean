/-! THE CLAIM OUT OF ONE WALK OF THE LAW'S BODY. Your part is whole_start (and what it stands on); all else here is the same for every law, but numbers. -/
def R_law : String := "BondCalendarsLaw"
def lw_P (b : Addr) (xs : List Int32) (args : Array Value) (s : State) : Prop := args = #[.ref b] ∧ s.IntsAt b xs ∧ xs.length ≤ 3072 ∧ (Jvm.Cond.and given_1 narrow_1).before args s = true
/-- what a walk over the start with the record d0 says of its end, said of the start itself -/
theorem lw_closed {s t : State} {o : Outcome} {d0 : Drawn} {L : List Loc} {k n : Nat} (hd0 : s.drawn.sameBut d0 lw_cs) (hv : ∃ v, o = .returned v) (hW : (s.setDrawn d0).WarmedH t.vm) (hs : (s.setDrawn d0).sameButNew ({ t with vm := s.vm } : State) L k n) : State.butDraws s t lw_cs (fun t1 => Framed s o t1 L k n) := by
  have h2 : t.drawn = d0 := congrArg State.drawn hs.1
  refine ⟨⟨hv, hW, State.sameButNew.setDrawn hs s.drawn⟩, ?_, by decide⟩
  rw [h2]
  exact hd0
def lw_Q (_ : Array Value) (s : State) (o : Outcome) (t : State) : Prop := o = .returned (some (.int 1)) ∧ State.butDraws s t lw_cs (fun t1 => Framed s o t1 [] 601024 7293034)
def lw_Z (below : List Frame) (a : Array Value) (s : State) : State → Prop := fun t => ∃ o, t.status = .running ∧ Ended t below o ∧ lw_Q a s o t
/-- the law's own end, with 1 on the stack, nothing written that was there before, its room as the claim has it; d0: the record of draws at this point (at the entry s.drawn: begin with 'refine W.base ?_' and 'have hd0 := Drawn.sameBut.refl s.drawn lw_cs') -/
theorem lw_ret {p : Program} {l : Launch} {e : Env} {s : State} {m : MethodId} {below : List Frame} {meth : Method} {c : Code} {b : Nat} {d0 : Drawn} (hd0 : s.drawn.sameBut d0 lw_cs) (hx : p.tables.exec = Jvm.exec) (hb : c.code = code) (hr : meth.sig.returnType = ret) (hlocks : meth.locks = false) {pc : Nat} {H : Heap} {ls : Array Slot} (hdg : decode code pc = .ok (.ireturn, 1)) : W p l e room_1 (s.setDrawn d0) m #[Value.ref b] below meth c H [] 601024 7293034 (lw_Z below #[Value.ref b] s) (F0 m pc ls [.int 1]) := by
  intro T hT X
  obtain ⟨fs, hret, hrun, hended, hW, hframe⟩ := X.leave (v := some (.int 1)) (hlocks := hlocks) (fun h => by rw [hr] at h; cases h)
  have hmeth' : T.vm.method? m = some meth := X.method'
  refine ⟨T.setFrames fs, ?_, .returned (some (.int 1)), hrun, hended, rfl, lw_closed hd0 ⟨_, rfl⟩ hW hframe⟩
  jvm_step X.here [X.here.top, hx, hb, hdg, hmeth', hr, ret, narrow_b1]
  (try refine ⟨rfl, ?_⟩); (try refine ⟨rfl, ?_⟩)
  first | (intro acts; rw [hret _ acts rfl rfl rfl]) | rw [hret _ _ rfl rfl rfl]
  exact Steps.refl _
/-- what holds at the law's entry: the machine, the code, the tables' words (any of lw_tbl by 'hts w (by decide +kernel)'), the script of L ints xs at the cell b, what the Statement gives of the start (any of its parts by flat_of_before) -/
def lw_At (p : Program) (s : State) (m : MethodId) (meth : Method) (c : Code) (b L : Nat) (xs : Nat → Int32) : Prop :=
  p.tables.exec = Jvm.exec ∧ c.code = code ∧ meth.sig.returnType = ret ∧ c.maxLocals = 7 ∧ s.vm.findClass R_law = some m.cls ∧ (∀ w ∈ lw_tbl, w.before #[Value.ref b] s = true) ∧ va_X b L xs s s.heap ∧ b < s.heap.size ∧ meth.locks = false ∧ (Jvm.Cond.and given_1 narrow_1).before #[Value.ref b] s = true
theorem vD_one {A : Nat → Prop} {lo : Nat} {e e' : va_E} (h : va_D A [(lo, e)]) : va_D A [(lo, e')] := by
  refine ⟨fun i j p q h1 h2 _ => ?_, fun k q hq => ?_⟩
  · have a := (List.getElem?_eq_some_iff.mp h1).1
    have b := (List.getElem?_eq_some_iff.mp h2).1
    simp at a b
    omega
  · have a := (List.getElem?_eq_some_iff.mp hq).1
    simp at a
    subst a
    cases hq
    exact (show A lo from h.2 0 (lo, e) rfl)
theorem lw_in {L j : Nat} {x : Int32} (hL : L ≤ 3072) (hj : 6 * j ≤ L + 6) (ex : x = Int32.ofNat L - 6) (h : ¬ x < nI (6 * j)) : 6 * j + 6 ≤ L := by
  have a : (Int32.ofNat L).toInt = (L : Int) := Int32.toInt_ofNat_of_lt (by omega)
  have b : (nI (6 * j)).toInt = ((6 * j : Nat) : Int) := Int32.toInt_ofNat_of_lt (by omega)
  have c : x.toInt = (L : Int) - 6 := by rw [ex]; exact i3_sub (b := 6) (y := 6) a rfl (by omega) (by omega)
  have d := mt Int32.lt_iff_toInt_lt.mpr h
  omega
theorem lw_ix {L j k : Nat} {c : Int32} (hL : L ≤ 3072) (hj : 6 * j + 6 ≤ L) (hc : c.toInt = (k : Int)) (hk : k < 6) : vp_in (nI (6 * j) + c) L := by
  have b : (nI (6 * j)).toInt = ((6 * j : Nat) : Int) := Int32.toInt_ofNat_of_lt (by omega)
  have d : (nI (6 * j) + c).toInt = ((6 * j : Nat) : Int) + k := i3_add b hc (by omega) (by omega)
  intro h
  rcases h with h | h
  · have := Int32.lt_iff_toInt_lt.mp h
    have z : (0 : Int32).toInt = 0 := by decide
    omega
  · have e : (nI (6 * j) + c).toNatClampNeg = (nI (6 * j) + c).toInt.toNat := rfl
    omega
theorem lw_ix0 {L j : Nat} (hL : L ≤ 3072) (hj : 6 * j + 6 ≤ L) : vp_in (nI (6 * j)) L := by
  have b : (nI (6 * j)).toInt = ((6 * j : Nat) : Int) := Int32.toInt_ofNat_of_lt (by omega)
  intro h
  rcases h with h | h
  · have := Int32.lt_iff_toInt_lt.mp h
    have z : (0 : Int32).toInt = 0 := by decide
    omega
  · have e : (nI (6 * j)).toNatClampNeg = (nI (6 * j)).toInt.toNat := rfl
    omega
theorem nI_6 (j : Nat) : nI (6 * j) + 6 = nI (6 * (j + 1)) := by
  show Int32.ofNat (6 * j) + Int32.ofNat 6 = Int32.ofNat (6 * (j + 1))
  rw [← Int32.ofNat_add]
  congr 1

set_option maxHeartbeats 80000000 in
set_option maxRecDepth 100000 in
/-- the law's loop: from any state of both objects -/
theorem law_loop {p : Program} {e : Env} {s : State} {m : MethodId} {below : List Frame} {meth : Method} {c : Code} (l : Launch) (hflags : l.flags = flags0) {b L : Nat} {xs : Nat → Int32} (C0 : lw_At p s m meth c b L xs) (hL : L ≤ 3072) (dC : Nat → ClassId) (dI : Nat → Nat → Nat) (ad am : Nat → Nat) (cA cM : Nat → ClassId) (lo : Nat) (cL : ClassId) (adK adV : Nat → Nat) (sa : Nat) (hKX0 : va_K (dC, dI) vwCl (tX cA) s) (hKM0 : va_K (dC, dI) vwCl (tM cM) s) (hKL0 : va_K (dC, dI) vwCl [(cL, .long)] s) (hT : gT adK adV (fun q : Nat => s.heap.size ≤ q) s s.heap) (hR : vk_R RX11 386 "no such holiday" sa s) (dj : ∀ i, i < 155 → ∀ j, j < 31 → ad i ≠ am j) (djX : ∀ i, i < 155 → ad i ≠ lo) (djM : ∀ i, i < 31 → am i ≠ lo) : ∀ (n j : Nat) (σ τ : gs) (f : Nat → Int64) (d : Drawn) (H : Heap) (locs : List Loc) (ls : Array Slot) (cells slots : Nat), L + 6 - 6 * j < n → 6 * j ≤ L + 6 → InvX σ → InvM τ → Deep τ → (σ 2).1 1 = (τ 0).1 31 → cells ≤ 187 + j → slots ≤ 12986 + 6 * j → s.drawn.sameBut d lw_cs → va_P (dC, dI) vwCl (wX ad cA σ) H → va_D (fun q : Nat => s.heap.size ≤ q) (wX ad cA σ) → va_P (dC, dI) vwCl (wM am cM τ) H → va_D (fun q : Nat => s.heap.size ≤ q) (wM am cM τ) → va_P (dC, dI) vwCl [(lo, .inl (cL, 1, .inr (.inl f)))] H → va_D (fun q : Nat => s.heap.size ≤ q) [(lo, .inl (cL, 1, .inr (.inl f)))] → va_S (fun q : Nat => s.heap.size ≤ q) s.heap H locs → lv_has ls 7 [(4, .int (nI (6 * j))), (3, .ref lo), (2, .ref (am 0)), (1, .ref (ad 0)), (0, .ref b)] → W p l e room_1 (s.setDrawn d) m #[Value.ref b] below meth c H locs cells slots (lw_Z below #[Value.ref b] s) (F0 m 23 ls []) := by
  obtain ⟨hx, hb, hr, hml, hown0, htsL, hX0, hbl, hlocks, hgv⟩ := id C0
  have hown0 : s.vm.findClass RL = some m.cls := hown0
  have hl0 : l.stackTraces = false := hx_fl hflags
  have htsT0 : ∀ w ∈ hy_T, w.before #[Value.ref b] s = true := fun w h => htsL w (hy_T_in w h)
  have hts0 : ∀ w ∈ wsL_law0, w.before #[Value.ref b] s = true := fun w h => htsL w (wsL_law_in0 w h)
  have hA : ∀ q : Nat, s.heap.size ≤ q → (fun q : Nat => s.heap.size ≤ q) q := fun _ h => h
  have hbA : ¬ (fun q : Nat => s.heap.size ≤ q) b := Nat.not_le.mpr hbl
  generalize hAe : (fun q : Nat => s.heap.size ≤ q) = A at hA hbA hT ⊢
  have hrc : room_1.cells = 601024 := rfl
  have hrs : room_1.slots = 7293034 := rfl
  intro n
  induction n with
  | zero => intro j σ τ f d H locs ls cells slots hm; exact absurd hm (Nat.not_lt_zero _)
  | succ n ih =>
  intro j σ τ f d H locs ls cells slots hm hj hIX hIM hDp hEq hcl hsl hd0 hPX hDX hPM hDM hPO hDO hS hl
  have hts := dr_words hts0 (d)
  have hKX := gKd hKX0 (d)
  have hKM := gKd hKM0 (d)
  have hown : (s.setDrawn (d)).vm.findClass RL = some m.cls := hown0
  have hX : va_X b L xs (s.setDrawn (d)) s.heap := hX0
  refine lv_iload hx hb dL_law_23 (lv_at hl 0 rfl) ?_
  refine lv_aload_n hx hb dL_law_25 rfl (lv_at hl 4 rfl) ?_
  refine va_slen hx hb hX hbl hbA hS dL_law_26 ?_
  refine lv_bipush (v := 6) hx hb dL_law_27 (by decide) ?_
  refine lv_isub hx hb dL_law_29 ?_
  refine lv_topi (fun x_1 ex_1 => ?_)
  refine lv_icmp_gt (tgt := 1856) hx hb dL_law_30 (by decide) (fun c_2 => ?_) (fun c_2 => ?_)
  · refine lv_iconst (v := 1) hx hb dL_law_1856 (by decide) ?_
    refine va_forget (fun q hq => by have h9 := hS.2.2 q hq; rw [← hAe] at h9; exact h9) ?_
    refine W.widen (k := 601024) (n := 7293034) (by omega) (by omega) ?_
    exact lw_ret hd0 hx hb hr hlocks dL_law_1857
  · have hin : 6 * j + 6 ≤ L := lw_in hL hj ex_1 c_2
    refine lv_aload_n hx hb dL_law_33 rfl (lv_at hl 4 rfl) ?_
    refine lv_iload hx hb dL_law_34 (lv_at hl 0 rfl) ?_
    refine va_sld hx hb hX hbl hbA hS (lw_ix0 hL hin) dL_law_36 ?_
    refine lv_bipush (v := 63) hx hb dL_law_37 (by decide) ?_
    refine lv_iand hx hb dL_law_39 ?_
    by_cases c_3 : ((xs (nI (6 * j)).toNatClampNeg) &&& 63) = 0
    · refine lv_tableIn (tgt := 228) hx hb dL_law_40 (by rw [c_3]; decide) (by rw [c_3]; decide) (by rw [c_3]; rfl) (by decide) ?_
      refine lv_aload_n hx hb dL_law_228 rfl (lv_at hl 3 rfl) ?_
      refine lv_aload_n hx hb dL_law_229 rfl (lv_at hl 4 rfl) ?_
      refine lv_iload hx hb dL_law_230 (lv_at hl 0 rfl) ?_
      refine lv_iconst (v := 1) hx hb dL_law_232 (by decide) ?_
      refine lv_iadd hx hb dL_law_233 ?_
      refine va_sld hx hb hX hbl hbA hS (lw_ix (k := 1) hL hin (by decide) (by decide)) dL_law_234 ?_
      refine lv_aload_n hx hb dL_law_235 rfl (lv_at hl 4 rfl) ?_
      refine lv_iload hx hb dL_law_236 (lv_at hl 0 rfl) ?_
      refine lv_iconst (v := 2) hx hb dL_law_238 (by decide) ?_
      refine lv_iadd hx hb dL_law_239 ?_
      refine va_sld hx hb hX hbl hbA hS (lw_ix (k := 2) hL hin (by decide) (by decide)) dL_law_240 ?_
      refine lv_aload_n hx hb dL_law_241 rfl (lv_at hl 4 rfl) ?_
      refine lv_iload hx hb dL_law_242 (lv_at hl 0 rfl) ?_
      refine lv_iconst (v := 3) hx hb dL_law_244 (by decide) ?_
      refine lv_iadd hx hb dL_law_245 ?_
      refine va_sld hx hb hX hbl hbA hS (lw_ix (k := 3) hL hin (by decide) (by decide)) dL_law_246 ?_
      refine lv_aload_n hx hb dL_law_247 rfl (lv_at hl 4 rfl) ?_
      refine lv_iload hx hb dL_law_248 (lv_at hl 0 rfl) ?_
      refine lv_iconst (v := 4) hx hb dL_law_250 (by decide) ?_
      refine lv_iadd hx hb dL_law_251 ?_
      refine va_sld hx hb hX hbl hbA hS (lw_ix (k := 4) hL hin (by decide) (by decide)) dL_law_252 ?_
      refine lv_aload_n hx hb dL_law_253 rfl (lv_at hl 4 rfl) ?_
      refine lv_iload hx hb dL_law_254 (lv_at hl 0 rfl) ?_
      refine lv_iconst (v := 5) hx hb dL_law_256 (by decide) ?_
      refine lv_iadd hx hb dL_law_257 ?_
      refine va_sld hx hb hX hbl hbA hS (lw_ix (k := 5) hL hin (by decide) (by decide)) dL_law_258 ?_
      have hF := gFree hDX hS hA
      refine va_calliD hd0 (va_runV_D (As := [.int (xs ((nI (6 * j)) + 1).toNatClampNeg), .int (xs ((nI (6 * j)) + 2).toNatClampNeg), .int (xs ((nI (6 * j)) + 3).toNatClampNeg), .int (xs ((nI (6 * j)) + 4).toNatClampNeg), .int (xs ((nI (6 * j)) + 5).toNatClampNeg)]) (rest := []) ⟨hx, hb, hml, hown, hts⟩ (n_X11_feedF l dC dI ad cA adK adV H.size σ hIX (xs ((nI (6 * j)) + 1).toNatClampNeg) (xs ((nI (6 * j)) + 2).toNatClampNeg) (xs ((nI (6 * j)) + 3).toNatClampNeg) (xs ((nI (6 * j)) + 4).toNatClampNeg) (xs ((nI (6 * j)) + 5).toNatClampNeg) ) (cwV 5 hts gL0_X11_feed rfl rfl rfl (by decide +kernel) ⟨Nat.le_of_ble_eq_true rfl, Nat.le_of_ble_eq_true rfl⟩) ⟨gBlind, va_recv hKX hPX (ci := 10) (q0 := 0) rfl (at_10 rfl), gStart (As := [.ref (ad 0), .int (xs ((nI (6 * j)) + 1).toNatClampNeg), .int (xs ((nI (6 * j)) + 2).toNatClampNeg), .int (xs ((nI (6 * j)) + 3).toNatClampNeg), .int (xs ((nI (6 * j)) + 4).toNatClampNeg), .int (xs ((nI (6 * j)) + 5).toNatClampNeg)]) hPX hDX hKX0 hT hS hF (d)⟩ rfl rfl hl.1 rfl (lv_room (Nat.le_of_ble_eq_true rfl)) dL_law_259 ⟨by omega, by omega⟩) hS (fun q _ h => hF q h) hF (fun r_4 σz_5 t H1 locs ht hvm hw hB hz1 hk1 hS d_6 hd0 => ?_)
      have hts := dr_words hts0 (d_6)
      have hKX := gKd hKX0 (d_6)
      have hKM := gKd hKM0 (d_6)
      have hown : (s.setDrawn (d_6)).vm.findClass RL = some m.cls := hown0
      have hX : va_X b L xs (s.setDrawn (d_6)) s.heap := hX0
      obtain ⟨hPX, hDX⟩ := gBack hF ht hB
      obtain ⟨hI_8, fc_9, hp_7⟩ := hw
      have hPM := gOther hPM hk1 (dj_G dj)
      have hPO := gOther hPO hk1 (dj_1 djX)
      generalize H1 = H at hPX hPM hPO hS ⊢
      refine lv_aload_n hx hb dL_law_262 rfl (lv_at hl 2 rfl) ?_
      refine lv_aload_n hx hb dL_law_263 rfl (lv_at hl 4 rfl) ?_
      refine lv_iload hx hb dL_law_264 (lv_at hl 0 rfl) ?_
      refine lv_iconst (v := 1) hx hb dL_law_266 (by decide) ?_
      refine lv_iadd hx hb dL_law_267 ?_
      refine va_sld hx hb hX hbl hbA hS (lw_ix (k := 1) hL hin (by decide) (by decide)) dL_law_268 ?_
      refine lv_aload_n hx hb dL_law_269 rfl (lv_at hl 4 rfl) ?_
      refine lv_iload hx hb dL_law_270 (lv_at hl 0 rfl) ?_
      refine lv_iconst (v := 2) hx hb dL_law_272 (by decide) ?_
      refine lv_iadd hx hb dL_law_273 ?_
      refine va_sld hx hb hX hbl hbA hS (lw_ix (k := 2) hL hin (by decide) (by decide)) dL_law_274 ?_
      refine lv_aload_n hx hb dL_law_275 rfl (lv_at hl 4 rfl) ?_
      refine lv_iload hx hb dL_law_276 (lv_at hl 0 rfl) ?_
      refine lv_iconst (v := 3) hx hb dL_law_278 (by decide) ?_
      refine lv_iadd hx hb dL_law_279 ?_
      refine va_sld hx hb hX hbl hbA hS (lw_ix (k := 3) hL hin (by decide) (by decide)) dL_law_280 ?_
      refine lv_aload_n hx hb dL_law_281 rfl (lv_at hl 4 rfl) ?_
      refine lv_iload hx hb dL_law_282 (lv_at hl 0 rfl) ?_
      refine lv_iconst (v := 4) hx hb dL_law_284 (by decide) ?_
      refine lv_iadd hx hb dL_law_285 ?_
      refine va_sld hx hb hX hbl hbA hS (lw_ix (k := 4) hL hin (by decide) (by decide)) dL_law_286 ?_
      refine lv_aload_n hx hb dL_law_287 rfl (lv_at hl 4 rfl) ?_
      refine lv_iload hx hb dL_law_288 (lv_at hl 0 rfl) ?_
      refine lv_iconst (v := 5) hx hb dL_law_290 (by decide) ?_
      refine lv_iadd hx hb dL_law_291 ?_
      refine va_sld hx hb hX hbl hbA hS (lw_ix (k := 5) hL hin (by decide) (by decide)) dL_law_292 ?_
      have hF := gFree hDM hS hA
      refine va_calliD hd0 (va_runV_D (As := [.int (xs ((nI (6 * j)) + 1).toNatClampNeg), .int (xs ((nI (6 * j)) + 2).toNatClampNeg), .int (xs ((nI (6 * j)) + 3).toNatClampNeg), .int (xs ((nI (6 * j)) + 4).toNatClampNeg), .int (xs ((nI (6 * j)) + 5).toNatClampNeg)]) (rest := [.int r_4]) ⟨hx, hb, hml, hown, hts⟩ (n_X12_feedF l dC dI am cM adK adV H.size τ hIM (xs ((nI (6 * j)) + 1).toNatClampNeg) (xs ((nI (6 * j)) + 2).toNatClampNeg) (xs ((nI (6 * j)) + 3).toNatClampNeg) (xs ((nI (6 * j)) + 4).toNatClampNeg) (xs ((nI (6 * j)) + 5).toNatClampNeg) ) (cwV 5 hts gL0_X12_feed rfl rfl rfl (by decide +kernel) ⟨Nat.le_of_ble_eq_true rfl, Nat.le_of_ble_eq_true rfl⟩) ⟨gBlind, va_recv hKM hPM (ci := 11) (q0 := 0) rfl (mat_11 rfl), gStart (As := [.ref (am 0), .int (xs ((nI (6 * j)) + 1).toNatClampNeg), .int (xs ((nI (6 * j)) + 2).toNatClampNeg), .int (xs ((nI (6 * j)) + 3).toNatClampNeg), .int (xs ((nI (6 * j)) + 4).toNatClampNeg), .int (xs ((nI (6 * j)) + 5).toNatClampNeg)]) hPM hDM hKM0 hT hS hF (d_6)⟩ rfl rfl hl.1 rfl (lv_room (Nat.le_of_ble_eq_true rfl)) dL_law_293 ⟨by omega, by omega⟩) hS (fun q _ h => hF q h) hF (fun r_11 τz_12 t H1 locs ht hvm hw hB hz1 hk1 hS d_13 hd0 => ?_)
      have hts := dr_words hts0 (d_13)
      have hKX := gKd hKX0 (d_13)
      have hKM := gKd hKM0 (d_13)
      have hown : (s.setDrawn (d_13)).vm.findClass RL = some m.cls := hown0
      have hX : va_X b L xs (s.setDrawn (d_13)) s.heap := hX0
      obtain ⟨hPM, hDM⟩ := gBack hF ht hB
      obtain ⟨hI_15, fc_16, hp_14⟩ := hw
      have hPX := gOther hPX hk1 (dj_sym (dj_G dj))
      have hPO := gOther hPO hk1 (dj_1 djM)
      generalize H1 = H at hPX hPM hPO hS ⊢
      have dp_17 : Deep τz_12 := (Deep.fr hDp (fc_16.1 2 (by decide) (by decide)) (fc_16.1 4 (by decide) (by decide)) (fc_16.1 9 (by decide) (by decide)) (fc_16.1 11 (by decide) (by decide)) (fc_16.1 12 (by decide) (by decide)) (fc_16.1 17 (by decide) (by decide)) (fc_16.1 18 (by decide) (by decide)) (fc_16.2 20 (by decide)) (fc_16.2 21 (by decide)) (fc_16.2 28 (by decide)) (fc_16.2 64 (by decide)) (fc_16.2 65 (by decide)) (fc_16.2 68 (by decide)))
      have hs_19 := fd_same hp_7 hp_14 hEq
      have hq_18 : (σz_5 2).1 1 = (τz_12 0).1 31 := hs_19.2
      refine lv_icmp_eq (tgt := 1850) hx hb dL_law_296 (by decide) (fun c_20 => ?_) (fun c_20 => ?_)
      · obtain ⟨x_21, ex_21⟩ : ∃ zz : Int32, zz = (nI (6 * j)) + 6 := ⟨_, rfl⟩
        refine lv_iinc (v := x_21) (lv' := [(4, .int x_21), (3, .ref lo), (2, .ref (am 0)), (1, .ref (ad 0)), (0, .ref b)]) hx hb dL_law_1850 hl (k := 0) rfl (by rw [ex_21]; rfl) (by decide) rfl (fun ls hl => ?_)
        refine lv_goto (tgt := 23) hx hb dL_law_1853 (by decide) ?_
        have hl := lv_sub hl [0, 1, 2, 3, 4] rfl
        rw [ex_21, nI_6] at hl
        exact ih (j + 1) σz_5 τz_12 f _ _ _ _ _ _ (by omega) (by omega) hI_8 hI_15 dp_17 hq_18 (by omega) (by omega) hd0 hPX hDX hPM hDM hPO hDO hS hl
      · exact absurd hs_19.1 c_20
    by_cases c_22 : ((xs (nI (6 * j)).toNatClampNeg) &&& 63) = 1
    · refine lv_tableIn (tgt := 301) hx hb dL_law_40 (by rw [c_22]; decide) (by rw [c_22]; decide) (by rw [c_22]; rfl) (by decide) ?_
      refine lv_aload_n hx hb dL_law_301 rfl (lv_at hl 3 rfl) ?_
      refine lv_aload_n hx hb dL_law_302 rfl (lv_at hl 4 rfl) ?_
      refine lv_iload hx hb dL_law_303 (lv_at hl 0 rfl) ?_
      refine lv_iconst (v := 1) hx hb dL_law_305 (by decide) ?_
      refine lv_iadd hx hb dL_law_306 ?_
      refine va_sld hx hb hX hbl hbA hS (lw_ix (k := 1) hL hin (by decide) (by decide)) dL_law_307 ?_
      have hF := gFree hDX hS hA
      refine va_calliD hd0 (va_runV_D (As := [.int (xs ((nI (6 * j)) + 1).toNatClampNeg)]) (rest := []) ⟨hx, hb, hml, hown, hts⟩ (n_X11_deskF l dC dI ad cA adK adV H.size σ hIX (xs ((nI (6 * j)) + 1).toNatClampNeg) ) (cwV 1 hts gL0_X11_desk rfl rfl rfl (by decide +kernel) ⟨Nat.le_of_ble_eq_true rfl, Nat.le_of_ble_eq_true rfl⟩) ⟨gBlind, va_recv hKX hPX (ci := 10) (q0 := 0) rfl (at_10 rfl), gStart (As := [.ref (ad 0), .int (xs ((nI (6 * j)) + 1).toNatClampNeg)]) hPX hDX hKX0 hT hS hF (d)⟩ rfl rfl hl.1 rfl (lv_room (Nat.le_of_ble_eq_true rfl)) dL_law_308 ⟨by omega, by omega⟩) hS (fun q _ h => hF q h) hF (fun r_23 σz_24 t H1 locs ht hvm hw hB hz1 hk1 hS d_25 hd0 => ?_)
      have hts := dr_words hts0 (d_25)
      have hKX := gKd hKX0 (d_25)
      have hKM := gKd hKM0 (d_25)
      have hown : (s.setDrawn (d_25)).vm.findClass RL = some m.cls := hown0
      have hX : va_X b L xs (s.setDrawn (d_25)) s.heap := hX0
      obtain ⟨hPX, hDX⟩ := gBack hF ht hB
      obtain ⟨hI_27, fc_28, hp_26⟩ := hw
      have hPM := gOther hPM hk1 (dj_G dj)
      have hPO := gOther hPO hk1 (dj_1 djX)
      generalize H1 = H at hPX hPM hPO hS ⊢
      refine lv_pop hx hb dL_law_311 rfl ?_
      refine lv_aload_n hx hb dL_law_312 rfl (lv_at hl 2 rfl) ?_
      refine lv_aload_n hx hb dL_law_313 rfl (lv_at hl 4 rfl) ?_
      refine lv_iload hx hb dL_law_314 (lv_at hl 0 rfl) ?_
      refine lv_iconst (v := 1) hx hb dL_law_316 (by decide) ?_
      refine lv_iadd hx hb dL_law_317 ?_
      refine va_sld hx hb hX hbl hbA hS (lw_ix (k := 1) hL hin (by decide) (by decide)) dL_law_318 ?_
      have hF := gFree hDM hS hA
      refine va_calliD hd0 (va_runV_D (As := [.int (xs ((nI (6 * j)) + 1).toNatClampNeg)]) (rest := []) ⟨hx, hb, hml, hown, hts⟩ (n_X12_deskF l dC dI am cM adK adV H.size τ hIM (xs ((nI (6 * j)) + 1).toNatClampNeg) hDp) (cwV 1 hts gL0_X12_desk rfl rfl rfl (by decide +kernel) ⟨Nat.le_of_ble_eq_true rfl, Nat.le_of_ble_eq_true rfl⟩) ⟨gBlind, va_recv hKM hPM (ci := 11) (q0 := 0) rfl (mat_11 rfl), gStart (As := [.ref (am 0), .int (xs ((nI (6 * j)) + 1).toNatClampNeg)]) hPM hDM hKM0 hT hS hF (d_25)⟩ rfl rfl hl.1 rfl (lv_room (Nat.le_of_ble_eq_true rfl)) dL_law_319 ⟨by omega, by omega⟩) hS (fun q _ h => hF q h) hF (fun r_30 τz_31 t H1 locs ht hvm hw hB hz1 hk1 hS d_32 hd0 => ?_)
      have hts := dr_words hts0 (d_32)
      have hKX := gKd hKX0 (d_32)
      have hKM := gKd hKM0 (d_32)
      have hown : (s.setDrawn (d_32)).vm.findClass RL = some m.cls := hown0
      have hX : va_X b L xs (s.setDrawn (d_32)) s.heap := hX0
      obtain ⟨hPM, hDM⟩ := gBack hF ht hB
      obtain ⟨hI_34, fc_35, hp_33⟩ := hw
      have hPX := gOther hPX hk1 (dj_sym (dj_G dj))
      have hPO := gOther hPO hk1 (dj_1 djM)
      generalize H1 = H at hPX hPM hPO hS ⊢
      have dp_36 : Deep τz_31 := hp_33.1
      have hq_37 : (σz_24 2).1 1 = (τz_31 0).1 31 := dk_eq hp_26 hp_33.2 hEq
      refine lv_pop hx hb dL_law_322 rfl ?_
      refine lv_goto (tgt := 1850) hx hb dL_law_323 (by decide) ?_
      obtain ⟨x_38, ex_38⟩ : ∃ zz : Int32, zz = (nI (6 * j)) + 6 := ⟨_, rfl⟩
      refine lv_iinc (v := x_38) (lv' := [(4, .int x_38), (3, .ref lo), (2, .ref (am 0)), (1, .ref (ad 0)), (0, .ref b)]) hx hb dL_law_1850 hl (k := 0) rfl (by rw [ex_38]; rfl) (by decide) rfl (fun ls hl => ?_)
      refine lv_goto (tgt := 23) hx hb dL_law_1853 (by decide) ?_
      have hl := lv_sub hl [0, 1, 2, 3, 4] rfl
      rw [ex_38, nI_6] at hl
      exact ih (j + 1) σz_24 τz_31 f _ _ _ _ _ _ (by omega) (by omega) hI_27 hI_34 dp_36 hq_37 (by omega) (by omega) hd0 hPX hDX hPM hDM hPO hDO hS hl
    by_cases c_39 : ((xs (nI (6 * j)).toNatClampNeg) &&& 63) = 2
    · refine lv_tableIn (tgt := 326) hx hb dL_law_40 (by rw [c_39]; decide) (by rw [c_39]; decide) (by rw [c_39]; rfl) (by decide) ?_
      refine lv_aload_n hx hb dL_law_326 rfl (lv_at hl 3 rfl) ?_
      have hF := gFree hDX hS hA
      refine va_calliD hd0 (va_runV_D (As := []) (rest := []) ⟨hx, hb, hml, hown, hts⟩ (n_X11_fault l dC dI ad cA adK adV H.size σ hIX  ) (cwV 0 hts gL0_X11_fault rfl rfl rfl (by decide +kernel) ⟨Nat.le_of_ble_eq_true rfl, Nat.le_of_ble_eq_true rfl⟩) ⟨gBlind, va_recv hKX hPX (ci := 10) (q0 := 0) rfl (at_10 rfl), gStart (As := [.ref (ad 0)]) hPX hDX hKX0 hT hS hF (d)⟩ rfl rfl hl.1 rfl (lv_room (Nat.le_of_ble_eq_true rfl)) dL_law_327 ⟨by omega, by omega⟩) hS (fun q _ h => hF q h) hF (fun r_40 σz_41 t H1 locs ht hvm hw hB hz1 hk1 hS d_42 hd0 => ?_)
      have hts := dr_words hts0 (d_42)
      have hKX := gKd hKX0 (d_42)
      have hKM := gKd hKM0 (d_42)
      have hown : (s.setDrawn (d_42)).vm.findClass RL = some m.cls := hown0
      have hX : va_X b L xs (s.setDrawn (d_42)) s.heap := hX0
      obtain ⟨hPX, hDX⟩ := gBack hF ht hB
      obtain ⟨hI_44, fc_45, hp_43⟩ := hw
      have hPM := gOther hPM hk1 (dj_G dj)
      have hPO := gOther hPO hk1 (dj_1 djX)
      generalize H1 = H at hPX hPM hPO hS ⊢
      have hq_46 : (σz_41 2).1 1 = (τ 0).1 31 := by rw [← fc_45]; exact hEq
      refine lv_pop hx hb dL_law_330 rfl ?_
      refine lv_aload_n hx hb dL_law_331 rfl (lv_at hl 2 rfl) ?_
      have hF := gFree hDM hS hA
      refine va_calliD hd0 (va_runV_D (As := []) (rest := []) ⟨hx, hb, hml, hown, hts⟩ (n_X12_fault l dC dI am cM adK adV H.size τ hIM  ) (cwV 0 hts gL0_X12_fault rfl rfl rfl (by decide +kernel) ⟨Nat.le_of_ble_eq_true rfl, Nat.le_of_ble_eq_true rfl⟩) ⟨gBlind, va_recv hKM hPM (ci := 11) (q0 := 0) rfl (mat_11 rfl), gStart (As := [.ref (am 0)]) hPM hDM hKM0 hT hS hF (d_42)⟩ rfl rfl hl.1 rfl (lv_room (Nat.le_of_ble_eq_true rfl)) dL_law_332 ⟨by omega, by omega⟩) hS (fun q _ h => hF q h) hF (fun r_47 τz_48 t H1 locs ht hvm hw hB hz1 hk1 hS d_49 hd0 => ?_)
      have hts := dr_words hts0 (d_49)
      have hKX := gKd hKX0 (d_49)
      have hKM := gKd hKM0 (d_49)
      have hown : (s.setDrawn (d_49)).vm.findClass RL = some m.cls := hown0
      have hX : va_X b L xs (s.setDrawn (d_49)) s.heap := hX0
      obtain ⟨hPM, hDM⟩ := gBack hF ht hB
      obtain ⟨hI_51, fc_52, hp_50⟩ := hw
      have hPX := gOther hPX hk1 (dj_sym (dj_G dj))
      have hPO := gOther hPO hk1 (dj_1 djM)
      generalize H1 = H at hPX hPM hPO hS ⊢
      have dp_53 : Deep τz_48 := (Deep.fr hDp (fc_52.1 2 (by decide) (by decide)) (fc_52.1 4 (by decide) (by decide)) (fc_52.1 9 (by decide) (by decide)) (fc_52.1 11 (by decide) (by decide)) (fc_52.1 12 (by decide) (by decide)) (fc_52.1 17 (by decide) (by decide)) (fc_52.1 18 (by decide) (by decide)) (fc_52.2 20 (by decide)) (fc_52.2 21 (by decide)) (fc_52.2 28 (by decide)) (fc_52.2 64 (by decide)) (fc_52.2 65 (by decide)) (fc_52.2 68 (by decide)))
      have hq_54 : (σz_41 2).1 1 = (τz_48 0).1 31 := hq_46.trans (fc_52.2 31 (by decide)).symm
      refine lv_pop hx hb dL_law_335 rfl ?_
      refine lv_goto (tgt := 1850) hx hb dL_law_336 (by decide) ?_
      obtain ⟨x_55, ex_55⟩ : ∃ zz : Int32, zz = (nI (6 * j)) + 6 := ⟨_, rfl⟩
      refine lv_iinc (v := x_55) (lv' := [(4, .int x_55), (3, .ref lo), (2, .ref (am 0)), (1, .ref (ad 0)), (0, .ref b)]) hx hb dL_law_1850 hl (k := 0) rfl (by rw [ex_55]; rfl) (by decide) rfl (fun ls hl => ?_)
      refine lv_goto (tgt := 23) hx hb dL_law_1853 (by decide) ?_
      have hl := lv_sub hl [0, 1, 2, 3, 4] rfl
      rw [ex_55, nI_6] at hl
      exact ih (j + 1) σz_41 τz_48 f _ _ _ _ _ _ (by omega) (by omega) hI_44 hI_51 dp_53 hq_54 (by omega) (by omega) hd0 hPX hDX hPM hDM hPO hDO hS hl
    by_cases c_56 : ((xs (nI (6 * j)).toNatClampNeg) &&& 63) = 3
    · refine lv_tableIn (tgt := 339) hx hb dL_law_40 (by rw [c_56]; decide) (by rw [c_56]; decide) (by rw [c_56]; rfl) (by decide) ?_
      refine lv_aload_n hx hb dL_law_339 rfl (lv_at hl 3 rfl) ?_
      have hF := gFree hDX hS hA
      refine va_calliD hd0 (va_runV_D (As := []) (rest := []) ⟨hx, hb, hml, hown, hts⟩ (n_X11_where l dC dI ad cA adK adV H.size σ hIX  ) (cwV 0 hts gL0_X11_where rfl rfl rfl (by decide +kernel) ⟨Nat.le_of_ble_eq_true rfl, Nat.le_of_ble_eq_true rfl⟩) ⟨gBlind, va_recv hKX hPX (ci := 10) (q0 := 0) rfl (at_10 rfl), gStart (As := [.ref (ad 0)]) hPX hDX hKX0 hT hS hF (d)⟩ rfl rfl hl.1 rfl (lv_room (Nat.le_of_ble_eq_true rfl)) dL_law_340 ⟨by omega, by omega⟩) hS (fun q _ h => hF q h) hF (fun r_57 σz_58 t H1 locs ht hvm hw hB hz1 hk1 hS d_59 hd0 => ?_)
      have hts := dr_words hts0 (d_59)
      have hKX := gKd hKX0 (d_59)
      have hKM := gKd hKM0 (d_59)
      have hown : (s.setDrawn (d_59)).vm.findClass RL = some m.cls := hown0
      have hX : va_X b L xs (s.setDrawn (d_59)) s.heap := hX0
      obtain ⟨hPX, hDX⟩ := gBack hF ht hB
      obtain ⟨hI_61, fc_62, hp_60⟩ := hw
      have hPM := gOther hPM hk1 (dj_G dj)
      have hPO := gOther hPO hk1 (dj_1 djX)
      generalize H1 = H at hPX hPM hPO hS ⊢
      have hq_63 : (σz_58 2).1 1 = (τ 0).1 31 := by rw [← fc_62]; exact hEq
      refine lv_pop hx hb dL_law_343 rfl ?_
      refine lv_aload_n hx hb dL_law_344 rfl (lv_at hl 2 rfl) ?_
      have hF := gFree hDM hS hA
      refine va_calliD hd0 (va_runV_D (As := []) (rest := []) ⟨hx, hb, hml, hown, hts⟩ (n_X12_where l dC dI am cM adK adV H.size τ hIM  ) (cwV 0 hts gL0_X12_where rfl rfl rfl (by decide +kernel) ⟨Nat.le_of_ble_eq_true rfl, Nat.le_of_ble_eq_true rfl⟩) ⟨gBlind, va_recv hKM hPM (ci := 11) (q0 := 0) rfl (mat_11 rfl), gStart (As := [.ref (am 0)]) hPM hDM hKM0 hT hS hF (d_59)⟩ rfl rfl hl.1 rfl (lv_room (Nat.le_of_ble_eq_true rfl)) dL_law_345 ⟨by omega, by omega⟩) hS (fun q _ h => hF q h) hF (fun r_64 τz_65 t H1 locs ht hvm hw hB hz1 hk1 hS d_66 hd0 => ?_)
      have hts := dr_words hts0 (d_66)
      have hKX := gKd hKX0 (d_66)
      have hKM := gKd hKM0 (d_66)
      have hown : (s.setDrawn (d_66)).vm.findClass RL = some m.cls := hown0
      have hX : va_X b L xs (s.setDrawn (d_66)) s.heap := hX0
      obtain ⟨hPM, hDM⟩ := gBack hF ht hB
      obtain ⟨hI_68, fc_69, hp_67⟩ := hw
      have hPX := gOther hPX hk1 (dj_sym (dj_G dj))
      have hPO := gOther hPO hk1 (dj_1 djM)
      generalize H1 = H at hPX hPM hPO hS ⊢
      have dp_70 : Deep τz_65 := (Deep.fr hDp (fc_69.1 2 (by decide) (by decide)) (fc_69.1 4 (by decide) (by decide)) (fc_69.1 9 (by decide) (by decide)) (fc_69.1 11 (by decide) (by decide)) (fc_69.1 12 (by decide) (by decide)) (fc_69.1 17 (by decide) (by decide)) (fc_69.1 18 (by decide) (by decide)) (fc_69.2 20 (by decide)) (fc_69.2 21 (by decide)) (fc_69.2 28 (by decide)) (fc_69.2 64 (by decide)) (fc_69.2 65 (by decide)) (fc_69.2 68 (by decide)))
      have hq_71 : (σz_58 2).1 1 = (τz_65 0).1 31 := hq_63.trans (fc_69.2 31 (by decide)).symm
      refine lv_pop hx hb dL_law_348 rfl ?_
      refine lv_goto (tgt := 1850) hx hb dL_law_349 (by decide) ?_
      obtain ⟨x_72, ex_72⟩ : ∃ zz : Int32, zz = (nI (6 * j)) + 6 := ⟨_, rfl⟩
      refine lv_iinc (v := x_72) (lv' := [(4, .int x_72), (3, .ref lo), (2, .ref (am 0)), (1, .ref (ad 0)), (0, .ref b)]) hx hb dL_law_1850 hl (k := 0) rfl (by rw [ex_72]; rfl) (by decide) rfl (fun ls hl => ?_)
      refine lv_goto (tgt := 23) hx hb dL_law_1853 (by decide) ?_
      have hl := lv_sub hl [0, 1, 2, 3, 4] rfl
      rw [ex_72, nI_6] at hl
      exact ih (j + 1) σz_58 τz_65 f _ _ _ _ _ _ (by omega) (by omega) hI_61 hI_68 dp_70 hq_71 (by omega) (by omega) hd0 hPX hDX hPM hDM hPO hDO hS hl
    by_cases c_73 : ((xs (nI (6 * j)).toNatClampNeg) &&& 63) = 4
    · refine lv_tableIn (tgt := 352) hx hb dL_law_40 (by rw [c_73]; decide) (by rw [c_73]; decide) (by rw [c_73]; rfl) (by decide) ?_
      refine lv_aload_n hx hb dL_law_352 rfl (lv_at hl 3 rfl) ?_
      refine lv_aload_n hx hb dL_law_353 rfl (lv_at hl 4 rfl) ?_
      refine lv_iload hx hb dL_law_354 (lv_at hl 0 rfl) ?_
      refine lv_iconst (v := 1) hx hb dL_law_356 (by decide) ?_
      refine lv_iadd hx hb dL_law_357 ?_
      refine va_sld hx hb hX hbl hbA hS (lw_ix (k := 1) hL hin (by decide) (by decide)) dL_law_358 ?_
      refine lv_aload_n hx hb dL_law_359 rfl (lv_at hl 4 rfl) ?_
      refine lv_iload hx hb dL_law_360 (lv_at hl 0 rfl) ?_
      refine lv_iconst (v := 2) hx hb dL_law_362 (by decide) ?_
      refine lv_iadd hx hb dL_law_363 ?_
      refine va_sld hx hb hX hbl hbA hS (lw_ix (k := 2) hL hin (by decide) (by decide)) dL_law_364 ?_
      have hF := gFree hDX hS hA
      refine va_calliD hd0 (va_runV_D (As := [.int (xs ((nI (6 * j)) + 1).toNatClampNeg), .int (xs ((nI (6 * j)) + 2).toNatClampNeg)]) (rest := []) ⟨hx, hb, hml, hown, hts⟩ (n_X11_days l dC dI ad cA adK adV H.size σ hIX (xs ((nI (6 * j)) + 1).toNatClampNeg) (xs ((nI (6 * j)) + 2).toNatClampNeg) ) (cwV 2 hts gL0_X11_days rfl rfl rfl (by decide +kernel) ⟨Nat.le_of_ble_eq_true rfl, Nat.le_of_ble_eq_true rfl⟩) ⟨gBlind, va_recv hKX hPX (ci := 10) (q0 := 0) rfl (at_10 rfl), gStart (As := [.ref (ad 0), .int (xs ((nI (6 * j)) + 1).toNatClampNeg), .int (xs ((nI (6 * j)) + 2).toNatClampNeg)]) hPX hDX hKX0 hT hS hF (d)⟩ rfl rfl hl.1 rfl (lv_room (Nat.le_of_ble_eq_true rfl)) dL_law_365 ⟨by omega, by omega⟩) hS (fun q _ h => hF q h) hF (fun r_74 σz_75 t H1 locs ht hvm hw hB hz1 hk1 hS d_76 hd0 => ?_)
      have hts := dr_words hts0 (d_76)
      have hKX := gKd hKX0 (d_76)
      have hKM := gKd hKM0 (d_76)
      have hown : (s.setDrawn (d_76)).vm.findClass RL = some m.cls := hown0
      have hX : va_X b L xs (s.setDrawn (d_76)) s.heap := hX0
      obtain ⟨hPX, hDX⟩ := gBack hF ht hB
      obtain ⟨hI_78, fc_79, hp_77⟩ := hw
      have hPM := gOther hPM hk1 (dj_G dj)
      have hPO := gOther hPO hk1 (dj_1 djX)
      generalize H1 = H at hPX hPM hPO hS ⊢
      have hq_80 : (σz_75 2).1 1 = (τ 0).1 31 := by rw [fc_79 2 (by decide)]; exact hEq
      refine lv_pop hx hb dL_law_368 rfl ?_
      refine lv_aload_n hx hb dL_law_369 rfl (lv_at hl 2 rfl) ?_
      refine lv_aload_n hx hb dL_law_370 rfl (lv_at hl 4 rfl) ?_
      refine lv_iload hx hb dL_law_371 (lv_at hl 0 rfl) ?_
      refine lv_iconst (v := 1) hx hb dL_law_373 (by decide) ?_
      refine lv_iadd hx hb dL_law_374 ?_
      refine va_sld hx hb hX hbl hbA hS (lw_ix (k := 1) hL hin (by decide) (by decide)) dL_law_375 ?_
      refine lv_aload_n hx hb dL_law_376 rfl (lv_at hl 4 rfl) ?_
      refine lv_iload hx hb dL_law_377 (lv_at hl 0 rfl) ?_
      refine lv_iconst (v := 2) hx hb dL_law_379 (by decide) ?_
      refine lv_iadd hx hb dL_law_380 ?_
      refine va_sld hx hb hX hbl hbA hS (lw_ix (k := 2) hL hin (by decide) (by decide)) dL_law_381 ?_
      have hF := gFree hDM hS hA
      refine va_calliD hd0 (va_runV_D (As := [.int (xs ((nI (6 * j)) + 1).toNatClampNeg), .int (xs ((nI (6 * j)) + 2).toNatClampNeg)]) (rest := []) ⟨hx, hb, hml, hown, hts⟩ (n_X12_days l dC dI am cM adK adV H.size τ hIM (xs ((nI (6 * j)) + 1).toNatClampNeg) (xs ((nI (6 * j)) + 2).toNatClampNeg) ) (cwV 2 hts gL0_X12_days rfl rfl rfl (by decide +kernel) ⟨Nat.le_of_ble_eq_true rfl, Nat.le_of_ble_eq_true rfl⟩) ⟨gBlind, va_recv hKM hPM (ci := 11) (q0 := 0) rfl (mat_11 rfl), gStart (As := [.ref (am 0), .int (xs ((nI (6 * j)) + 1).toNatClampNeg), .int (xs ((nI (6 * j)) + 2).toNatClampNeg)]) hPM hDM hKM0 hT hS hF (d_76)⟩ rfl rfl hl.1 rfl (lv_room (Nat.le_of_ble_eq_true rfl)) dL_law_382 ⟨by omega, by omega⟩) hS (fun q _ h => hF q h) hF (fun r_81 τz_82 t H1 locs ht hvm hw hB hz1 hk1 hS d_83 hd0 => ?_)
      have hts := dr_words hts0 (d_83)
      have hKX := gKd hKX0 (d_83)
      have hKM := gKd hKM0 (d_83)
      have hown : (s.setDrawn (d_83)).vm.findClass RL = some m.cls := hown0
      have hX : va_X b L xs (s.setDrawn (d_83)) s.heap := hX0
      obtain ⟨hPM, hDM⟩ := gBack hF ht hB
      obtain ⟨hI_85, fc_86, hp_84⟩ := hw
      have hPX := gOther hPX hk1 (dj_sym (dj_G dj))
      have hPO := gOther hPO hk1 (dj_1 djM)
      generalize H1 = H at hPX hPM hPO hS ⊢
      have dp_87 : Deep τz_82 := (Deep.fr hDp (fc_86.1 2 (by decide) (by decide)) (fc_86.1 4 (by decide) (by decide)) (fc_86.1 9 (by decide) (by decide)) (fc_86.1 11 (by decide) (by decide)) (fc_86.1 12 (by decide) (by decide)) (fc_86.1 17 (by decide) (by decide)) (fc_86.1 18 (by decide) (by decide)) (fc_86.2 20 (by decide)) (fc_86.2 21 (by decide)) (fc_86.2 28 (by decide)) (fc_86.2 64 (by decide)) (fc_86.2 65 (by decide)) (fc_86.2 68 (by decide)))
      have hq_88 : (σz_75 2).1 1 = (τz_82 0).1 31 := hq_80.trans (fc_86.2 31 (by decide)).symm
      refine lv_pop hx hb dL_law_385 rfl ?_
      refine lv_goto (tgt := 1850) hx hb dL_law_386 (by decide) ?_
      obtain ⟨x_89, ex_89⟩ : ∃ zz : Int32, zz = (nI (6 * j)) + 6 := ⟨_, rfl⟩
      refine lv_iinc (v := x_89) (lv' := [(4, .int x_89), (3, .ref lo), (2, .ref (am 0)), (1, .ref (ad 0)), (0, .ref b)]) hx hb dL_law_1850 hl (k := 0) rfl (by rw [ex_89]; rfl) (by decide) rfl (fun ls hl => ?_)
      refine lv_goto (tgt := 23) hx hb dL_law_1853 (by decide) ?_
      have hl := lv_sub hl [0, 1, 2, 3, 4] rfl
      rw [ex_89, nI_6] at hl
      exact ih (j + 1) σz_75 τz_82 f _ _ _ _ _ _ (by omega) (by omega) hI_78 hI_85 dp_87 hq_88 (by omega) (by omega) hd0 hPX hDX hPM hDM hPO hDO hS hl
    by_cases c_90 : ((xs (nI (6 * j)).toNatClampNeg) &&& 63) = 5
    · refine lv_tableIn (tgt := 389) hx hb dL_law_40 (by rw [c_90]; decide) (by rw [c_90]; decide) (by rw [c_90]; rfl) (by decide) ?_
      refine lv_aload_n hx hb dL_law_389 rfl (lv_at hl 3 rfl) ?_
      refine lv_aload_n hx hb dL_law_390 rfl (lv_at hl 4 rfl) ?_
      refine lv_iload hx hb dL_law_391 (lv_at hl 0 rfl) ?_
      refine lv_iconst (v := 1) hx hb dL_law_393 (by decide) ?_
      refine lv_iadd hx hb dL_law_394 ?_
      refine va_sld hx hb hX hbl hbA hS (lw_ix (k := 1) hL hin (by decide) (by decide)) dL_law_395 ?_
      have hF := gFree hDX hS hA
      refine va_calliD hd0 (va_runV_D (As := [.int (xs ((nI (6 * j)) + 1).toNatClampNeg)]) (rest := []) ⟨hx, hb, hml, hown, hts⟩ (n_X11_weekday l dC dI ad cA adK adV H.size σ hIX (xs ((nI (6 * j)) + 1).toNatClampNeg) ) (cwV 1 hts gL0_X11_weekday rfl rfl rfl (by decide +kernel) ⟨Nat.le_of_ble_eq_true rfl, Nat.le_of_ble_eq_true rfl⟩) ⟨gBlind, va_recv hKX hPX (ci := 10) (q0 := 0) rfl (at_10 rfl), gStart (As := [.ref (ad 0), .int (xs ((nI (6 * j)) + 1).toNatClampNeg)]) hPX hDX hKX0 hT hS hF (d)⟩ rfl rfl hl.1 rfl (lv_room (Nat.le_of_ble_eq_true rfl)) dL_law_396 ⟨by omega, by omega⟩) hS (fun q _ h => hF q h) hF (fun r_91 σz_92 t H1 locs ht hvm hw hB hz1 hk1 hS d_93 hd0 => ?_)
      have hts := dr_words hts0 (d_93)
      have hKX := gKd hKX0 (d_93)
      have hKM := gKd hKM0 (d_93)
      have hown : (s.setDrawn (d_93)).vm.findClass RL = some m.cls := hown0
      have hX : va_X b L xs (s.setDrawn (d_93)) s.heap := hX0
      obtain ⟨hPX, hDX⟩ := gBack hF ht hB
      obtain ⟨hI_95, fc_96, hp_94⟩ := hw
      have hPM := gOther hPM hk1 (dj_G dj)
      have hPO := gOther hPO hk1 (dj_1 djX)
      generalize H1 = H at hPX hPM hPO hS ⊢
      have hq_97 : (σz_92 2).1 1 = (τ 0).1 31 := by rw [fc_96 2 (by decide)]; exact hEq
      refine lv_pop hx hb dL_law_399 rfl ?_
      refine lv_aload_n hx hb dL_law_400 rfl (lv_at hl 2 rfl) ?_
      refine lv_aload_n hx hb dL_law_401 rfl (lv_at hl 4 rfl) ?_
      refine lv_iload hx hb dL_law_402 (lv_at hl 0 rfl) ?_
      refine lv_iconst (v := 1) hx hb dL_law_404 (by decide) ?_
      refine lv_iadd hx hb dL_law_405 ?_
      refine va_sld hx hb hX hbl hbA hS (lw_ix (k := 1) hL hin (by decide) (by decide)) dL_law_406 ?_
      have hF := gFree hDM hS hA
      refine va_calliD hd0 (va_runV_D (As := [.int (xs ((nI (6 * j)) + 1).toNatClampNeg)]) (rest := []) ⟨hx, hb, hml, hown, hts⟩ (n_X12_weekday l dC dI am cM adK adV H.size τ hIM (xs ((nI (6 * j)) + 1).toNatClampNeg) ) (cwV 1 hts gL0_X12_weekday rfl rfl rfl (by decide +kernel) ⟨Nat.le_of_ble_eq_true rfl, Nat.le_of_ble_eq_true rfl⟩) ⟨gBlind, va_recv hKM hPM (ci := 11) (q0 := 0) rfl (mat_11 rfl), gStart (As := [.ref (am 0), .int (xs ((nI (6 * j)) + 1).toNatClampNeg)]) hPM hDM hKM0 hT hS hF (d_93)⟩ rfl rfl hl.1 rfl (lv_room (Nat.le_of_ble_eq_true rfl)) dL_law_407 ⟨by omega, by omega⟩) hS (fun q _ h => hF q h) hF (fun r_98 τz_99 t H1 locs ht hvm hw hB hz1 hk1 hS d_100 hd0 => ?_)
      have hts := dr_words hts0 (d_100)
      have hKX := gKd hKX0 (d_100)
      have hKM := gKd hKM0 (d_100)
      have hown : (s.setDrawn (d_100)).vm.findClass RL = some m.cls := hown0
      have hX : va_X b L xs (s.setDrawn (d_100)) s.heap := hX0
      obtain ⟨hPM, hDM⟩ := gBack hF ht hB
      obtain ⟨hI_102, fc_103, hp_101⟩ := hw
      have hPX := gOther hPX hk1 (dj_sym (dj_G dj))
      have hPO := gOther hPO hk1 (dj_1 djM)
      generalize H1 = H at hPX hPM hPO hS ⊢
      have dp_104 : Deep τz_99 := (Deep.fr hDp (fc_103.1 2 (by decide) (by decide)) (fc_103.1 4 (by decide) (by decide)) (fc_103.1 9 (by decide) (by decide)) (fc_103.1 11 (by decide) (by decide)) (fc_103.1 12 (by decide) (by decide)) (fc_103.1 17 (by decide) (by decide)) (fc_103.1 18 (by decide) (by decide)) (fc_103.2 20 (by decide)) (fc_103.2 21 (by decide)) (fc_103.2 28 (by decide)) (fc_103.2 64 (by decide)) (fc_103.2 65 (by decide)) (fc_103.2 68 (by decide)))
      have hq_105 : (σz_92 2).1 1 = (τz_99 0).1 31 := hq_97.trans (fc_103.2 31 (by decide)).symm
      refine lv_pop hx hb dL_law_410 rfl ?_
      refine lv_goto (tgt := 1850) hx hb dL_law_411 (by decide) ?_
      obtain ⟨x_106, ex_106⟩ : ∃ zz : Int32, zz = (nI (6 * j)) + 6 := ⟨_, rfl⟩
      refine lv_iinc (v := x_106) (lv' := [(4, .int x_106), (3, .ref lo), (2, .ref (am 0)), (1, .ref (ad 0)), (0, .ref b)]) hx hb dL_law_1850 hl (k := 0) rfl (by rw [ex_106]; rfl) (by decide) rfl (fun ls hl => ?_)
      refine lv_goto (tgt := 23) hx hb dL_law_1853 (by decide) ?_
      have hl := lv_sub hl [0, 1, 2, 3, 4] rfl
      rw [ex_106, nI_6] at hl
      exact ih (j + 1) σz_92 τz_99 f _ _ _ _ _ _ (by omega) (by omega) hI_95 hI_102 dp_104 hq_105 (by omega) (by omega) hd0 hPX hDX hPM hDM hPO hDO hS hl
    by_cases c_107 : ((xs (nI (6 * j)).toNatClampNeg) &&& 63) = 6
    · refine lv_tableIn (tgt := 414) hx hb dL_law_40 (by rw [c_107]; decide) (by rw [c_107]; decide) (by rw [c_107]; rfl) (by decide) ?_
      refine lv_aload_n hx hb dL_law_414 rfl (lv_at hl 3 rfl) ?_
      refine lv_aload_n hx hb dL_law_415 rfl (lv_at hl 4 rfl) ?_
      refine lv_iload hx hb dL_law_416 (lv_at hl 0 rfl) ?_
      refine lv_iconst (v := 1) hx hb dL_law_418 (by decide) ?_
      refine lv_iadd hx hb dL_law_419 ?_
      refine va_sld hx hb hX hbl hbA hS (lw_ix (k := 1) hL hin (by decide) (by decide)) dL_law_420 ?_
      refine lv_aload_n hx hb dL_law_421 rfl (lv_at hl 4 rfl) ?_
      refine lv_iload hx hb dL_law_422 (lv_at hl 0 rfl) ?_
      refine lv_iconst (v := 2) hx hb dL_law_424 (by decide) ?_
      refine lv_iadd hx hb dL_law_425 ?_
      refine va_sld hx hb hX hbl hbA hS (lw_ix (k := 2) hL hin (by decide) (by decide)) dL_law_426 ?_
      refine lv_aload_n hx hb dL_law_427 rfl (lv_at hl 4 rfl) ?_
      refine lv_iload hx hb dL_law_428 (lv_at hl 0 rfl) ?_
      refine lv_iconst (v := 3) hx hb dL_law_430 (by decide) ?_
      refine lv_iadd hx hb dL_law_431 ?_
      refine va_sld hx hb hX hbl hbA hS (lw_ix (k := 3) hL hin (by decide) (by decide)) dL_law_432 ?_
      refine lv_if_eq (tgt := 440) hx hb dL_law_433 (by decide) (fun c_108 => ?_) (fun c_108 => ?_)
      · refine lv_iconst (v := 0) hx hb dL_law_440 (by decide) ?_
        have hF := gFree hDX hS hA
        refine va_calliD hd0 (va_runV_D (As := [.int (xs ((nI (6 * j)) + 1).toNatClampNeg), .int (xs ((nI (6 * j)) + 2).toNatClampNeg), .int 0]) (rest := []) ⟨hx, hb, hml, hown, hts⟩ (n_X11_months l dC dI ad cA adK adV H.size σ hIX (xs ((nI (6 * j)) + 1).toNatClampNeg) (xs ((nI (6 * j)) + 2).toNatClampNeg) 0 ) (cwV 3 hts gL0_X11_months rfl rfl rfl (by decide +kernel) ⟨Nat.le_of_ble_eq_true rfl, Nat.le_of_ble_eq_true rfl⟩) ⟨gBlind, va_recv hKX hPX (ci := 10) (q0 := 0) rfl (at_10 rfl), gStart (As := [.ref (ad 0), .int (xs ((nI (6 * j)) + 1).toNatClampNeg), .int (xs ((nI (6 * j)) + 2).toNatClampNeg), .int 0]) hPX hDX hKX0 hT hS hF (d)⟩ rfl rfl hl.1 rfl (lv_room (Nat.le_of_ble_eq_true rfl)) dL_law_441 ⟨by omega, by omega⟩) hS (fun q _ h => hF q h) hF (fun r_109 σz_110 t H1 locs ht hvm hw hB hz1 hk1 hS d_111 hd0 => ?_)
        have hts := dr_words hts0 (d_111)
        have hKX := gKd hKX0 (d_111)
        have hKM := gKd hKM0 (d_111)
        have hown : (s.setDrawn (d_111)).vm.findClass RL = some m.cls := hown0
        have hX : va_X b L xs (s.setDrawn (d_111)) s.heap := hX0
        obtain ⟨hPX, hDX⟩ := gBack hF ht hB
        obtain ⟨hI_113, fc_114, hp_112⟩ := hw
        have hPM := gOther hPM hk1 (dj_G dj)
        have hPO := gOther hPO hk1 (dj_1 djX)
        generalize H1 = H at hPX hPM hPO hS ⊢
        have hq_115 : (σz_110 2).1 1 = (τ 0).1 31 := by rw [fc_114 2 (by decide)]; exact hEq
        refine lv_pop hx hb dL_law_444 rfl ?_
        refine lv_aload_n hx hb dL_law_445 rfl (lv_at hl 2 rfl) ?_
        refine lv_aload_n hx hb dL_law_446 rfl (lv_at hl 4 rfl) ?_
        refine lv_iload hx hb dL_law_447 (lv_at hl 0 rfl) ?_
        refine lv_iconst (v := 1) hx hb dL_law_449 (by decide) ?_
        refine lv_iadd hx hb dL_law_450 ?_
        refine va_sld hx hb hX hbl hbA hS (lw_ix (k := 1) hL hin (by decide) (by decide)) dL_law_451 ?_
        refine lv_aload_n hx hb dL_law_452 rfl (lv_at hl 4 rfl) ?_
        refine lv_iload hx hb dL_law_453 (lv_at hl 0 rfl) ?_
        refine lv_iconst (v := 2) hx hb dL_law_455 (by decide) ?_
        refine lv_iadd hx hb dL_law_456 ?_
        refine va_sld hx hb hX hbl hbA hS (lw_ix (k := 2) hL hin (by decide) (by decide)) dL_law_457 ?_
        refine lv_aload_n hx hb dL_law_458 rfl (lv_at hl 4 rfl) ?_
        refine lv_iload hx hb dL_law_459 (lv_at hl 0 rfl) ?_
        refine lv_iconst (v := 3) hx hb dL_law_461 (by decide) ?_
        refine lv_iadd hx hb dL_law_462 ?_
        refine va_sld hx hb hX hbl hbA hS (lw_ix (k := 3) hL hin (by decide) (by decide)) dL_law_463 ?_
        refine lv_if_eq (tgt := 471) hx hb dL_law_464 (by decide) (fun c_116 => ?_) (fun c_116 => ?_)
        · refine lv_iconst (v := 0) hx hb dL_law_471 (by decide) ?_
          have hF := gFree hDM hS hA
          refine va_calliD hd0 (va_runV_D (As := [.int (xs ((nI (6 * j)) + 1).toNatClampNeg), .int (xs ((nI (6 * j)) + 2).toNatClampNeg), .int 0]) (rest := []) ⟨hx, hb, hml, hown, hts⟩ (n_X12_months l dC dI am cM adK adV H.size τ hIM (xs ((nI (6 * j)) + 1).toNatClampNeg) (xs ((nI (6 * j)) + 2).toNatClampNeg) 0 ) (cwV 3 hts gL0_X12_months rfl rfl rfl (by decide +kernel) ⟨Nat.le_of_ble_eq_true rfl, Nat.le_of_ble_eq_true rfl⟩) ⟨gBlind, va_recv hKM hPM (ci := 11) (q0 := 0) rfl (mat_11 rfl), gStart (As := [.ref (am 0), .int (xs ((nI (6 * j)) + 1).toNatClampNeg), .int (xs ((nI (6 * j)) + 2).toNatClampNeg), .int 0]) hPM hDM hKM0 hT hS hF (d_111)⟩ rfl rfl hl.1 rfl (lv_room (Nat.le_of_ble_eq_true rfl)) dL_law_472 ⟨by omega, by omega⟩) hS (fun q _ h => hF q h) hF (fun r_117 τz_118 t H1 locs ht hvm hw hB hz1 hk1 hS d_119 hd0 => ?_)
          have hts := dr_words hts0 (d_119)
          have hKX := gKd hKX0 (d_119)
          have hKM := gKd hKM0 (d_119)
          have hown : (s.setDrawn (d_119)).vm.findClass RL = some m.cls := hown0
          have hX : va_X b L xs (s.setDrawn (d_119)) s.heap := hX0
          obtain ⟨hPM, hDM⟩ := gBack hF ht hB
          obtain ⟨hI_121, fc_122, hp_120⟩ := hw
          have hPX := gOther hPX hk1 (dj_sym (dj_G dj))
          have hPO := gOther hPO hk1 (dj_1 djM)
          generalize H1 = H at hPX hPM hPO hS ⊢
          have dp_123 : Deep τz_118 := (Deep.fr hDp (fc_122.1 2 (by decide) (by decide)) (fc_122.1 4 (by decide) (by decide)) (fc_122.1 9 (by decide) (by decide)) (fc_122.1 11 (by decide) (by decide)) (fc_122.1 12 (by decide) (by decide)) (fc_122.1 17 (by decide) (by decide)) (fc_122.1 18 (by decide) (by decide)) (fc_122.2 20 (by decide)) (fc_122.2 21 (by decide)) (fc_122.2 28 (by decide)) (fc_122.2 64 (by decide)) (fc_122.2 65 (by decide)) (fc_122.2 68 (by decide)))
          have hq_124 : (σz_110 2).1 1 = (τz_118 0).1 31 := hq_115.trans (fc_122.2 31 (by decide)).symm
          refine lv_pop hx hb dL_law_475 rfl ?_
          refine lv_goto (tgt := 1850) hx hb dL_law_476 (by decide) ?_
          obtain ⟨x_125, ex_125⟩ : ∃ zz : Int32, zz = (nI (6 * j)) + 6 := ⟨_, rfl⟩
          refine lv_iinc (v := x_125) (lv' := [(4, .int x_125), (3, .ref lo), (2, .ref (am 0)), (1, .ref (ad 0)), (0, .ref b)]) hx hb dL_law_1850 hl (k := 0) rfl (by rw [ex_125]; rfl) (by decide) rfl (fun ls hl => ?_)
          refine lv_goto (tgt := 23) hx hb dL_law_1853 (by decide) ?_
          have hl := lv_sub hl [0, 1, 2, 3, 4] rfl
          rw [ex_125, nI_6] at hl
          exact ih (j + 1) σz_110 τz_118 f _ _ _ _ _ _ (by omega) (by omega) hI_113 hI_121 dp_123 hq_124 (by omega) (by omega) hd0 hPX hDX hPM hDM hPO hDO hS hl
        · exact absurd c_108 c_116
      · refine lv_iconst (v := 1) hx hb dL_law_436 (by decide) ?_
        refine lv_goto (tgt := 441) hx hb dL_law_437 (by decide) ?_
        have hF := gFree hDX hS hA
        refine va_calliD hd0 (va_runV_D (As := [.int (xs ((nI (6 * j)) + 1).toNatClampNeg), .int (xs ((nI (6 * j)) + 2).toNatClampNeg), .int 1]) (rest := []) ⟨hx, hb, hml, hown, hts⟩ (n_X11_months l dC dI ad cA adK adV H.size σ hIX (xs ((nI (6 * j)) + 1).toNatClampNeg) (xs ((nI (6 * j)) + 2).toNatClampNeg) 1 ) (cwV 3 hts gL0_X11_months rfl rfl rfl (by decide +kernel) ⟨Nat.le_of_ble_eq_true rfl, Nat.le_of_ble_eq_true rfl⟩) ⟨gBlind, va_recv hKX hPX (ci := 10) (q0 := 0) rfl (at_10 rfl), gStart (As := [.ref (ad 0), .int (xs ((nI (6 * j)) + 1).toNatClampNeg), .int (xs ((nI (6 * j)) + 2).toNatClampNeg), .int 1]) hPX hDX hKX0 hT hS hF (d)⟩ rfl rfl hl.1 rfl (lv_room (Nat.le_of_ble_eq_true rfl)) dL_law_441 ⟨by omega, by omega⟩) hS (fun q _ h => hF q h) hF (fun r_126 σz_127 t H1 locs ht hvm hw hB hz1 hk1 hS d_128 hd0 => ?_)
        have hts := dr_words hts0 (d_128)
        have hKX := gKd hKX0 (d_128)
        have hKM := gKd hKM0 (d_128)
        have hown : (s.setDrawn (d_128)).vm.findClass RL = some m.cls := hown0
        have hX : va_X b L xs (s.setDrawn (d_128)) s.heap := hX0
        obtain ⟨hPX, hDX⟩ := gBack hF ht hB
        obtain ⟨hI_130, fc_131, hp_129⟩ := hw
        have hPM := gOther hPM hk1 (dj_G dj)
        have hPO := gOther hPO hk1 (dj_1 djX)
        generalize H1 = H at hPX hPM hPO hS ⊢
        have hq_132 : (σz_127 2).1 1 = (τ 0).1 31 := by rw [fc_131 2 (by decide)]; exact hEq
        refine lv_pop hx hb dL_law_444 rfl ?_
        refine lv_aload_n hx hb dL_law_445 rfl (lv_at hl 2 rfl) ?_
        refine lv_aload_n hx hb dL_law_446 rfl (lv_at hl 4 rfl) ?_
        refine lv_iload hx hb dL_law_447 (lv_at hl 0 rfl) ?_
        refine lv_iconst (v := 1) hx hb dL_law_449 (by decide) ?_
        refine lv_iadd hx hb dL_law_450 ?_
        refine va_sld hx hb hX hbl hbA hS (lw_ix (k := 1) hL hin (by decide) (by decide)) dL_law_451 ?_
        refine lv_aload_n hx hb dL_law_452 rfl (lv_at hl 4 rfl) ?_
        refine lv_iload hx hb dL_law_453 (lv_at hl 0 rfl) ?_
        refine lv_iconst (v := 2) hx hb dL_law_455 (by decide) ?_
        refine lv_iadd hx hb dL_law_456 ?_
        refine va_sld hx hb hX hbl hbA hS (lw_ix (k := 2) hL hin (by decide) (by decide)) dL_law_457 ?_
        refine lv_aload_n hx hb dL_law_458 rfl (lv_at hl 4 rfl) ?_
        refine lv_iload hx hb dL_law_459 (lv_at hl 0 rfl) ?_
        refine lv_iconst (v := 3) hx hb dL_law_461 (by decide) ?_
        refine lv_iadd hx hb dL_law_462 ?_
        refine va_sld hx hb hX hbl hbA hS (lw_ix (k := 3) hL hin (by decide) (by decide)) dL_law_463 ?_
        refine lv_if_eq (tgt := 471) hx hb dL_law_464 (by decide) (fun c_133 => ?_) (fun c_133 => ?_)
        · exact absurd c_133 c_108
        · refine lv_iconst (v := 1) hx hb dL_law_467 (by decide) ?_
          refine lv_goto (tgt := 472) hx hb dL_law_468 (by decide) ?_
          have hF := gFree hDM hS hA
          refine va_calliD hd0 (va_runV_D (As := [.int (xs ((nI (6 * j)) + 1).toNatClampNeg), .int (xs ((nI (6 * j)) + 2).toNatClampNeg), .int 1]) (rest := []) ⟨hx, hb, hml, hown, hts⟩ (n_X12_months l dC dI am cM adK adV H.size τ hIM (xs ((nI (6 * j)) + 1).toNatClampNeg) (xs ((nI (6 * j)) + 2).toNatClampNeg) 1 ) (cwV 3 hts gL0_X12_months rfl rfl rfl (by decide +kernel) ⟨Nat.le_of_ble_eq_true rfl, Nat.le_of_ble_eq_true rfl⟩) ⟨gBlind, va_recv hKM hPM (ci := 11) (q0 := 0) rfl (mat_11 rfl), gStart (As := [.ref (am 0), .int (xs ((nI (6 * j)) + 1).toNatClampNeg), .int (xs ((nI (6 * j)) + 2).toNatClampNeg), .int 1]) hPM hDM hKM0 hT hS hF (d_128)⟩ rfl rfl hl.1 rfl (lv_room (Nat.le_of_ble_eq_true rfl)) dL_law_472 ⟨by omega, by omega⟩) hS (fun q _ h => hF q h) hF (fun r_134 τz_135 t H1 locs ht hvm hw hB hz1 hk1 hS d_136 hd0 => ?_)
          have hts := dr_words hts0 (d_136)
          have hKX := gKd hKX0 (d_136)
          have hKM := gKd hKM0 (d_136)
          have hown : (s.setDrawn (d_136)).vm.findClass RL = some m.cls := hown0
          have hX : va_X b L xs (s.setDrawn (d_136)) s.heap := hX0
          obtain ⟨hPM, hDM⟩ := gBack hF ht hB
          obtain ⟨hI_138, fc_139, hp_137⟩ := hw
          have hPX := gOther hPX hk1 (dj_sym (dj_G dj))
          have hPO := gOther hPO hk1 (dj_1 djM)
          generalize H1 = H at hPX hPM hPO hS ⊢
          have dp_140 : Deep τz_135 := (Deep.fr hDp (fc_139.1 2 (by decide) (by decide)) (fc_139.1 4 (by decide) (by decide)) (fc_139.1 9 (by decide) (by decide)) (fc_139.1 11 (by decide) (by decide)) (fc_139.1 12 (by decide) (by decide)) (fc_139.1 17 (by decide) (by decide)) (fc_139.1 18 (by decide) (by decide)) (fc_139.2 20 (by decide)) (fc_139.2 21 (by decide)) (fc_139.2 28 (by decide)) (fc_139.2 64 (by decide)) (fc_139.2 65 (by decide)) (fc_139.2 68 (by decide)))
          have hq_141 : (σz_127 2).1 1 = (τz_135 0).1 31 := hq_132.trans (fc_139.2 31 (by decide)).symm
          refine lv_pop hx hb dL_law_475 rfl ?_
          refine lv_goto (tgt := 1850) hx hb dL_law_476 (by decide) ?_
          obtain ⟨x_142, ex_142⟩ : ∃ zz : Int32, zz = (nI (6 * j)) + 6 := ⟨_, rfl⟩
          refine lv_iinc (v := x_142) (lv' := [(4, .int x_142), (3, .ref lo), (2, .ref (am 0)), (1, .ref (ad 0)), (0, .ref b)]) hx hb dL_law_1850 hl (k := 0) rfl (by rw [ex_142]; rfl) (by decide) rfl (fun ls hl => ?_)
          refine lv_goto (tgt := 23) hx hb dL_law_1853 (by decide) ?_
          have hl := lv_sub hl [0, 1, 2, 3, 4] rfl
          rw [ex_142, nI_6] at hl
          exact ih (j + 1) σz_127 τz_135 f _ _ _ _ _ _ (by omega) (by omega) hI_130 hI_138 dp_140 hq_141 (by omega) (by omega) hd0 hPX hDX hPM hDM hPO hDO hS hl
    by_cases c_143 : ((xs (nI (6 * j)).toNatClampNeg) &&& 63) = 7
    · refine lv_tableIn (tgt := 479) hx hb dL_law_40 (by rw [c_143]; decide) (by rw [c_143]; decide) (by rw [c_143]; rfl) (by decide) ?_
      refine lv_aload_n hx hb dL_law_479 rfl (lv_at hl 3 rfl) ?_
      refine lv_aload_n hx hb dL_law_480 rfl (lv_at hl 4 rfl) ?_
      refine lv_iload hx hb dL_law_481 (lv_at hl 0 rfl) ?_
      refine lv_iconst (v := 1) hx hb dL_law_483 (by decide) ?_
      refine lv_iadd hx hb dL_law_484 ?_
      refine va_sld hx hb hX hbl hbA hS (lw_ix (k := 1) hL hin (by decide) (by decide)) dL_law_485 ?_
      have hF := gFree hDX hS hA
      refine va_calliD hd0 (va_runV_D (As := [.int (xs ((nI (6 * j)) + 1).toNatClampNeg)]) (rest := []) ⟨hx, hb, hml, hown, hts⟩ (n_X11_business l dC dI ad cA adK adV H.size σ hIX (xs ((nI (6 * j)) + 1).toNatClampNeg) ) (cwV 1 hts gL0_X11_business rfl rfl rfl (by decide +kernel) ⟨Nat.le_of_ble_eq_true rfl, Nat.le_of_ble_eq_true rfl⟩) ⟨gBlind, va_recv hKX hPX (ci := 10) (q0 := 0) rfl (at_10 rfl), gStart (As := [.ref (ad 0), .int (xs ((nI (6 * j)) + 1).toNatClampNeg)]) hPX hDX hKX0 hT hS hF (d)⟩ rfl rfl hl.1 rfl (lv_room (Nat.le_of_ble_eq_true rfl)) dL_law_486 ⟨by omega, by omega⟩) hS (fun q _ h => hF q h) hF (fun r_144 σz_145 t H1 locs ht hvm hw hB hz1 hk1 hS d_146 hd0 => ?_)
      have hts := dr_words hts0 (d_146)
      have hKX := gKd hKX0 (d_146)
      have hKM := gKd hKM0 (d_146)
      have hown : (s.setDrawn (d_146)).vm.findClass RL = some m.cls := hown0
      have hX : va_X b L xs (s.setDrawn (d_146)) s.heap := hX0
      obtain ⟨hPX, hDX⟩ := gBack hF ht hB
      obtain ⟨hI_148, fc_149, hp_147⟩ := hw
      have hPM := gOther hPM hk1 (dj_G dj)
      have hPO := gOther hPO hk1 (dj_1 djX)
      generalize H1 = H at hPX hPM hPO hS ⊢
      have hq_150 : (σz_145 2).1 1 = (τ 0).1 31 := by rw [fc_149 2 (by decide)]; exact hEq
      refine lv_pop hx hb dL_law_489 rfl ?_
      refine lv_aload_n hx hb dL_law_490 rfl (lv_at hl 2 rfl) ?_
      refine lv_aload_n hx hb dL_law_491 rfl (lv_at hl 4 rfl) ?_
      refine lv_iload hx hb dL_law_492 (lv_at hl 0 rfl) ?_
      refine lv_iconst (v := 1) hx hb dL_law_494 (by decide) ?_
      refine lv_iadd hx hb dL_law_495 ?_
      refine va_sld hx hb hX hbl hbA hS (lw_ix (k := 1) hL hin (by decide) (by decide)) dL_law_496 ?_
      have hF := gFree hDM hS hA
      refine va_calliD hd0 (va_runV_D (As := [.int (xs ((nI (6 * j)) + 1).toNatClampNeg)]) (rest := []) ⟨hx, hb, hml, hown, hts⟩ (n_X12_business l dC dI am cM adK adV H.size τ hIM (xs ((nI (6 * j)) + 1).toNatClampNeg) ) (cwV 1 hts gL0_X12_business rfl rfl rfl (by decide +kernel) ⟨Nat.le_of_ble_eq_true rfl, Nat.le_of_ble_eq_true rfl⟩) ⟨gBlind, va_recv hKM hPM (ci := 11) (q0 := 0) rfl (mat_11 rfl), gStart (As := [.ref (am 0), .int (xs ((nI (6 * j)) + 1).toNatClampNeg)]) hPM hDM hKM0 hT hS hF (d_146)⟩ rfl rfl hl.1 rfl (lv_room (Nat.le_of_ble_eq_true rfl)) dL_law_497 ⟨by omega, by omega⟩) hS (fun q _ h => hF q h) hF (fun r_151 τz_152 t H1 locs ht hvm hw hB hz1 hk1 hS d_153 hd0 => ?_)
      have hts := dr_words hts0 (d_153)
      have hKX := gKd hKX0 (d_153)
      have hKM := gKd hKM0 (d_153)
      have hown : (s.setDrawn (d_153)).vm.findClass RL = some m.cls := hown0
      have hX : va_X b L xs (s.setDrawn (d_153)) s.heap := hX0
      obtain ⟨hPM, hDM⟩ := gBack hF ht hB
      obtain ⟨hI_155, fc_156, hp_154⟩ := hw
      have hPX := gOther hPX hk1 (dj_sym (dj_G dj))
      have hPO := gOther hPO hk1 (dj_1 djM)
      generalize H1 = H at hPX hPM hPO hS ⊢
      have dp_157 : Deep τz_152 := (Deep.fr hDp (fc_156.1 2 (by decide) (by decide)) (fc_156.1 4 (by decide) (by decide)) (fc_156.1 9 (by decide) (by decide)) (fc_156.1 11 (by decide) (by decide)) (fc_156.1 12 (by decide) (by decide)) (fc_156.1 17 (by decide) (by decide)) (fc_156.1 18 (by decide) (by decide)) (fc_156.2 20 (by decide)) (fc_156.2 21 (by decide)) (fc_156.2 28 (by decide)) (fc_156.2 64 (by decide)) (fc_156.2 65 (by decide)) (fc_156.2 68 (by decide)))
      have hq_158 : (σz_145 2).1 1 = (τz_152 0).1 31 := hq_150.trans (fc_156.2 31 (by decide)).symm
      refine lv_pop hx hb dL_law_500 rfl ?_
      refine lv_goto (tgt := 1850) hx hb dL_law_501 (by decide) ?_
      obtain ⟨x_159, ex_159⟩ : ∃ zz : Int32, zz = (nI (6 * j)) + 6 := ⟨_, rfl⟩
      refine lv_iinc (v := x_159) (lv' := [(4, .int x_159), (3, .ref lo), (2, .ref (am 0)), (1, .ref (ad 0)), (0, .ref b)]) hx hb dL_law_1850 hl (k := 0) rfl (by rw [ex_159]; rfl) (by decide) rfl (fun ls hl => ?_)
      refine lv_goto (tgt := 23) hx hb dL_law_1853 (by decide) ?_
      have hl := lv_sub hl [0, 1, 2, 3, 4] rfl
      rw [ex_159, nI_6] at hl
      exact ih (j + 1) σz_145 τz_152 f _ _ _ _ _ _ (by omega) (by omega) hI_148 hI_155 dp_157 hq_158 (by omega) (by omega) hd0 hPX hDX hPM hDM hPO hDO hS hl
    by_cases c_160 : ((xs (nI (6 * j)).toNatClampNeg) &&& 63) = 8
    · refine lv_tableIn (tgt := 504) hx hb dL_law_40 (by rw [c_160]; decide) (by rw [c_160]; decide) (by rw [c_160]; rfl) (by decide) ?_
      refine lv_aload_n hx hb dL_law_504 rfl (lv_at hl 3 rfl) ?_
      refine lv_aload_n hx hb dL_law_505 rfl (lv_at hl 4 rfl) ?_
      refine lv_iload hx hb dL_law_506 (lv_at hl 0 rfl) ?_
      refine lv_iconst (v := 1) hx hb dL_law_508 (by decide) ?_
      refine lv_iadd hx hb dL_law_509 ?_
      refine va_sld hx hb hX hbl hbA hS (lw_ix (k := 1) hL hin (by decide) (by decide)) dL_law_510 ?_
      refine lv_aload_n hx hb dL_law_511 rfl (lv_at hl 4 rfl) ?_
      refine lv_iload hx hb dL_law_512 (lv_at hl 0 rfl) ?_
      refine lv_iconst (v := 2) hx hb dL_law_514 (by decide) ?_
      refine lv_iadd hx hb dL_law_515 ?_
      refine va_sld hx hb hX hbl hbA hS (lw_ix (k := 2) hL hin (by decide) (by decide)) dL_law_516 ?_
      have hF := gFree hDX hS hA
      refine va_calliD hd0 (va_runV_D (As := [.int (xs ((nI (6 * j)) + 1).toNatClampNeg), .int (xs ((nI (6 * j)) + 2).toNatClampNeg)]) (rest := []) ⟨hx, hb, hml, hown, hts⟩ (n_X11_businessFrom l dC dI ad cA adK adV H.size σ hIX (xs ((nI (6 * j)) + 1).toNatClampNeg) (xs ((nI (6 * j)) + 2).toNatClampNeg) ) (cwV 2 hts gL0_X11_businessFrom rfl rfl rfl (by decide +kernel) ⟨Nat.le_of_ble_eq_true rfl, Nat.le_of_ble_eq_true rfl⟩) ⟨gBlind, va_recv hKX hPX (ci := 10) (q0 := 0) rfl (at_10 rfl), gStart (As := [.ref (ad 0), .int (xs ((nI (6 * j)) + 1).toNatClampNeg), .int (xs ((nI (6 * j)) + 2).toNatClampNeg)]) hPX hDX hKX0 hT hS hF (d)⟩ rfl rfl hl.1 rfl (lv_room (Nat.le_of_ble_eq_true rfl)) dL_law_517 ⟨by omega, by omega⟩) hS (fun q _ h => hF q h) hF (fun r_161 σz_162 t H1 locs ht hvm hw hB hz1 hk1 hS d_163 hd0 => ?_)
      have hts := dr_words hts0 (d_163)
      have hKX := gKd hKX0 (d_163)
      have hKM := gKd hKM0 (d_163)
      have hown : (s.setDrawn (d_163)).vm.findClass RL = some m.cls := hown0
      have hX : va_X b L xs (s.setDrawn (d_163)) s.heap := hX0
      obtain ⟨hPX, hDX⟩ := gBack hF ht hB
      obtain ⟨hI_165, fc_166, hp_164⟩ := hw
      have hPM := gOther hPM hk1 (dj_G dj)
      have hPO := gOther hPO hk1 (dj_1 djX)
      generalize H1 = H at hPX hPM hPO hS ⊢
      have hq_167 : (σz_162 2).1 1 = (τ 0).1 31 := by rw [fc_166 2 (by decide)]; exact hEq
      refine lv_pop hx hb dL_law_520 rfl ?_
      refine lv_aload_n hx hb dL_law_521 rfl (lv_at hl 2 rfl) ?_
      refine lv_aload_n hx hb dL_law_522 rfl (lv_at hl 4 rfl) ?_
      refine lv_iload hx hb dL_law_523 (lv_at hl 0 rfl) ?_
      refine lv_iconst (v := 1) hx hb dL_law_525 (by decide) ?_
      refine lv_iadd hx hb dL_law_526 ?_
      refine va_sld hx hb hX hbl hbA hS (lw_ix (k := 1) hL hin (by decide) (by decide)) dL_law_527 ?_
      refine lv_aload_n hx hb dL_law_528 rfl (lv_at hl 4 rfl) ?_
      refine lv_iload hx hb dL_law_529 (lv_at hl 0 rfl) ?_
      refine lv_iconst (v := 2) hx hb dL_law_531 (by decide) ?_
      refine lv_iadd hx hb dL_law_532 ?_
      refine va_sld hx hb hX hbl hbA hS (lw_ix (k := 2) hL hin (by decide) (by decide)) dL_law_533 ?_
      have hF := gFree hDM hS hA
      refine va_calliD hd0 (va_runV_D (As := [.int (xs ((nI (6 * j)) + 1).toNatClampNeg), .int (xs ((nI (6 * j)) + 2).toNatClampNeg)]) (rest := []) ⟨hx, hb, hml, hown, hts⟩ (n_X12_businessFrom l dC dI am cM adK adV H.size τ hIM (xs ((nI (6 * j)) + 1).toNatClampNeg) (xs ((nI (6 * j)) + 2).toNatClampNeg) ) (cwV 2 hts gL0_X12_businessFrom rfl rfl rfl (by decide +kernel) ⟨Nat.le_of_ble_eq_true rfl, Nat.le_of_ble_eq_true rfl⟩) ⟨gBlind, va_recv hKM hPM (ci := 11) (q0 := 0) rfl (mat_11 rfl), gStart (As := [.ref (am 0), .int (xs ((nI (6 * j)) + 1).toNatClampNeg), .int (xs ((nI (6 * j)) + 2).toNatClampNeg)]) hPM hDM hKM0 hT hS hF (d_163)⟩ rfl rfl hl.1 rfl (lv_room (Nat.le_of_ble_eq_true rfl)) dL_law_534 ⟨by omega, by omega⟩) hS (fun q _ h => hF q h) hF (fun r_168 τz_169 t H1 locs ht hvm hw hB hz1 hk1 hS d_170 hd0 => ?_)
      have hts := dr_words hts0 (d_170)
      have hKX := gKd hKX0 (d_170)
      have hKM := gKd hKM0 (d_170)
      have hown : (s.setDrawn (d_170)).vm.findClass RL = some m.cls := hown0
      have hX : va_X b L xs (s.setDrawn (d_170)) s.heap := hX0
      obtain ⟨hPM, hDM⟩ := gBack hF ht hB
      obtain ⟨hI_172, fc_173, hp_171⟩ := hw
      have hPX := gOther hPX hk1 (dj_sym (dj_G dj))
      have hPO := gOther hPO hk1 (dj_1 djM)
      generalize H1 = H at hPX hPM hPO hS ⊢
      have dp_174 : Deep τz_169 := (Deep.fr hDp (fc_173.1 2 (by decide) (by decide)) (fc_173.1 4 (by decide) (by decide)) (fc_173.1 9 (by decide) (by decide)) (fc_173.1 11 (by decide) (by decide)) (fc_173.1 12 (by decide) (by decide)) (fc_173.1 17 (by decide) (by decide)) (fc_173.1 18 (by decide) (by decide)) (fc_173.2 20 (by decide)) (fc_173.2 21 (by decide)) (fc_173.2 28 (by decide)) (fc_173.2 64 (by decide)) (fc_173.2 65 (by decide)) (fc_173.2 68 (by decide)))
      have hq_175 : (σz_162 2).1 1 = (τz_169 0).1 31 := hq_167.trans (fc_173.2 31 (by decide)).symm
      refine lv_pop hx hb dL_law_537 rfl ?_
      refine lv_goto (tgt := 1850) hx hb dL_law_538 (by decide) ?_
      obtain ⟨x_176, ex_176⟩ : ∃ zz : Int32, zz = (nI (6 * j)) + 6 := ⟨_, rfl⟩
      refine lv_iinc (v := x_176) (lv' := [(4, .int x_176), (3, .ref lo), (2, .ref (am 0)), (1, .ref (ad 0)), (0, .ref b)]) hx hb dL_law_1850 hl (k := 0) rfl (by rw [ex_176]; rfl) (by decide) rfl (fun ls hl => ?_)
      refine lv_goto (tgt := 23) hx hb dL_law_1853 (by decide) ?_
      have hl := lv_sub hl [0, 1, 2, 3, 4] rfl
      rw [ex_176, nI_6] at hl
      exact ih (j + 1) σz_162 τz_169 f _ _ _ _ _ _ (by omega) (by omega) hI_165 hI_172 dp_174 hq_175 (by omega) (by omega) hd0 hPX hDX hPM hDM hPO hDO hS hl
    by_cases c_177 : ((xs (nI (6 * j)).toNatClampNeg) &&& 63) = 9
    · refine lv_tableIn (tgt := 541) hx hb dL_law_40 (by rw [c_177]; decide) (by rw [c_177]; decide) (by rw [c_177]; rfl) (by decide) ?_
      refine lv_aload_n hx hb dL_law_541 rfl (lv_at hl 3 rfl) ?_
      refine lv_aload_n hx hb dL_law_542 rfl (lv_at hl 4 rfl) ?_
      refine lv_iload hx hb dL_law_543 (lv_at hl 0 rfl) ?_
      refine lv_iconst (v := 1) hx hb dL_law_545 (by decide) ?_
      refine lv_iadd hx hb dL_law_546 ?_
      refine va_sld hx hb hX hbl hbA hS (lw_ix (k := 1) hL hin (by decide) (by decide)) dL_law_547 ?_
      refine lv_aload_n hx hb dL_law_548 rfl (lv_at hl 4 rfl) ?_
      refine lv_iload hx hb dL_law_549 (lv_at hl 0 rfl) ?_
      refine lv_iconst (v := 2) hx hb dL_law_551 (by decide) ?_
      refine lv_iadd hx hb dL_law_552 ?_
      refine va_sld hx hb hX hbl hbA hS (lw_ix (k := 2) hL hin (by decide) (by decide)) dL_law_553 ?_
      refine lv_aload_n hx hb dL_law_554 rfl (lv_at hl 4 rfl) ?_
      refine lv_iload hx hb dL_law_555 (lv_at hl 0 rfl) ?_
      refine lv_iconst (v := 3) hx hb dL_law_557 (by decide) ?_
      refine lv_iadd hx hb dL_law_558 ?_
      refine va_sld hx hb hX hbl hbA hS (lw_ix (k := 3) hL hin (by decide) (by decide)) dL_law_559 ?_
      refine lv_aload_n hx hb dL_law_560 rfl (lv_at hl 4 rfl) ?_
      refine lv_iload hx hb dL_law_561 (lv_at hl 0 rfl) ?_
      refine lv_iconst (v := 4) hx hb dL_law_563 (by decide) ?_
      refine lv_iadd hx hb dL_law_564 ?_
      refine va_sld hx hb hX hbl hbA hS (lw_ix (k := 4) hL hin (by decide) (by decide)) dL_law_565 ?_
      refine lv_if_eq (tgt := 573) hx hb dL_law_566 (by decide) (fun c_178 => ?_) (fun c_178 => ?_)
      · refine lv_iconst (v := 0) hx hb dL_law_573 (by decide) ?_
        have hF := gFree hDX hS hA
        refine va_calllD hd0 (va_runV_D (As := [.int (xs ((nI (6 * j)) + 1).toNatClampNeg), .int (xs ((nI (6 * j)) + 2).toNatClampNeg), .int (xs ((nI (6 * j)) + 3).toNatClampNeg), .int 0]) (rest := []) ⟨hx, hb, hml, hown, hts⟩ (n_X11_counted l dC dI ad cA adK adV H.size σ hIX (xs ((nI (6 * j)) + 1).toNatClampNeg) (xs ((nI (6 * j)) + 2).toNatClampNeg) (xs ((nI (6 * j)) + 3).toNatClampNeg) 0 ) (cwV 4 hts gL0_X11_counted rfl rfl rfl (by decide +kernel) ⟨Nat.le_of_ble_eq_true rfl, Nat.le_of_ble_eq_true rfl⟩) ⟨gBlind, va_recv hKX hPX (ci := 10) (q0 := 0) rfl (at_10 rfl), gStart (As := [.ref (ad 0), .int (xs ((nI (6 * j)) + 1).toNatClampNeg), .int (xs ((nI (6 * j)) + 2).toNatClampNeg), .int (xs ((nI (6 * j)) + 3).toNatClampNeg), .int 0]) hPX hDX hKX0 hT hS hF (d)⟩ rfl rfl hl.1 rfl (lv_room (Nat.le_of_ble_eq_true rfl)) dL_law_574 ⟨by omega, by omega⟩) hS (fun q _ h => hF q h) hF (fun r_179 σz_180 t H1 locs ht hvm hw hB hz1 hk1 hS d_181 hd0 => ?_)
        have hts := dr_words hts0 (d_181)
        have hKX := gKd hKX0 (d_181)
        have hKM := gKd hKM0 (d_181)
        have hown : (s.setDrawn (d_181)).vm.findClass RL = some m.cls := hown0
        have hX : va_X b L xs (s.setDrawn (d_181)) s.heap := hX0
        obtain ⟨hPX, hDX⟩ := gBack hF ht hB
        obtain ⟨hI_183, fc_184, hp_182⟩ := hw
        have hPM := gOther hPM hk1 (dj_G dj)
        have hPO := gOther hPO hk1 (dj_1 djX)
        generalize H1 = H at hPX hPM hPO hS ⊢
        have hq_185 : (σz_180 2).1 1 = (τ 0).1 31 := by rw [fc_184 2 (by decide)]; exact hEq
        refine lv_pop2_2 hx hb dL_law_577 rfl ?_
        refine lv_aload_n hx hb dL_law_578 rfl (lv_at hl 2 rfl) ?_
        refine lv_aload_n hx hb dL_law_579 rfl (lv_at hl 4 rfl) ?_
        refine lv_iload hx hb dL_law_580 (lv_at hl 0 rfl) ?_
        refine lv_iconst (v := 1) hx hb dL_law_582 (by decide) ?_
        refine lv_iadd hx hb dL_law_583 ?_
        refine va_sld hx hb hX hbl hbA hS (lw_ix (k := 1) hL hin (by decide) (by decide)) dL_law_584 ?_
        refine lv_aload_n hx hb dL_law_585 rfl (lv_at hl 4 rfl) ?_
        refine lv_iload hx hb dL_law_586 (lv_at hl 0 rfl) ?_
        refine lv_iconst (v := 2) hx hb dL_law_588 (by decide) ?_
        refine lv_iadd hx hb dL_law_589 ?_
        refine va_sld hx hb hX hbl hbA hS (lw_ix (k := 2) hL hin (by decide) (by decide)) dL_law_590 ?_
        refine lv_aload_n hx hb dL_law_591 rfl (lv_at hl 4 rfl) ?_
        refine lv_iload hx hb dL_law_592 (lv_at hl 0 rfl) ?_
        refine lv_iconst (v := 3) hx hb dL_law_594 (by decide) ?_
        refine lv_iadd hx hb dL_law_595 ?_
        refine va_sld hx hb hX hbl hbA hS (lw_ix (k := 3) hL hin (by decide) (by decide)) dL_law_596 ?_
        refine lv_aload_n hx hb dL_law_597 rfl (lv_at hl 4 rfl) ?_
        refine lv_iload hx hb dL_law_598 (lv_at hl 0 rfl) ?_
        refine lv_iconst (v := 4) hx hb dL_law_600 (by decide) ?_
        refine lv_iadd hx hb dL_law_601 ?_
        refine va_sld hx hb hX hbl hbA hS (lw_ix (k := 4) hL hin (by decide) (by decide)) dL_law_602 ?_
        refine lv_if_eq (tgt := 610) hx hb dL_law_603 (by decide) (fun c_186 => ?_) (fun c_186 => ?_)
        · refine lv_iconst (v := 0) hx hb dL_law_610 (by decide) ?_
          have hF := gFree hDM hS hA
          refine va_calllD hd0 (va_runV_D (As := [.int (xs ((nI (6 * j)) + 1).toNatClampNeg), .int (xs ((nI (6 * j)) + 2).toNatClampNeg), .int (xs ((nI (6 * j)) + 3).toNatClampNeg), .int 0]) (rest := []) ⟨hx, hb, hml, hown, hts⟩ (n_X12_counted l dC dI am cM adK adV H.size τ hIM (xs ((nI (6 * j)) + 1).toNatClampNeg) (xs ((nI (6 * j)) + 2).toNatClampNeg) (xs ((nI (6 * j)) + 3).toNatClampNeg) 0 ) (cwV 4 hts gL0_X12_counted rfl rfl rfl (by decide +kernel) ⟨Nat.le_of_ble_eq_true rfl, Nat.le_of_ble_eq_true rfl⟩) ⟨gBlind, va_recv hKM hPM (ci := 11) (q0 := 0) rfl (mat_11 rfl), gStart (As := [.ref (am 0), .int (xs ((nI (6 * j)) + 1).toNatClampNeg), .int (xs ((nI (6 * j)) + 2).toNatClampNeg), .int (xs ((nI (6 * j)) + 3).toNatClampNeg), .int 0]) hPM hDM hKM0 hT hS hF (d_181)⟩ rfl rfl hl.1 rfl (lv_room (Nat.le_of_ble_eq_true rfl)) dL_law_611 ⟨by omega, by omega⟩) hS (fun q _ h => hF q h) hF (fun r_187 τz_188 t H1 locs ht hvm hw hB hz1 hk1 hS d_189 hd0 => ?_)
          have hts := dr_words hts0 (d_189)
          have hKX := gKd hKX0 (d_189)
          have hKM := gKd hKM0 (d_189)
          have hown : (s.setDrawn (d_189)).vm.findClass RL = some m.cls := hown0
          have hX : va_X b L xs (s.setDrawn (d_189)) s.heap := hX0
          obtain ⟨hPM, hDM⟩ := gBack hF ht hB
          obtain ⟨hI_191, fc_192, hp_190⟩ := hw
          have hPX := gOther hPX hk1 (dj_sym (dj_G dj))
          have hPO := gOther hPO hk1 (dj_1 djM)
          generalize H1 = H at hPX hPM hPO hS ⊢
          have dp_193 : Deep τz_188 := (Deep.fr hDp (fc_192.1 2 (by decide) (by decide)) (fc_192.1 4 (by decide) (by decide)) (fc_192.1 9 (by decide) (by decide)) (fc_192.1 11 (by decide) (by decide)) (fc_192.1 12 (by decide) (by decide)) (fc_192.1 17 (by decide) (by decide)) (fc_192.1 18 (by decide) (by decide)) (fc_192.2 20 (by decide)) (fc_192.2 21 (by decide)) (fc_192.2 28 (by decide)) (fc_192.2 64 (by decide)) (fc_192.2 65 (by decide)) (fc_192.2 68 (by decide)))
          have hq_194 : (σz_180 2).1 1 = (τz_188 0).1 31 := hq_185.trans (fc_192.2 31 (by decide)).symm
          refine lv_pop2_2 hx hb dL_law_614 rfl ?_
          refine lv_goto (tgt := 1850) hx hb dL_law_615 (by decide) ?_
          obtain ⟨x_195, ex_195⟩ : ∃ zz : Int32, zz = (nI (6 * j)) + 6 := ⟨_, rfl⟩
          refine lv_iinc (v := x_195) (lv' := [(4, .int x_195), (3, .ref lo), (2, .ref (am 0)), (1, .ref (ad 0)), (0, .ref b)]) hx hb dL_law_1850 hl (k := 0) rfl (by rw [ex_195]; rfl) (by decide) rfl (fun ls hl => ?_)
          refine lv_goto (tgt := 23) hx hb dL_law_1853 (by decide) ?_
          have hl := lv_sub hl [0, 1, 2, 3, 4] rfl
          rw [ex_195, nI_6] at hl
          exact ih (j + 1) σz_180 τz_188 f _ _ _ _ _ _ (by omega) (by omega) hI_183 hI_191 dp_193 hq_194 (by omega) (by omega) hd0 hPX hDX hPM hDM hPO hDO hS hl
        · exact absurd c_178 c_186
      · refine lv_iconst (v := 1) hx hb dL_law_569 (by decide) ?_
        refine lv_goto (tgt := 574) hx hb dL_law_570 (by decide) ?_
        have hF := gFree hDX hS hA
        refine va_calllD hd0 (va_runV_D (As := [.int (xs ((nI (6 * j)) + 1).toNatClampNeg), .int (xs ((nI (6 * j)) + 2).toNatClampNeg), .int (xs ((nI (6 * j)) + 3).toNatClampNeg), .int 1]) (rest := []) ⟨hx, hb, hml, hown, hts⟩ (n_X11_counted l dC dI ad cA adK adV H.size σ hIX (xs ((nI (6 * j)) + 1).toNatClampNeg) (xs ((nI (6 * j)) + 2).toNatClampNeg) (xs ((nI (6 * j)) + 3).toNatClampNeg) 1 ) (cwV 4 hts gL0_X11_counted rfl rfl rfl (by decide +kernel) ⟨Nat.le_of_ble_eq_true rfl, Nat.le_of_ble_eq_true rfl⟩) ⟨gBlind, va_recv hKX hPX (ci := 10) (q0 := 0) rfl (at_10 rfl), gStart (As := [.ref (ad 0), .int (xs ((nI (6 * j)) + 1).toNatClampNeg), .int (xs ((nI (6 * j)) + 2).toNatClampNeg), .int (xs ((nI (6 * j)) + 3).toNatClampNeg), .int 1]) hPX hDX hKX0 hT hS hF (d)⟩ rfl rfl hl.1 rfl (lv_room (Nat.le_of_ble_eq_true rfl)) dL_law_574 ⟨by omega, by omega⟩) hS (fun q _ h => hF q h) hF (fun r_196 σz_197 t H1 locs ht hvm hw hB hz1 hk1 hS d_198 hd0 => ?_)
        have hts := dr_words hts0 (d_198)
        have hKX := gKd hKX0 (d_198)
        have hKM := gKd hKM0 (d_198)
        have hown : (s.setDrawn (d_198)).vm.findClass RL = some m.cls := hown0
        have hX : va_X b L xs (s.setDrawn (d_198)) s.heap := hX0
        obtain ⟨hPX, hDX⟩ := gBack hF ht hB
        obtain ⟨hI_200, fc_201, hp_199⟩ := hw
        have hPM := gOther hPM hk1 (dj_G dj)
        have hPO := gOther hPO hk1 (dj_1 djX)
        generalize H1 = H at hPX hPM hPO hS ⊢
        have hq_202 : (σz_197 2).1 1 = (τ 0).1 31 := by rw [fc_201 2 (by decide)]; exact hEq
        refine lv_pop2_2 hx hb dL_law_577 rfl ?_
        refine lv_aload_n hx hb dL_law_578 rfl (lv_at hl 2 rfl) ?_
        refine lv_aload_n hx hb dL_law_579 rfl (lv_at hl 4 rfl) ?_
        refine lv_iload hx hb dL_law_580 (lv_at hl 0 rfl) ?_
        refine lv_iconst (v := 1) hx hb dL_law_582 (by decide) ?_
        refine lv_iadd hx hb dL_law_583 ?_
        refine va_sld hx hb hX hbl hbA hS (lw_ix (k := 1) hL hin (by decide) (by decide)) dL_law_584 ?_
        refine lv_aload_n hx hb dL_law_585 rfl (lv_at hl 4 rfl) ?_
        refine lv_iload hx hb dL_law_586 (lv_at hl 0 rfl) ?_
        refine lv_iconst (v := 2) hx hb dL_law_588 (by decide) ?_
        refine lv_iadd hx hb dL_law_589 ?_
        refine va_sld hx hb hX hbl hbA hS (lw_ix (k := 2) hL hin (by decide) (by decide)) dL_law_590 ?_
        refine lv_aload_n hx hb dL_law_591 rfl (lv_at hl 4 rfl) ?_
        refine lv_iload hx hb dL_law_592 (lv_at hl 0 rfl) ?_
        refine lv_iconst (v := 3) hx hb dL_law_594 (by decide) ?_
        refine lv_iadd hx hb dL_law_595 ?_
        refine va_sld hx hb hX hbl hbA hS (lw_ix (k := 3) hL hin (by decide) (by decide)) dL_law_596 ?_
        refine lv_aload_n hx hb dL_law_597 rfl (lv_at hl 4 rfl) ?_
        refine lv_iload hx hb dL_law_598 (lv_at hl 0 rfl) ?_
        refine lv_iconst (v := 4) hx hb dL_law_600 (by decide) ?_
        refine lv_iadd hx hb dL_law_601 ?_
        refine va_sld hx hb hX hbl hbA hS (lw_ix (k := 4) hL hin (by decide) (by decide)) dL_law_602 ?_
        refine lv_if_eq (tgt := 610) hx hb dL_law_603 (by decide) (fun c_203 => ?_) (fun c_203 => ?_)
        · exact absurd c_203 c_178
        · refine lv_iconst (v := 1) hx hb dL_law_606 (by decide) ?_
          refine lv_goto (tgt := 611) hx hb dL_law_607 (by decide) ?_
          have hF := gFree hDM hS hA
          refine va_calllD hd0 (va_runV_D (As := [.int (xs ((nI (6 * j)) + 1).toNatClampNeg), .int (xs ((nI (6 * j)) + 2).toNatClampNeg), .int (xs ((nI (6 * j)) + 3).toNatClampNeg), .int 1]) (rest := []) ⟨hx, hb, hml, hown, hts⟩ (n_X12_counted l dC dI am cM adK adV H.size τ hIM (xs ((nI (6 * j)) + 1).toNatClampNeg) (xs ((nI (6 * j)) + 2).toNatClampNeg) (xs ((nI (6 * j)) + 3).toNatClampNeg) 1 ) (cwV 4 hts gL0_X12_counted rfl rfl rfl (by decide +kernel) ⟨Nat.le_of_ble_eq_true rfl, Nat.le_of_ble_eq_true rfl⟩) ⟨gBlind, va_recv hKM hPM (ci := 11) (q0 := 0) rfl (mat_11 rfl), gStart (As := [.ref (am 0), .int (xs ((nI (6 * j)) + 1).toNatClampNeg), .int (xs ((nI (6 * j)) + 2).toNatClampNeg), .int (xs ((nI (6 * j)) + 3).toNatClampNeg), .int 1]) hPM hDM hKM0 hT hS hF (d_198)⟩ rfl rfl hl.1 rfl (lv_room (Nat.le_of_ble_eq_true rfl)) dL_law_611 ⟨by omega, by omega⟩) hS (fun q _ h => hF q h) hF (fun r_204 τz_205 t H1 locs ht hvm hw hB hz1 hk1 hS d_206 hd0 => ?_)
          have hts := dr_words hts0 (d_206)
          have hKX := gKd hKX0 (d_206)
          have hKM := gKd hKM0 (d_206)
          have hown : (s.setDrawn (d_206)).vm.findClass RL = some m.cls := hown0
          have hX : va_X b L xs (s.setDrawn (d_206)) s.heap := hX0
          obtain ⟨hPM, hDM⟩ := gBack hF ht hB
          obtain ⟨hI_208, fc_209, hp_207⟩ := hw
          have hPX := gOther hPX hk1 (dj_sym (dj_G dj))
          have hPO := gOther hPO hk1 (dj_1 djM)
          generalize H1 = H at hPX hPM hPO hS ⊢
          have dp_210 : Deep τz_205 := (Deep.fr hDp (fc_209.1 2 (by decide) (by decide)) (fc_209.1 4 (by decide) (by decide)) (fc_209.1 9 (by decide) (by decide)) (fc_209.1 11 (by decide) (by decide)) (fc_209.1 12 (by decide) (by decide)) (fc_209.1 17 (by decide) (by decide)) (fc_209.1 18 (by decide) (by decide)) (fc_209.2 20 (by decide)) (fc_209.2 21 (by decide)) (fc_209.2 28 (by decide)) (fc_209.2 64 (by decide)) (fc_209.2 65 (by decide)) (fc_209.2 68 (by decide)))
          have hq_211 : (σz_197 2).1 1 = (τz_205 0).1 31 := hq_202.trans (fc_209.2 31 (by decide)).symm
          refine lv_pop2_2 hx hb dL_law_614 rfl ?_
          refine lv_goto (tgt := 1850) hx hb dL_law_615 (by decide) ?_
          obtain ⟨x_212, ex_212⟩ : ∃ zz : Int32, zz = (nI (6 * j)) + 6 := ⟨_, rfl⟩
          refine lv_iinc (v := x_212) (lv' := [(4, .int x_212), (3, .ref lo), (2, .ref (am 0)), (1, .ref (ad 0)), (0, .ref b)]) hx hb dL_law_1850 hl (k := 0) rfl (by rw [ex_212]; rfl) (by decide) rfl (fun ls hl => ?_)
          refine lv_goto (tgt := 23) hx hb dL_law_1853 (by decide) ?_
          have hl := lv_sub hl [0, 1, 2, 3, 4] rfl
          rw [ex_212, nI_6] at hl
          exact ih (j + 1) σz_197 τz_205 f _ _ _ _ _ _ (by omega) (by omega) hI_200 hI_208 dp_210 hq_211 (by omega) (by omega) hd0 hPX hDX hPM hDM hPO hDO hS hl
    by_cases c_213 : ((xs (nI (6 * j)).toNatClampNeg) &&& 63) = 10
    · refine lv_tableIn (tgt := 618) hx hb dL_law_40 (by rw [c_213]; decide) (by rw [c_213]; decide) (by rw [c_213]; rfl) (by decide) ?_
      refine lv_aload_n hx hb dL_law_618 rfl (lv_at hl 3 rfl) ?_
      refine lv_aload_n hx hb dL_law_619 rfl (lv_at hl 4 rfl) ?_
      refine lv_iload hx hb dL_law_620 (lv_at hl 0 rfl) ?_
      refine lv_iconst (v := 1) hx hb dL_law_622 (by decide) ?_
      refine lv_iadd hx hb dL_law_623 ?_
      refine va_sld hx hb hX hbl hbA hS (lw_ix (k := 1) hL hin (by decide) (by decide)) dL_law_624 ?_
      refine lv_aload_n hx hb dL_law_625 rfl (lv_at hl 4 rfl) ?_
      refine lv_iload hx hb dL_law_626 (lv_at hl 0 rfl) ?_
      refine lv_iconst (v := 2) hx hb dL_law_628 (by decide) ?_
      refine lv_iadd hx hb dL_law_629 ?_
      refine va_sld hx hb hX hbl hbA hS (lw_ix (k := 2) hL hin (by decide) (by decide)) dL_law_630 ?_
      have hF := gFree hDX hS hA
      refine va_calliD hd0 (va_runV_D (As := [.int (xs ((nI (6 * j)) + 1).toNatClampNeg), .int (xs ((nI (6 * j)) + 2).toNatClampNeg)]) (rest := []) ⟨hx, hb, hml, hown, hts⟩ (n_X11_bond l dC dI ad cA adK adV H.size σ hIX (xs ((nI (6 * j)) + 1).toNatClampNeg) (xs ((nI (6 * j)) + 2).toNatClampNeg) ) (cwV 2 hts gL0_X11_bond rfl rfl rfl (by decide +kernel) ⟨Nat.le_of_ble_eq_true rfl, Nat.le_of_ble_eq_true rfl⟩) ⟨gBlind, va_recv hKX hPX (ci := 10) (q0 := 0) rfl (at_10 rfl), gStart (As := [.ref (ad 0), .int (xs ((nI (6 * j)) + 1).toNatClampNeg), .int (xs ((nI (6 * j)) + 2).toNatClampNeg)]) hPX hDX hKX0 hT hS hF (d)⟩ rfl rfl hl.1 rfl (lv_room (Nat.le_of_ble_eq_true rfl)) dL_law_631 ⟨by omega, by omega⟩) hS (fun q _ h => hF q h) hF (fun r_214 σz_215 t H1 locs ht hvm hw hB hz1 hk1 hS d_216 hd0 => ?_)
      have hts := dr_words hts0 (d_216)
      have hKX := gKd hKX0 (d_216)
      have hKM := gKd hKM0 (d_216)
      have hown : (s.setDrawn (d_216)).vm.findClass RL = some m.cls := hown0
      have hX : va_X b L xs (s.setDrawn (d_216)) s.heap := hX0
      obtain ⟨hPX, hDX⟩ := gBack hF ht hB
      obtain ⟨hI_218, fc_219, hp_217⟩ := hw
      have hPM := gOther hPM hk1 (dj_G dj)
      have hPO := gOther hPO hk1 (dj_1 djX)
      generalize H1 = H at hPX hPM hPO hS ⊢
      have hq_220 : (σz_215 2).1 1 = (τ 0).1 31 := by rw [fc_219 2 (by decide)]; exact hEq
      refine lv_pop hx hb dL_law_634 rfl ?_
      refine lv_aload_n hx hb dL_law_635 rfl (lv_at hl 2 rfl) ?_
      refine lv_aload_n hx hb dL_law_636 rfl (lv_at hl 4 rfl) ?_
      refine lv_iload hx hb dL_law_637 (lv_at hl 0 rfl) ?_
      refine lv_iconst (v := 1) hx hb dL_law_639 (by decide) ?_
      refine lv_iadd hx hb dL_law_640 ?_
      refine va_sld hx hb hX hbl hbA hS (lw_ix (k := 1) hL hin (by decide) (by decide)) dL_law_641 ?_
      refine lv_aload_n hx hb dL_law_642 rfl (lv_at hl 4 rfl) ?_
      refine lv_iload hx hb dL_law_643 (lv_at hl 0 rfl) ?_
      refine lv_iconst (v := 2) hx hb dL_law_645 (by decide) ?_
      refine lv_iadd hx hb dL_law_646 ?_
      refine va_sld hx hb hX hbl hbA hS (lw_ix (k := 2) hL hin (by decide) (by decide)) dL_law_647 ?_
      have hF := gFree hDM hS hA
      refine va_calliD hd0 (va_runV_D (As := [.int (xs ((nI (6 * j)) + 1).toNatClampNeg), .int (xs ((nI (6 * j)) + 2).toNatClampNeg)]) (rest := []) ⟨hx, hb, hml, hown, hts⟩ (n_X12_bond l dC dI am cM adK adV H.size τ hIM (xs ((nI (6 * j)) + 1).toNatClampNeg) (xs ((nI (6 * j)) + 2).toNatClampNeg) ) (cwV 2 hts gL0_X12_bond rfl rfl rfl (by decide +kernel) ⟨Nat.le_of_ble_eq_true rfl, Nat.le_of_ble_eq_true rfl⟩) ⟨gBlind, va_recv hKM hPM (ci := 11) (q0 := 0) rfl (mat_11 rfl), gStart (As := [.ref (am 0), .int (xs ((nI (6 * j)) + 1).toNatClampNeg), .int (xs ((nI (6 * j)) + 2).toNatClampNeg)]) hPM hDM hKM0 hT hS hF (d_216)⟩ rfl rfl hl.1 rfl (lv_room (Nat.le_of_ble_eq_true rfl)) dL_law_648 ⟨by omega, by omega⟩) hS (fun q _ h => hF q h) hF (fun r_221 τz_222 t H1 locs ht hvm hw hB hz1 hk1 hS d_223 hd0 => ?_)
      have hts := dr_words hts0 (d_223)
      have hKX := gKd hKX0 (d_223)
      have hKM := gKd hKM0 (d_223)
      have hown : (s.setDrawn (d_223)).vm.findClass RL = some m.cls := hown0
      have hX : va_X b L xs (s.setDrawn (d_223)) s.heap := hX0
      obtain ⟨hPM, hDM⟩ := gBack hF ht hB
      obtain ⟨hI_225, fc_226, hp_224⟩ := hw
      have hPX := gOther hPX hk1 (dj_sym (dj_G dj))
      have hPO := gOther hPO hk1 (dj_1 djM)
      generalize H1 = H at hPX hPM hPO hS ⊢
      have dp_227 : Deep τz_222 := (Deep.fr hDp (fc_226.1 2 (by decide) (by decide)) (fc_226.1 4 (by decide) (by decide)) (fc_226.1 9 (by decide) (by decide)) (fc_226.1 11 (by decide) (by decide)) (fc_226.1 12 (by decide) (by decide)) (fc_226.1 17 (by decide) (by decide)) (fc_226.1 18 (by decide) (by decide)) (fc_226.2 20 (by decide)) (fc_226.2 21 (by decide)) (fc_226.2 28 (by decide)) (fc_226.2 64 (by decide)) (fc_226.2 65 (by decide)) (fc_226.2 68 (by decide)))
      have hq_228 : (σz_215 2).1 1 = (τz_222 0).1 31 := hq_220.trans (fc_226.2 31 (by decide)).symm
      refine lv_pop hx hb dL_law_651 rfl ?_
      refine lv_goto (tgt := 1850) hx hb dL_law_652 (by decide) ?_
      obtain ⟨x_229, ex_229⟩ : ∃ zz : Int32, zz = (nI (6 * j)) + 6 := ⟨_, rfl⟩
      refine lv_iinc (v := x_229) (lv' := [(4, .int x_229), (3, .ref lo), (2, .ref (am 0)), (1, .ref (ad 0)), (0, .ref b)]) hx hb dL_law_1850 hl (k := 0) rfl (by rw [ex_229]; rfl) (by decide) rfl (fun ls hl => ?_)
      refine lv_goto (tgt := 23) hx hb dL_law_1853 (by decide) ?_
      have hl := lv_sub hl [0, 1, 2, 3, 4] rfl
      rw [ex_229, nI_6] at hl
      exact ih (j + 1) σz_215 τz_222 f _ _ _ _ _ _ (by omega) (by omega) hI_218 hI_225 dp_227 hq_228 (by omega) (by omega) hd0 hPX hDX hPM hDM hPO hDO hS hl
    by_cases c_230 : ((xs (nI (6 * j)).toNatClampNeg) &&& 63) = 11
    · refine lv_tableIn (tgt := 655) hx hb dL_law_40 (by rw [c_230]; decide) (by rw [c_230]; decide) (by rw [c_230]; rfl) (by decide) ?_
      refine lv_aload_n hx hb dL_law_655 rfl (lv_at hl 3 rfl) ?_
      refine lv_aload_n hx hb dL_law_656 rfl (lv_at hl 4 rfl) ?_
      refine lv_iload hx hb dL_law_657 (lv_at hl 0 rfl) ?_
      refine lv_iconst (v := 1) hx hb dL_law_659 (by decide) ?_
      refine lv_iadd hx hb dL_law_660 ?_
      refine va_sld hx hb hX hbl hbA hS (lw_ix (k := 1) hL hin (by decide) (by decide)) dL_law_661 ?_
      refine lv_aload_n hx hb dL_law_662 rfl (lv_at hl 4 rfl) ?_
      refine lv_iload hx hb dL_law_663 (lv_at hl 0 rfl) ?_
      refine lv_iconst (v := 2) hx hb dL_law_665 (by decide) ?_
      refine lv_iadd hx hb dL_law_666 ?_
      refine va_sld hx hb hX hbl hbA hS (lw_ix (k := 2) hL hin (by decide) (by decide)) dL_law_667 ?_
      have hF := gFree hDX hS hA
      refine va_calliD hd0 (va_runV_D (As := [.int (xs ((nI (6 * j)) + 1).toNatClampNeg), .int (xs ((nI (6 * j)) + 2).toNatClampNeg)]) (rest := []) ⟨hx, hb, hml, hown, hts⟩ (n_X11_grid l dC dI ad cA adK adV H.size σ hIX (xs ((nI (6 * j)) + 1).toNatClampNeg) (xs ((nI (6 * j)) + 2).toNatClampNeg) ) (cwV 2 hts gL0_X11_grid rfl rfl rfl (by decide +kernel) ⟨Nat.le_of_ble_eq_true rfl, Nat.le_of_ble_eq_true rfl⟩) ⟨gBlind, va_recv hKX hPX (ci := 10) (q0 := 0) rfl (at_10 rfl), gStart (As := [.ref (ad 0), .int (xs ((nI (6 * j)) + 1).toNatClampNeg), .int (xs ((nI (6 * j)) + 2).toNatClampNeg)]) hPX hDX hKX0 hT hS hF (d)⟩ rfl rfl hl.1 rfl (lv_room (Nat.le_of_ble_eq_true rfl)) dL_law_668 ⟨by omega, by omega⟩) hS (fun q _ h => hF q h) hF (fun r_231 σz_232 t H1 locs ht hvm hw hB hz1 hk1 hS d_233 hd0 => ?_)
      have hts := dr_words hts0 (d_233)
      have hKX := gKd hKX0 (d_233)
      have hKM := gKd hKM0 (d_233)
      have hown : (s.setDrawn (d_233)).vm.findClass RL = some m.cls := hown0
      have hX : va_X b L xs (s.setDrawn (d_233)) s.heap := hX0
      obtain ⟨hPX, hDX⟩ := gBack hF ht hB
      obtain ⟨hI_235, fc_236, hp_234⟩ := hw
      have hPM := gOther hPM hk1 (dj_G dj)
      have hPO := gOther hPO hk1 (dj_1 djX)
      generalize H1 = H at hPX hPM hPO hS ⊢
      have hq_237 : (σz_232 2).1 1 = (τ 0).1 31 := by rw [fc_236 2 (by decide)]; exact hEq
      refine lv_pop hx hb dL_law_671 rfl ?_
      refine lv_aload_n hx hb dL_law_672 rfl (lv_at hl 2 rfl) ?_
      refine lv_aload_n hx hb dL_law_673 rfl (lv_at hl 4 rfl) ?_
      refine lv_iload hx hb dL_law_674 (lv_at hl 0 rfl) ?_
      refine lv_iconst (v := 1) hx hb dL_law_676 (by decide) ?_
      refine lv_iadd hx hb dL_law_677 ?_
      refine va_sld hx hb hX hbl hbA hS (lw_ix (k := 1) hL hin (by decide) (by decide)) dL_law_678 ?_
      refine lv_aload_n hx hb dL_law_679 rfl (lv_at hl 4 rfl) ?_
      refine lv_iload hx hb dL_law_680 (lv_at hl 0 rfl) ?_
      refine lv_iconst (v := 2) hx hb dL_law_682 (by decide) ?_
      refine lv_iadd hx hb dL_law_683 ?_
      refine va_sld hx hb hX hbl hbA hS (lw_ix (k := 2) hL hin (by decide) (by decide)) dL_law_684 ?_
      have hF := gFree hDM hS hA
      refine va_calliD hd0 (va_runV_D (As := [.int (xs ((nI (6 * j)) + 1).toNatClampNeg), .int (xs ((nI (6 * j)) + 2).toNatClampNeg)]) (rest := []) ⟨hx, hb, hml, hown, hts⟩ (n_X12_grid l dC dI am cM adK adV H.size τ hIM (xs ((nI (6 * j)) + 1).toNatClampNeg) (xs ((nI (6 * j)) + 2).toNatClampNeg) hDp) (cwV 2 hts gL0_X12_grid rfl rfl rfl (by decide +kernel) ⟨Nat.le_of_ble_eq_true rfl, Nat.le_of_ble_eq_true rfl⟩) ⟨gBlind, va_recv hKM hPM (ci := 11) (q0 := 0) rfl (mat_11 rfl), gStart (As := [.ref (am 0), .int (xs ((nI (6 * j)) + 1).toNatClampNeg), .int (xs ((nI (6 * j)) + 2).toNatClampNeg)]) hPM hDM hKM0 hT hS hF (d_233)⟩ rfl rfl hl.1 rfl (lv_room (Nat.le_of_ble_eq_true rfl)) dL_law_685 ⟨by omega, by omega⟩) hS (fun q _ h => hF q h) hF (fun r_238 τz_239 t H1 locs ht hvm hw hB hz1 hk1 hS d_240 hd0 => ?_)
      have hts := dr_words hts0 (d_240)
      have hKX := gKd hKX0 (d_240)
      have hKM := gKd hKM0 (d_240)
      have hown : (s.setDrawn (d_240)).vm.findClass RL = some m.cls := hown0
      have hX : va_X b L xs (s.setDrawn (d_240)) s.heap := hX0
      obtain ⟨hPM, hDM⟩ := gBack hF ht hB
      obtain ⟨hI_242, fc_243, hp_241⟩ := hw
      have hPX := gOther hPX hk1 (dj_sym (dj_G dj))
      have hPO := gOther hPO hk1 (dj_1 djM)
      generalize H1 = H at hPX hPM hPO hS ⊢
      have dp_244 : Deep τz_239 := (Deep.fr hDp (fc_243.1 2 (by decide) (by decide)) (fc_243.1 4 (by decide) (by decide)) (fc_243.1 9 (by decide) (by decide)) (fc_243.1 11 (by decide) (by decide)) (fc_243.1 12 (by decide) (by decide)) (fc_243.1 17 (by decide) (by decide)) (fc_243.1 18 (by decide) (by decide)) (fc_243.2 20 (by decide)) (fc_243.2 21 (by decide)) (fc_243.2 28 (by decide)) (fc_243.2 64 (by decide)) (fc_243.2 65 (by decide)) (fc_243.2 68 (by decide)))
      have hq_245 : (σz_232 2).1 1 = (τz_239 0).1 31 := hq_237.trans (fc_243.2 31 (by decide)).symm
      refine lv_pop hx hb dL_law_688 rfl ?_
      refine lv_goto (tgt := 1850) hx hb dL_law_689 (by decide) ?_
      obtain ⟨x_246, ex_246⟩ : ∃ zz : Int32, zz = (nI (6 * j)) + 6 := ⟨_, rfl⟩
      refine lv_iinc (v := x_246) (lv' := [(4, .int x_246), (3, .ref lo), (2, .ref (am 0)), (1, .ref (ad 0)), (0, .ref b)]) hx hb dL_law_1850 hl (k := 0) rfl (by rw [ex_246]; rfl) (by decide) rfl (fun ls hl => ?_)
      refine lv_goto (tgt := 23) hx hb dL_law_1853 (by decide) ?_
      have hl := lv_sub hl [0, 1, 2, 3, 4] rfl
      rw [ex_246, nI_6] at hl
      exact ih (j + 1) σz_232 τz_239 f _ _ _ _ _ _ (by omega) (by omega) hI_235 hI_242 dp_244 hq_245 (by omega) (by omega) hd0 hPX hDX hPM hDM hPO hDO hS hl
    by_cases c_247 : ((xs (nI (6 * j)).toNatClampNeg) &&& 63) = 12
    · refine lv_tableIn (tgt := 692) hx hb dL_law_40 (by rw [c_247]; decide) (by rw [c_247]; decide) (by rw [c_247]; rfl) (by decide) ?_
      refine lv_aload_n hx hb dL_law_692 rfl (lv_at hl 3 rfl) ?_
      refine lv_aload_n hx hb dL_law_693 rfl (lv_at hl 4 rfl) ?_
      refine lv_iload hx hb dL_law_694 (lv_at hl 0 rfl) ?_
      refine lv_iconst (v := 1) hx hb dL_law_696 (by decide) ?_
      refine lv_iadd hx hb dL_law_697 ?_
      refine va_sld hx hb hX hbl hbA hS (lw_ix (k := 1) hL hin (by decide) (by decide)) dL_law_698 ?_
      refine lv_aload_n hx hb dL_law_699 rfl (lv_at hl 4 rfl) ?_
      refine lv_iload hx hb dL_law_700 (lv_at hl 0 rfl) ?_
      refine lv_iconst (v := 2) hx hb dL_law_702 (by decide) ?_
      refine lv_iadd hx hb dL_law_703 ?_
      refine va_sld hx hb hX hbl hbA hS (lw_ix (k := 2) hL hin (by decide) (by decide)) dL_law_704 ?_
      refine lv_aload_n hx hb dL_law_705 rfl (lv_at hl 4 rfl) ?_
      refine lv_iload hx hb dL_law_706 (lv_at hl 0 rfl) ?_
      refine lv_iconst (v := 3) hx hb dL_law_708 (by decide) ?_
      refine lv_iadd hx hb dL_law_709 ?_
      refine va_sld hx hb hX hbl hbA hS (lw_ix (k := 3) hL hin (by decide) (by decide)) dL_law_710 ?_
      have hF := gFree hDX hS hA
      refine va_calliD hd0 (va_runV_D (As := [.int (xs ((nI (6 * j)) + 1).toNatClampNeg), .int (xs ((nI (6 * j)) + 2).toNatClampNeg), .int (xs ((nI (6 * j)) + 3).toNatClampNeg)]) (rest := []) ⟨hx, hb, hml, hown, hts⟩ (n_X11_period l dC dI ad cA adK adV H.size σ hIX (xs ((nI (6 * j)) + 1).toNatClampNeg) (xs ((nI (6 * j)) + 2).toNatClampNeg) (xs ((nI (6 * j)) + 3).toNatClampNeg) ) (cwV 3 hts gL0_X11_period rfl rfl rfl (by decide +kernel) ⟨Nat.le_of_ble_eq_true rfl, Nat.le_of_ble_eq_true rfl⟩) ⟨gBlind, va_recv hKX hPX (ci := 10) (q0 := 0) rfl (at_10 rfl), gStart (As := [.ref (ad 0), .int (xs ((nI (6 * j)) + 1).toNatClampNeg), .int (xs ((nI (6 * j)) + 2).toNatClampNeg), .int (xs ((nI (6 * j)) + 3).toNatClampNeg)]) hPX hDX hKX0 hT hS hF (d)⟩ rfl rfl hl.1 rfl (lv_room (Nat.le_of_ble_eq_true rfl)) dL_law_711 ⟨by omega, by omega⟩) hS (fun q _ h => hF q h) hF (fun r_248 σz_249 t H1 locs ht hvm hw hB hz1 hk1 hS d_250 hd0 => ?_)
      have hts := dr_words hts0 (d_250)
      have hKX := gKd hKX0 (d_250)
      have hKM := gKd hKM0 (d_250)
      have hown : (s.setDrawn (d_250)).vm.findClass RL = some m.cls := hown0
      have hX : va_X b L xs (s.setDrawn (d_250)) s.heap := hX0
      obtain ⟨hPX, hDX⟩ := gBack hF ht hB
      obtain ⟨hI_252, fc_253, hp_251⟩ := hw
      have hPM := gOther hPM hk1 (dj_G dj)
      have hPO := gOther hPO hk1 (dj_1 djX)
      generalize H1 = H at hPX hPM hPO hS ⊢
      have hq_254 : (σz_249 2).1 1 = (τ 0).1 31 := by rw [fc_253 2 (by decide)]; exact hEq
      refine lv_pop hx hb dL_law_714 rfl ?_
      refine lv_aload_n hx hb dL_law_715 rfl (lv_at hl 2 rfl) ?_
      refine lv_aload_n hx hb dL_law_716 rfl (lv_at hl 4 rfl) ?_
      refine lv_iload hx hb dL_law_717 (lv_at hl 0 rfl) ?_
      refine lv_iconst (v := 1) hx hb dL_law_719 (by decide) ?_
      refine lv_iadd hx hb dL_law_720 ?_
      refine va_sld hx hb hX hbl hbA hS (lw_ix (k := 1) hL hin (by decide) (by decide)) dL_law_721 ?_
      refine lv_aload_n hx hb dL_law_722 rfl (lv_at hl 4 rfl) ?_
      refine lv_iload hx hb dL_law_723 (lv_at hl 0 rfl) ?_
      refine lv_iconst (v := 2) hx hb dL_law_725 (by decide) ?_
      refine lv_iadd hx hb dL_law_726 ?_
      refine va_sld hx hb hX hbl hbA hS (lw_ix (k := 2) hL hin (by decide) (by decide)) dL_law_727 ?_
      refine lv_aload_n hx hb dL_law_728 rfl (lv_at hl 4 rfl) ?_
      refine lv_iload hx hb dL_law_729 (lv_at hl 0 rfl) ?_
      refine lv_iconst (v := 3) hx hb dL_law_731 (by decide) ?_
      refine lv_iadd hx hb dL_law_732 ?_
      refine va_sld hx hb hX hbl hbA hS (lw_ix (k := 3) hL hin (by decide) (by decide)) dL_law_733 ?_
      have hF := gFree hDM hS hA
      refine va_calliD hd0 (va_runV_D (As := [.int (xs ((nI (6 * j)) + 1).toNatClampNeg), .int (xs ((nI (6 * j)) + 2).toNatClampNeg), .int (xs ((nI (6 * j)) + 3).toNatClampNeg)]) (rest := []) ⟨hx, hb, hml, hown, hts⟩ (n_X12_period l dC dI am cM adK adV H.size τ hIM (xs ((nI (6 * j)) + 1).toNatClampNeg) (xs ((nI (6 * j)) + 2).toNatClampNeg) (xs ((nI (6 * j)) + 3).toNatClampNeg) ) (cwV 3 hts gL0_X12_period rfl rfl rfl (by decide +kernel) ⟨Nat.le_of_ble_eq_true rfl, Nat.le_of_ble_eq_true rfl⟩) ⟨gBlind, va_recv hKM hPM (ci := 11) (q0 := 0) rfl (mat_11 rfl), gStart (As := [.ref (am 0), .int (xs ((nI (6 * j)) + 1).toNatClampNeg), .int (xs ((nI (6 * j)) + 2).toNatClampNeg), .int (xs ((nI (6 * j)) + 3).toNatClampNeg)]) hPM hDM hKM0 hT hS hF (d_250)⟩ rfl rfl hl.1 rfl (lv_room (Nat.le_of_ble_eq_true rfl)) dL_law_734 ⟨by omega, by omega⟩) hS (fun q _ h => hF q h) hF (fun r_255 τz_256 t H1 locs ht hvm hw hB hz1 hk1 hS d_257 hd0 => ?_)
      have hts := dr_words hts0 (d_257)
      have hKX := gKd hKX0 (d_257)
      have hKM := gKd hKM0 (d_257)
      have hown : (s.setDrawn (d_257)).vm.findClass RL = some m.cls := hown0
      have hX : va_X b L xs (s.setDrawn (d_257)) s.heap := hX0
      obtain ⟨hPM, hDM⟩ := gBack hF ht hB
      obtain ⟨hI_259, fc_260, hp_258⟩ := hw
      have hPX := gOther hPX hk1 (dj_sym (dj_G dj))
      have hPO := gOther hPO hk1 (dj_1 djM)
      generalize H1 = H at hPX hPM hPO hS ⊢
      have dp_261 : Deep τz_256 := (Deep.fr hDp (fc_260.1 2 (by decide) (by decide)) (fc_260.1 4 (by decide) (by decide)) (fc_260.1 9 (by decide) (by decide)) (fc_260.1 11 (by decide) (by decide)) (fc_260.1 12 (by decide) (by decide)) (fc_260.1 17 (by decide) (by decide)) (fc_260.1 18 (by decide) (by decide)) (fc_260.2 20 (by decide)) (fc_260.2 21 (by decide)) (fc_260.2 28 (by decide)) (fc_260.2 64 (by decide)) (fc_260.2 65 (by decide)) (fc_260.2 68 (by decide)))
      have hq_262 : (σz_249 2).1 1 = (τz_256 0).1 31 := hq_254.trans (fc_260.2 31 (by decide)).symm
      refine lv_pop hx hb dL_law_737 rfl ?_
      refine lv_goto (tgt := 1850) hx hb dL_law_738 (by decide) ?_
      obtain ⟨x_263, ex_263⟩ : ∃ zz : Int32, zz = (nI (6 * j)) + 6 := ⟨_, rfl⟩
      refine lv_iinc (v := x_263) (lv' := [(4, .int x_263), (3, .ref lo), (2, .ref (am 0)), (1, .ref (ad 0)), (0, .ref b)]) hx hb dL_law_1850 hl (k := 0) rfl (by rw [ex_263]; rfl) (by decide) rfl (fun ls hl => ?_)
      refine lv_goto (tgt := 23) hx hb dL_law_1853 (by decide) ?_
      have hl := lv_sub hl [0, 1, 2, 3, 4] rfl
      rw [ex_263, nI_6] at hl
      exact ih (j + 1) σz_249 τz_256 f _ _ _ _ _ _ (by omega) (by omega) hI_252 hI_259 dp_261 hq_262 (by omega) (by omega) hd0 hPX hDX hPM hDM hPO hDO hS hl
    by_cases c_264 : ((xs (nI (6 * j)).toNatClampNeg) &&& 63) = 13
    · refine lv_tableIn (tgt := 741) hx hb dL_law_40 (by rw [c_264]; decide) (by rw [c_264]; decide) (by rw [c_264]; rfl) (by decide) ?_
      refine lv_aload_n hx hb dL_law_741 rfl (lv_at hl 3 rfl) ?_
      refine lv_aload_n hx hb dL_law_742 rfl (lv_at hl 4 rfl) ?_
      refine lv_iload hx hb dL_law_743 (lv_at hl 0 rfl) ?_
      refine lv_iconst (v := 1) hx hb dL_law_745 (by decide) ?_
      refine lv_iadd hx hb dL_law_746 ?_
      refine va_sld hx hb hX hbl hbA hS (lw_ix (k := 1) hL hin (by decide) (by decide)) dL_law_747 ?_
      refine lv_aload_n hx hb dL_law_748 rfl (lv_at hl 4 rfl) ?_
      refine lv_iload hx hb dL_law_749 (lv_at hl 0 rfl) ?_
      refine lv_iconst (v := 2) hx hb dL_law_751 (by decide) ?_
      refine lv_iadd hx hb dL_law_752 ?_
      refine va_sld hx hb hX hbl hbA hS (lw_ix (k := 2) hL hin (by decide) (by decide)) dL_law_753 ?_
      refine lv_aload_n hx hb dL_law_754 rfl (lv_at hl 4 rfl) ?_
      refine lv_iload hx hb dL_law_755 (lv_at hl 0 rfl) ?_
      refine lv_iconst (v := 3) hx hb dL_law_757 (by decide) ?_
      refine lv_iadd hx hb dL_law_758 ?_
      refine va_sld hx hb hX hbl hbA hS (lw_ix (k := 3) hL hin (by decide) (by decide)) dL_law_759 ?_
      refine lv_if_eq (tgt := 767) hx hb dL_law_760 (by decide) (fun c_265 => ?_) (fun c_265 => ?_)
      · refine lv_iconst (v := 0) hx hb dL_law_767 (by decide) ?_
        have hF := gFree hDX hS hA
        refine va_calllD hd0 (va_runV_D (As := [.int (xs ((nI (6 * j)) + 1).toNatClampNeg), .int (xs ((nI (6 * j)) + 2).toNatClampNeg), .int 0]) (rest := []) ⟨hx, hb, hml, hown, hts⟩ (n_X11_fraction l dC dI ad cA adK adV H.size σ hIX (xs ((nI (6 * j)) + 1).toNatClampNeg) (xs ((nI (6 * j)) + 2).toNatClampNeg) 0 ) (cwV 3 hts gL0_X11_fraction rfl rfl rfl (by decide +kernel) ⟨Nat.le_of_ble_eq_true rfl, Nat.le_of_ble_eq_true rfl⟩) ⟨gBlind, va_recv hKX hPX (ci := 10) (q0 := 0) rfl (at_10 rfl), gStart (As := [.ref (ad 0), .int (xs ((nI (6 * j)) + 1).toNatClampNeg), .int (xs ((nI (6 * j)) + 2).toNatClampNeg), .int 0]) hPX hDX hKX0 hT hS hF (d)⟩ rfl rfl hl.1 rfl (lv_room (Nat.le_of_ble_eq_true rfl)) dL_law_768 ⟨by omega, by omega⟩) hS (fun q _ h => hF q h) hF (fun r_266 σz_267 t H1 locs ht hvm hw hB hz1 hk1 hS d_268 hd0 => ?_)
        have hts := dr_words hts0 (d_268)
        have hKX := gKd hKX0 (d_268)
        have hKM := gKd hKM0 (d_268)
        have hown : (s.setDrawn (d_268)).vm.findClass RL = some m.cls := hown0
        have hX : va_X b L xs (s.setDrawn (d_268)) s.heap := hX0
        obtain ⟨hPX, hDX⟩ := gBack hF ht hB
        obtain ⟨hI_270, fc_271, hp_269⟩ := hw
        have hPM := gOther hPM hk1 (dj_G dj)
        have hPO := gOther hPO hk1 (dj_1 djX)
        generalize H1 = H at hPX hPM hPO hS ⊢
        have hq_272 : (σz_267 2).1 1 = (τ 0).1 31 := by rw [fc_271 2 (by decide)]; exact hEq
        refine lv_pop2_2 hx hb dL_law_771 rfl ?_
        refine lv_aload_n hx hb dL_law_772 rfl (lv_at hl 2 rfl) ?_
        refine lv_aload_n hx hb dL_law_773 rfl (lv_at hl 4 rfl) ?_
        refine lv_iload hx hb dL_law_774 (lv_at hl 0 rfl) ?_
        refine lv_iconst (v := 1) hx hb dL_law_776 (by decide) ?_
        refine lv_iadd hx hb dL_law_777 ?_
        refine va_sld hx hb hX hbl hbA hS (lw_ix (k := 1) hL hin (by decide) (by decide)) dL_law_778 ?_
        refine lv_aload_n hx hb dL_law_779 rfl (lv_at hl 4 rfl) ?_
        refine lv_iload hx hb dL_law_780 (lv_at hl 0 rfl) ?_
        refine lv_iconst (v := 2) hx hb dL_law_782 (by decide) ?_
        refine lv_iadd hx hb dL_law_783 ?_
        refine va_sld hx hb hX hbl hbA hS (lw_ix (k := 2) hL hin (by decide) (by decide)) dL_law_784 ?_
        refine lv_aload_n hx hb dL_law_785 rfl (lv_at hl 4 rfl) ?_
        refine lv_iload hx hb dL_law_786 (lv_at hl 0 rfl) ?_
        refine lv_iconst (v := 3) hx hb dL_law_788 (by decide) ?_
        refine lv_iadd hx hb dL_law_789 ?_
        refine va_sld hx hb hX hbl hbA hS (lw_ix (k := 3) hL hin (by decide) (by decide)) dL_law_790 ?_
        refine lv_if_eq (tgt := 798) hx hb dL_law_791 (by decide) (fun c_273 => ?_) (fun c_273 => ?_)
        · refine lv_iconst (v := 0) hx hb dL_law_798 (by decide) ?_
          have hF := gFree hDM hS hA
          refine va_calllD hd0 (va_runV_D (As := [.int (xs ((nI (6 * j)) + 1).toNatClampNeg), .int (xs ((nI (6 * j)) + 2).toNatClampNeg), .int 0]) (rest := []) ⟨hx, hb, hml, hown, hts⟩ (n_X12_fraction l dC dI am cM adK adV H.size τ hIM (xs ((nI (6 * j)) + 1).toNatClampNeg) (xs ((nI (6 * j)) + 2).toNatClampNeg) 0 hDp) (cwV 3 hts gL0_X12_fraction rfl rfl rfl (by decide +kernel) ⟨Nat.le_of_ble_eq_true rfl, Nat.le_of_ble_eq_true rfl⟩) ⟨gBlind, va_recv hKM hPM (ci := 11) (q0 := 0) rfl (mat_11 rfl), gStart (As := [.ref (am 0), .int (xs ((nI (6 * j)) + 1).toNatClampNeg), .int (xs ((nI (6 * j)) + 2).toNatClampNeg), .int 0]) hPM hDM hKM0 hT hS hF (d_268)⟩ rfl rfl hl.1 rfl (lv_room (Nat.le_of_ble_eq_true rfl)) dL_law_799 ⟨by omega, by omega⟩) hS (fun q _ h => hF q h) hF (fun r_274 τz_275 t H1 locs ht hvm hw hB hz1 hk1 hS d_276 hd0 => ?_)
          have hts := dr_words hts0 (d_276)
          have hKX := gKd hKX0 (d_276)
          have hKM := gKd hKM0 (d_276)
          have hown : (s.setDrawn (d_276)).vm.findClass RL = some m.cls := hown0
          have hX : va_X b L xs (s.setDrawn (d_276)) s.heap := hX0
          obtain ⟨hPM, hDM⟩ := gBack hF ht hB
          obtain ⟨hI_278, fc_279, hp_277⟩ := hw
          have hPX := gOther hPX hk1 (dj_sym (dj_G dj))
          have hPO := gOther hPO hk1 (dj_1 djM)
          generalize H1 = H at hPX hPM hPO hS ⊢
          have dp_280 : Deep τz_275 := (Deep.fr hDp (fc_279.1 2 (by decide) (by decide)) (fc_279.1 4 (by decide) (by decide)) (fc_279.1 9 (by decide) (by decide)) (fc_279.1 11 (by decide) (by decide)) (fc_279.1 12 (by decide) (by decide)) (fc_279.1 17 (by decide) (by decide)) (fc_279.1 18 (by decide) (by decide)) (fc_279.2 20 (by decide)) (fc_279.2 21 (by decide)) (fc_279.2 28 (by decide)) (fc_279.2 64 (by decide)) (fc_279.2 65 (by decide)) (fc_279.2 68 (by decide)))
          have hq_281 : (σz_267 2).1 1 = (τz_275 0).1 31 := hq_272.trans (fc_279.2 31 (by decide)).symm
          refine lv_pop2_2 hx hb dL_law_802 rfl ?_
          refine lv_goto (tgt := 1850) hx hb dL_law_803 (by decide) ?_
          obtain ⟨x_282, ex_282⟩ : ∃ zz : Int32, zz = (nI (6 * j)) + 6 := ⟨_, rfl⟩
          refine lv_iinc (v := x_282) (lv' := [(4, .int x_282), (3, .ref lo), (2, .ref (am 0)), (1, .ref (ad 0)), (0, .ref b)]) hx hb dL_law_1850 hl (k := 0) rfl (by rw [ex_282]; rfl) (by decide) rfl (fun ls hl => ?_)
          refine lv_goto (tgt := 23) hx hb dL_law_1853 (by decide) ?_
          have hl := lv_sub hl [0, 1, 2, 3, 4] rfl
          rw [ex_282, nI_6] at hl
          exact ih (j + 1) σz_267 τz_275 f _ _ _ _ _ _ (by omega) (by omega) hI_270 hI_278 dp_280 hq_281 (by omega) (by omega) hd0 hPX hDX hPM hDM hPO hDO hS hl
        · exact absurd c_265 c_273
      · refine lv_iconst (v := 1) hx hb dL_law_763 (by decide) ?_
        refine lv_goto (tgt := 768) hx hb dL_law_764 (by decide) ?_
        have hF := gFree hDX hS hA
        refine va_calllD hd0 (va_runV_D (As := [.int (xs ((nI (6 * j)) + 1).toNatClampNeg), .int (xs ((nI (6 * j)) + 2).toNatClampNeg), .int 1]) (rest := []) ⟨hx, hb, hml, hown, hts⟩ (n_X11_fraction l dC dI ad cA adK adV H.size σ hIX (xs ((nI (6 * j)) + 1).toNatClampNeg) (xs ((nI (6 * j)) + 2).toNatClampNeg) 1 ) (cwV 3 hts gL0_X11_fraction rfl rfl rfl (by decide +kernel) ⟨Nat.le_of_ble_eq_true rfl, Nat.le_of_ble_eq_true rfl⟩) ⟨gBlind, va_recv hKX hPX (ci := 10) (q0 := 0) rfl (at_10 rfl), gStart (As := [.ref (ad 0), .int (xs ((nI (6 * j)) + 1).toNatClampNeg), .int (xs ((nI (6 * j)) + 2).toNatClampNeg), .int 1]) hPX hDX hKX0 hT hS hF (d)⟩ rfl rfl hl.1 rfl (lv_room (Nat.le_of_ble_eq_true rfl)) dL_law_768 ⟨by omega, by omega⟩) hS (fun q _ h => hF q h) hF (fun r_283 σz_284 t H1 locs ht hvm hw hB hz1 hk1 hS d_285 hd0 => ?_)
        have hts := dr_words hts0 (d_285)
        have hKX := gKd hKX0 (d_285)
        have hKM := gKd hKM0 (d_285)
        have hown : (s.setDrawn (d_285)).vm.findClass RL = some m.cls := hown0
        have hX : va_X b L xs (s.setDrawn (d_285)) s.heap := hX0
        obtain ⟨hPX, hDX⟩ := gBack hF ht hB
        obtain ⟨hI_287, fc_288, hp_286⟩ := hw
        have hPM := gOther hPM hk1 (dj_G dj)
        have hPO := gOther hPO hk1 (dj_1 djX)
        generalize H1 = H at hPX hPM hPO hS ⊢
        have hq_289 : (σz_284 2).1 1 = (τ 0).1 31 := by rw [fc_288 2 (by decide)]; exact hEq
        refine lv_pop2_2 hx hb dL_law_771 rfl ?_
        refine lv_aload_n hx hb dL_law_772 rfl (lv_at hl 2 rfl) ?_
        refine lv_aload_n hx hb dL_law_773 rfl (lv_at hl 4 rfl) ?_
        refine lv_iload hx hb dL_law_774 (lv_at hl 0 rfl) ?_
        refine lv_iconst (v := 1) hx hb dL_law_776 (by decide) ?_
        refine lv_iadd hx hb dL_law_777 ?_
        refine va_sld hx hb hX hbl hbA hS (lw_ix (k := 1) hL hin (by decide) (by decide)) dL_law_778 ?_
        refine lv_aload_n hx hb dL_law_779 rfl (lv_at hl 4 rfl) ?_
        refine lv_iload hx hb dL_law_780 (lv_at hl 0 rfl) ?_
        refine lv_iconst (v := 2) hx hb dL_law_782 (by decide) ?_
        refine lv_iadd hx hb dL_law_783 ?_
        refine va_sld hx hb hX hbl hbA hS (lw_ix (k := 2) hL hin (by decide) (by decide)) dL_law_784 ?_
        refine lv_aload_n hx hb dL_law_785 rfl (lv_at hl 4 rfl) ?_
        refine lv_iload hx hb dL_law_786 (lv_at hl 0 rfl) ?_
        refine lv_iconst (v := 3) hx hb dL_law_788 (by decide) ?_
        refine lv_iadd hx hb dL_law_789 ?_
        refine va_sld hx hb hX hbl hbA hS (lw_ix (k := 3) hL hin (by decide) (by decide)) dL_law_790 ?_
        refine lv_if_eq (tgt := 798) hx hb dL_law_791 (by decide) (fun c_290 => ?_) (fun c_290 => ?_)
        · exact absurd c_290 c_265
        · refine lv_iconst (v := 1) hx hb dL_law_794 (by decide) ?_
          refine lv_goto (tgt := 799) hx hb dL_law_795 (by decide) ?_
          have hF := gFree hDM hS hA
          refine va_calllD hd0 (va_runV_D (As := [.int (xs ((nI (6 * j)) + 1).toNatClampNeg), .int (xs ((nI (6 * j)) + 2).toNatClampNeg), .int 1]) (rest := []) ⟨hx, hb, hml, hown, hts⟩ (n_X12_fraction l dC dI am cM adK adV H.size τ hIM (xs ((nI (6 * j)) + 1).toNatClampNeg) (xs ((nI (6 * j)) + 2).toNatClampNeg) 1 hDp) (cwV 3 hts gL0_X12_fraction rfl rfl rfl (by decide +kernel) ⟨Nat.le_of_ble_eq_true rfl, Nat.le_of_ble_eq_true rfl⟩) ⟨gBlind, va_recv hKM hPM (ci := 11) (q0 := 0) rfl (mat_11 rfl), gStart (As := [.ref (am 0), .int (xs ((nI (6 * j)) + 1).toNatClampNeg), .int (xs ((nI (6 * j)) + 2).toNatClampNeg), .int 1]) hPM hDM hKM0 hT hS hF (d_285)⟩ rfl rfl hl.1 rfl (lv_room (Nat.le_of_ble_eq_true rfl)) dL_law_799 ⟨by omega, by omega⟩) hS (fun q _ h => hF q h) hF (fun r_291 τz_292 t H1 locs ht hvm hw hB hz1 hk1 hS d_293 hd0 => ?_)
          have hts := dr_words hts0 (d_293)
          have hKX := gKd hKX0 (d_293)
          have hKM := gKd hKM0 (d_293)
          have hown : (s.setDrawn (d_293)).vm.findClass RL = some m.cls := hown0
          have hX : va_X b L xs (s.setDrawn (d_293)) s.heap := hX0
          obtain ⟨hPM, hDM⟩ := gBack hF ht hB
          obtain ⟨hI_295, fc_296, hp_294⟩ := hw
          have hPX := gOther hPX hk1 (dj_sym (dj_G dj))
          have hPO := gOther hPO hk1 (dj_1 djM)
          generalize H1 = H at hPX hPM hPO hS ⊢
          have dp_297 : Deep τz_292 := (Deep.fr hDp (fc_296.1 2 (by decide) (by decide)) (fc_296.1 4 (by decide) (by decide)) (fc_296.1 9 (by decide) (by decide)) (fc_296.1 11 (by decide) (by decide)) (fc_296.1 12 (by decide) (by decide)) (fc_296.1 17 (by decide) (by decide)) (fc_296.1 18 (by decide) (by decide)) (fc_296.2 20 (by decide)) (fc_296.2 21 (by decide)) (fc_296.2 28 (by decide)) (fc_296.2 64 (by decide)) (fc_296.2 65 (by decide)) (fc_296.2 68 (by decide)))
          have hq_298 : (σz_284 2).1 1 = (τz_292 0).1 31 := hq_289.trans (fc_296.2 31 (by decide)).symm
          refine lv_pop2_2 hx hb dL_law_802 rfl ?_
          refine lv_goto (tgt := 1850) hx hb dL_law_803 (by decide) ?_
          obtain ⟨x_299, ex_299⟩ : ∃ zz : Int32, zz = (nI (6 * j)) + 6 := ⟨_, rfl⟩
          refine lv_iinc (v := x_299) (lv' := [(4, .int x_299), (3, .ref lo), (2, .ref (am 0)), (1, .ref (ad 0)), (0, .ref b)]) hx hb dL_law_1850 hl (k := 0) rfl (by rw [ex_299]; rfl) (by decide) rfl (fun ls hl => ?_)
          refine lv_goto (tgt := 23) hx hb dL_law_1853 (by decide) ?_
          have hl := lv_sub hl [0, 1, 2, 3, 4] rfl
          rw [ex_299, nI_6] at hl
          exact ih (j + 1) σz_284 τz_292 f _ _ _ _ _ _ (by omega) (by omega) hI_287 hI_295 dp_297 hq_298 (by omega) (by omega) hd0 hPX hDX hPM hDM hPO hDO hS hl
    by_cases c_300 : ((xs (nI (6 * j)).toNatClampNeg) &&& 63) = 14
    · refine lv_tableIn (tgt := 806) hx hb dL_law_40 (by rw [c_300]; decide) (by rw [c_300]; decide) (by rw [c_300]; rfl) (by decide) ?_
      refine lv_aload_n hx hb dL_law_806 rfl (lv_at hl 3 rfl) ?_
      refine lv_aload_n hx hb dL_law_807 rfl (lv_at hl 4 rfl) ?_
      refine lv_iload hx hb dL_law_808 (lv_at hl 0 rfl) ?_
      refine lv_iconst (v := 1) hx hb dL_law_810 (by decide) ?_
      refine lv_iadd hx hb dL_law_811 ?_
      refine va_sld hx hb hX hbl hbA hS (lw_ix (k := 1) hL hin (by decide) (by decide)) dL_law_812 ?_
      refine lv_aload_n hx hb dL_law_813 rfl (lv_at hl 4 rfl) ?_
      refine lv_iload hx hb dL_law_814 (lv_at hl 0 rfl) ?_
      refine lv_iconst (v := 2) hx hb dL_law_816 (by decide) ?_
      refine lv_iadd hx hb dL_law_817 ?_
      refine va_sld hx hb hX hbl hbA hS (lw_ix (k := 2) hL hin (by decide) (by decide)) dL_law_818 ?_
      refine lv_aload_n hx hb dL_law_819 rfl (lv_at hl 4 rfl) ?_
      refine lv_iload hx hb dL_law_820 (lv_at hl 0 rfl) ?_
      refine lv_iconst (v := 3) hx hb dL_law_822 (by decide) ?_
      refine lv_iadd hx hb dL_law_823 ?_
      refine va_sld hx hb hX hbl hbA hS (lw_ix (k := 3) hL hin (by decide) (by decide)) dL_law_824 ?_
      refine lv_if_eq (tgt := 832) hx hb dL_law_825 (by decide) (fun c_301 => ?_) (fun c_301 => ?_)
      · refine lv_iconst (v := 0) hx hb dL_law_832 (by decide) ?_
        have hF := gFree hDX hS hA
        refine va_calllD hd0 (va_runV_D (As := [.int (xs ((nI (6 * j)) + 1).toNatClampNeg), .int (xs ((nI (6 * j)) + 2).toNatClampNeg), .int 0]) (rest := []) ⟨hx, hb, hml, hown, hts⟩ (n_X11_coupon l dC dI ad cA adK adV H.size σ hIX (xs ((nI (6 * j)) + 1).toNatClampNeg) (xs ((nI (6 * j)) + 2).toNatClampNeg) 0 ) (cwV 3 hts gL0_X11_coupon rfl rfl rfl (by decide +kernel) ⟨Nat.le_of_ble_eq_true rfl, Nat.le_of_ble_eq_true rfl⟩) ⟨gBlind, va_recv hKX hPX (ci := 10) (q0 := 0) rfl (at_10 rfl), gStart (As := [.ref (ad 0), .int (xs ((nI (6 * j)) + 1).toNatClampNeg), .int (xs ((nI (6 * j)) + 2).toNatClampNeg), .int 0]) hPX hDX hKX0 hT hS hF (d)⟩ rfl rfl hl.1 rfl (lv_room (Nat.le_of_ble_eq_true rfl)) dL_law_833 ⟨by omega, by omega⟩) hS (fun q _ h => hF q h) hF (fun r_302 σz_303 t H1 locs ht hvm hw hB hz1 hk1 hS d_304 hd0 => ?_)
        have hts := dr_words hts0 (d_304)
        have hKX := gKd hKX0 (d_304)
        have hKM := gKd hKM0 (d_304)
        have hown : (s.setDrawn (d_304)).vm.findClass RL = some m.cls := hown0
        have hX : va_X b L xs (s.setDrawn (d_304)) s.heap := hX0
        obtain ⟨hPX, hDX⟩ := gBack hF ht hB
        obtain ⟨hI_306, fc_307, hp_305⟩ := hw
        have hPM := gOther hPM hk1 (dj_G dj)
        have hPO := gOther hPO hk1 (dj_1 djX)
        generalize H1 = H at hPX hPM hPO hS ⊢
        have hq_308 : (σz_303 2).1 1 = (τ 0).1 31 := by rw [fc_307 2 (by decide)]; exact hEq
        refine lv_pop2_2 hx hb dL_law_836 rfl ?_
        refine lv_aload_n hx hb dL_law_837 rfl (lv_at hl 2 rfl) ?_
        refine lv_aload_n hx hb dL_law_838 rfl (lv_at hl 4 rfl) ?_
        refine lv_iload hx hb dL_law_839 (lv_at hl 0 rfl) ?_
        refine lv_iconst (v := 1) hx hb dL_law_841 (by decide) ?_
        refine lv_iadd hx hb dL_law_842 ?_
        refine va_sld hx hb hX hbl hbA hS (lw_ix (k := 1) hL hin (by decide) (by decide)) dL_law_843 ?_
        refine lv_aload_n hx hb dL_law_844 rfl (lv_at hl 4 rfl) ?_
        refine lv_iload hx hb dL_law_845 (lv_at hl 0 rfl) ?_
        refine lv_iconst (v := 2) hx hb dL_law_847 (by decide) ?_
        refine lv_iadd hx hb dL_law_848 ?_
        refine va_sld hx hb hX hbl hbA hS (lw_ix (k := 2) hL hin (by decide) (by decide)) dL_law_849 ?_
        refine lv_aload_n hx hb dL_law_850 rfl (lv_at hl 4 rfl) ?_
        refine lv_iload hx hb dL_law_851 (lv_at hl 0 rfl) ?_
        refine lv_iconst (v := 3) hx hb dL_law_853 (by decide) ?_
        refine lv_iadd hx hb dL_law_854 ?_
        refine va_sld hx hb hX hbl hbA hS (lw_ix (k := 3) hL hin (by decide) (by decide)) dL_law_855 ?_
        refine lv_if_eq (tgt := 863) hx hb dL_law_856 (by decide) (fun c_309 => ?_) (fun c_309 => ?_)
        · refine lv_iconst (v := 0) hx hb dL_law_863 (by decide) ?_
          have hF := gFree hDM hS hA
          refine va_calllD hd0 (va_runV_D (As := [.int (xs ((nI (6 * j)) + 1).toNatClampNeg), .int (xs ((nI (6 * j)) + 2).toNatClampNeg), .int 0]) (rest := []) ⟨hx, hb, hml, hown, hts⟩ (n_X12_coupon l dC dI am cM adK adV H.size τ hIM (xs ((nI (6 * j)) + 1).toNatClampNeg) (xs ((nI (6 * j)) + 2).toNatClampNeg) 0 hDp) (cwV 3 hts gL0_X12_coupon rfl rfl rfl (by decide +kernel) ⟨Nat.le_of_ble_eq_true rfl, Nat.le_of_ble_eq_true rfl⟩) ⟨gBlind, va_recv hKM hPM (ci := 11) (q0 := 0) rfl (mat_11 rfl), gStart (As := [.ref (am 0), .int (xs ((nI (6 * j)) + 1).toNatClampNeg), .int (xs ((nI (6 * j)) + 2).toNatClampNeg), .int 0]) hPM hDM hKM0 hT hS hF (d_304)⟩ rfl rfl hl.1 rfl (lv_room (Nat.le_of_ble_eq_true rfl)) dL_law_864 ⟨by omega, by omega⟩) hS (fun q _ h => hF q h) hF (fun r_310 τz_311 t H1 locs ht hvm hw hB hz1 hk1 hS d_312 hd0 => ?_)
          have hts := dr_words hts0 (d_312)
          have hKX := gKd hKX0 (d_312)
          have hKM := gKd hKM0 (d_312)
          have hown : (s.setDrawn (d_312)).vm.findClass RL = some m.cls := hown0
          have hX : va_X b L xs (s.setDrawn (d_312)) s.heap := hX0
          obtain ⟨hPM, hDM⟩ := gBack hF ht hB
          obtain ⟨hI_314, fc_315, hp_313⟩ := hw
          have hPX := gOther hPX hk1 (dj_sym (dj_G dj))
          have hPO := gOther hPO hk1 (dj_1 djM)
          generalize H1 = H at hPX hPM hPO hS ⊢
          have dp_316 : Deep τz_311 := (Deep.fr hDp (fc_315.1 2 (by decide) (by decide)) (fc_315.1 4 (by decide) (by decide)) (fc_315.1 9 (by decide) (by decide)) (fc_315.1 11 (by decide) (by decide)) (fc_315.1 12 (by decide) (by decide)) (fc_315.1 17 (by decide) (by decide)) (fc_315.1 18 (by decide) (by decide)) (fc_315.2 20 (by decide)) (fc_315.2 21 (by decide)) (fc_315.2 28 (by decide)) (fc_315.2 64 (by decide)) (fc_315.2 65 (by decide)) (fc_315.2 68 (by decide)))
          have hq_317 : (σz_303 2).1 1 = (τz_311 0).1 31 := hq_308.trans (fc_315.2 31 (by decide)).symm
          refine lv_pop2_2 hx hb dL_law_867 rfl ?_
          refine lv_goto (tgt := 1850) hx hb dL_law_868 (by decide) ?_
          obtain ⟨x_318, ex_318⟩ : ∃ zz : Int32, zz = (nI (6 * j)) + 6 := ⟨_, rfl⟩
          refine lv_iinc (v := x_318) (lv' := [(4, .int x_318), (3, .ref lo), (2, .ref (am 0)), (1, .ref (ad 0)), (0, .ref b)]) hx hb dL_law_1850 hl (k := 0) rfl (by rw [ex_318]; rfl) (by decide) rfl (fun ls hl => ?_)
          refine lv_goto (tgt := 23) hx hb dL_law_1853 (by decide) ?_
          have hl := lv_sub hl [0, 1, 2, 3, 4] rfl
          rw [ex_318, nI_6] at hl
          exact ih (j + 1) σz_303 τz_311 f _ _ _ _ _ _ (by omega) (by omega) hI_306 hI_314 dp_316 hq_317 (by omega) (by omega) hd0 hPX hDX hPM hDM hPO hDO hS hl
        · exact absurd c_301 c_309
      · refine lv_iconst (v := 1) hx hb dL_law_828 (by decide) ?_
        refine lv_goto (tgt := 833) hx hb dL_law_829 (by decide) ?_
        have hF := gFree hDX hS hA
        refine va_calllD hd0 (va_runV_D (As := [.int (xs ((nI (6 * j)) + 1).toNatClampNeg), .int (xs ((nI (6 * j)) + 2).toNatClampNeg), .int 1]) (rest := []) ⟨hx, hb, hml, hown, hts⟩ (n_X11_coupon l dC dI ad cA adK adV H.size σ hIX (xs ((nI (6 * j)) + 1).toNatClampNeg) (xs ((nI (6 * j)) + 2).toNatClampNeg) 1 ) (cwV 3 hts gL0_X11_coupon rfl rfl rfl (by decide +kernel) ⟨Nat.le_of_ble_eq_true rfl, Nat.le_of_ble_eq_true rfl⟩) ⟨gBlind, va_recv hKX hPX (ci := 10) (q0 := 0) rfl (at_10 rfl), gStart (As := [.ref (ad 0), .int (xs ((nI (6 * j)) + 1).toNatClampNeg), .int (xs ((nI (6 * j)) + 2).toNatClampNeg), .int 1]) hPX hDX hKX0 hT hS hF (d)⟩ rfl rfl hl.1 rfl (lv_room (Nat.le_of_ble_eq_true rfl)) dL_law_833 ⟨by omega, by omega⟩) hS (fun q _ h => hF q h) hF (fun r_319 σz_320 t H1 locs ht hvm hw hB hz1 hk1 hS d_321 hd0 => ?_)
        have hts := dr_words hts0 (d_321)
        have hKX := gKd hKX0 (d_321)
        have hKM := gKd hKM0 (d_321)
        have hown : (s.setDrawn (d_321)).vm.findClass RL = some m.cls := hown0
        have hX : va_X b L xs (s.setDrawn (d_321)) s.heap := hX0
        obtain ⟨hPX, hDX⟩ := gBack hF ht hB
        obtain ⟨hI_323, fc_324, hp_322⟩ := hw
        have hPM := gOther hPM hk1 (dj_G dj)
        have hPO := gOther hPO hk1 (dj_1 djX)
        generalize H1 = H at hPX hPM hPO hS ⊢
        have hq_325 : (σz_320 2).1 1 = (τ 0).1 31 := by rw [fc_324 2 (by decide)]; exact hEq
        refine lv_pop2_2 hx hb dL_law_836 rfl ?_
        refine lv_aload_n hx hb dL_law_837 rfl (lv_at hl 2 rfl) ?_
        refine lv_aload_n hx hb dL_law_838 rfl (lv_at hl 4 rfl) ?_
        refine lv_iload hx hb dL_law_839 (lv_at hl 0 rfl) ?_
        refine lv_iconst (v := 1) hx hb dL_law_841 (by decide) ?_
        refine lv_iadd hx hb dL_law_842 ?_
        refine va_sld hx hb hX hbl hbA hS (lw_ix (k := 1) hL hin (by decide) (by decide)) dL_law_843 ?_
        refine lv_aload_n hx hb dL_law_844 rfl (lv_at hl 4 rfl) ?_
        refine lv_iload hx hb dL_law_845 (lv_at hl 0 rfl) ?_
        refine lv_iconst (v := 2) hx hb dL_law_847 (by decide) ?_
        refine lv_iadd hx hb dL_law_848 ?_
        refine va_sld hx hb hX hbl hbA hS (lw_ix (k := 2) hL hin (by decide) (by decide)) dL_law_849 ?_
        refine lv_aload_n hx hb dL_law_850 rfl (lv_at hl 4 rfl) ?_
        refine lv_iload hx hb dL_law_851 (lv_at hl 0 rfl) ?_
        refine lv_iconst (v := 3) hx hb dL_law_853 (by decide) ?_
        refine lv_iadd hx hb dL_law_854 ?_
        refine va_sld hx hb hX hbl hbA hS (lw_ix (k := 3) hL hin (by decide) (by decide)) dL_law_855 ?_
        refine lv_if_eq (tgt := 863) hx hb dL_law_856 (by decide) (fun c_326 => ?_) (fun c_326 => ?_)
        · exact absurd c_326 c_301
        · refine lv_iconst (v := 1) hx hb dL_law_859 (by decide) ?_
          refine lv_goto (tgt := 864) hx hb dL_law_860 (by decide) ?_
          have hF := gFree hDM hS hA
          refine va_calllD hd0 (va_runV_D (As := [.int (xs ((nI (6 * j)) + 1).toNatClampNeg), .int (xs ((nI (6 * j)) + 2).toNatClampNeg), .int 1]) (rest := []) ⟨hx, hb, hml, hown, hts⟩ (n_X12_coupon l dC dI am cM adK adV H.size τ hIM (xs ((nI (6 * j)) + 1).toNatClampNeg) (xs ((nI (6 * j)) + 2).toNatClampNeg) 1 hDp) (cwV 3 hts gL0_X12_coupon rfl rfl rfl (by decide +kernel) ⟨Nat.le_of_ble_eq_true rfl, Nat.le_of_ble_eq_true rfl⟩) ⟨gBlind, va_recv hKM hPM (ci := 11) (q0 := 0) rfl (mat_11 rfl), gStart (As := [.ref (am 0), .int (xs ((nI (6 * j)) + 1).toNatClampNeg), .int (xs ((nI (6 * j)) + 2).toNatClampNeg), .int 1]) hPM hDM hKM0 hT hS hF (d_321)⟩ rfl rfl hl.1 rfl (lv_room (Nat.le_of_ble_eq_true rfl)) dL_law_864 ⟨by omega, by omega⟩) hS (fun q _ h => hF q h) hF (fun r_327 τz_328 t H1 locs ht hvm hw hB hz1 hk1 hS d_329 hd0 => ?_)
          have hts := dr_words hts0 (d_329)
          have hKX := gKd hKX0 (d_329)
          have hKM := gKd hKM0 (d_329)
          have hown : (s.setDrawn (d_329)).vm.findClass RL = some m.cls := hown0
          have hX : va_X b L xs (s.setDrawn (d_329)) s.heap := hX0
          obtain ⟨hPM, hDM⟩ := gBack hF ht hB
          obtain ⟨hI_331, fc_332, hp_330⟩ := hw
          have hPX := gOther hPX hk1 (dj_sym (dj_G dj))
          have hPO := gOther hPO hk1 (dj_1 djM)
          generalize H1 = H at hPX hPM hPO hS ⊢
          have dp_333 : Deep τz_328 := (Deep.fr hDp (fc_332.1 2 (by decide) (by decide)) (fc_332.1 4 (by decide) (by decide)) (fc_332.1 9 (by decide) (by decide)) (fc_332.1 11 (by decide) (by decide)) (fc_332.1 12 (by decide) (by decide)) (fc_332.1 17 (by decide) (by decide)) (fc_332.1 18 (by decide) (by decide)) (fc_332.2 20 (by decide)) (fc_332.2 21 (by decide)) (fc_332.2 28 (by decide)) (fc_332.2 64 (by decide)) (fc_332.2 65 (by decide)) (fc_332.2 68 (by decide)))
          have hq_334 : (σz_320 2).1 1 = (τz_328 0).1 31 := hq_325.trans (fc_332.2 31 (by decide)).symm
          refine lv_pop2_2 hx hb dL_law_867 rfl ?_
          refine lv_goto (tgt := 1850) hx hb dL_law_868 (by decide) ?_
          obtain ⟨x_335, ex_335⟩ : ∃ zz : Int32, zz = (nI (6 * j)) + 6 := ⟨_, rfl⟩
          refine lv_iinc (v := x_335) (lv' := [(4, .int x_335), (3, .ref lo), (2, .ref (am 0)), (1, .ref (ad 0)), (0, .ref b)]) hx hb dL_law_1850 hl (k := 0) rfl (by rw [ex_335]; rfl) (by decide) rfl (fun ls hl => ?_)
          refine lv_goto (tgt := 23) hx hb dL_law_1853 (by decide) ?_
          have hl := lv_sub hl [0, 1, 2, 3, 4] rfl
          rw [ex_335, nI_6] at hl
          exact ih (j + 1) σz_320 τz_328 f _ _ _ _ _ _ (by omega) (by omega) hI_323 hI_331 dp_333 hq_334 (by omega) (by omega) hd0 hPX hDX hPM hDM hPO hDO hS hl
    by_cases c_336 : ((xs (nI (6 * j)).toNatClampNeg) &&& 63) = 15
    · refine lv_tableIn (tgt := 871) hx hb dL_law_40 (by rw [c_336]; decide) (by rw [c_336]; decide) (by rw [c_336]; rfl) (by decide) ?_
      refine lv_aload_n hx hb dL_law_871 rfl (lv_at hl 3 rfl) ?_
      refine lv_aload_n hx hb dL_law_872 rfl (lv_at hl 4 rfl) ?_
      refine lv_iload hx hb dL_law_873 (lv_at hl 0 rfl) ?_
      refine lv_iconst (v := 1) hx hb dL_law_875 (by decide) ?_
      refine lv_iadd hx hb dL_law_876 ?_
      refine va_sld hx hb hX hbl hbA hS (lw_ix (k := 1) hL hin (by decide) (by decide)) dL_law_877 ?_
      refine lv_aload_n hx hb dL_law_878 rfl (lv_at hl 4 rfl) ?_
      refine lv_iload hx hb dL_law_879 (lv_at hl 0 rfl) ?_
      refine lv_iconst (v := 2) hx hb dL_law_881 (by decide) ?_
      refine lv_iadd hx hb dL_law_882 ?_
      refine va_sld hx hb hX hbl hbA hS (lw_ix (k := 2) hL hin (by decide) (by decide)) dL_law_883 ?_
      have hF := gFree hDX hS hA
      refine va_calliD hd0 (va_runV_D (As := [.int (xs ((nI (6 * j)) + 1).toNatClampNeg), .int (xs ((nI (6 * j)) + 2).toNatClampNeg)]) (rest := []) ⟨hx, hb, hml, hown, hts⟩ (n_X11_line l dC dI ad cA adK adV H.size σ hIX (xs ((nI (6 * j)) + 1).toNatClampNeg) (xs ((nI (6 * j)) + 2).toNatClampNeg) ) (cwV 2 hts gL0_X11_line rfl rfl rfl (by decide +kernel) ⟨Nat.le_of_ble_eq_true rfl, Nat.le_of_ble_eq_true rfl⟩) ⟨gBlind, va_recv hKX hPX (ci := 10) (q0 := 0) rfl (at_10 rfl), gStart (As := [.ref (ad 0), .int (xs ((nI (6 * j)) + 1).toNatClampNeg), .int (xs ((nI (6 * j)) + 2).toNatClampNeg)]) hPX hDX hKX0 hT hS hF (d)⟩ rfl rfl hl.1 rfl (lv_room (Nat.le_of_ble_eq_true rfl)) dL_law_884 ⟨by omega, by omega⟩) hS (fun q _ h => hF q h) hF (fun r_337 σz_338 t H1 locs ht hvm hw hB hz1 hk1 hS d_339 hd0 => ?_)
      have hts := dr_words hts0 (d_339)
      have hKX := gKd hKX0 (d_339)
      have hKM := gKd hKM0 (d_339)
      have hown : (s.setDrawn (d_339)).vm.findClass RL = some m.cls := hown0
      have hX : va_X b L xs (s.setDrawn (d_339)) s.heap := hX0
      obtain ⟨hPX, hDX⟩ := gBack hF ht hB
      obtain ⟨hI_341, fc_342, hp_340⟩ := hw
      have hPM := gOther hPM hk1 (dj_G dj)
      have hPO := gOther hPO hk1 (dj_1 djX)
      generalize H1 = H at hPX hPM hPO hS ⊢
      have hq_343 : (σz_338 2).1 1 = (τ 0).1 31 := by rw [fc_342 2 (by decide)]; exact hEq
      refine lv_pop hx hb dL_law_887 rfl ?_
      refine lv_aload_n hx hb dL_law_888 rfl (lv_at hl 2 rfl) ?_
      refine lv_aload_n hx hb dL_law_889 rfl (lv_at hl 4 rfl) ?_
      refine lv_iload hx hb dL_law_890 (lv_at hl 0 rfl) ?_
      refine lv_iconst (v := 1) hx hb dL_law_892 (by decide) ?_
      refine lv_iadd hx hb dL_law_893 ?_
      refine va_sld hx hb hX hbl hbA hS (lw_ix (k := 1) hL hin (by decide) (by decide)) dL_law_894 ?_
      refine lv_aload_n hx hb dL_law_895 rfl (lv_at hl 4 rfl) ?_
      refine lv_iload hx hb dL_law_896 (lv_at hl 0 rfl) ?_
      refine lv_iconst (v := 2) hx hb dL_law_898 (by decide) ?_
      refine lv_iadd hx hb dL_law_899 ?_
      refine va_sld hx hb hX hbl hbA hS (lw_ix (k := 2) hL hin (by decide) (by decide)) dL_law_900 ?_
      have hF := gFree hDM hS hA
      refine va_calliD hd0 (va_runV_D (As := [.int (xs ((nI (6 * j)) + 1).toNatClampNeg), .int (xs ((nI (6 * j)) + 2).toNatClampNeg)]) (rest := []) ⟨hx, hb, hml, hown, hts⟩ (n_X12_line l dC dI am cM adK adV H.size τ hIM (xs ((nI (6 * j)) + 1).toNatClampNeg) (xs ((nI (6 * j)) + 2).toNatClampNeg) hDp) (cwV 2 hts gL0_X12_line rfl rfl rfl (by decide +kernel) ⟨Nat.le_of_ble_eq_true rfl, Nat.le_of_ble_eq_true rfl⟩) ⟨gBlind, va_recv hKM hPM (ci := 11) (q0 := 0) rfl (mat_11 rfl), gStart (As := [.ref (am 0), .int (xs ((nI (6 * j)) + 1).toNatClampNeg), .int (xs ((nI (6 * j)) + 2).toNatClampNeg)]) hPM hDM hKM0 hT hS hF (d_339)⟩ rfl rfl hl.1 rfl (lv_room (Nat.le_of_ble_eq_true rfl)) dL_law_901 ⟨by omega, by omega⟩) hS (fun q _ h => hF q h) hF (fun r_344 τz_345 t H1 locs ht hvm hw hB hz1 hk1 hS d_346 hd0 => ?_)
      have hts := dr_words hts0 (d_346)
      have hKX := gKd hKX0 (d_346)
      have hKM := gKd hKM0 (d_346)
      have hown : (s.setDrawn (d_346)).vm.findClass RL = some m.cls := hown0
      have hX : va_X b L xs (s.setDrawn (d_346)) s.heap := hX0
      obtain ⟨hPM, hDM⟩ := gBack hF ht hB
      obtain ⟨hI_348, fc_349, hp_347⟩ := hw
      have hPX := gOther hPX hk1 (dj_sym (dj_G dj))
      have hPO := gOther hPO hk1 (dj_1 djM)
      generalize H1 = H at hPX hPM hPO hS ⊢
      have dp_350 : Deep τz_345 := (Deep.fr hDp (fc_349.1 2 (by decide) (by decide)) (fc_349.1 4 (by decide) (by decide)) (fc_349.1 9 (by decide) (by decide)) (fc_349.1 11 (by decide) (by decide)) (fc_349.1 12 (by decide) (by decide)) (fc_349.1 17 (by decide) (by decide)) (fc_349.1 18 (by decide) (by decide)) (fc_349.2 20 (by decide)) (fc_349.2 21 (by decide)) (fc_349.2 28 (by decide)) (fc_349.2 64 (by decide)) (fc_349.2 65 (by decide)) (fc_349.2 68 (by decide)))
      have hq_351 : (σz_338 2).1 1 = (τz_345 0).1 31 := hq_343.trans (fc_349.2 31 (by decide)).symm
      refine lv_pop hx hb dL_law_904 rfl ?_
      refine lv_goto (tgt := 1850) hx hb dL_law_905 (by decide) ?_
      obtain ⟨x_352, ex_352⟩ : ∃ zz : Int32, zz = (nI (6 * j)) + 6 := ⟨_, rfl⟩
      refine lv_iinc (v := x_352) (lv' := [(4, .int x_352), (3, .ref lo), (2, .ref (am 0)), (1, .ref (ad 0)), (0, .ref b)]) hx hb dL_law_1850 hl (k := 0) rfl (by rw [ex_352]; rfl) (by decide) rfl (fun ls hl => ?_)
      refine lv_goto (tgt := 23) hx hb dL_law_1853 (by decide) ?_
      have hl := lv_sub hl [0, 1, 2, 3, 4] rfl
      rw [ex_352, nI_6] at hl
      exact ih (j + 1) σz_338 τz_345 f _ _ _ _ _ _ (by omega) (by omega) hI_341 hI_348 dp_350 hq_351 (by omega) (by omega) hd0 hPX hDX hPM hDM hPO hDO hS hl
    by_cases c_353 : ((xs (nI (6 * j)).toNatClampNeg) &&& 63) = 16
    · refine lv_tableIn (tgt := 908) hx hb dL_law_40 (by rw [c_353]; decide) (by rw [c_353]; decide) (by rw [c_353]; rfl) (by decide) ?_
      refine lv_aload_n hx hb dL_law_908 rfl (lv_at hl 3 rfl) ?_
      refine lv_aload_n hx hb dL_law_909 rfl (lv_at hl 4 rfl) ?_
      refine lv_iload hx hb dL_law_910 (lv_at hl 0 rfl) ?_
      refine lv_iconst (v := 1) hx hb dL_law_912 (by decide) ?_
      refine lv_iadd hx hb dL_law_913 ?_
      refine va_sld hx hb hX hbl hbA hS (lw_ix (k := 1) hL hin (by decide) (by decide)) dL_law_914 ?_
      refine lv_aload_n hx hb dL_law_915 rfl (lv_at hl 4 rfl) ?_
      refine lv_iload hx hb dL_law_916 (lv_at hl 0 rfl) ?_
      refine lv_iconst (v := 2) hx hb dL_law_918 (by decide) ?_
      refine lv_iadd hx hb dL_law_919 ?_
      refine va_sld hx hb hX hbl hbA hS (lw_ix (k := 2) hL hin (by decide) (by decide)) dL_law_920 ?_
      refine lv_aload_n hx hb dL_law_921 rfl (lv_at hl 4 rfl) ?_
      refine lv_iload hx hb dL_law_922 (lv_at hl 0 rfl) ?_
      refine lv_iconst (v := 3) hx hb dL_law_924 (by decide) ?_
      refine lv_iadd hx hb dL_law_925 ?_
      refine va_sld hx hb hX hbl hbA hS (lw_ix (k := 3) hL hin (by decide) (by decide)) dL_law_926 ?_
      have hF := gFree hDX hS hA
      refine va_calliD hd0 (va_runV_D (As := [.int (xs ((nI (6 * j)) + 1).toNatClampNeg), .int (xs ((nI (6 * j)) + 2).toNatClampNeg), .int (xs ((nI (6 * j)) + 3).toNatClampNeg)]) (rest := []) ⟨hx, hb, hml, hown, hts⟩ (n_X11_sign l dC dI ad cA adK adV H.size σ hIX (xs ((nI (6 * j)) + 1).toNatClampNeg) (xs ((nI (6 * j)) + 2).toNatClampNeg) (xs ((nI (6 * j)) + 3).toNatClampNeg) ) (cwV 3 hts gL0_X11_sign rfl rfl rfl (by decide +kernel) ⟨Nat.le_of_ble_eq_true rfl, Nat.le_of_ble_eq_true rfl⟩) ⟨gBlind, va_recv hKX hPX (ci := 10) (q0 := 0) rfl (at_10 rfl), gStart (As := [.ref (ad 0), .int (xs ((nI (6 * j)) + 1).toNatClampNeg), .int (xs ((nI (6 * j)) + 2).toNatClampNeg), .int (xs ((nI (6 * j)) + 3).toNatClampNeg)]) hPX hDX hKX0 hT hS hF (d)⟩ rfl rfl hl.1 rfl (lv_room (Nat.le_of_ble_eq_true rfl)) dL_law_927 ⟨by omega, by omega⟩) hS (fun q _ h => hF q h) hF (fun r_354 σz_355 t H1 locs ht hvm hw hB hz1 hk1 hS d_356 hd0 => ?_)
      have hts := dr_words hts0 (d_356)
      have hKX := gKd hKX0 (d_356)
      have hKM := gKd hKM0 (d_356)
      have hown : (s.setDrawn (d_356)).vm.findClass RL = some m.cls := hown0
      have hX : va_X b L xs (s.setDrawn (d_356)) s.heap := hX0
      obtain ⟨hPX, hDX⟩ := gBack hF ht hB
      obtain ⟨hI_358, fc_359, hp_357⟩ := hw
      have hPM := gOther hPM hk1 (dj_G dj)
      have hPO := gOther hPO hk1 (dj_1 djX)
      generalize H1 = H at hPX hPM hPO hS ⊢
      have hq_360 : (σz_355 2).1 1 = (τ 0).1 31 := by rw [fc_359 2 (by decide)]; exact hEq
      refine lv_pop hx hb dL_law_930 rfl ?_
      refine lv_aload_n hx hb dL_law_931 rfl (lv_at hl 2 rfl) ?_
      refine lv_aload_n hx hb dL_law_932 rfl (lv_at hl 4 rfl) ?_
      refine lv_iload hx hb dL_law_933 (lv_at hl 0 rfl) ?_
      refine lv_iconst (v := 1) hx hb dL_law_935 (by decide) ?_
      refine lv_iadd hx hb dL_law_936 ?_
      refine va_sld hx hb hX hbl hbA hS (lw_ix (k := 1) hL hin (by decide) (by decide)) dL_law_937 ?_
      refine lv_aload_n hx hb dL_law_938 rfl (lv_at hl 4 rfl) ?_
      refine lv_iload hx hb dL_law_939 (lv_at hl 0 rfl) ?_
      refine lv_iconst (v := 2) hx hb dL_law_941 (by decide) ?_
      refine lv_iadd hx hb dL_law_942 ?_
      refine va_sld hx hb hX hbl hbA hS (lw_ix (k := 2) hL hin (by decide) (by decide)) dL_law_943 ?_
      refine lv_aload_n hx hb dL_law_944 rfl (lv_at hl 4 rfl) ?_
      refine lv_iload hx hb dL_law_945 (lv_at hl 0 rfl) ?_
      refine lv_iconst (v := 3) hx hb dL_law_947 (by decide) ?_
      refine lv_iadd hx hb dL_law_948 ?_
      refine va_sld hx hb hX hbl hbA hS (lw_ix (k := 3) hL hin (by decide) (by decide)) dL_law_949 ?_
      have hF := gFree hDM hS hA
      refine va_calliD hd0 (va_runV_D (As := [.int (xs ((nI (6 * j)) + 1).toNatClampNeg), .int (xs ((nI (6 * j)) + 2).toNatClampNeg), .int (xs ((nI (6 * j)) + 3).toNatClampNeg)]) (rest := []) ⟨hx, hb, hml, hown, hts⟩ (n_X12_sign l dC dI am cM adK adV H.size τ hIM (xs ((nI (6 * j)) + 1).toNatClampNeg) (xs ((nI (6 * j)) + 2).toNatClampNeg) (xs ((nI (6 * j)) + 3).toNatClampNeg) hDp) (cwV 3 hts gL0_X12_sign rfl rfl rfl (by decide +kernel) ⟨Nat.le_of_ble_eq_true rfl, Nat.le_of_ble_eq_true rfl⟩) ⟨gBlind, va_recv hKM hPM (ci := 11) (q0 := 0) rfl (mat_11 rfl), gStart (As := [.ref (am 0), .int (xs ((nI (6 * j)) + 1).toNatClampNeg), .int (xs ((nI (6 * j)) + 2).toNatClampNeg), .int (xs ((nI (6 * j)) + 3).toNatClampNeg)]) hPM hDM hKM0 hT hS hF (d_356)⟩ rfl rfl hl.1 rfl (lv_room (Nat.le_of_ble_eq_true rfl)) dL_law_950 ⟨by omega, by omega⟩) hS (fun q _ h => hF q h) hF (fun r_361 τz_362 t H1 locs ht hvm hw hB hz1 hk1 hS d_363 hd0 => ?_)
      have hts := dr_words hts0 (d_363)
      have hKX := gKd hKX0 (d_363)
      have hKM := gKd hKM0 (d_363)
      have hown : (s.setDrawn (d_363)).vm.findClass RL = some m.cls := hown0
      have hX : va_X b L xs (s.setDrawn (d_363)) s.heap := hX0
      obtain ⟨hPM, hDM⟩ := gBack hF ht hB
      obtain ⟨hI_365, fc_366, hp_364⟩ := hw
      have hPX := gOther hPX hk1 (dj_sym (dj_G dj))
      have hPO := gOther hPO hk1 (dj_1 djM)
      generalize H1 = H at hPX hPM hPO hS ⊢
      have dp_367 : Deep τz_362 := (Deep.fr hDp (fc_366.1 2 (by decide) (by decide)) (fc_366.1 4 (by decide) (by decide)) (fc_366.1 9 (by decide) (by decide)) (fc_366.1 11 (by decide) (by decide)) (fc_366.1 12 (by decide) (by decide)) (fc_366.1 17 (by decide) (by decide)) (fc_366.1 18 (by decide) (by decide)) (fc_366.2 20 (by decide)) (fc_366.2 21 (by decide)) (fc_366.2 28 (by decide)) (fc_366.2 64 (by decide)) (fc_366.2 65 (by decide)) (fc_366.2 68 (by decide)))
      have hq_368 : (σz_355 2).1 1 = (τz_362 0).1 31 := hq_360.trans (fc_366.2 31 (by decide)).symm
      refine lv_pop hx hb dL_law_953 rfl ?_
      refine lv_goto (tgt := 1850) hx hb dL_law_954 (by decide) ?_
      obtain ⟨x_369, ex_369⟩ : ∃ zz : Int32, zz = (nI (6 * j)) + 6 := ⟨_, rfl⟩
      refine lv_iinc (v := x_369) (lv' := [(4, .int x_369), (3, .ref lo), (2, .ref (am 0)), (1, .ref (ad 0)), (0, .ref b)]) hx hb dL_law_1850 hl (k := 0) rfl (by rw [ex_369]; rfl) (by decide) rfl (fun ls hl => ?_)
      refine lv_goto (tgt := 23) hx hb dL_law_1853 (by decide) ?_
      have hl := lv_sub hl [0, 1, 2, 3, 4] rfl
      rw [ex_369, nI_6] at hl
      exact ih (j + 1) σz_355 τz_362 f _ _ _ _ _ _ (by omega) (by omega) hI_358 hI_365 dp_367 hq_368 (by omega) (by omega) hd0 hPX hDX hPM hDM hPO hDO hS hl
    by_cases c_370 : ((xs (nI (6 * j)).toNatClampNeg) &&& 63) = 17
    · refine lv_tableIn (tgt := 957) hx hb dL_law_40 (by rw [c_370]; decide) (by rw [c_370]; decide) (by rw [c_370]; rfl) (by decide) ?_
      refine lv_aload_n hx hb dL_law_957 rfl (lv_at hl 3 rfl) ?_
      refine lv_aload_n hx hb dL_law_958 rfl (lv_at hl 4 rfl) ?_
      refine lv_iload hx hb dL_law_959 (lv_at hl 0 rfl) ?_
      refine lv_iconst (v := 1) hx hb dL_law_961 (by decide) ?_
      refine lv_iadd hx hb dL_law_962 ?_
      refine va_sld hx hb hX hbl hbA hS (lw_ix (k := 1) hL hin (by decide) (by decide)) dL_law_963 ?_
      refine lv_aload_n hx hb dL_law_964 rfl (lv_at hl 4 rfl) ?_
      refine lv_iload hx hb dL_law_965 (lv_at hl 0 rfl) ?_
      refine lv_iconst (v := 2) hx hb dL_law_967 (by decide) ?_
      refine lv_iadd hx hb dL_law_968 ?_
      refine va_sld hx hb hX hbl hbA hS (lw_ix (k := 2) hL hin (by decide) (by decide)) dL_law_969 ?_
      have hF := gFree hDX hS hA
      refine va_calliD hd0 (va_runV_D (As := [.int (xs ((nI (6 * j)) + 1).toNatClampNeg), .int (xs ((nI (6 * j)) + 2).toNatClampNeg)]) (rest := []) ⟨hx, hb, hml, hown, hts⟩ (n_X11_current l dC dI ad cA adK adV H.size σ hIX (xs ((nI (6 * j)) + 1).toNatClampNeg) (xs ((nI (6 * j)) + 2).toNatClampNeg) ) (cwV 2 hts gL0_X11_current rfl rfl rfl (by decide +kernel) ⟨Nat.le_of_ble_eq_true rfl, Nat.le_of_ble_eq_true rfl⟩) ⟨gBlind, va_recv hKX hPX (ci := 10) (q0 := 0) rfl (at_10 rfl), gStart (As := [.ref (ad 0), .int (xs ((nI (6 * j)) + 1).toNatClampNeg), .int (xs ((nI (6 * j)) + 2).toNatClampNeg)]) hPX hDX hKX0 hT hS hF (d)⟩ rfl rfl hl.1 rfl (lv_room (Nat.le_of_ble_eq_true rfl)) dL_law_970 ⟨by omega, by omega⟩) hS (fun q _ h => hF q h) hF (fun r_371 σz_372 t H1 locs ht hvm hw hB hz1 hk1 hS d_373 hd0 => ?_)
      have hts := dr_words hts0 (d_373)
      have hKX := gKd hKX0 (d_373)
      have hKM := gKd hKM0 (d_373)
      have hown : (s.setDrawn (d_373)).vm.findClass RL = some m.cls := hown0
      have hX : va_X b L xs (s.setDrawn (d_373)) s.heap := hX0
      obtain ⟨hPX, hDX⟩ := gBack hF ht hB
      obtain ⟨hI_375, fc_376, hp_374⟩ := hw
      have hPM := gOther hPM hk1 (dj_G dj)
      have hPO := gOther hPO hk1 (dj_1 djX)
      generalize H1 = H at hPX hPM hPO hS ⊢
      have hq_377 : (σz_372 2).1 1 = (τ 0).1 31 := by rw [fc_376 2 (by decide)]; exact hEq
      refine lv_pop hx hb dL_law_973 rfl ?_
      refine lv_aload_n hx hb dL_law_974 rfl (lv_at hl 2 rfl) ?_
      refine lv_aload_n hx hb dL_law_975 rfl (lv_at hl 4 rfl) ?_
      refine lv_iload hx hb dL_law_976 (lv_at hl 0 rfl) ?_
      refine lv_iconst (v := 1) hx hb dL_law_978 (by decide) ?_
      refine lv_iadd hx hb dL_law_979 ?_
      refine va_sld hx hb hX hbl hbA hS (lw_ix (k := 1) hL hin (by decide) (by decide)) dL_law_980 ?_
      refine lv_aload_n hx hb dL_law_981 rfl (lv_at hl 4 rfl) ?_
      refine lv_iload hx hb dL_law_982 (lv_at hl 0 rfl) ?_
      refine lv_iconst (v := 2) hx hb dL_law_984 (by decide) ?_
      refine lv_iadd hx hb dL_law_985 ?_
      refine va_sld hx hb hX hbl hbA hS (lw_ix (k := 2) hL hin (by decide) (by decide)) dL_law_986 ?_
      have hF := gFree hDM hS hA
      refine va_calliD hd0 (va_runV_D (As := [.int (xs ((nI (6 * j)) + 1).toNatClampNeg), .int (xs ((nI (6 * j)) + 2).toNatClampNeg)]) (rest := []) ⟨hx, hb, hml, hown, hts⟩ (n_X12_current l dC dI am cM adK adV H.size τ hIM (xs ((nI (6 * j)) + 1).toNatClampNeg) (xs ((nI (6 * j)) + 2).toNatClampNeg) hDp) (cwV 2 hts gL0_X12_current rfl rfl rfl (by decide +kernel) ⟨Nat.le_of_ble_eq_true rfl, Nat.le_of_ble_eq_true rfl⟩) ⟨gBlind, va_recv hKM hPM (ci := 11) (q0 := 0) rfl (mat_11 rfl), gStart (As := [.ref (am 0), .int (xs ((nI (6 * j)) + 1).toNatClampNeg), .int (xs ((nI (6 * j)) + 2).toNatClampNeg)]) hPM hDM hKM0 hT hS hF (d_373)⟩ rfl rfl hl.1 rfl (lv_room (Nat.le_of_ble_eq_true rfl)) dL_law_987 ⟨by omega, by omega⟩) hS (fun q _ h => hF q h) hF (fun r_378 τz_379 t H1 locs ht hvm hw hB hz1 hk1 hS d_380 hd0 => ?_)
      have hts := dr_words hts0 (d_380)
      have hKX := gKd hKX0 (d_380)
      have hKM := gKd hKM0 (d_380)
      have hown : (s.setDrawn (d_380)).vm.findClass RL = some m.cls := hown0
      have hX : va_X b L xs (s.setDrawn (d_380)) s.heap := hX0
      obtain ⟨hPM, hDM⟩ := gBack hF ht hB
      obtain ⟨hI_382, fc_383, hp_381⟩ := hw
      have hPX := gOther hPX hk1 (dj_sym (dj_G dj))
      have hPO := gOther hPO hk1 (dj_1 djM)
      generalize H1 = H at hPX hPM hPO hS ⊢
      have dp_384 : Deep τz_379 := (Deep.fr hDp (fc_383.1 2 (by decide) (by decide)) (fc_383.1 4 (by decide) (by decide)) (fc_383.1 9 (by decide) (by decide)) (fc_383.1 11 (by decide) (by decide)) (fc_383.1 12 (by decide) (by decide)) (fc_383.1 17 (by decide) (by decide)) (fc_383.1 18 (by decide) (by decide)) (fc_383.2 20 (by decide)) (fc_383.2 21 (by decide)) (fc_383.2 28 (by decide)) (fc_383.2 64 (by decide)) (fc_383.2 65 (by decide)) (fc_383.2 68 (by decide)))
      have hq_385 : (σz_372 2).1 1 = (τz_379 0).1 31 := hq_377.trans (fc_383.2 31 (by decide)).symm
      refine lv_pop hx hb dL_law_990 rfl ?_
      refine lv_goto (tgt := 1850) hx hb dL_law_991 (by decide) ?_
      obtain ⟨x_386, ex_386⟩ : ∃ zz : Int32, zz = (nI (6 * j)) + 6 := ⟨_, rfl⟩
      refine lv_iinc (v := x_386) (lv' := [(4, .int x_386), (3, .ref lo), (2, .ref (am 0)), (1, .ref (ad 0)), (0, .ref b)]) hx hb dL_law_1850 hl (k := 0) rfl (by rw [ex_386]; rfl) (by decide) rfl (fun ls hl => ?_)
      refine lv_goto (tgt := 23) hx hb dL_law_1853 (by decide) ?_
      have hl := lv_sub hl [0, 1, 2, 3, 4] rfl
      rw [ex_386, nI_6] at hl
      exact ih (j + 1) σz_372 τz_379 f _ _ _ _ _ _ (by omega) (by omega) hI_375 hI_382 dp_384 hq_385 (by omega) (by omega) hd0 hPX hDX hPM hDM hPO hDO hS hl
    by_cases c_387 : ((xs (nI (6 * j)).toNatClampNeg) &&& 63) = 18
    · refine lv_tableIn (tgt := 994) hx hb dL_law_40 (by rw [c_387]; decide) (by rw [c_387]; decide) (by rw [c_387]; rfl) (by decide) ?_
      refine lv_aload_n hx hb dL_law_994 rfl (lv_at hl 3 rfl) ?_
      refine lv_aload_n hx hb dL_law_995 rfl (lv_at hl 4 rfl) ?_
      refine lv_iload hx hb dL_law_996 (lv_at hl 0 rfl) ?_
      refine lv_iconst (v := 1) hx hb dL_law_998 (by decide) ?_
      refine lv_iadd hx hb dL_law_999 ?_
      refine va_sld hx hb hX hbl hbA hS (lw_ix (k := 1) hL hin (by decide) (by decide)) dL_law_1000 ?_
      refine lv_aload_n hx hb dL_law_1001 rfl (lv_at hl 4 rfl) ?_
      refine lv_iload hx hb dL_law_1002 (lv_at hl 0 rfl) ?_
      refine lv_iconst (v := 2) hx hb dL_law_1004 (by decide) ?_
      refine lv_iadd hx hb dL_law_1005 ?_
      refine va_sld hx hb hX hbl hbA hS (lw_ix (k := 2) hL hin (by decide) (by decide)) dL_law_1006 ?_
      have hF := gFree hDX hS hA
      refine va_calliD hd0 (va_runV_D (As := [.int (xs ((nI (6 * j)) + 1).toNatClampNeg), .int (xs ((nI (6 * j)) + 2).toNatClampNeg)]) (rest := []) ⟨hx, hb, hml, hown, hts⟩ (n_X11_isEx l dC dI ad cA adK adV H.size σ hIX (xs ((nI (6 * j)) + 1).toNatClampNeg) (xs ((nI (6 * j)) + 2).toNatClampNeg) ) (cwV 2 hts gL0_X11_isEx rfl rfl rfl (by decide +kernel) ⟨Nat.le_of_ble_eq_true rfl, Nat.le_of_ble_eq_true rfl⟩) ⟨gBlind, va_recv hKX hPX (ci := 10) (q0 := 0) rfl (at_10 rfl), gStart (As := [.ref (ad 0), .int (xs ((nI (6 * j)) + 1).toNatClampNeg), .int (xs ((nI (6 * j)) + 2).toNatClampNeg)]) hPX hDX hKX0 hT hS hF (d)⟩ rfl rfl hl.1 rfl (lv_room (Nat.le_of_ble_eq_true rfl)) dL_law_1007 ⟨by omega, by omega⟩) hS (fun q _ h => hF q h) hF (fun r_388 σz_389 t H1 locs ht hvm hw hB hz1 hk1 hS d_390 hd0 => ?_)
      have hts := dr_words hts0 (d_390)
      have hKX := gKd hKX0 (d_390)
      have hKM := gKd hKM0 (d_390)
      have hown : (s.setDrawn (d_390)).vm.findClass RL = some m.cls := hown0
      have hX : va_X b L xs (s.setDrawn (d_390)) s.heap := hX0
      obtain ⟨hPX, hDX⟩ := gBack hF ht hB
      obtain ⟨hI_392, fc_393, hp_391⟩ := hw
      have hPM := gOther hPM hk1 (dj_G dj)
      have hPO := gOther hPO hk1 (dj_1 djX)
      generalize H1 = H at hPX hPM hPO hS ⊢
      have hq_394 : (σz_389 2).1 1 = (τ 0).1 31 := by rw [fc_393 2 (by decide)]; exact hEq
      refine lv_pop hx hb dL_law_1010 rfl ?_
      refine lv_aload_n hx hb dL_law_1011 rfl (lv_at hl 2 rfl) ?_
      refine lv_aload_n hx hb dL_law_1012 rfl (lv_at hl 4 rfl) ?_
      refine lv_iload hx hb dL_law_1013 (lv_at hl 0 rfl) ?_
      refine lv_iconst (v := 1) hx hb dL_law_1015 (by decide) ?_
      refine lv_iadd hx hb dL_law_1016 ?_
      refine va_sld hx hb hX hbl hbA hS (lw_ix (k := 1) hL hin (by decide) (by decide)) dL_law_1017 ?_
      refine lv_aload_n hx hb dL_law_1018 rfl (lv_at hl 4 rfl) ?_
      refine lv_iload hx hb dL_law_1019 (lv_at hl 0 rfl) ?_
      refine lv_iconst (v := 2) hx hb dL_law_1021 (by decide) ?_
      refine lv_iadd hx hb dL_law_1022 ?_
      refine va_sld hx hb hX hbl hbA hS (lw_ix (k := 2) hL hin (by decide) (by decide)) dL_law_1023 ?_
      have hF := gFree hDM hS hA
      refine va_calliD hd0 (va_runV_D (As := [.int (xs ((nI (6 * j)) + 1).toNatClampNeg), .int (xs ((nI (6 * j)) + 2).toNatClampNeg)]) (rest := []) ⟨hx, hb, hml, hown, hts⟩ (n_X12_isEx l dC dI am cM adK adV H.size τ hIM (xs ((nI (6 * j)) + 1).toNatClampNeg) (xs ((nI (6 * j)) + 2).toNatClampNeg) hDp) (cwV 2 hts gL0_X12_isEx rfl rfl rfl (by decide +kernel) ⟨Nat.le_of_ble_eq_true rfl, Nat.le_of_ble_eq_true rfl⟩) ⟨gBlind, va_recv hKM hPM (ci := 11) (q0 := 0) rfl (mat_11 rfl), gStart (As := [.ref (am 0), .int (xs ((nI (6 * j)) + 1).toNatClampNeg), .int (xs ((nI (6 * j)) + 2).toNatClampNeg)]) hPM hDM hKM0 hT hS hF (d_390)⟩ rfl rfl hl.1 rfl (lv_room (Nat.le_of_ble_eq_true rfl)) dL_law_1024 ⟨by omega, by omega⟩) hS (fun q _ h => hF q h) hF (fun r_395 τz_396 t H1 locs ht hvm hw hB hz1 hk1 hS d_397 hd0 => ?_)
      have hts := dr_words hts0 (d_397)
      have hKX := gKd hKX0 (d_397)
      have hKM := gKd hKM0 (d_397)
      have hown : (s.setDrawn (d_397)).vm.findClass RL = some m.cls := hown0
      have hX : va_X b L xs (s.setDrawn (d_397)) s.heap := hX0
      obtain ⟨hPM, hDM⟩ := gBack hF ht hB
      obtain ⟨hI_399, fc_400, hp_398⟩ := hw
      have hPX := gOther hPX hk1 (dj_sym (dj_G dj))
      have hPO := gOther hPO hk1 (dj_1 djM)
      generalize H1 = H at hPX hPM hPO hS ⊢
      have dp_401 : Deep τz_396 := (Deep.fr hDp (fc_400.1 2 (by decide) (by decide)) (fc_400.1 4 (by decide) (by decide)) (fc_400.1 9 (by decide) (by decide)) (fc_400.1 11 (by decide) (by decide)) (fc_400.1 12 (by decide) (by decide)) (fc_400.1 17 (by decide) (by decide)) (fc_400.1 18 (by decide) (by decide)) (fc_400.2 20 (by decide)) (fc_400.2 21 (by decide)) (fc_400.2 28 (by decide)) (fc_400.2 64 (by decide)) (fc_400.2 65 (by decide)) (fc_400.2 68 (by decide)))
      have hq_402 : (σz_389 2).1 1 = (τz_396 0).1 31 := hq_394.trans (fc_400.2 31 (by decide)).symm
      refine lv_pop hx hb dL_law_1027 rfl ?_
      refine lv_goto (tgt := 1850) hx hb dL_law_1028 (by decide) ?_
      obtain ⟨x_403, ex_403⟩ : ∃ zz : Int32, zz = (nI (6 * j)) + 6 := ⟨_, rfl⟩
      refine lv_iinc (v := x_403) (lv' := [(4, .int x_403), (3, .ref lo), (2, .ref (am 0)), (1, .ref (ad 0)), (0, .ref b)]) hx hb dL_law_1850 hl (k := 0) rfl (by rw [ex_403]; rfl) (by decide) rfl (fun ls hl => ?_)
      refine lv_goto (tgt := 23) hx hb dL_law_1853 (by decide) ?_
      have hl := lv_sub hl [0, 1, 2, 3, 4] rfl
      rw [ex_403, nI_6] at hl
      exact ih (j + 1) σz_389 τz_396 f _ _ _ _ _ _ (by omega) (by omega) hI_392 hI_399 dp_401 hq_402 (by omega) (by omega) hd0 hPX hDX hPM hDM hPO hDO hS hl
    by_cases c_404 : ((xs (nI (6 * j)).toNatClampNeg) &&& 63) = 19
    · refine lv_tableIn (tgt := 1031) hx hb dL_law_40 (by rw [c_404]; decide) (by rw [c_404]; decide) (by rw [c_404]; rfl) (by decide) ?_
      refine lv_aload_n hx hb dL_law_1031 rfl (lv_at hl 3 rfl) ?_
      refine lv_aload_n hx hb dL_law_1032 rfl (lv_at hl 4 rfl) ?_
      refine lv_iload hx hb dL_law_1033 (lv_at hl 0 rfl) ?_
      refine lv_iconst (v := 1) hx hb dL_law_1035 (by decide) ?_
      refine lv_iadd hx hb dL_law_1036 ?_
      refine va_sld hx hb hX hbl hbA hS (lw_ix (k := 1) hL hin (by decide) (by decide)) dL_law_1037 ?_
      refine lv_aload_n hx hb dL_law_1038 rfl (lv_at hl 4 rfl) ?_
      refine lv_iload hx hb dL_law_1039 (lv_at hl 0 rfl) ?_
      refine lv_iconst (v := 2) hx hb dL_law_1041 (by decide) ?_
      refine lv_iadd hx hb dL_law_1042 ?_
      refine va_sld hx hb hX hbl hbA hS (lw_ix (k := 2) hL hin (by decide) (by decide)) dL_law_1043 ?_
      refine lv_aload_n hx hb dL_law_1044 rfl (lv_at hl 4 rfl) ?_
      refine lv_iload hx hb dL_law_1045 (lv_at hl 0 rfl) ?_
      refine lv_iconst (v := 3) hx hb dL_law_1047 (by decide) ?_
      refine lv_iadd hx hb dL_law_1048 ?_
      refine va_sld hx hb hX hbl hbA hS (lw_ix (k := 3) hL hin (by decide) (by decide)) dL_law_1049 ?_
      refine lv_if_eq (tgt := 1057) hx hb dL_law_1050 (by decide) (fun c_405 => ?_) (fun c_405 => ?_)
      · refine lv_iconst (v := 0) hx hb dL_law_1057 (by decide) ?_
        have hF := gFree hDX hS hA
        refine va_calllD hd0 (va_runV_D (As := [.int (xs ((nI (6 * j)) + 1).toNatClampNeg), .int (xs ((nI (6 * j)) + 2).toNatClampNeg), .int 0]) (rest := []) ⟨hx, hb, hml, hown, hts⟩ (n_X11_accrued l dC dI ad cA adK adV H.size σ hIX (xs ((nI (6 * j)) + 1).toNatClampNeg) (xs ((nI (6 * j)) + 2).toNatClampNeg) 0 ) (cwV 3 hts gL0_X11_accrued rfl rfl rfl (by decide +kernel) ⟨Nat.le_of_ble_eq_true rfl, Nat.le_of_ble_eq_true rfl⟩) ⟨gBlind, va_recv hKX hPX (ci := 10) (q0 := 0) rfl (at_10 rfl), gStart (As := [.ref (ad 0), .int (xs ((nI (6 * j)) + 1).toNatClampNeg), .int (xs ((nI (6 * j)) + 2).toNatClampNeg), .int 0]) hPX hDX hKX0 hT hS hF (d)⟩ rfl rfl hl.1 rfl (lv_room (Nat.le_of_ble_eq_true rfl)) dL_law_1058 ⟨by omega, by omega⟩) hS (fun q _ h => hF q h) hF (fun r_406 σz_407 t H1 locs ht hvm hw hB hz1 hk1 hS d_408 hd0 => ?_)
        have hts := dr_words hts0 (d_408)
        have hKX := gKd hKX0 (d_408)
        have hKM := gKd hKM0 (d_408)
        have hown : (s.setDrawn (d_408)).vm.findClass RL = some m.cls := hown0
        have hX : va_X b L xs (s.setDrawn (d_408)) s.heap := hX0
        obtain ⟨hPX, hDX⟩ := gBack hF ht hB
        obtain ⟨hI_410, fc_411, hp_409⟩ := hw
        have hPM := gOther hPM hk1 (dj_G dj)
        have hPO := gOther hPO hk1 (dj_1 djX)
        generalize H1 = H at hPX hPM hPO hS ⊢
        have hq_412 : (σz_407 2).1 1 = (τ 0).1 31 := by rw [fc_411 2 (by decide)]; exact hEq
        refine lv_pop2_2 hx hb dL_law_1061 rfl ?_
        refine lv_aload_n hx hb dL_law_1062 rfl (lv_at hl 2 rfl) ?_
        refine lv_aload_n hx hb dL_law_1063 rfl (lv_at hl 4 rfl) ?_
        refine lv_iload hx hb dL_law_1064 (lv_at hl 0 rfl) ?_
        refine lv_iconst (v := 1) hx hb dL_law_1066 (by decide) ?_
        refine lv_iadd hx hb dL_law_1067 ?_
        refine va_sld hx hb hX hbl hbA hS (lw_ix (k := 1) hL hin (by decide) (by decide)) dL_law_1068 ?_
        refine lv_aload_n hx hb dL_law_1069 rfl (lv_at hl 4 rfl) ?_
        refine lv_iload hx hb dL_law_1070 (lv_at hl 0 rfl) ?_
        refine lv_iconst (v := 2) hx hb dL_law_1072 (by decide) ?_
        refine lv_iadd hx hb dL_law_1073 ?_
        refine va_sld hx hb hX hbl hbA hS (lw_ix (k := 2) hL hin (by decide) (by decide)) dL_law_1074 ?_
        refine lv_aload_n hx hb dL_law_1075 rfl (lv_at hl 4 rfl) ?_
        refine lv_iload hx hb dL_law_1076 (lv_at hl 0 rfl) ?_
        refine lv_iconst (v := 3) hx hb dL_law_1078 (by decide) ?_
        refine lv_iadd hx hb dL_law_1079 ?_
        refine va_sld hx hb hX hbl hbA hS (lw_ix (k := 3) hL hin (by decide) (by decide)) dL_law_1080 ?_
        refine lv_if_eq (tgt := 1088) hx hb dL_law_1081 (by decide) (fun c_413 => ?_) (fun c_413 => ?_)
        · refine lv_iconst (v := 0) hx hb dL_law_1088 (by decide) ?_
          have hF := gFree hDM hS hA
          refine va_calllD hd0 (va_runV_D (As := [.int (xs ((nI (6 * j)) + 1).toNatClampNeg), .int (xs ((nI (6 * j)) + 2).toNatClampNeg), .int 0]) (rest := []) ⟨hx, hb, hml, hown, hts⟩ (n_X12_accrued l dC dI am cM adK adV H.size τ hIM (xs ((nI (6 * j)) + 1).toNatClampNeg) (xs ((nI (6 * j)) + 2).toNatClampNeg) 0 hDp) (cwV 3 hts gL0_X12_accrued rfl rfl rfl (by decide +kernel) ⟨Nat.le_of_ble_eq_true rfl, Nat.le_of_ble_eq_true rfl⟩) ⟨gBlind, va_recv hKM hPM (ci := 11) (q0 := 0) rfl (mat_11 rfl), gStart (As := [.ref (am 0), .int (xs ((nI (6 * j)) + 1).toNatClampNeg), .int (xs ((nI (6 * j)) + 2).toNatClampNeg), .int 0]) hPM hDM hKM0 hT hS hF (d_408)⟩ rfl rfl hl.1 rfl (lv_room (Nat.le_of_ble_eq_true rfl)) dL_law_1089 ⟨by omega, by omega⟩) hS (fun q _ h => hF q h) hF (fun r_414 τz_415 t H1 locs ht hvm hw hB hz1 hk1 hS d_416 hd0 => ?_)
          have hts := dr_words hts0 (d_416)
          have hKX := gKd hKX0 (d_416)
          have hKM := gKd hKM0 (d_416)
          have hown : (s.setDrawn (d_416)).vm.findClass RL = some m.cls := hown0
          have hX : va_X b L xs (s.setDrawn (d_416)) s.heap := hX0
          obtain ⟨hPM, hDM⟩ := gBack hF ht hB
          obtain ⟨hI_418, fc_419, hp_417⟩ := hw
          have hPX := gOther hPX hk1 (dj_sym (dj_G dj))
          have hPO := gOther hPO hk1 (dj_1 djM)
          generalize H1 = H at hPX hPM hPO hS ⊢
          have dp_420 : Deep τz_415 := (Deep.fr hDp (fc_419.1 2 (by decide) (by decide)) (fc_419.1 4 (by decide) (by decide)) (fc_419.1 9 (by decide) (by decide)) (fc_419.1 11 (by decide) (by decide)) (fc_419.1 12 (by decide) (by decide)) (fc_419.1 17 (by decide) (by decide)) (fc_419.1 18 (by decide) (by decide)) (fc_419.2 20 (by decide)) (fc_419.2 21 (by decide)) (fc_419.2 28 (by decide)) (fc_419.2 64 (by decide)) (fc_419.2 65 (by decide)) (fc_419.2 68 (by decide)))
          have hq_421 : (σz_407 2).1 1 = (τz_415 0).1 31 := hq_412.trans (fc_419.2 31 (by decide)).symm
          refine lv_pop2_2 hx hb dL_law_1092 rfl ?_
          refine lv_goto (tgt := 1850) hx hb dL_law_1093 (by decide) ?_
          obtain ⟨x_422, ex_422⟩ : ∃ zz : Int32, zz = (nI (6 * j)) + 6 := ⟨_, rfl⟩
          refine lv_iinc (v := x_422) (lv' := [(4, .int x_422), (3, .ref lo), (2, .ref (am 0)), (1, .ref (ad 0)), (0, .ref b)]) hx hb dL_law_1850 hl (k := 0) rfl (by rw [ex_422]; rfl) (by decide) rfl (fun ls hl => ?_)
          refine lv_goto (tgt := 23) hx hb dL_law_1853 (by decide) ?_
          have hl := lv_sub hl [0, 1, 2, 3, 4] rfl
          rw [ex_422, nI_6] at hl
          exact ih (j + 1) σz_407 τz_415 f _ _ _ _ _ _ (by omega) (by omega) hI_410 hI_418 dp_420 hq_421 (by omega) (by omega) hd0 hPX hDX hPM hDM hPO hDO hS hl
        · exact absurd c_405 c_413
      · refine lv_iconst (v := 1) hx hb dL_law_1053 (by decide) ?_
        refine lv_goto (tgt := 1058) hx hb dL_law_1054 (by decide) ?_
        have hF := gFree hDX hS hA
        refine va_calllD hd0 (va_runV_D (As := [.int (xs ((nI (6 * j)) + 1).toNatClampNeg), .int (xs ((nI (6 * j)) + 2).toNatClampNeg), .int 1]) (rest := []) ⟨hx, hb, hml, hown, hts⟩ (n_X11_accrued l dC dI ad cA adK adV H.size σ hIX (xs ((nI (6 * j)) + 1).toNatClampNeg) (xs ((nI (6 * j)) + 2).toNatClampNeg) 1 ) (cwV 3 hts gL0_X11_accrued rfl rfl rfl (by decide +kernel) ⟨Nat.le_of_ble_eq_true rfl, Nat.le_of_ble_eq_true rfl⟩) ⟨gBlind, va_recv hKX hPX (ci := 10) (q0 := 0) rfl (at_10 rfl), gStart (As := [.ref (ad 0), .int (xs ((nI (6 * j)) + 1).toNatClampNeg), .int (xs ((nI (6 * j)) + 2).toNatClampNeg), .int 1]) hPX hDX hKX0 hT hS hF (d)⟩ rfl rfl hl.1 rfl (lv_room (Nat.le_of_ble_eq_true rfl)) dL_law_1058 ⟨by omega, by omega⟩) hS (fun q _ h => hF q h) hF (fun r_423 σz_424 t H1 locs ht hvm hw hB hz1 hk1 hS d_425 hd0 => ?_)
        have hts := dr_words hts0 (d_425)
        have hKX := gKd hKX0 (d_425)
        have hKM := gKd hKM0 (d_425)
        have hown : (s.setDrawn (d_425)).vm.findClass RL = some m.cls := hown0
        have hX : va_X b L xs (s.setDrawn (d_425)) s.heap := hX0
        obtain ⟨hPX, hDX⟩ := gBack hF ht hB
        obtain ⟨hI_427, fc_428, hp_426⟩ := hw
        have hPM := gOther hPM hk1 (dj_G dj)
        have hPO := gOther hPO hk1 (dj_1 djX)
        generalize H1 = H at hPX hPM hPO hS ⊢
        have hq_429 : (σz_424 2).1 1 = (τ 0).1 31 := by rw [fc_428 2 (by decide)]; exact hEq
        refine lv_pop2_2 hx hb dL_law_1061 rfl ?_
        refine lv_aload_n hx hb dL_law_1062 rfl (lv_at hl 2 rfl) ?_
        refine lv_aload_n hx hb dL_law_1063 rfl (lv_at hl 4 rfl) ?_
        refine lv_iload hx hb dL_law_1064 (lv_at hl 0 rfl) ?_
        refine lv_iconst (v := 1) hx hb dL_law_1066 (by decide) ?_
        refine lv_iadd hx hb dL_law_1067 ?_
        refine va_sld hx hb hX hbl hbA hS (lw_ix (k := 1) hL hin (by decide) (by decide)) dL_law_1068 ?_
        refine lv_aload_n hx hb dL_law_1069 rfl (lv_at hl 4 rfl) ?_
        refine lv_iload hx hb dL_law_1070 (lv_at hl 0 rfl) ?_
        refine lv_iconst (v := 2) hx hb dL_law_1072 (by decide) ?_
        refine lv_iadd hx hb dL_law_1073 ?_
        refine va_sld hx hb hX hbl hbA hS (lw_ix (k := 2) hL hin (by decide) (by decide)) dL_law_1074 ?_
        refine lv_aload_n hx hb dL_law_1075 rfl (lv_at hl 4 rfl) ?_
        refine lv_iload hx hb dL_law_1076 (lv_at hl 0 rfl) ?_
        refine lv_iconst (v := 3) hx hb dL_law_1078 (by decide) ?_
        refine lv_iadd hx hb dL_law_1079 ?_
        refine va_sld hx hb hX hbl hbA hS (lw_ix (k := 3) hL hin (by decide) (by decide)) dL_law_1080 ?_
        refine lv_if_eq (tgt := 1088) hx hb dL_law_1081 (by decide) (fun c_430 => ?_) (fun c_430 => ?_)
        · exact absurd c_430 c_405
        · refine lv_iconst (v := 1) hx hb dL_law_1084 (by decide) ?_
          refine lv_goto (tgt := 1089) hx hb dL_law_1085 (by decide) ?_
          have hF := gFree hDM hS hA
          refine va_calllD hd0 (va_runV_D (As := [.int (xs ((nI (6 * j)) + 1).toNatClampNeg), .int (xs ((nI (6 * j)) + 2).toNatClampNeg), .int 1]) (rest := []) ⟨hx, hb, hml, hown, hts⟩ (n_X12_accrued l dC dI am cM adK adV H.size τ hIM (xs ((nI (6 * j)) + 1).toNatClampNeg) (xs ((nI (6 * j)) + 2).toNatClampNeg) 1 hDp) (cwV 3 hts gL0_X12_accrued rfl rfl rfl (by decide +kernel) ⟨Nat.le_of_ble_eq_true rfl, Nat.le_of_ble_eq_true rfl⟩) ⟨gBlind, va_recv hKM hPM (ci := 11) (q0 := 0) rfl (mat_11 rfl), gStart (As := [.ref (am 0), .int (xs ((nI (6 * j)) + 1).toNatClampNeg), .int (xs ((nI (6 * j)) + 2).toNatClampNeg), .int 1]) hPM hDM hKM0 hT hS hF (d_425)⟩ rfl rfl hl.1 rfl (lv_room (Nat.le_of_ble_eq_true rfl)) dL_law_1089 ⟨by omega, by omega⟩) hS (fun q _ h => hF q h) hF (fun r_431 τz_432 t H1 locs ht hvm hw hB hz1 hk1 hS d_433 hd0 => ?_)
          have hts := dr_words hts0 (d_433)
          have hKX := gKd hKX0 (d_433)
          have hKM := gKd hKM0 (d_433)
          have hown : (s.setDrawn (d_433)).vm.findClass RL = some m.cls := hown0
          have hX : va_X b L xs (s.setDrawn (d_433)) s.heap := hX0
          obtain ⟨hPM, hDM⟩ := gBack hF ht hB
          obtain ⟨hI_435, fc_436, hp_434⟩ := hw
          have hPX := gOther hPX hk1 (dj_sym (dj_G dj))
          have hPO := gOther hPO hk1 (dj_1 djM)
          generalize H1 = H at hPX hPM hPO hS ⊢
          have dp_437 : Deep τz_432 := (Deep.fr hDp (fc_436.1 2 (by decide) (by decide)) (fc_436.1 4 (by decide) (by decide)) (fc_436.1 9 (by decide) (by decide)) (fc_436.1 11 (by decide) (by decide)) (fc_436.1 12 (by decide) (by decide)) (fc_436.1 17 (by decide) (by decide)) (fc_436.1 18 (by decide) (by decide)) (fc_436.2 20 (by decide)) (fc_436.2 21 (by decide)) (fc_436.2 28 (by decide)) (fc_436.2 64 (by decide)) (fc_436.2 65 (by decide)) (fc_436.2 68 (by decide)))
          have hq_438 : (σz_424 2).1 1 = (τz_432 0).1 31 := hq_429.trans (fc_436.2 31 (by decide)).symm
          refine lv_pop2_2 hx hb dL_law_1092 rfl ?_
          refine lv_goto (tgt := 1850) hx hb dL_law_1093 (by decide) ?_
          obtain ⟨x_439, ex_439⟩ : ∃ zz : Int32, zz = (nI (6 * j)) + 6 := ⟨_, rfl⟩
          refine lv_iinc (v := x_439) (lv' := [(4, .int x_439), (3, .ref lo), (2, .ref (am 0)), (1, .ref (ad 0)), (0, .ref b)]) hx hb dL_law_1850 hl (k := 0) rfl (by rw [ex_439]; rfl) (by decide) rfl (fun ls hl => ?_)
          refine lv_goto (tgt := 23) hx hb dL_law_1853 (by decide) ?_
          have hl := lv_sub hl [0, 1, 2, 3, 4] rfl
          rw [ex_439, nI_6] at hl
          exact ih (j + 1) σz_424 τz_432 f _ _ _ _ _ _ (by omega) (by omega) hI_427 hI_435 dp_437 hq_438 (by omega) (by omega) hd0 hPX hDX hPM hDM hPO hDO hS hl
    by_cases c_440 : ((xs (nI (6 * j)).toNatClampNeg) &&& 63) = 20
    · refine lv_tableIn (tgt := 1096) hx hb dL_law_40 (by rw [c_440]; decide) (by rw [c_440]; decide) (by rw [c_440]; rfl) (by decide) ?_
      refine lv_aload_n hx hb dL_law_1096 rfl (lv_at hl 3 rfl) ?_
      refine lv_aload_n hx hb dL_law_1097 rfl (lv_at hl 4 rfl) ?_
      refine lv_iload hx hb dL_law_1098 (lv_at hl 0 rfl) ?_
      refine lv_iconst (v := 1) hx hb dL_law_1100 (by decide) ?_
      refine lv_iadd hx hb dL_law_1101 ?_
      refine va_sld hx hb hX hbl hbA hS (lw_ix (k := 1) hL hin (by decide) (by decide)) dL_law_1102 ?_
      refine lv_aload_n hx hb dL_law_1103 rfl (lv_at hl 4 rfl) ?_
      refine lv_iload hx hb dL_law_1104 (lv_at hl 0 rfl) ?_
      refine lv_iconst (v := 2) hx hb dL_law_1106 (by decide) ?_
      refine lv_iadd hx hb dL_law_1107 ?_
      refine va_sld hx hb hX hbl hbA hS (lw_ix (k := 2) hL hin (by decide) (by decide)) dL_law_1108 ?_
      refine lv_aload_n hx hb dL_law_1109 rfl (lv_at hl 4 rfl) ?_
      refine lv_iload hx hb dL_law_1110 (lv_at hl 0 rfl) ?_
      refine lv_iconst (v := 3) hx hb dL_law_1112 (by decide) ?_
      refine lv_iadd hx hb dL_law_1113 ?_
      refine va_sld hx hb hX hbl hbA hS (lw_ix (k := 3) hL hin (by decide) (by decide)) dL_law_1114 ?_
      refine lv_if_eq (tgt := 1122) hx hb dL_law_1115 (by decide) (fun c_441 => ?_) (fun c_441 => ?_)
      · refine lv_iconst (v := 0) hx hb dL_law_1122 (by decide) ?_
        have hF := gFree hDX hS hA
        refine va_calllD hd0 (va_runV_D (As := [.int (xs ((nI (6 * j)) + 1).toNatClampNeg), .int (xs ((nI (6 * j)) + 2).toNatClampNeg), .int 0]) (rest := []) ⟨hx, hb, hml, hown, hts⟩ (n_X11_rest l dC dI ad cA adK adV H.size σ hIX (xs ((nI (6 * j)) + 1).toNatClampNeg) (xs ((nI (6 * j)) + 2).toNatClampNeg) 0 ) (cwV 3 hts gL0_X11_rest rfl rfl rfl (by decide +kernel) ⟨Nat.le_of_ble_eq_true rfl, Nat.le_of_ble_eq_true rfl⟩) ⟨gBlind, va_recv hKX hPX (ci := 10) (q0 := 0) rfl (at_10 rfl), gStart (As := [.ref (ad 0), .int (xs ((nI (6 * j)) + 1).toNatClampNeg), .int (xs ((nI (6 * j)) + 2).toNatClampNeg), .int 0]) hPX hDX hKX0 hT hS hF (d)⟩ rfl rfl hl.1 rfl (lv_room (Nat.le_of_ble_eq_true rfl)) dL_law_1123 ⟨by omega, by omega⟩) hS (fun q _ h => hF q h) hF (fun r_442 σz_443 t H1 locs ht hvm hw hB hz1 hk1 hS d_444 hd0 => ?_)
        have hts := dr_words hts0 (d_444)
        have hKX := gKd hKX0 (d_444)
        have hKM := gKd hKM0 (d_444)
        have hown : (s.setDrawn (d_444)).vm.findClass RL = some m.cls := hown0
        have hX : va_X b L xs (s.setDrawn (d_444)) s.heap := hX0
        obtain ⟨hPX, hDX⟩ := gBack hF ht hB
        obtain ⟨hI_446, fc_447, hp_445⟩ := hw
        have hPM := gOther hPM hk1 (dj_G dj)
        have hPO := gOther hPO hk1 (dj_1 djX)
        generalize H1 = H at hPX hPM hPO hS ⊢
        have hq_448 : (σz_443 2).1 1 = (τ 0).1 31 := by rw [fc_447 2 (by decide)]; exact hEq
        refine lv_pop2_2 hx hb dL_law_1126 rfl ?_
        refine lv_aload_n hx hb dL_law_1127 rfl (lv_at hl 2 rfl) ?_
        refine lv_aload_n hx hb dL_law_1128 rfl (lv_at hl 4 rfl) ?_
        refine lv_iload hx hb dL_law_1129 (lv_at hl 0 rfl) ?_
        refine lv_iconst (v := 1) hx hb dL_law_1131 (by decide) ?_
        refine lv_iadd hx hb dL_law_1132 ?_
        refine va_sld hx hb hX hbl hbA hS (lw_ix (k := 1) hL hin (by decide) (by decide)) dL_law_1133 ?_
        refine lv_aload_n hx hb dL_law_1134 rfl (lv_at hl 4 rfl) ?_
        refine lv_iload hx hb dL_law_1135 (lv_at hl 0 rfl) ?_
        refine lv_iconst (v := 2) hx hb dL_law_1137 (by decide) ?_
        refine lv_iadd hx hb dL_law_1138 ?_
        refine va_sld hx hb hX hbl hbA hS (lw_ix (k := 2) hL hin (by decide) (by decide)) dL_law_1139 ?_
        refine lv_aload_n hx hb dL_law_1140 rfl (lv_at hl 4 rfl) ?_
        refine lv_iload hx hb dL_law_1141 (lv_at hl 0 rfl) ?_
        refine lv_iconst (v := 3) hx hb dL_law_1143 (by decide) ?_
        refine lv_iadd hx hb dL_law_1144 ?_
        refine va_sld hx hb hX hbl hbA hS (lw_ix (k := 3) hL hin (by decide) (by decide)) dL_law_1145 ?_
        refine lv_if_eq (tgt := 1153) hx hb dL_law_1146 (by decide) (fun c_449 => ?_) (fun c_449 => ?_)
        · refine lv_iconst (v := 0) hx hb dL_law_1153 (by decide) ?_
          have hF := gFree hDM hS hA
          refine va_calllD hd0 (va_runV_D (As := [.int (xs ((nI (6 * j)) + 1).toNatClampNeg), .int (xs ((nI (6 * j)) + 2).toNatClampNeg), .int 0]) (rest := []) ⟨hx, hb, hml, hown, hts⟩ (n_X12_rest l dC dI am cM adK adV H.size τ hIM (xs ((nI (6 * j)) + 1).toNatClampNeg) (xs ((nI (6 * j)) + 2).toNatClampNeg) 0 hDp) (cwV 3 hts gL0_X12_rest rfl rfl rfl (by decide +kernel) ⟨Nat.le_of_ble_eq_true rfl, Nat.le_of_ble_eq_true rfl⟩) ⟨gBlind, va_recv hKM hPM (ci := 11) (q0 := 0) rfl (mat_11 rfl), gStart (As := [.ref (am 0), .int (xs ((nI (6 * j)) + 1).toNatClampNeg), .int (xs ((nI (6 * j)) + 2).toNatClampNeg), .int 0]) hPM hDM hKM0 hT hS hF (d_444)⟩ rfl rfl hl.1 rfl (lv_room (Nat.le_of_ble_eq_true rfl)) dL_law_1154 ⟨by omega, by omega⟩) hS (fun q _ h => hF q h) hF (fun r_450 τz_451 t H1 locs ht hvm hw hB hz1 hk1 hS d_452 hd0 => ?_)
          have hts := dr_words hts0 (d_452)
          have hKX := gKd hKX0 (d_452)
          have hKM := gKd hKM0 (d_452)
          have hown : (s.setDrawn (d_452)).vm.findClass RL = some m.cls := hown0
          have hX : va_X b L xs (s.setDrawn (d_452)) s.heap := hX0
          obtain ⟨hPM, hDM⟩ := gBack hF ht hB
          obtain ⟨hI_454, fc_455, hp_453⟩ := hw
          have hPX := gOther hPX hk1 (dj_sym (dj_G dj))
          have hPO := gOther hPO hk1 (dj_1 djM)
          generalize H1 = H at hPX hPM hPO hS ⊢
          have dp_456 : Deep τz_451 := (Deep.fr hDp (fc_455.1 2 (by decide) (by decide)) (fc_455.1 4 (by decide) (by decide)) (fc_455.1 9 (by decide) (by decide)) (fc_455.1 11 (by decide) (by decide)) (fc_455.1 12 (by decide) (by decide)) (fc_455.1 17 (by decide) (by decide)) (fc_455.1 18 (by decide) (by decide)) (fc_455.2 20 (by decide)) (fc_455.2 21 (by decide)) (fc_455.2 28 (by decide)) (fc_455.2 64 (by decide)) (fc_455.2 65 (by decide)) (fc_455.2 68 (by decide)))
          have hq_457 : (σz_443 2).1 1 = (τz_451 0).1 31 := hq_448.trans (fc_455.2 31 (by decide)).symm
          refine lv_pop2_2 hx hb dL_law_1157 rfl ?_
          refine lv_goto (tgt := 1850) hx hb dL_law_1158 (by decide) ?_
          obtain ⟨x_458, ex_458⟩ : ∃ zz : Int32, zz = (nI (6 * j)) + 6 := ⟨_, rfl⟩
          refine lv_iinc (v := x_458) (lv' := [(4, .int x_458), (3, .ref lo), (2, .ref (am 0)), (1, .ref (ad 0)), (0, .ref b)]) hx hb dL_law_1850 hl (k := 0) rfl (by rw [ex_458]; rfl) (by decide) rfl (fun ls hl => ?_)
          refine lv_goto (tgt := 23) hx hb dL_law_1853 (by decide) ?_
          have hl := lv_sub hl [0, 1, 2, 3, 4] rfl
          rw [ex_458, nI_6] at hl
          exact ih (j + 1) σz_443 τz_451 f _ _ _ _ _ _ (by omega) (by omega) hI_446 hI_454 dp_456 hq_457 (by omega) (by omega) hd0 hPX hDX hPM hDM hPO hDO hS hl
        · exact absurd c_441 c_449
      · refine lv_iconst (v := 1) hx hb dL_law_1118 (by decide) ?_
        refine lv_goto (tgt := 1123) hx hb dL_law_1119 (by decide) ?_
        have hF := gFree hDX hS hA
        refine va_calllD hd0 (va_runV_D (As := [.int (xs ((nI (6 * j)) + 1).toNatClampNeg), .int (xs ((nI (6 * j)) + 2).toNatClampNeg), .int 1]) (rest := []) ⟨hx, hb, hml, hown, hts⟩ (n_X11_rest l dC dI ad cA adK adV H.size σ hIX (xs ((nI (6 * j)) + 1).toNatClampNeg) (xs ((nI (6 * j)) + 2).toNatClampNeg) 1 ) (cwV 3 hts gL0_X11_rest rfl rfl rfl (by decide +kernel) ⟨Nat.le_of_ble_eq_true rfl, Nat.le_of_ble_eq_true rfl⟩) ⟨gBlind, va_recv hKX hPX (ci := 10) (q0 := 0) rfl (at_10 rfl), gStart (As := [.ref (ad 0), .int (xs ((nI (6 * j)) + 1).toNatClampNeg), .int (xs ((nI (6 * j)) + 2).toNatClampNeg), .int 1]) hPX hDX hKX0 hT hS hF (d)⟩ rfl rfl hl.1 rfl (lv_room (Nat.le_of_ble_eq_true rfl)) dL_law_1123 ⟨by omega, by omega⟩) hS (fun q _ h => hF q h) hF (fun r_459 σz_460 t H1 locs ht hvm hw hB hz1 hk1 hS d_461 hd0 => ?_)
        have hts := dr_words hts0 (d_461)
        have hKX := gKd hKX0 (d_461)
        have hKM := gKd hKM0 (d_461)
        have hown : (s.setDrawn (d_461)).vm.findClass RL = some m.cls := hown0
        have hX : va_X b L xs (s.setDrawn (d_461)) s.heap := hX0
        obtain ⟨hPX, hDX⟩ := gBack hF ht hB
        obtain ⟨hI_463, fc_464, hp_462⟩ := hw
        have hPM := gOther hPM hk1 (dj_G dj)
        have hPO := gOther hPO hk1 (dj_1 djX)
        generalize H1 = H at hPX hPM hPO hS ⊢
        have hq_465 : (σz_460 2).1 1 = (τ 0).1 31 := by rw [fc_464 2 (by decide)]; exact hEq
        refine lv_pop2_2 hx hb dL_law_1126 rfl ?_
        refine lv_aload_n hx hb dL_law_1127 rfl (lv_at hl 2 rfl) ?_
        refine lv_aload_n hx hb dL_law_1128 rfl (lv_at hl 4 rfl) ?_
        refine lv_iload hx hb dL_law_1129 (lv_at hl 0 rfl) ?_
        refine lv_iconst (v := 1) hx hb dL_law_1131 (by decide) ?_
        refine lv_iadd hx hb dL_law_1132 ?_
        refine va_sld hx hb hX hbl hbA hS (lw_ix (k := 1) hL hin (by decide) (by decide)) dL_law_1133 ?_
        refine lv_aload_n hx hb dL_law_1134 rfl (lv_at hl 4 rfl) ?_
        refine lv_iload hx hb dL_law_1135 (lv_at hl 0 rfl) ?_
        refine lv_iconst (v := 2) hx hb dL_law_1137 (by decide) ?_
        refine lv_iadd hx hb dL_law_1138 ?_
        refine va_sld hx hb hX hbl hbA hS (lw_ix (k := 2) hL hin (by decide) (by decide)) dL_law_1139 ?_
        refine lv_aload_n hx hb dL_law_1140 rfl (lv_at hl 4 rfl) ?_
        refine lv_iload hx hb dL_law_1141 (lv_at hl 0 rfl) ?_
        refine lv_iconst (v := 3) hx hb dL_law_1143 (by decide) ?_
        refine lv_iadd hx hb dL_law_1144 ?_
        refine va_sld hx hb hX hbl hbA hS (lw_ix (k := 3) hL hin (by decide) (by decide)) dL_law_1145 ?_
        refine lv_if_eq (tgt := 1153) hx hb dL_law_1146 (by decide) (fun c_466 => ?_) (fun c_466 => ?_)
        · exact absurd c_466 c_441
        · refine lv_iconst (v := 1) hx hb dL_law_1149 (by decide) ?_
          refine lv_goto (tgt := 1154) hx hb dL_law_1150 (by decide) ?_
          have hF := gFree hDM hS hA
          refine va_calllD hd0 (va_runV_D (As := [.int (xs ((nI (6 * j)) + 1).toNatClampNeg), .int (xs ((nI (6 * j)) + 2).toNatClampNeg), .int 1]) (rest := []) ⟨hx, hb, hml, hown, hts⟩ (n_X12_rest l dC dI am cM adK adV H.size τ hIM (xs ((nI (6 * j)) + 1).toNatClampNeg) (xs ((nI (6 * j)) + 2).toNatClampNeg) 1 hDp) (cwV 3 hts gL0_X12_rest rfl rfl rfl (by decide +kernel) ⟨Nat.le_of_ble_eq_true rfl, Nat.le_of_ble_eq_true rfl⟩) ⟨gBlind, va_recv hKM hPM (ci := 11) (q0 := 0) rfl (mat_11 rfl), gStart (As := [.ref (am 0), .int (xs ((nI (6 * j)) + 1).toNatClampNeg), .int (xs ((nI (6 * j)) + 2).toNatClampNeg), .int 1]) hPM hDM hKM0 hT hS hF (d_461)⟩ rfl rfl hl.1 rfl (lv_room (Nat.le_of_ble_eq_true rfl)) dL_law_1154 ⟨by omega, by omega⟩) hS (fun q _ h => hF q h) hF (fun r_467 τz_468 t H1 locs ht hvm hw hB hz1 hk1 hS d_469 hd0 => ?_)
          have hts := dr_words hts0 (d_469)
          have hKX := gKd hKX0 (d_469)
          have hKM := gKd hKM0 (d_469)
          have hown : (s.setDrawn (d_469)).vm.findClass RL = some m.cls := hown0
          have hX : va_X b L xs (s.setDrawn (d_469)) s.heap := hX0
          obtain ⟨hPM, hDM⟩ := gBack hF ht hB
          obtain ⟨hI_471, fc_472, hp_470⟩ := hw
          have hPX := gOther hPX hk1 (dj_sym (dj_G dj))
          have hPO := gOther hPO hk1 (dj_1 djM)
          generalize H1 = H at hPX hPM hPO hS ⊢
          have dp_473 : Deep τz_468 := (Deep.fr hDp (fc_472.1 2 (by decide) (by decide)) (fc_472.1 4 (by decide) (by decide)) (fc_472.1 9 (by decide) (by decide)) (fc_472.1 11 (by decide) (by decide)) (fc_472.1 12 (by decide) (by decide)) (fc_472.1 17 (by decide) (by decide)) (fc_472.1 18 (by decide) (by decide)) (fc_472.2 20 (by decide)) (fc_472.2 21 (by decide)) (fc_472.2 28 (by decide)) (fc_472.2 64 (by decide)) (fc_472.2 65 (by decide)) (fc_472.2 68 (by decide)))
          have hq_474 : (σz_460 2).1 1 = (τz_468 0).1 31 := hq_465.trans (fc_472.2 31 (by decide)).symm
          refine lv_pop2_2 hx hb dL_law_1157 rfl ?_
          refine lv_goto (tgt := 1850) hx hb dL_law_1158 (by decide) ?_
          obtain ⟨x_475, ex_475⟩ : ∃ zz : Int32, zz = (nI (6 * j)) + 6 := ⟨_, rfl⟩
          refine lv_iinc (v := x_475) (lv' := [(4, .int x_475), (3, .ref lo), (2, .ref (am 0)), (1, .ref (ad 0)), (0, .ref b)]) hx hb dL_law_1850 hl (k := 0) rfl (by rw [ex_475]; rfl) (by decide) rfl (fun ls hl => ?_)
          refine lv_goto (tgt := 23) hx hb dL_law_1853 (by decide) ?_
          have hl := lv_sub hl [0, 1, 2, 3, 4] rfl
          rw [ex_475, nI_6] at hl
          exact ih (j + 1) σz_460 τz_468 f _ _ _ _ _ _ (by omega) (by omega) hI_463 hI_471 dp_473 hq_474 (by omega) (by omega) hd0 hPX hDX hPM hDM hPO hDO hS hl
    by_cases c_476 : ((xs (nI (6 * j)).toNatClampNeg) &&& 63) = 21
    · refine lv_tableIn (tgt := 1161) hx hb dL_law_40 (by rw [c_476]; decide) (by rw [c_476]; decide) (by rw [c_476]; rfl) (by decide) ?_
      refine lv_aload_n hx hb dL_law_1161 rfl (lv_at hl 3 rfl) ?_
      refine lv_aload_n hx hb dL_law_1162 rfl (lv_at hl 4 rfl) ?_
      refine lv_iload hx hb dL_law_1163 (lv_at hl 0 rfl) ?_
      refine lv_iconst (v := 1) hx hb dL_law_1165 (by decide) ?_
      refine lv_iadd hx hb dL_law_1166 ?_
      refine va_sld hx hb hX hbl hbA hS (lw_ix (k := 1) hL hin (by decide) (by decide)) dL_law_1167 ?_
      refine lv_aload_n hx hb dL_law_1168 rfl (lv_at hl 4 rfl) ?_
      refine lv_iload hx hb dL_law_1169 (lv_at hl 0 rfl) ?_
      refine lv_iconst (v := 2) hx hb dL_law_1171 (by decide) ?_
      refine lv_iadd hx hb dL_law_1172 ?_
      refine va_sld hx hb hX hbl hbA hS (lw_ix (k := 2) hL hin (by decide) (by decide)) dL_law_1173 ?_
      refine lv_aload_n hx hb dL_law_1174 rfl (lv_at hl 4 rfl) ?_
      refine lv_iload hx hb dL_law_1175 (lv_at hl 0 rfl) ?_
      refine lv_iconst (v := 3) hx hb dL_law_1177 (by decide) ?_
      refine lv_iadd hx hb dL_law_1178 ?_
      refine va_sld hx hb hX hbl hbA hS (lw_ix (k := 3) hL hin (by decide) (by decide)) dL_law_1179 ?_
      have hF := gFree hDX hS hA
      refine va_calllD hd0 (va_runV_D (As := [.int (xs ((nI (6 * j)) + 1).toNatClampNeg), .int (xs ((nI (6 * j)) + 2).toNatClampNeg), .int (xs ((nI (6 * j)) + 3).toNatClampNeg)]) (rest := []) ⟨hx, hb, hml, hown, hts⟩ (n_X11_dirty l dC dI ad cA adK adV H.size σ hIX (xs ((nI (6 * j)) + 1).toNatClampNeg) (xs ((nI (6 * j)) + 2).toNatClampNeg) (xs ((nI (6 * j)) + 3).toNatClampNeg) ) (cwV 3 hts gL0_X11_dirty rfl rfl rfl (by decide +kernel) ⟨Nat.le_of_ble_eq_true rfl, Nat.le_of_ble_eq_true rfl⟩) ⟨gBlind, va_recv hKX hPX (ci := 10) (q0 := 0) rfl (at_10 rfl), gStart (As := [.ref (ad 0), .int (xs ((nI (6 * j)) + 1).toNatClampNeg), .int (xs ((nI (6 * j)) + 2).toNatClampNeg), .int (xs ((nI (6 * j)) + 3).toNatClampNeg)]) hPX hDX hKX0 hT hS hF (d)⟩ rfl rfl hl.1 rfl (lv_room (Nat.le_of_ble_eq_true rfl)) dL_law_1180 ⟨by omega, by omega⟩) hS (fun q _ h => hF q h) hF (fun r_477 σz_478 t H1 locs ht hvm hw hB hz1 hk1 hS d_479 hd0 => ?_)
      have hts := dr_words hts0 (d_479)
      have hKX := gKd hKX0 (d_479)
      have hKM := gKd hKM0 (d_479)
      have hown : (s.setDrawn (d_479)).vm.findClass RL = some m.cls := hown0
      have hX : va_X b L xs (s.setDrawn (d_479)) s.heap := hX0
      obtain ⟨hPX, hDX⟩ := gBack hF ht hB
      obtain ⟨hI_481, fc_482, hp_480⟩ := hw
      have hPM := gOther hPM hk1 (dj_G dj)
      have hPO := gOther hPO hk1 (dj_1 djX)
      generalize H1 = H at hPX hPM hPO hS ⊢
      have hq_483 : (σz_478 2).1 1 = (τ 0).1 31 := by rw [fc_482 2 (by decide)]; exact hEq
      refine lv_pop2_2 hx hb dL_law_1183 rfl ?_
      refine lv_aload_n hx hb dL_law_1184 rfl (lv_at hl 2 rfl) ?_
      refine lv_aload_n hx hb dL_law_1185 rfl (lv_at hl 4 rfl) ?_
      refine lv_iload hx hb dL_law_1186 (lv_at hl 0 rfl) ?_
      refine lv_iconst (v := 1) hx hb dL_law_1188 (by decide) ?_
      refine lv_iadd hx hb dL_law_1189 ?_
      refine va_sld hx hb hX hbl hbA hS (lw_ix (k := 1) hL hin (by decide) (by decide)) dL_law_1190 ?_
      refine lv_aload_n hx hb dL_law_1191 rfl (lv_at hl 4 rfl) ?_
      refine lv_iload hx hb dL_law_1192 (lv_at hl 0 rfl) ?_
      refine lv_iconst (v := 2) hx hb dL_law_1194 (by decide) ?_
      refine lv_iadd hx hb dL_law_1195 ?_
      refine va_sld hx hb hX hbl hbA hS (lw_ix (k := 2) hL hin (by decide) (by decide)) dL_law_1196 ?_
      refine lv_aload_n hx hb dL_law_1197 rfl (lv_at hl 4 rfl) ?_
      refine lv_iload hx hb dL_law_1198 (lv_at hl 0 rfl) ?_
      refine lv_iconst (v := 3) hx hb dL_law_1200 (by decide) ?_
      refine lv_iadd hx hb dL_law_1201 ?_
      refine va_sld hx hb hX hbl hbA hS (lw_ix (k := 3) hL hin (by decide) (by decide)) dL_law_1202 ?_
      have hF := gFree hDM hS hA
      refine va_calllD hd0 (va_runV_D (As := [.int (xs ((nI (6 * j)) + 1).toNatClampNeg), .int (xs ((nI (6 * j)) + 2).toNatClampNeg), .int (xs ((nI (6 * j)) + 3).toNatClampNeg)]) (rest := []) ⟨hx, hb, hml, hown, hts⟩ (n_X12_dirty l dC dI am cM adK adV H.size τ hIM (xs ((nI (6 * j)) + 1).toNatClampNeg) (xs ((nI (6 * j)) + 2).toNatClampNeg) (xs ((nI (6 * j)) + 3).toNatClampNeg) hDp) (cwV 3 hts gL0_X12_dirty rfl rfl rfl (by decide +kernel) ⟨Nat.le_of_ble_eq_true rfl, Nat.le_of_ble_eq_true rfl⟩) ⟨gBlind, va_recv hKM hPM (ci := 11) (q0 := 0) rfl (mat_11 rfl), gStart (As := [.ref (am 0), .int (xs ((nI (6 * j)) + 1).toNatClampNeg), .int (xs ((nI (6 * j)) + 2).toNatClampNeg), .int (xs ((nI (6 * j)) + 3).toNatClampNeg)]) hPM hDM hKM0 hT hS hF (d_479)⟩ rfl rfl hl.1 rfl (lv_room (Nat.le_of_ble_eq_true rfl)) dL_law_1203 ⟨by omega, by omega⟩) hS (fun q _ h => hF q h) hF (fun r_484 τz_485 t H1 locs ht hvm hw hB hz1 hk1 hS d_486 hd0 => ?_)
      have hts := dr_words hts0 (d_486)
      have hKX := gKd hKX0 (d_486)
      have hKM := gKd hKM0 (d_486)
      have hown : (s.setDrawn (d_486)).vm.findClass RL = some m.cls := hown0
      have hX : va_X b L xs (s.setDrawn (d_486)) s.heap := hX0
      obtain ⟨hPM, hDM⟩ := gBack hF ht hB
      obtain ⟨hI_488, fc_489, hp_487⟩ := hw
      have hPX := gOther hPX hk1 (dj_sym (dj_G dj))
      have hPO := gOther hPO hk1 (dj_1 djM)
      generalize H1 = H at hPX hPM hPO hS ⊢
      have dp_490 : Deep τz_485 := (Deep.fr hDp (fc_489.1 2 (by decide) (by decide)) (fc_489.1 4 (by decide) (by decide)) (fc_489.1 9 (by decide) (by decide)) (fc_489.1 11 (by decide) (by decide)) (fc_489.1 12 (by decide) (by decide)) (fc_489.1 17 (by decide) (by decide)) (fc_489.1 18 (by decide) (by decide)) (fc_489.2 20 (by decide)) (fc_489.2 21 (by decide)) (fc_489.2 28 (by decide)) (fc_489.2 64 (by decide)) (fc_489.2 65 (by decide)) (fc_489.2 68 (by decide)))
      have hq_491 : (σz_478 2).1 1 = (τz_485 0).1 31 := hq_483.trans (fc_489.2 31 (by decide)).symm
      refine lv_pop2_2 hx hb dL_law_1206 rfl ?_
      refine lv_goto (tgt := 1850) hx hb dL_law_1207 (by decide) ?_
      obtain ⟨x_492, ex_492⟩ : ∃ zz : Int32, zz = (nI (6 * j)) + 6 := ⟨_, rfl⟩
      refine lv_iinc (v := x_492) (lv' := [(4, .int x_492), (3, .ref lo), (2, .ref (am 0)), (1, .ref (ad 0)), (0, .ref b)]) hx hb dL_law_1850 hl (k := 0) rfl (by rw [ex_492]; rfl) (by decide) rfl (fun ls hl => ?_)
      refine lv_goto (tgt := 23) hx hb dL_law_1853 (by decide) ?_
      have hl := lv_sub hl [0, 1, 2, 3, 4] rfl
      rw [ex_492, nI_6] at hl
      exact ih (j + 1) σz_478 τz_485 f _ _ _ _ _ _ (by omega) (by omega) hI_481 hI_488 dp_490 hq_491 (by omega) (by omega) hd0 hPX hDX hPM hDM hPO hDO hS hl
    by_cases c_493 : ((xs (nI (6 * j)).toNatClampNeg) &&& 63) = 22
    · refine lv_tableIn (tgt := 1210) hx hb dL_law_40 (by rw [c_493]; decide) (by rw [c_493]; decide) (by rw [c_493]; rfl) (by decide) ?_
      refine lv_aload_n hx hb dL_law_1210 rfl (lv_at hl 3 rfl) ?_
      refine lv_aload_n hx hb dL_law_1211 rfl (lv_at hl 4 rfl) ?_
      refine lv_iload hx hb dL_law_1212 (lv_at hl 0 rfl) ?_
      refine lv_iconst (v := 1) hx hb dL_law_1214 (by decide) ?_
      refine lv_iadd hx hb dL_law_1215 ?_
      refine va_sld hx hb hX hbl hbA hS (lw_ix (k := 1) hL hin (by decide) (by decide)) dL_law_1216 ?_
      refine lv_aload_n hx hb dL_law_1217 rfl (lv_at hl 4 rfl) ?_
      refine lv_iload hx hb dL_law_1218 (lv_at hl 0 rfl) ?_
      refine lv_iconst (v := 2) hx hb dL_law_1220 (by decide) ?_
      refine lv_iadd hx hb dL_law_1221 ?_
      refine va_sld hx hb hX hbl hbA hS (lw_ix (k := 2) hL hin (by decide) (by decide)) dL_law_1222 ?_
      refine lv_aload_n hx hb dL_law_1223 rfl (lv_at hl 4 rfl) ?_
      refine lv_iload hx hb dL_law_1224 (lv_at hl 0 rfl) ?_
      refine lv_iconst (v := 3) hx hb dL_law_1226 (by decide) ?_
      refine lv_iadd hx hb dL_law_1227 ?_
      refine va_sld hx hb hX hbl hbA hS (lw_ix (k := 3) hL hin (by decide) (by decide)) dL_law_1228 ?_
      have hF := gFree hDX hS hA
      refine va_calllD hd0 (va_runV_D (As := [.int (xs ((nI (6 * j)) + 1).toNatClampNeg), .int (xs ((nI (6 * j)) + 2).toNatClampNeg), .int (xs ((nI (6 * j)) + 3).toNatClampNeg)]) (rest := []) ⟨hx, hb, hml, hown, hts⟩ (n_X11_clean l dC dI ad cA adK adV H.size σ hIX (xs ((nI (6 * j)) + 1).toNatClampNeg) (xs ((nI (6 * j)) + 2).toNatClampNeg) (xs ((nI (6 * j)) + 3).toNatClampNeg) ) (cwV 3 hts gL0_X11_clean rfl rfl rfl (by decide +kernel) ⟨Nat.le_of_ble_eq_true rfl, Nat.le_of_ble_eq_true rfl⟩) ⟨gBlind, va_recv hKX hPX (ci := 10) (q0 := 0) rfl (at_10 rfl), gStart (As := [.ref (ad 0), .int (xs ((nI (6 * j)) + 1).toNatClampNeg), .int (xs ((nI (6 * j)) + 2).toNatClampNeg), .int (xs ((nI (6 * j)) + 3).toNatClampNeg)]) hPX hDX hKX0 hT hS hF (d)⟩ rfl rfl hl.1 rfl (lv_room (Nat.le_of_ble_eq_true rfl)) dL_law_1229 ⟨by omega, by omega⟩) hS (fun q _ h => hF q h) hF (fun r_494 σz_495 t H1 locs ht hvm hw hB hz1 hk1 hS d_496 hd0 => ?_)
      have hts := dr_words hts0 (d_496)
      have hKX := gKd hKX0 (d_496)
      have hKM := gKd hKM0 (d_496)
      have hown : (s.setDrawn (d_496)).vm.findClass RL = some m.cls := hown0
      have hX : va_X b L xs (s.setDrawn (d_496)) s.heap := hX0
      obtain ⟨hPX, hDX⟩ := gBack hF ht hB
      obtain ⟨hI_498, fc_499, hp_497⟩ := hw
      have hPM := gOther hPM hk1 (dj_G dj)
      have hPO := gOther hPO hk1 (dj_1 djX)
      generalize H1 = H at hPX hPM hPO hS ⊢
      have hq_500 : (σz_495 2).1 1 = (τ 0).1 31 := by rw [fc_499 2 (by decide)]; exact hEq
      refine lv_pop2_2 hx hb dL_law_1232 rfl ?_
      refine lv_aload_n hx hb dL_law_1233 rfl (lv_at hl 2 rfl) ?_
      refine lv_aload_n hx hb dL_law_1234 rfl (lv_at hl 4 rfl) ?_
      refine lv_iload hx hb dL_law_1235 (lv_at hl 0 rfl) ?_
      refine lv_iconst (v := 1) hx hb dL_law_1237 (by decide) ?_
      refine lv_iadd hx hb dL_law_1238 ?_
      refine va_sld hx hb hX hbl hbA hS (lw_ix (k := 1) hL hin (by decide) (by decide)) dL_law_1239 ?_
      refine lv_aload_n hx hb dL_law_1240 rfl (lv_at hl 4 rfl) ?_
      refine lv_iload hx hb dL_law_1241 (lv_at hl 0 rfl) ?_
      refine lv_iconst (v := 2) hx hb dL_law_1243 (by decide) ?_
      refine lv_iadd hx hb dL_law_1244 ?_
      refine va_sld hx hb hX hbl hbA hS (lw_ix (k := 2) hL hin (by decide) (by decide)) dL_law_1245 ?_
      refine lv_aload_n hx hb dL_law_1246 rfl (lv_at hl 4 rfl) ?_
      refine lv_iload hx hb dL_law_1247 (lv_at hl 0 rfl) ?_
      refine lv_iconst (v := 3) hx hb dL_law_1249 (by decide) ?_
      refine lv_iadd hx hb dL_law_1250 ?_
      refine va_sld hx hb hX hbl hbA hS (lw_ix (k := 3) hL hin (by decide) (by decide)) dL_law_1251 ?_
      have hF := gFree hDM hS hA
      refine va_calllD hd0 (va_runV_D (As := [.int (xs ((nI (6 * j)) + 1).toNatClampNeg), .int (xs ((nI (6 * j)) + 2).toNatClampNeg), .int (xs ((nI (6 * j)) + 3).toNatClampNeg)]) (rest := []) ⟨hx, hb, hml, hown, hts⟩ (n_X12_clean l dC dI am cM adK adV H.size τ hIM (xs ((nI (6 * j)) + 1).toNatClampNeg) (xs ((nI (6 * j)) + 2).toNatClampNeg) (xs ((nI (6 * j)) + 3).toNatClampNeg) hDp) (cwV 3 hts gL0_X12_clean rfl rfl rfl (by decide +kernel) ⟨Nat.le_of_ble_eq_true rfl, Nat.le_of_ble_eq_true rfl⟩) ⟨gBlind, va_recv hKM hPM (ci := 11) (q0 := 0) rfl (mat_11 rfl), gStart (As := [.ref (am 0), .int (xs ((nI (6 * j)) + 1).toNatClampNeg), .int (xs ((nI (6 * j)) + 2).toNatClampNeg), .int (xs ((nI (6 * j)) + 3).toNatClampNeg)]) hPM hDM hKM0 hT hS hF (d_496)⟩ rfl rfl hl.1 rfl (lv_room (Nat.le_of_ble_eq_true rfl)) dL_law_1252 ⟨by omega, by omega⟩) hS (fun q _ h => hF q h) hF (fun r_501 τz_502 t H1 locs ht hvm hw hB hz1 hk1 hS d_503 hd0 => ?_)
      have hts := dr_words hts0 (d_503)
      have hKX := gKd hKX0 (d_503)
      have hKM := gKd hKM0 (d_503)
      have hown : (s.setDrawn (d_503)).vm.findClass RL = some m.cls := hown0
      have hX : va_X b L xs (s.setDrawn (d_503)) s.heap := hX0
      obtain ⟨hPM, hDM⟩ := gBack hF ht hB
      obtain ⟨hI_505, fc_506, hp_504⟩ := hw
      have hPX := gOther hPX hk1 (dj_sym (dj_G dj))
      have hPO := gOther hPO hk1 (dj_1 djM)
      generalize H1 = H at hPX hPM hPO hS ⊢
      have dp_507 : Deep τz_502 := (Deep.fr hDp (fc_506.1 2 (by decide) (by decide)) (fc_506.1 4 (by decide) (by decide)) (fc_506.1 9 (by decide) (by decide)) (fc_506.1 11 (by decide) (by decide)) (fc_506.1 12 (by decide) (by decide)) (fc_506.1 17 (by decide) (by decide)) (fc_506.1 18 (by decide) (by decide)) (fc_506.2 20 (by decide)) (fc_506.2 21 (by decide)) (fc_506.2 28 (by decide)) (fc_506.2 64 (by decide)) (fc_506.2 65 (by decide)) (fc_506.2 68 (by decide)))
      have hq_508 : (σz_495 2).1 1 = (τz_502 0).1 31 := hq_500.trans (fc_506.2 31 (by decide)).symm
      refine lv_pop2_2 hx hb dL_law_1255 rfl ?_
      refine lv_goto (tgt := 1850) hx hb dL_law_1256 (by decide) ?_
      obtain ⟨x_509, ex_509⟩ : ∃ zz : Int32, zz = (nI (6 * j)) + 6 := ⟨_, rfl⟩
      refine lv_iinc (v := x_509) (lv' := [(4, .int x_509), (3, .ref lo), (2, .ref (am 0)), (1, .ref (ad 0)), (0, .ref b)]) hx hb dL_law_1850 hl (k := 0) rfl (by rw [ex_509]; rfl) (by decide) rfl (fun ls hl => ?_)
      refine lv_goto (tgt := 23) hx hb dL_law_1853 (by decide) ?_
      have hl := lv_sub hl [0, 1, 2, 3, 4] rfl
      rw [ex_509, nI_6] at hl
      exact ih (j + 1) σz_495 τz_502 f _ _ _ _ _ _ (by omega) (by omega) hI_498 hI_505 dp_507 hq_508 (by omega) (by omega) hd0 hPX hDX hPM hDM hPO hDO hS hl
    by_cases c_510 : ((xs (nI (6 * j)).toNatClampNeg) &&& 63) = 23
    · refine lv_tableIn (tgt := 1259) hx hb dL_law_40 (by rw [c_510]; decide) (by rw [c_510]; decide) (by rw [c_510]; rfl) (by decide) ?_
      refine lv_aload_n hx hb dL_law_1259 rfl (lv_at hl 3 rfl) ?_
      refine lv_aload_n hx hb dL_law_1260 rfl (lv_at hl 4 rfl) ?_
      refine lv_iload hx hb dL_law_1261 (lv_at hl 0 rfl) ?_
      refine lv_iconst (v := 1) hx hb dL_law_1263 (by decide) ?_
      refine lv_iadd hx hb dL_law_1264 ?_
      refine va_sld hx hb hX hbl hbA hS (lw_ix (k := 1) hL hin (by decide) (by decide)) dL_law_1265 ?_
      refine lv_aload_n hx hb dL_law_1266 rfl (lv_at hl 4 rfl) ?_
      refine lv_iload hx hb dL_law_1267 (lv_at hl 0 rfl) ?_
      refine lv_iconst (v := 2) hx hb dL_law_1269 (by decide) ?_
      refine lv_iadd hx hb dL_law_1270 ?_
      refine va_sld hx hb hX hbl hbA hS (lw_ix (k := 2) hL hin (by decide) (by decide)) dL_law_1271 ?_
      refine lv_aload_n hx hb dL_law_1272 rfl (lv_at hl 4 rfl) ?_
      refine lv_iload hx hb dL_law_1273 (lv_at hl 0 rfl) ?_
      refine lv_iconst (v := 3) hx hb dL_law_1275 (by decide) ?_
      refine lv_iadd hx hb dL_law_1276 ?_
      refine va_sld hx hb hX hbl hbA hS (lw_ix (k := 3) hL hin (by decide) (by decide)) dL_law_1277 ?_
      have hF := gFree hDX hS hA
      refine va_calllD hd0 (va_runV_D (As := [.int (xs ((nI (6 * j)) + 1).toNatClampNeg), .int (xs ((nI (6 * j)) + 2).toNatClampNeg), .int (xs ((nI (6 * j)) + 3).toNatClampNeg)]) (rest := []) ⟨hx, hb, hml, hown, hts⟩ (n_X11_risk l dC dI ad cA adK adV H.size σ hIX (xs ((nI (6 * j)) + 1).toNatClampNeg) (xs ((nI (6 * j)) + 2).toNatClampNeg) (xs ((nI (6 * j)) + 3).toNatClampNeg) ) (cwV 3 hts gL0_X11_risk rfl rfl rfl (by decide +kernel) ⟨Nat.le_of_ble_eq_true rfl, Nat.le_of_ble_eq_true rfl⟩) ⟨gBlind, va_recv hKX hPX (ci := 10) (q0 := 0) rfl (at_10 rfl), gStart (As := [.ref (ad 0), .int (xs ((nI (6 * j)) + 1).toNatClampNeg), .int (xs ((nI (6 * j)) + 2).toNatClampNeg), .int (xs ((nI (6 * j)) + 3).toNatClampNeg)]) hPX hDX hKX0 hT hS hF (d)⟩ rfl rfl hl.1 rfl (lv_room (Nat.le_of_ble_eq_true rfl)) dL_law_1278 ⟨by omega, by omega⟩) hS (fun q _ h => hF q h) hF (fun r_511 σz_512 t H1 locs ht hvm hw hB hz1 hk1 hS d_513 hd0 => ?_)
      have hts := dr_words hts0 (d_513)
      have hKX := gKd hKX0 (d_513)
      have hKM := gKd hKM0 (d_513)
      have hown : (s.setDrawn (d_513)).vm.findClass RL = some m.cls := hown0
      have hX : va_X b L xs (s.setDrawn (d_513)) s.heap := hX0
      obtain ⟨hPX, hDX⟩ := gBack hF ht hB
      obtain ⟨hI_515, fc_516, hp_514⟩ := hw
      have hPM := gOther hPM hk1 (dj_G dj)
      have hPO := gOther hPO hk1 (dj_1 djX)
      generalize H1 = H at hPX hPM hPO hS ⊢
      have hq_517 : (σz_512 2).1 1 = (τ 0).1 31 := by rw [fc_516 2 (by decide)]; exact hEq
      refine lv_pop2_2 hx hb dL_law_1281 rfl ?_
      refine lv_aload_n hx hb dL_law_1282 rfl (lv_at hl 2 rfl) ?_
      refine lv_aload_n hx hb dL_law_1283 rfl (lv_at hl 4 rfl) ?_
      refine lv_iload hx hb dL_law_1284 (lv_at hl 0 rfl) ?_
      refine lv_iconst (v := 1) hx hb dL_law_1286 (by decide) ?_
      refine lv_iadd hx hb dL_law_1287 ?_
      refine va_sld hx hb hX hbl hbA hS (lw_ix (k := 1) hL hin (by decide) (by decide)) dL_law_1288 ?_
      refine lv_aload_n hx hb dL_law_1289 rfl (lv_at hl 4 rfl) ?_
      refine lv_iload hx hb dL_law_1290 (lv_at hl 0 rfl) ?_
      refine lv_iconst (v := 2) hx hb dL_law_1292 (by decide) ?_
      refine lv_iadd hx hb dL_law_1293 ?_
      refine va_sld hx hb hX hbl hbA hS (lw_ix (k := 2) hL hin (by decide) (by decide)) dL_law_1294 ?_
      refine lv_aload_n hx hb dL_law_1295 rfl (lv_at hl 4 rfl) ?_
      refine lv_iload hx hb dL_law_1296 (lv_at hl 0 rfl) ?_
      refine lv_iconst (v := 3) hx hb dL_law_1298 (by decide) ?_
      refine lv_iadd hx hb dL_law_1299 ?_
      refine va_sld hx hb hX hbl hbA hS (lw_ix (k := 3) hL hin (by decide) (by decide)) dL_law_1300 ?_
      have hF := gFree hDM hS hA
      refine va_calllD hd0 (va_runV_D (As := [.int (xs ((nI (6 * j)) + 1).toNatClampNeg), .int (xs ((nI (6 * j)) + 2).toNatClampNeg), .int (xs ((nI (6 * j)) + 3).toNatClampNeg)]) (rest := []) ⟨hx, hb, hml, hown, hts⟩ (n_X12_risk l dC dI am cM adK adV H.size τ hIM (xs ((nI (6 * j)) + 1).toNatClampNeg) (xs ((nI (6 * j)) + 2).toNatClampNeg) (xs ((nI (6 * j)) + 3).toNatClampNeg) hDp) (cwV 3 hts gL0_X12_risk rfl rfl rfl (by decide +kernel) ⟨Nat.le_of_ble_eq_true rfl, Nat.le_of_ble_eq_true rfl⟩) ⟨gBlind, va_recv hKM hPM (ci := 11) (q0 := 0) rfl (mat_11 rfl), gStart (As := [.ref (am 0), .int (xs ((nI (6 * j)) + 1).toNatClampNeg), .int (xs ((nI (6 * j)) + 2).toNatClampNeg), .int (xs ((nI (6 * j)) + 3).toNatClampNeg)]) hPM hDM hKM0 hT hS hF (d_513)⟩ rfl rfl hl.1 rfl (lv_room (Nat.le_of_ble_eq_true rfl)) dL_law_1301 ⟨by omega, by omega⟩) hS (fun q _ h => hF q h) hF (fun r_518 τz_519 t H1 locs ht hvm hw hB hz1 hk1 hS d_520 hd0 => ?_)
      have hts := dr_words hts0 (d_520)
      have hKX := gKd hKX0 (d_520)
      have hKM := gKd hKM0 (d_520)
      have hown : (s.setDrawn (d_520)).vm.findClass RL = some m.cls := hown0
      have hX : va_X b L xs (s.setDrawn (d_520)) s.heap := hX0
      obtain ⟨hPM, hDM⟩ := gBack hF ht hB
      obtain ⟨hI_522, fc_523, hp_521⟩ := hw
      have hPX := gOther hPX hk1 (dj_sym (dj_G dj))
      have hPO := gOther hPO hk1 (dj_1 djM)
      generalize H1 = H at hPX hPM hPO hS ⊢
      have dp_524 : Deep τz_519 := (Deep.fr hDp (fc_523.1 2 (by decide) (by decide)) (fc_523.1 4 (by decide) (by decide)) (fc_523.1 9 (by decide) (by decide)) (fc_523.1 11 (by decide) (by decide)) (fc_523.1 12 (by decide) (by decide)) (fc_523.1 17 (by decide) (by decide)) (fc_523.1 18 (by decide) (by decide)) (fc_523.2 20 (by decide)) (fc_523.2 21 (by decide)) (fc_523.2 28 (by decide)) (fc_523.2 64 (by decide)) (fc_523.2 65 (by decide)) (fc_523.2 68 (by decide)))
      have hq_525 : (σz_512 2).1 1 = (τz_519 0).1 31 := hq_517.trans (fc_523.2 31 (by decide)).symm
      refine lv_pop2_2 hx hb dL_law_1304 rfl ?_
      refine lv_goto (tgt := 1850) hx hb dL_law_1305 (by decide) ?_
      obtain ⟨x_526, ex_526⟩ : ∃ zz : Int32, zz = (nI (6 * j)) + 6 := ⟨_, rfl⟩
      refine lv_iinc (v := x_526) (lv' := [(4, .int x_526), (3, .ref lo), (2, .ref (am 0)), (1, .ref (ad 0)), (0, .ref b)]) hx hb dL_law_1850 hl (k := 0) rfl (by rw [ex_526]; rfl) (by decide) rfl (fun ls hl => ?_)
      refine lv_goto (tgt := 23) hx hb dL_law_1853 (by decide) ?_
      have hl := lv_sub hl [0, 1, 2, 3, 4] rfl
      rw [ex_526, nI_6] at hl
      exact ih (j + 1) σz_512 τz_519 f _ _ _ _ _ _ (by omega) (by omega) hI_515 hI_522 dp_524 hq_525 (by omega) (by omega) hd0 hPX hDX hPM hDM hPO hDO hS hl
    by_cases c_527 : ((xs (nI (6 * j)).toNatClampNeg) &&& 63) = 24
    · refine lv_tableIn (tgt := 1308) hx hb dL_law_40 (by rw [c_527]; decide) (by rw [c_527]; decide) (by rw [c_527]; rfl) (by decide) ?_
      refine lv_aload_n hx hb dL_law_1308 rfl (lv_at hl 3 rfl) ?_
      refine lv_aload_n hx hb dL_law_1309 rfl (lv_at hl 4 rfl) ?_
      refine lv_iload hx hb dL_law_1310 (lv_at hl 0 rfl) ?_
      refine lv_iconst (v := 1) hx hb dL_law_1312 (by decide) ?_
      refine lv_iadd hx hb dL_law_1313 ?_
      refine va_sld hx hb hX hbl hbA hS (lw_ix (k := 1) hL hin (by decide) (by decide)) dL_law_1314 ?_
      refine lv_aload_n hx hb dL_law_1315 rfl (lv_at hl 4 rfl) ?_
      refine lv_iload hx hb dL_law_1316 (lv_at hl 0 rfl) ?_
      refine lv_iconst (v := 2) hx hb dL_law_1318 (by decide) ?_
      refine lv_iadd hx hb dL_law_1319 ?_
      refine va_sld hx hb hX hbl hbA hS (lw_ix (k := 2) hL hin (by decide) (by decide)) dL_law_1320 ?_
      refine lv_aload_n hx hb dL_law_1321 rfl (lv_at hl 4 rfl) ?_
      refine lv_iload hx hb dL_law_1322 (lv_at hl 0 rfl) ?_
      refine lv_iconst (v := 3) hx hb dL_law_1324 (by decide) ?_
      refine lv_iadd hx hb dL_law_1325 ?_
      refine va_sld hx hb hX hbl hbA hS (lw_ix (k := 3) hL hin (by decide) (by decide)) dL_law_1326 ?_
      refine lv_aload_n hx hb dL_law_1327 rfl (lv_at hl 4 rfl) ?_
      refine lv_iload hx hb dL_law_1328 (lv_at hl 0 rfl) ?_
      refine lv_iconst (v := 4) hx hb dL_law_1330 (by decide) ?_
      refine lv_iadd hx hb dL_law_1331 ?_
      refine va_sld hx hb hX hbl hbA hS (lw_ix (k := 4) hL hin (by decide) (by decide)) dL_law_1332 ?_
      refine lv_aload_n hx hb dL_law_1333 rfl (lv_at hl 4 rfl) ?_
      refine lv_iload hx hb dL_law_1334 (lv_at hl 0 rfl) ?_
      refine lv_iconst (v := 5) hx hb dL_law_1336 (by decide) ?_
      refine lv_iadd hx hb dL_law_1337 ?_
      refine va_sld hx hb hX hbl hbA hS (lw_ix (k := 5) hL hin (by decide) (by decide)) dL_law_1338 ?_
      refine lv_if_eq (tgt := 1346) hx hb dL_law_1339 (by decide) (fun c_528 => ?_) (fun c_528 => ?_)
      · refine lv_iconst (v := 0) hx hb dL_law_1346 (by decide) ?_
        have hF := gFree hDX hS hA
        refine va_calllD hd0 (va_runV_D (As := [.int (xs ((nI (6 * j)) + 1).toNatClampNeg), .int (xs ((nI (6 * j)) + 2).toNatClampNeg), .int (xs ((nI (6 * j)) + 3).toNatClampNeg), .int (xs ((nI (6 * j)) + 4).toNatClampNeg), .int 0]) (rest := []) ⟨hx, hb, hml, hown, hts⟩ (n_X11_bracket l dC dI ad cA adK adV H.size σ hIX (xs ((nI (6 * j)) + 1).toNatClampNeg) (xs ((nI (6 * j)) + 2).toNatClampNeg) (xs ((nI (6 * j)) + 3).toNatClampNeg) (xs ((nI (6 * j)) + 4).toNatClampNeg) 0 ) (cwV 5 hts gL0_X11_bracket rfl rfl rfl (by decide +kernel) ⟨Nat.le_of_ble_eq_true rfl, Nat.le_of_ble_eq_true rfl⟩) ⟨gBlind, va_recv hKX hPX (ci := 10) (q0 := 0) rfl (at_10 rfl), gStart (As := [.ref (ad 0), .int (xs ((nI (6 * j)) + 1).toNatClampNeg), .int (xs ((nI (6 * j)) + 2).toNatClampNeg), .int (xs ((nI (6 * j)) + 3).toNatClampNeg), .int (xs ((nI (6 * j)) + 4).toNatClampNeg), .int 0]) hPX hDX hKX0 hT hS hF (d)⟩ rfl rfl hl.1 rfl (lv_room (Nat.le_of_ble_eq_true rfl)) dL_law_1347 ⟨by omega, by omega⟩) hS (fun q _ h => hF q h) hF (fun r_529 σz_530 t H1 locs ht hvm hw hB hz1 hk1 hS d_531 hd0 => ?_)
        have hts := dr_words hts0 (d_531)
        have hKX := gKd hKX0 (d_531)
        have hKM := gKd hKM0 (d_531)
        have hown : (s.setDrawn (d_531)).vm.findClass RL = some m.cls := hown0
        have hX : va_X b L xs (s.setDrawn (d_531)) s.heap := hX0
        obtain ⟨hPX, hDX⟩ := gBack hF ht hB
        obtain ⟨hI_533, fc_534, hp_532⟩ := hw
        have hPM := gOther hPM hk1 (dj_G dj)
        have hPO := gOther hPO hk1 (dj_1 djX)
        generalize H1 = H at hPX hPM hPO hS ⊢
        have hq_535 : (σz_530 2).1 1 = (τ 0).1 31 := by rw [fc_534 2 (by decide)]; exact hEq
        refine lv_pop2_2 hx hb dL_law_1350 rfl ?_
        refine lv_aload_n hx hb dL_law_1351 rfl (lv_at hl 2 rfl) ?_
        refine lv_aload_n hx hb dL_law_1352 rfl (lv_at hl 4 rfl) ?_
        refine lv_iload hx hb dL_law_1353 (lv_at hl 0 rfl) ?_
        refine lv_iconst (v := 1) hx hb dL_law_1355 (by decide) ?_
        refine lv_iadd hx hb dL_law_1356 ?_
        refine va_sld hx hb hX hbl hbA hS (lw_ix (k := 1) hL hin (by decide) (by decide)) dL_law_1357 ?_
        refine lv_aload_n hx hb dL_law_1358 rfl (lv_at hl 4 rfl) ?_
        refine lv_iload hx hb dL_law_1359 (lv_at hl 0 rfl) ?_
        refine lv_iconst (v := 2) hx hb dL_law_1361 (by decide) ?_
        refine lv_iadd hx hb dL_law_1362 ?_
        refine va_sld hx hb hX hbl hbA hS (lw_ix (k := 2) hL hin (by decide) (by decide)) dL_law_1363 ?_
        refine lv_aload_n hx hb dL_law_1364 rfl (lv_at hl 4 rfl) ?_
        refine lv_iload hx hb dL_law_1365 (lv_at hl 0 rfl) ?_
        refine lv_iconst (v := 3) hx hb dL_law_1367 (by decide) ?_
        refine lv_iadd hx hb dL_law_1368 ?_
        refine va_sld hx hb hX hbl hbA hS (lw_ix (k := 3) hL hin (by decide) (by decide)) dL_law_1369 ?_
        refine lv_aload_n hx hb dL_law_1370 rfl (lv_at hl 4 rfl) ?_
        refine lv_iload hx hb dL_law_1371 (lv_at hl 0 rfl) ?_
        refine lv_iconst (v := 4) hx hb dL_law_1373 (by decide) ?_
        refine lv_iadd hx hb dL_law_1374 ?_
        refine va_sld hx hb hX hbl hbA hS (lw_ix (k := 4) hL hin (by decide) (by decide)) dL_law_1375 ?_
        refine lv_aload_n hx hb dL_law_1376 rfl (lv_at hl 4 rfl) ?_
        refine lv_iload hx hb dL_law_1377 (lv_at hl 0 rfl) ?_
        refine lv_iconst (v := 5) hx hb dL_law_1379 (by decide) ?_
        refine lv_iadd hx hb dL_law_1380 ?_
        refine va_sld hx hb hX hbl hbA hS (lw_ix (k := 5) hL hin (by decide) (by decide)) dL_law_1381 ?_
        refine lv_if_eq (tgt := 1389) hx hb dL_law_1382 (by decide) (fun c_536 => ?_) (fun c_536 => ?_)
        · refine lv_iconst (v := 0) hx hb dL_law_1389 (by decide) ?_
          have hF := gFree hDM hS hA
          refine va_calllD hd0 (va_runV_D (As := [.int (xs ((nI (6 * j)) + 1).toNatClampNeg), .int (xs ((nI (6 * j)) + 2).toNatClampNeg), .int (xs ((nI (6 * j)) + 3).toNatClampNeg), .int (xs ((nI (6 * j)) + 4).toNatClampNeg), .int 0]) (rest := []) ⟨hx, hb, hml, hown, hts⟩ (n_X12_bracket l dC dI am cM adK adV H.size τ hIM (xs ((nI (6 * j)) + 1).toNatClampNeg) (xs ((nI (6 * j)) + 2).toNatClampNeg) (xs ((nI (6 * j)) + 3).toNatClampNeg) (xs ((nI (6 * j)) + 4).toNatClampNeg) 0 hDp) (cwV 5 hts gL0_X12_bracket rfl rfl rfl (by decide +kernel) ⟨Nat.le_of_ble_eq_true rfl, Nat.le_of_ble_eq_true rfl⟩) ⟨gBlind, va_recv hKM hPM (ci := 11) (q0 := 0) rfl (mat_11 rfl), gStart (As := [.ref (am 0), .int (xs ((nI (6 * j)) + 1).toNatClampNeg), .int (xs ((nI (6 * j)) + 2).toNatClampNeg), .int (xs ((nI (6 * j)) + 3).toNatClampNeg), .int (xs ((nI (6 * j)) + 4).toNatClampNeg), .int 0]) hPM hDM hKM0 hT hS hF (d_531)⟩ rfl rfl hl.1 rfl (lv_room (Nat.le_of_ble_eq_true rfl)) dL_law_1390 ⟨by omega, by omega⟩) hS (fun q _ h => hF q h) hF (fun r_537 τz_538 t H1 locs ht hvm hw hB hz1 hk1 hS d_539 hd0 => ?_)
          have hts := dr_words hts0 (d_539)
          have hKX := gKd hKX0 (d_539)
          have hKM := gKd hKM0 (d_539)
          have hown : (s.setDrawn (d_539)).vm.findClass RL = some m.cls := hown0
          have hX : va_X b L xs (s.setDrawn (d_539)) s.heap := hX0
          obtain ⟨hPM, hDM⟩ := gBack hF ht hB
          obtain ⟨hI_541, fc_542, hp_540⟩ := hw
          have hPX := gOther hPX hk1 (dj_sym (dj_G dj))
          have hPO := gOther hPO hk1 (dj_1 djM)
          generalize H1 = H at hPX hPM hPO hS ⊢
          have dp_543 : Deep τz_538 := (Deep.fr hDp (fc_542.1 2 (by decide) (by decide)) (fc_542.1 4 (by decide) (by decide)) (fc_542.1 9 (by decide) (by decide)) (fc_542.1 11 (by decide) (by decide)) (fc_542.1 12 (by decide) (by decide)) (fc_542.1 17 (by decide) (by decide)) (fc_542.1 18 (by decide) (by decide)) (fc_542.2 20 (by decide)) (fc_542.2 21 (by decide)) (fc_542.2 28 (by decide)) (fc_542.2 64 (by decide)) (fc_542.2 65 (by decide)) (fc_542.2 68 (by decide)))
          have hq_544 : (σz_530 2).1 1 = (τz_538 0).1 31 := hq_535.trans (fc_542.2 31 (by decide)).symm
          refine lv_pop2_2 hx hb dL_law_1393 rfl ?_
          refine lv_goto (tgt := 1850) hx hb dL_law_1394 (by decide) ?_
          obtain ⟨x_545, ex_545⟩ : ∃ zz : Int32, zz = (nI (6 * j)) + 6 := ⟨_, rfl⟩
          refine lv_iinc (v := x_545) (lv' := [(4, .int x_545), (3, .ref lo), (2, .ref (am 0)), (1, .ref (ad 0)), (0, .ref b)]) hx hb dL_law_1850 hl (k := 0) rfl (by rw [ex_545]; rfl) (by decide) rfl (fun ls hl => ?_)
          refine lv_goto (tgt := 23) hx hb dL_law_1853 (by decide) ?_
          have hl := lv_sub hl [0, 1, 2, 3, 4] rfl
          rw [ex_545, nI_6] at hl
          exact ih (j + 1) σz_530 τz_538 f _ _ _ _ _ _ (by omega) (by omega) hI_533 hI_541 dp_543 hq_544 (by omega) (by omega) hd0 hPX hDX hPM hDM hPO hDO hS hl
        · exact absurd c_528 c_536
      · refine lv_iconst (v := 1) hx hb dL_law_1342 (by decide) ?_
        refine lv_goto (tgt := 1347) hx hb dL_law_1343 (by decide) ?_
        have hF := gFree hDX hS hA
        refine va_calllD hd0 (va_runV_D (As := [.int (xs ((nI (6 * j)) + 1).toNatClampNeg), .int (xs ((nI (6 * j)) + 2).toNatClampNeg), .int (xs ((nI (6 * j)) + 3).toNatClampNeg), .int (xs ((nI (6 * j)) + 4).toNatClampNeg), .int 1]) (rest := []) ⟨hx, hb, hml, hown, hts⟩ (n_X11_bracket l dC dI ad cA adK adV H.size σ hIX (xs ((nI (6 * j)) + 1).toNatClampNeg) (xs ((nI (6 * j)) + 2).toNatClampNeg) (xs ((nI (6 * j)) + 3).toNatClampNeg) (xs ((nI (6 * j)) + 4).toNatClampNeg) 1 ) (cwV 5 hts gL0_X11_bracket rfl rfl rfl (by decide +kernel) ⟨Nat.le_of_ble_eq_true rfl, Nat.le_of_ble_eq_true rfl⟩) ⟨gBlind, va_recv hKX hPX (ci := 10) (q0 := 0) rfl (at_10 rfl), gStart (As := [.ref (ad 0), .int (xs ((nI (6 * j)) + 1).toNatClampNeg), .int (xs ((nI (6 * j)) + 2).toNatClampNeg), .int (xs ((nI (6 * j)) + 3).toNatClampNeg), .int (xs ((nI (6 * j)) + 4).toNatClampNeg), .int 1]) hPX hDX hKX0 hT hS hF (d)⟩ rfl rfl hl.1 rfl (lv_room (Nat.le_of_ble_eq_true rfl)) dL_law_1347 ⟨by omega, by omega⟩) hS (fun q _ h => hF q h) hF (fun r_546 σz_547 t H1 locs ht hvm hw hB hz1 hk1 hS d_548 hd0 => ?_)
        have hts := dr_words hts0 (d_548)
        have hKX := gKd hKX0 (d_548)
        have hKM := gKd hKM0 (d_548)
        have hown : (s.setDrawn (d_548)).vm.findClass RL = some m.cls := hown0
        have hX : va_X b L xs (s.setDrawn (d_548)) s.heap := hX0
        obtain ⟨hPX, hDX⟩ := gBack hF ht hB
        obtain ⟨hI_550, fc_551, hp_549⟩ := hw
        have hPM := gOther hPM hk1 (dj_G dj)
        have hPO := gOther hPO hk1 (dj_1 djX)
        generalize H1 = H at hPX hPM hPO hS ⊢
        have hq_552 : (σz_547 2).1 1 = (τ 0).1 31 := by rw [fc_551 2 (by decide)]; exact hEq
        refine lv_pop2_2 hx hb dL_law_1350 rfl ?_
        refine lv_aload_n hx hb dL_law_1351 rfl (lv_at hl 2 rfl) ?_
        refine lv_aload_n hx hb dL_law_1352 rfl (lv_at hl 4 rfl) ?_
        refine lv_iload hx hb dL_law_1353 (lv_at hl 0 rfl) ?_
        refine lv_iconst (v := 1) hx hb dL_law_1355 (by decide) ?_
        refine lv_iadd hx hb dL_law_1356 ?_
        refine va_sld hx hb hX hbl hbA hS (lw_ix (k := 1) hL hin (by decide) (by decide)) dL_law_1357 ?_
        refine lv_aload_n hx hb dL_law_1358 rfl (lv_at hl 4 rfl) ?_
        refine lv_iload hx hb dL_law_1359 (lv_at hl 0 rfl) ?_
        refine lv_iconst (v := 2) hx hb dL_law_1361 (by decide) ?_
        refine lv_iadd hx hb dL_law_1362 ?_
        refine va_sld hx hb hX hbl hbA hS (lw_ix (k := 2) hL hin (by decide) (by decide)) dL_law_1363 ?_
        refine lv_aload_n hx hb dL_law_1364 rfl (lv_at hl 4 rfl) ?_
        refine lv_iload hx hb dL_law_1365 (lv_at hl 0 rfl) ?_
        refine lv_iconst (v := 3) hx hb dL_law_1367 (by decide) ?_
        refine lv_iadd hx hb dL_law_1368 ?_
        refine va_sld hx hb hX hbl hbA hS (lw_ix (k := 3) hL hin (by decide) (by decide)) dL_law_1369 ?_
        refine lv_aload_n hx hb dL_law_1370 rfl (lv_at hl 4 rfl) ?_
        refine lv_iload hx hb dL_law_1371 (lv_at hl 0 rfl) ?_
        refine lv_iconst (v := 4) hx hb dL_law_1373 (by decide) ?_
        refine lv_iadd hx hb dL_law_1374 ?_
        refine va_sld hx hb hX hbl hbA hS (lw_ix (k := 4) hL hin (by decide) (by decide)) dL_law_1375 ?_
        refine lv_aload_n hx hb dL_law_1376 rfl (lv_at hl 4 rfl) ?_
        refine lv_iload hx hb dL_law_1377 (lv_at hl 0 rfl) ?_
        refine lv_iconst (v := 5) hx hb dL_law_1379 (by decide) ?_
        refine lv_iadd hx hb dL_law_1380 ?_
        refine va_sld hx hb hX hbl hbA hS (lw_ix (k := 5) hL hin (by decide) (by decide)) dL_law_1381 ?_
        refine lv_if_eq (tgt := 1389) hx hb dL_law_1382 (by decide) (fun c_553 => ?_) (fun c_553 => ?_)
        · exact absurd c_553 c_528
        · refine lv_iconst (v := 1) hx hb dL_law_1385 (by decide) ?_
          refine lv_goto (tgt := 1390) hx hb dL_law_1386 (by decide) ?_
          have hF := gFree hDM hS hA
          refine va_calllD hd0 (va_runV_D (As := [.int (xs ((nI (6 * j)) + 1).toNatClampNeg), .int (xs ((nI (6 * j)) + 2).toNatClampNeg), .int (xs ((nI (6 * j)) + 3).toNatClampNeg), .int (xs ((nI (6 * j)) + 4).toNatClampNeg), .int 1]) (rest := []) ⟨hx, hb, hml, hown, hts⟩ (n_X12_bracket l dC dI am cM adK adV H.size τ hIM (xs ((nI (6 * j)) + 1).toNatClampNeg) (xs ((nI (6 * j)) + 2).toNatClampNeg) (xs ((nI (6 * j)) + 3).toNatClampNeg) (xs ((nI (6 * j)) + 4).toNatClampNeg) 1 hDp) (cwV 5 hts gL0_X12_bracket rfl rfl rfl (by decide +kernel) ⟨Nat.le_of_ble_eq_true rfl, Nat.le_of_ble_eq_true rfl⟩) ⟨gBlind, va_recv hKM hPM (ci := 11) (q0 := 0) rfl (mat_11 rfl), gStart (As := [.ref (am 0), .int (xs ((nI (6 * j)) + 1).toNatClampNeg), .int (xs ((nI (6 * j)) + 2).toNatClampNeg), .int (xs ((nI (6 * j)) + 3).toNatClampNeg), .int (xs ((nI (6 * j)) + 4).toNatClampNeg), .int 1]) hPM hDM hKM0 hT hS hF (d_548)⟩ rfl rfl hl.1 rfl (lv_room (Nat.le_of_ble_eq_true rfl)) dL_law_1390 ⟨by omega, by omega⟩) hS (fun q _ h => hF q h) hF (fun r_554 τz_555 t H1 locs ht hvm hw hB hz1 hk1 hS d_556 hd0 => ?_)
          have hts := dr_words hts0 (d_556)
          have hKX := gKd hKX0 (d_556)
          have hKM := gKd hKM0 (d_556)
          have hown : (s.setDrawn (d_556)).vm.findClass RL = some m.cls := hown0
          have hX : va_X b L xs (s.setDrawn (d_556)) s.heap := hX0
          obtain ⟨hPM, hDM⟩ := gBack hF ht hB
          obtain ⟨hI_558, fc_559, hp_557⟩ := hw
          have hPX := gOther hPX hk1 (dj_sym (dj_G dj))
          have hPO := gOther hPO hk1 (dj_1 djM)
          generalize H1 = H at hPX hPM hPO hS ⊢
          have dp_560 : Deep τz_555 := (Deep.fr hDp (fc_559.1 2 (by decide) (by decide)) (fc_559.1 4 (by decide) (by decide)) (fc_559.1 9 (by decide) (by decide)) (fc_559.1 11 (by decide) (by decide)) (fc_559.1 12 (by decide) (by decide)) (fc_559.1 17 (by decide) (by decide)) (fc_559.1 18 (by decide) (by decide)) (fc_559.2 20 (by decide)) (fc_559.2 21 (by decide)) (fc_559.2 28 (by decide)) (fc_559.2 64 (by decide)) (fc_559.2 65 (by decide)) (fc_559.2 68 (by decide)))
          have hq_561 : (σz_547 2).1 1 = (τz_555 0).1 31 := hq_552.trans (fc_559.2 31 (by decide)).symm
          refine lv_pop2_2 hx hb dL_law_1393 rfl ?_
          refine lv_goto (tgt := 1850) hx hb dL_law_1394 (by decide) ?_
          obtain ⟨x_562, ex_562⟩ : ∃ zz : Int32, zz = (nI (6 * j)) + 6 := ⟨_, rfl⟩
          refine lv_iinc (v := x_562) (lv' := [(4, .int x_562), (3, .ref lo), (2, .ref (am 0)), (1, .ref (ad 0)), (0, .ref b)]) hx hb dL_law_1850 hl (k := 0) rfl (by rw [ex_562]; rfl) (by decide) rfl (fun ls hl => ?_)
          refine lv_goto (tgt := 23) hx hb dL_law_1853 (by decide) ?_
          have hl := lv_sub hl [0, 1, 2, 3, 4] rfl
          rw [ex_562, nI_6] at hl
          exact ih (j + 1) σz_547 τz_555 f _ _ _ _ _ _ (by omega) (by omega) hI_550 hI_558 dp_560 hq_561 (by omega) (by omega) hd0 hPX hDX hPM hDM hPO hDO hS hl
    by_cases c_563 : ((xs (nI (6 * j)).toNatClampNeg) &&& 63) = 25
    · refine lv_tableIn (tgt := 1397) hx hb dL_law_40 (by rw [c_563]; decide) (by rw [c_563]; decide) (by rw [c_563]; rfl) (by decide) ?_
      refine lv_aload_n hx hb dL_law_1397 rfl (lv_at hl 3 rfl) ?_
      refine lv_aload_n hx hb dL_law_1398 rfl (lv_at hl 4 rfl) ?_
      refine lv_iload hx hb dL_law_1399 (lv_at hl 0 rfl) ?_
      refine lv_iconst (v := 1) hx hb dL_law_1401 (by decide) ?_
      refine lv_iadd hx hb dL_law_1402 ?_
      refine va_sld hx hb hX hbl hbA hS (lw_ix (k := 1) hL hin (by decide) (by decide)) dL_law_1403 ?_
      refine lv_aload_n hx hb dL_law_1404 rfl (lv_at hl 4 rfl) ?_
      refine lv_iload hx hb dL_law_1405 (lv_at hl 0 rfl) ?_
      refine lv_iconst (v := 2) hx hb dL_law_1407 (by decide) ?_
      refine lv_iadd hx hb dL_law_1408 ?_
      refine va_sld hx hb hX hbl hbA hS (lw_ix (k := 2) hL hin (by decide) (by decide)) dL_law_1409 ?_
      refine lv_aload_n hx hb dL_law_1410 rfl (lv_at hl 4 rfl) ?_
      refine lv_iload hx hb dL_law_1411 (lv_at hl 0 rfl) ?_
      refine lv_iconst (v := 3) hx hb dL_law_1413 (by decide) ?_
      refine lv_iadd hx hb dL_law_1414 ?_
      refine va_sld hx hb hX hbl hbA hS (lw_ix (k := 3) hL hin (by decide) (by decide)) dL_law_1415 ?_
      have hF := gFree hDX hS hA
      refine va_calliD hd0 (va_runV_D (As := [.int (xs ((nI (6 * j)) + 1).toNatClampNeg), .int (xs ((nI (6 * j)) + 2).toNatClampNeg), .int (xs ((nI (6 * j)) + 3).toNatClampNeg)]) (rest := []) ⟨hx, hb, hml, hown, hts⟩ (n_X11_narrows l dC dI ad cA adK adV H.size σ hIX (xs ((nI (6 * j)) + 1).toNatClampNeg) (xs ((nI (6 * j)) + 2).toNatClampNeg) (xs ((nI (6 * j)) + 3).toNatClampNeg) ) (cwV 3 hts gL0_X11_narrows rfl rfl rfl (by decide +kernel) ⟨Nat.le_of_ble_eq_true rfl, Nat.le_of_ble_eq_true rfl⟩) ⟨gBlind, va_recv hKX hPX (ci := 10) (q0 := 0) rfl (at_10 rfl), gStart (As := [.ref (ad 0), .int (xs ((nI (6 * j)) + 1).toNatClampNeg), .int (xs ((nI (6 * j)) + 2).toNatClampNeg), .int (xs ((nI (6 * j)) + 3).toNatClampNeg)]) hPX hDX hKX0 hT hS hF (d)⟩ rfl rfl hl.1 rfl (lv_room (Nat.le_of_ble_eq_true rfl)) dL_law_1416 ⟨by omega, by omega⟩) hS (fun q _ h => hF q h) hF (fun r_564 σz_565 t H1 locs ht hvm hw hB hz1 hk1 hS d_566 hd0 => ?_)
      have hts := dr_words hts0 (d_566)
      have hKX := gKd hKX0 (d_566)
      have hKM := gKd hKM0 (d_566)
      have hown : (s.setDrawn (d_566)).vm.findClass RL = some m.cls := hown0
      have hX : va_X b L xs (s.setDrawn (d_566)) s.heap := hX0
      obtain ⟨hPX, hDX⟩ := gBack hF ht hB
      obtain ⟨hI_568, fc_569, hp_567⟩ := hw
      have hPM := gOther hPM hk1 (dj_G dj)
      have hPO := gOther hPO hk1 (dj_1 djX)
      generalize H1 = H at hPX hPM hPO hS ⊢
      have hq_570 : (σz_565 2).1 1 = (τ 0).1 31 := by rw [fc_569 2 (by decide)]; exact hEq
      refine lv_pop hx hb dL_law_1419 rfl ?_
      refine lv_aload_n hx hb dL_law_1420 rfl (lv_at hl 2 rfl) ?_
      refine lv_aload_n hx hb dL_law_1421 rfl (lv_at hl 4 rfl) ?_
      refine lv_iload hx hb dL_law_1422 (lv_at hl 0 rfl) ?_
      refine lv_iconst (v := 1) hx hb dL_law_1424 (by decide) ?_
      refine lv_iadd hx hb dL_law_1425 ?_
      refine va_sld hx hb hX hbl hbA hS (lw_ix (k := 1) hL hin (by decide) (by decide)) dL_law_1426 ?_
      refine lv_aload_n hx hb dL_law_1427 rfl (lv_at hl 4 rfl) ?_
      refine lv_iload hx hb dL_law_1428 (lv_at hl 0 rfl) ?_
      refine lv_iconst (v := 2) hx hb dL_law_1430 (by decide) ?_
      refine lv_iadd hx hb dL_law_1431 ?_
      refine va_sld hx hb hX hbl hbA hS (lw_ix (k := 2) hL hin (by decide) (by decide)) dL_law_1432 ?_
      refine lv_aload_n hx hb dL_law_1433 rfl (lv_at hl 4 rfl) ?_
      refine lv_iload hx hb dL_law_1434 (lv_at hl 0 rfl) ?_
      refine lv_iconst (v := 3) hx hb dL_law_1436 (by decide) ?_
      refine lv_iadd hx hb dL_law_1437 ?_
      refine va_sld hx hb hX hbl hbA hS (lw_ix (k := 3) hL hin (by decide) (by decide)) dL_law_1438 ?_
      have hF := gFree hDM hS hA
      refine va_calliD hd0 (va_runV_D (As := [.int (xs ((nI (6 * j)) + 1).toNatClampNeg), .int (xs ((nI (6 * j)) + 2).toNatClampNeg), .int (xs ((nI (6 * j)) + 3).toNatClampNeg)]) (rest := []) ⟨hx, hb, hml, hown, hts⟩ (n_X12_narrows l dC dI am cM adK adV H.size τ hIM (xs ((nI (6 * j)) + 1).toNatClampNeg) (xs ((nI (6 * j)) + 2).toNatClampNeg) (xs ((nI (6 * j)) + 3).toNatClampNeg) hDp) (cwV 3 hts gL0_X12_narrows rfl rfl rfl (by decide +kernel) ⟨Nat.le_of_ble_eq_true rfl, Nat.le_of_ble_eq_true rfl⟩) ⟨gBlind, va_recv hKM hPM (ci := 11) (q0 := 0) rfl (mat_11 rfl), gStart (As := [.ref (am 0), .int (xs ((nI (6 * j)) + 1).toNatClampNeg), .int (xs ((nI (6 * j)) + 2).toNatClampNeg), .int (xs ((nI (6 * j)) + 3).toNatClampNeg)]) hPM hDM hKM0 hT hS hF (d_566)⟩ rfl rfl hl.1 rfl (lv_room (Nat.le_of_ble_eq_true rfl)) dL_law_1439 ⟨by omega, by omega⟩) hS (fun q _ h => hF q h) hF (fun r_571 τz_572 t H1 locs ht hvm hw hB hz1 hk1 hS d_573 hd0 => ?_)
      have hts := dr_words hts0 (d_573)
      have hKX := gKd hKX0 (d_573)
      have hKM := gKd hKM0 (d_573)
      have hown : (s.setDrawn (d_573)).vm.findClass RL = some m.cls := hown0
      have hX : va_X b L xs (s.setDrawn (d_573)) s.heap := hX0
      obtain ⟨hPM, hDM⟩ := gBack hF ht hB
      obtain ⟨hI_575, fc_576, hp_574⟩ := hw
      have hPX := gOther hPX hk1 (dj_sym (dj_G dj))
      have hPO := gOther hPO hk1 (dj_1 djM)
      generalize H1 = H at hPX hPM hPO hS ⊢
      have dp_577 : Deep τz_572 := (Deep.fr hDp (fc_576.1 2 (by decide) (by decide)) (fc_576.1 4 (by decide) (by decide)) (fc_576.1 9 (by decide) (by decide)) (fc_576.1 11 (by decide) (by decide)) (fc_576.1 12 (by decide) (by decide)) (fc_576.1 17 (by decide) (by decide)) (fc_576.1 18 (by decide) (by decide)) (fc_576.2 20 (by decide)) (fc_576.2 21 (by decide)) (fc_576.2 28 (by decide)) (fc_576.2 64 (by decide)) (fc_576.2 65 (by decide)) (fc_576.2 68 (by decide)))
      have hq_578 : (σz_565 2).1 1 = (τz_572 0).1 31 := hq_570.trans (fc_576.2 31 (by decide)).symm
      refine lv_pop hx hb dL_law_1442 rfl ?_
      refine lv_goto (tgt := 1850) hx hb dL_law_1443 (by decide) ?_
      obtain ⟨x_579, ex_579⟩ : ∃ zz : Int32, zz = (nI (6 * j)) + 6 := ⟨_, rfl⟩
      refine lv_iinc (v := x_579) (lv' := [(4, .int x_579), (3, .ref lo), (2, .ref (am 0)), (1, .ref (ad 0)), (0, .ref b)]) hx hb dL_law_1850 hl (k := 0) rfl (by rw [ex_579]; rfl) (by decide) rfl (fun ls hl => ?_)
      refine lv_goto (tgt := 23) hx hb dL_law_1853 (by decide) ?_
      have hl := lv_sub hl [0, 1, 2, 3, 4] rfl
      rw [ex_579, nI_6] at hl
      exact ih (j + 1) σz_565 τz_572 f _ _ _ _ _ _ (by omega) (by omega) hI_568 hI_575 dp_577 hq_578 (by omega) (by omega) hd0 hPX hDX hPM hDM hPO hDO hS hl
    by_cases c_580 : ((xs (nI (6 * j)).toNatClampNeg) &&& 63) = 26
    · refine lv_tableIn (tgt := 1446) hx hb dL_law_40 (by rw [c_580]; decide) (by rw [c_580]; decide) (by rw [c_580]; rfl) (by decide) ?_
      refine lv_aload_n hx hb dL_law_1446 rfl (lv_at hl 3 rfl) ?_
      refine lv_aload_n hx hb dL_law_1447 rfl (lv_at hl 4 rfl) ?_
      refine lv_iload hx hb dL_law_1448 (lv_at hl 0 rfl) ?_
      refine lv_iconst (v := 1) hx hb dL_law_1450 (by decide) ?_
      refine lv_iadd hx hb dL_law_1451 ?_
      refine va_sld hx hb hX hbl hbA hS (lw_ix (k := 1) hL hin (by decide) (by decide)) dL_law_1452 ?_
      refine lv_aload_n hx hb dL_law_1453 rfl (lv_at hl 4 rfl) ?_
      refine lv_iload hx hb dL_law_1454 (lv_at hl 0 rfl) ?_
      refine lv_iconst (v := 2) hx hb dL_law_1456 (by decide) ?_
      refine lv_iadd hx hb dL_law_1457 ?_
      refine va_sld hx hb hX hbl hbA hS (lw_ix (k := 2) hL hin (by decide) (by decide)) dL_law_1458 ?_
      refine lv_aload_n hx hb dL_law_1459 rfl (lv_at hl 4 rfl) ?_
      refine lv_iload hx hb dL_law_1460 (lv_at hl 0 rfl) ?_
      refine lv_iconst (v := 3) hx hb dL_law_1462 (by decide) ?_
      refine lv_iadd hx hb dL_law_1463 ?_
      refine va_sld hx hb hX hbl hbA hS (lw_ix (k := 3) hL hin (by decide) (by decide)) dL_law_1464 ?_
      have hF := gFree hDX hS hA
      refine va_calliD hd0 (va_runV_D (As := [.int (xs ((nI (6 * j)) + 1).toNatClampNeg), .int (xs ((nI (6 * j)) + 2).toNatClampNeg), .int (xs ((nI (6 * j)) + 3).toNatClampNeg)]) (rest := []) ⟨hx, hb, hml, hown, hts⟩ (n_X11_pointsAt l dC dI ad cA adK adV H.size σ hIX (xs ((nI (6 * j)) + 1).toNatClampNeg) (xs ((nI (6 * j)) + 2).toNatClampNeg) (xs ((nI (6 * j)) + 3).toNatClampNeg) ) (cwV 3 hts gL0_X11_pointsAt rfl rfl rfl (by decide +kernel) ⟨Nat.le_of_ble_eq_true rfl, Nat.le_of_ble_eq_true rfl⟩) ⟨gBlind, va_recv hKX hPX (ci := 10) (q0 := 0) rfl (at_10 rfl), gStart (As := [.ref (ad 0), .int (xs ((nI (6 * j)) + 1).toNatClampNeg), .int (xs ((nI (6 * j)) + 2).toNatClampNeg), .int (xs ((nI (6 * j)) + 3).toNatClampNeg)]) hPX hDX hKX0 hT hS hF (d)⟩ rfl rfl hl.1 rfl (lv_room (Nat.le_of_ble_eq_true rfl)) dL_law_1465 ⟨by omega, by omega⟩) hS (fun q _ h => hF q h) hF (fun r_581 σz_582 t H1 locs ht hvm hw hB hz1 hk1 hS d_583 hd0 => ?_)
      have hts := dr_words hts0 (d_583)
      have hKX := gKd hKX0 (d_583)
      have hKM := gKd hKM0 (d_583)
      have hown : (s.setDrawn (d_583)).vm.findClass RL = some m.cls := hown0
      have hX : va_X b L xs (s.setDrawn (d_583)) s.heap := hX0
      obtain ⟨hPX, hDX⟩ := gBack hF ht hB
      obtain ⟨hI_585, fc_586, hp_584⟩ := hw
      have hPM := gOther hPM hk1 (dj_G dj)
      have hPO := gOther hPO hk1 (dj_1 djX)
      generalize H1 = H at hPX hPM hPO hS ⊢
      have hq_587 : (σz_582 2).1 1 = (τ 0).1 31 := by rw [fc_586 2 (by decide)]; exact hEq
      refine lv_pop hx hb dL_law_1468 rfl ?_
      refine lv_aload_n hx hb dL_law_1469 rfl (lv_at hl 2 rfl) ?_
      refine lv_aload_n hx hb dL_law_1470 rfl (lv_at hl 4 rfl) ?_
      refine lv_iload hx hb dL_law_1471 (lv_at hl 0 rfl) ?_
      refine lv_iconst (v := 1) hx hb dL_law_1473 (by decide) ?_
      refine lv_iadd hx hb dL_law_1474 ?_
      refine va_sld hx hb hX hbl hbA hS (lw_ix (k := 1) hL hin (by decide) (by decide)) dL_law_1475 ?_
      refine lv_aload_n hx hb dL_law_1476 rfl (lv_at hl 4 rfl) ?_
      refine lv_iload hx hb dL_law_1477 (lv_at hl 0 rfl) ?_
      refine lv_iconst (v := 2) hx hb dL_law_1479 (by decide) ?_
      refine lv_iadd hx hb dL_law_1480 ?_
      refine va_sld hx hb hX hbl hbA hS (lw_ix (k := 2) hL hin (by decide) (by decide)) dL_law_1481 ?_
      refine lv_aload_n hx hb dL_law_1482 rfl (lv_at hl 4 rfl) ?_
      refine lv_iload hx hb dL_law_1483 (lv_at hl 0 rfl) ?_
      refine lv_iconst (v := 3) hx hb dL_law_1485 (by decide) ?_
      refine lv_iadd hx hb dL_law_1486 ?_
      refine va_sld hx hb hX hbl hbA hS (lw_ix (k := 3) hL hin (by decide) (by decide)) dL_law_1487 ?_
      have hF := gFree hDM hS hA
      refine va_calliD hd0 (va_runV_D (As := [.int (xs ((nI (6 * j)) + 1).toNatClampNeg), .int (xs ((nI (6 * j)) + 2).toNatClampNeg), .int (xs ((nI (6 * j)) + 3).toNatClampNeg)]) (rest := []) ⟨hx, hb, hml, hown, hts⟩ (n_X12_pointsAt l dC dI am cM adK adV H.size τ hIM (xs ((nI (6 * j)) + 1).toNatClampNeg) (xs ((nI (6 * j)) + 2).toNatClampNeg) (xs ((nI (6 * j)) + 3).toNatClampNeg) hDp) (cwV 3 hts gL0_X12_pointsAt rfl rfl rfl (by decide +kernel) ⟨Nat.le_of_ble_eq_true rfl, Nat.le_of_ble_eq_true rfl⟩) ⟨gBlind, va_recv hKM hPM (ci := 11) (q0 := 0) rfl (mat_11 rfl), gStart (As := [.ref (am 0), .int (xs ((nI (6 * j)) + 1).toNatClampNeg), .int (xs ((nI (6 * j)) + 2).toNatClampNeg), .int (xs ((nI (6 * j)) + 3).toNatClampNeg)]) hPM hDM hKM0 hT hS hF (d_583)⟩ rfl rfl hl.1 rfl (lv_room (Nat.le_of_ble_eq_true rfl)) dL_law_1488 ⟨by omega, by omega⟩) hS (fun q _ h => hF q h) hF (fun r_588 τz_589 t H1 locs ht hvm hw hB hz1 hk1 hS d_590 hd0 => ?_)
      have hts := dr_words hts0 (d_590)
      have hKX := gKd hKX0 (d_590)
      have hKM := gKd hKM0 (d_590)
      have hown : (s.setDrawn (d_590)).vm.findClass RL = some m.cls := hown0
      have hX : va_X b L xs (s.setDrawn (d_590)) s.heap := hX0
      obtain ⟨hPM, hDM⟩ := gBack hF ht hB
      obtain ⟨hI_592, fc_593, hp_591⟩ := hw
      have hPX := gOther hPX hk1 (dj_sym (dj_G dj))
      have hPO := gOther hPO hk1 (dj_1 djM)
      generalize H1 = H at hPX hPM hPO hS ⊢
      have dp_594 : Deep τz_589 := (Deep.fr hDp (fc_593.1 2 (by decide) (by decide)) (fc_593.1 4 (by decide) (by decide)) (fc_593.1 9 (by decide) (by decide)) (fc_593.1 11 (by decide) (by decide)) (fc_593.1 12 (by decide) (by decide)) (fc_593.1 17 (by decide) (by decide)) (fc_593.1 18 (by decide) (by decide)) (fc_593.2 20 (by decide)) (fc_593.2 21 (by decide)) (fc_593.2 28 (by decide)) (fc_593.2 64 (by decide)) (fc_593.2 65 (by decide)) (fc_593.2 68 (by decide)))
      have hq_595 : (σz_582 2).1 1 = (τz_589 0).1 31 := hq_587.trans (fc_593.2 31 (by decide)).symm
      refine lv_pop hx hb dL_law_1491 rfl ?_
      refine lv_goto (tgt := 1850) hx hb dL_law_1492 (by decide) ?_
      obtain ⟨x_596, ex_596⟩ : ∃ zz : Int32, zz = (nI (6 * j)) + 6 := ⟨_, rfl⟩
      refine lv_iinc (v := x_596) (lv' := [(4, .int x_596), (3, .ref lo), (2, .ref (am 0)), (1, .ref (ad 0)), (0, .ref b)]) hx hb dL_law_1850 hl (k := 0) rfl (by rw [ex_596]; rfl) (by decide) rfl (fun ls hl => ?_)
      refine lv_goto (tgt := 23) hx hb dL_law_1853 (by decide) ?_
      have hl := lv_sub hl [0, 1, 2, 3, 4] rfl
      rw [ex_596, nI_6] at hl
      exact ih (j + 1) σz_582 τz_589 f _ _ _ _ _ _ (by omega) (by omega) hI_585 hI_592 dp_594 hq_595 (by omega) (by omega) hd0 hPX hDX hPM hDM hPO hDO hS hl
    by_cases c_597 : ((xs (nI (6 * j)).toNatClampNeg) &&& 63) = 27
    · refine lv_tableIn (tgt := 1495) hx hb dL_law_40 (by rw [c_597]; decide) (by rw [c_597]; decide) (by rw [c_597]; rfl) (by decide) ?_
      refine lv_aload_n hx hb dL_law_1495 rfl (lv_at hl 3 rfl) ?_
      refine lv_aload_n hx hb dL_law_1496 rfl (lv_at hl 4 rfl) ?_
      refine lv_iload hx hb dL_law_1497 (lv_at hl 0 rfl) ?_
      refine lv_iconst (v := 1) hx hb dL_law_1499 (by decide) ?_
      refine lv_iadd hx hb dL_law_1500 ?_
      refine va_sld hx hb hX hbl hbA hS (lw_ix (k := 1) hL hin (by decide) (by decide)) dL_law_1501 ?_
      refine lv_aload_n hx hb dL_law_1502 rfl (lv_at hl 4 rfl) ?_
      refine lv_iload hx hb dL_law_1503 (lv_at hl 0 rfl) ?_
      refine lv_iconst (v := 2) hx hb dL_law_1505 (by decide) ?_
      refine lv_iadd hx hb dL_law_1506 ?_
      refine va_sld hx hb hX hbl hbA hS (lw_ix (k := 2) hL hin (by decide) (by decide)) dL_law_1507 ?_
      have hF := gFree hDX hS hA
      refine va_calliD hd0 (va_runV_D (As := [.int (xs ((nI (6 * j)) + 1).toNatClampNeg), .int (xs ((nI (6 * j)) + 2).toNatClampNeg)]) (rest := []) ⟨hx, hb, hml, hown, hts⟩ (n_X11_quote l dC dI ad cA adK adV H.size σ hIX (xs ((nI (6 * j)) + 1).toNatClampNeg) (xs ((nI (6 * j)) + 2).toNatClampNeg) ) (cwV 2 hts gL0_X11_quote rfl rfl rfl (by decide +kernel) ⟨Nat.le_of_ble_eq_true rfl, Nat.le_of_ble_eq_true rfl⟩) ⟨gBlind, va_recv hKX hPX (ci := 10) (q0 := 0) rfl (at_10 rfl), gStart (As := [.ref (ad 0), .int (xs ((nI (6 * j)) + 1).toNatClampNeg), .int (xs ((nI (6 * j)) + 2).toNatClampNeg)]) hPX hDX hKX0 hT hS hF (d)⟩ rfl rfl hl.1 rfl (lv_room (Nat.le_of_ble_eq_true rfl)) dL_law_1508 ⟨by omega, by omega⟩) hS (fun q _ h => hF q h) hF (fun r_598 σz_599 t H1 locs ht hvm hw hB hz1 hk1 hS d_600 hd0 => ?_)
      have hts := dr_words hts0 (d_600)
      have hKX := gKd hKX0 (d_600)
      have hKM := gKd hKM0 (d_600)
      have hown : (s.setDrawn (d_600)).vm.findClass RL = some m.cls := hown0
      have hX : va_X b L xs (s.setDrawn (d_600)) s.heap := hX0
      obtain ⟨hPX, hDX⟩ := gBack hF ht hB
      obtain ⟨hI_602, fc_603, hp_601⟩ := hw
      have hPM := gOther hPM hk1 (dj_G dj)
      have hPO := gOther hPO hk1 (dj_1 djX)
      generalize H1 = H at hPX hPM hPO hS ⊢
      have hq_604 : (σz_599 2).1 1 = (τ 0).1 31 := by rw [fc_603 2 (by decide)]; exact hEq
      refine lv_pop hx hb dL_law_1511 rfl ?_
      refine lv_aload_n hx hb dL_law_1512 rfl (lv_at hl 2 rfl) ?_
      refine lv_aload_n hx hb dL_law_1513 rfl (lv_at hl 4 rfl) ?_
      refine lv_iload hx hb dL_law_1514 (lv_at hl 0 rfl) ?_
      refine lv_iconst (v := 1) hx hb dL_law_1516 (by decide) ?_
      refine lv_iadd hx hb dL_law_1517 ?_
      refine va_sld hx hb hX hbl hbA hS (lw_ix (k := 1) hL hin (by decide) (by decide)) dL_law_1518 ?_
      refine lv_aload_n hx hb dL_law_1519 rfl (lv_at hl 4 rfl) ?_
      refine lv_iload hx hb dL_law_1520 (lv_at hl 0 rfl) ?_
      refine lv_iconst (v := 2) hx hb dL_law_1522 (by decide) ?_
      refine lv_iadd hx hb dL_law_1523 ?_
      refine va_sld hx hb hX hbl hbA hS (lw_ix (k := 2) hL hin (by decide) (by decide)) dL_law_1524 ?_
      have hF := gFree hDM hS hA
      refine va_calliD hd0 (va_runV_D (As := [.int (xs ((nI (6 * j)) + 1).toNatClampNeg), .int (xs ((nI (6 * j)) + 2).toNatClampNeg)]) (rest := []) ⟨hx, hb, hml, hown, hts⟩ (n_X12_quote l dC dI am cM adK adV H.size τ hIM (xs ((nI (6 * j)) + 1).toNatClampNeg) (xs ((nI (6 * j)) + 2).toNatClampNeg) ) (cwV 2 hts gL0_X12_quote rfl rfl rfl (by decide +kernel) ⟨Nat.le_of_ble_eq_true rfl, Nat.le_of_ble_eq_true rfl⟩) ⟨gBlind, va_recv hKM hPM (ci := 11) (q0 := 0) rfl (mat_11 rfl), gStart (As := [.ref (am 0), .int (xs ((nI (6 * j)) + 1).toNatClampNeg), .int (xs ((nI (6 * j)) + 2).toNatClampNeg)]) hPM hDM hKM0 hT hS hF (d_600)⟩ rfl rfl hl.1 rfl (lv_room (Nat.le_of_ble_eq_true rfl)) dL_law_1525 ⟨by omega, by omega⟩) hS (fun q _ h => hF q h) hF (fun r_605 τz_606 t H1 locs ht hvm hw hB hz1 hk1 hS d_607 hd0 => ?_)
      have hts := dr_words hts0 (d_607)
      have hKX := gKd hKX0 (d_607)
      have hKM := gKd hKM0 (d_607)
      have hown : (s.setDrawn (d_607)).vm.findClass RL = some m.cls := hown0
      have hX : va_X b L xs (s.setDrawn (d_607)) s.heap := hX0
      obtain ⟨hPM, hDM⟩ := gBack hF ht hB
      obtain ⟨hI_609, fc_610, hp_608⟩ := hw
      have hPX := gOther hPX hk1 (dj_sym (dj_G dj))
      have hPO := gOther hPO hk1 (dj_1 djM)
      generalize H1 = H at hPX hPM hPO hS ⊢
      have dp_611 : Deep τz_606 := (Deep.fr hDp (fc_610.1 2 (by decide) (by decide)) (fc_610.1 4 (by decide) (by decide)) (fc_610.1 9 (by decide) (by decide)) (fc_610.1 11 (by decide) (by decide)) (fc_610.1 12 (by decide) (by decide)) (fc_610.1 17 (by decide) (by decide)) (fc_610.1 18 (by decide) (by decide)) (fc_610.2 20 (by decide)) (fc_610.2 21 (by decide)) (fc_610.2 28 (by decide)) (fc_610.2 64 (by decide)) (fc_610.2 65 (by decide)) (fc_610.2 68 (by decide)))
      have hq_612 : (σz_599 2).1 1 = (τz_606 0).1 31 := hq_604.trans (fc_610.2 31 (by decide)).symm
      refine lv_pop hx hb dL_law_1528 rfl ?_
      refine lv_goto (tgt := 1850) hx hb dL_law_1529 (by decide) ?_
      obtain ⟨x_613, ex_613⟩ : ∃ zz : Int32, zz = (nI (6 * j)) + 6 := ⟨_, rfl⟩
      refine lv_iinc (v := x_613) (lv' := [(4, .int x_613), (3, .ref lo), (2, .ref (am 0)), (1, .ref (ad 0)), (0, .ref b)]) hx hb dL_law_1850 hl (k := 0) rfl (by rw [ex_613]; rfl) (by decide) rfl (fun ls hl => ?_)
      refine lv_goto (tgt := 23) hx hb dL_law_1853 (by decide) ?_
      have hl := lv_sub hl [0, 1, 2, 3, 4] rfl
      rw [ex_613, nI_6] at hl
      exact ih (j + 1) σz_599 τz_606 f _ _ _ _ _ _ (by omega) (by omega) hI_602 hI_609 dp_611 hq_612 (by omega) (by omega) hd0 hPX hDX hPM hDM hPO hDO hS hl
    by_cases c_614 : ((xs (nI (6 * j)).toNatClampNeg) &&& 63) = 28
    · refine lv_tableIn (tgt := 1532) hx hb dL_law_40 (by rw [c_614]; decide) (by rw [c_614]; decide) (by rw [c_614]; rfl) (by decide) ?_
      refine lv_aload_n hx hb dL_law_1532 rfl (lv_at hl 3 rfl) ?_
      refine lv_aload_n hx hb dL_law_1533 rfl (lv_at hl 4 rfl) ?_
      refine lv_iload hx hb dL_law_1534 (lv_at hl 0 rfl) ?_
      refine lv_iconst (v := 1) hx hb dL_law_1536 (by decide) ?_
      refine lv_iadd hx hb dL_law_1537 ?_
      refine va_sld hx hb hX hbl hbA hS (lw_ix (k := 1) hL hin (by decide) (by decide)) dL_law_1538 ?_
      have hF := gFree hDX hS hA
      refine va_calllD hd0 (va_runV_D (As := [.int (xs ((nI (6 * j)) + 1).toNatClampNeg)]) (rest := []) ⟨hx, hb, hml, hown, hts⟩ (n_X11_off l dC dI ad cA adK adV H.size σ hIX (xs ((nI (6 * j)) + 1).toNatClampNeg) ) (cwV 1 hts gL0_X11_off rfl rfl rfl (by decide +kernel) ⟨Nat.le_of_ble_eq_true rfl, Nat.le_of_ble_eq_true rfl⟩) ⟨gBlind, va_recv hKX hPX (ci := 10) (q0 := 0) rfl (at_10 rfl), gStart (As := [.ref (ad 0), .int (xs ((nI (6 * j)) + 1).toNatClampNeg)]) hPX hDX hKX0 hT hS hF (d)⟩ rfl rfl hl.1 rfl (lv_room (Nat.le_of_ble_eq_true rfl)) dL_law_1539 ⟨by omega, by omega⟩) hS (fun q _ h => hF q h) hF (fun r_615 σz_616 t H1 locs ht hvm hw hB hz1 hk1 hS d_617 hd0 => ?_)
      have hts := dr_words hts0 (d_617)
      have hKX := gKd hKX0 (d_617)
      have hKM := gKd hKM0 (d_617)
      have hown : (s.setDrawn (d_617)).vm.findClass RL = some m.cls := hown0
      have hX : va_X b L xs (s.setDrawn (d_617)) s.heap := hX0
      obtain ⟨hPX, hDX⟩ := gBack hF ht hB
      obtain ⟨hI_619, fc_620, hp_618⟩ := hw
      have hPM := gOther hPM hk1 (dj_G dj)
      have hPO := gOther hPO hk1 (dj_1 djX)
      generalize H1 = H at hPX hPM hPO hS ⊢
      have hq_621 : (σz_616 2).1 1 = (τ 0).1 31 := by rw [fc_620 2 (by decide)]; exact hEq
      refine lv_pop2_2 hx hb dL_law_1542 rfl ?_
      refine lv_aload_n hx hb dL_law_1543 rfl (lv_at hl 2 rfl) ?_
      refine lv_aload_n hx hb dL_law_1544 rfl (lv_at hl 4 rfl) ?_
      refine lv_iload hx hb dL_law_1545 (lv_at hl 0 rfl) ?_
      refine lv_iconst (v := 1) hx hb dL_law_1547 (by decide) ?_
      refine lv_iadd hx hb dL_law_1548 ?_
      refine va_sld hx hb hX hbl hbA hS (lw_ix (k := 1) hL hin (by decide) (by decide)) dL_law_1549 ?_
      have hF := gFree hDM hS hA
      refine va_calllD hd0 (va_runV_D (As := [.int (xs ((nI (6 * j)) + 1).toNatClampNeg)]) (rest := []) ⟨hx, hb, hml, hown, hts⟩ (n_X12_off l dC dI am cM adK adV H.size τ hIM (xs ((nI (6 * j)) + 1).toNatClampNeg) hDp) (cwV 1 hts gL0_X12_off rfl rfl rfl (by decide +kernel) ⟨Nat.le_of_ble_eq_true rfl, Nat.le_of_ble_eq_true rfl⟩) ⟨gBlind, va_recv hKM hPM (ci := 11) (q0 := 0) rfl (mat_11 rfl), gStart (As := [.ref (am 0), .int (xs ((nI (6 * j)) + 1).toNatClampNeg)]) hPM hDM hKM0 hT hS hF (d_617)⟩ rfl rfl hl.1 rfl (lv_room (Nat.le_of_ble_eq_true rfl)) dL_law_1550 ⟨by omega, by omega⟩) hS (fun q _ h => hF q h) hF (fun r_622 τz_623 t H1 locs ht hvm hw hB hz1 hk1 hS d_624 hd0 => ?_)
      have hts := dr_words hts0 (d_624)
      have hKX := gKd hKX0 (d_624)
      have hKM := gKd hKM0 (d_624)
      have hown : (s.setDrawn (d_624)).vm.findClass RL = some m.cls := hown0
      have hX : va_X b L xs (s.setDrawn (d_624)) s.heap := hX0
      obtain ⟨hPM, hDM⟩ := gBack hF ht hB
      obtain ⟨hI_626, fc_627, hp_625⟩ := hw
      have hPX := gOther hPX hk1 (dj_sym (dj_G dj))
      have hPO := gOther hPO hk1 (dj_1 djM)
      generalize H1 = H at hPX hPM hPO hS ⊢
      have dp_628 : Deep τz_623 := (Deep.fr hDp (fc_627.1 2 (by decide) (by decide)) (fc_627.1 4 (by decide) (by decide)) (fc_627.1 9 (by decide) (by decide)) (fc_627.1 11 (by decide) (by decide)) (fc_627.1 12 (by decide) (by decide)) (fc_627.1 17 (by decide) (by decide)) (fc_627.1 18 (by decide) (by decide)) (fc_627.2 20 (by decide)) (fc_627.2 21 (by decide)) (fc_627.2 28 (by decide)) (fc_627.2 64 (by decide)) (fc_627.2 65 (by decide)) (fc_627.2 68 (by decide)))
      have hq_629 : (σz_616 2).1 1 = (τz_623 0).1 31 := hq_621.trans (fc_627.2 31 (by decide)).symm
      refine lv_pop2_2 hx hb dL_law_1553 rfl ?_
      refine lv_goto (tgt := 1850) hx hb dL_law_1554 (by decide) ?_
      obtain ⟨x_630, ex_630⟩ : ∃ zz : Int32, zz = (nI (6 * j)) + 6 := ⟨_, rfl⟩
      refine lv_iinc (v := x_630) (lv' := [(4, .int x_630), (3, .ref lo), (2, .ref (am 0)), (1, .ref (ad 0)), (0, .ref b)]) hx hb dL_law_1850 hl (k := 0) rfl (by rw [ex_630]; rfl) (by decide) rfl (fun ls hl => ?_)
      refine lv_goto (tgt := 23) hx hb dL_law_1853 (by decide) ?_
      have hl := lv_sub hl [0, 1, 2, 3, 4] rfl
      rw [ex_630, nI_6] at hl
      exact ih (j + 1) σz_616 τz_623 f _ _ _ _ _ _ (by omega) (by omega) hI_619 hI_626 dp_628 hq_629 (by omega) (by omega) hd0 hPX hDX hPM hDM hPO hDO hS hl
    by_cases c_631 : ((xs (nI (6 * j)).toNatClampNeg) &&& 63) = 29
    · refine lv_tableIn (tgt := 1557) hx hb dL_law_40 (by rw [c_631]; decide) (by rw [c_631]; decide) (by rw [c_631]; rfl) (by decide) ?_
      refine lv_aload_n hx hb dL_law_1557 rfl (lv_at hl 3 rfl) ?_
      have hF := gFree hDX hS hA
      refine va_calliD hd0 (va_runV_D (As := []) (rest := []) ⟨hx, hb, hml, hown, hts⟩ (n_X11_flat l dC dI ad cA adK adV H.size σ hIX  ) (cwV 0 hts gL0_X11_flat rfl rfl rfl (by decide +kernel) ⟨Nat.le_of_ble_eq_true rfl, Nat.le_of_ble_eq_true rfl⟩) ⟨gBlind, va_recv hKX hPX (ci := 10) (q0 := 0) rfl (at_10 rfl), gStart (As := [.ref (ad 0)]) hPX hDX hKX0 hT hS hF (d)⟩ rfl rfl hl.1 rfl (lv_room (Nat.le_of_ble_eq_true rfl)) dL_law_1558 ⟨by omega, by omega⟩) hS (fun q _ h => hF q h) hF (fun r_632 σz_633 t H1 locs ht hvm hw hB hz1 hk1 hS d_634 hd0 => ?_)
      have hts := dr_words hts0 (d_634)
      have hKX := gKd hKX0 (d_634)
      have hKM := gKd hKM0 (d_634)
      have hown : (s.setDrawn (d_634)).vm.findClass RL = some m.cls := hown0
      have hX : va_X b L xs (s.setDrawn (d_634)) s.heap := hX0
      obtain ⟨hPX, hDX⟩ := gBack hF ht hB
      obtain ⟨hI_636, fc_637, hp_635⟩ := hw
      have hPM := gOther hPM hk1 (dj_G dj)
      have hPO := gOther hPO hk1 (dj_1 djX)
      generalize H1 = H at hPX hPM hPO hS ⊢
      have hq_638 : (σz_633 2).1 1 = (τ 0).1 31 := by rw [fc_637 2 (by decide)]; exact hEq
      refine lv_pop hx hb dL_law_1561 rfl ?_
      refine lv_aload_n hx hb dL_law_1562 rfl (lv_at hl 2 rfl) ?_
      have hF := gFree hDM hS hA
      refine va_calliD hd0 (va_runV_D (As := []) (rest := []) ⟨hx, hb, hml, hown, hts⟩ (n_X12_flat l dC dI am cM adK adV H.size τ hIM  hDp) (cwV 0 hts gL0_X12_flat rfl rfl rfl (by decide +kernel) ⟨Nat.le_of_ble_eq_true rfl, Nat.le_of_ble_eq_true rfl⟩) ⟨gBlind, va_recv hKM hPM (ci := 11) (q0 := 0) rfl (mat_11 rfl), gStart (As := [.ref (am 0)]) hPM hDM hKM0 hT hS hF (d_634)⟩ rfl rfl hl.1 rfl (lv_room (Nat.le_of_ble_eq_true rfl)) dL_law_1563 ⟨by omega, by omega⟩) hS (fun q _ h => hF q h) hF (fun r_639 τz_640 t H1 locs ht hvm hw hB hz1 hk1 hS d_641 hd0 => ?_)
      have hts := dr_words hts0 (d_641)
      have hKX := gKd hKX0 (d_641)
      have hKM := gKd hKM0 (d_641)
      have hown : (s.setDrawn (d_641)).vm.findClass RL = some m.cls := hown0
      have hX : va_X b L xs (s.setDrawn (d_641)) s.heap := hX0
      obtain ⟨hPM, hDM⟩ := gBack hF ht hB
      obtain ⟨hI_643, fc_644, hp_642⟩ := hw
      have hPX := gOther hPX hk1 (dj_sym (dj_G dj))
      have hPO := gOther hPO hk1 (dj_1 djM)
      generalize H1 = H at hPX hPM hPO hS ⊢
      have dp_645 : Deep τz_640 := (Deep.fr hDp (fc_644.1 2 (by decide) (by decide)) (fc_644.1 4 (by decide) (by decide)) (fc_644.1 9 (by decide) (by decide)) (fc_644.1 11 (by decide) (by decide)) (fc_644.1 12 (by decide) (by decide)) (fc_644.1 17 (by decide) (by decide)) (fc_644.1 18 (by decide) (by decide)) (fc_644.2 20 (by decide)) (fc_644.2 21 (by decide)) (fc_644.2 28 (by decide)) (fc_644.2 64 (by decide)) (fc_644.2 65 (by decide)) (fc_644.2 68 (by decide)))
      have hq_646 : (σz_633 2).1 1 = (τz_640 0).1 31 := hq_638.trans (fc_644.2 31 (by decide)).symm
      refine lv_pop hx hb dL_law_1566 rfl ?_
      refine lv_goto (tgt := 1850) hx hb dL_law_1567 (by decide) ?_
      obtain ⟨x_647, ex_647⟩ : ∃ zz : Int32, zz = (nI (6 * j)) + 6 := ⟨_, rfl⟩
      refine lv_iinc (v := x_647) (lv' := [(4, .int x_647), (3, .ref lo), (2, .ref (am 0)), (1, .ref (ad 0)), (0, .ref b)]) hx hb dL_law_1850 hl (k := 0) rfl (by rw [ex_647]; rfl) (by decide) rfl (fun ls hl => ?_)
      refine lv_goto (tgt := 23) hx hb dL_law_1853 (by decide) ?_
      have hl := lv_sub hl [0, 1, 2, 3, 4] rfl
      rw [ex_647, nI_6] at hl
      exact ih (j + 1) σz_633 τz_640 f _ _ _ _ _ _ (by omega) (by omega) hI_636 hI_643 dp_645 hq_646 (by omega) (by omega) hd0 hPX hDX hPM hDM hPO hDO hS hl
    by_cases c_648 : ((xs (nI (6 * j)).toNatClampNeg) &&& 63) = 30
    · refine lv_tableIn (tgt := 1570) hx hb dL_law_40 (by rw [c_648]; decide) (by rw [c_648]; decide) (by rw [c_648]; rfl) (by decide) ?_
      refine lv_aload_n hx hb dL_law_1570 rfl (lv_at hl 3 rfl) ?_
      have hF := gFree hDX hS hA
      refine va_calliD hd0 (va_runV_D (As := []) (rest := []) ⟨hx, hb, hml, hown, hts⟩ (n_X11_cheapest l dC dI ad cA adK adV H.size σ hIX  ) (cwV 0 hts gL0_X11_cheapest rfl rfl rfl (by decide +kernel) ⟨Nat.le_of_ble_eq_true rfl, Nat.le_of_ble_eq_true rfl⟩) ⟨gBlind, va_recv hKX hPX (ci := 10) (q0 := 0) rfl (at_10 rfl), gStart (As := [.ref (ad 0)]) hPX hDX hKX0 hT hS hF (d)⟩ rfl rfl hl.1 rfl (lv_room (Nat.le_of_ble_eq_true rfl)) dL_law_1571 ⟨by omega, by omega⟩) hS (fun q _ h => hF q h) hF (fun r_649 σz_650 t H1 locs ht hvm hw hB hz1 hk1 hS d_651 hd0 => ?_)
      have hts := dr_words hts0 (d_651)
      have hKX := gKd hKX0 (d_651)
      have hKM := gKd hKM0 (d_651)
      have hown : (s.setDrawn (d_651)).vm.findClass RL = some m.cls := hown0
      have hX : va_X b L xs (s.setDrawn (d_651)) s.heap := hX0
      obtain ⟨hPX, hDX⟩ := gBack hF ht hB
      obtain ⟨hI_653, fc_654, hp_652⟩ := hw
      have hPM := gOther hPM hk1 (dj_G dj)
      have hPO := gOther hPO hk1 (dj_1 djX)
      generalize H1 = H at hPX hPM hPO hS ⊢
      have hq_655 : (σz_650 2).1 1 = (τ 0).1 31 := by rw [fc_654 2 (by decide)]; exact hEq
      refine lv_pop hx hb dL_law_1574 rfl ?_
      refine lv_aload_n hx hb dL_law_1575 rfl (lv_at hl 2 rfl) ?_
      have hF := gFree hDM hS hA
      refine va_calliD hd0 (va_runV_D (As := []) (rest := []) ⟨hx, hb, hml, hown, hts⟩ (n_X12_cheapest l dC dI am cM adK adV H.size τ hIM  hDp) (cwV 0 hts gL0_X12_cheapest rfl rfl rfl (by decide +kernel) ⟨Nat.le_of_ble_eq_true rfl, Nat.le_of_ble_eq_true rfl⟩) ⟨gBlind, va_recv hKM hPM (ci := 11) (q0 := 0) rfl (mat_11 rfl), gStart (As := [.ref (am 0)]) hPM hDM hKM0 hT hS hF (d_651)⟩ rfl rfl hl.1 rfl (lv_room (Nat.le_of_ble_eq_true rfl)) dL_law_1576 ⟨by omega, by omega⟩) hS (fun q _ h => hF q h) hF (fun r_656 τz_657 t H1 locs ht hvm hw hB hz1 hk1 hS d_658 hd0 => ?_)
      have hts := dr_words hts0 (d_658)
      have hKX := gKd hKX0 (d_658)
      have hKM := gKd hKM0 (d_658)
      have hown : (s.setDrawn (d_658)).vm.findClass RL = some m.cls := hown0
      have hX : va_X b L xs (s.setDrawn (d_658)) s.heap := hX0
      obtain ⟨hPM, hDM⟩ := gBack hF ht hB
      obtain ⟨hI_660, fc_661, hp_659⟩ := hw
      have hPX := gOther hPX hk1 (dj_sym (dj_G dj))
      have hPO := gOther hPO hk1 (dj_1 djM)
      generalize H1 = H at hPX hPM hPO hS ⊢
      have dp_662 : Deep τz_657 := (Deep.fr hDp (fc_661.1 2 (by decide) (by decide)) (fc_661.1 4 (by decide) (by decide)) (fc_661.1 9 (by decide) (by decide)) (fc_661.1 11 (by decide) (by decide)) (fc_661.1 12 (by decide) (by decide)) (fc_661.1 17 (by decide) (by decide)) (fc_661.1 18 (by decide) (by decide)) (fc_661.2 20 (by decide)) (fc_661.2 21 (by decide)) (fc_661.2 28 (by decide)) (fc_661.2 64 (by decide)) (fc_661.2 65 (by decide)) (fc_661.2 68 (by decide)))
      have hq_663 : (σz_650 2).1 1 = (τz_657 0).1 31 := hq_655.trans (fc_661.2 31 (by decide)).symm
      refine lv_pop hx hb dL_law_1579 rfl ?_
      refine lv_goto (tgt := 1850) hx hb dL_law_1580 (by decide) ?_
      obtain ⟨x_664, ex_664⟩ : ∃ zz : Int32, zz = (nI (6 * j)) + 6 := ⟨_, rfl⟩
      refine lv_iinc (v := x_664) (lv' := [(4, .int x_664), (3, .ref lo), (2, .ref (am 0)), (1, .ref (ad 0)), (0, .ref b)]) hx hb dL_law_1850 hl (k := 0) rfl (by rw [ex_664]; rfl) (by decide) rfl (fun ls hl => ?_)
      refine lv_goto (tgt := 23) hx hb dL_law_1853 (by decide) ?_
      have hl := lv_sub hl [0, 1, 2, 3, 4] rfl
      rw [ex_664, nI_6] at hl
      exact ih (j + 1) σz_650 τz_657 f _ _ _ _ _ _ (by omega) (by omega) hI_653 hI_660 dp_662 hq_663 (by omega) (by omega) hd0 hPX hDX hPM hDM hPO hDO hS hl
    by_cases c_665 : ((xs (nI (6 * j)).toNatClampNeg) &&& 63) = 31
    · refine lv_tableIn (tgt := 1583) hx hb dL_law_40 (by rw [c_665]; decide) (by rw [c_665]; decide) (by rw [c_665]; rfl) (by decide) ?_
      refine lv_aload_n hx hb dL_law_1583 rfl (lv_at hl 3 rfl) ?_
      have hF := gFree hDX hS hA
      refine va_calliD hd0 (va_runV_D (As := []) (rest := []) ⟨hx, hb, hml, hown, hts⟩ (n_X11_now l dC dI ad cA adK adV H.size σ hIX  ) (cwV 0 hts gL0_X11_now rfl rfl rfl (by decide +kernel) ⟨Nat.le_of_ble_eq_true rfl, Nat.le_of_ble_eq_true rfl⟩) ⟨gBlind, va_recv hKX hPX (ci := 10) (q0 := 0) rfl (at_10 rfl), gStart (As := [.ref (ad 0)]) hPX hDX hKX0 hT hS hF (d)⟩ rfl rfl hl.1 rfl (lv_room (Nat.le_of_ble_eq_true rfl)) dL_law_1584 ⟨by omega, by omega⟩) hS (fun q _ h => hF q h) hF (fun r_666 σz_667 t H1 locs ht hvm hw hB hz1 hk1 hS d_668 hd0 => ?_)
      have hts := dr_words hts0 (d_668)
      have hKX := gKd hKX0 (d_668)
      have hKM := gKd hKM0 (d_668)
      have hown : (s.setDrawn (d_668)).vm.findClass RL = some m.cls := hown0
      have hX : va_X b L xs (s.setDrawn (d_668)) s.heap := hX0
      obtain ⟨hPX, hDX⟩ := gBack hF ht hB
      obtain ⟨hI_670, fc_671, hp_669⟩ := hw
      have hPM := gOther hPM hk1 (dj_G dj)
      have hPO := gOther hPO hk1 (dj_1 djX)
      generalize H1 = H at hPX hPM hPO hS ⊢
      have hq_672 : (σz_667 2).1 1 = (τ 0).1 31 := by rw [fc_671 2 (by decide)]; exact hEq
      refine lv_pop hx hb dL_law_1587 rfl ?_
      refine lv_aload_n hx hb dL_law_1588 rfl (lv_at hl 2 rfl) ?_
      have hF := gFree hDM hS hA
      refine va_calliD hd0 (va_runV_D (As := []) (rest := []) ⟨hx, hb, hml, hown, hts⟩ (n_X12_now l dC dI am cM adK adV H.size τ hIM  ) (cwV 0 hts gL0_X12_now rfl rfl rfl (by decide +kernel) ⟨Nat.le_of_ble_eq_true rfl, Nat.le_of_ble_eq_true rfl⟩) ⟨gBlind, va_recv hKM hPM (ci := 11) (q0 := 0) rfl (mat_11 rfl), gStart (As := [.ref (am 0)]) hPM hDM hKM0 hT hS hF (d_668)⟩ rfl rfl hl.1 rfl (lv_room (Nat.le_of_ble_eq_true rfl)) dL_law_1589 ⟨by omega, by omega⟩) hS (fun q _ h => hF q h) hF (fun r_673 τz_674 t H1 locs ht hvm hw hB hz1 hk1 hS d_675 hd0 => ?_)
      have hts := dr_words hts0 (d_675)
      have hKX := gKd hKX0 (d_675)
      have hKM := gKd hKM0 (d_675)
      have hown : (s.setDrawn (d_675)).vm.findClass RL = some m.cls := hown0
      have hX : va_X b L xs (s.setDrawn (d_675)) s.heap := hX0
      obtain ⟨hPM, hDM⟩ := gBack hF ht hB
      obtain ⟨hI_677, fc_678, hp_676⟩ := hw
      have hPX := gOther hPX hk1 (dj_sym (dj_G dj))
      have hPO := gOther hPO hk1 (dj_1 djM)
      generalize H1 = H at hPX hPM hPO hS ⊢
      have dp_679 : Deep τz_674 := (Deep.fr hDp (fc_678.1 2 (by decide) (by decide)) (fc_678.1 4 (by decide) (by decide)) (fc_678.1 9 (by decide) (by decide)) (fc_678.1 11 (by decide) (by decide)) (fc_678.1 12 (by decide) (by decide)) (fc_678.1 17 (by decide) (by decide)) (fc_678.1 18 (by decide) (by decide)) (fc_678.2 20 (by decide)) (fc_678.2 21 (by decide)) (fc_678.2 28 (by decide)) (fc_678.2 64 (by decide)) (fc_678.2 65 (by decide)) (fc_678.2 68 (by decide)))
      have hq_680 : (σz_667 2).1 1 = (τz_674 0).1 31 := hq_672.trans (fc_678.2 31 (by decide)).symm
      refine lv_pop hx hb dL_law_1592 rfl ?_
      refine lv_goto (tgt := 1850) hx hb dL_law_1593 (by decide) ?_
      obtain ⟨x_681, ex_681⟩ : ∃ zz : Int32, zz = (nI (6 * j)) + 6 := ⟨_, rfl⟩
      refine lv_iinc (v := x_681) (lv' := [(4, .int x_681), (3, .ref lo), (2, .ref (am 0)), (1, .ref (ad 0)), (0, .ref b)]) hx hb dL_law_1850 hl (k := 0) rfl (by rw [ex_681]; rfl) (by decide) rfl (fun ls hl => ?_)
      refine lv_goto (tgt := 23) hx hb dL_law_1853 (by decide) ?_
      have hl := lv_sub hl [0, 1, 2, 3, 4] rfl
      rw [ex_681, nI_6] at hl
      exact ih (j + 1) σz_667 τz_674 f _ _ _ _ _ _ (by omega) (by omega) hI_670 hI_677 dp_679 hq_680 (by omega) (by omega) hd0 hPX hDX hPM hDM hPO hDO hS hl
    by_cases c_682 : ((xs (nI (6 * j)).toNatClampNeg) &&& 63) = 32
    · refine lv_tableIn (tgt := 1596) hx hb dL_law_40 (by rw [c_682]; decide) (by rw [c_682]; decide) (by rw [c_682]; rfl) (by decide) ?_
      refine lv_aload_n hx hb dL_law_1596 rfl (lv_at hl 3 rfl) ?_
      have hF := gFree hDX hS hA
      refine va_calllD hd0 (va_runV_D (As := []) (rest := []) ⟨hx, hb, hml, hown, hts⟩ (n_X11_cash l dC dI ad cA adK adV H.size σ hIX  ) (cwV 0 hts gL0_X11_cash rfl rfl rfl (by decide +kernel) ⟨Nat.le_of_ble_eq_true rfl, Nat.le_of_ble_eq_true rfl⟩) ⟨gBlind, va_recv hKX hPX (ci := 10) (q0 := 0) rfl (at_10 rfl), gStart (As := [.ref (ad 0)]) hPX hDX hKX0 hT hS hF (d)⟩ rfl rfl hl.1 rfl (lv_room (Nat.le_of_ble_eq_true rfl)) dL_law_1597 ⟨by omega, by omega⟩) hS (fun q _ h => hF q h) hF (fun r_683 σz_684 t H1 locs ht hvm hw hB hz1 hk1 hS d_685 hd0 => ?_)
      have hts := dr_words hts0 (d_685)
      have hKX := gKd hKX0 (d_685)
      have hKM := gKd hKM0 (d_685)
      have hown : (s.setDrawn (d_685)).vm.findClass RL = some m.cls := hown0
      have hX : va_X b L xs (s.setDrawn (d_685)) s.heap := hX0
      obtain ⟨hPX, hDX⟩ := gBack hF ht hB
      obtain ⟨hI_687, fc_688, hp_686⟩ := hw
      have hPM := gOther hPM hk1 (dj_G dj)
      have hPO := gOther hPO hk1 (dj_1 djX)
      generalize H1 = H at hPX hPM hPO hS ⊢
      have hq_689 : (σz_684 2).1 1 = (τ 0).1 31 := by rw [fc_688 2 (by decide)]; exact hEq
      refine lv_pop2_2 hx hb dL_law_1600 rfl ?_
      refine lv_aload_n hx hb dL_law_1601 rfl (lv_at hl 2 rfl) ?_
      have hF := gFree hDM hS hA
      refine va_calllD hd0 (va_runV_D (As := []) (rest := []) ⟨hx, hb, hml, hown, hts⟩ (n_X12_cash l dC dI am cM adK adV H.size τ hIM  ) (cwV 0 hts gL0_X12_cash rfl rfl rfl (by decide +kernel) ⟨Nat.le_of_ble_eq_true rfl, Nat.le_of_ble_eq_true rfl⟩) ⟨gBlind, va_recv hKM hPM (ci := 11) (q0 := 0) rfl (mat_11 rfl), gStart (As := [.ref (am 0)]) hPM hDM hKM0 hT hS hF (d_685)⟩ rfl rfl hl.1 rfl (lv_room (Nat.le_of_ble_eq_true rfl)) dL_law_1602 ⟨by omega, by omega⟩) hS (fun q _ h => hF q h) hF (fun r_690 τz_691 t H1 locs ht hvm hw hB hz1 hk1 hS d_692 hd0 => ?_)
      have hts := dr_words hts0 (d_692)
      have hKX := gKd hKX0 (d_692)
      have hKM := gKd hKM0 (d_692)
      have hown : (s.setDrawn (d_692)).vm.findClass RL = some m.cls := hown0
      have hX : va_X b L xs (s.setDrawn (d_692)) s.heap := hX0
      obtain ⟨hPM, hDM⟩ := gBack hF ht hB
      obtain ⟨hI_694, fc_695, hp_693⟩ := hw
      have hPX := gOther hPX hk1 (dj_sym (dj_G dj))
      have hPO := gOther hPO hk1 (dj_1 djM)
      generalize H1 = H at hPX hPM hPO hS ⊢
      have dp_696 : Deep τz_691 := (Deep.fr hDp (fc_695.1 2 (by decide) (by decide)) (fc_695.1 4 (by decide) (by decide)) (fc_695.1 9 (by decide) (by decide)) (fc_695.1 11 (by decide) (by decide)) (fc_695.1 12 (by decide) (by decide)) (fc_695.1 17 (by decide) (by decide)) (fc_695.1 18 (by decide) (by decide)) (fc_695.2 20 (by decide)) (fc_695.2 21 (by decide)) (fc_695.2 28 (by decide)) (fc_695.2 64 (by decide)) (fc_695.2 65 (by decide)) (fc_695.2 68 (by decide)))
      have hq_697 : (σz_684 2).1 1 = (τz_691 0).1 31 := hq_689.trans (fc_695.2 31 (by decide)).symm
      refine lv_pop2_2 hx hb dL_law_1605 rfl ?_
      refine lv_goto (tgt := 1850) hx hb dL_law_1606 (by decide) ?_
      obtain ⟨x_698, ex_698⟩ : ∃ zz : Int32, zz = (nI (6 * j)) + 6 := ⟨_, rfl⟩
      refine lv_iinc (v := x_698) (lv' := [(4, .int x_698), (3, .ref lo), (2, .ref (am 0)), (1, .ref (ad 0)), (0, .ref b)]) hx hb dL_law_1850 hl (k := 0) rfl (by rw [ex_698]; rfl) (by decide) rfl (fun ls hl => ?_)
      refine lv_goto (tgt := 23) hx hb dL_law_1853 (by decide) ?_
      have hl := lv_sub hl [0, 1, 2, 3, 4] rfl
      rw [ex_698, nI_6] at hl
      exact ih (j + 1) σz_684 τz_691 f _ _ _ _ _ _ (by omega) (by omega) hI_687 hI_694 dp_696 hq_697 (by omega) (by omega) hd0 hPX hDX hPM hDM hPO hDO hS hl
    by_cases c_699 : ((xs (nI (6 * j)).toNatClampNeg) &&& 63) = 33
    · refine lv_tableIn (tgt := 1609) hx hb dL_law_40 (by rw [c_699]; decide) (by rw [c_699]; decide) (by rw [c_699]; rfl) (by decide) ?_
      refine lv_aload_n hx hb dL_law_1609 rfl (lv_at hl 3 rfl) ?_
      refine lv_aload_n hx hb dL_law_1610 rfl (lv_at hl 4 rfl) ?_
      refine lv_iload hx hb dL_law_1611 (lv_at hl 0 rfl) ?_
      refine lv_iconst (v := 1) hx hb dL_law_1613 (by decide) ?_
      refine lv_iadd hx hb dL_law_1614 ?_
      refine va_sld hx hb hX hbl hbA hS (lw_ix (k := 1) hL hin (by decide) (by decide)) dL_law_1615 ?_
      have hF := gFree hDX hS hA
      refine va_calliD hd0 (va_runV_D (As := [.int (xs ((nI (6 * j)) + 1).toNatClampNeg)]) (rest := []) ⟨hx, hb, hml, hown, hts⟩ (n_X11_holding l dC dI ad cA adK adV H.size σ hIX (xs ((nI (6 * j)) + 1).toNatClampNeg) ) (cwV 1 hts gL0_X11_holding rfl rfl rfl (by decide +kernel) ⟨Nat.le_of_ble_eq_true rfl, Nat.le_of_ble_eq_true rfl⟩) ⟨gBlind, va_recv hKX hPX (ci := 10) (q0 := 0) rfl (at_10 rfl), gStart (As := [.ref (ad 0), .int (xs ((nI (6 * j)) + 1).toNatClampNeg)]) hPX hDX hKX0 hT hS hF (d)⟩ rfl rfl hl.1 rfl (lv_room (Nat.le_of_ble_eq_true rfl)) dL_law_1616 ⟨by omega, by omega⟩) hS (fun q _ h => hF q h) hF (fun r_700 σz_701 t H1 locs ht hvm hw hB hz1 hk1 hS d_702 hd0 => ?_)
      have hts := dr_words hts0 (d_702)
      have hKX := gKd hKX0 (d_702)
      have hKM := gKd hKM0 (d_702)
      have hown : (s.setDrawn (d_702)).vm.findClass RL = some m.cls := hown0
      have hX : va_X b L xs (s.setDrawn (d_702)) s.heap := hX0
      obtain ⟨hPX, hDX⟩ := gBack hF ht hB
      obtain ⟨hI_704, fc_705, hp_703⟩ := hw
      have hPM := gOther hPM hk1 (dj_G dj)
      have hPO := gOther hPO hk1 (dj_1 djX)
      generalize H1 = H at hPX hPM hPO hS ⊢
      have hq_706 : (σz_701 2).1 1 = (τ 0).1 31 := by rw [fc_705 2 (by decide)]; exact hEq
      refine lv_pop hx hb dL_law_1619 rfl ?_
      refine lv_aload_n hx hb dL_law_1620 rfl (lv_at hl 2 rfl) ?_
      refine lv_aload_n hx hb dL_law_1621 rfl (lv_at hl 4 rfl) ?_
      refine lv_iload hx hb dL_law_1622 (lv_at hl 0 rfl) ?_
      refine lv_iconst (v := 1) hx hb dL_law_1624 (by decide) ?_
      refine lv_iadd hx hb dL_law_1625 ?_
      refine va_sld hx hb hX hbl hbA hS (lw_ix (k := 1) hL hin (by decide) (by decide)) dL_law_1626 ?_
      have hF := gFree hDM hS hA
      refine va_calliD hd0 (va_runV_D (As := [.int (xs ((nI (6 * j)) + 1).toNatClampNeg)]) (rest := []) ⟨hx, hb, hml, hown, hts⟩ (n_X12_holding l dC dI am cM adK adV H.size τ hIM (xs ((nI (6 * j)) + 1).toNatClampNeg) ) (cwV 1 hts gL0_X12_holding rfl rfl rfl (by decide +kernel) ⟨Nat.le_of_ble_eq_true rfl, Nat.le_of_ble_eq_true rfl⟩) ⟨gBlind, va_recv hKM hPM (ci := 11) (q0 := 0) rfl (mat_11 rfl), gStart (As := [.ref (am 0), .int (xs ((nI (6 * j)) + 1).toNatClampNeg)]) hPM hDM hKM0 hT hS hF (d_702)⟩ rfl rfl hl.1 rfl (lv_room (Nat.le_of_ble_eq_true rfl)) dL_law_1627 ⟨by omega, by omega⟩) hS (fun q _ h => hF q h) hF (fun r_707 τz_708 t H1 locs ht hvm hw hB hz1 hk1 hS d_709 hd0 => ?_)
      have hts := dr_words hts0 (d_709)
      have hKX := gKd hKX0 (d_709)
      have hKM := gKd hKM0 (d_709)
      have hown : (s.setDrawn (d_709)).vm.findClass RL = some m.cls := hown0
      have hX : va_X b L xs (s.setDrawn (d_709)) s.heap := hX0
      obtain ⟨hPM, hDM⟩ := gBack hF ht hB
      obtain ⟨hI_711, fc_712, hp_710⟩ := hw
      have hPX := gOther hPX hk1 (dj_sym (dj_G dj))
      have hPO := gOther hPO hk1 (dj_1 djM)
      generalize H1 = H at hPX hPM hPO hS ⊢
      have dp_713 : Deep τz_708 := (Deep.fr hDp (fc_712.1 2 (by decide) (by decide)) (fc_712.1 4 (by decide) (by decide)) (fc_712.1 9 (by decide) (by decide)) (fc_712.1 11 (by decide) (by decide)) (fc_712.1 12 (by decide) (by decide)) (fc_712.1 17 (by decide) (by decide)) (fc_712.1 18 (by decide) (by decide)) (fc_712.2 20 (by decide)) (fc_712.2 21 (by decide)) (fc_712.2 28 (by decide)) (fc_712.2 64 (by decide)) (fc_712.2 65 (by decide)) (fc_712.2 68 (by decide)))
      have hq_714 : (σz_701 2).1 1 = (τz_708 0).1 31 := hq_706.trans (fc_712.2 31 (by decide)).symm
      refine lv_pop hx hb dL_law_1630 rfl ?_
      refine lv_goto (tgt := 1850) hx hb dL_law_1631 (by decide) ?_
      obtain ⟨x_715, ex_715⟩ : ∃ zz : Int32, zz = (nI (6 * j)) + 6 := ⟨_, rfl⟩
      refine lv_iinc (v := x_715) (lv' := [(4, .int x_715), (3, .ref lo), (2, .ref (am 0)), (1, .ref (ad 0)), (0, .ref b)]) hx hb dL_law_1850 hl (k := 0) rfl (by rw [ex_715]; rfl) (by decide) rfl (fun ls hl => ?_)
      refine lv_goto (tgt := 23) hx hb dL_law_1853 (by decide) ?_
      have hl := lv_sub hl [0, 1, 2, 3, 4] rfl
      rw [ex_715, nI_6] at hl
      exact ih (j + 1) σz_701 τz_708 f _ _ _ _ _ _ (by omega) (by omega) hI_704 hI_711 dp_713 hq_714 (by omega) (by omega) hd0 hPX hDX hPM hDM hPO hDO hS hl
    by_cases c_716 : ((xs (nI (6 * j)).toNatClampNeg) &&& 63) = 34
    · refine lv_tableIn (tgt := 1634) hx hb dL_law_40 (by rw [c_716]; decide) (by rw [c_716]; decide) (by rw [c_716]; rfl) (by decide) ?_
      refine lv_aload_n hx hb dL_law_1634 rfl (lv_at hl 3 rfl) ?_
      refine lv_aload_n hx hb dL_law_1635 rfl (lv_at hl 4 rfl) ?_
      refine lv_iload hx hb dL_law_1636 (lv_at hl 0 rfl) ?_
      refine lv_iconst (v := 1) hx hb dL_law_1638 (by decide) ?_
      refine lv_iadd hx hb dL_law_1639 ?_
      refine va_sld hx hb hX hbl hbA hS (lw_ix (k := 1) hL hin (by decide) (by decide)) dL_law_1640 ?_
      have hF := gFree hDX hS hA
      refine va_calllD hd0 (va_runV_D (As := [.int (xs ((nI (6 * j)) + 1).toNatClampNeg)]) (rest := []) ⟨hx, hb, hml, hown, hts⟩ (n_X11_worth l dC dI ad cA adK adV H.size σ hIX (xs ((nI (6 * j)) + 1).toNatClampNeg) ) (cwV 1 hts gL0_X11_worth rfl rfl rfl (by decide +kernel) ⟨Nat.le_of_ble_eq_true rfl, Nat.le_of_ble_eq_true rfl⟩) ⟨gBlind, va_recv hKX hPX (ci := 10) (q0 := 0) rfl (at_10 rfl), gStart (As := [.ref (ad 0), .int (xs ((nI (6 * j)) + 1).toNatClampNeg)]) hPX hDX hKX0 hT hS hF (d)⟩ rfl rfl hl.1 rfl (lv_room (Nat.le_of_ble_eq_true rfl)) dL_law_1641 ⟨by omega, by omega⟩) hS (fun q _ h => hF q h) hF (fun r_717 σz_718 t H1 locs ht hvm hw hB hz1 hk1 hS d_719 hd0 => ?_)
      have hts := dr_words hts0 (d_719)
      have hKX := gKd hKX0 (d_719)
      have hKM := gKd hKM0 (d_719)
      have hown : (s.setDrawn (d_719)).vm.findClass RL = some m.cls := hown0
      have hX : va_X b L xs (s.setDrawn (d_719)) s.heap := hX0
      obtain ⟨hPX, hDX⟩ := gBack hF ht hB
      obtain ⟨hI_721, fc_722, hp_720⟩ := hw
      have hPM := gOther hPM hk1 (dj_G dj)
      have hPO := gOther hPO hk1 (dj_1 djX)
      generalize H1 = H at hPX hPM hPO hS ⊢
      have hq_723 : (σz_718 2).1 1 = (τ 0).1 31 := by rw [fc_722 2 (by decide)]; exact hEq
      refine lv_pop2_2 hx hb dL_law_1644 rfl ?_
      refine lv_aload_n hx hb dL_law_1645 rfl (lv_at hl 2 rfl) ?_
      refine lv_aload_n hx hb dL_law_1646 rfl (lv_at hl 4 rfl) ?_
      refine lv_iload hx hb dL_law_1647 (lv_at hl 0 rfl) ?_
      refine lv_iconst (v := 1) hx hb dL_law_1649 (by decide) ?_
      refine lv_iadd hx hb dL_law_1650 ?_
      refine va_sld hx hb hX hbl hbA hS (lw_ix (k := 1) hL hin (by decide) (by decide)) dL_law_1651 ?_
      have hF := gFree hDM hS hA
      refine va_calllD hd0 (va_runV_D (As := [.int (xs ((nI (6 * j)) + 1).toNatClampNeg)]) (rest := []) ⟨hx, hb, hml, hown, hts⟩ (n_X12_worth l dC dI am cM adK adV H.size τ hIM (xs ((nI (6 * j)) + 1).toNatClampNeg) hDp) (cwV 1 hts gL0_X12_worth rfl rfl rfl (by decide +kernel) ⟨Nat.le_of_ble_eq_true rfl, Nat.le_of_ble_eq_true rfl⟩) ⟨gBlind, va_recv hKM hPM (ci := 11) (q0 := 0) rfl (mat_11 rfl), gStart (As := [.ref (am 0), .int (xs ((nI (6 * j)) + 1).toNatClampNeg)]) hPM hDM hKM0 hT hS hF (d_719)⟩ rfl rfl hl.1 rfl (lv_room (Nat.le_of_ble_eq_true rfl)) dL_law_1652 ⟨by omega, by omega⟩) hS (fun q _ h => hF q h) hF (fun r_724 τz_725 t H1 locs ht hvm hw hB hz1 hk1 hS d_726 hd0 => ?_)
      have hts := dr_words hts0 (d_726)
      have hKX := gKd hKX0 (d_726)
      have hKM := gKd hKM0 (d_726)
      have hown : (s.setDrawn (d_726)).vm.findClass RL = some m.cls := hown0
      have hX : va_X b L xs (s.setDrawn (d_726)) s.heap := hX0
      obtain ⟨hPM, hDM⟩ := gBack hF ht hB
      obtain ⟨hI_728, fc_729, hp_727⟩ := hw
      have hPX := gOther hPX hk1 (dj_sym (dj_G dj))
      have hPO := gOther hPO hk1 (dj_1 djM)
      generalize H1 = H at hPX hPM hPO hS ⊢
      have dp_730 : Deep τz_725 := (Deep.fr hDp (fc_729.1 2 (by decide) (by decide)) (fc_729.1 4 (by decide) (by decide)) (fc_729.1 9 (by decide) (by decide)) (fc_729.1 11 (by decide) (by decide)) (fc_729.1 12 (by decide) (by decide)) (fc_729.1 17 (by decide) (by decide)) (fc_729.1 18 (by decide) (by decide)) (fc_729.2 20 (by decide)) (fc_729.2 21 (by decide)) (fc_729.2 28 (by decide)) (fc_729.2 64 (by decide)) (fc_729.2 65 (by decide)) (fc_729.2 68 (by decide)))
      have hq_731 : (σz_718 2).1 1 = (τz_725 0).1 31 := hq_723.trans (fc_729.2 31 (by decide)).symm
      refine lv_pop2_2 hx hb dL_law_1655 rfl ?_
      refine lv_goto (tgt := 1850) hx hb dL_law_1656 (by decide) ?_
      obtain ⟨x_732, ex_732⟩ : ∃ zz : Int32, zz = (nI (6 * j)) + 6 := ⟨_, rfl⟩
      refine lv_iinc (v := x_732) (lv' := [(4, .int x_732), (3, .ref lo), (2, .ref (am 0)), (1, .ref (ad 0)), (0, .ref b)]) hx hb dL_law_1850 hl (k := 0) rfl (by rw [ex_732]; rfl) (by decide) rfl (fun ls hl => ?_)
      refine lv_goto (tgt := 23) hx hb dL_law_1853 (by decide) ?_
      have hl := lv_sub hl [0, 1, 2, 3, 4] rfl
      rw [ex_732, nI_6] at hl
      exact ih (j + 1) σz_718 τz_725 f _ _ _ _ _ _ (by omega) (by omega) hI_721 hI_728 dp_730 hq_731 (by omega) (by omega) hd0 hPX hDX hPM hDM hPO hDO hS hl
    by_cases c_733 : ((xs (nI (6 * j)).toNatClampNeg) &&& 63) = 35
    · refine lv_tableIn (tgt := 1659) hx hb dL_law_40 (by rw [c_733]; decide) (by rw [c_733]; decide) (by rw [c_733]; rfl) (by decide) ?_
      refine lv_aload_n hx hb dL_law_1659 rfl (lv_at hl 3 rfl) ?_
      refine lv_aload_n hx hb dL_law_1660 rfl (lv_at hl 4 rfl) ?_
      refine lv_iload hx hb dL_law_1661 (lv_at hl 0 rfl) ?_
      refine lv_iconst (v := 1) hx hb dL_law_1663 (by decide) ?_
      refine lv_iadd hx hb dL_law_1664 ?_
      refine va_sld hx hb hX hbl hbA hS (lw_ix (k := 1) hL hin (by decide) (by decide)) dL_law_1665 ?_
      refine lv_aload_n hx hb dL_law_1666 rfl (lv_at hl 4 rfl) ?_
      refine lv_iload hx hb dL_law_1667 (lv_at hl 0 rfl) ?_
      refine lv_iconst (v := 2) hx hb dL_law_1669 (by decide) ?_
      refine lv_iadd hx hb dL_law_1670 ?_
      refine va_sld hx hb hX hbl hbA hS (lw_ix (k := 2) hL hin (by decide) (by decide)) dL_law_1671 ?_
      refine lv_aload_n hx hb dL_law_1672 rfl (lv_at hl 4 rfl) ?_
      refine lv_iload hx hb dL_law_1673 (lv_at hl 0 rfl) ?_
      refine lv_iconst (v := 3) hx hb dL_law_1675 (by decide) ?_
      refine lv_iadd hx hb dL_law_1676 ?_
      refine va_sld hx hb hX hbl hbA hS (lw_ix (k := 3) hL hin (by decide) (by decide)) dL_law_1677 ?_
      have hF := gFree hDX hS hA
      refine va_calllD hd0 (va_runV_D (As := [.int (xs ((nI (6 * j)) + 1).toNatClampNeg), .int (xs ((nI (6 * j)) + 2).toNatClampNeg), .int (xs ((nI (6 * j)) + 3).toNatClampNeg)]) (rest := []) ⟨hx, hb, hml, hown, hts⟩ (n_X11_deal l dC dI ad cA adK adV H.size σ hIX (xs ((nI (6 * j)) + 1).toNatClampNeg) (xs ((nI (6 * j)) + 2).toNatClampNeg) (xs ((nI (6 * j)) + 3).toNatClampNeg) ) (cwV 3 hts gL0_X11_deal rfl rfl rfl (by decide +kernel) ⟨Nat.le_of_ble_eq_true rfl, Nat.le_of_ble_eq_true rfl⟩) ⟨gBlind, va_recv hKX hPX (ci := 10) (q0 := 0) rfl (at_10 rfl), gStart (As := [.ref (ad 0), .int (xs ((nI (6 * j)) + 1).toNatClampNeg), .int (xs ((nI (6 * j)) + 2).toNatClampNeg), .int (xs ((nI (6 * j)) + 3).toNatClampNeg)]) hPX hDX hKX0 hT hS hF (d)⟩ rfl rfl hl.1 rfl (lv_room (Nat.le_of_ble_eq_true rfl)) dL_law_1678 ⟨by omega, by omega⟩) hS (fun q _ h => hF q h) hF (fun r_734 σz_735 t H1 locs ht hvm hw hB hz1 hk1 hS d_736 hd0 => ?_)
      have hts := dr_words hts0 (d_736)
      have hKX := gKd hKX0 (d_736)
      have hKM := gKd hKM0 (d_736)
      have hown : (s.setDrawn (d_736)).vm.findClass RL = some m.cls := hown0
      have hX : va_X b L xs (s.setDrawn (d_736)) s.heap := hX0
      obtain ⟨hPX, hDX⟩ := gBack hF ht hB
      obtain ⟨hI_738, fc_739, hp_737⟩ := hw
      have hPM := gOther hPM hk1 (dj_G dj)
      have hPO := gOther hPO hk1 (dj_1 djX)
      generalize H1 = H at hPX hPM hPO hS ⊢
      have hq_740 : (σz_735 2).1 1 = (τ 0).1 31 := by rw [fc_739 2 (by decide)]; exact hEq
      refine lv_pop2_2 hx hb dL_law_1681 rfl ?_
      refine lv_aload_n hx hb dL_law_1682 rfl (lv_at hl 2 rfl) ?_
      refine lv_aload_n hx hb dL_law_1683 rfl (lv_at hl 4 rfl) ?_
      refine lv_iload hx hb dL_law_1684 (lv_at hl 0 rfl) ?_
      refine lv_iconst (v := 1) hx hb dL_law_1686 (by decide) ?_
      refine lv_iadd hx hb dL_law_1687 ?_
      refine va_sld hx hb hX hbl hbA hS (lw_ix (k := 1) hL hin (by decide) (by decide)) dL_law_1688 ?_
      refine lv_aload_n hx hb dL_law_1689 rfl (lv_at hl 4 rfl) ?_
      refine lv_iload hx hb dL_law_1690 (lv_at hl 0 rfl) ?_
      refine lv_iconst (v := 2) hx hb dL_law_1692 (by decide) ?_
      refine lv_iadd hx hb dL_law_1693 ?_
      refine va_sld hx hb hX hbl hbA hS (lw_ix (k := 2) hL hin (by decide) (by decide)) dL_law_1694 ?_
      refine lv_aload_n hx hb dL_law_1695 rfl (lv_at hl 4 rfl) ?_
      refine lv_iload hx hb dL_law_1696 (lv_at hl 0 rfl) ?_
      refine lv_iconst (v := 3) hx hb dL_law_1698 (by decide) ?_
      refine lv_iadd hx hb dL_law_1699 ?_
      refine va_sld hx hb hX hbl hbA hS (lw_ix (k := 3) hL hin (by decide) (by decide)) dL_law_1700 ?_
      have hF := gFree hDM hS hA
      refine va_calllD hd0 (va_runV_D (As := [.int (xs ((nI (6 * j)) + 1).toNatClampNeg), .int (xs ((nI (6 * j)) + 2).toNatClampNeg), .int (xs ((nI (6 * j)) + 3).toNatClampNeg)]) (rest := []) ⟨hx, hb, hml, hown, hts⟩ (n_X12_deal l dC dI am cM adK adV H.size τ hIM (xs ((nI (6 * j)) + 1).toNatClampNeg) (xs ((nI (6 * j)) + 2).toNatClampNeg) (xs ((nI (6 * j)) + 3).toNatClampNeg) hDp) (cwV 3 hts gL0_X12_deal rfl rfl rfl (by decide +kernel) ⟨Nat.le_of_ble_eq_true rfl, Nat.le_of_ble_eq_true rfl⟩) ⟨gBlind, va_recv hKM hPM (ci := 11) (q0 := 0) rfl (mat_11 rfl), gStart (As := [.ref (am 0), .int (xs ((nI (6 * j)) + 1).toNatClampNeg), .int (xs ((nI (6 * j)) + 2).toNatClampNeg), .int (xs ((nI (6 * j)) + 3).toNatClampNeg)]) hPM hDM hKM0 hT hS hF (d_736)⟩ rfl rfl hl.1 rfl (lv_room (Nat.le_of_ble_eq_true rfl)) dL_law_1701 ⟨by omega, by omega⟩) hS (fun q _ h => hF q h) hF (fun r_741 τz_742 t H1 locs ht hvm hw hB hz1 hk1 hS d_743 hd0 => ?_)
      have hts := dr_words hts0 (d_743)
      have hKX := gKd hKX0 (d_743)
      have hKM := gKd hKM0 (d_743)
      have hown : (s.setDrawn (d_743)).vm.findClass RL = some m.cls := hown0
      have hX : va_X b L xs (s.setDrawn (d_743)) s.heap := hX0
      obtain ⟨hPM, hDM⟩ := gBack hF ht hB
      obtain ⟨hI_745, fc_746, hp_744⟩ := hw
      have hPX := gOther hPX hk1 (dj_sym (dj_G dj))
      have hPO := gOther hPO hk1 (dj_1 djM)
      generalize H1 = H at hPX hPM hPO hS ⊢
      have dp_747 : Deep τz_742 := (Deep.fr hDp (fc_746.1 2 (by decide) (by decide)) (fc_746.1 4 (by decide) (by decide)) (fc_746.1 9 (by decide) (by decide)) (fc_746.1 11 (by decide) (by decide)) (fc_746.1 12 (by decide) (by decide)) (fc_746.1 17 (by decide) (by decide)) (fc_746.1 18 (by decide) (by decide)) (fc_746.2 20 (by decide)) (fc_746.2 21 (by decide)) (fc_746.2 28 (by decide)) (fc_746.2 64 (by decide)) (fc_746.2 65 (by decide)) (fc_746.2 68 (by decide)))
      have hq_748 : (σz_735 2).1 1 = (τz_742 0).1 31 := hq_740.trans (fc_746.2 31 (by decide)).symm
      refine lv_pop2_2 hx hb dL_law_1704 rfl ?_
      refine lv_goto (tgt := 1850) hx hb dL_law_1705 (by decide) ?_
      obtain ⟨x_749, ex_749⟩ : ∃ zz : Int32, zz = (nI (6 * j)) + 6 := ⟨_, rfl⟩
      refine lv_iinc (v := x_749) (lv' := [(4, .int x_749), (3, .ref lo), (2, .ref (am 0)), (1, .ref (ad 0)), (0, .ref b)]) hx hb dL_law_1850 hl (k := 0) rfl (by rw [ex_749]; rfl) (by decide) rfl (fun ls hl => ?_)
      refine lv_goto (tgt := 23) hx hb dL_law_1853 (by decide) ?_
      have hl := lv_sub hl [0, 1, 2, 3, 4] rfl
      rw [ex_749, nI_6] at hl
      exact ih (j + 1) σz_735 τz_742 f _ _ _ _ _ _ (by omega) (by omega) hI_738 hI_745 dp_747 hq_748 (by omega) (by omega) hd0 hPX hDX hPM hDM hPO hDO hS hl
    by_cases c_750 : ((xs (nI (6 * j)).toNatClampNeg) &&& 63) = 36
    · refine lv_tableIn (tgt := 1708) hx hb dL_law_40 (by rw [c_750]; decide) (by rw [c_750]; decide) (by rw [c_750]; rfl) (by decide) ?_
      refine lv_aload_n hx hb dL_law_1708 rfl (lv_at hl 3 rfl) ?_
      refine lv_aload_n hx hb dL_law_1709 rfl (lv_at hl 4 rfl) ?_
      refine lv_iload hx hb dL_law_1710 (lv_at hl 0 rfl) ?_
      refine lv_iconst (v := 1) hx hb dL_law_1712 (by decide) ?_
      refine lv_iadd hx hb dL_law_1713 ?_
      refine va_sld hx hb hX hbl hbA hS (lw_ix (k := 1) hL hin (by decide) (by decide)) dL_law_1714 ?_
      have hF := gFree hDX hS hA
      refine va_calllD hd0 (va_runV_D (As := [.int (xs ((nI (6 * j)) + 1).toNatClampNeg)]) (rest := []) ⟨hx, hb, hml, hown, hts⟩ (n_X11_go l dC dI ad cA adK adV H.size σ hIX (xs ((nI (6 * j)) + 1).toNatClampNeg) ) (cwV 1 hts gL0_X11_go rfl rfl rfl (by decide +kernel) ⟨Nat.le_of_ble_eq_true rfl, Nat.le_of_ble_eq_true rfl⟩) ⟨gBlind, va_recv hKX hPX (ci := 10) (q0 := 0) rfl (at_10 rfl), gStart (As := [.ref (ad 0), .int (xs ((nI (6 * j)) + 1).toNatClampNeg)]) hPX hDX hKX0 hT hS hF (d)⟩ rfl rfl hl.1 rfl (lv_room (Nat.le_of_ble_eq_true rfl)) dL_law_1715 ⟨by omega, by omega⟩) hS (fun q _ h => hF q h) hF (fun r_751 σz_752 t H1 locs ht hvm hw hB hz1 hk1 hS d_753 hd0 => ?_)
      have hts := dr_words hts0 (d_753)
      have hKX := gKd hKX0 (d_753)
      have hKM := gKd hKM0 (d_753)
      have hown : (s.setDrawn (d_753)).vm.findClass RL = some m.cls := hown0
      have hX : va_X b L xs (s.setDrawn (d_753)) s.heap := hX0
      obtain ⟨hPX, hDX⟩ := gBack hF ht hB
      obtain ⟨hI_755, fc_756, hp_754⟩ := hw
      have hPM := gOther hPM hk1 (dj_G dj)
      have hPO := gOther hPO hk1 (dj_1 djX)
      generalize H1 = H at hPX hPM hPO hS ⊢
      have hq_757 : (σz_752 2).1 1 = (τ 0).1 31 := by rw [fc_756 2 (by decide)]; exact hEq
      refine lv_pop2_2 hx hb dL_law_1718 rfl ?_
      refine lv_aload_n hx hb dL_law_1719 rfl (lv_at hl 2 rfl) ?_
      refine lv_aload_n hx hb dL_law_1720 rfl (lv_at hl 4 rfl) ?_
      refine lv_iload hx hb dL_law_1721 (lv_at hl 0 rfl) ?_
      refine lv_iconst (v := 1) hx hb dL_law_1723 (by decide) ?_
      refine lv_iadd hx hb dL_law_1724 ?_
      refine va_sld hx hb hX hbl hbA hS (lw_ix (k := 1) hL hin (by decide) (by decide)) dL_law_1725 ?_
      have hF := gFree hDM hS hA
      refine va_calllD hd0 (va_runV_D (As := [.int (xs ((nI (6 * j)) + 1).toNatClampNeg)]) (rest := []) ⟨hx, hb, hml, hown, hts⟩ (n_X12_go l dC dI am cM adK adV H.size τ hIM (xs ((nI (6 * j)) + 1).toNatClampNeg) hDp) (cwV 1 hts gL0_X12_go rfl rfl rfl (by decide +kernel) ⟨Nat.le_of_ble_eq_true rfl, Nat.le_of_ble_eq_true rfl⟩) ⟨gBlind, va_recv hKM hPM (ci := 11) (q0 := 0) rfl (mat_11 rfl), gStart (As := [.ref (am 0), .int (xs ((nI (6 * j)) + 1).toNatClampNeg)]) hPM hDM hKM0 hT hS hF (d_753)⟩ rfl rfl hl.1 rfl (lv_room (Nat.le_of_ble_eq_true rfl)) dL_law_1726 ⟨by omega, by omega⟩) hS (fun q _ h => hF q h) hF (fun r_758 τz_759 t H1 locs ht hvm hw hB hz1 hk1 hS d_760 hd0 => ?_)
      have hts := dr_words hts0 (d_760)
      have hKX := gKd hKX0 (d_760)
      have hKM := gKd hKM0 (d_760)
      have hown : (s.setDrawn (d_760)).vm.findClass RL = some m.cls := hown0
      have hX : va_X b L xs (s.setDrawn (d_760)) s.heap := hX0
      obtain ⟨hPM, hDM⟩ := gBack hF ht hB
      obtain ⟨hI_762, fc_763, hp_761⟩ := hw
      have hPX := gOther hPX hk1 (dj_sym (dj_G dj))
      have hPO := gOther hPO hk1 (dj_1 djM)
      generalize H1 = H at hPX hPM hPO hS ⊢
      have dp_764 : Deep τz_759 := hp_761
      have hq_765 : (σz_752 2).1 1 = (τz_759 0).1 31 := hq_757.trans (fc_763.2 31 (by decide)).symm
      refine lv_pop2_2 hx hb dL_law_1729 rfl ?_
      refine lv_goto (tgt := 1850) hx hb dL_law_1730 (by decide) ?_
      obtain ⟨x_766, ex_766⟩ : ∃ zz : Int32, zz = (nI (6 * j)) + 6 := ⟨_, rfl⟩
      refine lv_iinc (v := x_766) (lv' := [(4, .int x_766), (3, .ref lo), (2, .ref (am 0)), (1, .ref (ad 0)), (0, .ref b)]) hx hb dL_law_1850 hl (k := 0) rfl (by rw [ex_766]; rfl) (by decide) rfl (fun ls hl => ?_)
      refine lv_goto (tgt := 23) hx hb dL_law_1853 (by decide) ?_
      have hl := lv_sub hl [0, 1, 2, 3, 4] rfl
      rw [ex_766, nI_6] at hl
      exact ih (j + 1) σz_752 τz_759 f _ _ _ _ _ _ (by omega) (by omega) hI_755 hI_762 dp_764 hq_765 (by omega) (by omega) hd0 hPX hDX hPM hDM hPO hDO hS hl
    by_cases c_767 : ((xs (nI (6 * j)).toNatClampNeg) &&& 63) = 37
    · refine lv_tableIn (tgt := 1733) hx hb dL_law_40 (by rw [c_767]; decide) (by rw [c_767]; decide) (by rw [c_767]; rfl) (by decide) ?_
      refine lv_aload_n hx hb dL_law_1733 rfl (lv_at hl 3 rfl) ?_
      refine lv_aload_n hx hb dL_law_1734 rfl (lv_at hl 4 rfl) ?_
      refine lv_iload hx hb dL_law_1735 (lv_at hl 0 rfl) ?_
      refine lv_iconst (v := 1) hx hb dL_law_1737 (by decide) ?_
      refine lv_iadd hx hb dL_law_1738 ?_
      refine va_sld hx hb hX hbl hbA hS (lw_ix (k := 1) hL hin (by decide) (by decide)) dL_law_1739 ?_
      have hF := gFree hDX hS hA
      refine va_calllD hd0 (va_runV_D (As := [.int (xs ((nI (6 * j)) + 1).toNatClampNeg)]) (rest := []) ⟨hx, hb, hml, hown, hts⟩ (n_X11_income l dC dI ad cA adK adV H.size σ hIX (xs ((nI (6 * j)) + 1).toNatClampNeg) ) (cwV 1 hts gL0_X11_income rfl rfl rfl (by decide +kernel) ⟨Nat.le_of_ble_eq_true rfl, Nat.le_of_ble_eq_true rfl⟩) ⟨gBlind, va_recv hKX hPX (ci := 10) (q0 := 0) rfl (at_10 rfl), gStart (As := [.ref (ad 0), .int (xs ((nI (6 * j)) + 1).toNatClampNeg)]) hPX hDX hKX0 hT hS hF (d)⟩ rfl rfl hl.1 rfl (lv_room (Nat.le_of_ble_eq_true rfl)) dL_law_1740 ⟨by omega, by omega⟩) hS (fun q _ h => hF q h) hF (fun r_768 σz_769 t H1 locs ht hvm hw hB hz1 hk1 hS d_770 hd0 => ?_)
      have hts := dr_words hts0 (d_770)
      have hKX := gKd hKX0 (d_770)
      have hKM := gKd hKM0 (d_770)
      have hown : (s.setDrawn (d_770)).vm.findClass RL = some m.cls := hown0
      have hX : va_X b L xs (s.setDrawn (d_770)) s.heap := hX0
      obtain ⟨hPX, hDX⟩ := gBack hF ht hB
      obtain ⟨hI_772, fc_773, hp_771⟩ := hw
      have hPM := gOther hPM hk1 (dj_G dj)
      have hPO := gOther hPO hk1 (dj_1 djX)
      generalize H1 = H at hPX hPM hPO hS ⊢
      have hq_774 : (σz_769 2).1 1 = (τ 0).1 31 := by rw [fc_773 2 (by decide)]; exact hEq
      refine lv_pop2_2 hx hb dL_law_1743 rfl ?_
      refine lv_aload_n hx hb dL_law_1744 rfl (lv_at hl 2 rfl) ?_
      refine lv_aload_n hx hb dL_law_1745 rfl (lv_at hl 4 rfl) ?_
      refine lv_iload hx hb dL_law_1746 (lv_at hl 0 rfl) ?_
      refine lv_iconst (v := 1) hx hb dL_law_1748 (by decide) ?_
      refine lv_iadd hx hb dL_law_1749 ?_
      refine va_sld hx hb hX hbl hbA hS (lw_ix (k := 1) hL hin (by decide) (by decide)) dL_law_1750 ?_
      have hF := gFree hDM hS hA
      refine va_calllD hd0 (va_runV_D (As := [.int (xs ((nI (6 * j)) + 1).toNatClampNeg)]) (rest := []) ⟨hx, hb, hml, hown, hts⟩ (n_X12_income l dC dI am cM adK adV H.size τ hIM (xs ((nI (6 * j)) + 1).toNatClampNeg) hDp) (cwV 1 hts gL0_X12_income rfl rfl rfl (by decide +kernel) ⟨Nat.le_of_ble_eq_true rfl, Nat.le_of_ble_eq_true rfl⟩) ⟨gBlind, va_recv hKM hPM (ci := 11) (q0 := 0) rfl (mat_11 rfl), gStart (As := [.ref (am 0), .int (xs ((nI (6 * j)) + 1).toNatClampNeg)]) hPM hDM hKM0 hT hS hF (d_770)⟩ rfl rfl hl.1 rfl (lv_room (Nat.le_of_ble_eq_true rfl)) dL_law_1751 ⟨by omega, by omega⟩) hS (fun q _ h => hF q h) hF (fun r_775 τz_776 t H1 locs ht hvm hw hB hz1 hk1 hS d_777 hd0 => ?_)
      have hts := dr_words hts0 (d_777)
      have hKX := gKd hKX0 (d_777)
      have hKM := gKd hKM0 (d_777)
      have hown : (s.setDrawn (d_777)).vm.findClass RL = some m.cls := hown0
      have hX : va_X b L xs (s.setDrawn (d_777)) s.heap := hX0
      obtain ⟨hPM, hDM⟩ := gBack hF ht hB
      obtain ⟨hI_779, fc_780, hp_778⟩ := hw
      have hPX := gOther hPX hk1 (dj_sym (dj_G dj))
      have hPO := gOther hPO hk1 (dj_1 djM)
      generalize H1 = H at hPX hPM hPO hS ⊢
      have dp_781 : Deep τz_776 := hp_778
      have hq_782 : (σz_769 2).1 1 = (τz_776 0).1 31 := hq_774.trans (fc_780.2 31 (by decide)).symm
      refine lv_pop2_2 hx hb dL_law_1754 rfl ?_
      refine lv_goto (tgt := 1850) hx hb dL_law_1755 (by decide) ?_
      obtain ⟨x_783, ex_783⟩ : ∃ zz : Int32, zz = (nI (6 * j)) + 6 := ⟨_, rfl⟩
      refine lv_iinc (v := x_783) (lv' := [(4, .int x_783), (3, .ref lo), (2, .ref (am 0)), (1, .ref (ad 0)), (0, .ref b)]) hx hb dL_law_1850 hl (k := 0) rfl (by rw [ex_783]; rfl) (by decide) rfl (fun ls hl => ?_)
      refine lv_goto (tgt := 23) hx hb dL_law_1853 (by decide) ?_
      have hl := lv_sub hl [0, 1, 2, 3, 4] rfl
      rw [ex_783, nI_6] at hl
      exact ih (j + 1) σz_769 τz_776 f _ _ _ _ _ _ (by omega) (by omega) hI_772 hI_779 dp_781 hq_782 (by omega) (by omega) hd0 hPX hDX hPM hDM hPO hDO hS hl
    by_cases c_784 : ((xs (nI (6 * j)).toNatClampNeg) &&& 63) = 38
    · refine lv_tableIn (tgt := 1758) hx hb dL_law_40 (by rw [c_784]; decide) (by rw [c_784]; decide) (by rw [c_784]; rfl) (by decide) ?_
      refine lv_aload_n hx hb dL_law_1758 rfl (lv_at hl 3 rfl) ?_
      have hF := gFree hDX hS hA
      refine va_calliD hd0 (va_runV_D (As := []) (rest := []) ⟨hx, hb, hml, hown, hts⟩ (n_X11_keep l dC dI ad cA adK adV H.size σ hIX  ) (cwV 0 hts gL0_X11_keep rfl rfl rfl (by decide +kernel) ⟨Nat.le_of_ble_eq_true rfl, Nat.le_of_ble_eq_true rfl⟩) ⟨gBlind, va_recv hKX hPX (ci := 10) (q0 := 0) rfl (at_10 rfl), gStart (As := [.ref (ad 0)]) hPX hDX hKX0 hT hS hF (d)⟩ rfl rfl hl.1 rfl (lv_room (Nat.le_of_ble_eq_true rfl)) dL_law_1759 ⟨by omega, by omega⟩) hS (fun q _ h => hF q h) hF (fun r_785 σz_786 t H1 locs ht hvm hw hB hz1 hk1 hS d_787 hd0 => ?_)
      have hts := dr_words hts0 (d_787)
      have hKX := gKd hKX0 (d_787)
      have hKM := gKd hKM0 (d_787)
      have hown : (s.setDrawn (d_787)).vm.findClass RL = some m.cls := hown0
      have hX : va_X b L xs (s.setDrawn (d_787)) s.heap := hX0
      obtain ⟨hPX, hDX⟩ := gBack hF ht hB
      obtain ⟨hI_789, fc_790, hp_788⟩ := hw
      have hPM := gOther hPM hk1 (dj_G dj)
      have hPO := gOther hPO hk1 (dj_1 djX)
      generalize H1 = H at hPX hPM hPO hS ⊢
      have hq_791 : (σz_786 2).1 1 = (τ 0).1 31 := by rw [fc_790 2 (by decide)]; exact hEq
      refine lv_pop hx hb dL_law_1762 rfl ?_
      refine lv_aload_n hx hb dL_law_1763 rfl (lv_at hl 2 rfl) ?_
      have hF := gFree hDM hS hA
      refine va_calliD hd0 (va_runV_D (As := []) (rest := []) ⟨hx, hb, hml, hown, hts⟩ (n_X12_keep l dC dI am cM adK adV H.size τ hIM  hDp) (cwV 0 hts gL0_X12_keep rfl rfl rfl (by decide +kernel) ⟨Nat.le_of_ble_eq_true rfl, Nat.le_of_ble_eq_true rfl⟩) ⟨gBlind, va_recv hKM hPM (ci := 11) (q0 := 0) rfl (mat_11 rfl), gStart (As := [.ref (am 0)]) hPM hDM hKM0 hT hS hF (d_787)⟩ rfl rfl hl.1 rfl (lv_room (Nat.le_of_ble_eq_true rfl)) dL_law_1764 ⟨by omega, by omega⟩) hS (fun q _ h => hF q h) hF (fun r_792 τz_793 t H1 locs ht hvm hw hB hz1 hk1 hS d_794 hd0 => ?_)
      have hts := dr_words hts0 (d_794)
      have hKX := gKd hKX0 (d_794)
      have hKM := gKd hKM0 (d_794)
      have hown : (s.setDrawn (d_794)).vm.findClass RL = some m.cls := hown0
      have hX : va_X b L xs (s.setDrawn (d_794)) s.heap := hX0
      obtain ⟨hPM, hDM⟩ := gBack hF ht hB
      obtain ⟨hI_796, fc_797, hp_795⟩ := hw
      have hPX := gOther hPX hk1 (dj_sym (dj_G dj))
      have hPO := gOther hPO hk1 (dj_1 djM)
      generalize H1 = H at hPX hPM hPO hS ⊢
      have dp_798 : Deep τz_793 := hp_795.2
      have hq_799 : (σz_786 2).1 1 = (τz_793 0).1 31 := hq_791.trans (fc_797.2 31 (by decide)).symm
      refine lv_pop hx hb dL_law_1767 rfl ?_
      refine lv_goto (tgt := 1850) hx hb dL_law_1768 (by decide) ?_
      obtain ⟨x_800, ex_800⟩ : ∃ zz : Int32, zz = (nI (6 * j)) + 6 := ⟨_, rfl⟩
      refine lv_iinc (v := x_800) (lv' := [(4, .int x_800), (3, .ref lo), (2, .ref (am 0)), (1, .ref (ad 0)), (0, .ref b)]) hx hb dL_law_1850 hl (k := 0) rfl (by rw [ex_800]; rfl) (by decide) rfl (fun ls hl => ?_)
      refine lv_goto (tgt := 23) hx hb dL_law_1853 (by decide) ?_
      have hl := lv_sub hl [0, 1, 2, 3, 4] rfl
      rw [ex_800, nI_6] at hl
      exact ih (j + 1) σz_786 τz_793 f _ _ _ _ _ _ (by omega) (by omega) hI_789 hI_796 dp_798 hq_799 (by omega) (by omega) hd0 hPX hDX hPM hDM hPO hDO hS hl
    by_cases c_801 : ((xs (nI (6 * j)).toNatClampNeg) &&& 63) = 39
    · refine lv_tableIn (tgt := 1771) hx hb dL_law_40 (by rw [c_801]; decide) (by rw [c_801]; decide) (by rw [c_801]; rfl) (by decide) ?_
      refine lv_aload_n hx hb dL_law_1771 rfl (lv_at hl 3 rfl) ?_
      have hF := gFree hDX hS hA
      refine va_calliD hd0 (va_runV_D (As := []) (rest := []) ⟨hx, hb, hml, hown, hts⟩ (n_X11_back l dC dI ad cA adK adV H.size σ hIX  ) (cwV 0 hts gL0_X11_back rfl rfl rfl (by decide +kernel) ⟨Nat.le_of_ble_eq_true rfl, Nat.le_of_ble_eq_true rfl⟩) ⟨gBlind, va_recv hKX hPX (ci := 10) (q0 := 0) rfl (at_10 rfl), gStart (As := [.ref (ad 0)]) hPX hDX hKX0 hT hS hF (d)⟩ rfl rfl hl.1 rfl (lv_room (Nat.le_of_ble_eq_true rfl)) dL_law_1772 ⟨by omega, by omega⟩) hS (fun q _ h => hF q h) hF (fun r_802 σz_803 t H1 locs ht hvm hw hB hz1 hk1 hS d_804 hd0 => ?_)
      have hts := dr_words hts0 (d_804)
      have hKX := gKd hKX0 (d_804)
      have hKM := gKd hKM0 (d_804)
      have hown : (s.setDrawn (d_804)).vm.findClass RL = some m.cls := hown0
      have hX : va_X b L xs (s.setDrawn (d_804)) s.heap := hX0
      obtain ⟨hPX, hDX⟩ := gBack hF ht hB
      obtain ⟨hI_806, fc_807, hp_805⟩ := hw
      have hPM := gOther hPM hk1 (dj_G dj)
      have hPO := gOther hPO hk1 (dj_1 djX)
      generalize H1 = H at hPX hPM hPO hS ⊢
      have hq_808 : (σz_803 2).1 1 = (τ 0).1 31 := by rw [fc_807 2 (by decide)]; exact hEq
      refine lv_pop hx hb dL_law_1775 rfl ?_
      refine lv_aload_n hx hb dL_law_1776 rfl (lv_at hl 2 rfl) ?_
      have hF := gFree hDM hS hA
      refine va_calliD hd0 (va_runV_D (As := []) (rest := []) ⟨hx, hb, hml, hown, hts⟩ (n_X12_back l dC dI am cM adK adV H.size τ hIM  hDp) (cwV 0 hts gL0_X12_back rfl rfl rfl (by decide +kernel) ⟨Nat.le_of_ble_eq_true rfl, Nat.le_of_ble_eq_true rfl⟩) ⟨gBlind, va_recv hKM hPM (ci := 11) (q0 := 0) rfl (mat_11 rfl), gStart (As := [.ref (am 0)]) hPM hDM hKM0 hT hS hF (d_804)⟩ rfl rfl hl.1 rfl (lv_room (Nat.le_of_ble_eq_true rfl)) dL_law_1777 ⟨by omega, by omega⟩) hS (fun q _ h => hF q h) hF (fun r_809 τz_810 t H1 locs ht hvm hw hB hz1 hk1 hS d_811 hd0 => ?_)
      have hts := dr_words hts0 (d_811)
      have hKX := gKd hKX0 (d_811)
      have hKM := gKd hKM0 (d_811)
      have hown : (s.setDrawn (d_811)).vm.findClass RL = some m.cls := hown0
      have hX : va_X b L xs (s.setDrawn (d_811)) s.heap := hX0
      obtain ⟨hPM, hDM⟩ := gBack hF ht hB
      obtain ⟨hI_813, fc_814, hp_812⟩ := hw
      have hPX := gOther hPX hk1 (dj_sym (dj_G dj))
      have hPO := gOther hPO hk1 (dj_1 djM)
      generalize H1 = H at hPX hPM hPO hS ⊢
      have dp_815 : Deep τz_810 := hp_812.2
      have hq_816 : (σz_803 2).1 1 = (τz_810 0).1 31 := hq_808.trans (fc_814.2 31 (by decide)).symm
      refine lv_pop hx hb dL_law_1780 rfl ?_
      refine lv_goto (tgt := 1850) hx hb dL_law_1781 (by decide) ?_
      obtain ⟨x_817, ex_817⟩ : ∃ zz : Int32, zz = (nI (6 * j)) + 6 := ⟨_, rfl⟩
      refine lv_iinc (v := x_817) (lv' := [(4, .int x_817), (3, .ref lo), (2, .ref (am 0)), (1, .ref (ad 0)), (0, .ref b)]) hx hb dL_law_1850 hl (k := 0) rfl (by rw [ex_817]; rfl) (by decide) rfl (fun ls hl => ?_)
      refine lv_goto (tgt := 23) hx hb dL_law_1853 (by decide) ?_
      have hl := lv_sub hl [0, 1, 2, 3, 4] rfl
      rw [ex_817, nI_6] at hl
      exact ih (j + 1) σz_803 τz_810 f _ _ _ _ _ _ (by omega) (by omega) hI_806 hI_813 dp_815 hq_816 (by omega) (by omega) hd0 hPX hDX hPM hDM hPO hDO hS hl
    by_cases c_818 : ((xs (nI (6 * j)).toNatClampNeg) &&& 63) = 40
    · refine lv_tableIn (tgt := 1784) hx hb dL_law_40 (by rw [c_818]; decide) (by rw [c_818]; decide) (by rw [c_818]; rfl) (by decide) ?_
      refine lv_aload_n hx hb dL_law_1784 rfl (lv_at hl 3 rfl) ?_
      refine lv_aload_n hx hb dL_law_1785 rfl (lv_at hl 4 rfl) ?_
      refine lv_iload hx hb dL_law_1786 (lv_at hl 0 rfl) ?_
      refine lv_iconst (v := 1) hx hb dL_law_1788 (by decide) ?_
      refine lv_iadd hx hb dL_law_1789 ?_
      refine va_sld hx hb hX hbl hbA hS (lw_ix (k := 1) hL hin (by decide) (by decide)) dL_law_1790 ?_
      refine lv_aload_n hx hb dL_law_1791 rfl (lv_at hl 1 rfl) ?_
      have hF := gFree hDO hS hA
      refine va_calli (vx_runSW (As := [.ref (ad 0), .int (xs ((nI (6 * j)) + 1).toNatClampNeg), .ref lo]) (rest := []) ⟨hx, hb, hml, hown, dr_words htsT0 (d)⟩ (n_L_holiday l hl0 dC dI ad cA adK adV H.size σ hIX lo cL f djX sa (xs ((nI (6 * j)) + 1).toNatClampNeg)) (vx_cwSW 3 (dr_words htsT0 (d)) hy_gT rfl rfl rfl (by decide +kernel) ⟨Nat.le_of_ble_eq_true rfl, Nat.le_of_ble_eq_true rfl⟩) ⟨fun a U g mk q => by obtain ⟨q1, q2, q3, q4, q5, q6⟩ := q; exact ⟨q1, (gBlind (As := [.ref (ad 0), .int (xs ((nI (6 * j)) + 1).toNatClampNeg), .ref lo]) a U g mk ⟨q1, q2⟩).2, vk_R.same rfl q3, q4, va_K.moved (u := U) (U := U.calling g mk a) (Vm.Alike.refl U.vm) q5, q6⟩, fun U hU hW => ⟨rfl, (gStart (As := [.ref (ad 0), .int (xs ((nI (6 * j)) + 1).toNatClampNeg), .ref lo]) hPX hDX hKX0 hT hS (gFree hDX hS hA) (d) U hU hW).2, vk_R.warm hW (vk_R.same rfl hR), by rw [hU]; exact hPO, va_K.moved hW.alike (gKd hKL0 (d)), hDO.weaken (fun _ _ _ _ => trivial)⟩⟩ rfl rfl hl.1 rfl (lv_room (Nat.le_of_ble_eq_true rfl)) dL_law_1792 ⟨by omega, by omega⟩) hS (fun q _ h => hF q h) hF (fun r_819 f_820 t H1 locs ht hvm hw hB hz1 hk1 hS => ?_)
      rw [ht] at hB
      have hPX := gOther hPX hk1 (dj_sym (dj_1 djX))
      have hPM := gOther hPM hk1 (dj_sym (dj_1 djM))
      have hPO := hB
      have hDO : va_D A [(lo, .inl (cL, 1, .inr (.inl f_820)))] := vD_one hDO
      generalize H1 = H at hPX hPM hPO hS ⊢
      refine lv_istore (lv' := [(5, .int r_819), (4, .int (nI (6 * j))), (3, .ref lo), (2, .ref (am 0)), (1, .ref (ad 0)), (0, .ref b)]) hx hb dL_law_1795 hl (by decide) rfl (fun ls hl => ?_)
      refine lv_aload_n hx hb dL_law_1797 rfl (lv_at hl 3 rfl) ?_
      refine lv_aload_n hx hb dL_law_1798 rfl (lv_at hl 5 rfl) ?_
      refine lv_iload hx hb dL_law_1799 (lv_at hl 1 rfl) ?_
      refine lv_iconst (v := 1) hx hb dL_law_1801 (by decide) ?_
      refine lv_iadd hx hb dL_law_1802 ?_
      refine va_sld hx hb hX hbl hbA hS (lw_ix (k := 1) hL hin (by decide) (by decide)) dL_law_1803 ?_
      have hF := gFree hDM hS hA
      refine va_calliD hd0 (va_runV_D (As := [.int (xs ((nI (6 * j)) + 1).toNatClampNeg)]) (rest := []) ⟨hx, hb, hml, hown, hts⟩ (n_X12_holiday l dC dI am cM adK adV H.size τ hIM (xs ((nI (6 * j)) + 1).toNatClampNeg) ) (cwV 1 hts gL0_X12_holiday rfl rfl rfl (by decide +kernel) ⟨Nat.le_of_ble_eq_true rfl, Nat.le_of_ble_eq_true rfl⟩) ⟨gBlind, va_recv hKM hPM (ci := 11) (q0 := 0) rfl (mat_11 rfl), gStart (As := [.ref (am 0), .int (xs ((nI (6 * j)) + 1).toNatClampNeg)]) hPM hDM hKM0 hT hS hF (d)⟩ rfl rfl hl.1 rfl (lv_room (Nat.le_of_ble_eq_true rfl)) dL_law_1804 ⟨by omega, by omega⟩) hS (fun q _ h => hF q h) hF (fun r_821 τz_822 t H1 locs ht hvm hw hB hz1 hk1 hS d_823 hd0 => ?_)
      have hts := dr_words hts0 (d_823)
      have hKX := gKd hKX0 (d_823)
      have hKM := gKd hKM0 (d_823)
      have hown : (s.setDrawn (d_823)).vm.findClass RL = some m.cls := hown0
      have hX : va_X b L xs (s.setDrawn (d_823)) s.heap := hX0
      obtain ⟨hPM, hDM⟩ := gBack hF ht hB
      obtain ⟨hI_825, fc_826, hp_824⟩ := hw
      have hPX := gOther hPX hk1 (dj_sym (dj_G dj))
      have hPO := gOther hPO hk1 (dj_1 djM)
      generalize H1 = H at hPX hPM hPO hS ⊢
      have dp_827 : Deep τz_822 := (Deep.fr hDp (fc_826.1 2 (by decide) (by decide)) (fc_826.1 4 (by decide) (by decide)) (fc_826.1 9 (by decide) (by decide)) (fc_826.1 11 (by decide) (by decide)) (fc_826.1 12 (by decide) (by decide)) (fc_826.1 17 (by decide) (by decide)) (fc_826.1 18 (by decide) (by decide)) (fc_826.2 20 (by decide)) (fc_826.2 21 (by decide)) (fc_826.2 28 (by decide)) (fc_826.2 64 (by decide)) (fc_826.2 65 (by decide)) (fc_826.2 68 (by decide)))
      have hq_828 : (σ 2).1 1 = (τz_822 0).1 31 := hEq.trans (fc_826.2 31 (by decide)).symm
      refine lv_istore (lv' := [(6, .int r_821), (5, .int r_819), (4, .int (nI (6 * j))), (3, .ref lo), (2, .ref (am 0)), (1, .ref (ad 0)), (0, .ref b)]) hx hb dL_law_1807 hl (by decide) rfl (fun ls hl => ?_)
      refine lv_goto (tgt := 1850) hx hb dL_law_1809 (by decide) ?_
      obtain ⟨x_829, ex_829⟩ : ∃ zz : Int32, zz = (nI (6 * j)) + 6 := ⟨_, rfl⟩
      refine lv_iinc (v := x_829) (lv' := [(4, .int x_829), (6, .int r_821), (5, .int r_819), (3, .ref lo), (2, .ref (am 0)), (1, .ref (ad 0)), (0, .ref b)]) hx hb dL_law_1850 hl (k := 2) rfl (by rw [ex_829]; rfl) (by decide) rfl (fun ls hl => ?_)
      refine lv_goto (tgt := 23) hx hb dL_law_1853 (by decide) ?_
      have hl := lv_sub hl [0, 3, 4, 5, 6] rfl
      rw [ex_829, nI_6] at hl
      exact ih (j + 1) σ τz_822 f_820 _ _ _ _ _ _ (by omega) (by omega) hIX hI_825 dp_827 hq_828 (by omega) (by omega) hd0 hPX hDX hPM hDM hPO hDO hS hl
    by_cases c_830 : ((xs (nI (6 * j)).toNatClampNeg) &&& 63) = 41
    · refine lv_tableIn (tgt := 1812) hx hb dL_law_40 (by rw [c_830]; decide) (by rw [c_830]; decide) (by rw [c_830]; rfl) (by decide) ?_
      refine lv_aload_n hx hb dL_law_1812 rfl (lv_at hl 3 rfl) ?_
      refine lv_aload_n hx hb dL_law_1813 rfl (lv_at hl 4 rfl) ?_
      refine lv_iload hx hb dL_law_1814 (lv_at hl 0 rfl) ?_
      refine lv_iconst (v := 1) hx hb dL_law_1816 (by decide) ?_
      refine lv_iadd hx hb dL_law_1817 ?_
      refine va_sld hx hb hX hbl hbA hS (lw_ix (k := 1) hL hin (by decide) (by decide)) dL_law_1818 ?_
      have hF := gFree hDX hS hA
      refine va_calliD hd0 (va_runV_D (As := [.int (xs ((nI (6 * j)) + 1).toNatClampNeg)]) (rest := []) ⟨hx, hb, hml, hown, hts⟩ (n_X11_size l dC dI ad cA adK adV H.size σ hIX (xs ((nI (6 * j)) + 1).toNatClampNeg) ) (cwV 1 hts gL0_X11_size rfl rfl rfl (by decide +kernel) ⟨Nat.le_of_ble_eq_true rfl, Nat.le_of_ble_eq_true rfl⟩) ⟨gBlind, va_recv hKX hPX (ci := 10) (q0 := 0) rfl (at_10 rfl), gStart (As := [.ref (ad 0), .int (xs ((nI (6 * j)) + 1).toNatClampNeg)]) hPX hDX hKX0 hT hS hF (d)⟩ rfl rfl hl.1 rfl (lv_room (Nat.le_of_ble_eq_true rfl)) dL_law_1819 ⟨by omega, by omega⟩) hS (fun q _ h => hF q h) hF (fun r_831 σz_832 t H1 locs ht hvm hw hB hz1 hk1 hS d_833 hd0 => ?_)
      have hts := dr_words hts0 (d_833)
      have hKX := gKd hKX0 (d_833)
      have hKM := gKd hKM0 (d_833)
      have hown : (s.setDrawn (d_833)).vm.findClass RL = some m.cls := hown0
      have hX : va_X b L xs (s.setDrawn (d_833)) s.heap := hX0
      obtain ⟨hPX, hDX⟩ := gBack hF ht hB
      obtain ⟨hI_835, fc_836, hp_834⟩ := hw
      have hPM := gOther hPM hk1 (dj_G dj)
      have hPO := gOther hPO hk1 (dj_1 djX)
      generalize H1 = H at hPX hPM hPO hS ⊢
      have hq_837 : (σz_832 2).1 1 = (τ 0).1 31 := by rw [← fc_836]; exact hEq
      refine lv_pop hx hb dL_law_1822 rfl ?_
      refine lv_aload_n hx hb dL_law_1823 rfl (lv_at hl 2 rfl) ?_
      refine lv_aload_n hx hb dL_law_1824 rfl (lv_at hl 4 rfl) ?_
      refine lv_iload hx hb dL_law_1825 (lv_at hl 0 rfl) ?_
      refine lv_iconst (v := 1) hx hb dL_law_1827 (by decide) ?_
      refine lv_iadd hx hb dL_law_1828 ?_
      refine va_sld hx hb hX hbl hbA hS (lw_ix (k := 1) hL hin (by decide) (by decide)) dL_law_1829 ?_
      have hF := gFree hDM hS hA
      refine va_calliD hd0 (va_runV_D (As := [.int (xs ((nI (6 * j)) + 1).toNatClampNeg)]) (rest := []) ⟨hx, hb, hml, hown, hts⟩ (n_X12_size l dC dI am cM adK adV H.size τ hIM (xs ((nI (6 * j)) + 1).toNatClampNeg) ) (cwV 1 hts gL0_X12_size rfl rfl rfl (by decide +kernel) ⟨Nat.le_of_ble_eq_true rfl, Nat.le_of_ble_eq_true rfl⟩) ⟨gBlind, va_recv hKM hPM (ci := 11) (q0 := 0) rfl (mat_11 rfl), gStart (As := [.ref (am 0), .int (xs ((nI (6 * j)) + 1).toNatClampNeg)]) hPM hDM hKM0 hT hS hF (d_833)⟩ rfl rfl hl.1 rfl (lv_room (Nat.le_of_ble_eq_true rfl)) dL_law_1830 ⟨by omega, by omega⟩) hS (fun q _ h => hF q h) hF (fun r_838 τz_839 t H1 locs ht hvm hw hB hz1 hk1 hS d_840 hd0 => ?_)
      have hts := dr_words hts0 (d_840)
      have hKX := gKd hKX0 (d_840)
      have hKM := gKd hKM0 (d_840)
      have hown : (s.setDrawn (d_840)).vm.findClass RL = some m.cls := hown0
      have hX : va_X b L xs (s.setDrawn (d_840)) s.heap := hX0
      obtain ⟨hPM, hDM⟩ := gBack hF ht hB
      obtain ⟨hI_842, fc_843, hp_841⟩ := hw
      have hPX := gOther hPX hk1 (dj_sym (dj_G dj))
      have hPO := gOther hPO hk1 (dj_1 djM)
      generalize H1 = H at hPX hPM hPO hS ⊢
      have dp_844 : Deep τz_839 := (Deep.fr hDp (fc_843.1 2 (by decide) (by decide)) (fc_843.1 4 (by decide) (by decide)) (fc_843.1 9 (by decide) (by decide)) (fc_843.1 11 (by decide) (by decide)) (fc_843.1 12 (by decide) (by decide)) (fc_843.1 17 (by decide) (by decide)) (fc_843.1 18 (by decide) (by decide)) (fc_843.2 20 (by decide)) (fc_843.2 21 (by decide)) (fc_843.2 28 (by decide)) (fc_843.2 64 (by decide)) (fc_843.2 65 (by decide)) (fc_843.2 68 (by decide)))
      have hq_845 : (σz_832 2).1 1 = (τz_839 0).1 31 := hq_837.trans (fc_843.2 31 (by decide)).symm
      refine lv_pop hx hb dL_law_1833 rfl ?_
      refine lv_goto (tgt := 1850) hx hb dL_law_1834 (by decide) ?_
      obtain ⟨x_846, ex_846⟩ : ∃ zz : Int32, zz = (nI (6 * j)) + 6 := ⟨_, rfl⟩
      refine lv_iinc (v := x_846) (lv' := [(4, .int x_846), (3, .ref lo), (2, .ref (am 0)), (1, .ref (ad 0)), (0, .ref b)]) hx hb dL_law_1850 hl (k := 0) rfl (by rw [ex_846]; rfl) (by decide) rfl (fun ls hl => ?_)
      refine lv_goto (tgt := 23) hx hb dL_law_1853 (by decide) ?_
      have hl := lv_sub hl [0, 1, 2, 3, 4] rfl
      rw [ex_846, nI_6] at hl
      exact ih (j + 1) σz_832 τz_839 f _ _ _ _ _ _ (by omega) (by omega) hI_835 hI_842 dp_844 hq_845 (by omega) (by omega) hd0 hPX hDX hPM hDM hPO hDO hS hl
    by_cases c_847 : ((xs (nI (6 * j)).toNatClampNeg) &&& 63) = 42
    · refine lv_tableIn (tgt := 1837) hx hb dL_law_40 (by rw [c_847]; decide) (by rw [c_847]; decide) (by rw [c_847]; rfl) (by decide) ?_
      refine lv_aload_n hx hb dL_law_1837 rfl (lv_at hl 3 rfl) ?_
      have hF := gFree hDX hS hA
      refine va_calliD hd0 (va_runV_D (As := []) (rest := []) ⟨hx, hb, hml, hown, hts⟩ (n_X11_trouble l dC dI ad cA adK adV H.size σ hIX  ) (cwV 0 hts gL0_X11_trouble rfl rfl rfl (by decide +kernel) ⟨Nat.le_of_ble_eq_true rfl, Nat.le_of_ble_eq_true rfl⟩) ⟨gBlind, va_recv hKX hPX (ci := 10) (q0 := 0) rfl (at_10 rfl), gStart (As := [.ref (ad 0)]) hPX hDX hKX0 hT hS hF (d)⟩ rfl rfl hl.1 rfl (lv_room (Nat.le_of_ble_eq_true rfl)) dL_law_1838 ⟨by omega, by omega⟩) hS (fun q _ h => hF q h) hF (fun r_848 σz_849 t H1 locs ht hvm hw hB hz1 hk1 hS d_850 hd0 => ?_)
      have hts := dr_words hts0 (d_850)
      have hKX := gKd hKX0 (d_850)
      have hKM := gKd hKM0 (d_850)
      have hown : (s.setDrawn (d_850)).vm.findClass RL = some m.cls := hown0
      have hX : va_X b L xs (s.setDrawn (d_850)) s.heap := hX0
      obtain ⟨hPX, hDX⟩ := gBack hF ht hB
      obtain ⟨hI_852, fc_853, hp_851⟩ := hw
      have hPM := gOther hPM hk1 (dj_G dj)
      have hPO := gOther hPO hk1 (dj_1 djX)
      generalize H1 = H at hPX hPM hPO hS ⊢
      have hq_854 : (σz_849 2).1 1 = (τ 0).1 31 := by rw [← fc_853]; exact hEq
      refine lv_pop hx hb dL_law_1841 rfl ?_
      refine lv_aload_n hx hb dL_law_1842 rfl (lv_at hl 2 rfl) ?_
      have hF := gFree hDM hS hA
      refine va_calliD hd0 (va_runV_D (As := []) (rest := []) ⟨hx, hb, hml, hown, hts⟩ (n_X12_trouble l dC dI am cM adK adV H.size τ hIM  ) (cwV 0 hts gL0_X12_trouble rfl rfl rfl (by decide +kernel) ⟨Nat.le_of_ble_eq_true rfl, Nat.le_of_ble_eq_true rfl⟩) ⟨gBlind, va_recv hKM hPM (ci := 11) (q0 := 0) rfl (mat_11 rfl), gStart (As := [.ref (am 0)]) hPM hDM hKM0 hT hS hF (d_850)⟩ rfl rfl hl.1 rfl (lv_room (Nat.le_of_ble_eq_true rfl)) dL_law_1843 ⟨by omega, by omega⟩) hS (fun q _ h => hF q h) hF (fun r_855 τz_856 t H1 locs ht hvm hw hB hz1 hk1 hS d_857 hd0 => ?_)
      have hts := dr_words hts0 (d_857)
      have hKX := gKd hKX0 (d_857)
      have hKM := gKd hKM0 (d_857)
      have hown : (s.setDrawn (d_857)).vm.findClass RL = some m.cls := hown0
      have hX : va_X b L xs (s.setDrawn (d_857)) s.heap := hX0
      obtain ⟨hPM, hDM⟩ := gBack hF ht hB
      obtain ⟨hI_859, fc_860, hp_858⟩ := hw
      have hPX := gOther hPX hk1 (dj_sym (dj_G dj))
      have hPO := gOther hPO hk1 (dj_1 djM)
      generalize H1 = H at hPX hPM hPO hS ⊢
      have dp_861 : Deep τz_856 := (Deep.fr hDp (fc_860.1 2 (by decide) (by decide)) (fc_860.1 4 (by decide) (by decide)) (fc_860.1 9 (by decide) (by decide)) (fc_860.1 11 (by decide) (by decide)) (fc_860.1 12 (by decide) (by decide)) (fc_860.1 17 (by decide) (by decide)) (fc_860.1 18 (by decide) (by decide)) (fc_860.2 20 (by decide)) (fc_860.2 21 (by decide)) (fc_860.2 28 (by decide)) (fc_860.2 64 (by decide)) (fc_860.2 65 (by decide)) (fc_860.2 68 (by decide)))
      have hq_862 : (σz_849 2).1 1 = (τz_856 0).1 31 := hq_854.trans (fc_860.2 31 (by decide)).symm
      refine lv_pop hx hb dL_law_1846 rfl ?_
      refine lv_goto (tgt := 1850) hx hb dL_law_1847 (by decide) ?_
      obtain ⟨x_863, ex_863⟩ : ∃ zz : Int32, zz = (nI (6 * j)) + 6 := ⟨_, rfl⟩
      refine lv_iinc (v := x_863) (lv' := [(4, .int x_863), (3, .ref lo), (2, .ref (am 0)), (1, .ref (ad 0)), (0, .ref b)]) hx hb dL_law_1850 hl (k := 0) rfl (by rw [ex_863]; rfl) (by decide) rfl (fun ls hl => ?_)
      refine lv_goto (tgt := 23) hx hb dL_law_1853 (by decide) ?_
      have hl := lv_sub hl [0, 1, 2, 3, 4] rfl
      rw [ex_863, nI_6] at hl
      exact ih (j + 1) σz_849 τz_856 f _ _ _ _ _ _ (by omega) (by omega) hI_852 hI_859 dp_861 hq_862 (by omega) (by omega) hd0 hPX hDX hPM hDM hPO hDO hS hl
    refine lv_tableOut (tgt := 1850) hx hb dL_law_40 (by have q0 := lv_neT (a := 0) c_3 rfl; have q1 := lv_neT (a := 1) c_22 rfl; have q2 := lv_neT (a := 2) c_39 rfl; have q3 := lv_neT (a := 3) c_56 rfl; have q4 := lv_neT (a := 4) c_73 rfl; have q5 := lv_neT (a := 5) c_90 rfl; have q6 := lv_neT (a := 6) c_107 rfl; have q7 := lv_neT (a := 7) c_143 rfl; have q8 := lv_neT (a := 8) c_160 rfl; have q9 := lv_neT (a := 9) c_177 rfl; have q10 := lv_neT (a := 10) c_213 rfl; have q11 := lv_neT (a := 11) c_230 rfl; have q12 := lv_neT (a := 12) c_247 rfl; have q13 := lv_neT (a := 13) c_264 rfl; have q14 := lv_neT (a := 14) c_300 rfl; have q15 := lv_neT (a := 15) c_336 rfl; have q16 := lv_neT (a := 16) c_353 rfl; have q17 := lv_neT (a := 17) c_370 rfl; have q18 := lv_neT (a := 18) c_387 rfl; have q19 := lv_neT (a := 19) c_404 rfl; have q20 := lv_neT (a := 20) c_440 rfl; have q21 := lv_neT (a := 21) c_476 rfl; have q22 := lv_neT (a := 22) c_493 rfl; have q23 := lv_neT (a := 23) c_510 rfl; have q24 := lv_neT (a := 24) c_527 rfl; have q25 := lv_neT (a := 25) c_563 rfl; have q26 := lv_neT (a := 26) c_580 rfl; have q27 := lv_neT (a := 27) c_597 rfl; have q28 := lv_neT (a := 28) c_614 rfl; have q29 := lv_neT (a := 29) c_631 rfl; have q30 := lv_neT (a := 30) c_648 rfl; have q31 := lv_neT (a := 31) c_665 rfl; have q32 := lv_neT (a := 32) c_682 rfl; have q33 := lv_neT (a := 33) c_699 rfl; have q34 := lv_neT (a := 34) c_716 rfl; have q35 := lv_neT (a := 35) c_733 rfl; have q36 := lv_neT (a := 36) c_750 rfl; have q37 := lv_neT (a := 37) c_767 rfl; have q38 := lv_neT (a := 38) c_784 rfl; have q39 := lv_neT (a := 39) c_801 rfl; have q40 := lv_neT (a := 40) c_818 rfl; have q41 := lv_neT (a := 41) c_830 rfl; have q42 := lv_neT (a := 42) c_847 rfl; omega) (by decide) ?_
    obtain ⟨x_864, ex_864⟩ : ∃ zz : Int32, zz = (nI (6 * j)) + 6 := ⟨_, rfl⟩
    refine lv_iinc (v := x_864) (lv' := [(4, .int x_864), (3, .ref lo), (2, .ref (am 0)), (1, .ref (ad 0)), (0, .ref b)]) hx hb dL_law_1850 hl (k := 0) rfl (by rw [ex_864]; rfl) (by decide) rfl (fun ls hl => ?_)
    refine lv_goto (tgt := 23) hx hb dL_law_1853 (by decide) ?_
    have hl := lv_sub hl [0, 1, 2, 3, 4] rfl
    rw [ex_864, nI_6] at hl
    exact ih (j + 1) σ τ f _ _ _ _ _ _ (by omega) (by omega) hIX hIM hDp hEq (by omega) (by omega) hd0 hPX hDX hPM hDM hPO hDO hS hl
