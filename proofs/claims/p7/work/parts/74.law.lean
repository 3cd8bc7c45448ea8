/-! THE CLAIM OUT OF ONE WALK OF THE LAW'S BODY. Your part is whole_start (and what it stands on); all else here is the same for every law, but numbers. -/
def R_law : String := "BondCalendarsLaw"
def lw_P (b : Addr) (xs : List Int32) (args : Array Value) (s : State) : Prop := args = #[.ref b] ∧ s.IntsAt b xs ∧ xs.length ≤ 3072 ∧ (Jvm.Cond.and given_1 narrow_1).before args s = true
/-- what a walk over the start with the record d0 says of its end, said of the start itself -/
theorem lw_closed {s t : State} {o : Outcome} {d0 : Drawn} {L : List Loc} {k n : Nat} (hd0 : s.drawn.sameBut d0 lw_cs) (hv : ∃ v, o = .returned v) (hW : (s.setDrawn d0).WarmedH t.vm) (hs : (s.setDrawn d0).sameButNew ({ t with vm := s.vm } : State) L k n) : State.butDraws s t lw_cs (fun t1 => Framed s o t1 L k n) := by
  have h2 : t.drawn = d0 := congrArg State.drawn hs.1
  refine ⟨⟨hv, hW, State.sameButNew.setDrawn hs s.drawn⟩, ?_, by decide⟩
  rw [h2]
  exact hd0
def lw_Q (_ : Array Value) (s : State) (o : Outcome) (t : State) : Prop := o = .returned (some (.int 1)) ∧ State.butDraws s t lw_cs (fun t1 => Framed s o t1 [] 601024 7293034)
def lw_Z (below : List Frame) (a : Array Value) (s : State) : State → Prop := fun t => ∃ o, t.status = .running ∧ Ended t below o ∧ lw_Q a s o t
/-- the law's own end, with 1 on the stack, nothing written that was there before, its room as the claim has it; d0: the record of draws at this point (at the entry s.drawn: begin with 'refine W.base ?_' and 'have hd0 := Drawn.sameBut.refl s.drawn lw_cs') -/
theorem lw_ret {p : Program} {l : Launch} {e : Env} {s : State} {m : MethodId} {below : List Frame} {meth : Method} {c : Code} {b : Nat} {d0 : Drawn} (hd0 : s.drawn.sameBut d0 lw_cs) (hx : p.tables.exec = Jvm.exec) (hb : c.code = code) (hr : meth.sig.returnType = ret) (hlocks : meth.locks = false) {pc : Nat} {H : Heap} {ls : Array Slot} (hdg : decode code pc = .ok (.ireturn, 1)) : W p l e room_1 (s.setDrawn d0) m #[Value.ref b] below meth c H [] 601024 7293034 (lw_Z below #[Value.ref b] s) (F0 m pc ls [.int 1]) := by
  intro T hT X
  obtain ⟨fs, hret, hrun, hended, hW, hframe⟩ := X.leave (v := some (.int 1)) (hlocks := hlocks) (fun h => by rw [hr] at h; cases h)
  have hmeth' : T.vm.method? m = some meth := X.method'
  refine ⟨T.setFrames fs, ?_, .returned (some (.int 1)), hrun, hended, rfl, lw_closed hd0 ⟨_, rfl⟩ hW hframe⟩
  jvm_step X.here [X.here.top, hx, hb, hdg, hmeth', hr, ret, narrow_b1]
  (try refine ⟨rfl, ?_⟩); (try refine ⟨rfl, ?_⟩)
  first | (intro acts; rw [hret _ acts rfl rfl rfl]) | rw [hret _ _ rfl rfl rfl]
  exact Steps.refl _
/-- what holds at the law's entry: the machine, the code, the tables' words (any of lw_tbl by 'hts w (by decide +kernel)'), the script of L ints xs at the cell b, what the Statement gives of the start (any of its parts by flat_of_before) -/
def lw_At (p : Program) (s : State) (m : MethodId) (meth : Method) (c : Code) (b L : Nat) (xs : Nat → Int32) : Prop :=
  p.tables.exec = Jvm.exec ∧ c.code = code ∧ meth.sig.returnType = ret ∧ c.maxLocals = 7 ∧ s.vm.findClass R_law = some m.cls ∧ (∀ w ∈ lw_tbl, w.before #[Value.ref b] s = true) ∧ va_X b L xs s s.heap ∧ b < s.heap.size ∧ meth.locks = false ∧ (Jvm.Cond.and given_1 narrow_1).before #[Value.ref b] s = true
theorem vD_one {A : Nat → Prop} {lo : Nat} {e e' : va_E} (h : va_D A [(lo, e)]) : va_D A [(lo, e')] := by
  refine ⟨fun i j p q h1 h2 _ => ?_, fun k q hq => ?_⟩
  · have a := (List.getElem?_eq_some_iff.mp h1).1
    have b := (List.getElem?_eq_some_iff.mp h2).1
    simp at a b
    omega
  · have a := (List.getElem?_eq_some_iff.mp hq).1
    simp at a
    subst a
    cases hq
    exact (show A lo from h.2 0 (lo, e) rfl)
theorem lw_in {L j : Nat} {x : Int32} (hL : L ≤ 3072) (hj : 6 * j ≤ L + 6) (ex : x = Int32.ofNat L - 6) (h : ¬ x < nI (6 * j)) : 6 * j + 6 ≤ L := by
  have a : (Int32.ofNat L).toInt = (L : Int) := Int32.toInt_ofNat_of_lt (by omega)
  have b : (nI (6 * j)).toInt = ((6 * j : Nat) : Int) := Int32.toInt_ofNat_of_lt (by omega)
  have c : x.toInt = (L : Int) - 6 := by rw [ex]; exact i3_sub (b := 6) (y := 6) a rfl (by omega) (by omega)
  have d := mt Int32.lt_iff_toInt_lt.mpr h
  omega
theorem lw_ix {L j k : Nat} {c : Int32} (hL : L ≤ 3072) (hj : 6 * j + 6 ≤ L) (hc : c.toInt = (k : Int)) (hk : k < 6) : vp_in (nI (6 * j) + c) L := by
  have b : (nI (6 * j)).toInt = ((6 * j : Nat) : Int) := Int32.toInt_ofNat_of_lt (by omega)
  have d : (nI (6 * j) + c).toInt = ((6 * j : Nat) : Int) + k := i3_add b hc (by omega) (by omega)
  intro h
  rcases h with h | h
  · have := Int32.lt_iff_toInt_lt.mp h
    have z : (0 : Int32).toInt = 0 := by decide
    omega
  · have e : (nI (6 * j) + c).toNatClampNeg = (nI (6 * j) + c).toInt.toNat := rfl
    omega
theorem lw_ix0 {L j : Nat} (hL : L ≤ 3072) (hj : 6 * j + 6 ≤ L) : vp_in (nI (6 * j)) L := by
  have b : (nI (6 * j)).toInt = ((6 * j : Nat) : Int) := Int32.toInt_ofNat_of_lt (by omega)
  intro h
  rcases h with h | h
  · have := Int32.lt_iff_toInt_lt.mp h
    have z : (0 : Int32).toInt = 0 := by decide
    omega
  · have e : (nI (6 * j)).toNatClampNeg = (nI (6 * j)).toInt.toNat := rfl
    omega
theorem nI_6 (j : Nat) : nI (6 * j) + 6 = nI (6 * (j + 1)) := by
  show Int32.ofNat (6 * j) + Int32.ofNat 6 = Int32.ofNat (6 * (j + 1))
  rw [← Int32.ofNat_add]
  congr 1

set_option maxHeartbeats 80000000 in
set_option maxRecDepth 100000 in
/-- the law's loop: from any state of both objects -/
theorem law_loop {p : Program} {e : Env} {s : State} {m : MethodId} {below : List Frame} {meth : Method} {c : Code} (l : Launch) (hflags : l.flags = flags0) {b L : Nat} {xs : Nat → Int32} (C0 : lw_At p s m meth c b L xs) (hL : L ≤ 3072) (dC : Nat → ClassId) (dI : Nat → Nat → Nat) (ad am : Nat → Nat) (cA cM : Nat → ClassId) (lo : Nat) (cL : ClassId) (adK adV : Nat → Nat) (sa : Nat) (hKX0 : va_K (dC, dI) vwCl (tX cA) s) (hKM0 : va_K (dC, dI) vwCl (tM cM) s) (hKL0 : va_K (dC, dI) vwCl [(cL, .long)] s) (hT : gT adK adV (fun q : Nat => s.heap.size ≤ q) s s.heap) (hR : vk_R RX11 386 "no such holiday" sa s) (dj : ∀ i, i < 155 → ∀ j, j < 31 → ad i ≠ am j) (djX : ∀ i, i < 155 → ad i ≠ lo) (djM : ∀ i, i < 31 → am i ≠ lo) : ∀ (n j : Nat) (σ τ : gs) (f : Nat → Int64) (d : Drawn) (H : Heap) (locs : List Loc) (ls : Array Slot) (cells slots : Nat), L + 6 - 6 * j < n → 6 * j ≤ L + 6 → InvX σ → InvM τ → Deep τ → cells ≤ 187 + j → slots ≤ 12986 + 6 * j → s.drawn.sameBut d lw_cs → va_P (dC, dI) vwCl (wX ad cA σ) H → va_D (fun q : Nat => s.heap.size ≤ q) (wX ad cA σ) → va_P (dC, dI) vwCl (wM am cM τ) H → va_D (fun q : Nat => s.heap.size ≤ q) (wM am cM τ) → va_P (dC, dI) vwCl [(lo, .inl (cL, 1, .inr (.inl f)))] H → va_D (fun q : Nat => s.heap.size ≤ q) [(lo, .inl (cL, 1, .inr (.inl f)))] → va_S (fun q : Nat => s.heap.size ≤ q) s.heap H locs → lv_has ls 7 [(4, .int (nI (6 * j))), (3, .ref lo), (2, .ref (am 0)), (1, .ref (ad 0)), (0, .ref b)] → W p l e room_1 (s.setDrawn d) m #[Value.ref b] below meth c H locs cells slots (lw_Z below #[Value.ref b] s) (F0 m 23 ls []) := by
  obtain ⟨hx, hb, hr, hml, hown0, htsL, hX0, hbl, hlocks, hgv⟩ := id C0
  have hown0 : s.vm.findClass RL = some m.cls := hown0
  have hl0 : l.stackTraces = false := hx_fl hflags
  have htsT0 : ∀ w ∈ hy_T, w.before #[Value.ref b] s = true := fun w h => htsL w (hy_T_in w h)
  have hts0 : ∀ w ∈ wsL_law0, w.before #[Value.ref b] s = true := fun w h => htsL w (wsL_law_in0 w h)
  have hA : ∀ q : Nat, s.heap.size ≤ q → (fun q : Nat => s.heap.size ≤ q) q := fun _ h => h
  have hbA : ¬ (fun q : Nat => s.heap.size ≤ q) b := Nat.not_le.mpr hbl
  generalize hAe : (fun q : Nat => s.heap.size ≤ q) = A at hA hbA hT ⊢
  have hrc : room_1.cells = 601024 := rfl
  have hrs : room_1.slots = 7293034 := rfl
  intro n
  induction n with
  | zero => intro j σ τ f d H locs ls cells slots hm; exact absurd hm (Nat.not_lt_zero _)
  | succ n ih =>
  intro j σ τ f d H locs ls cells slots hm hj hIX hIM hDp hcl hsl hd0 hPX hDX hPM hDM hPO hDO hS hl
  have hts := dr_words hts0 (d)
  have hKX := gKd hKX0 (d)
  have hKM := gKd hKM0 (d)
  have hown : (s.setDrawn (d)).vm.findClass RL = some m.cls := hown0
  have hX : va_X b L xs (s.setDrawn (d)) s.heap := hX0
  refine lv_iload hx hb dL_law_23 (lv_at hl 0 rfl) ?_
  refine lv_aload_n hx hb dL_law_25 rfl (lv_at hl 4 rfl) ?_
  refine va_slen hx hb hX hbl hbA hS dL_law_26 ?_
  refine lv_bipush (v := 6) hx hb dL_law_27 (by decide) ?_
  refine lv_isub hx hb dL_law_29 ?_
  refine lv_topi (fun x_1 ex_1 => ?_)
  refine lv_icmp_gt (tgt := 1856) hx hb dL_law_30 (by decide) (fun c_2 => ?_) (fun c_2 => ?_)
  · refine lv_iconst (v := 1) hx hb dL_law_1856 (by decide) ?_
    refine va_forget (fun q hq => by have h9 := hS.2.2 q hq; rw [← hAe] at h9; exact h9) ?_
    refine W.widen (k := 601024) (n := 7293034) (by omega) (by omega) ?_
    exact lw_ret hd0 hx hb hr hlocks dL_law_1857
  · have hin : 6 * j + 6 ≤ L := lw_in hL hj ex_1 c_2
    refine lv_aload_n hx hb dL_law_33 rfl (lv_at hl 4 rfl) ?_
    refine lv_iload hx hb dL_law_34 (lv_at hl 0 rfl) ?_
    refine va_sld hx hb hX hbl hbA hS (lw_ix0 hL hin) dL_law_36 ?_
    refine lv_bipush (v := 63) hx hb dL_law_37 (by decide) ?_
    refine lv_iand hx hb dL_law_39 ?_
    by_cases c_3 : ((xs (nI (6 * j)).toNatClampNeg) &&& 63) = 0
    · refine lv_tableIn (tgt := 228) hx hb dL_law_40 (by rw [c_3]; decide) (by rw [c_3]; decide) (by rw [c_3]; rfl) (by decide) ?_
      refine lv_aload_n hx hb dL_law_228 rfl (lv_at hl 3 rfl) ?_
      refine lv_aload_n hx hb dL_law_229 rfl (lv_at hl 4 rfl) ?_
      refine lv_iload hx hb dL_law_230 (lv_at hl 0 rfl) ?_
      refine lv_iconst (v := 1) hx hb dL_law_232 (by decide) ?_
      refine lv_iadd hx hb dL_law_233 ?_
      refine va_sld hx hb hX hbl hbA hS (lw_ix (k := 1) hL hin (by decide) (by decide)) dL_law_234 ?_
      refine lv_aload_n hx hb dL_law_235 rfl (lv_at hl 4 rfl) ?_
      refine lv_iload hx hb dL_law_236 (lv_at hl 0 rfl) ?_
      refine lv_iconst (v := 2) hx hb dL_law_238 (by decide) ?_
      refine lv_iadd hx hb dL_law_239 ?_
      refine va_sld hx hb hX hbl hbA hS (lw_ix (k := 2) hL hin (by decide) (by decide)) dL_law_240 ?_
      refine lv_aload_n hx hb dL_law_241 rfl (lv_at hl 4 rfl) ?_
      refine lv_iload hx hb dL_law_242 (lv_at hl 0 rfl) ?_
      refine lv_iconst (v := 3) hx hb dL_law_244 (by decide) ?_
      refine lv_iadd hx hb dL_law_245 ?_
      refine va_sld hx hb hX hbl hbA hS (lw_ix (k := 3) hL hin (by decide) (by decide)) dL_law_246 ?_
      refine lv_aload_n hx hb dL_law_247 rfl (lv_at hl 4 rfl) ?_
      refine lv_iload hx hb dL_law_248 (lv_at hl 0 rfl) ?_
      refine lv_iconst (v := 4) hx hb dL_law_250 (by decide) ?_
      refine lv_iadd hx hb dL_law_251 ?_
      refine va_sld hx hb hX hbl hbA hS (lw_ix (k := 4) hL hin (by decide) (by decide)) dL_law_252 ?_
      refine lv_aload_n hx hb dL_law_253 rfl (lv_at hl 4 rfl) ?_
      refine lv_iload hx hb dL_law_254 (lv_at hl 0 rfl) ?_
      refine lv_iconst (v := 5) hx hb dL_law_256 (by decide) ?_
      refine lv_iadd hx hb dL_law_257 ?_
      refine va_sld hx hb hX hbl hbA hS (lw_ix (k := 5) hL hin (by decide) (by decide)) dL_law_258 ?_
      have hF := gFree hDX hS hA
      refine va_calliD hd0 (va_runV_D (As := [.int (xs ((nI (6 * j)) + 1).toNatClampNeg), .int (xs ((nI (6 * j)) + 2).toNatClampNeg), .int (xs ((nI (6 * j)) + 3).toNatClampNeg), .int (xs ((nI (6 * j)) + 4).toNatClampNeg), .int (xs ((nI (6 * j)) + 5).toNatClampNeg)]) (rest := []) ⟨hx, hb, hml, hown, hts⟩ (n_X11_feed l dC dI ad cA adK adV H.size σ hIX (xs ((nI (6 * j)) + 1).toNatClampNeg) (xs ((nI (6 * j)) + 2).toNatClampNeg) (xs ((nI (6 * j)) + 3).toNatClampNeg) (xs ((nI (6 * j)) + 4).toNatClampNeg) (xs ((nI (6 * j)) + 5).toNatClampNeg) ) (cwV 5 hts gL0_X11_feed rfl rfl rfl (by decide +kernel) ⟨Nat.le_of_ble_eq_true rfl, Nat.le_of_ble_eq_true rfl⟩) ⟨gBlind, va_recv hKX hPX (ci := 10) (q0 := 0) rfl (at_10 rfl), gStart (As := [.ref (ad 0), .int (xs ((nI (6 * j)) + 1).toNatClampNeg), .int (xs ((nI (6 * j)) + 2).toNatClampNeg), .int (xs ((nI (6 * j)) + 3).toNatClampNeg), .int (xs ((nI (6 * j)) + 4).toNatClampNeg), .int (xs ((nI (6 * j)) + 5).toNatClampNeg)]) hPX hDX hKX0 hT hS hF (d)⟩ rfl rfl hl.1 rfl (lv_room (Nat.le_of_ble_eq_true rfl)) dL_law_259 ⟨by omega, by omega⟩) hS (fun q _ h => hF q h) hF (fun r_4 σz_5 t H1 locs ht hvm hw hB hz1 hk1 hS d_6 hd0 => ?_)
      have hts := dr_words hts0 (d_6)
      have hKX := gKd hKX0 (d_6)
      have hKM := gKd hKM0 (d_6)
      have hown : (s.setDrawn (d_6)).vm.findClass RL = some m.cls := hown0
      have hX : va_X b L xs (s.setDrawn (d_6)) s.heap := hX0
      obtain ⟨hPX, hDX⟩ := gBack hF ht hB
      obtain ⟨hI_8, fc_9, hp_7⟩ := hw
      have hPM := gOther hPM hk1 (dj_G dj)
      have hPO := gOther hPO hk1 (dj_1 djX)
      generalize H1 = H at hPX hPM hPO hS ⊢
      refine lv_pop hx hb dL_law_262 rfl ?_
      refine lv_aload_n hx hb dL_law_263 rfl (lv_at hl 2 rfl) ?_
      refine lv_aload_n hx hb dL_law_264 rfl (lv_at hl 4 rfl) ?_
      refine lv_iload hx hb dL_law_265 (lv_at hl 0 rfl) ?_
      refine lv_iconst (v := 1) hx hb dL_law_267 (by decide) ?_
      refine lv_iadd hx hb dL_law_268 ?_
      refine va_sld hx hb hX hbl hbA hS (lw_ix (k := 1) hL hin (by decide) (by decide)) dL_law_269 ?_
      refine lv_aload_n hx hb dL_law_270 rfl (lv_at hl 4 rfl) ?_
      refine lv_iload hx hb dL_law_271 (lv_at hl 0 rfl) ?_
      refine lv_iconst (v := 2) hx hb dL_law_273 (by decide) ?_
      refine lv_iadd hx hb dL_law_274 ?_
      refine va_sld hx hb hX hbl hbA hS (lw_ix (k := 2) hL hin (by decide) (by decide)) dL_law_275 ?_
      refine lv_aload_n hx hb dL_law_276 rfl (lv_at hl 4 rfl) ?_
      refine lv_iload hx hb dL_law_277 (lv_at hl 0 rfl) ?_
      refine lv_iconst (v := 3) hx hb dL_law_279 (by decide) ?_
      refine lv_iadd hx hb dL_law_280 ?_
      refine va_sld hx hb hX hbl hbA hS (lw_ix (k := 3) hL hin (by decide) (by decide)) dL_law_281 ?_
      refine lv_aload_n hx hb dL_law_282 rfl (lv_at hl 4 rfl) ?_
      refine lv_iload hx hb dL_law_283 (lv_at hl 0 rfl) ?_
      refine lv_iconst (v := 4) hx hb dL_law_285 (by decide) ?_
      refine lv_iadd hx hb dL_law_286 ?_
      refine va_sld hx hb hX hbl hbA hS (lw_ix (k := 4) hL hin (by decide) (by decide)) dL_law_287 ?_
      refine lv_aload_n hx hb dL_law_288 rfl (lv_at hl 4 rfl) ?_
      refine lv_iload hx hb dL_law_289 (lv_at hl 0 rfl) ?_
      refine lv_iconst (v := 5) hx hb dL_law_291 (by decide) ?_
      refine lv_iadd hx hb dL_law_292 ?_
      refine va_sld hx hb hX hbl hbA hS (lw_ix (k := 5) hL hin (by decide) (by decide)) dL_law_293 ?_
      have hF := gFree hDM hS hA
      refine va_calliD hd0 (va_runV_D (As := [.int (xs ((nI (6 * j)) + 1).toNatClampNeg), .int (xs ((nI (6 * j)) + 2).toNatClampNeg), .int (xs ((nI (6 * j)) + 3).toNatClampNeg), .int (xs ((nI (6 * j)) + 4).toNatClampNeg), .int (xs ((nI (6 * j)) + 5).toNatClampNeg)]) (rest := []) ⟨hx, hb, hml, hown, hts⟩ (n_X12_feed l dC dI am cM adK adV H.size τ hIM (xs ((nI (6 * j)) + 1).toNatClampNeg) (xs ((nI (6 * j)) + 2).toNatClampNeg) (xs ((nI (6 * j)) + 3).toNatClampNeg) (xs ((nI (6 * j)) + 4).toNatClampNeg) (xs ((nI (6 * j)) + 5).toNatClampNeg) ) (cwV 5 hts gL0_X12_feed rfl rfl rfl (by decide +kernel) ⟨Nat.le_of_ble_eq_true rfl, Nat.le_of_ble_eq_true rfl⟩) ⟨gBlind, va_recv hKM hPM (ci := 11) (q0 := 0) rfl (mat_11 rfl), gStart (As := [.ref (am 0), .int (xs ((nI (6 * j)) + 1).toNatClampNeg), .int (xs ((nI (6 * j)) + 2).toNatClampNeg), .int (xs ((nI (6 * j)) + 3).toNatClampNeg), .int (xs ((nI (6 * j)) + 4).toNatClampNeg), .int (xs ((nI (6 * j)) + 5).toNatClampNeg)]) hPM hDM hKM0 hT hS hF (d_6)⟩ rfl rfl hl.1 rfl (lv_room (Nat.le_of_ble_eq_true rfl)) dL_law_294 ⟨by omega, by omega⟩) hS (fun q _ h => hF q h) hF (fun r_10 τz_11 t H1 locs ht hvm hw hB hz1 hk1 hS d_12 hd0 => ?_)
      have hts := dr_words hts0 (d_12)
      have hKX := gKd hKX0 (d_12)
      have hKM := gKd hKM0 (d_12)
      have hown : (s.setDrawn (d_12)).vm.findClass RL = some m.cls := hown0
      have hX : va_X b L xs (s.setDrawn (d_12)) s.heap := hX0
      obtain ⟨hPM, hDM⟩ := gBack hF ht hB
      obtain ⟨hI_14, fc_15, hp_13⟩ := hw
      have hPX := gOther hPX hk1 (dj_sym (dj_G dj))
      have hPO := gOther hPO hk1 (dj_1 djM)
      generalize H1 = H at hPX hPM hPO hS ⊢
      have dp_16 : Deep τz_11 := (Deep.fr hDp (fc_15.1 2 (by decide) (by decide)) (fc_15.1 4 (by decide) (by decide)) (fc_15.1 9 (by decide) (by decide)) (fc_15.1 11 (by decide) (by decide)) (fc_15.1 12 (by decide) (by decide)) (fc_15.1 17 (by decide) (by decide)) (fc_15.1 18 (by decide) (by decide)) (fc_15.2 20 (by decide)) (fc_15.2 21 (by decide)) (fc_15.2 28 (by decide)) (fc_15.2 64 (by decide)) (fc_15.2 65 (by decide)) (fc_15.2 68 (by decide)))
      refine lv_pop hx hb dL_law_297 rfl ?_
      refine lv_goto (tgt := 1850) hx hb dL_law_298 (by decide) ?_
      obtain ⟨x_17, ex_17⟩ : ∃ zz : Int32, zz = (nI (6 * j)) + 6 := ⟨_, rfl⟩
      refine lv_iinc (v := x_17) (lv' := [(4, .int x_17), (3, .ref lo), (2, .ref (am 0)), (1, .ref (ad 0)), (0, .ref b)]) hx hb dL_law_1850 hl (k := 0) rfl (by rw [ex_17]; rfl) (by decide) rfl (fun ls hl => ?_)
      refine lv_goto (tgt := 23) hx hb dL_law_1853 (by decide) ?_
      have hl := lv_sub hl [0, 1, 2, 3, 4] rfl
      rw [ex_17, nI_6] at hl
      exact ih (j + 1) σz_5 τz_11 f _ _ _ _ _ _ (by omega) (by omega) hI_8 hI_14 dp_16 (by omega) (by omega) hd0 hPX hDX hPM hDM hPO hDO hS hl
    by_cases c_18 : ((xs (nI (6 * j)).toNatClampNeg) &&& 63) = 1
    · refine lv_tableIn (tgt := 301) hx hb dL_law_40 (by rw [c_18]; decide) (by rw [c_18]; decide) (by rw [c_18]; rfl) (by decide) ?_
      refine lv_aload_n hx hb dL_law_301 rfl (lv_at hl 3 rfl) ?_
      refine lv_aload_n hx hb dL_law_302 rfl (lv_at hl 4 rfl) ?_
      refine lv_iload hx hb dL_law_303 (lv_at hl 0 rfl) ?_
      refine lv_iconst (v := 1) hx hb dL_law_305 (by decide) ?_
      refine lv_iadd hx hb dL_law_306 ?_
      refine va_sld hx hb hX hbl hbA hS (lw_ix (k := 1) hL hin (by decide) (by decide)) dL_law_307 ?_
      have hF := gFree hDX hS hA
      refine va_calliD hd0 (va_runV_D (As := [.int (xs ((nI (6 * j)) + 1).toNatClampNeg)]) (rest := []) ⟨hx, hb, hml, hown, hts⟩ (n_X11_desk l dC dI ad cA adK adV H.size σ hIX (xs ((nI (6 * j)) + 1).toNatClampNeg) ) (cwV 1 hts gL0_X11_desk rfl rfl rfl (by decide +kernel) ⟨Nat.le_of_ble_eq_true rfl, Nat.le_of_ble_eq_true rfl⟩) ⟨gBlind, va_recv hKX hPX (ci := 10) (q0 := 0) rfl (at_10 rfl), gStart (As := [.ref (ad 0), .int (xs ((nI (6 * j)) + 1).toNatClampNeg)]) hPX hDX hKX0 hT hS hF (d)⟩ rfl rfl hl.1 rfl (lv_room (Nat.le_of_ble_eq_true rfl)) dL_law_308 ⟨by omega, by omega⟩) hS (fun q _ h => hF q h) hF (fun r_19 σz_20 t H1 locs ht hvm hw hB hz1 hk1 hS d_21 hd0 => ?_)
      have hts := dr_words hts0 (d_21)
      have hKX := gKd hKX0 (d_21)
      have hKM := gKd hKM0 (d_21)
      have hown : (s.setDrawn (d_21)).vm.findClass RL = some m.cls := hown0
      have hX : va_X b L xs (s.setDrawn (d_21)) s.heap := hX0
      obtain ⟨hPX, hDX⟩ := gBack hF ht hB
      obtain ⟨hI_23, fc_24, hp_22⟩ := hw
      have hPM := gOther hPM hk1 (dj_G dj)
      have hPO := gOther hPO hk1 (dj_1 djX)
      generalize H1 = H at hPX hPM hPO hS ⊢
      refine lv_pop hx hb dL_law_311 rfl ?_
      refine lv_aload_n hx hb dL_law_312 rfl (lv_at hl 2 rfl) ?_
      refine lv_aload_n hx hb dL_law_313 rfl (lv_at hl 4 rfl) ?_
      refine lv_iload hx hb dL_law_314 (lv_at hl 0 rfl) ?_
      refine lv_iconst (v := 1) hx hb dL_law_316 (by decide) ?_
      refine lv_iadd hx hb dL_law_317 ?_
      refine va_sld hx hb hX hbl hbA hS (lw_ix (k := 1) hL hin (by decide) (by decide)) dL_law_318 ?_
      have hF := gFree hDM hS hA
      refine va_calliD hd0 (va_runV_D (As := [.int (xs ((nI (6 * j)) + 1).toNatClampNeg)]) (rest := []) ⟨hx, hb, hml, hown, hts⟩ (n_X12_desk l dC dI am cM adK adV H.size τ hIM (xs ((nI (6 * j)) + 1).toNatClampNeg) hDp) (cwV 1 hts gL0_X12_desk rfl rfl rfl (by decide +kernel) ⟨Nat.le_of_ble_eq_true rfl, Nat.le_of_ble_eq_true rfl⟩) ⟨gBlind, va_recv hKM hPM (ci := 11) (q0 := 0) rfl (mat_11 rfl), gStart (As := [.ref (am 0), .int (xs ((nI (6 * j)) + 1).toNatClampNeg)]) hPM hDM hKM0 hT hS hF (d_21)⟩ rfl rfl hl.1 rfl (lv_room (Nat.le_of_ble_eq_true rfl)) dL_law_319 ⟨by omega, by omega⟩) hS (fun q _ h => hF q h) hF (fun r_25 τz_26 t H1 locs ht hvm hw hB hz1 hk1 hS d_27 hd0 => ?_)
      have hts := dr_words hts0 (d_27)
      have hKX := gKd hKX0 (d_27)
      have hKM := gKd hKM0 (d_27)
      have hown : (s.setDrawn (d_27)).vm.findClass RL = some m.cls := hown0
      have hX : va_X b L xs (s.setDrawn (d_27)) s.heap := hX0
      obtain ⟨hPM, hDM⟩ := gBack hF ht hB
      obtain ⟨hI_29, fc_30, hp_28⟩ := hw
      have hPX := gOther hPX hk1 (dj_sym (dj_G dj))
      have hPO := gOther hPO hk1 (dj_1 djM)
      generalize H1 = H at hPX hPM hPO hS ⊢
      have dp_31 : Deep τz_26 := hp_28
      refine lv_pop hx hb dL_law_322 rfl ?_
      refine lv_goto (tgt := 1850) hx hb dL_law_323 (by decide) ?_
      obtain ⟨x_32, ex_32⟩ : ∃ zz : Int32, zz = (nI (6 * j)) + 6 := ⟨_, rfl⟩
      refine lv_iinc (v := x_32) (lv' := [(4, .int x_32), (3, .ref lo), (2, .ref (am 0)), (1, .ref (ad 0)), (0, .ref b)]) hx hb dL_law_1850 hl (k := 0) rfl (by rw [ex_32]; rfl) (by decide) rfl (fun ls hl => ?_)
      refine lv_goto (tgt := 23) hx hb dL_law_1853 (by decide) ?_
      have hl := lv_sub hl [0, 1, 2, 3, 4] rfl
      rw [ex_32, nI_6] at hl
      exact ih (j + 1) σz_20 τz_26 f _ _ _ _ _ _ (by omega) (by omega) hI_23 hI_29 dp_31 (by omega) (by omega) hd0 hPX hDX hPM hDM hPO hDO hS hl
    by_cases c_33 : ((xs (nI (6 * j)).toNatClampNeg) &&& 63) = 2
    · refine lv_tableIn (tgt := 326) hx hb dL_law_40 (by rw [c_33]; decide) (by rw [c_33]; decide) (by rw [c_33]; rfl) (by decide) ?_
      refine lv_aload_n hx hb dL_law_326 rfl (lv_at hl 3 rfl) ?_
      have hF := gFree hDX hS hA
      refine va_calliD hd0 (va_runV_D (As := []) (rest := []) ⟨hx, hb, hml, hown, hts⟩ (n_X11_fault l dC dI ad cA adK adV H.size σ hIX  ) (cwV 0 hts gL0_X11_fault rfl rfl rfl (by decide +kernel) ⟨Nat.le_of_ble_eq_true rfl, Nat.le_of_ble_eq_true rfl⟩) ⟨gBlind, va_recv hKX hPX (ci := 10) (q0 := 0) rfl (at_10 rfl), gStart (As := [.ref (ad 0)]) hPX hDX hKX0 hT hS hF (d)⟩ rfl rfl hl.1 rfl (lv_room (Nat.le_of_ble_eq_true rfl)) dL_law_327 ⟨by omega, by omega⟩) hS (fun q _ h => hF q h) hF (fun r_34 σz_35 t H1 locs ht hvm hw hB hz1 hk1 hS d_36 hd0 => ?_)
      have hts := dr_words hts0 (d_36)
      have hKX := gKd hKX0 (d_36)
      have hKM := gKd hKM0 (d_36)
      have hown : (s.setDrawn (d_36)).vm.findClass RL = some m.cls := hown0
      have hX : va_X b L xs (s.setDrawn (d_36)) s.heap := hX0
      obtain ⟨hPX, hDX⟩ := gBack hF ht hB
      obtain ⟨hI_38, fc_39, hp_37⟩ := hw
      have hPM := gOther hPM hk1 (dj_G dj)
      have hPO := gOther hPO hk1 (dj_1 djX)
      generalize H1 = H at hPX hPM hPO hS ⊢
      refine lv_pop hx hb dL_law_330 rfl ?_
      refine lv_aload_n hx hb dL_law_331 rfl (lv_at hl 2 rfl) ?_
      have hF := gFree hDM hS hA
      refine va_calliD hd0 (va_runV_D (As := []) (rest := []) ⟨hx, hb, hml, hown, hts⟩ (n_X12_fault l dC dI am cM adK adV H.size τ hIM  ) (cwV 0 hts gL0_X12_fault rfl rfl rfl (by decide +kernel) ⟨Nat.le_of_ble_eq_true rfl, Nat.le_of_ble_eq_true rfl⟩) ⟨gBlind, va_recv hKM hPM (ci := 11) (q0 := 0) rfl (mat_11 rfl), gStart (As := [.ref (am 0)]) hPM hDM hKM0 hT hS hF (d_36)⟩ rfl rfl hl.1 rfl (lv_room (Nat.le_of_ble_eq_true rfl)) dL_law_332 ⟨by omega, by omega⟩) hS (fun q _ h => hF q h) hF (fun r_40 τz_41 t H1 locs ht hvm hw hB hz1 hk1 hS d_42 hd0 => ?_)
      have hts := dr_words hts0 (d_42)
      have hKX := gKd hKX0 (d_42)
      have hKM := gKd hKM0 (d_42)
      have hown : (s.setDrawn (d_42)).vm.findClass RL = some m.cls := hown0
      have hX : va_X b L xs (s.setDrawn (d_42)) s.heap := hX0
      obtain ⟨hPM, hDM⟩ := gBack hF ht hB
      obtain ⟨hI_44, fc_45, hp_43⟩ := hw
      have hPX := gOther hPX hk1 (dj_sym (dj_G dj))
      have hPO := gOther hPO hk1 (dj_1 djM)
      generalize H1 = H at hPX hPM hPO hS ⊢
      have dp_46 : Deep τz_41 := (Deep.fr hDp (fc_45.1 2 (by decide) (by decide)) (fc_45.1 4 (by decide) (by decide)) (fc_45.1 9 (by decide) (by decide)) (fc_45.1 11 (by decide) (by decide)) (fc_45.1 12 (by decide) (by decide)) (fc_45.1 17 (by decide) (by decide)) (fc_45.1 18 (by decide) (by decide)) (fc_45.2 20 (by decide)) (fc_45.2 21 (by decide)) (fc_45.2 28 (by decide)) (fc_45.2 64 (by decide)) (fc_45.2 65 (by decide)) (fc_45.2 68 (by decide)))
      refine lv_pop hx hb dL_law_335 rfl ?_
      refine lv_goto (tgt := 1850) hx hb dL_law_336 (by decide) ?_
      obtain ⟨x_47, ex_47⟩ : ∃ zz : Int32, zz = (nI (6 * j)) + 6 := ⟨_, rfl⟩
      refine lv_iinc (v := x_47) (lv' := [(4, .int x_47), (3, .ref lo), (2, .ref (am 0)), (1, .ref (ad 0)), (0, .ref b)]) hx hb dL_law_1850 hl (k := 0) rfl (by rw [ex_47]; rfl) (by decide) rfl (fun ls hl => ?_)
      refine lv_goto (tgt := 23) hx hb dL_law_1853 (by decide) ?_
      have hl := lv_sub hl [0, 1, 2, 3, 4] rfl
      rw [ex_47, nI_6] at hl
      exact ih (j + 1) σz_35 τz_41 f _ _ _ _ _ _ (by omega) (by omega) hI_38 hI_44 dp_46 (by omega) (by omega) hd0 hPX hDX hPM hDM hPO hDO hS hl
    by_cases c_48 : ((xs (nI (6 * j)).toNatClampNeg) &&& 63) = 3
    · refine lv_tableIn (tgt := 339) hx hb dL_law_40 (by rw [c_48]; decide) (by rw [c_48]; decide) (by rw [c_48]; rfl) (by decide) ?_
      refine lv_aload_n hx hb dL_law_339 rfl (lv_at hl 3 rfl) ?_
      have hF := gFree hDX hS hA
      refine va_calliD hd0 (va_runV_D (As := []) (rest := []) ⟨hx, hb, hml, hown, hts⟩ (n_X11_where l dC dI ad cA adK adV H.size σ hIX  ) (cwV 0 hts gL0_X11_where rfl rfl rfl (by decide +kernel) ⟨Nat.le_of_ble_eq_true rfl, Nat.le_of_ble_eq_true rfl⟩) ⟨gBlind, va_recv hKX hPX (ci := 10) (q0 := 0) rfl (at_10 rfl), gStart (As := [.ref (ad 0)]) hPX hDX hKX0 hT hS hF (d)⟩ rfl rfl hl.1 rfl (lv_room (Nat.le_of_ble_eq_true rfl)) dL_law_340 ⟨by omega, by omega⟩) hS (fun q _ h => hF q h) hF (fun r_49 σz_50 t H1 locs ht hvm hw hB hz1 hk1 hS d_51 hd0 => ?_)
      have hts := dr_words hts0 (d_51)
      have hKX := gKd hKX0 (d_51)
      have hKM := gKd hKM0 (d_51)
      have hown : (s.setDrawn (d_51)).vm.findClass RL = some m.cls := hown0
      have hX : va_X b L xs (s.setDrawn (d_51)) s.heap := hX0
      obtain ⟨hPX, hDX⟩ := gBack hF ht hB
      obtain ⟨hI_53, fc_54, hp_52⟩ := hw
      have hPM := gOther hPM hk1 (dj_G dj)
      have hPO := gOther hPO hk1 (dj_1 djX)
      generalize H1 = H at hPX hPM hPO hS ⊢
      refine lv_pop hx hb dL_law_343 rfl ?_
      refine lv_aload_n hx hb dL_law_344 rfl (lv_at hl 2 rfl) ?_
      have hF := gFree hDM hS hA
      refine va_calliD hd0 (va_runV_D (As := []) (rest := []) ⟨hx, hb, hml, hown, hts⟩ (n_X12_where l dC dI am cM adK adV H.size τ hIM  ) (cwV 0 hts gL0_X12_where rfl rfl rfl (by decide +kernel) ⟨Nat.le_of_ble_eq_true rfl, Nat.le_of_ble_eq_true rfl⟩) ⟨gBlind, va_recv hKM hPM (ci := 11) (q0 := 0) rfl (mat_11 rfl), gStart (As := [.ref (am 0)]) hPM hDM hKM0 hT hS hF (d_51)⟩ rfl rfl hl.1 rfl (lv_room (Nat.le_of_ble_eq_true rfl)) dL_law_345 ⟨by omega, by omega⟩) hS (fun q _ h => hF q h) hF (fun r_55 τz_56 t H1 locs ht hvm hw hB hz1 hk1 hS d_57 hd0 => ?_)
      have hts := dr_words hts0 (d_57)
      have hKX := gKd hKX0 (d_57)
      have hKM := gKd hKM0 (d_57)
      have hown : (s.setDrawn (d_57)).vm.findClass RL = some m.cls := hown0
      have hX : va_X b L xs (s.setDrawn (d_57)) s.heap := hX0
      obtain ⟨hPM, hDM⟩ := gBack hF ht hB
      obtain ⟨hI_59, fc_60, hp_58⟩ := hw
      have hPX := gOther hPX hk1 (dj_sym (dj_G dj))
      have hPO := gOther hPO hk1 (dj_1 djM)
      generalize H1 = H at hPX hPM hPO hS ⊢
      have dp_61 : Deep τz_56 := (Deep.fr hDp (fc_60.1 2 (by decide) (by decide)) (fc_60.1 4 (by decide) (by decide)) (fc_60.1 9 (by decide) (by decide)) (fc_60.1 11 (by decide) (by decide)) (fc_60.1 12 (by decide) (by decide)) (fc_60.1 17 (by decide) (by decide)) (fc_60.1 18 (by decide) (by decide)) (fc_60.2 20 (by decide)) (fc_60.2 21 (by decide)) (fc_60.2 28 (by decide)) (fc_60.2 64 (by decide)) (fc_60.2 65 (by decide)) (fc_60.2 68 (by decide)))
      refine lv_pop hx hb dL_law_348 rfl ?_
      refine lv_goto (tgt := 1850) hx hb dL_law_349 (by decide) ?_
      obtain ⟨x_62, ex_62⟩ : ∃ zz : Int32, zz = (nI (6 * j)) + 6 := ⟨_, rfl⟩
      refine lv_iinc (v := x_62) (lv' := [(4, .int x_62), (3, .ref lo), (2, .ref (am 0)), (1, .ref (ad 0)), (0, .ref b)]) hx hb dL_law_1850 hl (k := 0) rfl (by rw [ex_62]; rfl) (by decide) rfl (fun ls hl => ?_)
      refine lv_goto (tgt := 23) hx hb dL_law_1853 (by decide) ?_
      have hl := lv_sub hl [0, 1, 2, 3, 4] rfl
      rw [ex_62, nI_6] at hl
      exact ih (j + 1) σz_50 τz_56 f _ _ _ _ _ _ (by omega) (by omega) hI_53 hI_59 dp_61 (by omega) (by omega) hd0 hPX hDX hPM hDM hPO hDO hS hl
    by_cases c_63 : ((xs (nI (6 * j)).toNatClampNeg) &&& 63) = 4
    · refine lv_tableIn (tgt := 352) hx hb dL_law_40 (by rw [c_63]; decide) (by rw [c_63]; decide) (by rw [c_63]; rfl) (by decide) ?_
      refine lv_aload_n hx hb dL_law_352 rfl (lv_at hl 3 rfl) ?_
      refine lv_aload_n hx hb dL_law_353 rfl (lv_at hl 4 rfl) ?_
      refine lv_iload hx hb dL_law_354 (lv_at hl 0 rfl) ?_
      refine lv_iconst (v := 1) hx hb dL_law_356 (by decide) ?_
      refine lv_iadd hx hb dL_law_357 ?_
      refine va_sld hx hb hX hbl hbA hS (lw_ix (k := 1) hL hin (by decide) (by decide)) dL_law_358 ?_
      refine lv_aload_n hx hb dL_law_359 rfl (lv_at hl 4 rfl) ?_
      refine lv_iload hx hb dL_law_360 (lv_at hl 0 rfl) ?_
      refine lv_iconst (v := 2) hx hb dL_law_362 (by decide) ?_
      refine lv_iadd hx hb dL_law_363 ?_
      refine va_sld hx hb hX hbl hbA hS (lw_ix (k := 2) hL hin (by decide) (by decide)) dL_law_364 ?_
      have hF := gFree hDX hS hA
      refine va_calliD hd0 (va_runV_D (As := [.int (xs ((nI (6 * j)) + 1).toNatClampNeg), .int (xs ((nI (6 * j)) + 2).toNatClampNeg)]) (rest := []) ⟨hx, hb, hml, hown, hts⟩ (n_X11_days l dC dI ad cA adK adV H.size σ hIX (xs ((nI (6 * j)) + 1).toNatClampNeg) (xs ((nI (6 * j)) + 2).toNatClampNeg) ) (cwV 2 hts gL0_X11_days rfl rfl rfl (by decide +kernel) ⟨Nat.le_of_ble_eq_true rfl, Nat.le_of_ble_eq_true rfl⟩) ⟨gBlind, va_recv hKX hPX (ci := 10) (q0 := 0) rfl (at_10 rfl), gStart (As := [.ref (ad 0), .int (xs ((nI (6 * j)) + 1).toNatClampNeg), .int (xs ((nI (6 * j)) + 2).toNatClampNeg)]) hPX hDX hKX0 hT hS hF (d)⟩ rfl rfl hl.1 rfl (lv_room (Nat.le_of_ble_eq_true rfl)) dL_law_365 ⟨by omega, by omega⟩) hS (fun q _ h => hF q h) hF (fun r_64 σz_65 t H1 locs ht hvm hw hB hz1 hk1 hS d_66 hd0 => ?_)
      have hts := dr_words hts0 (d_66)
      have hKX := gKd hKX0 (d_66)
      have hKM := gKd hKM0 (d_66)
      have hown : (s.setDrawn (d_66)).vm.findClass RL = some m.cls := hown0
      have hX : va_X b L xs (s.setDrawn (d_66)) s.heap := hX0
      obtain ⟨hPX, hDX⟩ := gBack hF ht hB
      obtain ⟨hI_68, fc_69, hp_67⟩ := hw
      have hPM := gOther hPM hk1 (dj_G dj)
      have hPO := gOther hPO hk1 (dj_1 djX)
      generalize H1 = H at hPX hPM hPO hS ⊢
      refine lv_pop hx hb dL_law_368 rfl ?_
      refine lv_aload_n hx hb dL_law_369 rfl (lv_at hl 2 rfl) ?_
      refine lv_aload_n hx hb dL_law_370 rfl (lv_at hl 4 rfl) ?_
      refine lv_iload hx hb dL_law_371 (lv_at hl 0 rfl) ?_
      refine lv_iconst (v := 1) hx hb dL_law_373 (by decide) ?_
      refine lv_iadd hx hb dL_law_374 ?_
      refine va_sld hx hb hX hbl hbA hS (lw_ix (k := 1) hL hin (by decide) (by decide)) dL_law_375 ?_
      refine lv_aload_n hx hb dL_law_376 rfl (lv_at hl 4 rfl) ?_
      refine lv_iload hx hb dL_law_377 (lv_at hl 0 rfl) ?_
      refine lv_iconst (v := 2) hx hb dL_law_379 (by decide) ?_
      refine lv_iadd hx hb dL_law_380 ?_
      refine va_sld hx hb hX hbl hbA hS (lw_ix (k := 2) hL hin (by decide) (by decide)) dL_law_381 ?_
      have hF := gFree hDM hS hA
      refine va_calliD hd0 (va_runV_D (As := [.int (xs ((nI (6 * j)) + 1).toNatClampNeg), .int (xs ((nI (6 * j)) + 2).toNatClampNeg)]) (rest := []) ⟨hx, hb, hml, hown, hts⟩ (n_X12_days l dC dI am cM adK adV H.size τ hIM (xs ((nI (6 * j)) + 1).toNatClampNeg) (xs ((nI (6 * j)) + 2).toNatClampNeg) ) (cwV 2 hts gL0_X12_days rfl rfl rfl (by decide +kernel) ⟨Nat.le_of_ble_eq_true rfl, Nat.le_of_ble_eq_true rfl⟩) ⟨gBlind, va_recv hKM hPM (ci := 11) (q0 := 0) rfl (mat_11 rfl), gStart (As := [.ref (am 0), .int (xs ((nI (6 * j)) + 1).toNatClampNeg), .int (xs ((nI (6 * j)) + 2).toNatClampNeg)]) hPM hDM hKM0 hT hS hF (d_66)⟩ rfl rfl hl.1 rfl (lv_room (Nat.le_of_ble_eq_true rfl)) dL_law_382 ⟨by omega, by omega⟩) hS (fun q _ h => hF q h) hF (fun r_70 τz_71 t H1 locs ht hvm hw hB hz1 hk1 hS d_72 hd0 => ?_)
      have hts := dr_words hts0 (d_72)
      have hKX := gKd hKX0 (d_72)
      have hKM := gKd hKM0 (d_72)
      have hown : (s.setDrawn (d_72)).vm.findClass RL = some m.cls := hown0
      have hX : va_X b L xs (s.setDrawn (d_72)) s.heap := hX0
      obtain ⟨hPM, hDM⟩ := gBack hF ht hB
      obtain ⟨hI_74, fc_75, hp_73⟩ := hw
      have hPX := gOther hPX hk1 (dj_sym (dj_G dj))
      have hPO := gOther hPO hk1 (dj_1 djM)
      generalize H1 = H at hPX hPM hPO hS ⊢
      have dp_76 : Deep τz_71 := (Deep.fr hDp (fc_75.1 2 (by decide) (by decide)) (fc_75.1 4 (by decide) (by decide)) (fc_75.1 9 (by decide) (by decide)) (fc_75.1 11 (by decide) (by decide)) (fc_75.1 12 (by decide) (by decide)) (fc_75.1 17 (by decide) (by decide)) (fc_75.1 18 (by decide) (by decide)) (fc_75.2 20 (by decide)) (fc_75.2 21 (by decide)) (fc_75.2 28 (by decide)) (fc_75.2 64 (by decide)) (fc_75.2 65 (by decide)) (fc_75.2 68 (by decide)))
      refine lv_pop hx hb dL_law_385 rfl ?_
      refine lv_goto (tgt := 1850) hx hb dL_law_386 (by decide) ?_
      obtain ⟨x_77, ex_77⟩ : ∃ zz : Int32, zz = (nI (6 * j)) + 6 := ⟨_, rfl⟩
      refine lv_iinc (v := x_77) (lv' := [(4, .int x_77), (3, .ref lo), (2, .ref (am 0)), (1, .ref (ad 0)), (0, .ref b)]) hx hb dL_law_1850 hl (k := 0) rfl (by rw [ex_77]; rfl) (by decide) rfl (fun ls hl => ?_)
      refine lv_goto (tgt := 23) hx hb dL_law_1853 (by decide) ?_
      have hl := lv_sub hl [0, 1, 2, 3, 4] rfl
      rw [ex_77, nI_6] at hl
      exact ih (j + 1) σz_65 τz_71 f _ _ _ _ _ _ (by omega) (by omega) hI_68 hI_74 dp_76 (by omega) (by omega) hd0 hPX hDX hPM hDM hPO hDO hS hl
    by_cases c_78 : ((xs (nI (6 * j)).toNatClampNeg) &&& 63) = 5
    · refine lv_tableIn (tgt := 389) hx hb dL_law_40 (by rw [c_78]; decide) (by rw [c_78]; decide) (by rw [c_78]; rfl) (by decide) ?_
      refine lv_aload_n hx hb dL_law_389 rfl (lv_at hl 3 rfl) ?_
      refine lv_aload_n hx hb dL_law_390 rfl (lv_at hl 4 rfl) ?_
      refine lv_iload hx hb dL_law_391 (lv_at hl 0 rfl) ?_
      refine lv_iconst (v := 1) hx hb dL_law_393 (by decide) ?_
      refine lv_iadd hx hb dL_law_394 ?_
      refine va_sld hx hb hX hbl hbA hS (lw_ix (k := 1) hL hin (by decide) (by decide)) dL_law_395 ?_
      have hF := gFree hDX hS hA
      refine va_calliD hd0 (va_runV_D (As := [.int (xs ((nI (6 * j)) + 1).toNatClampNeg)]) (rest := []) ⟨hx, hb, hml, hown, hts⟩ (n_X11_weekdayF l dC dI ad cA adK adV H.size σ hIX (xs ((nI (6 * j)) + 1).toNatClampNeg) ) (cwV 1 hts gL0_X11_weekday rfl rfl rfl (by decide +kernel) ⟨Nat.le_of_ble_eq_true rfl, Nat.le_of_ble_eq_true rfl⟩) ⟨gBlind, va_recv hKX hPX (ci := 10) (q0 := 0) rfl (at_10 rfl), gStart (As := [.ref (ad 0), .int (xs ((nI (6 * j)) + 1).toNatClampNeg)]) hPX hDX hKX0 hT hS hF (d)⟩ rfl rfl hl.1 rfl (lv_room (Nat.le_of_ble_eq_true rfl)) dL_law_396 ⟨by omega, by omega⟩) hS (fun q _ h => hF q h) hF (fun r_79 σz_80 t H1 locs ht hvm hw hB hz1 hk1 hS d_81 hd0 => ?_)
      have hts := dr_words hts0 (d_81)
      have hKX := gKd hKX0 (d_81)
      have hKM := gKd hKM0 (d_81)
      have hown : (s.setDrawn (d_81)).vm.findClass RL = some m.cls := hown0
      have hX : va_X b L xs (s.setDrawn (d_81)) s.heap := hX0
      obtain ⟨hPX, hDX⟩ := gBack hF ht hB
      obtain ⟨hI_83, fc_84, hp_82⟩ := hw
      have hPM := gOther hPM hk1 (dj_G dj)
      have hPO := gOther hPO hk1 (dj_1 djX)
      generalize H1 = H at hPX hPM hPO hS ⊢
      refine lv_aload_n hx hb dL_law_399 rfl (lv_at hl 2 rfl) ?_
      refine lv_aload_n hx hb dL_law_400 rfl (lv_at hl 4 rfl) ?_
      refine lv_iload hx hb dL_law_401 (lv_at hl 0 rfl) ?_
      refine lv_iconst (v := 1) hx hb dL_law_403 (by decide) ?_
      refine lv_iadd hx hb dL_law_404 ?_
      refine va_sld hx hb hX hbl hbA hS (lw_ix (k := 1) hL hin (by decide) (by decide)) dL_law_405 ?_
      have hF := gFree hDM hS hA
      refine va_calliD hd0 (va_runV_D (As := [.int (xs ((nI (6 * j)) + 1).toNatClampNeg)]) (rest := [.int r_79]) ⟨hx, hb, hml, hown, hts⟩ (n_X12_weekdayF l dC dI am cM adK adV H.size τ hIM (xs ((nI (6 * j)) + 1).toNatClampNeg) ) (cwV 1 hts gL0_X12_weekday rfl rfl rfl (by decide +kernel) ⟨Nat.le_of_ble_eq_true rfl, Nat.le_of_ble_eq_true rfl⟩) ⟨gBlind, va_recv hKM hPM (ci := 11) (q0 := 0) rfl (mat_11 rfl), gStart (As := [.ref (am 0), .int (xs ((nI (6 * j)) + 1).toNatClampNeg)]) hPM hDM hKM0 hT hS hF (d_81)⟩ rfl rfl hl.1 rfl (lv_room (Nat.le_of_ble_eq_true rfl)) dL_law_406 ⟨by omega, by omega⟩) hS (fun q _ h => hF q h) hF (fun r_85 τz_86 t H1 locs ht hvm hw hB hz1 hk1 hS d_87 hd0 => ?_)
      have hts := dr_words hts0 (d_87)
      have hKX := gKd hKX0 (d_87)
      have hKM := gKd hKM0 (d_87)
      have hown : (s.setDrawn (d_87)).vm.findClass RL = some m.cls := hown0
      have hX : va_X b L xs (s.setDrawn (d_87)) s.heap := hX0
      obtain ⟨hPM, hDM⟩ := gBack hF ht hB
      obtain ⟨hI_89, fc_90, hp_88⟩ := hw
      have hPX := gOther hPX hk1 (dj_sym (dj_G dj))
      have hPO := gOther hPO hk1 (dj_1 djM)
      generalize H1 = H at hPX hPM hPO hS ⊢
      have dp_91 : Deep τz_86 := (Deep.fr hDp (fc_90.1 2 (by decide) (by decide)) (fc_90.1 4 (by decide) (by decide)) (fc_90.1 9 (by decide) (by decide)) (fc_90.1 11 (by decide) (by decide)) (fc_90.1 12 (by decide) (by decide)) (fc_90.1 17 (by decide) (by decide)) (fc_90.1 18 (by decide) (by decide)) (fc_90.2 20 (by decide)) (fc_90.2 21 (by decide)) (fc_90.2 28 (by decide)) (fc_90.2 64 (by decide)) (fc_90.2 65 (by decide)) (fc_90.2 68 (by decide)))
      refine lv_icmp_eq (tgt := 1850) hx hb dL_law_409 (by decide) (fun c_92 => ?_) (fun c_92 => ?_)
      · obtain ⟨x_93, ex_93⟩ : ∃ zz : Int32, zz = (nI (6 * j)) + 6 := ⟨_, rfl⟩
        refine lv_iinc (v := x_93) (lv' := [(4, .int x_93), (3, .ref lo), (2, .ref (am 0)), (1, .ref (ad 0)), (0, .ref b)]) hx hb dL_law_1850 hl (k := 0) rfl (by rw [ex_93]; rfl) (by decide) rfl (fun ls hl => ?_)
        refine lv_goto (tgt := 23) hx hb dL_law_1853 (by decide) ?_
        have hl := lv_sub hl [0, 1, 2, 3, 4] rfl
        rw [ex_93, nI_6] at hl
        exact ih (j + 1) σz_80 τz_86 f _ _ _ _ _ _ (by omega) (by omega) hI_83 hI_89 dp_91 (by omega) (by omega) hd0 hPX hDX hPM hDM hPO hDO hS hl
      · exact absurd (hp_82.trans ((q_weekday _).trans hp_88.symm)) c_92
    by_cases c_94 : ((xs (nI (6 * j)).toNatClampNeg) &&& 63) = 6
    · refine lv_tableIn (tgt := 414) hx hb dL_law_40 (by rw [c_94]; decide) (by rw [c_94]; decide) (by rw [c_94]; rfl) (by decide) ?_
      refine lv_aload_n hx hb dL_law_414 rfl (lv_at hl 3 rfl) ?_
      refine lv_aload_n hx hb dL_law_415 rfl (lv_at hl 4 rfl) ?_
      refine lv_iload hx hb dL_law_416 (lv_at hl 0 rfl) ?_
      refine lv_iconst (v := 1) hx hb dL_law_418 (by decide) ?_
      refine lv_iadd hx hb dL_law_419 ?_
      refine va_sld hx hb hX hbl hbA hS (lw_ix (k := 1) hL hin (by decide) (by decide)) dL_law_420 ?_
      refine lv_aload_n hx hb dL_law_421 rfl (lv_at hl 4 rfl) ?_
      refine lv_iload hx hb dL_law_422 (lv_at hl 0 rfl) ?_
      refine lv_iconst (v := 2) hx hb dL_law_424 (by decide) ?_
      refine lv_iadd hx hb dL_law_425 ?_
      refine va_sld hx hb hX hbl hbA hS (lw_ix (k := 2) hL hin (by decide) (by decide)) dL_law_426 ?_
      refine lv_aload_n hx hb dL_law_427 rfl (lv_at hl 4 rfl) ?_
      refine lv_iload hx hb dL_law_428 (lv_at hl 0 rfl) ?_
      refine lv_iconst (v := 3) hx hb dL_law_430 (by decide) ?_
      refine lv_iadd hx hb dL_law_431 ?_
      refine va_sld hx hb hX hbl hbA hS (lw_ix (k := 3) hL hin (by decide) (by decide)) dL_law_432 ?_
      refine lv_if_eq (tgt := 440) hx hb dL_law_433 (by decide) (fun c_95 => ?_) (fun c_95 => ?_)
      · refine lv_iconst (v := 0) hx hb dL_law_440 (by decide) ?_
        have hF := gFree hDX hS hA
        refine va_calliD hd0 (va_runV_D (As := [.int (xs ((nI (6 * j)) + 1).toNatClampNeg), .int (xs ((nI (6 * j)) + 2).toNatClampNeg), .int 0]) (rest := []) ⟨hx, hb, hml, hown, hts⟩ (n_X11_months l dC dI ad cA adK adV H.size σ hIX (xs ((nI (6 * j)) + 1).toNatClampNeg) (xs ((nI (6 * j)) + 2).toNatClampNeg) 0 ) (cwV 3 hts gL0_X11_months rfl rfl rfl (by decide +kernel) ⟨Nat.le_of_ble_eq_true rfl, Nat.le_of_ble_eq_true rfl⟩) ⟨gBlind, va_recv hKX hPX (ci := 10) (q0 := 0) rfl (at_10 rfl), gStart (As := [.ref (ad 0), .int (xs ((nI (6 * j)) + 1).toNatClampNeg), .int (xs ((nI (6 * j)) + 2).toNatClampNeg), .int 0]) hPX hDX hKX0 hT hS hF (d)⟩ rfl rfl hl.1 rfl (lv_room (Nat.le_of_ble_eq_true rfl)) dL_law_441 ⟨by omega, by omega⟩) hS (fun q _ h => hF q h) hF (fun r_96 σz_97 t H1 locs ht hvm hw hB hz1 hk1 hS d_98 hd0 => ?_)
        have hts := dr_words hts0 (d_98)
        have hKX := gKd hKX0 (d_98)
        have hKM := gKd hKM0 (d_98)
        have hown : (s.setDrawn (d_98)).vm.findClass RL = some m.cls := hown0
        have hX : va_X b L xs (s.setDrawn (d_98)) s.heap := hX0
        obtain ⟨hPX, hDX⟩ := gBack hF ht hB
        obtain ⟨hI_100, fc_101, hp_99⟩ := hw
        have hPM := gOther hPM hk1 (dj_G dj)
        have hPO := gOther hPO hk1 (dj_1 djX)
        generalize H1 = H at hPX hPM hPO hS ⊢
        refine lv_pop hx hb dL_law_444 rfl ?_
        refine lv_aload_n hx hb dL_law_445 rfl (lv_at hl 2 rfl) ?_
        refine lv_aload_n hx hb dL_law_446 rfl (lv_at hl 4 rfl) ?_
        refine lv_iload hx hb dL_law_447 (lv_at hl 0 rfl) ?_
        refine lv_iconst (v := 1) hx hb dL_law_449 (by decide) ?_
        refine lv_iadd hx hb dL_law_450 ?_
        refine va_sld hx hb hX hbl hbA hS (lw_ix (k := 1) hL hin (by decide) (by decide)) dL_law_451 ?_
        refine lv_aload_n hx hb dL_law_452 rfl (lv_at hl 4 rfl) ?_
        refine lv_iload hx hb dL_law_453 (lv_at hl 0 rfl) ?_
        refine lv_iconst (v := 2) hx hb dL_law_455 (by decide) ?_
        refine lv_iadd hx hb dL_law_456 ?_
        refine va_sld hx hb hX hbl hbA hS (lw_ix (k := 2) hL hin (by decide) (by decide)) dL_law_457 ?_
        refine lv_aload_n hx hb dL_law_458 rfl (lv_at hl 4 rfl) ?_
        refine lv_iload hx hb dL_law_459 (lv_at hl 0 rfl) ?_
        refine lv_iconst (v := 3) hx hb dL_law_461 (by decide) ?_
        refine lv_iadd hx hb dL_law_462 ?_
        refine va_sld hx hb hX hbl hbA hS (lw_ix (k := 3) hL hin (by decide) (by decide)) dL_law_463 ?_
        refine lv_if_eq (tgt := 471) hx hb dL_law_464 (by decide) (fun c_102 => ?_) (fun c_102 => ?_)
        · refine lv_iconst (v := 0) hx hb dL_law_471 (by decide) ?_
          have hF := gFree hDM hS hA
          refine va_calliD hd0 (va_runV_D (As := [.int (xs ((nI (6 * j)) + 1).toNatClampNeg), .int (xs ((nI (6 * j)) + 2).toNatClampNeg), .int 0]) (rest := []) ⟨hx, hb, hml, hown, hts⟩ (n_X12_months l dC dI am cM adK adV H.size τ hIM (xs ((nI (6 * j)) + 1).toNatClampNeg) (xs ((nI (6 * j)) + 2).toNatClampNeg) 0 ) (cwV 3 hts gL0_X12_months rfl rfl rfl (by decide +kernel) ⟨Nat.le_of_ble_eq_true rfl, Nat.le_of_ble_eq_true rfl⟩) ⟨gBlind, va_recv hKM hPM (ci := 11) (q0 := 0) rfl (mat_11 rfl), gStart (As := [.ref (am 0), .int (xs ((nI (6 * j)) + 1).toNatClampNeg), .int (xs ((nI (6 * j)) + 2).toNatClampNeg), .int 0]) hPM hDM hKM0 hT hS hF (d_98)⟩ rfl rfl hl.1 rfl (lv_room (Nat.le_of_ble_eq_true rfl)) dL_law_472 ⟨by omega, by omega⟩) hS (fun q _ h => hF q h) hF (fun r_103 τz_104 t H1 locs ht hvm hw hB hz1 hk1 hS d_105 hd0 => ?_)
          have hts := dr_words hts0 (d_105)
          have hKX := gKd hKX0 (d_105)
          have hKM := gKd hKM0 (d_105)
          have hown : (s.setDrawn (d_105)).vm.findClass RL = some m.cls := hown0
          have hX : va_X b L xs (s.setDrawn (d_105)) s.heap := hX0
          obtain ⟨hPM, hDM⟩ := gBack hF ht hB
          obtain ⟨hI_107, fc_108, hp_106⟩ := hw
          have hPX := gOther hPX hk1 (dj_sym (dj_G dj))
          have hPO := gOther hPO hk1 (dj_1 djM)
          generalize H1 = H at hPX hPM hPO hS ⊢
          have dp_109 : Deep τz_104 := (Deep.fr hDp (fc_108.1 2 (by decide) (by decide)) (fc_108.1 4 (by decide) (by decide)) (fc_108.1 9 (by decide) (by decide)) (fc_108.1 11 (by decide) (by decide)) (fc_108.1 12 (by decide) (by decide)) (fc_108.1 17 (by decide) (by decide)) (fc_108.1 18 (by decide) (by decide)) (fc_108.2 20 (by decide)) (fc_108.2 21 (by decide)) (fc_108.2 28 (by decide)) (fc_108.2 64 (by decide)) (fc_108.2 65 (by decide)) (fc_108.2 68 (by decide)))
          refine lv_pop hx hb dL_law_475 rfl ?_
          refine lv_goto (tgt := 1850) hx hb dL_law_476 (by decide) ?_
          obtain ⟨x_110, ex_110⟩ : ∃ zz : Int32, zz = (nI (6 * j)) + 6 := ⟨_, rfl⟩
          refine lv_iinc (v := x_110) (lv' := [(4, .int x_110), (3, .ref lo), (2, .ref (am 0)), (1, .ref (ad 0)), (0, .ref b)]) hx hb dL_law_1850 hl (k := 0) rfl (by rw [ex_110]; rfl) (by decide) rfl (fun ls hl => ?_)
          refine lv_goto (tgt := 23) hx hb dL_law_1853 (by decide) ?_
          have hl := lv_sub hl [0, 1, 2, 3, 4] rfl
          rw [ex_110, nI_6] at hl
          exact ih (j + 1) σz_97 τz_104 f _ _ _ _ _ _ (by omega) (by omega) hI_100 hI_107 dp_109 (by omega) (by omega) hd0 hPX hDX hPM hDM hPO hDO hS hl
        · exact absurd c_95 c_102
      · refine lv_iconst (v := 1) hx hb dL_law_436 (by decide) ?_
        refine lv_goto (tgt := 441) hx hb dL_law_437 (by decide) ?_
        have hF := gFree hDX hS hA
        refine va_calliD hd0 (va_runV_D (As := [.int (xs ((nI (6 * j)) + 1).toNatClampNeg), .int (xs ((nI (6 * j)) + 2).toNatClampNeg), .int 1]) (rest := []) ⟨hx, hb, hml, hown, hts⟩ (n_X11_months l dC dI ad cA adK adV H.size σ hIX (xs ((nI (6 * j)) + 1).toNatClampNeg) (xs ((nI (6 * j)) + 2).toNatClampNeg) 1 ) (cwV 3 hts gL0_X11_months rfl rfl rfl (by decide +kernel) ⟨Nat.le_of_ble_eq_true rfl, Nat.le_of_ble_eq_true rfl⟩) ⟨gBlind, va_recv hKX hPX (ci := 10) (q0 := 0) rfl (at_10 rfl), gStart (As := [.ref (ad 0), .int (xs ((nI (6 * j)) + 1).toNatClampNeg), .int (xs ((nI (6 * j)) + 2).toNatClampNeg), .int 1]) hPX hDX hKX0 hT hS hF (d)⟩ rfl rfl hl.1 rfl (lv_room (Nat.le_of_ble_eq_true rfl)) dL_law_441 ⟨by omega, by omega⟩) hS (fun q _ h => hF q h) hF (fun r_111 σz_112 t H1 locs ht hvm hw hB hz1 hk1 hS d_113 hd0 => ?_)
        have hts := dr_words hts0 (d_113)
        have hKX := gKd hKX0 (d_113)
        have hKM := gKd hKM0 (d_113)
        have hown : (s.setDrawn (d_113)).vm.findClass RL = some m.cls := hown0
        have hX : va_X b L xs (s.setDrawn (d_113)) s.heap := hX0
        obtain ⟨hPX, hDX⟩ := gBack hF ht hB
        obtain ⟨hI_115, fc_116, hp_114⟩ := hw
        have hPM := gOther hPM hk1 (dj_G dj)
        have hPO := gOther hPO hk1 (dj_1 djX)
        generalize H1 = H at hPX hPM hPO hS ⊢
        refine lv_pop hx hb dL_law_444 rfl ?_
        refine lv_aload_n hx hb dL_law_445 rfl (lv_at hl 2 rfl) ?_
        refine lv_aload_n hx hb dL_law_446 rfl (lv_at hl 4 rfl) ?_
        refine lv_iload hx hb dL_law_447 (lv_at hl 0 rfl) ?_
        refine lv_iconst (v := 1) hx hb dL_law_449 (by decide) ?_
        refine lv_iadd hx hb dL_law_450 ?_
        refine va_sld hx hb hX hbl hbA hS (lw_ix (k := 1) hL hin (by decide) (by decide)) dL_law_451 ?_
        refine lv_aload_n hx hb dL_law_452 rfl (lv_at hl 4 rfl) ?_
        refine lv_iload hx hb dL_law_453 (lv_at hl 0 rfl) ?_
        refine lv_iconst (v := 2) hx hb dL_law_455 (by decide) ?_
        refine lv_iadd hx hb dL_law_456 ?_
        refine va_sld hx hb hX hbl hbA hS (lw_ix (k := 2) hL hin (by decide) (by decide)) dL_law_457 ?_
        refine lv_aload_n hx hb dL_law_458 rfl (lv_at hl 4 rfl) ?_
        refine lv_iload hx hb dL_law_459 (lv_at hl 0 rfl) ?_
        refine lv_iconst (v := 3) hx hb dL_law_461 (by decide) ?_
        refine lv_iadd hx hb dL_law_462 ?_
        refine va_sld hx hb hX hbl hbA hS (lw_ix (k := 3) hL hin (by decide) (by decide)) dL_law_463 ?_
        refine lv_if_eq (tgt := 471) hx hb dL_law_464 (by decide) (fun c_117 => ?_) (fun c_117 => ?_)
        · exact absurd c_117 c_95
        · refine lv_iconst (v := 1) hx hb dL_law_467 (by decide) ?_
          refine lv_goto (tgt := 472) hx hb dL_law_468 (by decide) ?_
          have hF := gFree hDM hS hA
          refine va_calliD hd0 (va_runV_D (As := [.int (xs ((nI (6 * j)) + 1).toNatClampNeg), .int (xs ((nI (6 * j)) + 2).toNatClampNeg), .int 1]) (rest := []) ⟨hx, hb, hml, hown, hts⟩ (n_X12_months l dC dI am cM adK adV H.size τ hIM (xs ((nI (6 * j)) + 1).toNatClampNeg) (xs ((nI (6 * j)) + 2).toNatClampNeg) 1 ) (cwV 3 hts gL0_X12_months rfl rfl rfl (by decide +kernel) ⟨Nat.le_of_ble_eq_true rfl, Nat.le_of_ble_eq_true rfl⟩) ⟨gBlind, va_recv hKM hPM (ci := 11) (q0 := 0) rfl (mat_11 rfl), gStart (As := [.ref (am 0), .int (xs ((nI (6 * j)) + 1).toNatClampNeg), .int (xs ((nI (6 * j)) + 2).toNatClampNeg), .int 1]) hPM hDM hKM0 hT hS hF (d_113)⟩ rfl rfl hl.1 rfl (lv_room (Nat.le_of_ble_eq_true rfl)) dL_law_472 ⟨by omega, by omega⟩) hS (fun q _ h => hF q h) hF (fun r_118 τz_119 t H1 locs ht hvm hw hB hz1 hk1 hS d_120 hd0 => ?_)
          have hts := dr_words hts0 (d_120)
          have hKX := gKd hKX0 (d_120)
          have hKM := gKd hKM0 (d_120)
          have hown : (s.setDrawn (d_120)).vm.findClass RL = some m.cls := hown0
          have hX : va_X b L xs (s.setDrawn (d_120)) s.heap := hX0
          obtain ⟨hPM, hDM⟩ := gBack hF ht hB
          obtain ⟨hI_122, fc_123, hp_121⟩ := hw
          have hPX := gOther hPX hk1 (dj_sym (dj_G dj))
          have hPO := gOther hPO hk1 (dj_1 djM)
          generalize H1 = H at hPX hPM hPO hS ⊢
          have dp_124 : Deep τz_119 := (Deep.fr hDp (fc_123.1 2 (by decide) (by decide)) (fc_123.1 4 (by decide) (by decide)) (fc_123.1 9 (by decide) (by decide)) (fc_123.1 11 (by decide) (by decide)) (fc_123.1 12 (by decide) (by decide)) (fc_123.1 17 (by decide) (by decide)) (fc_123.1 18 (by decide) (by decide)) (fc_123.2 20 (by decide)) (fc_123.2 21 (by decide)) (fc_123.2 28 (by decide)) (fc_123.2 64 (by decide)) (fc_123.2 65 (by decide)) (fc_123.2 68 (by decide)))
          refine lv_pop hx hb dL_law_475 rfl ?_
          refine lv_goto (tgt := 1850) hx hb dL_law_476 (by decide) ?_
          obtain ⟨x_125, ex_125⟩ : ∃ zz : Int32, zz = (nI (6 * j)) + 6 := ⟨_, rfl⟩
          refine lv_iinc (v := x_125) (lv' := [(4, .int x_125), (3, .ref lo), (2, .ref (am 0)), (1, .ref (ad 0)), (0, .ref b)]) hx hb dL_law_1850 hl (k := 0) rfl (by rw [ex_125]; rfl) (by decide) rfl (fun ls hl => ?_)
          refine lv_goto (tgt := 23) hx hb dL_law_1853 (by decide) ?_
          have hl := lv_sub hl [0, 1, 2, 3, 4] rfl
          rw [ex_125, nI_6] at hl
          exact ih (j + 1) σz_112 τz_119 f _ _ _ _ _ _ (by omega) (by omega) hI_115 hI_122 dp_124 (by omega) (by omega) hd0 hPX hDX hPM hDM hPO hDO hS hl
    by_cases c_126 : ((xs (nI (6 * j)).toNatClampNeg) &&& 63) = 7
    · refine lv_tableIn (tgt := 479) hx hb dL_law_40 (by rw [c_126]; decide) (by rw [c_126]; decide) (by rw [c_126]; rfl) (by decide) ?_
      refine lv_aload_n hx hb dL_law_479 rfl (lv_at hl 3 rfl) ?_
      refine lv_aload_n hx hb dL_law_480 rfl (lv_at hl 4 rfl) ?_
      refine lv_iload hx hb dL_law_481 (lv_at hl 0 rfl) ?_
      refine lv_iconst (v := 1) hx hb dL_law_483 (by decide) ?_
      refine lv_iadd hx hb dL_law_484 ?_
      refine va_sld hx hb hX hbl hbA hS (lw_ix (k := 1) hL hin (by decide) (by decide)) dL_law_485 ?_
      have hF := gFree hDX hS hA
      refine va_calliD hd0 (va_runV_D (As := [.int (xs ((nI (6 * j)) + 1).toNatClampNeg)]) (rest := []) ⟨hx, hb, hml, hown, hts⟩ (n_X11_business l dC dI ad cA adK adV H.size σ hIX (xs ((nI (6 * j)) + 1).toNatClampNeg) ) (cwV 1 hts gL0_X11_business rfl rfl rfl (by decide +kernel) ⟨Nat.le_of_ble_eq_true rfl, Nat.le_of_ble_eq_true rfl⟩) ⟨gBlind, va_recv hKX hPX (ci := 10) (q0 := 0) rfl (at_10 rfl), gStart (As := [.ref (ad 0), .int (xs ((nI (6 * j)) + 1).toNatClampNeg)]) hPX hDX hKX0 hT hS hF (d)⟩ rfl rfl hl.1 rfl (lv_room (Nat.le_of_ble_eq_true rfl)) dL_law_486 ⟨by omega, by omega⟩) hS (fun q _ h => hF q h) hF (fun r_127 σz_128 t H1 locs ht hvm hw hB hz1 hk1 hS d_129 hd0 => ?_)
      have hts := dr_words hts0 (d_129)
      have hKX := gKd hKX0 (d_129)
      have hKM := gKd hKM0 (d_129)
      have hown : (s.setDrawn (d_129)).vm.findClass RL = some m.cls := hown0
      have hX : va_X b L xs (s.setDrawn (d_129)) s.heap := hX0
      obtain ⟨hPX, hDX⟩ := gBack hF ht hB
      obtain ⟨hI_131, fc_132, hp_130⟩ := hw
      have hPM := gOther hPM hk1 (dj_G dj)
      have hPO := gOther hPO hk1 (dj_1 djX)
      generalize H1 = H at hPX hPM hPO hS ⊢
      refine lv_pop hx hb dL_law_489 rfl ?_
      refine lv_aload_n hx hb dL_law_490 rfl (lv_at hl 2 rfl) ?_
      refine lv_aload_n hx hb dL_law_491 rfl (lv_at hl 4 rfl) ?_
      refine lv_iload hx hb dL_law_492 (lv_at hl 0 rfl) ?_
      refine lv_iconst (v := 1) hx hb dL_law_494 (by decide) ?_
      refine lv_iadd hx hb dL_law_495 ?_
      refine va_sld hx hb hX hbl hbA hS (lw_ix (k := 1) hL hin (by decide) (by decide)) dL_law_496 ?_
      have hF := gFree hDM hS hA
      refine va_calliD hd0 (va_runV_D (As := [.int (xs ((nI (6 * j)) + 1).toNatClampNeg)]) (rest := []) ⟨hx, hb, hml, hown, hts⟩ (n_X12_business l dC dI am cM adK adV H.size τ hIM (xs ((nI (6 * j)) + 1).toNatClampNeg) ) (cwV 1 hts gL0_X12_business rfl rfl rfl (by decide +kernel) ⟨Nat.le_of_ble_eq_true rfl, Nat.le_of_ble_eq_true rfl⟩) ⟨gBlind, va_recv hKM hPM (ci := 11) (q0 := 0) rfl (mat_11 rfl), gStart (As := [.ref (am 0), .int (xs ((nI (6 * j)) + 1).toNatClampNeg)]) hPM hDM hKM0 hT hS hF (d_129)⟩ rfl rfl hl.1 rfl (lv_room (Nat.le_of_ble_eq_true rfl)) dL_law_497 ⟨by omega, by omega⟩) hS (fun q _ h => hF q h) hF (fun r_133 τz_134 t H1 locs ht hvm hw hB hz1 hk1 hS d_135 hd0 => ?_)
      have hts := dr_words hts0 (d_135)
      have hKX := gKd hKX0 (d_135)
      have hKM := gKd hKM0 (d_135)
      have hown : (s.setDrawn (d_135)).vm.findClass RL = some m.cls := hown0
      have hX : va_X b L xs (s.setDrawn (d_135)) s.heap := hX0
      obtain ⟨hPM, hDM⟩ := gBack hF ht hB
      obtain ⟨hI_137, fc_138, hp_136⟩ := hw
      have hPX := gOther hPX hk1 (dj_sym (dj_G dj))
      have hPO := gOther hPO hk1 (dj_1 djM)
      generalize H1 = H at hPX hPM hPO hS ⊢
      have dp_139 : Deep τz_134 := (Deep.fr hDp (fc_138.1 2 (by decide) (by decide)) (fc_138.1 4 (by decide) (by decide)) (fc_138.1 9 (by decide) (by decide)) (fc_138.1 11 (by decide) (by decide)) (fc_138.1 12 (by decide) (by decide)) (fc_138.1 17 (by decide) (by decide)) (fc_138.1 18 (by decide) (by decide)) (fc_138.2 20 (by decide)) (fc_138.2 21 (by decide)) (fc_138.2 28 (by decide)) (fc_138.2 64 (by decide)) (fc_138.2 65 (by decide)) (fc_138.2 68 (by decide)))
      refine lv_pop hx hb dL_law_500 rfl ?_
      refine lv_goto (tgt := 1850) hx hb dL_law_501 (by decide) ?_
      obtain ⟨x_140, ex_140⟩ : ∃ zz : Int32, zz = (nI (6 * j)) + 6 := ⟨_, rfl⟩
      refine lv_iinc (v := x_140) (lv' := [(4, .int x_140), (3, .ref lo), (2, .ref (am 0)), (1, .ref (ad 0)), (0, .ref b)]) hx hb dL_law_1850 hl (k := 0) rfl (by rw [ex_140]; rfl) (by decide) rfl (fun ls hl => ?_)
      refine lv_goto (tgt := 23) hx hb dL_law_1853 (by decide) ?_
      have hl := lv_sub hl [0, 1, 2, 3, 4] rfl
      rw [ex_140, nI_6] at hl
      exact ih (j + 1) σz_128 τz_134 f _ _ _ _ _ _ (by omega) (by omega) hI_131 hI_137 dp_139 (by omega) (by omega) hd0 hPX hDX hPM hDM hPO hDO hS hl
    by_cases c_141 : ((xs (nI (6 * j)).toNatClampNeg) &&& 63) = 8
    · refine lv_tableIn (tgt := 504) hx hb dL_law_40 (by rw [c_141]; decide) (by rw [c_141]; decide) (by rw [c_141]; rfl) (by decide) ?_
      refine lv_aload_n hx hb dL_law_504 rfl (lv_at hl 3 rfl) ?_
      refine lv_aload_n hx hb dL_law_505 rfl (lv_at hl 4 rfl) ?_
      refine lv_iload hx hb dL_law_506 (lv_at hl 0 rfl) ?_
      refine lv_iconst (v := 1) hx hb dL_law_508 (by decide) ?_
      refine lv_iadd hx hb dL_law_509 ?_
      refine va_sld hx hb hX hbl hbA hS (lw_ix (k := 1) hL hin (by decide) (by decide)) dL_law_510 ?_
      refine lv_aload_n hx hb dL_law_511 rfl (lv_at hl 4 rfl) ?_
      refine lv_iload hx hb dL_law_512 (lv_at hl 0 rfl) ?_
      refine lv_iconst (v := 2) hx hb dL_law_514 (by decide) ?_
      refine lv_iadd hx hb dL_law_515 ?_
      refine va_sld hx hb hX hbl hbA hS (lw_ix (k := 2) hL hin (by decide) (by decide)) dL_law_516 ?_
      have hF := gFree hDX hS hA
      refine va_calliD hd0 (va_runV_D (As := [.int (xs ((nI (6 * j)) + 1).toNatClampNeg), .int (xs ((nI (6 * j)) + 2).toNatClampNeg)]) (rest := []) ⟨hx, hb, hml, hown, hts⟩ (n_X11_businessFrom l dC dI ad cA adK adV H.size σ hIX (xs ((nI (6 * j)) + 1).toNatClampNeg) (xs ((nI (6 * j)) + 2).toNatClampNeg) ) (cwV 2 hts gL0_X11_businessFrom rfl rfl rfl (by decide +kernel) ⟨Nat.le_of_ble_eq_true rfl, Nat.le_of_ble_eq_true rfl⟩) ⟨gBlind, va_recv hKX hPX (ci := 10) (q0 := 0) rfl (at_10 rfl), gStart (As := [.ref (ad 0), .int (xs ((nI (6 * j)) + 1).toNatClampNeg), .int (xs ((nI (6 * j)) + 2).toNatClampNeg)]) hPX hDX hKX0 hT hS hF (d)⟩ rfl rfl hl.1 rfl (lv_room (Nat.le_of_ble_eq_true rfl)) dL_law_517 ⟨by omega, by omega⟩) hS (fun q _ h => hF q h) hF (fun r_142 σz_143 t H1 locs ht hvm hw hB hz1 hk1 hS d_144 hd0 => ?_)
      have hts := dr_words hts0 (d_144)
      have hKX := gKd hKX0 (d_144)
      have hKM := gKd hKM0 (d_144)
      have hown : (s.setDrawn (d_144)).vm.findClass RL = some m.cls := hown0
      have hX : va_X b L xs (s.setDrawn (d_144)) s.heap := hX0
      obtain ⟨hPX, hDX⟩ := gBack hF ht hB
      obtain ⟨hI_146, fc_147, hp_145⟩ := hw
      have hPM := gOther hPM hk1 (dj_G dj)
      have hPO := gOther hPO hk1 (dj_1 djX)
      generalize H1 = H at hPX hPM hPO hS ⊢
      refine lv_pop hx hb dL_law_520 rfl ?_
      refine lv_aload_n hx hb dL_law_521 rfl (lv_at hl 2 rfl) ?_
      refine lv_aload_n hx hb dL_law_522 rfl (lv_at hl 4 rfl) ?_
      refine lv_iload hx hb dL_law_523 (lv_at hl 0 rfl) ?_
      refine lv_iconst (v := 1) hx hb dL_law_525 (by decide) ?_
      refine lv_iadd hx hb dL_law_526 ?_
      refine va_sld hx hb hX hbl hbA hS (lw_ix (k := 1) hL hin (by decide) (by decide)) dL_law_527 ?_
      refine lv_aload_n hx hb dL_law_528 rfl (lv_at hl 4 rfl) ?_
      refine lv_iload hx hb dL_law_529 (lv_at hl 0 rfl) ?_
      refine lv_iconst (v := 2) hx hb dL_law_531 (by decide) ?_
      refine lv_iadd hx hb dL_law_532 ?_
      refine va_sld hx hb hX hbl hbA hS (lw_ix (k := 2) hL hin (by decide) (by decide)) dL_law_533 ?_
      have hF := gFree hDM hS hA
      refine va_calliD hd0 (va_runV_D (As := [.int (xs ((nI (6 * j)) + 1).toNatClampNeg), .int (xs ((nI (6 * j)) + 2).toNatClampNeg)]) (rest := []) ⟨hx, hb, hml, hown, hts⟩ (n_X12_businessFrom l dC dI am cM adK adV H.size τ hIM (xs ((nI (6 * j)) + 1).toNatClampNeg) (xs ((nI (6 * j)) + 2).toNatClampNeg) ) (cwV 2 hts gL0_X12_businessFrom rfl rfl rfl (by decide +kernel) ⟨Nat.le_of_ble_eq_true rfl, Nat.le_of_ble_eq_true rfl⟩) ⟨gBlind, va_recv hKM hPM (ci := 11) (q0 := 0) rfl (mat_11 rfl), gStart (As := [.ref (am 0), .int (xs ((nI (6 * j)) + 1).toNatClampNeg), .int (xs ((nI (6 * j)) + 2).toNatClampNeg)]) hPM hDM hKM0 hT hS hF (d_144)⟩ rfl rfl hl.1 rfl (lv_room (Nat.le_of_ble_eq_true rfl)) dL_law_534 ⟨by omega, by omega⟩) hS (fun q _ h => hF q h) hF (fun r_148 τz_149 t H1 locs ht hvm hw hB hz1 hk1 hS d_150 hd0 => ?_)
      have hts := dr_words hts0 (d_150)
      have hKX := gKd hKX0 (d_150)
      have hKM := gKd hKM0 (d_150)
      have hown : (s.setDrawn (d_150)).vm.findClass RL = some m.cls := hown0
      have hX : va_X b L xs (s.setDrawn (d_150)) s.heap := hX0
      obtain ⟨hPM, hDM⟩ := gBack hF ht hB
      obtain ⟨hI_152, fc_153, hp_151⟩ := hw
      have hPX := gOther hPX hk1 (dj_sym (dj_G dj))
      have hPO := gOther hPO hk1 (dj_1 djM)
      generalize H1 = H at hPX hPM hPO hS ⊢
      have dp_154 : Deep τz_149 := (Deep.fr hDp (fc_153.1 2 (by decide) (by decide)) (fc_153.1 4 (by decide) (by decide)) (fc_153.1 9 (by decide) (by decide)) (fc_153.1 11 (by decide) (by decide)) (fc_153.1 12 (by decide) (by decide)) (fc_153.1 17 (by decide) (by decide)) (fc_153.1 18 (by decide) (by decide)) (fc_153.2 20 (by decide)) (fc_153.2 21 (by decide)) (fc_153.2 28 (by decide)) (fc_153.2 64 (by decide)) (fc_153.2 65 (by decide)) (fc_153.2 68 (by decide)))
      refine lv_pop hx hb dL_law_537 rfl ?_
      refine lv_goto (tgt := 1850) hx hb dL_law_538 (by decide) ?_
      obtain ⟨x_155, ex_155⟩ : ∃ zz : Int32, zz = (nI (6 * j)) + 6 := ⟨_, rfl⟩
      refine lv_iinc (v := x_155) (lv' := [(4, .int x_155), (3, .ref lo), (2, .ref (am 0)), (1, .ref (ad 0)), (0, .ref b)]) hx hb dL_law_1850 hl (k := 0) rfl (by rw [ex_155]; rfl) (by decide) rfl (fun ls hl => ?_)
      refine lv_goto (tgt := 23) hx hb dL_law_1853 (by decide) ?_
      have hl := lv_sub hl [0, 1, 2, 3, 4] rfl
      rw [ex_155, nI_6] at hl
      exact ih (j + 1) σz_143 τz_149 f _ _ _ _ _ _ (by omega) (by omega) hI_146 hI_152 dp_154 (by omega) (by omega) hd0 hPX hDX hPM hDM hPO hDO hS hl
    by_cases c_156 : ((xs (nI (6 * j)).toNatClampNeg) &&& 63) = 9
    · refine lv_tableIn (tgt := 541) hx hb dL_law_40 (by rw [c_156]; decide) (by rw [c_156]; decide) (by rw [c_156]; rfl) (by decide) ?_
      refine lv_aload_n hx hb dL_law_541 rfl (lv_at hl 3 rfl) ?_
      refine lv_aload_n hx hb dL_law_542 rfl (lv_at hl 4 rfl) ?_
      refine lv_iload hx hb dL_law_543 (lv_at hl 0 rfl) ?_
      refine lv_iconst (v := 1) hx hb dL_law_545 (by decide) ?_
      refine lv_iadd hx hb dL_law_546 ?_
      refine va_sld hx hb hX hbl hbA hS (lw_ix (k := 1) hL hin (by decide) (by decide)) dL_law_547 ?_
      refine lv_aload_n hx hb dL_law_548 rfl (lv_at hl 4 rfl) ?_
      refine lv_iload hx hb dL_law_549 (lv_at hl 0 rfl) ?_
      refine lv_iconst (v := 2) hx hb dL_law_551 (by decide) ?_
      refine lv_iadd hx hb dL_law_552 ?_
      refine va_sld hx hb hX hbl hbA hS (lw_ix (k := 2) hL hin (by decide) (by decide)) dL_law_553 ?_
      refine lv_aload_n hx hb dL_law_554 rfl (lv_at hl 4 rfl) ?_
      refine lv_iload hx hb dL_law_555 (lv_at hl 0 rfl) ?_
      refine lv_iconst (v := 3) hx hb dL_law_557 (by decide) ?_
      refine lv_iadd hx hb dL_law_558 ?_
      refine va_sld hx hb hX hbl hbA hS (lw_ix (k := 3) hL hin (by decide) (by decide)) dL_law_559 ?_
      refine lv_aload_n hx hb dL_law_560 rfl (lv_at hl 4 rfl) ?_
      refine lv_iload hx hb dL_law_561 (lv_at hl 0 rfl) ?_
      refine lv_iconst (v := 4) hx hb dL_law_563 (by decide) ?_
      refine lv_iadd hx hb dL_law_564 ?_
      refine va_sld hx hb hX hbl hbA hS (lw_ix (k := 4) hL hin (by decide) (by decide)) dL_law_565 ?_
      refine lv_if_eq (tgt := 573) hx hb dL_law_566 (by decide) (fun c_157 => ?_) (fun c_157 => ?_)
      · refine lv_iconst (v := 0) hx hb dL_law_573 (by decide) ?_
        have hF := gFree hDX hS hA
        refine va_calllD hd0 (va_runV_D (As := [.int (xs ((nI (6 * j)) + 1).toNatClampNeg), .int (xs ((nI (6 * j)) + 2).toNatClampNeg), .int (xs ((nI (6 * j)) + 3).toNatClampNeg), .int 0]) (rest := []) ⟨hx, hb, hml, hown, hts⟩ (n_X11_counted l dC dI ad cA adK adV H.size σ hIX (xs ((nI (6 * j)) + 1).toNatClampNeg) (xs ((nI (6 * j)) + 2).toNatClampNeg) (xs ((nI (6 * j)) + 3).toNatClampNeg) 0 ) (cwV 4 hts gL0_X11_counted rfl rfl rfl (by decide +kernel) ⟨Nat.le_of_ble_eq_true rfl, Nat.le_of_ble_eq_true rfl⟩) ⟨gBlind, va_recv hKX hPX (ci := 10) (q0 := 0) rfl (at_10 rfl), gStart (As := [.ref (ad 0), .int (xs ((nI (6 * j)) + 1).toNatClampNeg), .int (xs ((nI (6 * j)) + 2).toNatClampNeg), .int (xs ((nI (6 * j)) + 3).toNatClampNeg), .int 0]) hPX hDX hKX0 hT hS hF (d)⟩ rfl rfl hl.1 rfl (lv_room (Nat.le_of_ble_eq_true rfl)) dL_law_574 ⟨by omega, by omega⟩) hS (fun q _ h => hF q h) hF (fun r_158 σz_159 t H1 locs ht hvm hw hB hz1 hk1 hS d_160 hd0 => ?_)
        have hts := dr_words hts0 (d_160)
        have hKX := gKd hKX0 (d_160)
        have hKM := gKd hKM0 (d_160)
        have hown : (s.setDrawn (d_160)).vm.findClass RL = some m.cls := hown0
        have hX : va_X b L xs (s.setDrawn (d_160)) s.heap := hX0
        obtain ⟨hPX, hDX⟩ := gBack hF ht hB
        obtain ⟨hI_162, fc_163, hp_161⟩ := hw
        have hPM := gOther hPM hk1 (dj_G dj)
        have hPO := gOther hPO hk1 (dj_1 djX)
        generalize H1 = H at hPX hPM hPO hS ⊢
        refine lv_pop2_2 hx hb dL_law_577 rfl ?_
        refine lv_aload_n hx hb dL_law_578 rfl (lv_at hl 2 rfl) ?_
        refine lv_aload_n hx hb dL_law_579 rfl (lv_at hl 4 rfl) ?_
        refine lv_iload hx hb dL_law_580 (lv_at hl 0 rfl) ?_
        refine lv_iconst (v := 1) hx hb dL_law_582 (by decide) ?_
        refine lv_iadd hx hb dL_law_583 ?_
        refine va_sld hx hb hX hbl hbA hS (lw_ix (k := 1) hL hin (by decide) (by decide)) dL_law_584 ?_
        refine lv_aload_n hx hb dL_law_585 rfl (lv_at hl 4 rfl) ?_
        refine lv_iload hx hb dL_law_586 (lv_at hl 0 rfl) ?_
        refine lv_iconst (v := 2) hx hb dL_law_588 (by decide) ?_
        refine lv_iadd hx hb dL_law_589 ?_
        refine va_sld hx hb hX hbl hbA hS (lw_ix (k := 2) hL hin (by decide) (by decide)) dL_law_590 ?_
        refine lv_aload_n hx hb dL_law_591 rfl (lv_at hl 4 rfl) ?_
        refine lv_iload hx hb dL_law_592 (lv_at hl 0 rfl) ?_
        refine lv_iconst (v := 3) hx hb dL_law_594 (by decide) ?_
        refine lv_iadd hx hb dL_law_595 ?_
        refine va_sld hx hb hX hbl hbA hS (lw_ix (k := 3) hL hin (by decide) (by decide)) dL_law_596 ?_
        refine lv_aload_n hx hb dL_law_597 rfl (lv_at hl 4 rfl) ?_
        refine lv_iload hx hb dL_law_598 (lv_at hl 0 rfl) ?_
        refine lv_iconst (v := 4) hx hb dL_law_600 (by decide) ?_
        refine lv_iadd hx hb dL_law_601 ?_
        refine va_sld hx hb hX hbl hbA hS (lw_ix (k := 4) hL hin (by decide) (by decide)) dL_law_602 ?_
        refine lv_if_eq (tgt := 610) hx hb dL_law_603 (by decide) (fun c_164 => ?_) (fun c_164 => ?_)
        · refine lv_iconst (v := 0) hx hb dL_law_610 (by decide) ?_
          have hF := gFree hDM hS hA
          refine va_calllD hd0 (va_runV_D (As := [.int (xs ((nI (6 * j)) + 1).toNatClampNeg), .int (xs ((nI (6 * j)) + 2).toNatClampNeg), .int (xs ((nI (6 * j)) + 3).toNatClampNeg), .int 0]) (rest := []) ⟨hx, hb, hml, hown, hts⟩ (n_X12_counted l dC dI am cM adK adV H.size τ hIM (xs ((nI (6 * j)) + 1).toNatClampNeg) (xs ((nI (6 * j)) + 2).toNatClampNeg) (xs ((nI (6 * j)) + 3).toNatClampNeg) 0 ) (cwV 4 hts gL0_X12_counted rfl rfl rfl (by decide +kernel) ⟨Nat.le_of_ble_eq_true rfl, Nat.le_of_ble_eq_true rfl⟩) ⟨gBlind, va_recv hKM hPM (ci := 11) (q0 := 0) rfl (mat_11 rfl), gStart (As := [.ref (am 0), .int (xs ((nI (6 * j)) + 1).toNatClampNeg), .int (xs ((nI (6 * j)) + 2).toNatClampNeg), .int (xs ((nI (6 * j)) + 3).toNatClampNeg), .int 0]) hPM hDM hKM0 hT hS hF (d_160)⟩ rfl rfl hl.1 rfl (lv_room (Nat.le_of_ble_eq_true rfl)) dL_law_611 ⟨by omega, by omega⟩) hS (fun q _ h => hF q h) hF (fun r_165 τz_166 t H1 locs ht hvm hw hB hz1 hk1 hS d_167 hd0 => ?_)
          have hts := dr_words hts0 (d_167)
          have hKX := gKd hKX0 (d_167)
          have hKM := gKd hKM0 (d_167)
          have hown : (s.setDrawn (d_167)).vm.findClass RL = some m.cls := hown0
          have hX : va_X b L xs (s.setDrawn (d_167)) s.heap := hX0
          obtain ⟨hPM, hDM⟩ := gBack hF ht hB
          obtain ⟨hI_169, fc_170, hp_168⟩ := hw
          have hPX := gOther hPX hk1 (dj_sym (dj_G dj))
          have hPO := gOther hPO hk1 (dj_1 djM)
          generalize H1 = H at hPX hPM hPO hS ⊢
          have dp_171 : Deep τz_166 := (Deep.fr hDp (fc_170.1 2 (by decide) (by decide)) (fc_170.1 4 (by decide) (by decide)) (fc_170.1 9 (by decide) (by decide)) (fc_170.1 11 (by decide) (by decide)) (fc_170.1 12 (by decide) (by decide)) (fc_170.1 17 (by decide) (by decide)) (fc_170.1 18 (by decide) (by decide)) (fc_170.2 20 (by decide)) (fc_170.2 21 (by decide)) (fc_170.2 28 (by decide)) (fc_170.2 64 (by decide)) (fc_170.2 65 (by decide)) (fc_170.2 68 (by decide)))
          refine lv_pop2_2 hx hb dL_law_614 rfl ?_
          refine lv_goto (tgt := 1850) hx hb dL_law_615 (by decide) ?_
          obtain ⟨x_172, ex_172⟩ : ∃ zz : Int32, zz = (nI (6 * j)) + 6 := ⟨_, rfl⟩
          refine lv_iinc (v := x_172) (lv' := [(4, .int x_172), (3, .ref lo), (2, .ref (am 0)), (1, .ref (ad 0)), (0, .ref b)]) hx hb dL_law_1850 hl (k := 0) rfl (by rw [ex_172]; rfl) (by decide) rfl (fun ls hl => ?_)
          refine lv_goto (tgt := 23) hx hb dL_law_1853 (by decide) ?_
          have hl := lv_sub hl [0, 1, 2, 3, 4] rfl
          rw [ex_172, nI_6] at hl
          exact ih (j + 1) σz_159 τz_166 f _ _ _ _ _ _ (by omega) (by omega) hI_162 hI_169 dp_171 (by omega) (by omega) hd0 hPX hDX hPM hDM hPO hDO hS hl
        · exact absurd c_157 c_164
      · refine lv_iconst (v := 1) hx hb dL_law_569 (by decide) ?_
        refine lv_goto (tgt := 574) hx hb dL_law_570 (by decide) ?_
        have hF := gFree hDX hS hA
        refine va_calllD hd0 (va_runV_D (As := [.int (xs ((nI (6 * j)) + 1).toNatClampNeg), .int (xs ((nI (6 * j)) + 2).toNatClampNeg), .int (xs ((nI (6 * j)) + 3).toNatClampNeg), .int 1]) (rest := []) ⟨hx, hb, hml, hown, hts⟩ (n_X11_counted l dC dI ad cA adK adV H.size σ hIX (xs ((nI (6 * j)) + 1).toNatClampNeg) (xs ((nI (6 * j)) + 2).toNatClampNeg) (xs ((nI (6 * j)) + 3).toNatClampNeg) 1 ) (cwV 4 hts gL0_X11_counted rfl rfl rfl (by decide +kernel) ⟨Nat.le_of_ble_eq_true rfl, Nat.le_of_ble_eq_true rfl⟩) ⟨gBlind, va_recv hKX hPX (ci := 10) (q0 := 0) rfl (at_10 rfl), gStart (As := [.ref (ad 0), .int (xs ((nI (6 * j)) + 1).toNatClampNeg), .int (xs ((nI (6 * j)) + 2).toNatClampNeg), .int (xs ((nI (6 * j)) + 3).toNatClampNeg), .int 1]) hPX hDX hKX0 hT hS hF (d)⟩ rfl rfl hl.1 rfl (lv_room (Nat.le_of_ble_eq_true rfl)) dL_law_574 ⟨by omega, by omega⟩) hS (fun q _ h => hF q h) hF (fun r_173 σz_174 t H1 locs ht hvm hw hB hz1 hk1 hS d_175 hd0 => ?_)
        have hts := dr_words hts0 (d_175)
        have hKX := gKd hKX0 (d_175)
        have hKM := gKd hKM0 (d_175)
        have hown : (s.setDrawn (d_175)).vm.findClass RL = some m.cls := hown0
        have hX : va_X b L xs (s.setDrawn (d_175)) s.heap := hX0
        obtain ⟨hPX, hDX⟩ := gBack hF ht hB
        obtain ⟨hI_177, fc_178, hp_176⟩ := hw
        have hPM := gOther hPM hk1 (dj_G dj)
        have hPO := gOther hPO hk1 (dj_1 djX)
        generalize H1 = H at hPX hPM hPO hS ⊢
        refine lv_pop2_2 hx hb dL_law_577 rfl ?_
        refine lv_aload_n hx hb dL_law_578 rfl (lv_at hl 2 rfl) ?_
        refine lv_aload_n hx hb dL_law_579 rfl (lv_at hl 4 rfl) ?_
        refine lv_iload hx hb dL_law_580 (lv_at hl 0 rfl) ?_
        refine lv_iconst (v := 1) hx hb dL_law_582 (by decide) ?_
        refine lv_iadd hx hb dL_law_583 ?_
        refine va_sld hx hb hX hbl hbA hS (lw_ix (k := 1) hL hin (by decide) (by decide)) dL_law_584 ?_
        refine lv_aload_n hx hb dL_law_585 rfl (lv_at hl 4 rfl) ?_
        refine lv_iload hx hb dL_law_586 (lv_at hl 0 rfl) ?_
        refine lv_iconst (v := 2) hx hb dL_law_588 (by decide) ?_
        refine lv_iadd hx hb dL_law_589 ?_
        refine va_sld hx hb hX hbl hbA hS (lw_ix (k := 2) hL hin (by decide) (by decide)) dL_law_590 ?_
        refine lv_aload_n hx hb dL_law_591 rfl (lv_at hl 4 rfl) ?_
        refine lv_iload hx hb dL_law_592 (lv_at hl 0 rfl) ?_
        refine lv_iconst (v := 3) hx hb dL_law_594 (by decide) ?_
        refine lv_iadd hx hb dL_law_595 ?_
        refine va_sld hx hb hX hbl hbA hS (lw_ix (k := 3) hL hin (by decide) (by decide)) dL_law_596 ?_
        refine lv_aload_n hx hb dL_law_597 rfl (lv_at hl 4 rfl) ?_
        refine lv_iload hx hb dL_law_598 (lv_at hl 0 rfl) ?_
        refine lv_iconst (v := 4) hx hb dL_law_600 (by decide) ?_
        refine lv_iadd hx hb dL_law_601 ?_
        refine va_sld hx hb hX hbl hbA hS (lw_ix (k := 4) hL hin (by decide) (by decide)) dL_law_602 ?_
        refine lv_if_eq (tgt := 610) hx hb dL_law_603 (by decide) (fun c_179 => ?_) (fun c_179 => ?_)
        · exact absurd c_179 c_157
        · refine lv_iconst (v := 1) hx hb dL_law_606 (by decide) ?_
          refine lv_goto (tgt := 611) hx hb dL_law_607 (by decide) ?_
          have hF := gFree hDM hS hA
          refine va_calllD hd0 (va_runV_D (As := [.int (xs ((nI (6 * j)) + 1).toNatClampNeg), .int (xs ((nI (6 * j)) + 2).toNatClampNeg), .int (xs ((nI (6 * j)) + 3).toNatClampNeg), .int 1]) (rest := []) ⟨hx, hb, hml, hown, hts⟩ (n_X12_counted l dC dI am cM adK adV H.size τ hIM (xs ((nI (6 * j)) + 1).toNatClampNeg) (xs ((nI (6 * j)) + 2).toNatClampNeg) (xs ((nI (6 * j)) + 3).toNatClampNeg) 1 ) (cwV 4 hts gL0_X12_counted rfl rfl rfl (by decide +kernel) ⟨Nat.le_of_ble_eq_true rfl, Nat.le_of_ble_eq_true rfl⟩) ⟨gBlind, va_recv hKM hPM (ci := 11) (q0 := 0) rfl (mat_11 rfl), gStart (As := [.ref (am 0), .int (xs ((nI (6 * j)) + 1).toNatClampNeg), .int (xs ((nI (6 * j)) + 2).toNatClampNeg), .int (xs ((nI (6 * j)) + 3).toNatClampNeg), .int 1]) hPM hDM hKM0 hT hS hF (d_175)⟩ rfl rfl hl.1 rfl (lv_room (Nat.le_of_ble_eq_true rfl)) dL_law_611 ⟨by omega, by omega⟩) hS (fun q _ h => hF q h) hF (fun r_180 τz_181 t H1 locs ht hvm hw hB hz1 hk1 hS d_182 hd0 => ?_)
          have hts := dr_words hts0 (d_182)
          have hKX := gKd hKX0 (d_182)
          have hKM := gKd hKM0 (d_182)
          have hown : (s.setDrawn (d_182)).vm.findClass RL = some m.cls := hown0
          have hX : va_X b L xs (s.setDrawn (d_182)) s.heap := hX0
          obtain ⟨hPM, hDM⟩ := gBack hF ht hB
          obtain ⟨hI_184, fc_185, hp_183⟩ := hw
          have hPX := gOther hPX hk1 (dj_sym (dj_G dj))
          have hPO := gOther hPO hk1 (dj_1 djM)
          generalize H1 = H at hPX hPM hPO hS ⊢
          have dp_186 : Deep τz_181 := (Deep.fr hDp (fc_185.1 2 (by decide) (by decide)) (fc_185.1 4 (by decide) (by decide)) (fc_185.1 9 (by decide) (by decide)) (fc_185.1 11 (by decide) (by decide)) (fc_185.1 12 (by decide) (by decide)) (fc_185.1 17 (by decide) (by decide)) (fc_185.1 18 (by decide) (by decide)) (fc_185.2 20 (by decide)) (fc_185.2 21 (by decide)) (fc_185.2 28 (by decide)) (fc_185.2 64 (by decide)) (fc_185.2 65 (by decide)) (fc_185.2 68 (by decide)))
          refine lv_pop2_2 hx hb dL_law_614 rfl ?_
          refine lv_goto (tgt := 1850) hx hb dL_law_615 (by decide) ?_
          obtain ⟨x_187, ex_187⟩ : ∃ zz : Int32, zz = (nI (6 * j)) + 6 := ⟨_, rfl⟩
          refine lv_iinc (v := x_187) (lv' := [(4, .int x_187), (3, .ref lo), (2, .ref (am 0)), (1, .ref (ad 0)), (0, .ref b)]) hx hb dL_law_1850 hl (k := 0) rfl (by rw [ex_187]; rfl) (by decide) rfl (fun ls hl => ?_)
          refine lv_goto (tgt := 23) hx hb dL_law_1853 (by decide) ?_
          have hl := lv_sub hl [0, 1, 2, 3, 4] rfl
          rw [ex_187, nI_6] at hl
          exact ih (j + 1) σz_174 τz_181 f _ _ _ _ _ _ (by omega) (by omega) hI_177 hI_184 dp_186 (by omega) (by omega) hd0 hPX hDX hPM hDM hPO hDO hS hl
    by_cases c_188 : ((xs (nI (6 * j)).toNatClampNeg) &&& 63) = 10
    · refine lv_tableIn (tgt := 618) hx hb dL_law_40 (by rw [c_188]; decide) (by rw [c_188]; decide) (by rw [c_188]; rfl) (by decide) ?_
      refine lv_aload_n hx hb dL_law_618 rfl (lv_at hl 3 rfl) ?_
      refine lv_aload_n hx hb dL_law_619 rfl (lv_at hl 4 rfl) ?_
      refine lv_iload hx hb dL_law_620 (lv_at hl 0 rfl) ?_
      refine lv_iconst (v := 1) hx hb dL_law_622 (by decide) ?_
      refine lv_iadd hx hb dL_law_623 ?_
      refine va_sld hx hb hX hbl hbA hS (lw_ix (k := 1) hL hin (by decide) (by decide)) dL_law_624 ?_
      refine lv_aload_n hx hb dL_law_625 rfl (lv_at hl 4 rfl) ?_
      refine lv_iload hx hb dL_law_626 (lv_at hl 0 rfl) ?_
      refine lv_iconst (v := 2) hx hb dL_law_628 (by decide) ?_
      refine lv_iadd hx hb dL_law_629 ?_
      refine va_sld hx hb hX hbl hbA hS (lw_ix (k := 2) hL hin (by decide) (by decide)) dL_law_630 ?_
      have hF := gFree hDX hS hA
      refine va_calliD hd0 (va_runV_D (As := [.int (xs ((nI (6 * j)) + 1).toNatClampNeg), .int (xs ((nI (6 * j)) + 2).toNatClampNeg)]) (rest := []) ⟨hx, hb, hml, hown, hts⟩ (n_X11_bond l dC dI ad cA adK adV H.size σ hIX (xs ((nI (6 * j)) + 1).toNatClampNeg) (xs ((nI (6 * j)) + 2).toNatClampNeg) ) (cwV 2 hts gL0_X11_bond rfl rfl rfl (by decide +kernel) ⟨Nat.le_of_ble_eq_true rfl, Nat.le_of_ble_eq_true rfl⟩) ⟨gBlind, va_recv hKX hPX (ci := 10) (q0 := 0) rfl (at_10 rfl), gStart (As := [.ref (ad 0), .int (xs ((nI (6 * j)) + 1).toNatClampNeg), .int (xs ((nI (6 * j)) + 2).toNatClampNeg)]) hPX hDX hKX0 hT hS hF (d)⟩ rfl rfl hl.1 rfl (lv_room (Nat.le_of_ble_eq_true rfl)) dL_law_631 ⟨by omega, by omega⟩) hS (fun q _ h => hF q h) hF (fun r_189 σz_190 t H1 locs ht hvm hw hB hz1 hk1 hS d_191 hd0 => ?_)
      have hts := dr_words hts0 (d_191)
      have hKX := gKd hKX0 (d_191)
      have hKM := gKd hKM0 (d_191)
      have hown : (s.setDrawn (d_191)).vm.findClass RL = some m.cls := hown0
      have hX : va_X b L xs (s.setDrawn (d_191)) s.heap := hX0
      obtain ⟨hPX, hDX⟩ := gBack hF ht hB
      obtain ⟨hI_193, fc_194, hp_192⟩ := hw
      have hPM := gOther hPM hk1 (dj_G dj)
      have hPO := gOther hPO hk1 (dj_1 djX)
      generalize H1 = H at hPX hPM hPO hS ⊢
      refine lv_pop hx hb dL_law_634 rfl ?_
      refine lv_aload_n hx hb dL_law_635 rfl (lv_at hl 2 rfl) ?_
      refine lv_aload_n hx hb dL_law_636 rfl (lv_at hl 4 rfl) ?_
      refine lv_iload hx hb dL_law_637 (lv_at hl 0 rfl) ?_
      refine lv_iconst (v := 1) hx hb dL_law_639 (by decide) ?_
      refine lv_iadd hx hb dL_law_640 ?_
      refine va_sld hx hb hX hbl hbA hS (lw_ix (k := 1) hL hin (by decide) (by decide)) dL_law_641 ?_
      refine lv_aload_n hx hb dL_law_642 rfl (lv_at hl 4 rfl) ?_
      refine lv_iload hx hb dL_law_643 (lv_at hl 0 rfl) ?_
      refine lv_iconst (v := 2) hx hb dL_law_645 (by decide) ?_
      refine lv_iadd hx hb dL_law_646 ?_
      refine va_sld hx hb hX hbl hbA hS (lw_ix (k := 2) hL hin (by decide) (by decide)) dL_law_647 ?_
      have hF := gFree hDM hS hA
      refine va_calliD hd0 (va_runV_D (As := [.int (xs ((nI (6 * j)) + 1).toNatClampNeg), .int (xs ((nI (6 * j)) + 2).toNatClampNeg)]) (rest := []) ⟨hx, hb, hml, hown, hts⟩ (n_X12_bond l dC dI am cM adK adV H.size τ hIM (xs ((nI (6 * j)) + 1).toNatClampNeg) (xs ((nI (6 * j)) + 2).toNatClampNeg) ) (cwV 2 hts gL0_X12_bond rfl rfl rfl (by decide +kernel) ⟨Nat.le_of_ble_eq_true rfl, Nat.le_of_ble_eq_true rfl⟩) ⟨gBlind, va_recv hKM hPM (ci := 11) (q0 := 0) rfl (mat_11 rfl), gStart (As := [.ref (am 0), .int (xs ((nI (6 * j)) + 1).toNatClampNeg), .int (xs ((nI (6 * j)) + 2).toNatClampNeg)]) hPM hDM hKM0 hT hS hF (d_191)⟩ rfl rfl hl.1 rfl (lv_room (Nat.le_of_ble_eq_true rfl)) dL_law_648 ⟨by omega, by omega⟩) hS (fun q _ h => hF q h) hF (fun r_195 τz_196 t H1 locs ht hvm hw hB hz1 hk1 hS d_197 hd0 => ?_)
      have hts := dr_words hts0 (d_197)
      have hKX := gKd hKX0 (d_197)
      have hKM := gKd hKM0 (d_197)
      have hown : (s.setDrawn (d_197)).vm.findClass RL = some m.cls := hown0
      have hX : va_X b L xs (s.setDrawn (d_197)) s.heap := hX0
      obtain ⟨hPM, hDM⟩ := gBack hF ht hB
      obtain ⟨hI_199, fc_200, hp_198⟩ := hw
      have hPX := gOther hPX hk1 (dj_sym (dj_G dj))
      have hPO := gOther hPO hk1 (dj_1 djM)
      generalize H1 = H at hPX hPM hPO hS ⊢
      have dp_201 : Deep τz_196 := (Deep.fr hDp (fc_200.1 2 (by decide) (by decide)) (fc_200.1 4 (by decide) (by decide)) (fc_200.1 9 (by decide) (by decide)) (fc_200.1 11 (by decide) (by decide)) (fc_200.1 12 (by decide) (by decide)) (fc_200.1 17 (by decide) (by decide)) (fc_200.1 18 (by decide) (by decide)) (fc_200.2 20 (by decide)) (fc_200.2 21 (by decide)) (fc_200.2 28 (by decide)) (fc_200.2 64 (by decide)) (fc_200.2 65 (by decide)) (fc_200.2 68 (by decide)))
      refine lv_pop hx hb dL_law_651 rfl ?_
      refine lv_goto (tgt := 1850) hx hb dL_law_652 (by decide) ?_
      obtain ⟨x_202, ex_202⟩ : ∃ zz : Int32, zz = (nI (6 * j)) + 6 := ⟨_, rfl⟩
      refine lv_iinc (v := x_202) (lv' := [(4, .int x_202), (3, .ref lo), (2, .ref (am 0)), (1, .ref (ad 0)), (0, .ref b)]) hx hb dL_law_1850 hl (k := 0) rfl (by rw [ex_202]; rfl) (by decide) rfl (fun ls hl => ?_)
      refine lv_goto (tgt := 23) hx hb dL_law_1853 (by decide) ?_
      have hl := lv_sub hl [0, 1, 2, 3, 4] rfl
      rw [ex_202, nI_6] at hl
      exact ih (j + 1) σz_190 τz_196 f _ _ _ _ _ _ (by omega) (by omega) hI_193 hI_199 dp_201 (by omega) (by omega) hd0 hPX hDX hPM hDM hPO hDO hS hl
    by_cases c_203 : ((xs (nI (6 * j)).toNatClampNeg) &&& 63) = 11
    · refine lv_tableIn (tgt := 655) hx hb dL_law_40 (by rw [c_203]; decide) (by rw [c_203]; decide) (by rw [c_203]; rfl) (by decide) ?_
      refine lv_aload_n hx hb dL_law_655 rfl (lv_at hl 3 rfl) ?_
      refine lv_aload_n hx hb dL_law_656 rfl (lv_at hl 4 rfl) ?_
      refine lv_iload hx hb dL_law_657 (lv_at hl 0 rfl) ?_
      refine lv_iconst (v := 1) hx hb dL_law_659 (by decide) ?_
      refine lv_iadd hx hb dL_law_660 ?_
      refine va_sld hx hb hX hbl hbA hS (lw_ix (k := 1) hL hin (by decide) (by decide)) dL_law_661 ?_
      refine lv_aload_n hx hb dL_law_662 rfl (lv_at hl 4 rfl) ?_
      refine lv_iload hx hb dL_law_663 (lv_at hl 0 rfl) ?_
      refine lv_iconst (v := 2) hx hb dL_law_665 (by decide) ?_
      refine lv_iadd hx hb dL_law_666 ?_
      refine va_sld hx hb hX hbl hbA hS (lw_ix (k := 2) hL hin (by decide) (by decide)) dL_law_667 ?_
      have hF := gFree hDX hS hA
      refine va_calliD hd0 (va_runV_D (As := [.int (xs ((nI (6 * j)) + 1).toNatClampNeg), .int (xs ((nI (6 * j)) + 2).toNatClampNeg)]) (rest := []) ⟨hx, hb, hml, hown, hts⟩ (n_X11_grid l dC dI ad cA adK adV H.size σ hIX (xs ((nI (6 * j)) + 1).toNatClampNeg) (xs ((nI (6 * j)) + 2).toNatClampNeg) ) (cwV 2 hts gL0_X11_grid rfl rfl rfl (by decide +kernel) ⟨Nat.le_of_ble_eq_true rfl, Nat.le_of_ble_eq_true rfl⟩) ⟨gBlind, va_recv hKX hPX (ci := 10) (q0 := 0) rfl (at_10 rfl), gStart (As := [.ref (ad 0), .int (xs ((nI (6 * j)) + 1).toNatClampNeg), .int (xs ((nI (6 * j)) + 2).toNatClampNeg)]) hPX hDX hKX0 hT hS hF (d)⟩ rfl rfl hl.1 rfl (lv_room (Nat.le_of_ble_eq_true rfl)) dL_law_668 ⟨by omega, by omega⟩) hS (fun q _ h => hF q h) hF (fun r_204 σz_205 t H1 locs ht hvm hw hB hz1 hk1 hS d_206 hd0 => ?_)
      have hts := dr_words hts0 (d_206)
      have hKX := gKd hKX0 (d_206)
      have hKM := gKd hKM0 (d_206)
      have hown : (s.setDrawn (d_206)).vm.findClass RL = some m.cls := hown0
      have hX : va_X b L xs (s.setDrawn (d_206)) s.heap := hX0
      obtain ⟨hPX, hDX⟩ := gBack hF ht hB
      obtain ⟨hI_208, fc_209, hp_207⟩ := hw
      have hPM := gOther hPM hk1 (dj_G dj)
      have hPO := gOther hPO hk1 (dj_1 djX)
      generalize H1 = H at hPX hPM hPO hS ⊢
      refine lv_pop hx hb dL_law_671 rfl ?_
      refine lv_aload_n hx hb dL_law_672 rfl (lv_at hl 2 rfl) ?_
      refine lv_aload_n hx hb dL_law_673 rfl (lv_at hl 4 rfl) ?_
      refine lv_iload hx hb dL_law_674 (lv_at hl 0 rfl) ?_
      refine lv_iconst (v := 1) hx hb dL_law_676 (by decide) ?_
      refine lv_iadd hx hb dL_law_677 ?_
      refine va_sld hx hb hX hbl hbA hS (lw_ix (k := 1) hL hin (by decide) (by decide)) dL_law_678 ?_
      refine lv_aload_n hx hb dL_law_679 rfl (lv_at hl 4 rfl) ?_
      refine lv_iload hx hb dL_law_680 (lv_at hl 0 rfl) ?_
      refine lv_iconst (v := 2) hx hb dL_law_682 (by decide) ?_
      refine lv_iadd hx hb dL_law_683 ?_
      refine va_sld hx hb hX hbl hbA hS (lw_ix (k := 2) hL hin (by decide) (by decide)) dL_law_684 ?_
      have hF := gFree hDM hS hA
      refine va_calliD hd0 (va_runV_D (As := [.int (xs ((nI (6 * j)) + 1).toNatClampNeg), .int (xs ((nI (6 * j)) + 2).toNatClampNeg)]) (rest := []) ⟨hx, hb, hml, hown, hts⟩ (n_X12_grid l dC dI am cM adK adV H.size τ hIM (xs ((nI (6 * j)) + 1).toNatClampNeg) (xs ((nI (6 * j)) + 2).toNatClampNeg) hDp) (cwV 2 hts gL0_X12_grid rfl rfl rfl (by decide +kernel) ⟨Nat.le_of_ble_eq_true rfl, Nat.le_of_ble_eq_true rfl⟩) ⟨gBlind, va_recv hKM hPM (ci := 11) (q0 := 0) rfl (mat_11 rfl), gStart (As := [.ref (am 0), .int (xs ((nI (6 * j)) + 1).toNatClampNeg), .int (xs ((nI (6 * j)) + 2).toNatClampNeg)]) hPM hDM hKM0 hT hS hF (d_206)⟩ rfl rfl hl.1 rfl (lv_room (Nat.le_of_ble_eq_true rfl)) dL_law_685 ⟨by omega, by omega⟩) hS (fun q _ h => hF q h) hF (fun r_210 τz_211 t H1 locs ht hvm hw hB hz1 hk1 hS d_212 hd0 => ?_)
      have hts := dr_words hts0 (d_212)
      have hKX := gKd hKX0 (d_212)
      have hKM := gKd hKM0 (d_212)
      have hown : (s.setDrawn (d_212)).vm.findClass RL = some m.cls := hown0
      have hX : va_X b L xs (s.setDrawn (d_212)) s.heap := hX0
      obtain ⟨hPM, hDM⟩ := gBack hF ht hB
      obtain ⟨hI_214, fc_215, hp_213⟩ := hw
      have hPX := gOther hPX hk1 (dj_sym (dj_G dj))
      have hPO := gOther hPO hk1 (dj_1 djM)
      generalize H1 = H at hPX hPM hPO hS ⊢
      have dp_216 : Deep τz_211 := (Deep.fr hDp (fc_215.1 2 (by decide) (by decide)) (fc_215.1 4 (by decide) (by decide)) (fc_215.1 9 (by decide) (by decide)) (fc_215.1 11 (by decide) (by decide)) (fc_215.1 12 (by decide) (by decide)) (fc_215.1 17 (by decide) (by decide)) (fc_215.1 18 (by decide) (by decide)) (fc_215.2 20 (by decide)) (fc_215.2 21 (by decide)) (fc_215.2 28 (by decide)) (fc_215.2 64 (by decide)) (fc_215.2 65 (by decide)) (fc_215.2 68 (by decide)))
      refine lv_pop hx hb dL_law_688 rfl ?_
      refine lv_goto (tgt := 1850) hx hb dL_law_689 (by decide) ?_
      obtain ⟨x_217, ex_217⟩ : ∃ zz : Int32, zz = (nI (6 * j)) + 6 := ⟨_, rfl⟩
      refine lv_iinc (v := x_217) (lv' := [(4, .int x_217), (3, .ref lo), (2, .ref (am 0)), (1, .ref (ad 0)), (0, .ref b)]) hx hb dL_law_1850 hl (k := 0) rfl (by rw [ex_217]; rfl) (by decide) rfl (fun ls hl => ?_)
      refine lv_goto (tgt := 23) hx hb dL_law_1853 (by decide) ?_
      have hl := lv_sub hl [0, 1, 2, 3, 4] rfl
      rw [ex_217, nI_6] at hl
      exact ih (j + 1) σz_205 τz_211 f _ _ _ _ _ _ (by omega) (by omega) hI_208 hI_214 dp_216 (by omega) (by omega) hd0 hPX hDX hPM hDM hPO hDO hS hl
    by_cases c_218 : ((xs (nI (6 * j)).toNatClampNeg) &&& 63) = 12
    · refine lv_tableIn (tgt := 692) hx hb dL_law_40 (by rw [c_218]; decide) (by rw [c_218]; decide) (by rw [c_218]; rfl) (by decide) ?_
      refine lv_aload_n hx hb dL_law_692 rfl (lv_at hl 3 rfl) ?_
      refine lv_aload_n hx hb dL_law_693 rfl (lv_at hl 4 rfl) ?_
      refine lv_iload hx hb dL_law_694 (lv_at hl 0 rfl) ?_
      refine lv_iconst (v := 1) hx hb dL_law_696 (by decide) ?_
      refine lv_iadd hx hb dL_law_697 ?_
      refine va_sld hx hb hX hbl hbA hS (lw_ix (k := 1) hL hin (by decide) (by decide)) dL_law_698 ?_
      refine lv_aload_n hx hb dL_law_699 rfl (lv_at hl 4 rfl) ?_
      refine lv_iload hx hb dL_law_700 (lv_at hl 0 rfl) ?_
      refine lv_iconst (v := 2) hx hb dL_law_702 (by decide) ?_
      refine lv_iadd hx hb dL_law_703 ?_
      refine va_sld hx hb hX hbl hbA hS (lw_ix (k := 2) hL hin (by decide) (by decide)) dL_law_704 ?_
      refine lv_aload_n hx hb dL_law_705 rfl (lv_at hl 4 rfl) ?_
      refine lv_iload hx hb dL_law_706 (lv_at hl 0 rfl) ?_
      refine lv_iconst (v := 3) hx hb dL_law_708 (by decide) ?_
      refine lv_iadd hx hb dL_law_709 ?_
      refine va_sld hx hb hX hbl hbA hS (lw_ix (k := 3) hL hin (by decide) (by decide)) dL_law_710 ?_
      have hF := gFree hDX hS hA
      refine va_calliD hd0 (va_runV_D (As := [.int (xs ((nI (6 * j)) + 1).toNatClampNeg), .int (xs ((nI (6 * j)) + 2).toNatClampNeg), .int (xs ((nI (6 * j)) + 3).toNatClampNeg)]) (rest := []) ⟨hx, hb, hml, hown, hts⟩ (n_X11_period l dC dI ad cA adK adV H.size σ hIX (xs ((nI (6 * j)) + 1).toNatClampNeg) (xs ((nI (6 * j)) + 2).toNatClampNeg) (xs ((nI (6 * j)) + 3).toNatClampNeg) ) (cwV 3 hts gL0_X11_period rfl rfl rfl (by decide +kernel) ⟨Nat.le_of_ble_eq_true rfl, Nat.le_of_ble_eq_true rfl⟩) ⟨gBlind, va_recv hKX hPX (ci := 10) (q0 := 0) rfl (at_10 rfl), gStart (As := [.ref (ad 0), .int (xs ((nI (6 * j)) + 1).toNatClampNeg), .int (xs ((nI (6 * j)) + 2).toNatClampNeg), .int (xs ((nI (6 * j)) + 3).toNatClampNeg)]) hPX hDX hKX0 hT hS hF (d)⟩ rfl rfl hl.1 rfl (lv_room (Nat.le_of_ble_eq_true rfl)) dL_law_711 ⟨by omega, by omega⟩) hS (fun q _ h => hF q h) hF (fun r_219 σz_220 t H1 locs ht hvm hw hB hz1 hk1 hS d_221 hd0 => ?_)
      have hts := dr_words hts0 (d_221)
      have hKX := gKd hKX0 (d_221)
      have hKM := gKd hKM0 (d_221)
      have hown : (s.setDrawn (d_221)).vm.findClass RL = some m.cls := hown0
      have hX : va_X b L xs (s.setDrawn (d_221)) s.heap := hX0
      obtain ⟨hPX, hDX⟩ := gBack hF ht hB
      obtain ⟨hI_223, fc_224, hp_222⟩ := hw
      have hPM := gOther hPM hk1 (dj_G dj)
      have hPO := gOther hPO hk1 (dj_1 djX)
      generalize H1 = H at hPX hPM hPO hS ⊢
      refine lv_pop hx hb dL_law_714 rfl ?_
      refine lv_aload_n hx hb dL_law_715 rfl (lv_at hl 2 rfl) ?_
      refine lv_aload_n hx hb dL_law_716 rfl (lv_at hl 4 rfl) ?_
      refine lv_iload hx hb dL_law_717 (lv_at hl 0 rfl) ?_
      refine lv_iconst (v := 1) hx hb dL_law_719 (by decide) ?_
      refine lv_iadd hx hb dL_law_720 ?_
      refine va_sld hx hb hX hbl hbA hS (lw_ix (k := 1) hL hin (by decide) (by decide)) dL_law_721 ?_
      refine lv_aload_n hx hb dL_law_722 rfl (lv_at hl 4 rfl) ?_
      refine lv_iload hx hb dL_law_723 (lv_at hl 0 rfl) ?_
      refine lv_iconst (v := 2) hx hb dL_law_725 (by decide) ?_
      refine lv_iadd hx hb dL_law_726 ?_
      refine va_sld hx hb hX hbl hbA hS (lw_ix (k := 2) hL hin (by decide) (by decide)) dL_law_727 ?_
      refine lv_aload_n hx hb dL_law_728 rfl (lv_at hl 4 rfl) ?_
      refine lv_iload hx hb dL_law_729 (lv_at hl 0 rfl) ?_
      refine lv_iconst (v := 3) hx hb dL_law_731 (by decide) ?_
      refine lv_iadd hx hb dL_law_732 ?_
      refine va_sld hx hb hX hbl hbA hS (lw_ix (k := 3) hL hin (by decide) (by decide)) dL_law_733 ?_
      have hF := gFree hDM hS hA
      refine va_calliD hd0 (va_runV_D (As := [.int (xs ((nI (6 * j)) + 1).toNatClampNeg), .int (xs ((nI (6 * j)) + 2).toNatClampNeg), .int (xs ((nI (6 * j)) + 3).toNatClampNeg)]) (rest := []) ⟨hx, hb, hml, hown, hts⟩ (n_X12_period l dC dI am cM adK adV H.size τ hIM (xs ((nI (6 * j)) + 1).toNatClampNeg) (xs ((nI (6 * j)) + 2).toNatClampNeg) (xs ((nI (6 * j)) + 3).toNatClampNeg) ) (cwV 3 hts gL0_X12_period rfl rfl rfl (by decide +kernel) ⟨Nat.le_of_ble_eq_true rfl, Nat.le_of_ble_eq_true rfl⟩) ⟨gBlind, va_recv hKM hPM (ci := 11) (q0 := 0) rfl (mat_11 rfl), gStart (As := [.ref (am 0), .int (xs ((nI (6 * j)) + 1).toNatClampNeg), .int (xs ((nI (6 * j)) + 2).toNatClampNeg), .int (xs ((nI (6 * j)) + 3).toNatClampNeg)]) hPM hDM hKM0 hT hS hF (d_221)⟩ rfl rfl hl.1 rfl (lv_room (Nat.le_of_ble_eq_true rfl)) dL_law_734 ⟨by omega, by omega⟩) hS (fun q _ h => hF q h) hF (fun r_225 τz_226 t H1 locs ht hvm hw hB hz1 hk1 hS d_227 hd0 => ?_)
      have hts := dr_words hts0 (d_227)
      have hKX := gKd hKX0 (d_227)
      have hKM := gKd hKM0 (d_227)
      have hown : (s.setDrawn (d_227)).vm.findClass RL = some m.cls := hown0
      have hX : va_X b L xs (s.setDrawn (d_227)) s.heap := hX0
      obtain ⟨hPM, hDM⟩ := gBack hF ht hB
      obtain ⟨hI_229, fc_230, hp_228⟩ := hw
      have hPX := gOther hPX hk1 (dj_sym (dj_G dj))
      have hPO := gOther hPO hk1 (dj_1 djM)
      generalize H1 = H at hPX hPM hPO hS ⊢
      have dp_231 : Deep τz_226 := (Deep.fr hDp (fc_230.1 2 (by decide) (by decide)) (fc_230.1 4 (by decide) (by decide)) (fc_230.1 9 (by decide) (by decide)) (fc_230.1 11 (by decide) (by decide)) (fc_230.1 12 (by decide) (by decide)) (fc_230.1 17 (by decide) (by decide)) (fc_230.1 18 (by decide) (by decide)) (fc_230.2 20 (by decide)) (fc_230.2 21 (by decide)) (fc_230.2 28 (by decide)) (fc_230.2 64 (by decide)) (fc_230.2 65 (by decide)) (fc_230.2 68 (by decide)))
      refine lv_pop hx hb dL_law_737 rfl ?_
      refine lv_goto (tgt := 1850) hx hb dL_law_738 (by decide) ?_
      obtain ⟨x_232, ex_232⟩ : ∃ zz : Int32, zz = (nI (6 * j)) + 6 := ⟨_, rfl⟩
      refine lv_iinc (v := x_232) (lv' := [(4, .int x_232), (3, .ref lo), (2, .ref (am 0)), (1, .ref (ad 0)), (0, .ref b)]) hx hb dL_law_1850 hl (k := 0) rfl (by rw [ex_232]; rfl) (by decide) rfl (fun ls hl => ?_)
      refine lv_goto (tgt := 23) hx hb dL_law_1853 (by decide) ?_
      have hl := lv_sub hl [0, 1, 2, 3, 4] rfl
      rw [ex_232, nI_6] at hl
      exact ih (j + 1) σz_220 τz_226 f _ _ _ _ _ _ (by omega) (by omega) hI_223 hI_229 dp_231 (by omega) (by omega) hd0 hPX hDX hPM hDM hPO hDO hS hl
    by_cases c_233 : ((xs (nI (6 * j)).toNatClampNeg) &&& 63) = 13
    · refine lv_tableIn (tgt := 741) hx hb dL_law_40 (by rw [c_233]; decide) (by rw [c_233]; decide) (by rw [c_233]; rfl) (by decide) ?_
      refine lv_aload_n hx hb dL_law_741 rfl (lv_at hl 3 rfl) ?_
      refine lv_aload_n hx hb dL_law_742 rfl (lv_at hl 4 rfl) ?_
      refine lv_iload hx hb dL_law_743 (lv_at hl 0 rfl) ?_
      refine lv_iconst (v := 1) hx hb dL_law_745 (by decide) ?_
      refine lv_iadd hx hb dL_law_746 ?_
      refine va_sld hx hb hX hbl hbA hS (lw_ix (k := 1) hL hin (by decide) (by decide)) dL_law_747 ?_
      refine lv_aload_n hx hb dL_law_748 rfl (lv_at hl 4 rfl) ?_
      refine lv_iload hx hb dL_law_749 (lv_at hl 0 rfl) ?_
      refine lv_iconst (v := 2) hx hb dL_law_751 (by decide) ?_
      refine lv_iadd hx hb dL_law_752 ?_
      refine va_sld hx hb hX hbl hbA hS (lw_ix (k := 2) hL hin (by decide) (by decide)) dL_law_753 ?_
      refine lv_aload_n hx hb dL_law_754 rfl (lv_at hl 4 rfl) ?_
      refine lv_iload hx hb dL_law_755 (lv_at hl 0 rfl) ?_
      refine lv_iconst (v := 3) hx hb dL_law_757 (by decide) ?_
      refine lv_iadd hx hb dL_law_758 ?_
      refine va_sld hx hb hX hbl hbA hS (lw_ix (k := 3) hL hin (by decide) (by decide)) dL_law_759 ?_
      refine lv_if_eq (tgt := 767) hx hb dL_law_760 (by decide) (fun c_234 => ?_) (fun c_234 => ?_)
      · refine lv_iconst (v := 0) hx hb dL_law_767 (by decide) ?_
        have hF := gFree hDX hS hA
        refine va_calllD hd0 (va_runV_D (As := [.int (xs ((nI (6 * j)) + 1).toNatClampNeg), .int (xs ((nI (6 * j)) + 2).toNatClampNeg), .int 0]) (rest := []) ⟨hx, hb, hml, hown, hts⟩ (n_X11_fraction l dC dI ad cA adK adV H.size σ hIX (xs ((nI (6 * j)) + 1).toNatClampNeg) (xs ((nI (6 * j)) + 2).toNatClampNeg) 0 ) (cwV 3 hts gL0_X11_fraction rfl rfl rfl (by decide +kernel) ⟨Nat.le_of_ble_eq_true rfl, Nat.le_of_ble_eq_true rfl⟩) ⟨gBlind, va_recv hKX hPX (ci := 10) (q0 := 0) rfl (at_10 rfl), gStart (As := [.ref (ad 0), .int (xs ((nI (6 * j)) + 1).toNatClampNeg), .int (xs ((nI (6 * j)) + 2).toNatClampNeg), .int 0]) hPX hDX hKX0 hT hS hF (d)⟩ rfl rfl hl.1 rfl (lv_room (Nat.le_of_ble_eq_true rfl)) dL_law_768 ⟨by omega, by omega⟩) hS (fun q _ h => hF q h) hF (fun r_235 σz_236 t H1 locs ht hvm hw hB hz1 hk1 hS d_237 hd0 => ?_)
        have hts := dr_words hts0 (d_237)
        have hKX := gKd hKX0 (d_237)
        have hKM := gKd hKM0 (d_237)
        have hown : (s.setDrawn (d_237)).vm.findClass RL = some m.cls := hown0
        have hX : va_X b L xs (s.setDrawn (d_237)) s.heap := hX0
        obtain ⟨hPX, hDX⟩ := gBack hF ht hB
        obtain ⟨hI_239, fc_240, hp_238⟩ := hw
        have hPM := gOther hPM hk1 (dj_G dj)
        have hPO := gOther hPO hk1 (dj_1 djX)
        generalize H1 = H at hPX hPM hPO hS ⊢
        refine lv_pop2_2 hx hb dL_law_771 rfl ?_
        refine lv_aload_n hx hb dL_law_772 rfl (lv_at hl 2 rfl) ?_
        refine lv_aload_n hx hb dL_law_773 rfl (lv_at hl 4 rfl) ?_
        refine lv_iload hx hb dL_law_774 (lv_at hl 0 rfl) ?_
        refine lv_iconst (v := 1) hx hb dL_law_776 (by decide) ?_
        refine lv_iadd hx hb dL_law_777 ?_
        refine va_sld hx hb hX hbl hbA hS (lw_ix (k := 1) hL hin (by decide) (by decide)) dL_law_778 ?_
        refine lv_aload_n hx hb dL_law_779 rfl (lv_at hl 4 rfl) ?_
        refine lv_iload hx hb dL_law_780 (lv_at hl 0 rfl) ?_
        refine lv_iconst (v := 2) hx hb dL_law_782 (by decide) ?_
        refine lv_iadd hx hb dL_law_783 ?_
        refine va_sld hx hb hX hbl hbA hS (lw_ix (k := 2) hL hin (by decide) (by decide)) dL_law_784 ?_
        refine lv_aload_n hx hb dL_law_785 rfl (lv_at hl 4 rfl) ?_
        refine lv_iload hx hb dL_law_786 (lv_at hl 0 rfl) ?_
        refine lv_iconst (v := 3) hx hb dL_law_788 (by decide) ?_
        refine lv_iadd hx hb dL_law_789 ?_
        refine va_sld hx hb hX hbl hbA hS (lw_ix (k := 3) hL hin (by decide) (by decide)) dL_law_790 ?_
        refine lv_if_eq (tgt := 798) hx hb dL_law_791 (by decide) (fun c_241 => ?_) (fun c_241 => ?_)
        · refine lv_iconst (v := 0) hx hb dL_law_798 (by decide) ?_
          have hF := gFree hDM hS hA
          refine va_calllD hd0 (va_runV_D (As := [.int (xs ((nI (6 * j)) + 1).toNatClampNeg), .int (xs ((nI (6 * j)) + 2).toNatClampNeg), .int 0]) (rest := []) ⟨hx, hb, hml, hown, hts⟩ (n_X12_fraction l dC dI am cM adK adV H.size τ hIM (xs ((nI (6 * j)) + 1).toNatClampNeg) (xs ((nI (6 * j)) + 2).toNatClampNeg) 0 hDp) (cwV 3 hts gL0_X12_fraction rfl rfl rfl (by decide +kernel) ⟨Nat.le_of_ble_eq_true rfl, Nat.le_of_ble_eq_true rfl⟩) ⟨gBlind, va_recv hKM hPM (ci := 11) (q0 := 0) rfl (mat_11 rfl), gStart (As := [.ref (am 0), .int (xs ((nI (6 * j)) + 1).toNatClampNeg), .int (xs ((nI (6 * j)) + 2).toNatClampNeg), .int 0]) hPM hDM hKM0 hT hS hF (d_237)⟩ rfl rfl hl.1 rfl (lv_room (Nat.le_of_ble_eq_true rfl)) dL_law_799 ⟨by omega, by omega⟩) hS (fun q _ h => hF q h) hF (fun r_242 τz_243 t H1 locs ht hvm hw hB hz1 hk1 hS d_244 hd0 => ?_)
          have hts := dr_words hts0 (d_244)
          have hKX := gKd hKX0 (d_244)
          have hKM := gKd hKM0 (d_244)
          have hown : (s.setDrawn (d_244)).vm.findClass RL = some m.cls := hown0
          have hX : va_X b L xs (s.setDrawn (d_244)) s.heap := hX0
          obtain ⟨hPM, hDM⟩ := gBack hF ht hB
          obtain ⟨hI_246, fc_247, hp_245⟩ := hw
          have hPX := gOther hPX hk1 (dj_sym (dj_G dj))
          have hPO := gOther hPO hk1 (dj_1 djM)
          generalize H1 = H at hPX hPM hPO hS ⊢
          have dp_248 : Deep τz_243 := (Deep.fr hDp (fc_247.1 2 (by decide) (by decide)) (fc_247.1 4 (by decide) (by decide)) (fc_247.1 9 (by decide) (by decide)) (fc_247.1 11 (by decide) (by decide)) (fc_247.1 12 (by decide) (by decide)) (fc_247.1 17 (by decide) (by decide)) (fc_247.1 18 (by decide) (by decide)) (fc_247.2 20 (by decide)) (fc_247.2 21 (by decide)) (fc_247.2 28 (by decide)) (fc_247.2 64 (by decide)) (fc_247.2 65 (by decide)) (fc_247.2 68 (by decide)))
          refine lv_pop2_2 hx hb dL_law_802 rfl ?_
          refine lv_goto (tgt := 1850) hx hb dL_law_803 (by decide) ?_
          obtain ⟨x_249, ex_249⟩ : ∃ zz : Int32, zz = (nI (6 * j)) + 6 := ⟨_, rfl⟩
          refine lv_iinc (v := x_249) (lv' := [(4, .int x_249), (3, .ref lo), (2, .ref (am 0)), (1, .ref (ad 0)), (0, .ref b)]) hx hb dL_law_1850 hl (k := 0) rfl (by rw [ex_249]; rfl) (by decide) rfl (fun ls hl => ?_)
          refine lv_goto (tgt := 23) hx hb dL_law_1853 (by decide) ?_
          have hl := lv_sub hl [0, 1, 2, 3, 4] rfl
          rw [ex_249, nI_6] at hl
          exact ih (j + 1) σz_236 τz_243 f _ _ _ _ _ _ (by omega) (by omega) hI_239 hI_246 dp_248 (by omega) (by omega) hd0 hPX hDX hPM hDM hPO hDO hS hl
        · exact absurd c_234 c_241
      · refine lv_iconst (v := 1) hx hb dL_law_763 (by decide) ?_
        refine lv_goto (tgt := 768) hx hb dL_law_764 (by decide) ?_
        have hF := gFree hDX hS hA
        refine va_calllD hd0 (va_runV_D (As := [.int (xs ((nI (6 * j)) + 1).toNatClampNeg), .int (xs ((nI (6 * j)) + 2).toNatClampNeg), .int 1]) (rest := []) ⟨hx, hb, hml, hown, hts⟩ (n_X11_fraction l dC dI ad cA adK adV H.size σ hIX (xs ((nI (6 * j)) + 1).toNatClampNeg) (xs ((nI (6 * j)) + 2).toNatClampNeg) 1 ) (cwV 3 hts gL0_X11_fraction rfl rfl rfl (by decide +kernel) ⟨Nat.le_of_ble_eq_true rfl, Nat.le_of_ble_eq_true rfl⟩) ⟨gBlind, va_recv hKX hPX (ci := 10) (q0 := 0) rfl (at_10 rfl), gStart (As := [.ref (ad 0), .int (xs ((nI (6 * j)) + 1).toNatClampNeg), .int (xs ((nI (6 * j)) + 2).toNatClampNeg), .int 1]) hPX hDX hKX0 hT hS hF (d)⟩ rfl rfl hl.1 rfl (lv_room (Nat.le_of_ble_eq_true rfl)) dL_law_768 ⟨by omega, by omega⟩) hS (fun q _ h => hF q h) hF (fun r_250 σz_251 t H1 locs ht hvm hw hB hz1 hk1 hS d_252 hd0 => ?_)
        have hts := dr_words hts0 (d_252)
        have hKX := gKd hKX0 (d_252)
        have hKM := gKd hKM0 (d_252)
        have hown : (s.setDrawn (d_252)).vm.findClass RL = some m.cls := hown0
        have hX : va_X b L xs (s.setDrawn (d_252)) s.heap := hX0
        obtain ⟨hPX, hDX⟩ := gBack hF ht hB
        obtain ⟨hI_254, fc_255, hp_253⟩ := hw
        have hPM := gOther hPM hk1 (dj_G dj)
        have hPO := gOther hPO hk1 (dj_1 djX)
        generalize H1 = H at hPX hPM hPO hS ⊢
        refine lv_pop2_2 hx hb dL_law_771 rfl ?_
        refine lv_aload_n hx hb dL_law_772 rfl (lv_at hl 2 rfl) ?_
        refine lv_aload_n hx hb dL_law_773 rfl (lv_at hl 4 rfl) ?_
        refine lv_iload hx hb dL_law_774 (lv_at hl 0 rfl) ?_
        refine lv_iconst (v := 1) hx hb dL_law_776 (by decide) ?_
        refine lv_iadd hx hb dL_law_777 ?_
        refine va_sld hx hb hX hbl hbA hS (lw_ix (k := 1) hL hin (by decide) (by decide)) dL_law_778 ?_
        refine lv_aload_n hx hb dL_law_779 rfl (lv_at hl 4 rfl) ?_
        refine lv_iload hx hb dL_law_780 (lv_at hl 0 rfl) ?_
        refine lv_iconst (v := 2) hx hb dL_law_782 (by decide) ?_
        refine lv_iadd hx hb dL_law_783 ?_
        refine va_sld hx hb hX hbl hbA hS (lw_ix (k := 2) hL hin (by decide) (by decide)) dL_law_784 ?_
        refine lv_aload_n hx hb dL_law_785 rfl (lv_at hl 4 rfl) ?_
        refine lv_iload hx hb dL_law_786 (lv_at hl 0 rfl) ?_
        refine lv_iconst (v := 3) hx hb dL_law_788 (by decide) ?_
        refine lv_iadd hx hb dL_law_789 ?_
        refine va_sld hx hb hX hbl hbA hS (lw_ix (k := 3) hL hin (by decide) (by decide)) dL_law_790 ?_
        refine lv_if_eq (tgt := 798) hx hb dL_law_791 (by decide) (fun c_256 => ?_) (fun c_256 => ?_)
        · exact absurd c_256 c_234
        · refine lv_iconst (v := 1) hx hb dL_law_794 (by decide) ?_
          refine lv_goto (tgt := 799) hx hb dL_law_795 (by decide) ?_
          have hF := gFree hDM hS hA
          refine va_calllD hd0 (va_runV_D (As := [.int (xs ((nI (6 * j)) + 1).toNatClampNeg), .int (xs ((nI (6 * j)) + 2).toNatClampNeg), .int 1]) (rest := []) ⟨hx, hb, hml, hown, hts⟩ (n_X12_fraction l dC dI am cM adK adV H.size τ hIM (xs ((nI (6 * j)) + 1).toNatClampNeg) (xs ((nI (6 * j)) + 2).toNatClampNeg) 1 hDp) (cwV 3 hts gL0_X12_fraction rfl rfl rfl (by decide +kernel) ⟨Nat.le_of_ble_eq_true rfl, Nat.le_of_ble_eq_true rfl⟩) ⟨gBlind, va_recv hKM hPM (ci := 11) (q0 := 0) rfl (mat_11 rfl), gStart (As := [.ref (am 0), .int (xs ((nI (6 * j)) + 1).toNatClampNeg), .int (xs ((nI (6 * j)) + 2).toNatClampNeg), .int 1]) hPM hDM hKM0 hT hS hF (d_252)⟩ rfl rfl hl.1 rfl (lv_room (Nat.le_of_ble_eq_true rfl)) dL_law_799 ⟨by omega, by omega⟩) hS (fun q _ h => hF q h) hF (fun r_257 τz_258 t H1 locs ht hvm hw hB hz1 hk1 hS d_259 hd0 => ?_)
          have hts := dr_words hts0 (d_259)
          have hKX := gKd hKX0 (d_259)
          have hKM := gKd hKM0 (d_259)
          have hown : (s.setDrawn (d_259)).vm.findClass RL = some m.cls := hown0
          have hX : va_X b L xs (s.setDrawn (d_259)) s.heap := hX0
          obtain ⟨hPM, hDM⟩ := gBack hF ht hB
          obtain ⟨hI_261, fc_262, hp_260⟩ := hw
          have hPX := gOther hPX hk1 (dj_sym (dj_G dj))
          have hPO := gOther hPO hk1 (dj_1 djM)
          generalize H1 = H at hPX hPM hPO hS ⊢
          have dp_263 : Deep τz_258 := (Deep.fr hDp (fc_262.1 2 (by decide) (by decide)) (fc_262.1 4 (by decide) (by decide)) (fc_262.1 9 (by decide) (by decide)) (fc_262.1 11 (by decide) (by decide)) (fc_262.1 12 (by decide) (by decide)) (fc_262.1 17 (by decide) (by decide)) (fc_262.1 18 (by decide) (by decide)) (fc_262.2 20 (by decide)) (fc_262.2 21 (by decide)) (fc_262.2 28 (by decide)) (fc_262.2 64 (by decide)) (fc_262.2 65 (by decide)) (fc_262.2 68 (by decide)))
          refine lv_pop2_2 hx hb dL_law_802 rfl ?_
          refine lv_goto (tgt := 1850) hx hb dL_law_803 (by decide) ?_
          obtain ⟨x_264, ex_264⟩ : ∃ zz : Int32, zz = (nI (6 * j)) + 6 := ⟨_, rfl⟩
          refine lv_iinc (v := x_264) (lv' := [(4, .int x_264), (3, .ref lo), (2, .ref (am 0)), (1, .ref (ad 0)), (0, .ref b)]) hx hb dL_law_1850 hl (k := 0) rfl (by rw [ex_264]; rfl) (by decide) rfl (fun ls hl => ?_)
          refine lv_goto (tgt := 23) hx hb dL_law_1853 (by decide) ?_
          have hl := lv_sub hl [0, 1, 2, 3, 4] rfl
          rw [ex_264, nI_6] at hl
          exact ih (j + 1) σz_251 τz_258 f _ _ _ _ _ _ (by omega) (by omega) hI_254 hI_261 dp_263 (by omega) (by omega) hd0 hPX hDX hPM hDM hPO hDO hS hl
    by_cases c_265 : ((xs (nI (6 * j)).toNatClampNeg) &&& 63) = 14
    · refine lv_tableIn (tgt := 806) hx hb dL_law_40 (by rw [c_265]; decide) (by rw [c_265]; decide) (by rw [c_265]; rfl) (by decide) ?_
      refine lv_aload_n hx hb dL_law_806 rfl (lv_at hl 3 rfl) ?_
      refine lv_aload_n hx hb dL_law_807 rfl (lv_at hl 4 rfl) ?_
      refine lv_iload hx hb dL_law_808 (lv_at hl 0 rfl) ?_
      refine lv_iconst (v := 1) hx hb dL_law_810 (by decide) ?_
      refine lv_iadd hx hb dL_law_811 ?_
      refine va_sld hx hb hX hbl hbA hS (lw_ix (k := 1) hL hin (by decide) (by decide)) dL_law_812 ?_
      refine lv_aload_n hx hb dL_law_813 rfl (lv_at hl 4 rfl) ?_
      refine lv_iload hx hb dL_law_814 (lv_at hl 0 rfl) ?_
      refine lv_iconst (v := 2) hx hb dL_law_816 (by decide) ?_
      refine lv_iadd hx hb dL_law_817 ?_
      refine va_sld hx hb hX hbl hbA hS (lw_ix (k := 2) hL hin (by decide) (by decide)) dL_law_818 ?_
      refine lv_aload_n hx hb dL_law_819 rfl (lv_at hl 4 rfl) ?_
      refine lv_iload hx hb dL_law_820 (lv_at hl 0 rfl) ?_
      refine lv_iconst (v := 3) hx hb dL_law_822 (by decide) ?_
      refine lv_iadd hx hb dL_law_823 ?_
      refine va_sld hx hb hX hbl hbA hS (lw_ix (k := 3) hL hin (by decide) (by decide)) dL_law_824 ?_
      refine lv_if_eq (tgt := 832) hx hb dL_law_825 (by decide) (fun c_266 => ?_) (fun c_266 => ?_)
      · refine lv_iconst (v := 0) hx hb dL_law_832 (by decide) ?_
        have hF := gFree hDX hS hA
        refine va_calllD hd0 (va_runV_D (As := [.int (xs ((nI (6 * j)) + 1).toNatClampNeg), .int (xs ((nI (6 * j)) + 2).toNatClampNeg), .int 0]) (rest := []) ⟨hx, hb, hml, hown, hts⟩ (n_X11_coupon l dC dI ad cA adK adV H.size σ hIX (xs ((nI (6 * j)) + 1).toNatClampNeg) (xs ((nI (6 * j)) + 2).toNatClampNeg) 0 ) (cwV 3 hts gL0_X11_coupon rfl rfl rfl (by decide +kernel) ⟨Nat.le_of_ble_eq_true rfl, Nat.le_of_ble_eq_true rfl⟩) ⟨gBlind, va_recv hKX hPX (ci := 10) (q0 := 0) rfl (at_10 rfl), gStart (As := [.ref (ad 0), .int (xs ((nI (6 * j)) + 1).toNatClampNeg), .int (xs ((nI (6 * j)) + 2).toNatClampNeg), .int 0]) hPX hDX hKX0 hT hS hF (d)⟩ rfl rfl hl.1 rfl (lv_room (Nat.le_of_ble_eq_true rfl)) dL_law_833 ⟨by omega, by omega⟩) hS (fun q _ h => hF q h) hF (fun r_267 σz_268 t H1 locs ht hvm hw hB hz1 hk1 hS d_269 hd0 => ?_)
        have hts := dr_words hts0 (d_269)
        have hKX := gKd hKX0 (d_269)
        have hKM := gKd hKM0 (d_269)
        have hown : (s.setDrawn (d_269)).vm.findClass RL = some m.cls := hown0
        have hX : va_X b L xs (s.setDrawn (d_269)) s.heap := hX0
        obtain ⟨hPX, hDX⟩ := gBack hF ht hB
        obtain ⟨hI_271, fc_272, hp_270⟩ := hw
        have hPM := gOther hPM hk1 (dj_G dj)
        have hPO := gOther hPO hk1 (dj_1 djX)
        generalize H1 = H at hPX hPM hPO hS ⊢
        refine lv_pop2_2 hx hb dL_law_836 rfl ?_
        refine lv_aload_n hx hb dL_law_837 rfl (lv_at hl 2 rfl) ?_
        refine lv_aload_n hx hb dL_law_838 rfl (lv_at hl 4 rfl) ?_
        refine lv_iload hx hb dL_law_839 (lv_at hl 0 rfl) ?_
        refine lv_iconst (v := 1) hx hb dL_law_841 (by decide) ?_
        refine lv_iadd hx hb dL_law_842 ?_
        refine va_sld hx hb hX hbl hbA hS (lw_ix (k := 1) hL hin (by decide) (by decide)) dL_law_843 ?_
        refine lv_aload_n hx hb dL_law_844 rfl (lv_at hl 4 rfl) ?_
        refine lv_iload hx hb dL_law_845 (lv_at hl 0 rfl) ?_
        refine lv_iconst (v := 2) hx hb dL_law_847 (by decide) ?_
        refine lv_iadd hx hb dL_law_848 ?_
        refine va_sld hx hb hX hbl hbA hS (lw_ix (k := 2) hL hin (by decide) (by decide)) dL_law_849 ?_
        refine lv_aload_n hx hb dL_law_850 rfl (lv_at hl 4 rfl) ?_
        refine lv_iload hx hb dL_law_851 (lv_at hl 0 rfl) ?_
        refine lv_iconst (v := 3) hx hb dL_law_853 (by decide) ?_
        refine lv_iadd hx hb dL_law_854 ?_
        refine va_sld hx hb hX hbl hbA hS (lw_ix (k := 3) hL hin (by decide) (by decide)) dL_law_855 ?_
        refine lv_if_eq (tgt := 863) hx hb dL_law_856 (by decide) (fun c_273 => ?_) (fun c_273 => ?_)
        · refine lv_iconst (v := 0) hx hb dL_law_863 (by decide) ?_
          have hF := gFree hDM hS hA
          refine va_calllD hd0 (va_runV_D (As := [.int (xs ((nI (6 * j)) + 1).toNatClampNeg), .int (xs ((nI (6 * j)) + 2).toNatClampNeg), .int 0]) (rest := []) ⟨hx, hb, hml, hown, hts⟩ (n_X12_coupon l dC dI am cM adK adV H.size τ hIM (xs ((nI (6 * j)) + 1).toNatClampNeg) (xs ((nI (6 * j)) + 2).toNatClampNeg) 0 hDp) (cwV 3 hts gL0_X12_coupon rfl rfl rfl (by decide +kernel) ⟨Nat.le_of_ble_eq_true rfl, Nat.le_of_ble_eq_true rfl⟩) ⟨gBlind, va_recv hKM hPM (ci := 11) (q0 := 0) rfl (mat_11 rfl), gStart (As := [.ref (am 0), .int (xs ((nI (6 * j)) + 1).toNatClampNeg), .int (xs ((nI (6 * j)) + 2).toNatClampNeg), .int 0]) hPM hDM hKM0 hT hS hF (d_269)⟩ rfl rfl hl.1 rfl (lv_room (Nat.le_of_ble_eq_true rfl)) dL_law_864 ⟨by omega, by omega⟩) hS (fun q _ h => hF q h) hF (fun r_274 τz_275 t H1 locs ht hvm hw hB hz1 hk1 hS d_276 hd0 => ?_)
          have hts := dr_words hts0 (d_276)
          have hKX := gKd hKX0 (d_276)
          have hKM := gKd hKM0 (d_276)
          have hown : (s.setDrawn (d_276)).vm.findClass RL = some m.cls := hown0
          have hX : va_X b L xs (s.setDrawn (d_276)) s.heap := hX0
          obtain ⟨hPM, hDM⟩ := gBack hF ht hB
          obtain ⟨hI_278, fc_279, hp_277⟩ := hw
          have hPX := gOther hPX hk1 (dj_sym (dj_G dj))
          have hPO := gOther hPO hk1 (dj_1 djM)
          generalize H1 = H at hPX hPM hPO hS ⊢
          have dp_280 : Deep τz_275 := (Deep.fr hDp (fc_279.1 2 (by decide) (by decide)) (fc_279.1 4 (by decide) (by decide)) (fc_279.1 9 (by decide) (by decide)) (fc_279.1 11 (by decide) (by decide)) (fc_279.1 12 (by decide) (by decide)) (fc_279.1 17 (by decide) (by decide)) (fc_279.1 18 (by decide) (by decide)) (fc_279.2 20 (by decide)) (fc_279.2 21 (by decide)) (fc_279.2 28 (by decide)) (fc_279.2 64 (by decide)) (fc_279.2 65 (by decide)) (fc_279.2 68 (by decide)))
          refine lv_pop2_2 hx hb dL_law_867 rfl ?_
          refine lv_goto (tgt := 1850) hx hb dL_law_868 (by decide) ?_
          obtain ⟨x_281, ex_281⟩ : ∃ zz : Int32, zz = (nI (6 * j)) + 6 := ⟨_, rfl⟩
          refine lv_iinc (v := x_281) (lv' := [(4, .int x_281), (3, .ref lo), (2, .ref (am 0)), (1, .ref (ad 0)), (0, .ref b)]) hx hb dL_law_1850 hl (k := 0) rfl (by rw [ex_281]; rfl) (by decide) rfl (fun ls hl => ?_)
          refine lv_goto (tgt := 23) hx hb dL_law_1853 (by decide) ?_
          have hl := lv_sub hl [0, 1, 2, 3, 4] rfl
          rw [ex_281, nI_6] at hl
          exact ih (j + 1) σz_268 τz_275 f _ _ _ _ _ _ (by omega) (by omega) hI_271 hI_278 dp_280 (by omega) (by omega) hd0 hPX hDX hPM hDM hPO hDO hS hl
        · exact absurd c_266 c_273
      · refine lv_iconst (v := 1) hx hb dL_law_828 (by decide) ?_
        refine lv_goto (tgt := 833) hx hb dL_law_829 (by decide) ?_
        have hF := gFree hDX hS hA
        refine va_calllD hd0 (va_runV_D (As := [.int (xs ((nI (6 * j)) + 1).toNatClampNeg), .int (xs ((nI (6 * j)) + 2).toNatClampNeg), .int 1]) (rest := []) ⟨hx, hb, hml, hown, hts⟩ (n_X11_coupon l dC dI ad cA adK adV H.size σ hIX (xs ((nI (6 * j)) + 1).toNatClampNeg) (xs ((nI (6 * j)) + 2).toNatClampNeg) 1 ) (cwV 3 hts gL0_X11_coupon rfl rfl rfl (by decide +kernel) ⟨Nat.le_of_ble_eq_true rfl, Nat.le_of_ble_eq_true rfl⟩) ⟨gBlind, va_recv hKX hPX (ci := 10) (q0 := 0) rfl (at_10 rfl), gStart (As := [.ref (ad 0), .int (xs ((nI (6 * j)) + 1).toNatClampNeg), .int (xs ((nI (6 * j)) + 2).toNatClampNeg), .int 1]) hPX hDX hKX0 hT hS hF (d)⟩ rfl rfl hl.1 rfl (lv_room (Nat.le_of_ble_eq_true rfl)) dL_law_833 ⟨by omega, by omega⟩) hS (fun q _ h => hF q h) hF (fun r_282 σz_283 t H1 locs ht hvm hw hB hz1 hk1 hS d_284 hd0 => ?_)
        have hts := dr_words hts0 (d_284)
        have hKX := gKd hKX0 (d_284)
        have hKM := gKd hKM0 (d_284)
        have hown : (s.setDrawn (d_284)).vm.findClass RL = some m.cls := hown0
        have hX : va_X b L xs (s.setDrawn (d_284)) s.heap := hX0
        obtain ⟨hPX, hDX⟩ := gBack hF ht hB
        obtain ⟨hI_286, fc_287, hp_285⟩ := hw
        have hPM := gOther hPM hk1 (dj_G dj)
        have hPO := gOther hPO hk1 (dj_1 djX)
        generalize H1 = H at hPX hPM hPO hS ⊢
        refine lv_pop2_2 hx hb dL_law_836 rfl ?_
        refine lv_aload_n hx hb dL_law_837 rfl (lv_at hl 2 rfl) ?_
        refine lv_aload_n hx hb dL_law_838 rfl (lv_at hl 4 rfl) ?_
        refine lv_iload hx hb dL_law_839 (lv_at hl 0 rfl) ?_
        refine lv_iconst (v := 1) hx hb dL_law_841 (by decide) ?_
        refine lv_iadd hx hb dL_law_842 ?_
        refine va_sld hx hb hX hbl hbA hS (lw_ix (k := 1) hL hin (by decide) (by decide)) dL_law_843 ?_
        refine lv_aload_n hx hb dL_law_844 rfl (lv_at hl 4 rfl) ?_
        refine lv_iload hx hb dL_law_845 (lv_at hl 0 rfl) ?_
        refine lv_iconst (v := 2) hx hb dL_law_847 (by decide) ?_
        refine lv_iadd hx hb dL_law_848 ?_
        refine va_sld hx hb hX hbl hbA hS (lw_ix (k := 2) hL hin (by decide) (by decide)) dL_law_849 ?_
        refine lv_aload_n hx hb dL_law_850 rfl (lv_at hl 4 rfl) ?_
        refine lv_iload hx hb dL_law_851 (lv_at hl 0 rfl) ?_
        refine lv_iconst (v := 3) hx hb dL_law_853 (by decide) ?_
        refine lv_iadd hx hb dL_law_854 ?_
        refine va_sld hx hb hX hbl hbA hS (lw_ix (k := 3) hL hin (by decide) (by decide)) dL_law_855 ?_
        refine lv_if_eq (tgt := 863) hx hb dL_law_856 (by decide) (fun c_288 => ?_) (fun c_288 => ?_)
        · exact absurd c_288 c_266
        · refine lv_iconst (v := 1) hx hb dL_law_859 (by decide) ?_
          refine lv_goto (tgt := 864) hx hb dL_law_860 (by decide) ?_
          have hF := gFree hDM hS hA
          refine va_calllD hd0 (va_runV_D (As := [.int (xs ((nI (6 * j)) + 1).toNatClampNeg), .int (xs ((nI (6 * j)) + 2).toNatClampNeg), .int 1]) (rest := []) ⟨hx, hb, hml, hown, hts⟩ (n_X12_coupon l dC dI am cM adK adV H.size τ hIM (xs ((nI (6 * j)) + 1).toNatClampNeg) (xs ((nI (6 * j)) + 2).toNatClampNeg) 1 hDp) (cwV 3 hts gL0_X12_coupon rfl rfl rfl (by decide +kernel) ⟨Nat.le_of_ble_eq_true rfl, Nat.le_of_ble_eq_true rfl⟩) ⟨gBlind, va_recv hKM hPM (ci := 11) (q0 := 0) rfl (mat_11 rfl), gStart (As := [.ref (am 0), .int (xs ((nI (6 * j)) + 1).toNatClampNeg), .int (xs ((nI (6 * j)) + 2).toNatClampNeg), .int 1]) hPM hDM hKM0 hT hS hF (d_284)⟩ rfl rfl hl.1 rfl (lv_room (Nat.le_of_ble_eq_true rfl)) dL_law_864 ⟨by omega, by omega⟩) hS (fun q _ h => hF q h) hF (fun r_289 τz_290 t H1 locs ht hvm hw hB hz1 hk1 hS d_291 hd0 => ?_)
          have hts := dr_words hts0 (d_291)
          have hKX := gKd hKX0 (d_291)
          have hKM := gKd hKM0 (d_291)
          have hown : (s.setDrawn (d_291)).vm.findClass RL = some m.cls := hown0
          have hX : va_X b L xs (s.setDrawn (d_291)) s.heap := hX0
          obtain ⟨hPM, hDM⟩ := gBack hF ht hB
          obtain ⟨hI_293, fc_294, hp_292⟩ := hw
          have hPX := gOther hPX hk1 (dj_sym (dj_G dj))
          have hPO := gOther hPO hk1 (dj_1 djM)
          generalize H1 = H at hPX hPM hPO hS ⊢
          have dp_295 : Deep τz_290 := (Deep.fr hDp (fc_294.1 2 (by decide) (by decide)) (fc_294.1 4 (by decide) (by decide)) (fc_294.1 9 (by decide) (by decide)) (fc_294.1 11 (by decide) (by decide)) (fc_294.1 12 (by decide) (by decide)) (fc_294.1 17 (by decide) (by decide)) (fc_294.1 18 (by decide) (by decide)) (fc_294.2 20 (by decide)) (fc_294.2 21 (by decide)) (fc_294.2 28 (by decide)) (fc_294.2 64 (by decide)) (fc_294.2 65 (by decide)) (fc_294.2 68 (by decide)))
          refine lv_pop2_2 hx hb dL_law_867 rfl ?_
          refine lv_goto (tgt := 1850) hx hb dL_law_868 (by decide) ?_
          obtain ⟨x_296, ex_296⟩ : ∃ zz : Int32, zz = (nI (6 * j)) + 6 := ⟨_, rfl⟩
          refine lv_iinc (v := x_296) (lv' := [(4, .int x_296), (3, .ref lo), (2, .ref (am 0)), (1, .ref (ad 0)), (0, .ref b)]) hx hb dL_law_1850 hl (k := 0) rfl (by rw [ex_296]; rfl) (by decide) rfl (fun ls hl => ?_)
          refine lv_goto (tgt := 23) hx hb dL_law_1853 (by decide) ?_
          have hl := lv_sub hl [0, 1, 2, 3, 4] rfl
          rw [ex_296, nI_6] at hl
          exact ih (j + 1) σz_283 τz_290 f _ _ _ _ _ _ (by omega) (by omega) hI_286 hI_293 dp_295 (by omega) (by omega) hd0 hPX hDX hPM hDM hPO hDO hS hl
    by_cases c_297 : ((xs (nI (6 * j)).toNatClampNeg) &&& 63) = 15
    · refine lv_tableIn (tgt := 871) hx hb dL_law_40 (by rw [c_297]; decide) (by rw [c_297]; decide) (by rw [c_297]; rfl) (by decide) ?_
      refine lv_aload_n hx hb dL_law_871 rfl (lv_at hl 3 rfl) ?_
      refine lv_aload_n hx hb dL_law_872 rfl (lv_at hl 4 rfl) ?_
      refine lv_iload hx hb dL_law_873 (lv_at hl 0 rfl) ?_
      refine lv_iconst (v := 1) hx hb dL_law_875 (by decide) ?_
      refine lv_iadd hx hb dL_law_876 ?_
      refine va_sld hx hb hX hbl hbA hS (lw_ix (k := 1) hL hin (by decide) (by decide)) dL_law_877 ?_
      refine lv_aload_n hx hb dL_law_878 rfl (lv_at hl 4 rfl) ?_
      refine lv_iload hx hb dL_law_879 (lv_at hl 0 rfl) ?_
      refine lv_iconst (v := 2) hx hb dL_law_881 (by decide) ?_
      refine lv_iadd hx hb dL_law_882 ?_
      refine va_sld hx hb hX hbl hbA hS (lw_ix (k := 2) hL hin (by decide) (by decide)) dL_law_883 ?_
      have hF := gFree hDX hS hA
      refine va_calliD hd0 (va_runV_D (As := [.int (xs ((nI (6 * j)) + 1).toNatClampNeg), .int (xs ((nI (6 * j)) + 2).toNatClampNeg)]) (rest := []) ⟨hx, hb, hml, hown, hts⟩ (n_X11_line l dC dI ad cA adK adV H.size σ hIX (xs ((nI (6 * j)) + 1).toNatClampNeg) (xs ((nI (6 * j)) + 2).toNatClampNeg) ) (cwV 2 hts gL0_X11_line rfl rfl rfl (by decide +kernel) ⟨Nat.le_of_ble_eq_true rfl, Nat.le_of_ble_eq_true rfl⟩) ⟨gBlind, va_recv hKX hPX (ci := 10) (q0 := 0) rfl (at_10 rfl), gStart (As := [.ref (ad 0), .int (xs ((nI (6 * j)) + 1).toNatClampNeg), .int (xs ((nI (6 * j)) + 2).toNatClampNeg)]) hPX hDX hKX0 hT hS hF (d)⟩ rfl rfl hl.1 rfl (lv_room (Nat.le_of_ble_eq_true rfl)) dL_law_884 ⟨by omega, by omega⟩) hS (fun q _ h => hF q h) hF (fun r_298 σz_299 t H1 locs ht hvm hw hB hz1 hk1 hS d_300 hd0 => ?_)
      have hts := dr_words hts0 (d_300)
      have hKX := gKd hKX0 (d_300)
      have hKM := gKd hKM0 (d_300)
      have hown : (s.setDrawn (d_300)).vm.findClass RL = some m.cls := hown0
      have hX : va_X b L xs (s.setDrawn (d_300)) s.heap := hX0
      obtain ⟨hPX, hDX⟩ := gBack hF ht hB
      obtain ⟨hI_302, fc_303, hp_301⟩ := hw
      have hPM := gOther hPM hk1 (dj_G dj)
      have hPO := gOther hPO hk1 (dj_1 djX)
      generalize H1 = H at hPX hPM hPO hS ⊢
      refine lv_pop hx hb dL_law_887 rfl ?_
      refine lv_aload_n hx hb dL_law_888 rfl (lv_at hl 2 rfl) ?_
      refine lv_aload_n hx hb dL_law_889 rfl (lv_at hl 4 rfl) ?_
      refine lv_iload hx hb dL_law_890 (lv_at hl 0 rfl) ?_
      refine lv_iconst (v := 1) hx hb dL_law_892 (by decide) ?_
      refine lv_iadd hx hb dL_law_893 ?_
      refine va_sld hx hb hX hbl hbA hS (lw_ix (k := 1) hL hin (by decide) (by decide)) dL_law_894 ?_
      refine lv_aload_n hx hb dL_law_895 rfl (lv_at hl 4 rfl) ?_
      refine lv_iload hx hb dL_law_896 (lv_at hl 0 rfl) ?_
      refine lv_iconst (v := 2) hx hb dL_law_898 (by decide) ?_
      refine lv_iadd hx hb dL_law_899 ?_
      refine va_sld hx hb hX hbl hbA hS (lw_ix (k := 2) hL hin (by decide) (by decide)) dL_law_900 ?_
      have hF := gFree hDM hS hA
      refine va_calliD hd0 (va_runV_D (As := [.int (xs ((nI (6 * j)) + 1).toNatClampNeg), .int (xs ((nI (6 * j)) + 2).toNatClampNeg)]) (rest := []) ⟨hx, hb, hml, hown, hts⟩ (n_X12_line l dC dI am cM adK adV H.size τ hIM (xs ((nI (6 * j)) + 1).toNatClampNeg) (xs ((nI (6 * j)) + 2).toNatClampNeg) hDp) (cwV 2 hts gL0_X12_line rfl rfl rfl (by decide +kernel) ⟨Nat.le_of_ble_eq_true rfl, Nat.le_of_ble_eq_true rfl⟩) ⟨gBlind, va_recv hKM hPM (ci := 11) (q0 := 0) rfl (mat_11 rfl), gStart (As := [.ref (am 0), .int (xs ((nI (6 * j)) + 1).toNatClampNeg), .int (xs ((nI (6 * j)) + 2).toNatClampNeg)]) hPM hDM hKM0 hT hS hF (d_300)⟩ rfl rfl hl.1 rfl (lv_room (Nat.le_of_ble_eq_true rfl)) dL_law_901 ⟨by omega, by omega⟩) hS (fun q _ h => hF q h) hF (fun r_304 τz_305 t H1 locs ht hvm hw hB hz1 hk1 hS d_306 hd0 => ?_)
      have hts := dr_words hts0 (d_306)
      have hKX := gKd hKX0 (d_306)
      have hKM := gKd hKM0 (d_306)
      have hown : (s.setDrawn (d_306)).vm.findClass RL = some m.cls := hown0
      have hX : va_X b L xs (s.setDrawn (d_306)) s.heap := hX0
      obtain ⟨hPM, hDM⟩ := gBack hF ht hB
      obtain ⟨hI_308, fc_309, hp_307⟩ := hw
      have hPX := gOther hPX hk1 (dj_sym (dj_G dj))
      have hPO := gOther hPO hk1 (dj_1 djM)
      generalize H1 = H at hPX hPM hPO hS ⊢
      have dp_310 : Deep τz_305 := (Deep.fr hDp (fc_309.1 2 (by decide) (by decide)) (fc_309.1 4 (by decide) (by decide)) (fc_309.1 9 (by decide) (by decide)) (fc_309.1 11 (by decide) (by decide)) (fc_309.1 12 (by decide) (by decide)) (fc_309.1 17 (by decide) (by decide)) (fc_309.1 18 (by decide) (by decide)) (fc_309.2 20 (by decide)) (fc_309.2 21 (by decide)) (fc_309.2 28 (by decide)) (fc_309.2 64 (by decide)) (fc_309.2 65 (by decide)) (fc_309.2 68 (by decide)))
      refine lv_pop hx hb dL_law_904 rfl ?_
      refine lv_goto (tgt := 1850) hx hb dL_law_905 (by decide) ?_
      obtain ⟨x_311, ex_311⟩ : ∃ zz : Int32, zz = (nI (6 * j)) + 6 := ⟨_, rfl⟩
      refine lv_iinc (v := x_311) (lv' := [(4, .int x_311), (3, .ref lo), (2, .ref (am 0)), (1, .ref (ad 0)), (0, .ref b)]) hx hb dL_law_1850 hl (k := 0) rfl (by rw [ex_311]; rfl) (by decide) rfl (fun ls hl => ?_)
      refine lv_goto (tgt := 23) hx hb dL_law_1853 (by decide) ?_
      have hl := lv_sub hl [0, 1, 2, 3, 4] rfl
      rw [ex_311, nI_6] at hl
      exact ih (j + 1) σz_299 τz_305 f _ _ _ _ _ _ (by omega) (by omega) hI_302 hI_308 dp_310 (by omega) (by omega) hd0 hPX hDX hPM hDM hPO hDO hS hl
    by_cases c_312 : ((xs (nI (6 * j)).toNatClampNeg) &&& 63) = 16
    · refine lv_tableIn (tgt := 908) hx hb dL_law_40 (by rw [c_312]; decide) (by rw [c_312]; decide) (by rw [c_312]; rfl) (by decide) ?_
      refine lv_aload_n hx hb dL_law_908 rfl (lv_at hl 3 rfl) ?_
      refine lv_aload_n hx hb dL_law_909 rfl (lv_at hl 4 rfl) ?_
      refine lv_iload hx hb dL_law_910 (lv_at hl 0 rfl) ?_
      refine lv_iconst (v := 1) hx hb dL_law_912 (by decide) ?_
      refine lv_iadd hx hb dL_law_913 ?_
      refine va_sld hx hb hX hbl hbA hS (lw_ix (k := 1) hL hin (by decide) (by decide)) dL_law_914 ?_
      refine lv_aload_n hx hb dL_law_915 rfl (lv_at hl 4 rfl) ?_
      refine lv_iload hx hb dL_law_916 (lv_at hl 0 rfl) ?_
      refine lv_iconst (v := 2) hx hb dL_law_918 (by decide) ?_
      refine lv_iadd hx hb dL_law_919 ?_
      refine va_sld hx hb hX hbl hbA hS (lw_ix (k := 2) hL hin (by decide) (by decide)) dL_law_920 ?_
      refine lv_aload_n hx hb dL_law_921 rfl (lv_at hl 4 rfl) ?_
      refine lv_iload hx hb dL_law_922 (lv_at hl 0 rfl) ?_
      refine lv_iconst (v := 3) hx hb dL_law_924 (by decide) ?_
      refine lv_iadd hx hb dL_law_925 ?_
      refine va_sld hx hb hX hbl hbA hS (lw_ix (k := 3) hL hin (by decide) (by decide)) dL_law_926 ?_
      have hF := gFree hDX hS hA
      refine va_calliD hd0 (va_runV_D (As := [.int (xs ((nI (6 * j)) + 1).toNatClampNeg), .int (xs ((nI (6 * j)) + 2).toNatClampNeg), .int (xs ((nI (6 * j)) + 3).toNatClampNeg)]) (rest := []) ⟨hx, hb, hml, hown, hts⟩ (n_X11_sign l dC dI ad cA adK adV H.size σ hIX (xs ((nI (6 * j)) + 1).toNatClampNeg) (xs ((nI (6 * j)) + 2).toNatClampNeg) (xs ((nI (6 * j)) + 3).toNatClampNeg) ) (cwV 3 hts gL0_X11_sign rfl rfl rfl (by decide +kernel) ⟨Nat.le_of_ble_eq_true rfl, Nat.le_of_ble_eq_true rfl⟩) ⟨gBlind, va_recv hKX hPX (ci := 10) (q0 := 0) rfl (at_10 rfl), gStart (As := [.ref (ad 0), .int (xs ((nI (6 * j)) + 1).toNatClampNeg), .int (xs ((nI (6 * j)) + 2).toNatClampNeg), .int (xs ((nI (6 * j)) + 3).toNatClampNeg)]) hPX hDX hKX0 hT hS hF (d)⟩ rfl rfl hl.1 rfl (lv_room (Nat.le_of_ble_eq_true rfl)) dL_law_927 ⟨by omega, by omega⟩) hS (fun q _ h => hF q h) hF (fun r_313 σz_314 t H1 locs ht hvm hw hB hz1 hk1 hS d_315 hd0 => ?_)
      have hts := dr_words hts0 (d_315)
      have hKX := gKd hKX0 (d_315)
      have hKM := gKd hKM0 (d_315)
      have hown : (s.setDrawn (d_315)).vm.findClass RL = some m.cls := hown0
      have hX : va_X b L xs (s.setDrawn (d_315)) s.heap := hX0
      obtain ⟨hPX, hDX⟩ := gBack hF ht hB
      obtain ⟨hI_317, fc_318, hp_316⟩ := hw
      have hPM := gOther hPM hk1 (dj_G dj)
      have hPO := gOther hPO hk1 (dj_1 djX)
      generalize H1 = H at hPX hPM hPO hS ⊢
      refine lv_pop hx hb dL_law_930 rfl ?_
      refine lv_aload_n hx hb dL_law_931 rfl (lv_at hl 2 rfl) ?_
      refine lv_aload_n hx hb dL_law_932 rfl (lv_at hl 4 rfl) ?_
      refine lv_iload hx hb dL_law_933 (lv_at hl 0 rfl) ?_
      refine lv_iconst (v := 1) hx hb dL_law_935 (by decide) ?_
      refine lv_iadd hx hb dL_law_936 ?_
      refine va_sld hx hb hX hbl hbA hS (lw_ix (k := 1) hL hin (by decide) (by decide)) dL_law_937 ?_
      refine lv_aload_n hx hb dL_law_938 rfl (lv_at hl 4 rfl) ?_
      refine lv_iload hx hb dL_law_939 (lv_at hl 0 rfl) ?_
      refine lv_iconst (v := 2) hx hb dL_law_941 (by decide) ?_
      refine lv_iadd hx hb dL_law_942 ?_
      refine va_sld hx hb hX hbl hbA hS (lw_ix (k := 2) hL hin (by decide) (by decide)) dL_law_943 ?_
      refine lv_aload_n hx hb dL_law_944 rfl (lv_at hl 4 rfl) ?_
      refine lv_iload hx hb dL_law_945 (lv_at hl 0 rfl) ?_
      refine lv_iconst (v := 3) hx hb dL_law_947 (by decide) ?_
      refine lv_iadd hx hb dL_law_948 ?_
      refine va_sld hx hb hX hbl hbA hS (lw_ix (k := 3) hL hin (by decide) (by decide)) dL_law_949 ?_
      have hF := gFree hDM hS hA
      refine va_calliD hd0 (va_runV_D (As := [.int (xs ((nI (6 * j)) + 1).toNatClampNeg), .int (xs ((nI (6 * j)) + 2).toNatClampNeg), .int (xs ((nI (6 * j)) + 3).toNatClampNeg)]) (rest := []) ⟨hx, hb, hml, hown, hts⟩ (n_X12_sign l dC dI am cM adK adV H.size τ hIM (xs ((nI (6 * j)) + 1).toNatClampNeg) (xs ((nI (6 * j)) + 2).toNatClampNeg) (xs ((nI (6 * j)) + 3).toNatClampNeg) hDp) (cwV 3 hts gL0_X12_sign rfl rfl rfl (by decide +kernel) ⟨Nat.le_of_ble_eq_true rfl, Nat.le_of_ble_eq_true rfl⟩) ⟨gBlind, va_recv hKM hPM (ci := 11) (q0 := 0) rfl (mat_11 rfl), gStart (As := [.ref (am 0), .int (xs ((nI (6 * j)) + 1).toNatClampNeg), .int (xs ((nI (6 * j)) + 2).toNatClampNeg), .int (xs ((nI (6 * j)) + 3).toNatClampNeg)]) hPM hDM hKM0 hT hS hF (d_315)⟩ rfl rfl hl.1 rfl (lv_room (Nat.le_of_ble_eq_true rfl)) dL_law_950 ⟨by omega, by omega⟩) hS (fun q _ h => hF q h) hF (fun r_319 τz_320 t H1 locs ht hvm hw hB hz1 hk1 hS d_321 hd0 => ?_)
      have hts := dr_words hts0 (d_321)
      have hKX := gKd hKX0 (d_321)
      have hKM := gKd hKM0 (d_321)
      have hown : (s.setDrawn (d_321)).vm.findClass RL = some m.cls := hown0
      have hX : va_X b L xs (s.setDrawn (d_321)) s.heap := hX0
      obtain ⟨hPM, hDM⟩ := gBack hF ht hB
      obtain ⟨hI_323, fc_324, hp_322⟩ := hw
      have hPX := gOther hPX hk1 (dj_sym (dj_G dj))
      have hPO := gOther hPO hk1 (dj_1 djM)
      generalize H1 = H at hPX hPM hPO hS ⊢
      have dp_325 : Deep τz_320 := (Deep.fr hDp (fc_324.1 2 (by decide) (by decide)) (fc_324.1 4 (by decide) (by decide)) (fc_324.1 9 (by decide) (by decide)) (fc_324.1 11 (by decide) (by decide)) (fc_324.1 12 (by decide) (by decide)) (fc_324.1 17 (by decide) (by decide)) (fc_324.1 18 (by decide) (by decide)) (fc_324.2 20 (by decide)) (fc_324.2 21 (by decide)) (fc_324.2 28 (by decide)) (fc_324.2 64 (by decide)) (fc_324.2 65 (by decide)) (fc_324.2 68 (by decide)))
      refine lv_pop hx hb dL_law_953 rfl ?_
      refine lv_goto (tgt := 1850) hx hb dL_law_954 (by decide) ?_
      obtain ⟨x_326, ex_326⟩ : ∃ zz : Int32, zz = (nI (6 * j)) + 6 := ⟨_, rfl⟩
      refine lv_iinc (v := x_326) (lv' := [(4, .int x_326), (3, .ref lo), (2, .ref (am 0)), (1, .ref (ad 0)), (0, .ref b)]) hx hb dL_law_1850 hl (k := 0) rfl (by rw [ex_326]; rfl) (by decide) rfl (fun ls hl => ?_)
      refine lv_goto (tgt := 23) hx hb dL_law_1853 (by decide) ?_
      have hl := lv_sub hl [0, 1, 2, 3, 4] rfl
      rw [ex_326, nI_6] at hl
      exact ih (j + 1) σz_314 τz_320 f _ _ _ _ _ _ (by omega) (by omega) hI_317 hI_323 dp_325 (by omega) (by omega) hd0 hPX hDX hPM hDM hPO hDO hS hl
    by_cases c_327 : ((xs (nI (6 * j)).toNatClampNeg) &&& 63) = 17
    · refine lv_tableIn (tgt := 957) hx hb dL_law_40 (by rw [c_327]; decide) (by rw [c_327]; decide) (by rw [c_327]; rfl) (by decide) ?_
      refine lv_aload_n hx hb dL_law_957 rfl (lv_at hl 3 rfl) ?_
      refine lv_aload_n hx hb dL_law_958 rfl (lv_at hl 4 rfl) ?_
      refine lv_iload hx hb dL_law_959 (lv_at hl 0 rfl) ?_
      refine lv_iconst (v := 1) hx hb dL_law_961 (by decide) ?_
      refine lv_iadd hx hb dL_law_962 ?_
      refine va_sld hx hb hX hbl hbA hS (lw_ix (k := 1) hL hin (by decide) (by decide)) dL_law_963 ?_
      refine lv_aload_n hx hb dL_law_964 rfl (lv_at hl 4 rfl) ?_
      refine lv_iload hx hb dL_law_965 (lv_at hl 0 rfl) ?_
      refine lv_iconst (v := 2) hx hb dL_law_967 (by decide) ?_
      refine lv_iadd hx hb dL_law_968 ?_
      refine va_sld hx hb hX hbl hbA hS (lw_ix (k := 2) hL hin (by decide) (by decide)) dL_law_969 ?_
      have hF := gFree hDX hS hA
      refine va_calliD hd0 (va_runV_D (As := [.int (xs ((nI (6 * j)) + 1).toNatClampNeg), .int (xs ((nI (6 * j)) + 2).toNatClampNeg)]) (rest := []) ⟨hx, hb, hml, hown, hts⟩ (n_X11_current l dC dI ad cA adK adV H.size σ hIX (xs ((nI (6 * j)) + 1).toNatClampNeg) (xs ((nI (6 * j)) + 2).toNatClampNeg) ) (cwV 2 hts gL0_X11_current rfl rfl rfl (by decide +kernel) ⟨Nat.le_of_ble_eq_true rfl, Nat.le_of_ble_eq_true rfl⟩) ⟨gBlind, va_recv hKX hPX (ci := 10) (q0 := 0) rfl (at_10 rfl), gStart (As := [.ref (ad 0), .int (xs ((nI (6 * j)) + 1).toNatClampNeg), .int (xs ((nI (6 * j)) + 2).toNatClampNeg)]) hPX hDX hKX0 hT hS hF (d)⟩ rfl rfl hl.1 rfl (lv_room (Nat.le_of_ble_eq_true rfl)) dL_law_970 ⟨by omega, by omega⟩) hS (fun q _ h => hF q h) hF (fun r_328 σz_329 t H1 locs ht hvm hw hB hz1 hk1 hS d_330 hd0 => ?_)
      have hts := dr_words hts0 (d_330)
      have hKX := gKd hKX0 (d_330)
      have hKM := gKd hKM0 (d_330)
      have hown : (s.setDrawn (d_330)).vm.findClass RL = some m.cls := hown0
      have hX : va_X b L xs (s.setDrawn (d_330)) s.heap := hX0
      obtain ⟨hPX, hDX⟩ := gBack hF ht hB
      obtain ⟨hI_332, fc_333, hp_331⟩ := hw
      have hPM := gOther hPM hk1 (dj_G dj)
      have hPO := gOther hPO hk1 (dj_1 djX)
      generalize H1 = H at hPX hPM hPO hS ⊢
      refine lv_pop hx hb dL_law_973 rfl ?_
      refine lv_aload_n hx hb dL_law_974 rfl (lv_at hl 2 rfl) ?_
      refine lv_aload_n hx hb dL_law_975 rfl (lv_at hl 4 rfl) ?_
      refine lv_iload hx hb dL_law_976 (lv_at hl 0 rfl) ?_
      refine lv_iconst (v := 1) hx hb dL_law_978 (by decide) ?_
      refine lv_iadd hx hb dL_law_979 ?_
      refine va_sld hx hb hX hbl hbA hS (lw_ix (k := 1) hL hin (by decide) (by decide)) dL_law_980 ?_
      refine lv_aload_n hx hb dL_law_981 rfl (lv_at hl 4 rfl) ?_
      refine lv_iload hx hb dL_law_982 (lv_at hl 0 rfl) ?_
      refine lv_iconst (v := 2) hx hb dL_law_984 (by decide) ?_
      refine lv_iadd hx hb dL_law_985 ?_
      refine va_sld hx hb hX hbl hbA hS (lw_ix (k := 2) hL hin (by decide) (by decide)) dL_law_986 ?_
      have hF := gFree hDM hS hA
      refine va_calliD hd0 (va_runV_D (As := [.int (xs ((nI (6 * j)) + 1).toNatClampNeg), .int (xs ((nI (6 * j)) + 2).toNatClampNeg)]) (rest := []) ⟨hx, hb, hml, hown, hts⟩ (n_X12_current l dC dI am cM adK adV H.size τ hIM (xs ((nI (6 * j)) + 1).toNatClampNeg) (xs ((nI (6 * j)) + 2).toNatClampNeg) hDp) (cwV 2 hts gL0_X12_current rfl rfl rfl (by decide +kernel) ⟨Nat.le_of_ble_eq_true rfl, Nat.le_of_ble_eq_true rfl⟩) ⟨gBlind, va_recv hKM hPM (ci := 11) (q0 := 0) rfl (mat_11 rfl), gStart (As := [.ref (am 0), .int (xs ((nI (6 * j)) + 1).toNatClampNeg), .int (xs ((nI (6 * j)) + 2).toNatClampNeg)]) hPM hDM hKM0 hT hS hF (d_330)⟩ rfl rfl hl.1 rfl (lv_room (Nat.le_of_ble_eq_true rfl)) dL_law_987 ⟨by omega, by omega⟩) hS (fun q _ h => hF q h) hF (fun r_334 τz_335 t H1 locs ht hvm hw hB hz1 hk1 hS d_336 hd0 => ?_)
      have hts := dr_words hts0 (d_336)
      have hKX := gKd hKX0 (d_336)
      have hKM := gKd hKM0 (d_336)
      have hown : (s.setDrawn (d_336)).vm.findClass RL = some m.cls := hown0
      have hX : va_X b L xs (s.setDrawn (d_336)) s.heap := hX0
      obtain ⟨hPM, hDM⟩ := gBack hF ht hB
      obtain ⟨hI_338, fc_339, hp_337⟩ := hw
      have hPX := gOther hPX hk1 (dj_sym (dj_G dj))
      have hPO := gOther hPO hk1 (dj_1 djM)
      generalize H1 = H at hPX hPM hPO hS ⊢
      have dp_340 : Deep τz_335 := (Deep.fr hDp (fc_339.1 2 (by decide) (by decide)) (fc_339.1 4 (by decide) (by decide)) (fc_339.1 9 (by decide) (by decide)) (fc_339.1 11 (by decide) (by decide)) (fc_339.1 12 (by decide) (by decide)) (fc_339.1 17 (by decide) (by decide)) (fc_339.1 18 (by decide) (by decide)) (fc_339.2 20 (by decide)) (fc_339.2 21 (by decide)) (fc_339.2 28 (by decide)) (fc_339.2 64 (by decide)) (fc_339.2 65 (by decide)) (fc_339.2 68 (by decide)))
      refine lv_pop hx hb dL_law_990 rfl ?_
      refine lv_goto (tgt := 1850) hx hb dL_law_991 (by decide) ?_
      obtain ⟨x_341, ex_341⟩ : ∃ zz : Int32, zz = (nI (6 * j)) + 6 := ⟨_, rfl⟩
      refine lv_iinc (v := x_341) (lv' := [(4, .int x_341), (3, .ref lo), (2, .ref (am 0)), (1, .ref (ad 0)), (0, .ref b)]) hx hb dL_law_1850 hl (k := 0) rfl (by rw [ex_341]; rfl) (by decide) rfl (fun ls hl => ?_)
      refine lv_goto (tgt := 23) hx hb dL_law_1853 (by decide) ?_
      have hl := lv_sub hl [0, 1, 2, 3, 4] rfl
      rw [ex_341, nI_6] at hl
      exact ih (j + 1) σz_329 τz_335 f _ _ _ _ _ _ (by omega) (by omega) hI_332 hI_338 dp_340 (by omega) (by omega) hd0 hPX hDX hPM hDM hPO hDO hS hl
    by_cases c_342 : ((xs (nI (6 * j)).toNatClampNeg) &&& 63) = 18
    · refine lv_tableIn (tgt := 994) hx hb dL_law_40 (by rw [c_342]; decide) (by rw [c_342]; decide) (by rw [c_342]; rfl) (by decide) ?_
      refine lv_aload_n hx hb dL_law_994 rfl (lv_at hl 3 rfl) ?_
      refine lv_aload_n hx hb dL_law_995 rfl (lv_at hl 4 rfl) ?_
      refine lv_iload hx hb dL_law_996 (lv_at hl 0 rfl) ?_
      refine lv_iconst (v := 1) hx hb dL_law_998 (by decide) ?_
      refine lv_iadd hx hb dL_law_999 ?_
      refine va_sld hx hb hX hbl hbA hS (lw_ix (k := 1) hL hin (by decide) (by decide)) dL_law_1000 ?_
      refine lv_aload_n hx hb dL_law_1001 rfl (lv_at hl 4 rfl) ?_
      refine lv_iload hx hb dL_law_1002 (lv_at hl 0 rfl) ?_
      refine lv_iconst (v := 2) hx hb dL_law_1004 (by decide) ?_
      refine lv_iadd hx hb dL_law_1005 ?_
      refine va_sld hx hb hX hbl hbA hS (lw_ix (k := 2) hL hin (by decide) (by decide)) dL_law_1006 ?_
      have hF := gFree hDX hS hA
      refine va_calliD hd0 (va_runV_D (As := [.int (xs ((nI (6 * j)) + 1).toNatClampNeg), .int (xs ((nI (6 * j)) + 2).toNatClampNeg)]) (rest := []) ⟨hx, hb, hml, hown, hts⟩ (n_X11_isEx l dC dI ad cA adK adV H.size σ hIX (xs ((nI (6 * j)) + 1).toNatClampNeg) (xs ((nI (6 * j)) + 2).toNatClampNeg) ) (cwV 2 hts gL0_X11_isEx rfl rfl rfl (by decide +kernel) ⟨Nat.le_of_ble_eq_true rfl, Nat.le_of_ble_eq_true rfl⟩) ⟨gBlind, va_recv hKX hPX (ci := 10) (q0 := 0) rfl (at_10 rfl), gStart (As := [.ref (ad 0), .int (xs ((nI (6 * j)) + 1).toNatClampNeg), .int (xs ((nI (6 * j)) + 2).toNatClampNeg)]) hPX hDX hKX0 hT hS hF (d)⟩ rfl rfl hl.1 rfl (lv_room (Nat.le_of_ble_eq_true rfl)) dL_law_1007 ⟨by omega, by omega⟩) hS (fun q _ h => hF q h) hF (fun r_343 σz_344 t H1 locs ht hvm hw hB hz1 hk1 hS d_345 hd0 => ?_)
      have hts := dr_words hts0 (d_345)
      have hKX := gKd hKX0 (d_345)
      have hKM := gKd hKM0 (d_345)
      have hown : (s.setDrawn (d_345)).vm.findClass RL = some m.cls := hown0
      have hX : va_X b L xs (s.setDrawn (d_345)) s.heap := hX0
      obtain ⟨hPX, hDX⟩ := gBack hF ht hB
      obtain ⟨hI_347, fc_348, hp_346⟩ := hw
      have hPM := gOther hPM hk1 (dj_G dj)
      have hPO := gOther hPO hk1 (dj_1 djX)
      generalize H1 = H at hPX hPM hPO hS ⊢
      refine lv_pop hx hb dL_law_1010 rfl ?_
      refine lv_aload_n hx hb dL_law_1011 rfl (lv_at hl 2 rfl) ?_
      refine lv_aload_n hx hb dL_law_1012 rfl (lv_at hl 4 rfl) ?_
      refine lv_iload hx hb dL_law_1013 (lv_at hl 0 rfl) ?_
      refine lv_iconst (v := 1) hx hb dL_law_1015 (by decide) ?_
      refine lv_iadd hx hb dL_law_1016 ?_
      refine va_sld hx hb hX hbl hbA hS (lw_ix (k := 1) hL hin (by decide) (by decide)) dL_law_1017 ?_
      refine lv_aload_n hx hb dL_law_1018 rfl (lv_at hl 4 rfl) ?_
      refine lv_iload hx hb dL_law_1019 (lv_at hl 0 rfl) ?_
      refine lv_iconst (v := 2) hx hb dL_law_1021 (by decide) ?_
      refine lv_iadd hx hb dL_law_1022 ?_
      refine va_sld hx hb hX hbl hbA hS (lw_ix (k := 2) hL hin (by decide) (by decide)) dL_law_1023 ?_
      have hF := gFree hDM hS hA
      refine va_calliD hd0 (va_runV_D (As := [.int (xs ((nI (6 * j)) + 1).toNatClampNeg), .int (xs ((nI (6 * j)) + 2).toNatClampNeg)]) (rest := []) ⟨hx, hb, hml, hown, hts⟩ (n_X12_isEx l dC dI am cM adK adV H.size τ hIM (xs ((nI (6 * j)) + 1).toNatClampNeg) (xs ((nI (6 * j)) + 2).toNatClampNeg) hDp) (cwV 2 hts gL0_X12_isEx rfl rfl rfl (by decide +kernel) ⟨Nat.le_of_ble_eq_true rfl, Nat.le_of_ble_eq_true rfl⟩) ⟨gBlind, va_recv hKM hPM (ci := 11) (q0 := 0) rfl (mat_11 rfl), gStart (As := [.ref (am 0), .int (xs ((nI (6 * j)) + 1).toNatClampNeg), .int (xs ((nI (6 * j)) + 2).toNatClampNeg)]) hPM hDM hKM0 hT hS hF (d_345)⟩ rfl rfl hl.1 rfl (lv_room (Nat.le_of_ble_eq_true rfl)) dL_law_1024 ⟨by omega, by omega⟩) hS (fun q _ h => hF q h) hF (fun r_349 τz_350 t H1 locs ht hvm hw hB hz1 hk1 hS d_351 hd0 => ?_)
      have hts := dr_words hts0 (d_351)
      have hKX := gKd hKX0 (d_351)
      have hKM := gKd hKM0 (d_351)
      have hown : (s.setDrawn (d_351)).vm.findClass RL = some m.cls := hown0
      have hX : va_X b L xs (s.setDrawn (d_351)) s.heap := hX0
      obtain ⟨hPM, hDM⟩ := gBack hF ht hB
      obtain ⟨hI_353, fc_354, hp_352⟩ := hw
      have hPX := gOther hPX hk1 (dj_sym (dj_G dj))
      have hPO := gOther hPO hk1 (dj_1 djM)
      generalize H1 = H at hPX hPM hPO hS ⊢
      have dp_355 : Deep τz_350 := (Deep.fr hDp (fc_354.1 2 (by decide) (by decide)) (fc_354.1 4 (by decide) (by decide)) (fc_354.1 9 (by decide) (by decide)) (fc_354.1 11 (by decide) (by decide)) (fc_354.1 12 (by decide) (by decide)) (fc_354.1 17 (by decide) (by decide)) (fc_354.1 18 (by decide) (by decide)) (fc_354.2 20 (by decide)) (fc_354.2 21 (by decide)) (fc_354.2 28 (by decide)) (fc_354.2 64 (by decide)) (fc_354.2 65 (by decide)) (fc_354.2 68 (by decide)))
      refine lv_pop hx hb dL_law_1027 rfl ?_
      refine lv_goto (tgt := 1850) hx hb dL_law_1028 (by decide) ?_
      obtain ⟨x_356, ex_356⟩ : ∃ zz : Int32, zz = (nI (6 * j)) + 6 := ⟨_, rfl⟩
      refine lv_iinc (v := x_356) (lv' := [(4, .int x_356), (3, .ref lo), (2, .ref (am 0)), (1, .ref (ad 0)), (0, .ref b)]) hx hb dL_law_1850 hl (k := 0) rfl (by rw [ex_356]; rfl) (by decide) rfl (fun ls hl => ?_)
      refine lv_goto (tgt := 23) hx hb dL_law_1853 (by decide) ?_
      have hl := lv_sub hl [0, 1, 2, 3, 4] rfl
      rw [ex_356, nI_6] at hl
      exact ih (j + 1) σz_344 τz_350 f _ _ _ _ _ _ (by omega) (by omega) hI_347 hI_353 dp_355 (by omega) (by omega) hd0 hPX hDX hPM hDM hPO hDO hS hl
    by_cases c_357 : ((xs (nI (6 * j)).toNatClampNeg) &&& 63) = 19
    · refine lv_tableIn (tgt := 1031) hx hb dL_law_40 (by rw [c_357]; decide) (by rw [c_357]; decide) (by rw [c_357]; rfl) (by decide) ?_
      refine lv_aload_n hx hb dL_law_1031 rfl (lv_at hl 3 rfl) ?_
      refine lv_aload_n hx hb dL_law_1032 rfl (lv_at hl 4 rfl) ?_
      refine lv_iload hx hb dL_law_1033 (lv_at hl 0 rfl) ?_
      refine lv_iconst (v := 1) hx hb dL_law_1035 (by decide) ?_
      refine lv_iadd hx hb dL_law_1036 ?_
      refine va_sld hx hb hX hbl hbA hS (lw_ix (k := 1) hL hin (by decide) (by decide)) dL_law_1037 ?_
      refine lv_aload_n hx hb dL_law_1038 rfl (lv_at hl 4 rfl) ?_
      refine lv_iload hx hb dL_law_1039 (lv_at hl 0 rfl) ?_
      refine lv_iconst (v := 2) hx hb dL_law_1041 (by decide) ?_
      refine lv_iadd hx hb dL_law_1042 ?_
      refine va_sld hx hb hX hbl hbA hS (lw_ix (k := 2) hL hin (by decide) (by decide)) dL_law_1043 ?_
      refine lv_aload_n hx hb dL_law_1044 rfl (lv_at hl 4 rfl) ?_
      refine lv_iload hx hb dL_law_1045 (lv_at hl 0 rfl) ?_
      refine lv_iconst (v := 3) hx hb dL_law_1047 (by decide) ?_
      refine lv_iadd hx hb dL_law_1048 ?_
      refine va_sld hx hb hX hbl hbA hS (lw_ix (k := 3) hL hin (by decide) (by decide)) dL_law_1049 ?_
      refine lv_if_eq (tgt := 1057) hx hb dL_law_1050 (by decide) (fun c_358 => ?_) (fun c_358 => ?_)
      · refine lv_iconst (v := 0) hx hb dL_law_1057 (by decide) ?_
        have hF := gFree hDX hS hA
        refine va_calllD hd0 (va_runV_D (As := [.int (xs ((nI (6 * j)) + 1).toNatClampNeg), .int (xs ((nI (6 * j)) + 2).toNatClampNeg), .int 0]) (rest := []) ⟨hx, hb, hml, hown, hts⟩ (n_X11_accrued l dC dI ad cA adK adV H.size σ hIX (xs ((nI (6 * j)) + 1).toNatClampNeg) (xs ((nI (6 * j)) + 2).toNatClampNeg) 0 ) (cwV 3 hts gL0_X11_accrued rfl rfl rfl (by decide +kernel) ⟨Nat.le_of_ble_eq_true rfl, Nat.le_of_ble_eq_true rfl⟩) ⟨gBlind, va_recv hKX hPX (ci := 10) (q0 := 0) rfl (at_10 rfl), gStart (As := [.ref (ad 0), .int (xs ((nI (6 * j)) + 1).toNatClampNeg), .int (xs ((nI (6 * j)) + 2).toNatClampNeg), .int 0]) hPX hDX hKX0 hT hS hF (d)⟩ rfl rfl hl.1 rfl (lv_room (Nat.le_of_ble_eq_true rfl)) dL_law_1058 ⟨by omega, by omega⟩) hS (fun q _ h => hF q h) hF (fun r_359 σz_360 t H1 locs ht hvm hw hB hz1 hk1 hS d_361 hd0 => ?_)
        have hts := dr_words hts0 (d_361)
        have hKX := gKd hKX0 (d_361)
        have hKM := gKd hKM0 (d_361)
        have hown : (s.setDrawn (d_361)).vm.findClass RL = some m.cls := hown0
        have hX : va_X b L xs (s.setDrawn (d_361)) s.heap := hX0
        obtain ⟨hPX, hDX⟩ := gBack hF ht hB
        obtain ⟨hI_363, fc_364, hp_362⟩ := hw
        have hPM := gOther hPM hk1 (dj_G dj)
        have hPO := gOther hPO hk1 (dj_1 djX)
        generalize H1 = H at hPX hPM hPO hS ⊢
        refine lv_pop2_2 hx hb dL_law_1061 rfl ?_
        refine lv_aload_n hx hb dL_law_1062 rfl (lv_at hl 2 rfl) ?_
        refine lv_aload_n hx hb dL_law_1063 rfl (lv_at hl 4 rfl) ?_
        refine lv_iload hx hb dL_law_1064 (lv_at hl 0 rfl) ?_
        refine lv_iconst (v := 1) hx hb dL_law_1066 (by decide) ?_
        refine lv_iadd hx hb dL_law_1067 ?_
        refine va_sld hx hb hX hbl hbA hS (lw_ix (k := 1) hL hin (by decide) (by decide)) dL_law_1068 ?_
        refine lv_aload_n hx hb dL_law_1069 rfl (lv_at hl 4 rfl) ?_
        refine lv_iload hx hb dL_law_1070 (lv_at hl 0 rfl) ?_
        refine lv_iconst (v := 2) hx hb dL_law_1072 (by decide) ?_
        refine lv_iadd hx hb dL_law_1073 ?_
        refine va_sld hx hb hX hbl hbA hS (lw_ix (k := 2) hL hin (by decide) (by decide)) dL_law_1074 ?_
        refine lv_aload_n hx hb dL_law_1075 rfl (lv_at hl 4 rfl) ?_
        refine lv_iload hx hb dL_law_1076 (lv_at hl 0 rfl) ?_
        refine lv_iconst (v := 3) hx hb dL_law_1078 (by decide) ?_
        refine lv_iadd hx hb dL_law_1079 ?_
        refine va_sld hx hb hX hbl hbA hS (lw_ix (k := 3) hL hin (by decide) (by decide)) dL_law_1080 ?_
        refine lv_if_eq (tgt := 1088) hx hb dL_law_1081 (by decide) (fun c_365 => ?_) (fun c_365 => ?_)
        · refine lv_iconst (v := 0) hx hb dL_law_1088 (by decide) ?_
          have hF := gFree hDM hS hA
          refine va_calllD hd0 (va_runV_D (As := [.int (xs ((nI (6 * j)) + 1).toNatClampNeg), .int (xs ((nI (6 * j)) + 2).toNatClampNeg), .int 0]) (rest := []) ⟨hx, hb, hml, hown, hts⟩ (n_X12_accrued l dC dI am cM adK adV H.size τ hIM (xs ((nI (6 * j)) + 1).toNatClampNeg) (xs ((nI (6 * j)) + 2).toNatClampNeg) 0 hDp) (cwV 3 hts gL0_X12_accrued rfl rfl rfl (by decide +kernel) ⟨Nat.le_of_ble_eq_true rfl, Nat.le_of_ble_eq_true rfl⟩) ⟨gBlind, va_recv hKM hPM (ci := 11) (q0 := 0) rfl (mat_11 rfl), gStart (As := [.ref (am 0), .int (xs ((nI (6 * j)) + 1).toNatClampNeg), .int (xs ((nI (6 * j)) + 2).toNatClampNeg), .int 0]) hPM hDM hKM0 hT hS hF (d_361)⟩ rfl rfl hl.1 rfl (lv_room (Nat.le_of_ble_eq_true rfl)) dL_law_1089 ⟨by omega, by omega⟩) hS (fun q _ h => hF q h) hF (fun r_366 τz_367 t H1 locs ht hvm hw hB hz1 hk1 hS d_368 hd0 => ?_)
          have hts := dr_words hts0 (d_368)
          have hKX := gKd hKX0 (d_368)
          have hKM := gKd hKM0 (d_368)
          have hown : (s.setDrawn (d_368)).vm.findClass RL = some m.cls := hown0
          have hX : va_X b L xs (s.setDrawn (d_368)) s.heap := hX0
          obtain ⟨hPM, hDM⟩ := gBack hF ht hB
          obtain ⟨hI_370, fc_371, hp_369⟩ := hw
          have hPX := gOther hPX hk1 (dj_sym (dj_G dj))
          have hPO := gOther hPO hk1 (dj_1 djM)
          generalize H1 = H at hPX hPM hPO hS ⊢
          have dp_372 : Deep τz_367 := (Deep.fr hDp (fc_371.1 2 (by decide) (by decide)) (fc_371.1 4 (by decide) (by decide)) (fc_371.1 9 (by decide) (by decide)) (fc_371.1 11 (by decide) (by decide)) (fc_371.1 12 (by decide) (by decide)) (fc_371.1 17 (by decide) (by decide)) (fc_371.1 18 (by decide) (by decide)) (fc_371.2 20 (by decide)) (fc_371.2 21 (by decide)) (fc_371.2 28 (by decide)) (fc_371.2 64 (by decide)) (fc_371.2 65 (by decide)) (fc_371.2 68 (by decide)))
          refine lv_pop2_2 hx hb dL_law_1092 rfl ?_
          refine lv_goto (tgt := 1850) hx hb dL_law_1093 (by decide) ?_
          obtain ⟨x_373, ex_373⟩ : ∃ zz : Int32, zz = (nI (6 * j)) + 6 := ⟨_, rfl⟩
          refine lv_iinc (v := x_373) (lv' := [(4, .int x_373), (3, .ref lo), (2, .ref (am 0)), (1, .ref (ad 0)), (0, .ref b)]) hx hb dL_law_1850 hl (k := 0) rfl (by rw [ex_373]; rfl) (by decide) rfl (fun ls hl => ?_)
          refine lv_goto (tgt := 23) hx hb dL_law_1853 (by decide) ?_
          have hl := lv_sub hl [0, 1, 2, 3, 4] rfl
          rw [ex_373, nI_6] at hl
          exact ih (j + 1) σz_360 τz_367 f _ _ _ _ _ _ (by omega) (by omega) hI_363 hI_370 dp_372 (by omega) (by omega) hd0 hPX hDX hPM hDM hPO hDO hS hl
        · exact absurd c_358 c_365
      · refine lv_iconst (v := 1) hx hb dL_law_1053 (by decide) ?_
        refine lv_goto (tgt := 1058) hx hb dL_law_1054 (by decide) ?_
        have hF := gFree hDX hS hA
        refine va_calllD hd0 (va_runV_D (As := [.int (xs ((nI (6 * j)) + 1).toNatClampNeg), .int (xs ((nI (6 * j)) + 2).toNatClampNeg), .int 1]) (rest := []) ⟨hx, hb, hml, hown, hts⟩ (n_X11_accrued l dC dI ad cA adK adV H.size σ hIX (xs ((nI (6 * j)) + 1).toNatClampNeg) (xs ((nI (6 * j)) + 2).toNatClampNeg) 1 ) (cwV 3 hts gL0_X11_accrued rfl rfl rfl (by decide +kernel) ⟨Nat.le_of_ble_eq_true rfl, Nat.le_of_ble_eq_true rfl⟩) ⟨gBlind, va_recv hKX hPX (ci := 10) (q0 := 0) rfl (at_10 rfl), gStart (As := [.ref (ad 0), .int (xs ((nI (6 * j)) + 1).toNatClampNeg), .int (xs ((nI (6 * j)) + 2).toNatClampNeg), .int 1]) hPX hDX hKX0 hT hS hF (d)⟩ rfl rfl hl.1 rfl (lv_room (Nat.le_of_ble_eq_true rfl)) dL_law_1058 ⟨by omega, by omega⟩) hS (fun q _ h => hF q h) hF (fun r_374 σz_375 t H1 locs ht hvm hw hB hz1 hk1 hS d_376 hd0 => ?_)
        have hts := dr_words hts0 (d_376)
        have hKX := gKd hKX0 (d_376)
        have hKM := gKd hKM0 (d_376)
        have hown : (s.setDrawn (d_376)).vm.findClass RL = some m.cls := hown0
        have hX : va_X b L xs (s.setDrawn (d_376)) s.heap := hX0
        obtain ⟨hPX, hDX⟩ := gBack hF ht hB
        obtain ⟨hI_378, fc_379, hp_377⟩ := hw
        have hPM := gOther hPM hk1 (dj_G dj)
        have hPO := gOther hPO hk1 (dj_1 djX)
        generalize H1 = H at hPX hPM hPO hS ⊢
        refine lv_pop2_2 hx hb dL_law_1061 rfl ?_
        refine lv_aload_n hx hb dL_law_1062 rfl (lv_at hl 2 rfl) ?_
        refine lv_aload_n hx hb dL_law_1063 rfl (lv_at hl 4 rfl) ?_
        refine lv_iload hx hb dL_law_1064 (lv_at hl 0 rfl) ?_
        refine lv_iconst (v := 1) hx hb dL_law_1066 (by decide) ?_
        refine lv_iadd hx hb dL_law_1067 ?_
        refine va_sld hx hb hX hbl hbA hS (lw_ix (k := 1) hL hin (by decide) (by decide)) dL_law_1068 ?_
        refine lv_aload_n hx hb dL_law_1069 rfl (lv_at hl 4 rfl) ?_
        refine lv_iload hx hb dL_law_1070 (lv_at hl 0 rfl) ?_
        refine lv_iconst (v := 2) hx hb dL_law_1072 (by decide) ?_
        refine lv_iadd hx hb dL_law_1073 ?_
        refine va_sld hx hb hX hbl hbA hS (lw_ix (k := 2) hL hin (by decide) (by decide)) dL_law_1074 ?_
        refine lv_aload_n hx hb dL_law_1075 rfl (lv_at hl 4 rfl) ?_
        refine lv_iload hx hb dL_law_1076 (lv_at hl 0 rfl) ?_
        refine lv_iconst (v := 3) hx hb dL_law_1078 (by decide) ?_
        refine lv_iadd hx hb dL_law_1079 ?_
        refine va_sld hx hb hX hbl hbA hS (lw_ix (k := 3) hL hin (by decide) (by decide)) dL_law_1080 ?_
        refine lv_if_eq (tgt := 1088) hx hb dL_law_1081 (by decide) (fun c_380 => ?_) (fun c_380 => ?_)
        · exact absurd c_380 c_358
        · refine lv_iconst (v := 1) hx hb dL_law_1084 (by decide) ?_
          refine lv_goto (tgt := 1089) hx hb dL_law_1085 (by decide) ?_
          have hF := gFree hDM hS hA
          refine va_calllD hd0 (va_runV_D (As := [.int (xs ((nI (6 * j)) + 1).toNatClampNeg), .int (xs ((nI (6 * j)) + 2).toNatClampNeg), .int 1]) (rest := []) ⟨hx, hb, hml, hown, hts⟩ (n_X12_accrued l dC dI am cM adK adV H.size τ hIM (xs ((nI (6 * j)) + 1).toNatClampNeg) (xs ((nI (6 * j)) + 2).toNatClampNeg) 1 hDp) (cwV 3 hts gL0_X12_accrued rfl rfl rfl (by decide +kernel) ⟨Nat.le_of_ble_eq_true rfl, Nat.le_of_ble_eq_true rfl⟩) ⟨gBlind, va_recv hKM hPM (ci := 11) (q0 := 0) rfl (mat_11 rfl), gStart (As := [.ref (am 0), .int (xs ((nI (6 * j)) + 1).toNatClampNeg), .int (xs ((nI (6 * j)) + 2).toNatClampNeg), .int 1]) hPM hDM hKM0 hT hS hF (d_376)⟩ rfl rfl hl.1 rfl (lv_room (Nat.le_of_ble_eq_true rfl)) dL_law_1089 ⟨by omega, by omega⟩) hS (fun q _ h => hF q h) hF (fun r_381 τz_382 t H1 locs ht hvm hw hB hz1 hk1 hS d_383 hd0 => ?_)
          have hts := dr_words hts0 (d_383)
          have hKX := gKd hKX0 (d_383)
          have hKM := gKd hKM0 (d_383)
          have hown : (s.setDrawn (d_383)).vm.findClass RL = some m.cls := hown0
          have hX : va_X b L xs (s.setDrawn (d_383)) s.heap := hX0
          obtain ⟨hPM, hDM⟩ := gBack hF ht hB
          obtain ⟨hI_385, fc_386, hp_384⟩ := hw
          have hPX := gOther hPX hk1 (dj_sym (dj_G dj))
          have hPO := gOther hPO hk1 (dj_1 djM)
          generalize H1 = H at hPX hPM hPO hS ⊢
          have dp_387 : Deep τz_382 := (Deep.fr hDp (fc_386.1 2 (by decide) (by decide)) (fc_386.1 4 (by decide) (by decide)) (fc_386.1 9 (by decide) (by decide)) (fc_386.1 11 (by decide) (by decide)) (fc_386.1 12 (by decide) (by decide)) (fc_386.1 17 (by decide) (by decide)) (fc_386.1 18 (by decide) (by decide)) (fc_386.2 20 (by decide)) (fc_386.2 21 (by decide)) (fc_386.2 28 (by decide)) (fc_386.2 64 (by decide)) (fc_386.2 65 (by decide)) (fc_386.2 68 (by decide)))
          refine lv_pop2_2 hx hb dL_law_1092 rfl ?_
          refine lv_goto (tgt := 1850) hx hb dL_law_1093 (by decide) ?_
          obtain ⟨x_388, ex_388⟩ : ∃ zz : Int32, zz = (nI (6 * j)) + 6 := ⟨_, rfl⟩
          refine lv_iinc (v := x_388) (lv' := [(4, .int x_388), (3, .ref lo), (2, .ref (am 0)), (1, .ref (ad 0)), (0, .ref b)]) hx hb dL_law_1850 hl (k := 0) rfl (by rw [ex_388]; rfl) (by decide) rfl (fun ls hl => ?_)
          refine lv_goto (tgt := 23) hx hb dL_law_1853 (by decide) ?_
          have hl := lv_sub hl [0, 1, 2, 3, 4] rfl
          rw [ex_388, nI_6] at hl
          exact ih (j + 1) σz_375 τz_382 f _ _ _ _ _ _ (by omega) (by omega) hI_378 hI_385 dp_387 (by omega) (by omega) hd0 hPX hDX hPM hDM hPO hDO hS hl
    by_cases c_389 : ((xs (nI (6 * j)).toNatClampNeg) &&& 63) = 20
    · refine lv_tableIn (tgt := 1096) hx hb dL_law_40 (by rw [c_389]; decide) (by rw [c_389]; decide) (by rw [c_389]; rfl) (by decide) ?_
      refine lv_aload_n hx hb dL_law_1096 rfl (lv_at hl 3 rfl) ?_
      refine lv_aload_n hx hb dL_law_1097 rfl (lv_at hl 4 rfl) ?_
      refine lv_iload hx hb dL_law_1098 (lv_at hl 0 rfl) ?_
      refine lv_iconst (v := 1) hx hb dL_law_1100 (by decide) ?_
      refine lv_iadd hx hb dL_law_1101 ?_
      refine va_sld hx hb hX hbl hbA hS (lw_ix (k := 1) hL hin (by decide) (by decide)) dL_law_1102 ?_
      refine lv_aload_n hx hb dL_law_1103 rfl (lv_at hl 4 rfl) ?_
      refine lv_iload hx hb dL_law_1104 (lv_at hl 0 rfl) ?_
      refine lv_iconst (v := 2) hx hb dL_law_1106 (by decide) ?_
      refine lv_iadd hx hb dL_law_1107 ?_
      refine va_sld hx hb hX hbl hbA hS (lw_ix (k := 2) hL hin (by decide) (by decide)) dL_law_1108 ?_
      refine lv_aload_n hx hb dL_law_1109 rfl (lv_at hl 4 rfl) ?_
      refine lv_iload hx hb dL_law_1110 (lv_at hl 0 rfl) ?_
      refine lv_iconst (v := 3) hx hb dL_law_1112 (by decide) ?_
      refine lv_iadd hx hb dL_law_1113 ?_
      refine va_sld hx hb hX hbl hbA hS (lw_ix (k := 3) hL hin (by decide) (by decide)) dL_law_1114 ?_
      refine lv_if_eq (tgt := 1122) hx hb dL_law_1115 (by decide) (fun c_390 => ?_) (fun c_390 => ?_)
      · refine lv_iconst (v := 0) hx hb dL_law_1122 (by decide) ?_
        have hF := gFree hDX hS hA
        refine va_calllD hd0 (va_runV_D (As := [.int (xs ((nI (6 * j)) + 1).toNatClampNeg), .int (xs ((nI (6 * j)) + 2).toNatClampNeg), .int 0]) (rest := []) ⟨hx, hb, hml, hown, hts⟩ (n_X11_rest l dC dI ad cA adK adV H.size σ hIX (xs ((nI (6 * j)) + 1).toNatClampNeg) (xs ((nI (6 * j)) + 2).toNatClampNeg) 0 ) (cwV 3 hts gL0_X11_rest rfl rfl rfl (by decide +kernel) ⟨Nat.le_of_ble_eq_true rfl, Nat.le_of_ble_eq_true rfl⟩) ⟨gBlind, va_recv hKX hPX (ci := 10) (q0 := 0) rfl (at_10 rfl), gStart (As := [.ref (ad 0), .int (xs ((nI (6 * j)) + 1).toNatClampNeg), .int (xs ((nI (6 * j)) + 2).toNatClampNeg), .int 0]) hPX hDX hKX0 hT hS hF (d)⟩ rfl rfl hl.1 rfl (lv_room (Nat.le_of_ble_eq_true rfl)) dL_law_1123 ⟨by omega, by omega⟩) hS (fun q _ h => hF q h) hF (fun r_391 σz_392 t H1 locs ht hvm hw hB hz1 hk1 hS d_393 hd0 => ?_)
        have hts := dr_words hts0 (d_393)
        have hKX := gKd hKX0 (d_393)
        have hKM := gKd hKM0 (d_393)
        have hown : (s.setDrawn (d_393)).vm.findClass RL = some m.cls := hown0
        have hX : va_X b L xs (s.setDrawn (d_393)) s.heap := hX0
        obtain ⟨hPX, hDX⟩ := gBack hF ht hB
        obtain ⟨hI_395, fc_396, hp_394⟩ := hw
        have hPM := gOther hPM hk1 (dj_G dj)
        have hPO := gOther hPO hk1 (dj_1 djX)
        generalize H1 = H at hPX hPM hPO hS ⊢
        refine lv_pop2_2 hx hb dL_law_1126 rfl ?_
        refine lv_aload_n hx hb dL_law_1127 rfl (lv_at hl 2 rfl) ?_
        refine lv_aload_n hx hb dL_law_1128 rfl (lv_at hl 4 rfl) ?_
        refine lv_iload hx hb dL_law_1129 (lv_at hl 0 rfl) ?_
        refine lv_iconst (v := 1) hx hb dL_law_1131 (by decide) ?_
        refine lv_iadd hx hb dL_law_1132 ?_
        refine va_sld hx hb hX hbl hbA hS (lw_ix (k := 1) hL hin (by decide) (by decide)) dL_law_1133 ?_
        refine lv_aload_n hx hb dL_law_1134 rfl (lv_at hl 4 rfl) ?_
        refine lv_iload hx hb dL_law_1135 (lv_at hl 0 rfl) ?_
        refine lv_iconst (v := 2) hx hb dL_law_1137 (by decide) ?_
        refine lv_iadd hx hb dL_law_1138 ?_
        refine va_sld hx hb hX hbl hbA hS (lw_ix (k := 2) hL hin (by decide) (by decide)) dL_law_1139 ?_
        refine lv_aload_n hx hb dL_law_1140 rfl (lv_at hl 4 rfl) ?_
        refine lv_iload hx hb dL_law_1141 (lv_at hl 0 rfl) ?_
        refine lv_iconst (v := 3) hx hb dL_law_1143 (by decide) ?_
        refine lv_iadd hx hb dL_law_1144 ?_
        refine va_sld hx hb hX hbl hbA hS (lw_ix (k := 3) hL hin (by decide) (by decide)) dL_law_1145 ?_
        refine lv_if_eq (tgt := 1153) hx hb dL_law_1146 (by decide) (fun c_397 => ?_) (fun c_397 => ?_)
        · refine lv_iconst (v := 0) hx hb dL_law_1153 (by decide) ?_
          have hF := gFree hDM hS hA
          refine va_calllD hd0 (va_runV_D (As := [.int (xs ((nI (6 * j)) + 1).toNatClampNeg), .int (xs ((nI (6 * j)) + 2).toNatClampNeg), .int 0]) (rest := []) ⟨hx, hb, hml, hown, hts⟩ (n_X12_rest l dC dI am cM adK adV H.size τ hIM (xs ((nI (6 * j)) + 1).toNatClampNeg) (xs ((nI (6 * j)) + 2).toNatClampNeg) 0 hDp) (cwV 3 hts gL0_X12_rest rfl rfl rfl (by decide +kernel) ⟨Nat.le_of_ble_eq_true rfl, Nat.le_of_ble_eq_true rfl⟩) ⟨gBlind, va_recv hKM hPM (ci := 11) (q0 := 0) rfl (mat_11 rfl), gStart (As := [.ref (am 0), .int (xs ((nI (6 * j)) + 1).toNatClampNeg), .int (xs ((nI (6 * j)) + 2).toNatClampNeg), .int 0]) hPM hDM hKM0 hT hS hF (d_393)⟩ rfl rfl hl.1 rfl (lv_room (Nat.le_of_ble_eq_true rfl)) dL_law_1154 ⟨by omega, by omega⟩) hS (fun q _ h => hF q h) hF (fun r_398 τz_399 t H1 locs ht hvm hw hB hz1 hk1 hS d_400 hd0 => ?_)
          have hts := dr_words hts0 (d_400)
          have hKX := gKd hKX0 (d_400)
          have hKM := gKd hKM0 (d_400)
          have hown : (s.setDrawn (d_400)).vm.findClass RL = some m.cls := hown0
          have hX : va_X b L xs (s.setDrawn (d_400)) s.heap := hX0
          obtain ⟨hPM, hDM⟩ := gBack hF ht hB
          obtain ⟨hI_402, fc_403, hp_401⟩ := hw
          have hPX := gOther hPX hk1 (dj_sym (dj_G dj))
          have hPO := gOther hPO hk1 (dj_1 djM)
          generalize H1 = H at hPX hPM hPO hS ⊢
          have dp_404 : Deep τz_399 := (Deep.fr hDp (fc_403.1 2 (by decide) (by decide)) (fc_403.1 4 (by decide) (by decide)) (fc_403.1 9 (by decide) (by decide)) (fc_403.1 11 (by decide) (by decide)) (fc_403.1 12 (by decide) (by decide)) (fc_403.1 17 (by decide) (by decide)) (fc_403.1 18 (by decide) (by decide)) (fc_403.2 20 (by decide)) (fc_403.2 21 (by decide)) (fc_403.2 28 (by decide)) (fc_403.2 64 (by decide)) (fc_403.2 65 (by decide)) (fc_403.2 68 (by decide)))
          refine lv_pop2_2 hx hb dL_law_1157 rfl ?_
          refine lv_goto (tgt := 1850) hx hb dL_law_1158 (by decide) ?_
          obtain ⟨x_405, ex_405⟩ : ∃ zz : Int32, zz = (nI (6 * j)) + 6 := ⟨_, rfl⟩
          refine lv_iinc (v := x_405) (lv' := [(4, .int x_405), (3, .ref lo), (2, .ref (am 0)), (1, .ref (ad 0)), (0, .ref b)]) hx hb dL_law_1850 hl (k := 0) rfl (by rw [ex_405]; rfl) (by decide) rfl (fun ls hl => ?_)
          refine lv_goto (tgt := 23) hx hb dL_law_1853 (by decide) ?_
          have hl := lv_sub hl [0, 1, 2, 3, 4] rfl
          rw [ex_405, nI_6] at hl
          exact ih (j + 1) σz_392 τz_399 f _ _ _ _ _ _ (by omega) (by omega) hI_395 hI_402 dp_404 (by omega) (by omega) hd0 hPX hDX hPM hDM hPO hDO hS hl
        · exact absurd c_390 c_397
      · refine lv_iconst (v := 1) hx hb dL_law_1118 (by decide) ?_
        refine lv_goto (tgt := 1123) hx hb dL_law_1119 (by decide) ?_
        have hF := gFree hDX hS hA
        refine va_calllD hd0 (va_runV_D (As := [.int (xs ((nI (6 * j)) + 1).toNatClampNeg), .int (xs ((nI (6 * j)) + 2).toNatClampNeg), .int 1]) (rest := []) ⟨hx, hb, hml, hown, hts⟩ (n_X11_rest l dC dI ad cA adK adV H.size σ hIX (xs ((nI (6 * j)) + 1).toNatClampNeg) (xs ((nI (6 * j)) + 2).toNatClampNeg) 1 ) (cwV 3 hts gL0_X11_rest rfl rfl rfl (by decide +kernel) ⟨Nat.le_of_ble_eq_true rfl, Nat.le_of_ble_eq_true rfl⟩) ⟨gBlind, va_recv hKX hPX (ci := 10) (q0 := 0) rfl (at_10 rfl), gStart (As := [.ref (ad 0), .int (xs ((nI (6 * j)) + 1).toNatClampNeg), .int (xs ((nI (6 * j)) + 2).toNatClampNeg), .int 1]) hPX hDX hKX0 hT hS hF (d)⟩ rfl rfl hl.1 rfl (lv_room (Nat.le_of_ble_eq_true rfl)) dL_law_1123 ⟨by omega, by omega⟩) hS (fun q _ h => hF q h) hF (fun r_406 σz_407 t H1 locs ht hvm hw hB hz1 hk1 hS d_408 hd0 => ?_)
        have hts := dr_words hts0 (d_408)
        have hKX := gKd hKX0 (d_408)
        have hKM := gKd hKM0 (d_408)
        have hown : (s.setDrawn (d_408)).vm.findClass RL = some m.cls := hown0
        have hX : va_X b L xs (s.setDrawn (d_408)) s.heap := hX0
        obtain ⟨hPX, hDX⟩ := gBack hF ht hB
        obtain ⟨hI_410, fc_411, hp_409⟩ := hw
        have hPM := gOther hPM hk1 (dj_G dj)
        have hPO := gOther hPO hk1 (dj_1 djX)
        generalize H1 = H at hPX hPM hPO hS ⊢
        refine lv_pop2_2 hx hb dL_law_1126 rfl ?_
        refine lv_aload_n hx hb dL_law_1127 rfl (lv_at hl 2 rfl) ?_
        refine lv_aload_n hx hb dL_law_1128 rfl (lv_at hl 4 rfl) ?_
        refine lv_iload hx hb dL_law_1129 (lv_at hl 0 rfl) ?_
        refine lv_iconst (v := 1) hx hb dL_law_1131 (by decide) ?_
        refine lv_iadd hx hb dL_law_1132 ?_
        refine va_sld hx hb hX hbl hbA hS (lw_ix (k := 1) hL hin (by decide) (by decide)) dL_law_1133 ?_
        refine lv_aload_n hx hb dL_law_1134 rfl (lv_at hl 4 rfl) ?_
        refine lv_iload hx hb dL_law_1135 (lv_at hl 0 rfl) ?_
        refine lv_iconst (v := 2) hx hb dL_law_1137 (by decide) ?_
        refine lv_iadd hx hb dL_law_1138 ?_
        refine va_sld hx hb hX hbl hbA hS (lw_ix (k := 2) hL hin (by decide) (by decide)) dL_law_1139 ?_
        refine lv_aload_n hx hb dL_law_1140 rfl (lv_at hl 4 rfl) ?_
        refine lv_iload hx hb dL_law_1141 (lv_at hl 0 rfl) ?_
        refine lv_iconst (v := 3) hx hb dL_law_1143 (by decide) ?_
        refine lv_iadd hx hb dL_law_1144 ?_
        refine va_sld hx hb hX hbl hbA hS (lw_ix (k := 3) hL hin (by decide) (by decide)) dL_law_1145 ?_
        refine lv_if_eq (tgt := 1153) hx hb dL_law_1146 (by decide) (fun c_412 => ?_) (fun c_412 => ?_)
        · exact absurd c_412 c_390
        · refine lv_iconst (v := 1) hx hb dL_law_1149 (by decide) ?_
          refine lv_goto (tgt := 1154) hx hb dL_law_1150 (by decide) ?_
          have hF := gFree hDM hS hA
          refine va_calllD hd0 (va_runV_D (As := [.int (xs ((nI (6 * j)) + 1).toNatClampNeg), .int (xs ((nI (6 * j)) + 2).toNatClampNeg), .int 1]) (rest := []) ⟨hx, hb, hml, hown, hts⟩ (n_X12_rest l dC dI am cM adK adV H.size τ hIM (xs ((nI (6 * j)) + 1).toNatClampNeg) (xs ((nI (6 * j)) + 2).toNatClampNeg) 1 hDp) (cwV 3 hts gL0_X12_rest rfl rfl rfl (by decide +kernel) ⟨Nat.le_of_ble_eq_true rfl, Nat.le_of_ble_eq_true rfl⟩) ⟨gBlind, va_recv hKM hPM (ci := 11) (q0 := 0) rfl (mat_11 rfl), gStart (As := [.ref (am 0), .int (xs ((nI (6 * j)) + 1).toNatClampNeg), .int (xs ((nI (6 * j)) + 2).toNatClampNeg), .int 1]) hPM hDM hKM0 hT hS hF (d_408)⟩ rfl rfl hl.1 rfl (lv_room (Nat.le_of_ble_eq_true rfl)) dL_law_1154 ⟨by omega, by omega⟩) hS (fun q _ h => hF q h) hF (fun r_413 τz_414 t H1 locs ht hvm hw hB hz1 hk1 hS d_415 hd0 => ?_)
          have hts := dr_words hts0 (d_415)
          have hKX := gKd hKX0 (d_415)
          have hKM := gKd hKM0 (d_415)
          have hown : (s.setDrawn (d_415)).vm.findClass RL = some m.cls := hown0
          have hX : va_X b L xs (s.setDrawn (d_415)) s.heap := hX0
          obtain ⟨hPM, hDM⟩ := gBack hF ht hB
          obtain ⟨hI_417, fc_418, hp_416⟩ := hw
          have hPX := gOther hPX hk1 (dj_sym (dj_G dj))
          have hPO := gOther hPO hk1 (dj_1 djM)
          generalize H1 = H at hPX hPM hPO hS ⊢
          have dp_419 : Deep τz_414 := (Deep.fr hDp (fc_418.1 2 (by decide) (by decide)) (fc_418.1 4 (by decide) (by decide)) (fc_418.1 9 (by decide) (by decide)) (fc_418.1 11 (by decide) (by decide)) (fc_418.1 12 (by decide) (by decide)) (fc_418.1 17 (by decide) (by decide)) (fc_418.1 18 (by decide) (by decide)) (fc_418.2 20 (by decide)) (fc_418.2 21 (by decide)) (fc_418.2 28 (by decide)) (fc_418.2 64 (by decide)) (fc_418.2 65 (by decide)) (fc_418.2 68 (by decide)))
          refine lv_pop2_2 hx hb dL_law_1157 rfl ?_
          refine lv_goto (tgt := 1850) hx hb dL_law_1158 (by decide) ?_
          obtain ⟨x_420, ex_420⟩ : ∃ zz : Int32, zz = (nI (6 * j)) + 6 := ⟨_, rfl⟩
          refine lv_iinc (v := x_420) (lv' := [(4, .int x_420), (3, .ref lo), (2, .ref (am 0)), (1, .ref (ad 0)), (0, .ref b)]) hx hb dL_law_1850 hl (k := 0) rfl (by rw [ex_420]; rfl) (by decide) rfl (fun ls hl => ?_)
          refine lv_goto (tgt := 23) hx hb dL_law_1853 (by decide) ?_
          have hl := lv_sub hl [0, 1, 2, 3, 4] rfl
          rw [ex_420, nI_6] at hl
          exact ih (j + 1) σz_407 τz_414 f _ _ _ _ _ _ (by omega) (by omega) hI_410 hI_417 dp_419 (by omega) (by omega) hd0 hPX hDX hPM hDM hPO hDO hS hl
    by_cases c_421 : ((xs (nI (6 * j)).toNatClampNeg) &&& 63) = 21
    · refine lv_tableIn (tgt := 1161) hx hb dL_law_40 (by rw [c_421]; decide) (by rw [c_421]; decide) (by rw [c_421]; rfl) (by decide) ?_
      refine lv_aload_n hx hb dL_law_1161 rfl (lv_at hl 3 rfl) ?_
      refine lv_aload_n hx hb dL_law_1162 rfl (lv_at hl 4 rfl) ?_
      refine lv_iload hx hb dL_law_1163 (lv_at hl 0 rfl) ?_
      refine lv_iconst (v := 1) hx hb dL_law_1165 (by decide) ?_
      refine lv_iadd hx hb dL_law_1166 ?_
      refine va_sld hx hb hX hbl hbA hS (lw_ix (k := 1) hL hin (by decide) (by decide)) dL_law_1167 ?_
      refine lv_aload_n hx hb dL_law_1168 rfl (lv_at hl 4 rfl) ?_
      refine lv_iload hx hb dL_law_1169 (lv_at hl 0 rfl) ?_
      refine lv_iconst (v := 2) hx hb dL_law_1171 (by decide) ?_
      refine lv_iadd hx hb dL_law_1172 ?_
      refine va_sld hx hb hX hbl hbA hS (lw_ix (k := 2) hL hin (by decide) (by decide)) dL_law_1173 ?_
      refine lv_aload_n hx hb dL_law_1174 rfl (lv_at hl 4 rfl) ?_
      refine lv_iload hx hb dL_law_1175 (lv_at hl 0 rfl) ?_
      refine lv_iconst (v := 3) hx hb dL_law_1177 (by decide) ?_
      refine lv_iadd hx hb dL_law_1178 ?_
      refine va_sld hx hb hX hbl hbA hS (lw_ix (k := 3) hL hin (by decide) (by decide)) dL_law_1179 ?_
      have hF := gFree hDX hS hA
      refine va_calllD hd0 (va_runV_D (As := [.int (xs ((nI (6 * j)) + 1).toNatClampNeg), .int (xs ((nI (6 * j)) + 2).toNatClampNeg), .int (xs ((nI (6 * j)) + 3).toNatClampNeg)]) (rest := []) ⟨hx, hb, hml, hown, hts⟩ (n_X11_dirty l dC dI ad cA adK adV H.size σ hIX (xs ((nI (6 * j)) + 1).toNatClampNeg) (xs ((nI (6 * j)) + 2).toNatClampNeg) (xs ((nI (6 * j)) + 3).toNatClampNeg) ) (cwV 3 hts gL0_X11_dirty rfl rfl rfl (by decide +kernel) ⟨Nat.le_of_ble_eq_true rfl, Nat.le_of_ble_eq_true rfl⟩) ⟨gBlind, va_recv hKX hPX (ci := 10) (q0 := 0) rfl (at_10 rfl), gStart (As := [.ref (ad 0), .int (xs ((nI (6 * j)) + 1).toNatClampNeg), .int (xs ((nI (6 * j)) + 2).toNatClampNeg), .int (xs ((nI (6 * j)) + 3).toNatClampNeg)]) hPX hDX hKX0 hT hS hF (d)⟩ rfl rfl hl.1 rfl (lv_room (Nat.le_of_ble_eq_true rfl)) dL_law_1180 ⟨by omega, by omega⟩) hS (fun q _ h => hF q h) hF (fun r_422 σz_423 t H1 locs ht hvm hw hB hz1 hk1 hS d_424 hd0 => ?_)
      have hts := dr_words hts0 (d_424)
      have hKX := gKd hKX0 (d_424)
      have hKM := gKd hKM0 (d_424)
      have hown : (s.setDrawn (d_424)).vm.findClass RL = some m.cls := hown0
      have hX : va_X b L xs (s.setDrawn (d_424)) s.heap := hX0
      obtain ⟨hPX, hDX⟩ := gBack hF ht hB
      obtain ⟨hI_426, fc_427, hp_425⟩ := hw
      have hPM := gOther hPM hk1 (dj_G dj)
      have hPO := gOther hPO hk1 (dj_1 djX)
      generalize H1 = H at hPX hPM hPO hS ⊢
      refine lv_pop2_2 hx hb dL_law_1183 rfl ?_
      refine lv_aload_n hx hb dL_law_1184 rfl (lv_at hl 2 rfl) ?_
      refine lv_aload_n hx hb dL_law_1185 rfl (lv_at hl 4 rfl) ?_
      refine lv_iload hx hb dL_law_1186 (lv_at hl 0 rfl) ?_
      refine lv_iconst (v := 1) hx hb dL_law_1188 (by decide) ?_
      refine lv_iadd hx hb dL_law_1189 ?_
      refine va_sld hx hb hX hbl hbA hS (lw_ix (k := 1) hL hin (by decide) (by decide)) dL_law_1190 ?_
      refine lv_aload_n hx hb dL_law_1191 rfl (lv_at hl 4 rfl) ?_
      refine lv_iload hx hb dL_law_1192 (lv_at hl 0 rfl) ?_
      refine lv_iconst (v := 2) hx hb dL_law_1194 (by decide) ?_
      refine lv_iadd hx hb dL_law_1195 ?_
      refine va_sld hx hb hX hbl hbA hS (lw_ix (k := 2) hL hin (by decide) (by decide)) dL_law_1196 ?_
      refine lv_aload_n hx hb dL_law_1197 rfl (lv_at hl 4 rfl) ?_
      refine lv_iload hx hb dL_law_1198 (lv_at hl 0 rfl) ?_
      refine lv_iconst (v := 3) hx hb dL_law_1200 (by decide) ?_
      refine lv_iadd hx hb dL_law_1201 ?_
      refine va_sld hx hb hX hbl hbA hS (lw_ix (k := 3) hL hin (by decide) (by decide)) dL_law_1202 ?_
      have hF := gFree hDM hS hA
      refine va_calllD hd0 (va_runV_D (As := [.int (xs ((nI (6 * j)) + 1).toNatClampNeg), .int (xs ((nI (6 * j)) + 2).toNatClampNeg), .int (xs ((nI (6 * j)) + 3).toNatClampNeg)]) (rest := []) ⟨hx, hb, hml, hown, hts⟩ (n_X12_dirty l dC dI am cM adK adV H.size τ hIM (xs ((nI (6 * j)) + 1).toNatClampNeg) (xs ((nI (6 * j)) + 2).toNatClampNeg) (xs ((nI (6 * j)) + 3).toNatClampNeg) hDp) (cwV 3 hts gL0_X12_dirty rfl rfl rfl (by decide +kernel) ⟨Nat.le_of_ble_eq_true rfl, Nat.le_of_ble_eq_true rfl⟩) ⟨gBlind, va_recv hKM hPM (ci := 11) (q0 := 0) rfl (mat_11 rfl), gStart (As := [.ref (am 0), .int (xs ((nI (6 * j)) + 1).toNatClampNeg), .int (xs ((nI (6 * j)) + 2).toNatClampNeg), .int (xs ((nI (6 * j)) + 3).toNatClampNeg)]) hPM hDM hKM0 hT hS hF (d_424)⟩ rfl rfl hl.1 rfl (lv_room (Nat.le_of_ble_eq_true rfl)) dL_law_1203 ⟨by omega, by omega⟩) hS (fun q _ h => hF q h) hF (fun r_428 τz_429 t H1 locs ht hvm hw hB hz1 hk1 hS d_430 hd0 => ?_)
      have hts := dr_words hts0 (d_430)
      have hKX := gKd hKX0 (d_430)
      have hKM := gKd hKM0 (d_430)
      have hown : (s.setDrawn (d_430)).vm.findClass RL = some m.cls := hown0
      have hX : va_X b L xs (s.setDrawn (d_430)) s.heap := hX0
      obtain ⟨hPM, hDM⟩ := gBack hF ht hB
      obtain ⟨hI_432, fc_433, hp_431⟩ := hw
      have hPX := gOther hPX hk1 (dj_sym (dj_G dj))
      have hPO := gOther hPO hk1 (dj_1 djM)
      generalize H1 = H at hPX hPM hPO hS ⊢
      have dp_434 : Deep τz_429 := (Deep.fr hDp (fc_433.1 2 (by decide) (by decide)) (fc_433.1 4 (by decide) (by decide)) (fc_433.1 9 (by decide) (by decide)) (fc_433.1 11 (by decide) (by decide)) (fc_433.1 12 (by decide) (by decide)) (fc_433.1 17 (by decide) (by decide)) (fc_433.1 18 (by decide) (by decide)) (fc_433.2 20 (by decide)) (fc_433.2 21 (by decide)) (fc_433.2 28 (by decide)) (fc_433.2 64 (by decide)) (fc_433.2 65 (by decide)) (fc_433.2 68 (by decide)))
      refine lv_pop2_2 hx hb dL_law_1206 rfl ?_
      refine lv_goto (tgt := 1850) hx hb dL_law_1207 (by decide) ?_
      obtain ⟨x_435, ex_435⟩ : ∃ zz : Int32, zz = (nI (6 * j)) + 6 := ⟨_, rfl⟩
      refine lv_iinc (v := x_435) (lv' := [(4, .int x_435), (3, .ref lo), (2, .ref (am 0)), (1, .ref (ad 0)), (0, .ref b)]) hx hb dL_law_1850 hl (k := 0) rfl (by rw [ex_435]; rfl) (by decide) rfl (fun ls hl => ?_)
      refine lv_goto (tgt := 23) hx hb dL_law_1853 (by decide) ?_
      have hl := lv_sub hl [0, 1, 2, 3, 4] rfl
      rw [ex_435, nI_6] at hl
      exact ih (j + 1) σz_423 τz_429 f _ _ _ _ _ _ (by omega) (by omega) hI_426 hI_432 dp_434 (by omega) (by omega) hd0 hPX hDX hPM hDM hPO hDO hS hl
    by_cases c_436 : ((xs (nI (6 * j)).toNatClampNeg) &&& 63) = 22
    · refine lv_tableIn (tgt := 1210) hx hb dL_law_40 (by rw [c_436]; decide) (by rw [c_436]; decide) (by rw [c_436]; rfl) (by decide) ?_
      refine lv_aload_n hx hb dL_law_1210 rfl (lv_at hl 3 rfl) ?_
      refine lv_aload_n hx hb dL_law_1211 rfl (lv_at hl 4 rfl) ?_
      refine lv_iload hx hb dL_law_1212 (lv_at hl 0 rfl) ?_
      refine lv_iconst (v := 1) hx hb dL_law_1214 (by decide) ?_
      refine lv_iadd hx hb dL_law_1215 ?_
      refine va_sld hx hb hX hbl hbA hS (lw_ix (k := 1) hL hin (by decide) (by decide)) dL_law_1216 ?_
      refine lv_aload_n hx hb dL_law_1217 rfl (lv_at hl 4 rfl) ?_
      refine lv_iload hx hb dL_law_1218 (lv_at hl 0 rfl) ?_
      refine lv_iconst (v := 2) hx hb dL_law_1220 (by decide) ?_
      refine lv_iadd hx hb dL_law_1221 ?_
      refine va_sld hx hb hX hbl hbA hS (lw_ix (k := 2) hL hin (by decide) (by decide)) dL_law_1222 ?_
      refine lv_aload_n hx hb dL_law_1223 rfl (lv_at hl 4 rfl) ?_
      refine lv_iload hx hb dL_law_1224 (lv_at hl 0 rfl) ?_
      refine lv_iconst (v := 3) hx hb dL_law_1226 (by decide) ?_
      refine lv_iadd hx hb dL_law_1227 ?_
      refine va_sld hx hb hX hbl hbA hS (lw_ix (k := 3) hL hin (by decide) (by decide)) dL_law_1228 ?_
      have hF := gFree hDX hS hA
      refine va_calllD hd0 (va_runV_D (As := [.int (xs ((nI (6 * j)) + 1).toNatClampNeg), .int (xs ((nI (6 * j)) + 2).toNatClampNeg), .int (xs ((nI (6 * j)) + 3).toNatClampNeg)]) (rest := []) ⟨hx, hb, hml, hown, hts⟩ (n_X11_clean l dC dI ad cA adK adV H.size σ hIX (xs ((nI (6 * j)) + 1).toNatClampNeg) (xs ((nI (6 * j)) + 2).toNatClampNeg) (xs ((nI (6 * j)) + 3).toNatClampNeg) ) (cwV 3 hts gL0_X11_clean rfl rfl rfl (by decide +kernel) ⟨Nat.le_of_ble_eq_true rfl, Nat.le_of_ble_eq_true rfl⟩) ⟨gBlind, va_recv hKX hPX (ci := 10) (q0 := 0) rfl (at_10 rfl), gStart (As := [.ref (ad 0), .int (xs ((nI (6 * j)) + 1).toNatClampNeg), .int (xs ((nI (6 * j)) + 2).toNatClampNeg), .int (xs ((nI (6 * j)) + 3).toNatClampNeg)]) hPX hDX hKX0 hT hS hF (d)⟩ rfl rfl hl.1 rfl (lv_room (Nat.le_of_ble_eq_true rfl)) dL_law_1229 ⟨by omega, by omega⟩) hS (fun q _ h => hF q h) hF (fun r_437 σz_438 t H1 locs ht hvm hw hB hz1 hk1 hS d_439 hd0 => ?_)
      have hts := dr_words hts0 (d_439)
      have hKX := gKd hKX0 (d_439)
      have hKM := gKd hKM0 (d_439)
      have hown : (s.setDrawn (d_439)).vm.findClass RL = some m.cls := hown0
      have hX : va_X b L xs (s.setDrawn (d_439)) s.heap := hX0
      obtain ⟨hPX, hDX⟩ := gBack hF ht hB
      obtain ⟨hI_441, fc_442, hp_440⟩ := hw
      have hPM := gOther hPM hk1 (dj_G dj)
      have hPO := gOther hPO hk1 (dj_1 djX)
      generalize H1 = H at hPX hPM hPO hS ⊢
      refine lv_pop2_2 hx hb dL_law_1232 rfl ?_
      refine lv_aload_n hx hb dL_law_1233 rfl (lv_at hl 2 rfl) ?_
      refine lv_aload_n hx hb dL_law_1234 rfl (lv_at hl 4 rfl) ?_
      refine lv_iload hx hb dL_law_1235 (lv_at hl 0 rfl) ?_
      refine lv_iconst (v := 1) hx hb dL_law_1237 (by decide) ?_
      refine lv_iadd hx hb dL_law_1238 ?_
      refine va_sld hx hb hX hbl hbA hS (lw_ix (k := 1) hL hin (by decide) (by decide)) dL_law_1239 ?_
      refine lv_aload_n hx hb dL_law_1240 rfl (lv_at hl 4 rfl) ?_
      refine lv_iload hx hb dL_law_1241 (lv_at hl 0 rfl) ?_
      refine lv_iconst (v := 2) hx hb dL_law_1243 (by decide) ?_
      refine lv_iadd hx hb dL_law_1244 ?_
      refine va_sld hx hb hX hbl hbA hS (lw_ix (k := 2) hL hin (by decide) (by decide)) dL_law_1245 ?_
      refine lv_aload_n hx hb dL_law_1246 rfl (lv_at hl 4 rfl) ?_
      refine lv_iload hx hb dL_law_1247 (lv_at hl 0 rfl) ?_
      refine lv_iconst (v := 3) hx hb dL_law_1249 (by decide) ?_
      refine lv_iadd hx hb dL_law_1250 ?_
      refine va_sld hx hb hX hbl hbA hS (lw_ix (k := 3) hL hin (by decide) (by decide)) dL_law_1251 ?_
      have hF := gFree hDM hS hA
      refine va_calllD hd0 (va_runV_D (As := [.int (xs ((nI (6 * j)) + 1).toNatClampNeg), .int (xs ((nI (6 * j)) + 2).toNatClampNeg), .int (xs ((nI (6 * j)) + 3).toNatClampNeg)]) (rest := []) ⟨hx, hb, hml, hown, hts⟩ (n_X12_clean l dC dI am cM adK adV H.size τ hIM (xs ((nI (6 * j)) + 1).toNatClampNeg) (xs ((nI (6 * j)) + 2).toNatClampNeg) (xs ((nI (6 * j)) + 3).toNatClampNeg) hDp) (cwV 3 hts gL0_X12_clean rfl rfl rfl (by decide +kernel) ⟨Nat.le_of_ble_eq_true rfl, Nat.le_of_ble_eq_true rfl⟩) ⟨gBlind, va_recv hKM hPM (ci := 11) (q0 := 0) rfl (mat_11 rfl), gStart (As := [.ref (am 0), .int (xs ((nI (6 * j)) + 1).toNatClampNeg), .int (xs ((nI (6 * j)) + 2).toNatClampNeg), .int (xs ((nI (6 * j)) + 3).toNatClampNeg)]) hPM hDM hKM0 hT hS hF (d_439)⟩ rfl rfl hl.1 rfl (lv_room (Nat.le_of_ble_eq_true rfl)) dL_law_1252 ⟨by omega, by omega⟩) hS (fun q _ h => hF q h) hF (fun r_443 τz_444 t H1 locs ht hvm hw hB hz1 hk1 hS d_445 hd0 => ?_)
      have hts := dr_words hts0 (d_445)
      have hKX := gKd hKX0 (d_445)
      have hKM := gKd hKM0 (d_445)
      have hown : (s.setDrawn (d_445)).vm.findClass RL = some m.cls := hown0
      have hX : va_X b L xs (s.setDrawn (d_445)) s.heap := hX0
      obtain ⟨hPM, hDM⟩ := gBack hF ht hB
      obtain ⟨hI_447, fc_448, hp_446⟩ := hw
      have hPX := gOther hPX hk1 (dj_sym (dj_G dj))
      have hPO := gOther hPO hk1 (dj_1 djM)
      generalize H1 = H at hPX hPM hPO hS ⊢
      have dp_449 : Deep τz_444 := (Deep.fr hDp (fc_448.1 2 (by decide) (by decide)) (fc_448.1 4 (by decide) (by decide)) (fc_448.1 9 (by decide) (by decide)) (fc_448.1 11 (by decide) (by decide)) (fc_448.1 12 (by decide) (by decide)) (fc_448.1 17 (by decide) (by decide)) (fc_448.1 18 (by decide) (by decide)) (fc_448.2 20 (by decide)) (fc_448.2 21 (by decide)) (fc_448.2 28 (by decide)) (fc_448.2 64 (by decide)) (fc_448.2 65 (by decide)) (fc_448.2 68 (by decide)))
      refine lv_pop2_2 hx hb dL_law_1255 rfl ?_
      refine lv_goto (tgt := 1850) hx hb dL_law_1256 (by decide) ?_
      obtain ⟨x_450, ex_450⟩ : ∃ zz : Int32, zz = (nI (6 * j)) + 6 := ⟨_, rfl⟩
      refine lv_iinc (v := x_450) (lv' := [(4, .int x_450), (3, .ref lo), (2, .ref (am 0)), (1, .ref (ad 0)), (0, .ref b)]) hx hb dL_law_1850 hl (k := 0) rfl (by rw [ex_450]; rfl) (by decide) rfl (fun ls hl => ?_)
      refine lv_goto (tgt := 23) hx hb dL_law_1853 (by decide) ?_
      have hl := lv_sub hl [0, 1, 2, 3, 4] rfl
      rw [ex_450, nI_6] at hl
      exact ih (j + 1) σz_438 τz_444 f _ _ _ _ _ _ (by omega) (by omega) hI_441 hI_447 dp_449 (by omega) (by omega) hd0 hPX hDX hPM hDM hPO hDO hS hl
    by_cases c_451 : ((xs (nI (6 * j)).toNatClampNeg) &&& 63) = 23
    · refine lv_tableIn (tgt := 1259) hx hb dL_law_40 (by rw [c_451]; decide) (by rw [c_451]; decide) (by rw [c_451]; rfl) (by decide) ?_
      refine lv_aload_n hx hb dL_law_1259 rfl (lv_at hl 3 rfl) ?_
      refine lv_aload_n hx hb dL_law_1260 rfl (lv_at hl 4 rfl) ?_
      refine lv_iload hx hb dL_law_1261 (lv_at hl 0 rfl) ?_
      refine lv_iconst (v := 1) hx hb dL_law_1263 (by decide) ?_
      refine lv_iadd hx hb dL_law_1264 ?_
      refine va_sld hx hb hX hbl hbA hS (lw_ix (k := 1) hL hin (by decide) (by decide)) dL_law_1265 ?_
      refine lv_aload_n hx hb dL_law_1266 rfl (lv_at hl 4 rfl) ?_
      refine lv_iload hx hb dL_law_1267 (lv_at hl 0 rfl) ?_
      refine lv_iconst (v := 2) hx hb dL_law_1269 (by decide) ?_
      refine lv_iadd hx hb dL_law_1270 ?_
      refine va_sld hx hb hX hbl hbA hS (lw_ix (k := 2) hL hin (by decide) (by decide)) dL_law_1271 ?_
      refine lv_aload_n hx hb dL_law_1272 rfl (lv_at hl 4 rfl) ?_
      refine lv_iload hx hb dL_law_1273 (lv_at hl 0 rfl) ?_
      refine lv_iconst (v := 3) hx hb dL_law_1275 (by decide) ?_
      refine lv_iadd hx hb dL_law_1276 ?_
      refine va_sld hx hb hX hbl hbA hS (lw_ix (k := 3) hL hin (by decide) (by decide)) dL_law_1277 ?_
      have hF := gFree hDX hS hA
      refine va_calllD hd0 (va_runV_D (As := [.int (xs ((nI (6 * j)) + 1).toNatClampNeg), .int (xs ((nI (6 * j)) + 2).toNatClampNeg), .int (xs ((nI (6 * j)) + 3).toNatClampNeg)]) (rest := []) ⟨hx, hb, hml, hown, hts⟩ (n_X11_risk l dC dI ad cA adK adV H.size σ hIX (xs ((nI (6 * j)) + 1).toNatClampNeg) (xs ((nI (6 * j)) + 2).toNatClampNeg) (xs ((nI (6 * j)) + 3).toNatClampNeg) ) (cwV 3 hts gL0_X11_risk rfl rfl rfl (by decide +kernel) ⟨Nat.le_of_ble_eq_true rfl, Nat.le_of_ble_eq_true rfl⟩) ⟨gBlind, va_recv hKX hPX (ci := 10) (q0 := 0) rfl (at_10 rfl), gStart (As := [.ref (ad 0), .int (xs ((nI (6 * j)) + 1).toNatClampNeg), .int (xs ((nI (6 * j)) + 2).toNatClampNeg), .int (xs ((nI (6 * j)) + 3).toNatClampNeg)]) hPX hDX hKX0 hT hS hF (d)⟩ rfl rfl hl.1 rfl (lv_room (Nat.le_of_ble_eq_true rfl)) dL_law_1278 ⟨by omega, by omega⟩) hS (fun q _ h => hF q h) hF (fun r_452 σz_453 t H1 locs ht hvm hw hB hz1 hk1 hS d_454 hd0 => ?_)
      have hts := dr_words hts0 (d_454)
      have hKX := gKd hKX0 (d_454)
      have hKM := gKd hKM0 (d_454)
      have hown : (s.setDrawn (d_454)).vm.findClass RL = some m.cls := hown0
      have hX : va_X b L xs (s.setDrawn (d_454)) s.heap := hX0
      obtain ⟨hPX, hDX⟩ := gBack hF ht hB
      obtain ⟨hI_456, fc_457, hp_455⟩ := hw
      have hPM := gOther hPM hk1 (dj_G dj)
      have hPO := gOther hPO hk1 (dj_1 djX)
      generalize H1 = H at hPX hPM hPO hS ⊢
      refine lv_pop2_2 hx hb dL_law_1281 rfl ?_
      refine lv_aload_n hx hb dL_law_1282 rfl (lv_at hl 2 rfl) ?_
      refine lv_aload_n hx hb dL_law_1283 rfl (lv_at hl 4 rfl) ?_
      refine lv_iload hx hb dL_law_1284 (lv_at hl 0 rfl) ?_
      refine lv_iconst (v := 1) hx hb dL_law_1286 (by decide) ?_
      refine lv_iadd hx hb dL_law_1287 ?_
      refine va_sld hx hb hX hbl hbA hS (lw_ix (k := 1) hL hin (by decide) (by decide)) dL_law_1288 ?_
      refine lv_aload_n hx hb dL_law_1289 rfl (lv_at hl 4 rfl) ?_
      refine lv_iload hx hb dL_law_1290 (lv_at hl 0 rfl) ?_
      refine lv_iconst (v := 2) hx hb dL_law_1292 (by decide) ?_
      refine lv_iadd hx hb dL_law_1293 ?_
      refine va_sld hx hb hX hbl hbA hS (lw_ix (k := 2) hL hin (by decide) (by decide)) dL_law_1294 ?_
      refine lv_aload_n hx hb dL_law_1295 rfl (lv_at hl 4 rfl) ?_
      refine lv_iload hx hb dL_law_1296 (lv_at hl 0 rfl) ?_
      refine lv_iconst (v := 3) hx hb dL_law_1298 (by decide) ?_
      refine lv_iadd hx hb dL_law_1299 ?_
      refine va_sld hx hb hX hbl hbA hS (lw_ix (k := 3) hL hin (by decide) (by decide)) dL_law_1300 ?_
      have hF := gFree hDM hS hA
      refine va_calllD hd0 (va_runV_D (As := [.int (xs ((nI (6 * j)) + 1).toNatClampNeg), .int (xs ((nI (6 * j)) + 2).toNatClampNeg), .int (xs ((nI (6 * j)) + 3).toNatClampNeg)]) (rest := []) ⟨hx, hb, hml, hown, hts⟩ (n_X12_risk l dC dI am cM adK adV H.size τ hIM (xs ((nI (6 * j)) + 1).toNatClampNeg) (xs ((nI (6 * j)) + 2).toNatClampNeg) (xs ((nI (6 * j)) + 3).toNatClampNeg) hDp) (cwV 3 hts gL0_X12_risk rfl rfl rfl (by decide +kernel) ⟨Nat.le_of_ble_eq_true rfl, Nat.le_of_ble_eq_true rfl⟩) ⟨gBlind, va_recv hKM hPM (ci := 11) (q0 := 0) rfl (mat_11 rfl), gStart (As := [.ref (am 0), .int (xs ((nI (6 * j)) + 1).toNatClampNeg), .int (xs ((nI (6 * j)) + 2).toNatClampNeg), .int (xs ((nI (6 * j)) + 3).toNatClampNeg)]) hPM hDM hKM0 hT hS hF (d_454)⟩ rfl rfl hl.1 rfl (lv_room (Nat.le_of_ble_eq_true rfl)) dL_law_1301 ⟨by omega, by omega⟩) hS (fun q _ h => hF q h) hF (fun r_458 τz_459 t H1 locs ht hvm hw hB hz1 hk1 hS d_460 hd0 => ?_)
      have hts := dr_words hts0 (d_460)
      have hKX := gKd hKX0 (d_460)
      have hKM := gKd hKM0 (d_460)
      have hown : (s.setDrawn (d_460)).vm.findClass RL = some m.cls := hown0
      have hX : va_X b L xs (s.setDrawn (d_460)) s.heap := hX0
      obtain ⟨hPM, hDM⟩ := gBack hF ht hB
      obtain ⟨hI_462, fc_463, hp_461⟩ := hw
      have hPX := gOther hPX hk1 (dj_sym (dj_G dj))
      have hPO := gOther hPO hk1 (dj_1 djM)
      generalize H1 = H at hPX hPM hPO hS ⊢
      have dp_464 : Deep τz_459 := (Deep.fr hDp (fc_463.1 2 (by decide) (by decide)) (fc_463.1 4 (by decide) (by decide)) (fc_463.1 9 (by decide) (by decide)) (fc_463.1 11 (by decide) (by decide)) (fc_463.1 12 (by decide) (by decide)) (fc_463.1 17 (by decide) (by decide)) (fc_463.1 18 (by decide) (by decide)) (fc_463.2 20 (by decide)) (fc_463.2 21 (by decide)) (fc_463.2 28 (by decide)) (fc_463.2 64 (by decide)) (fc_463.2 65 (by decide)) (fc_463.2 68 (by decide)))
      refine lv_pop2_2 hx hb dL_law_1304 rfl ?_
      refine lv_goto (tgt := 1850) hx hb dL_law_1305 (by decide) ?_
      obtain ⟨x_465, ex_465⟩ : ∃ zz : Int32, zz = (nI (6 * j)) + 6 := ⟨_, rfl⟩
      refine lv_iinc (v := x_465) (lv' := [(4, .int x_465), (3, .ref lo), (2, .ref (am 0)), (1, .ref (ad 0)), (0, .ref b)]) hx hb dL_law_1850 hl (k := 0) rfl (by rw [ex_465]; rfl) (by decide) rfl (fun ls hl => ?_)
      refine lv_goto (tgt := 23) hx hb dL_law_1853 (by decide) ?_
      have hl := lv_sub hl [0, 1, 2, 3, 4] rfl
      rw [ex_465, nI_6] at hl
      exact ih (j + 1) σz_453 τz_459 f _ _ _ _ _ _ (by omega) (by omega) hI_456 hI_462 dp_464 (by omega) (by omega) hd0 hPX hDX hPM hDM hPO hDO hS hl
    by_cases c_466 : ((xs (nI (6 * j)).toNatClampNeg) &&& 63) = 24
    · refine lv_tableIn (tgt := 1308) hx hb dL_law_40 (by rw [c_466]; decide) (by rw [c_466]; decide) (by rw [c_466]; rfl) (by decide) ?_
      refine lv_aload_n hx hb dL_law_1308 rfl (lv_at hl 3 rfl) ?_
      refine lv_aload_n hx hb dL_law_1309 rfl (lv_at hl 4 rfl) ?_
      refine lv_iload hx hb dL_law_1310 (lv_at hl 0 rfl) ?_
      refine lv_iconst (v := 1) hx hb dL_law_1312 (by decide) ?_
      refine lv_iadd hx hb dL_law_1313 ?_
      refine va_sld hx hb hX hbl hbA hS (lw_ix (k := 1) hL hin (by decide) (by decide)) dL_law_1314 ?_
      refine lv_aload_n hx hb dL_law_1315 rfl (lv_at hl 4 rfl) ?_
      refine lv_iload hx hb dL_law_1316 (lv_at hl 0 rfl) ?_
      refine lv_iconst (v := 2) hx hb dL_law_1318 (by decide) ?_
      refine lv_iadd hx hb dL_law_1319 ?_
      refine va_sld hx hb hX hbl hbA hS (lw_ix (k := 2) hL hin (by decide) (by decide)) dL_law_1320 ?_
      refine lv_aload_n hx hb dL_law_1321 rfl (lv_at hl 4 rfl) ?_
      refine lv_iload hx hb dL_law_1322 (lv_at hl 0 rfl) ?_
      refine lv_iconst (v := 3) hx hb dL_law_1324 (by decide) ?_
      refine lv_iadd hx hb dL_law_1325 ?_
      refine va_sld hx hb hX hbl hbA hS (lw_ix (k := 3) hL hin (by decide) (by decide)) dL_law_1326 ?_
      refine lv_aload_n hx hb dL_law_1327 rfl (lv_at hl 4 rfl) ?_
      refine lv_iload hx hb dL_law_1328 (lv_at hl 0 rfl) ?_
      refine lv_iconst (v := 4) hx hb dL_law_1330 (by decide) ?_
      refine lv_iadd hx hb dL_law_1331 ?_
      refine va_sld hx hb hX hbl hbA hS (lw_ix (k := 4) hL hin (by decide) (by decide)) dL_law_1332 ?_
      refine lv_aload_n hx hb dL_law_1333 rfl (lv_at hl 4 rfl) ?_
      refine lv_iload hx hb dL_law_1334 (lv_at hl 0 rfl) ?_
      refine lv_iconst (v := 5) hx hb dL_law_1336 (by decide) ?_
      refine lv_iadd hx hb dL_law_1337 ?_
      refine va_sld hx hb hX hbl hbA hS (lw_ix (k := 5) hL hin (by decide) (by decide)) dL_law_1338 ?_
      refine lv_if_eq (tgt := 1346) hx hb dL_law_1339 (by decide) (fun c_467 => ?_) (fun c_467 => ?_)
      · refine lv_iconst (v := 0) hx hb dL_law_1346 (by decide) ?_
        have hF := gFree hDX hS hA
        refine va_calllD hd0 (va_runV_D (As := [.int (xs ((nI (6 * j)) + 1).toNatClampNeg), .int (xs ((nI (6 * j)) + 2).toNatClampNeg), .int (xs ((nI (6 * j)) + 3).toNatClampNeg), .int (xs ((nI (6 * j)) + 4).toNatClampNeg), .int 0]) (rest := []) ⟨hx, hb, hml, hown, hts⟩ (n_X11_bracket l dC dI ad cA adK adV H.size σ hIX (xs ((nI (6 * j)) + 1).toNatClampNeg) (xs ((nI (6 * j)) + 2).toNatClampNeg) (xs ((nI (6 * j)) + 3).toNatClampNeg) (xs ((nI (6 * j)) + 4).toNatClampNeg) 0 ) (cwV 5 hts gL0_X11_bracket rfl rfl rfl (by decide +kernel) ⟨Nat.le_of_ble_eq_true rfl, Nat.le_of_ble_eq_true rfl⟩) ⟨gBlind, va_recv hKX hPX (ci := 10) (q0 := 0) rfl (at_10 rfl), gStart (As := [.ref (ad 0), .int (xs ((nI (6 * j)) + 1).toNatClampNeg), .int (xs ((nI (6 * j)) + 2).toNatClampNeg), .int (xs ((nI (6 * j)) + 3).toNatClampNeg), .int (xs ((nI (6 * j)) + 4).toNatClampNeg), .int 0]) hPX hDX hKX0 hT hS hF (d)⟩ rfl rfl hl.1 rfl (lv_room (Nat.le_of_ble_eq_true rfl)) dL_law_1347 ⟨by omega, by omega⟩) hS (fun q _ h => hF q h) hF (fun r_468 σz_469 t H1 locs ht hvm hw hB hz1 hk1 hS d_470 hd0 => ?_)
        have hts := dr_words hts0 (d_470)
        have hKX := gKd hKX0 (d_470)
        have hKM := gKd hKM0 (d_470)
        have hown : (s.setDrawn (d_470)).vm.findClass RL = some m.cls := hown0
        have hX : va_X b L xs (s.setDrawn (d_470)) s.heap := hX0
        obtain ⟨hPX, hDX⟩ := gBack hF ht hB
        obtain ⟨hI_472, fc_473, hp_471⟩ := hw
        have hPM := gOther hPM hk1 (dj_G dj)
        have hPO := gOther hPO hk1 (dj_1 djX)
        generalize H1 = H at hPX hPM hPO hS ⊢
        refine lv_pop2_2 hx hb dL_law_1350 rfl ?_
        refine lv_aload_n hx hb dL_law_1351 rfl (lv_at hl 2 rfl) ?_
        refine lv_aload_n hx hb dL_law_1352 rfl (lv_at hl 4 rfl) ?_
        refine lv_iload hx hb dL_law_1353 (lv_at hl 0 rfl) ?_
        refine lv_iconst (v := 1) hx hb dL_law_1355 (by decide) ?_
        refine lv_iadd hx hb dL_law_1356 ?_
        refine va_sld hx hb hX hbl hbA hS (lw_ix (k := 1) hL hin (by decide) (by decide)) dL_law_1357 ?_
        refine lv_aload_n hx hb dL_law_1358 rfl (lv_at hl 4 rfl) ?_
        refine lv_iload hx hb dL_law_1359 (lv_at hl 0 rfl) ?_
        refine lv_iconst (v := 2) hx hb dL_law_1361 (by decide) ?_
        refine lv_iadd hx hb dL_law_1362 ?_
        refine va_sld hx hb hX hbl hbA hS (lw_ix (k := 2) hL hin (by decide) (by decide)) dL_law_1363 ?_
        refine lv_aload_n hx hb dL_law_1364 rfl (lv_at hl 4 rfl) ?_
        refine lv_iload hx hb dL_law_1365 (lv_at hl 0 rfl) ?_
        refine lv_iconst (v := 3) hx hb dL_law_1367 (by decide) ?_
        refine lv_iadd hx hb dL_law_1368 ?_
        refine va_sld hx hb hX hbl hbA hS (lw_ix (k := 3) hL hin (by decide) (by decide)) dL_law_1369 ?_
        refine lv_aload_n hx hb dL_law_1370 rfl (lv_at hl 4 rfl) ?_
        refine lv_iload hx hb dL_law_1371 (lv_at hl 0 rfl) ?_
        refine lv_iconst (v := 4) hx hb dL_law_1373 (by decide) ?_
        refine lv_iadd hx hb dL_law_1374 ?_
        refine va_sld hx hb hX hbl hbA hS (lw_ix (k := 4) hL hin (by decide) (by decide)) dL_law_1375 ?_
        refine lv_aload_n hx hb dL_law_1376 rfl (lv_at hl 4 rfl) ?_
        refine lv_iload hx hb dL_law_1377 (lv_at hl 0 rfl) ?_
        refine lv_iconst (v := 5) hx hb dL_law_1379 (by decide) ?_
        refine lv_iadd hx hb dL_law_1380 ?_
        refine va_sld hx hb hX hbl hbA hS (lw_ix (k := 5) hL hin (by decide) (by decide)) dL_law_1381 ?_
        refine lv_if_eq (tgt := 1389) hx hb dL_law_1382 (by decide) (fun c_474 => ?_) (fun c_474 => ?_)
        · refine lv_iconst (v := 0) hx hb dL_law_1389 (by decide) ?_
          have hF := gFree hDM hS hA
          refine va_calllD hd0 (va_runV_D (As := [.int (xs ((nI (6 * j)) + 1).toNatClampNeg), .int (xs ((nI (6 * j)) + 2).toNatClampNeg), .int (xs ((nI (6 * j)) + 3).toNatClampNeg), .int (xs ((nI (6 * j)) + 4).toNatClampNeg), .int 0]) (rest := []) ⟨hx, hb, hml, hown, hts⟩ (n_X12_bracket l dC dI am cM adK adV H.size τ hIM (xs ((nI (6 * j)) + 1).toNatClampNeg) (xs ((nI (6 * j)) + 2).toNatClampNeg) (xs ((nI (6 * j)) + 3).toNatClampNeg) (xs ((nI (6 * j)) + 4).toNatClampNeg) 0 hDp) (cwV 5 hts gL0_X12_bracket rfl rfl rfl (by decide +kernel) ⟨Nat.le_of_ble_eq_true rfl, Nat.le_of_ble_eq_true rfl⟩) ⟨gBlind, va_recv hKM hPM (ci := 11) (q0 := 0) rfl (mat_11 rfl), gStart (As := [.ref (am 0), .int (xs ((nI (6 * j)) + 1).toNatClampNeg), .int (xs ((nI (6 * j)) + 2).toNatClampNeg), .int (xs ((nI (6 * j)) + 3).toNatClampNeg), .int (xs ((nI (6 * j)) + 4).toNatClampNeg), .int 0]) hPM hDM hKM0 hT hS hF (d_470)⟩ rfl rfl hl.1 rfl (lv_room (Nat.le_of_ble_eq_true rfl)) dL_law_1390 ⟨by omega, by omega⟩) hS (fun q _ h => hF q h) hF (fun r_475 τz_476 t H1 locs ht hvm hw hB hz1 hk1 hS d_477 hd0 => ?_)
          have hts := dr_words hts0 (d_477)
          have hKX := gKd hKX0 (d_477)
          have hKM := gKd hKM0 (d_477)
          have hown : (s.setDrawn (d_477)).vm.findClass RL = some m.cls := hown0
          have hX : va_X b L xs (s.setDrawn (d_477)) s.heap := hX0
          obtain ⟨hPM, hDM⟩ := gBack hF ht hB
          obtain ⟨hI_479, fc_480, hp_478⟩ := hw
          have hPX := gOther hPX hk1 (dj_sym (dj_G dj))
          have hPO := gOther hPO hk1 (dj_1 djM)
          generalize H1 = H at hPX hPM hPO hS ⊢
          have dp_481 : Deep τz_476 := (Deep.fr hDp (fc_480.1 2 (by decide) (by decide)) (fc_480.1 4 (by decide) (by decide)) (fc_480.1 9 (by decide) (by decide)) (fc_480.1 11 (by decide) (by decide)) (fc_480.1 12 (by decide) (by decide)) (fc_480.1 17 (by decide) (by decide)) (fc_480.1 18 (by decide) (by decide)) (fc_480.2 20 (by decide)) (fc_480.2 21 (by decide)) (fc_480.2 28 (by decide)) (fc_480.2 64 (by decide)) (fc_480.2 65 (by decide)) (fc_480.2 68 (by decide)))
          refine lv_pop2_2 hx hb dL_law_1393 rfl ?_
          refine lv_goto (tgt := 1850) hx hb dL_law_1394 (by decide) ?_
          obtain ⟨x_482, ex_482⟩ : ∃ zz : Int32, zz = (nI (6 * j)) + 6 := ⟨_, rfl⟩
          refine lv_iinc (v := x_482) (lv' := [(4, .int x_482), (3, .ref lo), (2, .ref (am 0)), (1, .ref (ad 0)), (0, .ref b)]) hx hb dL_law_1850 hl (k := 0) rfl (by rw [ex_482]; rfl) (by decide) rfl (fun ls hl => ?_)
          refine lv_goto (tgt := 23) hx hb dL_law_1853 (by decide) ?_
          have hl := lv_sub hl [0, 1, 2, 3, 4] rfl
          rw [ex_482, nI_6] at hl
          exact ih (j + 1) σz_469 τz_476 f _ _ _ _ _ _ (by omega) (by omega) hI_472 hI_479 dp_481 (by omega) (by omega) hd0 hPX hDX hPM hDM hPO hDO hS hl
        · exact absurd c_467 c_474
      · refine lv_iconst (v := 1) hx hb dL_law_1342 (by decide) ?_
        refine lv_goto (tgt := 1347) hx hb dL_law_1343 (by decide) ?_
        have hF := gFree hDX hS hA
        refine va_calllD hd0 (va_runV_D (As := [.int (xs ((nI (6 * j)) + 1).toNatClampNeg), .int (xs ((nI (6 * j)) + 2).toNatClampNeg), .int (xs ((nI (6 * j)) + 3).toNatClampNeg), .int (xs ((nI (6 * j)) + 4).toNatClampNeg), .int 1]) (rest := []) ⟨hx, hb, hml, hown, hts⟩ (n_X11_bracket l dC dI ad cA adK adV H.size σ hIX (xs ((nI (6 * j)) + 1).toNatClampNeg) (xs ((nI (6 * j)) + 2).toNatClampNeg) (xs ((nI (6 * j)) + 3).toNatClampNeg) (xs ((nI (6 * j)) + 4).toNatClampNeg) 1 ) (cwV 5 hts gL0_X11_bracket rfl rfl rfl (by decide +kernel) ⟨Nat.le_of_ble_eq_true rfl, Nat.le_of_ble_eq_true rfl⟩) ⟨gBlind, va_recv hKX hPX (ci := 10) (q0 := 0) rfl (at_10 rfl), gStart (As := [.ref (ad 0), .int (xs ((nI (6 * j)) + 1).toNatClampNeg), .int (xs ((nI (6 * j)) + 2).toNatClampNeg), .int (xs ((nI (6 * j)) + 3).toNatClampNeg), .int (xs ((nI (6 * j)) + 4).toNatClampNeg), .int 1]) hPX hDX hKX0 hT hS hF (d)⟩ rfl rfl hl.1 rfl (lv_room (Nat.le_of_ble_eq_true rfl)) dL_law_1347 ⟨by omega, by omega⟩) hS (fun q _ h => hF q h) hF (fun r_483 σz_484 t H1 locs ht hvm hw hB hz1 hk1 hS d_485 hd0 => ?_)
        have hts := dr_words hts0 (d_485)
        have hKX := gKd hKX0 (d_485)
        have hKM := gKd hKM0 (d_485)
        have hown : (s.setDrawn (d_485)).vm.findClass RL = some m.cls := hown0
        have hX : va_X b L xs (s.setDrawn (d_485)) s.heap := hX0
        obtain ⟨hPX, hDX⟩ := gBack hF ht hB
        obtain ⟨hI_487, fc_488, hp_486⟩ := hw
        have hPM := gOther hPM hk1 (dj_G dj)
        have hPO := gOther hPO hk1 (dj_1 djX)
        generalize H1 = H at hPX hPM hPO hS ⊢
        refine lv_pop2_2 hx hb dL_law_1350 rfl ?_
        refine lv_aload_n hx hb dL_law_1351 rfl (lv_at hl 2 rfl) ?_
        refine lv_aload_n hx hb dL_law_1352 rfl (lv_at hl 4 rfl) ?_
        refine lv_iload hx hb dL_law_1353 (lv_at hl 0 rfl) ?_
        refine lv_iconst (v := 1) hx hb dL_law_1355 (by decide) ?_
        refine lv_iadd hx hb dL_law_1356 ?_
        refine va_sld hx hb hX hbl hbA hS (lw_ix (k := 1) hL hin (by decide) (by decide)) dL_law_1357 ?_
        refine lv_aload_n hx hb dL_law_1358 rfl (lv_at hl 4 rfl) ?_
        refine lv_iload hx hb dL_law_1359 (lv_at hl 0 rfl) ?_
        refine lv_iconst (v := 2) hx hb dL_law_1361 (by decide) ?_
        refine lv_iadd hx hb dL_law_1362 ?_
        refine va_sld hx hb hX hbl hbA hS (lw_ix (k := 2) hL hin (by decide) (by decide)) dL_law_1363 ?_
        refine lv_aload_n hx hb dL_law_1364 rfl (lv_at hl 4 rfl) ?_
        refine lv_iload hx hb dL_law_1365 (lv_at hl 0 rfl) ?_
        refine lv_iconst (v := 3) hx hb dL_law_1367 (by decide) ?_
        refine lv_iadd hx hb dL_law_1368 ?_
        refine va_sld hx hb hX hbl hbA hS (lw_ix (k := 3) hL hin (by decide) (by decide)) dL_law_1369 ?_
        refine lv_aload_n hx hb dL_law_1370 rfl (lv_at hl 4 rfl) ?_
        refine lv_iload hx hb dL_law_1371 (lv_at hl 0 rfl) ?_
        refine lv_iconst (v := 4) hx hb dL_law_1373 (by decide) ?_
        refine lv_iadd hx hb dL_law_1374 ?_
        refine va_sld hx hb hX hbl hbA hS (lw_ix (k := 4) hL hin (by decide) (by decide)) dL_law_1375 ?_
        refine lv_aload_n hx hb dL_law_1376 rfl (lv_at hl 4 rfl) ?_
        refine lv_iload hx hb dL_law_1377 (lv_at hl 0 rfl) ?_
        refine lv_iconst (v := 5) hx hb dL_law_1379 (by decide) ?_
        refine lv_iadd hx hb dL_law_1380 ?_
        refine va_sld hx hb hX hbl hbA hS (lw_ix (k := 5) hL hin (by decide) (by decide)) dL_law_1381 ?_
        refine lv_if_eq (tgt := 1389) hx hb dL_law_1382 (by decide) (fun c_489 => ?_) (fun c_489 => ?_)
        · exact absurd c_489 c_467
        · refine lv_iconst (v := 1) hx hb dL_law_1385 (by decide) ?_
          refine lv_goto (tgt := 1390) hx hb dL_law_1386 (by decide) ?_
          have hF := gFree hDM hS hA
          refine va_calllD hd0 (va_runV_D (As := [.int (xs ((nI (6 * j)) + 1).toNatClampNeg), .int (xs ((nI (6 * j)) + 2).toNatClampNeg), .int (xs ((nI (6 * j)) + 3).toNatClampNeg), .int (xs ((nI (6 * j)) + 4).toNatClampNeg), .int 1]) (rest := []) ⟨hx, hb, hml, hown, hts⟩ (n_X12_bracket l dC dI am cM adK adV H.size τ hIM (xs ((nI (6 * j)) + 1).toNatClampNeg) (xs ((nI (6 * j)) + 2).toNatClampNeg) (xs ((nI (6 * j)) + 3).toNatClampNeg) (xs ((nI (6 * j)) + 4).toNatClampNeg) 1 hDp) (cwV 5 hts gL0_X12_bracket rfl rfl rfl (by decide +kernel) ⟨Nat.le_of_ble_eq_true rfl, Nat.le_of_ble_eq_true rfl⟩) ⟨gBlind, va_recv hKM hPM (ci := 11) (q0 := 0) rfl (mat_11 rfl), gStart (As := [.ref (am 0), .int (xs ((nI (6 * j)) + 1).toNatClampNeg), .int (xs ((nI (6 * j)) + 2).toNatClampNeg), .int (xs ((nI (6 * j)) + 3).toNatClampNeg), .int (xs ((nI (6 * j)) + 4).toNatClampNeg), .int 1]) hPM hDM hKM0 hT hS hF (d_485)⟩ rfl rfl hl.1 rfl (lv_room (Nat.le_of_ble_eq_true rfl)) dL_law_1390 ⟨by omega, by omega⟩) hS (fun q _ h => hF q h) hF (fun r_490 τz_491 t H1 locs ht hvm hw hB hz1 hk1 hS d_492 hd0 => ?_)
          have hts := dr_words hts0 (d_492)
          have hKX := gKd hKX0 (d_492)
          have hKM := gKd hKM0 (d_492)
          have hown : (s.setDrawn (d_492)).vm.findClass RL = some m.cls := hown0
          have hX : va_X b L xs (s.setDrawn (d_492)) s.heap := hX0
          obtain ⟨hPM, hDM⟩ := gBack hF ht hB
          obtain ⟨hI_494, fc_495, hp_493⟩ := hw
          have hPX := gOther hPX hk1 (dj_sym (dj_G dj))
          have hPO := gOther hPO hk1 (dj_1 djM)
          generalize H1 = H at hPX hPM hPO hS ⊢
          have dp_496 : Deep τz_491 := (Deep.fr hDp (fc_495.1 2 (by decide) (by decide)) (fc_495.1 4 (by decide) (by decide)) (fc_495.1 9 (by decide) (by decide)) (fc_495.1 11 (by decide) (by decide)) (fc_495.1 12 (by decide) (by decide)) (fc_495.1 17 (by decide) (by decide)) (fc_495.1 18 (by decide) (by decide)) (fc_495.2 20 (by decide)) (fc_495.2 21 (by decide)) (fc_495.2 28 (by decide)) (fc_495.2 64 (by decide)) (fc_495.2 65 (by decide)) (fc_495.2 68 (by decide)))
          refine lv_pop2_2 hx hb dL_law_1393 rfl ?_
          refine lv_goto (tgt := 1850) hx hb dL_law_1394 (by decide) ?_
          obtain ⟨x_497, ex_497⟩ : ∃ zz : Int32, zz = (nI (6 * j)) + 6 := ⟨_, rfl⟩
          refine lv_iinc (v := x_497) (lv' := [(4, .int x_497), (3, .ref lo), (2, .ref (am 0)), (1, .ref (ad 0)), (0, .ref b)]) hx hb dL_law_1850 hl (k := 0) rfl (by rw [ex_497]; rfl) (by decide) rfl (fun ls hl => ?_)
          refine lv_goto (tgt := 23) hx hb dL_law_1853 (by decide) ?_
          have hl := lv_sub hl [0, 1, 2, 3, 4] rfl
          rw [ex_497, nI_6] at hl
          exact ih (j + 1) σz_484 τz_491 f _ _ _ _ _ _ (by omega) (by omega) hI_487 hI_494 dp_496 (by omega) (by omega) hd0 hPX hDX hPM hDM hPO hDO hS hl
    by_cases c_498 : ((xs (nI (6 * j)).toNatClampNeg) &&& 63) = 25
    · refine lv_tableIn (tgt := 1397) hx hb dL_law_40 (by rw [c_498]; decide) (by rw [c_498]; decide) (by rw [c_498]; rfl) (by decide) ?_
      refine lv_aload_n hx hb dL_law_1397 rfl (lv_at hl 3 rfl) ?_
      refine lv_aload_n hx hb dL_law_1398 rfl (lv_at hl 4 rfl) ?_
      refine lv_iload hx hb dL_law_1399 (lv_at hl 0 rfl) ?_
      refine lv_iconst (v := 1) hx hb dL_law_1401 (by decide) ?_
      refine lv_iadd hx hb dL_law_1402 ?_
      refine va_sld hx hb hX hbl hbA hS (lw_ix (k := 1) hL hin (by decide) (by decide)) dL_law_1403 ?_
      refine lv_aload_n hx hb dL_law_1404 rfl (lv_at hl 4 rfl) ?_
      refine lv_iload hx hb dL_law_1405 (lv_at hl 0 rfl) ?_
      refine lv_iconst (v := 2) hx hb dL_law_1407 (by decide) ?_
      refine lv_iadd hx hb dL_law_1408 ?_
      refine va_sld hx hb hX hbl hbA hS (lw_ix (k := 2) hL hin (by decide) (by decide)) dL_law_1409 ?_
      refine lv_aload_n hx hb dL_law_1410 rfl (lv_at hl 4 rfl) ?_
      refine lv_iload hx hb dL_law_1411 (lv_at hl 0 rfl) ?_
      refine lv_iconst (v := 3) hx hb dL_law_1413 (by decide) ?_
      refine lv_iadd hx hb dL_law_1414 ?_
      refine va_sld hx hb hX hbl hbA hS (lw_ix (k := 3) hL hin (by decide) (by decide)) dL_law_1415 ?_
      have hF := gFree hDX hS hA
      refine va_calliD hd0 (va_runV_D (As := [.int (xs ((nI (6 * j)) + 1).toNatClampNeg), .int (xs ((nI (6 * j)) + 2).toNatClampNeg), .int (xs ((nI (6 * j)) + 3).toNatClampNeg)]) (rest := []) ⟨hx, hb, hml, hown, hts⟩ (n_X11_narrows l dC dI ad cA adK adV H.size σ hIX (xs ((nI (6 * j)) + 1).toNatClampNeg) (xs ((nI (6 * j)) + 2).toNatClampNeg) (xs ((nI (6 * j)) + 3).toNatClampNeg) ) (cwV 3 hts gL0_X11_narrows rfl rfl rfl (by decide +kernel) ⟨Nat.le_of_ble_eq_true rfl, Nat.le_of_ble_eq_true rfl⟩) ⟨gBlind, va_recv hKX hPX (ci := 10) (q0 := 0) rfl (at_10 rfl), gStart (As := [.ref (ad 0), .int (xs ((nI (6 * j)) + 1).toNatClampNeg), .int (xs ((nI (6 * j)) + 2).toNatClampNeg), .int (xs ((nI (6 * j)) + 3).toNatClampNeg)]) hPX hDX hKX0 hT hS hF (d)⟩ rfl rfl hl.1 rfl (lv_room (Nat.le_of_ble_eq_true rfl)) dL_law_1416 ⟨by omega, by omega⟩) hS (fun q _ h => hF q h) hF (fun r_499 σz_500 t H1 locs ht hvm hw hB hz1 hk1 hS d_501 hd0 => ?_)
      have hts := dr_words hts0 (d_501)
      have hKX := gKd hKX0 (d_501)
      have hKM := gKd hKM0 (d_501)
      have hown : (s.setDrawn (d_501)).vm.findClass RL = some m.cls := hown0
      have hX : va_X b L xs (s.setDrawn (d_501)) s.heap := hX0
      obtain ⟨hPX, hDX⟩ := gBack hF ht hB
      obtain ⟨hI_503, fc_504, hp_502⟩ := hw
      have hPM := gOther hPM hk1 (dj_G dj)
      have hPO := gOther hPO hk1 (dj_1 djX)
      generalize H1 = H at hPX hPM hPO hS ⊢
      refine lv_pop hx hb dL_law_1419 rfl ?_
      refine lv_aload_n hx hb dL_law_1420 rfl (lv_at hl 2 rfl) ?_
      refine lv_aload_n hx hb dL_law_1421 rfl (lv_at hl 4 rfl) ?_
      refine lv_iload hx hb dL_law_1422 (lv_at hl 0 rfl) ?_
      refine lv_iconst (v := 1) hx hb dL_law_1424 (by decide) ?_
      refine lv_iadd hx hb dL_law_1425 ?_
      refine va_sld hx hb hX hbl hbA hS (lw_ix (k := 1) hL hin (by decide) (by decide)) dL_law_1426 ?_
      refine lv_aload_n hx hb dL_law_1427 rfl (lv_at hl 4 rfl) ?_
      refine lv_iload hx hb dL_law_1428 (lv_at hl 0 rfl) ?_
      refine lv_iconst (v := 2) hx hb dL_law_1430 (by decide) ?_
      refine lv_iadd hx hb dL_law_1431 ?_
      refine va_sld hx hb hX hbl hbA hS (lw_ix (k := 2) hL hin (by decide) (by decide)) dL_law_1432 ?_
      refine lv_aload_n hx hb dL_law_1433 rfl (lv_at hl 4 rfl) ?_
      refine lv_iload hx hb dL_law_1434 (lv_at hl 0 rfl) ?_
      refine lv_iconst (v := 3) hx hb dL_law_1436 (by decide) ?_
      refine lv_iadd hx hb dL_law_1437 ?_
      refine va_sld hx hb hX hbl hbA hS (lw_ix (k := 3) hL hin (by decide) (by decide)) dL_law_1438 ?_
      have hF := gFree hDM hS hA
      refine va_calliD hd0 (va_runV_D (As := [.int (xs ((nI (6 * j)) + 1).toNatClampNeg), .int (xs ((nI (6 * j)) + 2).toNatClampNeg), .int (xs ((nI (6 * j)) + 3).toNatClampNeg)]) (rest := []) ⟨hx, hb, hml, hown, hts⟩ (n_X12_narrows l dC dI am cM adK adV H.size τ hIM (xs ((nI (6 * j)) + 1).toNatClampNeg) (xs ((nI (6 * j)) + 2).toNatClampNeg) (xs ((nI (6 * j)) + 3).toNatClampNeg) hDp) (cwV 3 hts gL0_X12_narrows rfl rfl rfl (by decide +kernel) ⟨Nat.le_of_ble_eq_true rfl, Nat.le_of_ble_eq_true rfl⟩) ⟨gBlind, va_recv hKM hPM (ci := 11) (q0 := 0) rfl (mat_11 rfl), gStart (As := [.ref (am 0), .int (xs ((nI (6 * j)) + 1).toNatClampNeg), .int (xs ((nI (6 * j)) + 2).toNatClampNeg), .int (xs ((nI (6 * j)) + 3).toNatClampNeg)]) hPM hDM hKM0 hT hS hF (d_501)⟩ rfl rfl hl.1 rfl (lv_room (Nat.le_of_ble_eq_true rfl)) dL_law_1439 ⟨by omega, by omega⟩) hS (fun q _ h => hF q h) hF (fun r_505 τz_506 t H1 locs ht hvm hw hB hz1 hk1 hS d_507 hd0 => ?_)
      have hts := dr_words hts0 (d_507)
      have hKX := gKd hKX0 (d_507)
      have hKM := gKd hKM0 (d_507)
      have hown : (s.setDrawn (d_507)).vm.findClass RL = some m.cls := hown0
      have hX : va_X b L xs (s.setDrawn (d_507)) s.heap := hX0
      obtain ⟨hPM, hDM⟩ := gBack hF ht hB
      obtain ⟨hI_509, fc_510, hp_508⟩ := hw
      have hPX := gOther hPX hk1 (dj_sym (dj_G dj))
      have hPO := gOther hPO hk1 (dj_1 djM)
      generalize H1 = H at hPX hPM hPO hS ⊢
      have dp_511 : Deep τz_506 := (Deep.fr hDp (fc_510.1 2 (by decide) (by decide)) (fc_510.1 4 (by decide) (by decide)) (fc_510.1 9 (by decide) (by decide)) (fc_510.1 11 (by decide) (by decide)) (fc_510.1 12 (by decide) (by decide)) (fc_510.1 17 (by decide) (by decide)) (fc_510.1 18 (by decide) (by decide)) (fc_510.2 20 (by decide)) (fc_510.2 21 (by decide)) (fc_510.2 28 (by decide)) (fc_510.2 64 (by decide)) (fc_510.2 65 (by decide)) (fc_510.2 68 (by decide)))
      refine lv_pop hx hb dL_law_1442 rfl ?_
      refine lv_goto (tgt := 1850) hx hb dL_law_1443 (by decide) ?_
      obtain ⟨x_512, ex_512⟩ : ∃ zz : Int32, zz = (nI (6 * j)) + 6 := ⟨_, rfl⟩
      refine lv_iinc (v := x_512) (lv' := [(4, .int x_512), (3, .ref lo), (2, .ref (am 0)), (1, .ref (ad 0)), (0, .ref b)]) hx hb dL_law_1850 hl (k := 0) rfl (by rw [ex_512]; rfl) (by decide) rfl (fun ls hl => ?_)
      refine lv_goto (tgt := 23) hx hb dL_law_1853 (by decide) ?_
      have hl := lv_sub hl [0, 1, 2, 3, 4] rfl
      rw [ex_512, nI_6] at hl
      exact ih (j + 1) σz_500 τz_506 f _ _ _ _ _ _ (by omega) (by omega) hI_503 hI_509 dp_511 (by omega) (by omega) hd0 hPX hDX hPM hDM hPO hDO hS hl
    by_cases c_513 : ((xs (nI (6 * j)).toNatClampNeg) &&& 63) = 26
    · refine lv_tableIn (tgt := 1446) hx hb dL_law_40 (by rw [c_513]; decide) (by rw [c_513]; decide) (by rw [c_513]; rfl) (by decide) ?_
      refine lv_aload_n hx hb dL_law_1446 rfl (lv_at hl 3 rfl) ?_
      refine lv_aload_n hx hb dL_law_1447 rfl (lv_at hl 4 rfl) ?_
      refine lv_iload hx hb dL_law_1448 (lv_at hl 0 rfl) ?_
      refine lv_iconst (v := 1) hx hb dL_law_1450 (by decide) ?_
      refine lv_iadd hx hb dL_law_1451 ?_
      refine va_sld hx hb hX hbl hbA hS (lw_ix (k := 1) hL hin (by decide) (by decide)) dL_law_1452 ?_
      refine lv_aload_n hx hb dL_law_1453 rfl (lv_at hl 4 rfl) ?_
      refine lv_iload hx hb dL_law_1454 (lv_at hl 0 rfl) ?_
      refine lv_iconst (v := 2) hx hb dL_law_1456 (by decide) ?_
      refine lv_iadd hx hb dL_law_1457 ?_
      refine va_sld hx hb hX hbl hbA hS (lw_ix (k := 2) hL hin (by decide) (by decide)) dL_law_1458 ?_
      refine lv_aload_n hx hb dL_law_1459 rfl (lv_at hl 4 rfl) ?_
      refine lv_iload hx hb dL_law_1460 (lv_at hl 0 rfl) ?_
      refine lv_iconst (v := 3) hx hb dL_law_1462 (by decide) ?_
      refine lv_iadd hx hb dL_law_1463 ?_
      refine va_sld hx hb hX hbl hbA hS (lw_ix (k := 3) hL hin (by decide) (by decide)) dL_law_1464 ?_
      have hF := gFree hDX hS hA
      refine va_calliD hd0 (va_runV_D (As := [.int (xs ((nI (6 * j)) + 1).toNatClampNeg), .int (xs ((nI (6 * j)) + 2).toNatClampNeg), .int (xs ((nI (6 * j)) + 3).toNatClampNeg)]) (rest := []) ⟨hx, hb, hml, hown, hts⟩ (n_X11_pointsAt l dC dI ad cA adK adV H.size σ hIX (xs ((nI (6 * j)) + 1).toNatClampNeg) (xs ((nI (6 * j)) + 2).toNatClampNeg) (xs ((nI (6 * j)) + 3).toNatClampNeg) ) (cwV 3 hts gL0_X11_pointsAt rfl rfl rfl (by decide +kernel) ⟨Nat.le_of_ble_eq_true rfl, Nat.le_of_ble_eq_true rfl⟩) ⟨gBlind, va_recv hKX hPX (ci := 10) (q0 := 0) rfl (at_10 rfl), gStart (As := [.ref (ad 0), .int (xs ((nI (6 * j)) + 1).toNatClampNeg), .int (xs ((nI (6 * j)) + 2).toNatClampNeg), .int (xs ((nI (6 * j)) + 3).toNatClampNeg)]) hPX hDX hKX0 hT hS hF (d)⟩ rfl rfl hl.1 rfl (lv_room (Nat.le_of_ble_eq_true rfl)) dL_law_1465 ⟨by omega, by omega⟩) hS (fun q _ h => hF q h) hF (fun r_514 σz_515 t H1 locs ht hvm hw hB hz1 hk1 hS d_516 hd0 => ?_)
      have hts := dr_words hts0 (d_516)
      have hKX := gKd hKX0 (d_516)
      have hKM := gKd hKM0 (d_516)
      have hown : (s.setDrawn (d_516)).vm.findClass RL = some m.cls := hown0
      have hX : va_X b L xs (s.setDrawn (d_516)) s.heap := hX0
      obtain ⟨hPX, hDX⟩ := gBack hF ht hB
      obtain ⟨hI_518, fc_519, hp_517⟩ := hw
      have hPM := gOther hPM hk1 (dj_G dj)
      have hPO := gOther hPO hk1 (dj_1 djX)
      generalize H1 = H at hPX hPM hPO hS ⊢
      refine lv_pop hx hb dL_law_1468 rfl ?_
      refine lv_aload_n hx hb dL_law_1469 rfl (lv_at hl 2 rfl) ?_
      refine lv_aload_n hx hb dL_law_1470 rfl (lv_at hl 4 rfl) ?_
      refine lv_iload hx hb dL_law_1471 (lv_at hl 0 rfl) ?_
      refine lv_iconst (v := 1) hx hb dL_law_1473 (by decide) ?_
      refine lv_iadd hx hb dL_law_1474 ?_
      refine va_sld hx hb hX hbl hbA hS (lw_ix (k := 1) hL hin (by decide) (by decide)) dL_law_1475 ?_
      refine lv_aload_n hx hb dL_law_1476 rfl (lv_at hl 4 rfl) ?_
      refine lv_iload hx hb dL_law_1477 (lv_at hl 0 rfl) ?_
      refine lv_iconst (v := 2) hx hb dL_law_1479 (by decide) ?_
      refine lv_iadd hx hb dL_law_1480 ?_
      refine va_sld hx hb hX hbl hbA hS (lw_ix (k := 2) hL hin (by decide) (by decide)) dL_law_1481 ?_
      refine lv_aload_n hx hb dL_law_1482 rfl (lv_at hl 4 rfl) ?_
      refine lv_iload hx hb dL_law_1483 (lv_at hl 0 rfl) ?_
      refine lv_iconst (v := 3) hx hb dL_law_1485 (by decide) ?_
      refine lv_iadd hx hb dL_law_1486 ?_
      refine va_sld hx hb hX hbl hbA hS (lw_ix (k := 3) hL hin (by decide) (by decide)) dL_law_1487 ?_
      have hF := gFree hDM hS hA
      refine va_calliD hd0 (va_runV_D (As := [.int (xs ((nI (6 * j)) + 1).toNatClampNeg), .int (xs ((nI (6 * j)) + 2).toNatClampNeg), .int (xs ((nI (6 * j)) + 3).toNatClampNeg)]) (rest := []) ⟨hx, hb, hml, hown, hts⟩ (n_X12_pointsAt l dC dI am cM adK adV H.size τ hIM (xs ((nI (6 * j)) + 1).toNatClampNeg) (xs ((nI (6 * j)) + 2).toNatClampNeg) (xs ((nI (6 * j)) + 3).toNatClampNeg) hDp) (cwV 3 hts gL0_X12_pointsAt rfl rfl rfl (by decide +kernel) ⟨Nat.le_of_ble_eq_true rfl, Nat.le_of_ble_eq_true rfl⟩) ⟨gBlind, va_recv hKM hPM (ci := 11) (q0 := 0) rfl (mat_11 rfl), gStart (As := [.ref (am 0), .int (xs ((nI (6 * j)) + 1).toNatClampNeg), .int (xs ((nI (6 * j)) + 2).toNatClampNeg), .int (xs ((nI (6 * j)) + 3).toNatClampNeg)]) hPM hDM hKM0 hT hS hF (d_516)⟩ rfl rfl hl.1 rfl (lv_room (Nat.le_of_ble_eq_true rfl)) dL_law_1488 ⟨by omega, by omega⟩) hS (fun q _ h => hF q h) hF (fun r_520 τz_521 t H1 locs ht hvm hw hB hz1 hk1 hS d_522 hd0 => ?_)
      have hts := dr_words hts0 (d_522)
      have hKX := gKd hKX0 (d_522)
      have hKM := gKd hKM0 (d_522)
      have hown : (s.setDrawn (d_522)).vm.findClass RL = some m.cls := hown0
      have hX : va_X b L xs (s.setDrawn (d_522)) s.heap := hX0
      obtain ⟨hPM, hDM⟩ := gBack hF ht hB
      obtain ⟨hI_524, fc_525, hp_523⟩ := hw
      have hPX := gOther hPX hk1 (dj_sym (dj_G dj))
      have hPO := gOther hPO hk1 (dj_1 djM)
      generalize H1 = H at hPX hPM hPO hS ⊢
      have dp_526 : Deep τz_521 := (Deep.fr hDp (fc_525.1 2 (by decide) (by decide)) (fc_525.1 4 (by decide) (by decide)) (fc_525.1 9 (by decide) (by decide)) (fc_525.1 11 (by decide) (by decide)) (fc_525.1 12 (by decide) (by decide)) (fc_525.1 17 (by decide) (by decide)) (fc_525.1 18 (by decide) (by decide)) (fc_525.2 20 (by decide)) (fc_525.2 21 (by decide)) (fc_525.2 28 (by decide)) (fc_525.2 64 (by decide)) (fc_525.2 65 (by decide)) (fc_525.2 68 (by decide)))
      refine lv_pop hx hb dL_law_1491 rfl ?_
      refine lv_goto (tgt := 1850) hx hb dL_law_1492 (by decide) ?_
      obtain ⟨x_527, ex_527⟩ : ∃ zz : Int32, zz = (nI (6 * j)) + 6 := ⟨_, rfl⟩
      refine lv_iinc (v := x_527) (lv' := [(4, .int x_527), (3, .ref lo), (2, .ref (am 0)), (1, .ref (ad 0)), (0, .ref b)]) hx hb dL_law_1850 hl (k := 0) rfl (by rw [ex_527]; rfl) (by decide) rfl (fun ls hl => ?_)
      refine lv_goto (tgt := 23) hx hb dL_law_1853 (by decide) ?_
      have hl := lv_sub hl [0, 1, 2, 3, 4] rfl
      rw [ex_527, nI_6] at hl
      exact ih (j + 1) σz_515 τz_521 f _ _ _ _ _ _ (by omega) (by omega) hI_518 hI_524 dp_526 (by omega) (by omega) hd0 hPX hDX hPM hDM hPO hDO hS hl
    by_cases c_528 : ((xs (nI (6 * j)).toNatClampNeg) &&& 63) = 27
    · refine lv_tableIn (tgt := 1495) hx hb dL_law_40 (by rw [c_528]; decide) (by rw [c_528]; decide) (by rw [c_528]; rfl) (by decide) ?_
      refine lv_aload_n hx hb dL_law_1495 rfl (lv_at hl 3 rfl) ?_
      refine lv_aload_n hx hb dL_law_1496 rfl (lv_at hl 4 rfl) ?_
      refine lv_iload hx hb dL_law_1497 (lv_at hl 0 rfl) ?_
      refine lv_iconst (v := 1) hx hb dL_law_1499 (by decide) ?_
      refine lv_iadd hx hb dL_law_1500 ?_
      refine va_sld hx hb hX hbl hbA hS (lw_ix (k := 1) hL hin (by decide) (by decide)) dL_law_1501 ?_
      refine lv_aload_n hx hb dL_law_1502 rfl (lv_at hl 4 rfl) ?_
      refine lv_iload hx hb dL_law_1503 (lv_at hl 0 rfl) ?_
      refine lv_iconst (v := 2) hx hb dL_law_1505 (by decide) ?_
      refine lv_iadd hx hb dL_law_1506 ?_
      refine va_sld hx hb hX hbl hbA hS (lw_ix (k := 2) hL hin (by decide) (by decide)) dL_law_1507 ?_
      have hF := gFree hDX hS hA
      refine va_calliD hd0 (va_runV_D (As := [.int (xs ((nI (6 * j)) + 1).toNatClampNeg), .int (xs ((nI (6 * j)) + 2).toNatClampNeg)]) (rest := []) ⟨hx, hb, hml, hown, hts⟩ (n_X11_quote l dC dI ad cA adK adV H.size σ hIX (xs ((nI (6 * j)) + 1).toNatClampNeg) (xs ((nI (6 * j)) + 2).toNatClampNeg) ) (cwV 2 hts gL0_X11_quote rfl rfl rfl (by decide +kernel) ⟨Nat.le_of_ble_eq_true rfl, Nat.le_of_ble_eq_true rfl⟩) ⟨gBlind, va_recv hKX hPX (ci := 10) (q0 := 0) rfl (at_10 rfl), gStart (As := [.ref (ad 0), .int (xs ((nI (6 * j)) + 1).toNatClampNeg), .int (xs ((nI (6 * j)) + 2).toNatClampNeg)]) hPX hDX hKX0 hT hS hF (d)⟩ rfl rfl hl.1 rfl (lv_room (Nat.le_of_ble_eq_true rfl)) dL_law_1508 ⟨by omega, by omega⟩) hS (fun q _ h => hF q h) hF (fun r_529 σz_530 t H1 locs ht hvm hw hB hz1 hk1 hS d_531 hd0 => ?_)
      have hts := dr_words hts0 (d_531)
      have hKX := gKd hKX0 (d_531)
      have hKM := gKd hKM0 (d_531)
      have hown : (s.setDrawn (d_531)).vm.findClass RL = some m.cls := hown0
      have hX : va_X b L xs (s.setDrawn (d_531)) s.heap := hX0
      obtain ⟨hPX, hDX⟩ := gBack hF ht hB
      obtain ⟨hI_533, fc_534, hp_532⟩ := hw
      have hPM := gOther hPM hk1 (dj_G dj)
      have hPO := gOther hPO hk1 (dj_1 djX)
      generalize H1 = H at hPX hPM hPO hS ⊢
      refine lv_pop hx hb dL_law_1511 rfl ?_
      refine lv_aload_n hx hb dL_law_1512 rfl (lv_at hl 2 rfl) ?_
      refine lv_aload_n hx hb dL_law_1513 rfl (lv_at hl 4 rfl) ?_
      refine lv_iload hx hb dL_law_1514 (lv_at hl 0 rfl) ?_
      refine lv_iconst (v := 1) hx hb dL_law_1516 (by decide) ?_
      refine lv_iadd hx hb dL_law_1517 ?_
      refine va_sld hx hb hX hbl hbA hS (lw_ix (k := 1) hL hin (by decide) (by decide)) dL_law_1518 ?_
      refine lv_aload_n hx hb dL_law_1519 rfl (lv_at hl 4 rfl) ?_
      refine lv_iload hx hb dL_law_1520 (lv_at hl 0 rfl) ?_
      refine lv_iconst (v := 2) hx hb dL_law_1522 (by decide) ?_
      refine lv_iadd hx hb dL_law_1523 ?_
      refine va_sld hx hb hX hbl hbA hS (lw_ix (k := 2) hL hin (by decide) (by decide)) dL_law_1524 ?_
      have hF := gFree hDM hS hA
      refine va_calliD hd0 (va_runV_D (As := [.int (xs ((nI (6 * j)) + 1).toNatClampNeg), .int (xs ((nI (6 * j)) + 2).toNatClampNeg)]) (rest := []) ⟨hx, hb, hml, hown, hts⟩ (n_X12_quote l dC dI am cM adK adV H.size τ hIM (xs ((nI (6 * j)) + 1).toNatClampNeg) (xs ((nI (6 * j)) + 2).toNatClampNeg) ) (cwV 2 hts gL0_X12_quote rfl rfl rfl (by decide +kernel) ⟨Nat.le_of_ble_eq_true rfl, Nat.le_of_ble_eq_true rfl⟩) ⟨gBlind, va_recv hKM hPM (ci := 11) (q0 := 0) rfl (mat_11 rfl), gStart (As := [.ref (am 0), .int (xs ((nI (6 * j)) + 1).toNatClampNeg), .int (xs ((nI (6 * j)) + 2).toNatClampNeg)]) hPM hDM hKM0 hT hS hF (d_531)⟩ rfl rfl hl.1 rfl (lv_room (Nat.le_of_ble_eq_true rfl)) dL_law_1525 ⟨by omega, by omega⟩) hS (fun q _ h => hF q h) hF (fun r_535 τz_536 t H1 locs ht hvm hw hB hz1 hk1 hS d_537 hd0 => ?_)
      have hts := dr_words hts0 (d_537)
      have hKX := gKd hKX0 (d_537)
      have hKM := gKd hKM0 (d_537)
      have hown : (s.setDrawn (d_537)).vm.findClass RL = some m.cls := hown0
      have hX : va_X b L xs (s.setDrawn (d_537)) s.heap := hX0
      obtain ⟨hPM, hDM⟩ := gBack hF ht hB
      obtain ⟨hI_539, fc_540, hp_538⟩ := hw
      have hPX := gOther hPX hk1 (dj_sym (dj_G dj))
      have hPO := gOther hPO hk1 (dj_1 djM)
      generalize H1 = H at hPX hPM hPO hS ⊢
      have dp_541 : Deep τz_536 := (Deep.fr hDp (fc_540.1 2 (by decide) (by decide)) (fc_540.1 4 (by decide) (by decide)) (fc_540.1 9 (by decide) (by decide)) (fc_540.1 11 (by decide) (by decide)) (fc_540.1 12 (by decide) (by decide)) (fc_540.1 17 (by decide) (by decide)) (fc_540.1 18 (by decide) (by decide)) (fc_540.2 20 (by decide)) (fc_540.2 21 (by decide)) (fc_540.2 28 (by decide)) (fc_540.2 64 (by decide)) (fc_540.2 65 (by decide)) (fc_540.2 68 (by decide)))
      refine lv_pop hx hb dL_law_1528 rfl ?_
      refine lv_goto (tgt := 1850) hx hb dL_law_1529 (by decide) ?_
      obtain ⟨x_542, ex_542⟩ : ∃ zz : Int32, zz = (nI (6 * j)) + 6 := ⟨_, rfl⟩
      refine lv_iinc (v := x_542) (lv' := [(4, .int x_542), (3, .ref lo), (2, .ref (am 0)), (1, .ref (ad 0)), (0, .ref b)]) hx hb dL_law_1850 hl (k := 0) rfl (by rw [ex_542]; rfl) (by decide) rfl (fun ls hl => ?_)
      refine lv_goto (tgt := 23) hx hb dL_law_1853 (by decide) ?_
      have hl := lv_sub hl [0, 1, 2, 3, 4] rfl
      rw [ex_542, nI_6] at hl
      exact ih (j + 1) σz_530 τz_536 f _ _ _ _ _ _ (by omega) (by omega) hI_533 hI_539 dp_541 (by omega) (by omega) hd0 hPX hDX hPM hDM hPO hDO hS hl
    by_cases c_543 : ((xs (nI (6 * j)).toNatClampNeg) &&& 63) = 28
    · refine lv_tableIn (tgt := 1532) hx hb dL_law_40 (by rw [c_543]; decide) (by rw [c_543]; decide) (by rw [c_543]; rfl) (by decide) ?_
      refine lv_aload_n hx hb dL_law_1532 rfl (lv_at hl 3 rfl) ?_
      refine lv_aload_n hx hb dL_law_1533 rfl (lv_at hl 4 rfl) ?_
      refine lv_iload hx hb dL_law_1534 (lv_at hl 0 rfl) ?_
      refine lv_iconst (v := 1) hx hb dL_law_1536 (by decide) ?_
      refine lv_iadd hx hb dL_law_1537 ?_
      refine va_sld hx hb hX hbl hbA hS (lw_ix (k := 1) hL hin (by decide) (by decide)) dL_law_1538 ?_
      have hF := gFree hDX hS hA
      refine va_calllD hd0 (va_runV_D (As := [.int (xs ((nI (6 * j)) + 1).toNatClampNeg)]) (rest := []) ⟨hx, hb, hml, hown, hts⟩ (n_X11_off l dC dI ad cA adK adV H.size σ hIX (xs ((nI (6 * j)) + 1).toNatClampNeg) ) (cwV 1 hts gL0_X11_off rfl rfl rfl (by decide +kernel) ⟨Nat.le_of_ble_eq_true rfl, Nat.le_of_ble_eq_true rfl⟩) ⟨gBlind, va_recv hKX hPX (ci := 10) (q0 := 0) rfl (at_10 rfl), gStart (As := [.ref (ad 0), .int (xs ((nI (6 * j)) + 1).toNatClampNeg)]) hPX hDX hKX0 hT hS hF (d)⟩ rfl rfl hl.1 rfl (lv_room (Nat.le_of_ble_eq_true rfl)) dL_law_1539 ⟨by omega, by omega⟩) hS (fun q _ h => hF q h) hF (fun r_544 σz_545 t H1 locs ht hvm hw hB hz1 hk1 hS d_546 hd0 => ?_)
      have hts := dr_words hts0 (d_546)
      have hKX := gKd hKX0 (d_546)
      have hKM := gKd hKM0 (d_546)
      have hown : (s.setDrawn (d_546)).vm.findClass RL = some m.cls := hown0
      have hX : va_X b L xs (s.setDrawn (d_546)) s.heap := hX0
      obtain ⟨hPX, hDX⟩ := gBack hF ht hB
      obtain ⟨hI_548, fc_549, hp_547⟩ := hw
      have hPM := gOther hPM hk1 (dj_G dj)
      have hPO := gOther hPO hk1 (dj_1 djX)
      generalize H1 = H at hPX hPM hPO hS ⊢
      refine lv_pop2_2 hx hb dL_law_1542 rfl ?_
      refine lv_aload_n hx hb dL_law_1543 rfl (lv_at hl 2 rfl) ?_
      refine lv_aload_n hx hb dL_law_1544 rfl (lv_at hl 4 rfl) ?_
      refine lv_iload hx hb dL_law_1545 (lv_at hl 0 rfl) ?_
      refine lv_iconst (v := 1) hx hb dL_law_1547 (by decide) ?_
      refine lv_iadd hx hb dL_law_1548 ?_
      refine va_sld hx hb hX hbl hbA hS (lw_ix (k := 1) hL hin (by decide) (by decide)) dL_law_1549 ?_
      have hF := gFree hDM hS hA
      refine va_calllD hd0 (va_runV_D (As := [.int (xs ((nI (6 * j)) + 1).toNatClampNeg)]) (rest := []) ⟨hx, hb, hml, hown, hts⟩ (n_X12_off l dC dI am cM adK adV H.size τ hIM (xs ((nI (6 * j)) + 1).toNatClampNeg) hDp) (cwV 1 hts gL0_X12_off rfl rfl rfl (by decide +kernel) ⟨Nat.le_of_ble_eq_true rfl, Nat.le_of_ble_eq_true rfl⟩) ⟨gBlind, va_recv hKM hPM (ci := 11) (q0 := 0) rfl (mat_11 rfl), gStart (As := [.ref (am 0), .int (xs ((nI (6 * j)) + 1).toNatClampNeg)]) hPM hDM hKM0 hT hS hF (d_546)⟩ rfl rfl hl.1 rfl (lv_room (Nat.le_of_ble_eq_true rfl)) dL_law_1550 ⟨by omega, by omega⟩) hS (fun q _ h => hF q h) hF (fun r_550 τz_551 t H1 locs ht hvm hw hB hz1 hk1 hS d_552 hd0 => ?_)
      have hts := dr_words hts0 (d_552)
      have hKX := gKd hKX0 (d_552)
      have hKM := gKd hKM0 (d_552)
      have hown : (s.setDrawn (d_552)).vm.findClass RL = some m.cls := hown0
      have hX : va_X b L xs (s.setDrawn (d_552)) s.heap := hX0
      obtain ⟨hPM, hDM⟩ := gBack hF ht hB
      obtain ⟨hI_554, fc_555, hp_553⟩ := hw
      have hPX := gOther hPX hk1 (dj_sym (dj_G dj))
      have hPO := gOther hPO hk1 (dj_1 djM)
      generalize H1 = H at hPX hPM hPO hS ⊢
      have dp_556 : Deep τz_551 := (Deep.fr hDp (fc_555.1 2 (by decide) (by decide)) (fc_555.1 4 (by decide) (by decide)) (fc_555.1 9 (by decide) (by decide)) (fc_555.1 11 (by decide) (by decide)) (fc_555.1 12 (by decide) (by decide)) (fc_555.1 17 (by decide) (by decide)) (fc_555.1 18 (by decide) (by decide)) (fc_555.2 20 (by decide)) (fc_555.2 21 (by decide)) (fc_555.2 28 (by decide)) (fc_555.2 64 (by decide)) (fc_555.2 65 (by decide)) (fc_555.2 68 (by decide)))
      refine lv_pop2_2 hx hb dL_law_1553 rfl ?_
      refine lv_goto (tgt := 1850) hx hb dL_law_1554 (by decide) ?_
      obtain ⟨x_557, ex_557⟩ : ∃ zz : Int32, zz = (nI (6 * j)) + 6 := ⟨_, rfl⟩
      refine lv_iinc (v := x_557) (lv' := [(4, .int x_557), (3, .ref lo), (2, .ref (am 0)), (1, .ref (ad 0)), (0, .ref b)]) hx hb dL_law_1850 hl (k := 0) rfl (by rw [ex_557]; rfl) (by decide) rfl (fun ls hl => ?_)
      refine lv_goto (tgt := 23) hx hb dL_law_1853 (by decide) ?_
      have hl := lv_sub hl [0, 1, 2, 3, 4] rfl
      rw [ex_557, nI_6] at hl
      exact ih (j + 1) σz_545 τz_551 f _ _ _ _ _ _ (by omega) (by omega) hI_548 hI_554 dp_556 (by omega) (by omega) hd0 hPX hDX hPM hDM hPO hDO hS hl
    by_cases c_558 : ((xs (nI (6 * j)).toNatClampNeg) &&& 63) = 29
    · refine lv_tableIn (tgt := 1557) hx hb dL_law_40 (by rw [c_558]; decide) (by rw [c_558]; decide) (by rw [c_558]; rfl) (by decide) ?_
      refine lv_aload_n hx hb dL_law_1557 rfl (lv_at hl 3 rfl) ?_
      have hF := gFree hDX hS hA
      refine va_calliD hd0 (va_runV_D (As := []) (rest := []) ⟨hx, hb, hml, hown, hts⟩ (n_X11_flat l dC dI ad cA adK adV H.size σ hIX  ) (cwV 0 hts gL0_X11_flat rfl rfl rfl (by decide +kernel) ⟨Nat.le_of_ble_eq_true rfl, Nat.le_of_ble_eq_true rfl⟩) ⟨gBlind, va_recv hKX hPX (ci := 10) (q0 := 0) rfl (at_10 rfl), gStart (As := [.ref (ad 0)]) hPX hDX hKX0 hT hS hF (d)⟩ rfl rfl hl.1 rfl (lv_room (Nat.le_of_ble_eq_true rfl)) dL_law_1558 ⟨by omega, by omega⟩) hS (fun q _ h => hF q h) hF (fun r_559 σz_560 t H1 locs ht hvm hw hB hz1 hk1 hS d_561 hd0 => ?_)
      have hts := dr_words hts0 (d_561)
      have hKX := gKd hKX0 (d_561)
      have hKM := gKd hKM0 (d_561)
      have hown : (s.setDrawn (d_561)).vm.findClass RL = some m.cls := hown0
      have hX : va_X b L xs (s.setDrawn (d_561)) s.heap := hX0
      obtain ⟨hPX, hDX⟩ := gBack hF ht hB
      obtain ⟨hI_563, fc_564, hp_562⟩ := hw
      have hPM := gOther hPM hk1 (dj_G dj)
      have hPO := gOther hPO hk1 (dj_1 djX)
      generalize H1 = H at hPX hPM hPO hS ⊢
      refine lv_pop hx hb dL_law_1561 rfl ?_
      refine lv_aload_n hx hb dL_law_1562 rfl (lv_at hl 2 rfl) ?_
      have hF := gFree hDM hS hA
      refine va_calliD hd0 (va_runV_D (As := []) (rest := []) ⟨hx, hb, hml, hown, hts⟩ (n_X12_flat l dC dI am cM adK adV H.size τ hIM  hDp) (cwV 0 hts gL0_X12_flat rfl rfl rfl (by decide +kernel) ⟨Nat.le_of_ble_eq_true rfl, Nat.le_of_ble_eq_true rfl⟩) ⟨gBlind, va_recv hKM hPM (ci := 11) (q0 := 0) rfl (mat_11 rfl), gStart (As := [.ref (am 0)]) hPM hDM hKM0 hT hS hF (d_561)⟩ rfl rfl hl.1 rfl (lv_room (Nat.le_of_ble_eq_true rfl)) dL_law_1563 ⟨by omega, by omega⟩) hS (fun q _ h => hF q h) hF (fun r_565 τz_566 t H1 locs ht hvm hw hB hz1 hk1 hS d_567 hd0 => ?_)
      have hts := dr_words hts0 (d_567)
      have hKX := gKd hKX0 (d_567)
      have hKM := gKd hKM0 (d_567)
      have hown : (s.setDrawn (d_567)).vm.findClass RL = some m.cls := hown0
      have hX : va_X b L xs (s.setDrawn (d_567)) s.heap := hX0
      obtain ⟨hPM, hDM⟩ := gBack hF ht hB
      obtain ⟨hI_569, fc_570, hp_568⟩ := hw
      have hPX := gOther hPX hk1 (dj_sym (dj_G dj))
      have hPO := gOther hPO hk1 (dj_1 djM)
      generalize H1 = H at hPX hPM hPO hS ⊢
      have dp_571 : Deep τz_566 := (Deep.fr hDp (fc_570.1 2 (by decide) (by decide)) (fc_570.1 4 (by decide) (by decide)) (fc_570.1 9 (by decide) (by decide)) (fc_570.1 11 (by decide) (by decide)) (fc_570.1 12 (by decide) (by decide)) (fc_570.1 17 (by decide) (by decide)) (fc_570.1 18 (by decide) (by decide)) (fc_570.2 20 (by decide)) (fc_570.2 21 (by decide)) (fc_570.2 28 (by decide)) (fc_570.2 64 (by decide)) (fc_570.2 65 (by decide)) (fc_570.2 68 (by decide)))
      refine lv_pop hx hb dL_law_1566 rfl ?_
      refine lv_goto (tgt := 1850) hx hb dL_law_1567 (by decide) ?_
      obtain ⟨x_572, ex_572⟩ : ∃ zz : Int32, zz = (nI (6 * j)) + 6 := ⟨_, rfl⟩
      refine lv_iinc (v := x_572) (lv' := [(4, .int x_572), (3, .ref lo), (2, .ref (am 0)), (1, .ref (ad 0)), (0, .ref b)]) hx hb dL_law_1850 hl (k := 0) rfl (by rw [ex_572]; rfl) (by decide) rfl (fun ls hl => ?_)
      refine lv_goto (tgt := 23) hx hb dL_law_1853 (by decide) ?_
      have hl := lv_sub hl [0, 1, 2, 3, 4] rfl
      rw [ex_572, nI_6] at hl
      exact ih (j + 1) σz_560 τz_566 f _ _ _ _ _ _ (by omega) (by omega) hI_563 hI_569 dp_571 (by omega) (by omega) hd0 hPX hDX hPM hDM hPO hDO hS hl
    by_cases c_573 : ((xs (nI (6 * j)).toNatClampNeg) &&& 63) = 30
    · refine lv_tableIn (tgt := 1570) hx hb dL_law_40 (by rw [c_573]; decide) (by rw [c_573]; decide) (by rw [c_573]; rfl) (by decide) ?_
      refine lv_aload_n hx hb dL_law_1570 rfl (lv_at hl 3 rfl) ?_
      have hF := gFree hDX hS hA
      refine va_calliD hd0 (va_runV_D (As := []) (rest := []) ⟨hx, hb, hml, hown, hts⟩ (n_X11_cheapest l dC dI ad cA adK adV H.size σ hIX  ) (cwV 0 hts gL0_X11_cheapest rfl rfl rfl (by decide +kernel) ⟨Nat.le_of_ble_eq_true rfl, Nat.le_of_ble_eq_true rfl⟩) ⟨gBlind, va_recv hKX hPX (ci := 10) (q0 := 0) rfl (at_10 rfl), gStart (As := [.ref (ad 0)]) hPX hDX hKX0 hT hS hF (d)⟩ rfl rfl hl.1 rfl (lv_room (Nat.le_of_ble_eq_true rfl)) dL_law_1571 ⟨by omega, by omega⟩) hS (fun q _ h => hF q h) hF (fun r_574 σz_575 t H1 locs ht hvm hw hB hz1 hk1 hS d_576 hd0 => ?_)
      have hts := dr_words hts0 (d_576)
      have hKX := gKd hKX0 (d_576)
      have hKM := gKd hKM0 (d_576)
      have hown : (s.setDrawn (d_576)).vm.findClass RL = some m.cls := hown0
      have hX : va_X b L xs (s.setDrawn (d_576)) s.heap := hX0
      obtain ⟨hPX, hDX⟩ := gBack hF ht hB
      obtain ⟨hI_578, fc_579, hp_577⟩ := hw
      have hPM := gOther hPM hk1 (dj_G dj)
      have hPO := gOther hPO hk1 (dj_1 djX)
      generalize H1 = H at hPX hPM hPO hS ⊢
      refine lv_pop hx hb dL_law_1574 rfl ?_
      refine lv_aload_n hx hb dL_law_1575 rfl (lv_at hl 2 rfl) ?_
      have hF := gFree hDM hS hA
      refine va_calliD hd0 (va_runV_D (As := []) (rest := []) ⟨hx, hb, hml, hown, hts⟩ (n_X12_cheapest l dC dI am cM adK adV H.size τ hIM  hDp) (cwV 0 hts gL0_X12_cheapest rfl rfl rfl (by decide +kernel) ⟨Nat.le_of_ble_eq_true rfl, Nat.le_of_ble_eq_true rfl⟩) ⟨gBlind, va_recv hKM hPM (ci := 11) (q0 := 0) rfl (mat_11 rfl), gStart (As := [.ref (am 0)]) hPM hDM hKM0 hT hS hF (d_576)⟩ rfl rfl hl.1 rfl (lv_room (Nat.le_of_ble_eq_true rfl)) dL_law_1576 ⟨by omega, by omega⟩) hS (fun q _ h => hF q h) hF (fun r_580 τz_581 t H1 locs ht hvm hw hB hz1 hk1 hS d_582 hd0 => ?_)
      have hts := dr_words hts0 (d_582)
      have hKX := gKd hKX0 (d_582)
      have hKM := gKd hKM0 (d_582)
      have hown : (s.setDrawn (d_582)).vm.findClass RL = some m.cls := hown0
      have hX : va_X b L xs (s.setDrawn (d_582)) s.heap := hX0
      obtain ⟨hPM, hDM⟩ := gBack hF ht hB
      obtain ⟨hI_584, fc_585, hp_583⟩ := hw
      have hPX := gOther hPX hk1 (dj_sym (dj_G dj))
      have hPO := gOther hPO hk1 (dj_1 djM)
      generalize H1 = H at hPX hPM hPO hS ⊢
      have dp_586 : Deep τz_581 := (Deep.fr hDp (fc_585.1 2 (by decide) (by decide)) (fc_585.1 4 (by decide) (by decide)) (fc_585.1 9 (by decide) (by decide)) (fc_585.1 11 (by decide) (by decide)) (fc_585.1 12 (by decide) (by decide)) (fc_585.1 17 (by decide) (by decide)) (fc_585.1 18 (by decide) (by decide)) (fc_585.2 20 (by decide)) (fc_585.2 21 (by decide)) (fc_585.2 28 (by decide)) (fc_585.2 64 (by decide)) (fc_585.2 65 (by decide)) (fc_585.2 68 (by decide)))
      refine lv_pop hx hb dL_law_1579 rfl ?_
      refine lv_goto (tgt := 1850) hx hb dL_law_1580 (by decide) ?_
      obtain ⟨x_587, ex_587⟩ : ∃ zz : Int32, zz = (nI (6 * j)) + 6 := ⟨_, rfl⟩
      refine lv_iinc (v := x_587) (lv' := [(4, .int x_587), (3, .ref lo), (2, .ref (am 0)), (1, .ref (ad 0)), (0, .ref b)]) hx hb dL_law_1850 hl (k := 0) rfl (by rw [ex_587]; rfl) (by decide) rfl (fun ls hl => ?_)
      refine lv_goto (tgt := 23) hx hb dL_law_1853 (by decide) ?_
      have hl := lv_sub hl [0, 1, 2, 3, 4] rfl
      rw [ex_587, nI_6] at hl
      exact ih (j + 1) σz_575 τz_581 f _ _ _ _ _ _ (by omega) (by omega) hI_578 hI_584 dp_586 (by omega) (by omega) hd0 hPX hDX hPM hDM hPO hDO hS hl
    by_cases c_588 : ((xs (nI (6 * j)).toNatClampNeg) &&& 63) = 31
    · refine lv_tableIn (tgt := 1583) hx hb dL_law_40 (by rw [c_588]; decide) (by rw [c_588]; decide) (by rw [c_588]; rfl) (by decide) ?_
      refine lv_aload_n hx hb dL_law_1583 rfl (lv_at hl 3 rfl) ?_
      have hF := gFree hDX hS hA
      refine va_calliD hd0 (va_runV_D (As := []) (rest := []) ⟨hx, hb, hml, hown, hts⟩ (n_X11_now l dC dI ad cA adK adV H.size σ hIX  ) (cwV 0 hts gL0_X11_now rfl rfl rfl (by decide +kernel) ⟨Nat.le_of_ble_eq_true rfl, Nat.le_of_ble_eq_true rfl⟩) ⟨gBlind, va_recv hKX hPX (ci := 10) (q0 := 0) rfl (at_10 rfl), gStart (As := [.ref (ad 0)]) hPX hDX hKX0 hT hS hF (d)⟩ rfl rfl hl.1 rfl (lv_room (Nat.le_of_ble_eq_true rfl)) dL_law_1584 ⟨by omega, by omega⟩) hS (fun q _ h => hF q h) hF (fun r_589 σz_590 t H1 locs ht hvm hw hB hz1 hk1 hS d_591 hd0 => ?_)
      have hts := dr_words hts0 (d_591)
      have hKX := gKd hKX0 (d_591)
      have hKM := gKd hKM0 (d_591)
      have hown : (s.setDrawn (d_591)).vm.findClass RL = some m.cls := hown0
      have hX : va_X b L xs (s.setDrawn (d_591)) s.heap := hX0
      obtain ⟨hPX, hDX⟩ := gBack hF ht hB
      obtain ⟨hI_593, fc_594, hp_592⟩ := hw
      have hPM := gOther hPM hk1 (dj_G dj)
      have hPO := gOther hPO hk1 (dj_1 djX)
      generalize H1 = H at hPX hPM hPO hS ⊢
      refine lv_pop hx hb dL_law_1587 rfl ?_
      refine lv_aload_n hx hb dL_law_1588 rfl (lv_at hl 2 rfl) ?_
      have hF := gFree hDM hS hA
      refine va_calliD hd0 (va_runV_D (As := []) (rest := []) ⟨hx, hb, hml, hown, hts⟩ (n_X12_now l dC dI am cM adK adV H.size τ hIM  ) (cwV 0 hts gL0_X12_now rfl rfl rfl (by decide +kernel) ⟨Nat.le_of_ble_eq_true rfl, Nat.le_of_ble_eq_true rfl⟩) ⟨gBlind, va_recv hKM hPM (ci := 11) (q0 := 0) rfl (mat_11 rfl), gStart (As := [.ref (am 0)]) hPM hDM hKM0 hT hS hF (d_591)⟩ rfl rfl hl.1 rfl (lv_room (Nat.le_of_ble_eq_true rfl)) dL_law_1589 ⟨by omega, by omega⟩) hS (fun q _ h => hF q h) hF (fun r_595 τz_596 t H1 locs ht hvm hw hB hz1 hk1 hS d_597 hd0 => ?_)
      have hts := dr_words hts0 (d_597)
      have hKX := gKd hKX0 (d_597)
      have hKM := gKd hKM0 (d_597)
      have hown : (s.setDrawn (d_597)).vm.findClass RL = some m.cls := hown0
      have hX : va_X b L xs (s.setDrawn (d_597)) s.heap := hX0
      obtain ⟨hPM, hDM⟩ := gBack hF ht hB
      obtain ⟨hI_599, fc_600, hp_598⟩ := hw
      have hPX := gOther hPX hk1 (dj_sym (dj_G dj))
      have hPO := gOther hPO hk1 (dj_1 djM)
      generalize H1 = H at hPX hPM hPO hS ⊢
      have dp_601 : Deep τz_596 := (Deep.fr hDp (fc_600.1 2 (by decide) (by decide)) (fc_600.1 4 (by decide) (by decide)) (fc_600.1 9 (by decide) (by decide)) (fc_600.1 11 (by decide) (by decide)) (fc_600.1 12 (by decide) (by decide)) (fc_600.1 17 (by decide) (by decide)) (fc_600.1 18 (by decide) (by decide)) (fc_600.2 20 (by decide)) (fc_600.2 21 (by decide)) (fc_600.2 28 (by decide)) (fc_600.2 64 (by decide)) (fc_600.2 65 (by decide)) (fc_600.2 68 (by decide)))
      refine lv_pop hx hb dL_law_1592 rfl ?_
      refine lv_goto (tgt := 1850) hx hb dL_law_1593 (by decide) ?_
      obtain ⟨x_602, ex_602⟩ : ∃ zz : Int32, zz = (nI (6 * j)) + 6 := ⟨_, rfl⟩
      refine lv_iinc (v := x_602) (lv' := [(4, .int x_602), (3, .ref lo), (2, .ref (am 0)), (1, .ref (ad 0)), (0, .ref b)]) hx hb dL_law_1850 hl (k := 0) rfl (by rw [ex_602]; rfl) (by decide) rfl (fun ls hl => ?_)
      refine lv_goto (tgt := 23) hx hb dL_law_1853 (by decide) ?_
      have hl := lv_sub hl [0, 1, 2, 3, 4] rfl
      rw [ex_602, nI_6] at hl
      exact ih (j + 1) σz_590 τz_596 f _ _ _ _ _ _ (by omega) (by omega) hI_593 hI_599 dp_601 (by omega) (by omega) hd0 hPX hDX hPM hDM hPO hDO hS hl
    by_cases c_603 : ((xs (nI (6 * j)).toNatClampNeg) &&& 63) = 32
    · refine lv_tableIn (tgt := 1596) hx hb dL_law_40 (by rw [c_603]; decide) (by rw [c_603]; decide) (by rw [c_603]; rfl) (by decide) ?_
      refine lv_aload_n hx hb dL_law_1596 rfl (lv_at hl 3 rfl) ?_
      have hF := gFree hDX hS hA
      refine va_calllD hd0 (va_runV_D (As := []) (rest := []) ⟨hx, hb, hml, hown, hts⟩ (n_X11_cash l dC dI ad cA adK adV H.size σ hIX  ) (cwV 0 hts gL0_X11_cash rfl rfl rfl (by decide +kernel) ⟨Nat.le_of_ble_eq_true rfl, Nat.le_of_ble_eq_true rfl⟩) ⟨gBlind, va_recv hKX hPX (ci := 10) (q0 := 0) rfl (at_10 rfl), gStart (As := [.ref (ad 0)]) hPX hDX hKX0 hT hS hF (d)⟩ rfl rfl hl.1 rfl (lv_room (Nat.le_of_ble_eq_true rfl)) dL_law_1597 ⟨by omega, by omega⟩) hS (fun q _ h => hF q h) hF (fun r_604 σz_605 t H1 locs ht hvm hw hB hz1 hk1 hS d_606 hd0 => ?_)
      have hts := dr_words hts0 (d_606)
      have hKX := gKd hKX0 (d_606)
      have hKM := gKd hKM0 (d_606)
      have hown : (s.setDrawn (d_606)).vm.findClass RL = some m.cls := hown0
      have hX : va_X b L xs (s.setDrawn (d_606)) s.heap := hX0
      obtain ⟨hPX, hDX⟩ := gBack hF ht hB
      obtain ⟨hI_608, fc_609, hp_607⟩ := hw
      have hPM := gOther hPM hk1 (dj_G dj)
      have hPO := gOther hPO hk1 (dj_1 djX)
      generalize H1 = H at hPX hPM hPO hS ⊢
      refine lv_pop2_2 hx hb dL_law_1600 rfl ?_
      refine lv_aload_n hx hb dL_law_1601 rfl (lv_at hl 2 rfl) ?_
      have hF := gFree hDM hS hA
      refine va_calllD hd0 (va_runV_D (As := []) (rest := []) ⟨hx, hb, hml, hown, hts⟩ (n_X12_cash l dC dI am cM adK adV H.size τ hIM  ) (cwV 0 hts gL0_X12_cash rfl rfl rfl (by decide +kernel) ⟨Nat.le_of_ble_eq_true rfl, Nat.le_of_ble_eq_true rfl⟩) ⟨gBlind, va_recv hKM hPM (ci := 11) (q0 := 0) rfl (mat_11 rfl), gStart (As := [.ref (am 0)]) hPM hDM hKM0 hT hS hF (d_606)⟩ rfl rfl hl.1 rfl (lv_room (Nat.le_of_ble_eq_true rfl)) dL_law_1602 ⟨by omega, by omega⟩) hS (fun q _ h => hF q h) hF (fun r_610 τz_611 t H1 locs ht hvm hw hB hz1 hk1 hS d_612 hd0 => ?_)
      have hts := dr_words hts0 (d_612)
      have hKX := gKd hKX0 (d_612)
      have hKM := gKd hKM0 (d_612)
      have hown : (s.setDrawn (d_612)).vm.findClass RL = some m.cls := hown0
      have hX : va_X b L xs (s.setDrawn (d_612)) s.heap := hX0
      obtain ⟨hPM, hDM⟩ := gBack hF ht hB
      obtain ⟨hI_614, fc_615, hp_613⟩ := hw
      have hPX := gOther hPX hk1 (dj_sym (dj_G dj))
      have hPO := gOther hPO hk1 (dj_1 djM)
      generalize H1 = H at hPX hPM hPO hS ⊢
      have dp_616 : Deep τz_611 := (Deep.fr hDp (fc_615.1 2 (by decide) (by decide)) (fc_615.1 4 (by decide) (by decide)) (fc_615.1 9 (by decide) (by decide)) (fc_615.1 11 (by decide) (by decide)) (fc_615.1 12 (by decide) (by decide)) (fc_615.1 17 (by decide) (by decide)) (fc_615.1 18 (by decide) (by decide)) (fc_615.2 20 (by decide)) (fc_615.2 21 (by decide)) (fc_615.2 28 (by decide)) (fc_615.2 64 (by decide)) (fc_615.2 65 (by decide)) (fc_615.2 68 (by decide)))
      refine lv_pop2_2 hx hb dL_law_1605 rfl ?_
      refine lv_goto (tgt := 1850) hx hb dL_law_1606 (by decide) ?_
      obtain ⟨x_617, ex_617⟩ : ∃ zz : Int32, zz = (nI (6 * j)) + 6 := ⟨_, rfl⟩
      refine lv_iinc (v := x_617) (lv' := [(4, .int x_617), (3, .ref lo), (2, .ref (am 0)), (1, .ref (ad 0)), (0, .ref b)]) hx hb dL_law_1850 hl (k := 0) rfl (by rw [ex_617]; rfl) (by decide) rfl (fun ls hl => ?_)
      refine lv_goto (tgt := 23) hx hb dL_law_1853 (by decide) ?_
      have hl := lv_sub hl [0, 1, 2, 3, 4] rfl
      rw [ex_617, nI_6] at hl
      exact ih (j + 1) σz_605 τz_611 f _ _ _ _ _ _ (by omega) (by omega) hI_608 hI_614 dp_616 (by omega) (by omega) hd0 hPX hDX hPM hDM hPO hDO hS hl
    by_cases c_618 : ((xs (nI (6 * j)).toNatClampNeg) &&& 63) = 33
    · refine lv_tableIn (tgt := 1609) hx hb dL_law_40 (by rw [c_618]; decide) (by rw [c_618]; decide) (by rw [c_618]; rfl) (by decide) ?_
      refine lv_aload_n hx hb dL_law_1609 rfl (lv_at hl 3 rfl) ?_
      refine lv_aload_n hx hb dL_law_1610 rfl (lv_at hl 4 rfl) ?_
      refine lv_iload hx hb dL_law_1611 (lv_at hl 0 rfl) ?_
      refine lv_iconst (v := 1) hx hb dL_law_1613 (by decide) ?_
      refine lv_iadd hx hb dL_law_1614 ?_
      refine va_sld hx hb hX hbl hbA hS (lw_ix (k := 1) hL hin (by decide) (by decide)) dL_law_1615 ?_
      have hF := gFree hDX hS hA
      refine va_calliD hd0 (va_runV_D (As := [.int (xs ((nI (6 * j)) + 1).toNatClampNeg)]) (rest := []) ⟨hx, hb, hml, hown, hts⟩ (n_X11_holding l dC dI ad cA adK adV H.size σ hIX (xs ((nI (6 * j)) + 1).toNatClampNeg) ) (cwV 1 hts gL0_X11_holding rfl rfl rfl (by decide +kernel) ⟨Nat.le_of_ble_eq_true rfl, Nat.le_of_ble_eq_true rfl⟩) ⟨gBlind, va_recv hKX hPX (ci := 10) (q0 := 0) rfl (at_10 rfl), gStart (As := [.ref (ad 0), .int (xs ((nI (6 * j)) + 1).toNatClampNeg)]) hPX hDX hKX0 hT hS hF (d)⟩ rfl rfl hl.1 rfl (lv_room (Nat.le_of_ble_eq_true rfl)) dL_law_1616 ⟨by omega, by omega⟩) hS (fun q _ h => hF q h) hF (fun r_619 σz_620 t H1 locs ht hvm hw hB hz1 hk1 hS d_621 hd0 => ?_)
      have hts := dr_words hts0 (d_621)
      have hKX := gKd hKX0 (d_621)
      have hKM := gKd hKM0 (d_621)
      have hown : (s.setDrawn (d_621)).vm.findClass RL = some m.cls := hown0
      have hX : va_X b L xs (s.setDrawn (d_621)) s.heap := hX0
      obtain ⟨hPX, hDX⟩ := gBack hF ht hB
      obtain ⟨hI_623, fc_624, hp_622⟩ := hw
      have hPM := gOther hPM hk1 (dj_G dj)
      have hPO := gOther hPO hk1 (dj_1 djX)
      generalize H1 = H at hPX hPM hPO hS ⊢
      refine lv_pop hx hb dL_law_1619 rfl ?_
      refine lv_aload_n hx hb dL_law_1620 rfl (lv_at hl 2 rfl) ?_
      refine lv_aload_n hx hb dL_law_1621 rfl (lv_at hl 4 rfl) ?_
      refine lv_iload hx hb dL_law_1622 (lv_at hl 0 rfl) ?_
      refine lv_iconst (v := 1) hx hb dL_law_1624 (by decide) ?_
      refine lv_iadd hx hb dL_law_1625 ?_
      refine va_sld hx hb hX hbl hbA hS (lw_ix (k := 1) hL hin (by decide) (by decide)) dL_law_1626 ?_
      have hF := gFree hDM hS hA
      refine va_calliD hd0 (va_runV_D (As := [.int (xs ((nI (6 * j)) + 1).toNatClampNeg)]) (rest := []) ⟨hx, hb, hml, hown, hts⟩ (n_X12_holding l dC dI am cM adK adV H.size τ hIM (xs ((nI (6 * j)) + 1).toNatClampNeg) ) (cwV 1 hts gL0_X12_holding rfl rfl rfl (by decide +kernel) ⟨Nat.le_of_ble_eq_true rfl, Nat.le_of_ble_eq_true rfl⟩) ⟨gBlind, va_recv hKM hPM (ci := 11) (q0 := 0) rfl (mat_11 rfl), gStart (As := [.ref (am 0), .int (xs ((nI (6 * j)) + 1).toNatClampNeg)]) hPM hDM hKM0 hT hS hF (d_621)⟩ rfl rfl hl.1 rfl (lv_room (Nat.le_of_ble_eq_true rfl)) dL_law_1627 ⟨by omega, by omega⟩) hS (fun q _ h => hF q h) hF (fun r_625 τz_626 t H1 locs ht hvm hw hB hz1 hk1 hS d_627 hd0 => ?_)
      have hts := dr_words hts0 (d_627)
      have hKX := gKd hKX0 (d_627)
      have hKM := gKd hKM0 (d_627)
      have hown : (s.setDrawn (d_627)).vm.findClass RL = some m.cls := hown0
      have hX : va_X b L xs (s.setDrawn (d_627)) s.heap := hX0
      obtain ⟨hPM, hDM⟩ := gBack hF ht hB
      obtain ⟨hI_629, fc_630, hp_628⟩ := hw
      have hPX := gOther hPX hk1 (dj_sym (dj_G dj))
      have hPO := gOther hPO hk1 (dj_1 djM)
      generalize H1 = H at hPX hPM hPO hS ⊢
      have dp_631 : Deep τz_626 := (Deep.fr hDp (fc_630.1 2 (by decide) (by decide)) (fc_630.1 4 (by decide) (by decide)) (fc_630.1 9 (by decide) (by decide)) (fc_630.1 11 (by decide) (by decide)) (fc_630.1 12 (by decide) (by decide)) (fc_630.1 17 (by decide) (by decide)) (fc_630.1 18 (by decide) (by decide)) (fc_630.2 20 (by decide)) (fc_630.2 21 (by decide)) (fc_630.2 28 (by decide)) (fc_630.2 64 (by decide)) (fc_630.2 65 (by decide)) (fc_630.2 68 (by decide)))
      refine lv_pop hx hb dL_law_1630 rfl ?_
      refine lv_goto (tgt := 1850) hx hb dL_law_1631 (by decide) ?_
      obtain ⟨x_632, ex_632⟩ : ∃ zz : Int32, zz = (nI (6 * j)) + 6 := ⟨_, rfl⟩
      refine lv_iinc (v := x_632) (lv' := [(4, .int x_632), (3, .ref lo), (2, .ref (am 0)), (1, .ref (ad 0)), (0, .ref b)]) hx hb dL_law_1850 hl (k := 0) rfl (by rw [ex_632]; rfl) (by decide) rfl (fun ls hl => ?_)
      refine lv_goto (tgt := 23) hx hb dL_law_1853 (by decide) ?_
      have hl := lv_sub hl [0, 1, 2, 3, 4] rfl
      rw [ex_632, nI_6] at hl
      exact ih (j + 1) σz_620 τz_626 f _ _ _ _ _ _ (by omega) (by omega) hI_623 hI_629 dp_631 (by omega) (by omega) hd0 hPX hDX hPM hDM hPO hDO hS hl
    by_cases c_633 : ((xs (nI (6 * j)).toNatClampNeg) &&& 63) = 34
    · refine lv_tableIn (tgt := 1634) hx hb dL_law_40 (by rw [c_633]; decide) (by rw [c_633]; decide) (by rw [c_633]; rfl) (by decide) ?_
      refine lv_aload_n hx hb dL_law_1634 rfl (lv_at hl 3 rfl) ?_
      refine lv_aload_n hx hb dL_law_1635 rfl (lv_at hl 4 rfl) ?_
      refine lv_iload hx hb dL_law_1636 (lv_at hl 0 rfl) ?_
      refine lv_iconst (v := 1) hx hb dL_law_1638 (by decide) ?_
      refine lv_iadd hx hb dL_law_1639 ?_
      refine va_sld hx hb hX hbl hbA hS (lw_ix (k := 1) hL hin (by decide) (by decide)) dL_law_1640 ?_
      have hF := gFree hDX hS hA
      refine va_calllD hd0 (va_runV_D (As := [.int (xs ((nI (6 * j)) + 1).toNatClampNeg)]) (rest := []) ⟨hx, hb, hml, hown, hts⟩ (n_X11_worth l dC dI ad cA adK adV H.size σ hIX (xs ((nI (6 * j)) + 1).toNatClampNeg) ) (cwV 1 hts gL0_X11_worth rfl rfl rfl (by decide +kernel) ⟨Nat.le_of_ble_eq_true rfl, Nat.le_of_ble_eq_true rfl⟩) ⟨gBlind, va_recv hKX hPX (ci := 10) (q0 := 0) rfl (at_10 rfl), gStart (As := [.ref (ad 0), .int (xs ((nI (6 * j)) + 1).toNatClampNeg)]) hPX hDX hKX0 hT hS hF (d)⟩ rfl rfl hl.1 rfl (lv_room (Nat.le_of_ble_eq_true rfl)) dL_law_1641 ⟨by omega, by omega⟩) hS (fun q _ h => hF q h) hF (fun r_634 σz_635 t H1 locs ht hvm hw hB hz1 hk1 hS d_636 hd0 => ?_)
      have hts := dr_words hts0 (d_636)
      have hKX := gKd hKX0 (d_636)
      have hKM := gKd hKM0 (d_636)
      have hown : (s.setDrawn (d_636)).vm.findClass RL = some m.cls := hown0
      have hX : va_X b L xs (s.setDrawn (d_636)) s.heap := hX0
      obtain ⟨hPX, hDX⟩ := gBack hF ht hB
      obtain ⟨hI_638, fc_639, hp_637⟩ := hw
      have hPM := gOther hPM hk1 (dj_G dj)
      have hPO := gOther hPO hk1 (dj_1 djX)
      generalize H1 = H at hPX hPM hPO hS ⊢
      refine lv_pop2_2 hx hb dL_law_1644 rfl ?_
      refine lv_aload_n hx hb dL_law_1645 rfl (lv_at hl 2 rfl) ?_
      refine lv_aload_n hx hb dL_law_1646 rfl (lv_at hl 4 rfl) ?_
      refine lv_iload hx hb dL_law_1647 (lv_at hl 0 rfl) ?_
      refine lv_iconst (v := 1) hx hb dL_law_1649 (by decide) ?_
      refine lv_iadd hx hb dL_law_1650 ?_
      refine va_sld hx hb hX hbl hbA hS (lw_ix (k := 1) hL hin (by decide) (by decide)) dL_law_1651 ?_
      have hF := gFree hDM hS hA
      refine va_calllD hd0 (va_runV_D (As := [.int (xs ((nI (6 * j)) + 1).toNatClampNeg)]) (rest := []) ⟨hx, hb, hml, hown, hts⟩ (n_X12_worth l dC dI am cM adK adV H.size τ hIM (xs ((nI (6 * j)) + 1).toNatClampNeg) hDp) (cwV 1 hts gL0_X12_worth rfl rfl rfl (by decide +kernel) ⟨Nat.le_of_ble_eq_true rfl, Nat.le_of_ble_eq_true rfl⟩) ⟨gBlind, va_recv hKM hPM (ci := 11) (q0 := 0) rfl (mat_11 rfl), gStart (As := [.ref (am 0), .int (xs ((nI (6 * j)) + 1).toNatClampNeg)]) hPM hDM hKM0 hT hS hF (d_636)⟩ rfl rfl hl.1 rfl (lv_room (Nat.le_of_ble_eq_true rfl)) dL_law_1652 ⟨by omega, by omega⟩) hS (fun q _ h => hF q h) hF (fun r_640 τz_641 t H1 locs ht hvm hw hB hz1 hk1 hS d_642 hd0 => ?_)
      have hts := dr_words hts0 (d_642)
      have hKX := gKd hKX0 (d_642)
      have hKM := gKd hKM0 (d_642)
      have hown : (s.setDrawn (d_642)).vm.findClass RL = some m.cls := hown0
      have hX : va_X b L xs (s.setDrawn (d_642)) s.heap := hX0
      obtain ⟨hPM, hDM⟩ := gBack hF ht hB
      obtain ⟨hI_644, fc_645, hp_643⟩ := hw
      have hPX := gOther hPX hk1 (dj_sym (dj_G dj))
      have hPO := gOther hPO hk1 (dj_1 djM)
      generalize H1 = H at hPX hPM hPO hS ⊢
      have dp_646 : Deep τz_641 := (Deep.fr hDp (fc_645.1 2 (by decide) (by decide)) (fc_645.1 4 (by decide) (by decide)) (fc_645.1 9 (by decide) (by decide)) (fc_645.1 11 (by decide) (by decide)) (fc_645.1 12 (by decide) (by decide)) (fc_645.1 17 (by decide) (by decide)) (fc_645.1 18 (by decide) (by decide)) (fc_645.2 20 (by decide)) (fc_645.2 21 (by decide)) (fc_645.2 28 (by decide)) (fc_645.2 64 (by decide)) (fc_645.2 65 (by decide)) (fc_645.2 68 (by decide)))
      refine lv_pop2_2 hx hb dL_law_1655 rfl ?_
      refine lv_goto (tgt := 1850) hx hb dL_law_1656 (by decide) ?_
      obtain ⟨x_647, ex_647⟩ : ∃ zz : Int32, zz = (nI (6 * j)) + 6 := ⟨_, rfl⟩
      refine lv_iinc (v := x_647) (lv' := [(4, .int x_647), (3, .ref lo), (2, .ref (am 0)), (1, .ref (ad 0)), (0, .ref b)]) hx hb dL_law_1850 hl (k := 0) rfl (by rw [ex_647]; rfl) (by decide) rfl (fun ls hl => ?_)
      refine lv_goto (tgt := 23) hx hb dL_law_1853 (by decide) ?_
      have hl := lv_sub hl [0, 1, 2, 3, 4] rfl
      rw [ex_647, nI_6] at hl
      exact ih (j + 1) σz_635 τz_641 f _ _ _ _ _ _ (by omega) (by omega) hI_638 hI_644 dp_646 (by omega) (by omega) hd0 hPX hDX hPM hDM hPO hDO hS hl
    by_cases c_648 : ((xs (nI (6 * j)).toNatClampNeg) &&& 63) = 35
    · refine lv_tableIn (tgt := 1659) hx hb dL_law_40 (by rw [c_648]; decide) (by rw [c_648]; decide) (by rw [c_648]; rfl) (by decide) ?_
      refine lv_aload_n hx hb dL_law_1659 rfl (lv_at hl 3 rfl) ?_
      refine lv_aload_n hx hb dL_law_1660 rfl (lv_at hl 4 rfl) ?_
      refine lv_iload hx hb dL_law_1661 (lv_at hl 0 rfl) ?_
      refine lv_iconst (v := 1) hx hb dL_law_1663 (by decide) ?_
      refine lv_iadd hx hb dL_law_1664 ?_
      refine va_sld hx hb hX hbl hbA hS (lw_ix (k := 1) hL hin (by decide) (by decide)) dL_law_1665 ?_
      refine lv_aload_n hx hb dL_law_1666 rfl (lv_at hl 4 rfl) ?_
      refine lv_iload hx hb dL_law_1667 (lv_at hl 0 rfl) ?_
      refine lv_iconst (v := 2) hx hb dL_law_1669 (by decide) ?_
      refine lv_iadd hx hb dL_law_1670 ?_
      refine va_sld hx hb hX hbl hbA hS (lw_ix (k := 2) hL hin (by decide) (by decide)) dL_law_1671 ?_
      refine lv_aload_n hx hb dL_law_1672 rfl (lv_at hl 4 rfl) ?_
      refine lv_iload hx hb dL_law_1673 (lv_at hl 0 rfl) ?_
      refine lv_iconst (v := 3) hx hb dL_law_1675 (by decide) ?_
      refine lv_iadd hx hb dL_law_1676 ?_
      refine va_sld hx hb hX hbl hbA hS (lw_ix (k := 3) hL hin (by decide) (by decide)) dL_law_1677 ?_
      have hF := gFree hDX hS hA
      refine va_calllD hd0 (va_runV_D (As := [.int (xs ((nI (6 * j)) + 1).toNatClampNeg), .int (xs ((nI (6 * j)) + 2).toNatClampNeg), .int (xs ((nI (6 * j)) + 3).toNatClampNeg)]) (rest := []) ⟨hx, hb, hml, hown, hts⟩ (n_X11_deal l dC dI ad cA adK adV H.size σ hIX (xs ((nI (6 * j)) + 1).toNatClampNeg) (xs ((nI (6 * j)) + 2).toNatClampNeg) (xs ((nI (6 * j)) + 3).toNatClampNeg) ) (cwV 3 hts gL0_X11_deal rfl rfl rfl (by decide +kernel) ⟨Nat.le_of_ble_eq_true rfl, Nat.le_of_ble_eq_true rfl⟩) ⟨gBlind, va_recv hKX hPX (ci := 10) (q0 := 0) rfl (at_10 rfl), gStart (As := [.ref (ad 0), .int (xs ((nI (6 * j)) + 1).toNatClampNeg), .int (xs ((nI (6 * j)) + 2).toNatClampNeg), .int (xs ((nI (6 * j)) + 3).toNatClampNeg)]) hPX hDX hKX0 hT hS hF (d)⟩ rfl rfl hl.1 rfl (lv_room (Nat.le_of_ble_eq_true rfl)) dL_law_1678 ⟨by omega, by omega⟩) hS (fun q _ h => hF q h) hF (fun r_649 σz_650 t H1 locs ht hvm hw hB hz1 hk1 hS d_651 hd0 => ?_)
      have hts := dr_words hts0 (d_651)
      have hKX := gKd hKX0 (d_651)
      have hKM := gKd hKM0 (d_651)
      have hown : (s.setDrawn (d_651)).vm.findClass RL = some m.cls := hown0
      have hX : va_X b L xs (s.setDrawn (d_651)) s.heap := hX0
      obtain ⟨hPX, hDX⟩ := gBack hF ht hB
      obtain ⟨hI_653, fc_654, hp_652⟩ := hw
      have hPM := gOther hPM hk1 (dj_G dj)
      have hPO := gOther hPO hk1 (dj_1 djX)
      generalize H1 = H at hPX hPM hPO hS ⊢
      refine lv_pop2_2 hx hb dL_law_1681 rfl ?_
      refine lv_aload_n hx hb dL_law_1682 rfl (lv_at hl 2 rfl) ?_
      refine lv_aload_n hx hb dL_law_1683 rfl (lv_at hl 4 rfl) ?_
      refine lv_iload hx hb dL_law_1684 (lv_at hl 0 rfl) ?_
      refine lv_iconst (v := 1) hx hb dL_law_1686 (by decide) ?_
      refine lv_iadd hx hb dL_law_1687 ?_
      refine va_sld hx hb hX hbl hbA hS (lw_ix (k := 1) hL hin (by decide) (by decide)) dL_law_1688 ?_
      refine lv_aload_n hx hb dL_law_1689 rfl (lv_at hl 4 rfl) ?_
      refine lv_iload hx hb dL_law_1690 (lv_at hl 0 rfl) ?_
      refine lv_iconst (v := 2) hx hb dL_law_1692 (by decide) ?_
      refine lv_iadd hx hb dL_law_1693 ?_
      refine va_sld hx hb hX hbl hbA hS (lw_ix (k := 2) hL hin (by decide) (by decide)) dL_law_1694 ?_
      refine lv_aload_n hx hb dL_law_1695 rfl (lv_at hl 4 rfl) ?_
      refine lv_iload hx hb dL_law_1696 (lv_at hl 0 rfl) ?_
      refine lv_iconst (v := 3) hx hb dL_law_1698 (by decide) ?_
      refine lv_iadd hx hb dL_law_1699 ?_
      refine va_sld hx hb hX hbl hbA hS (lw_ix (k := 3) hL hin (by decide) (by decide)) dL_law_1700 ?_
      have hF := gFree hDM hS hA
      refine va_calllD hd0 (va_runV_D (As := [.int (xs ((nI (6 * j)) + 1).toNatClampNeg), .int (xs ((nI (6 * j)) + 2).toNatClampNeg), .int (xs ((nI (6 * j)) + 3).toNatClampNeg)]) (rest := []) ⟨hx, hb, hml, hown, hts⟩ (n_X12_deal l dC dI am cM adK adV H.size τ hIM (xs ((nI (6 * j)) + 1).toNatClampNeg) (xs ((nI (6 * j)) + 2).toNatClampNeg) (xs ((nI (6 * j)) + 3).toNatClampNeg) hDp) (cwV 3 hts gL0_X12_deal rfl rfl rfl (by decide +kernel) ⟨Nat.le_of_ble_eq_true rfl, Nat.le_of_ble_eq_true rfl⟩) ⟨gBlind, va_recv hKM hPM (ci := 11) (q0 := 0) rfl (mat_11 rfl), gStart (As := [.ref (am 0), .int (xs ((nI (6 * j)) + 1).toNatClampNeg), .int (xs ((nI (6 * j)) + 2).toNatClampNeg), .int (xs ((nI (6 * j)) + 3).toNatClampNeg)]) hPM hDM hKM0 hT hS hF (d_651)⟩ rfl rfl hl.1 rfl (lv_room (Nat.le_of_ble_eq_true rfl)) dL_law_1701 ⟨by omega, by omega⟩) hS (fun q _ h => hF q h) hF (fun r_655 τz_656 t H1 locs ht hvm hw hB hz1 hk1 hS d_657 hd0 => ?_)
      have hts := dr_words hts0 (d_657)
      have hKX := gKd hKX0 (d_657)
      have hKM := gKd hKM0 (d_657)
      have hown : (s.setDrawn (d_657)).vm.findClass RL = some m.cls := hown0
      have hX : va_X b L xs (s.setDrawn (d_657)) s.heap := hX0
      obtain ⟨hPM, hDM⟩ := gBack hF ht hB
      obtain ⟨hI_659, fc_660, hp_658⟩ := hw
      have hPX := gOther hPX hk1 (dj_sym (dj_G dj))
      have hPO := gOther hPO hk1 (dj_1 djM)
      generalize H1 = H at hPX hPM hPO hS ⊢
      have dp_661 : Deep τz_656 := (Deep.fr hDp (fc_660.1 2 (by decide) (by decide)) (fc_660.1 4 (by decide) (by decide)) (fc_660.1 9 (by decide) (by decide)) (fc_660.1 11 (by decide) (by decide)) (fc_660.1 12 (by decide) (by decide)) (fc_660.1 17 (by decide) (by decide)) (fc_660.1 18 (by decide) (by decide)) (fc_660.2 20 (by decide)) (fc_660.2 21 (by decide)) (fc_660.2 28 (by decide)) (fc_660.2 64 (by decide)) (fc_660.2 65 (by decide)) (fc_660.2 68 (by decide)))
      refine lv_pop2_2 hx hb dL_law_1704 rfl ?_
      refine lv_goto (tgt := 1850) hx hb dL_law_1705 (by decide) ?_
      obtain ⟨x_662, ex_662⟩ : ∃ zz : Int32, zz = (nI (6 * j)) + 6 := ⟨_, rfl⟩
      refine lv_iinc (v := x_662) (lv' := [(4, .int x_662), (3, .ref lo), (2, .ref (am 0)), (1, .ref (ad 0)), (0, .ref b)]) hx hb dL_law_1850 hl (k := 0) rfl (by rw [ex_662]; rfl) (by decide) rfl (fun ls hl => ?_)
      refine lv_goto (tgt := 23) hx hb dL_law_1853 (by decide) ?_
      have hl := lv_sub hl [0, 1, 2, 3, 4] rfl
      rw [ex_662, nI_6] at hl
      exact ih (j + 1) σz_650 τz_656 f _ _ _ _ _ _ (by omega) (by omega) hI_653 hI_659 dp_661 (by omega) (by omega) hd0 hPX hDX hPM hDM hPO hDO hS hl
    by_cases c_663 : ((xs (nI (6 * j)).toNatClampNeg) &&& 63) = 36
    · refine lv_tableIn (tgt := 1708) hx hb dL_law_40 (by rw [c_663]; decide) (by rw [c_663]; decide) (by rw [c_663]; rfl) (by decide) ?_
      refine lv_aload_n hx hb dL_law_1708 rfl (lv_at hl 3 rfl) ?_
      refine lv_aload_n hx hb dL_law_1709 rfl (lv_at hl 4 rfl) ?_
      refine lv_iload hx hb dL_law_1710 (lv_at hl 0 rfl) ?_
      refine lv_iconst (v := 1) hx hb dL_law_1712 (by decide) ?_
      refine lv_iadd hx hb dL_law_1713 ?_
      refine va_sld hx hb hX hbl hbA hS (lw_ix (k := 1) hL hin (by decide) (by decide)) dL_law_1714 ?_
      have hF := gFree hDX hS hA
      refine va_calllD hd0 (va_runV_D (As := [.int (xs ((nI (6 * j)) + 1).toNatClampNeg)]) (rest := []) ⟨hx, hb, hml, hown, hts⟩ (n_X11_go l dC dI ad cA adK adV H.size σ hIX (xs ((nI (6 * j)) + 1).toNatClampNeg) ) (cwV 1 hts gL0_X11_go rfl rfl rfl (by decide +kernel) ⟨Nat.le_of_ble_eq_true rfl, Nat.le_of_ble_eq_true rfl⟩) ⟨gBlind, va_recv hKX hPX (ci := 10) (q0 := 0) rfl (at_10 rfl), gStart (As := [.ref (ad 0), .int (xs ((nI (6 * j)) + 1).toNatClampNeg)]) hPX hDX hKX0 hT hS hF (d)⟩ rfl rfl hl.1 rfl (lv_room (Nat.le_of_ble_eq_true rfl)) dL_law_1715 ⟨by omega, by omega⟩) hS (fun q _ h => hF q h) hF (fun r_664 σz_665 t H1 locs ht hvm hw hB hz1 hk1 hS d_666 hd0 => ?_)
      have hts := dr_words hts0 (d_666)
      have hKX := gKd hKX0 (d_666)
      have hKM := gKd hKM0 (d_666)
      have hown : (s.setDrawn (d_666)).vm.findClass RL = some m.cls := hown0
      have hX : va_X b L xs (s.setDrawn (d_666)) s.heap := hX0
      obtain ⟨hPX, hDX⟩ := gBack hF ht hB
      obtain ⟨hI_668, fc_669, hp_667⟩ := hw
      have hPM := gOther hPM hk1 (dj_G dj)
      have hPO := gOther hPO hk1 (dj_1 djX)
      generalize H1 = H at hPX hPM hPO hS ⊢
      refine lv_pop2_2 hx hb dL_law_1718 rfl ?_
      refine lv_aload_n hx hb dL_law_1719 rfl (lv_at hl 2 rfl) ?_
      refine lv_aload_n hx hb dL_law_1720 rfl (lv_at hl 4 rfl) ?_
      refine lv_iload hx hb dL_law_1721 (lv_at hl 0 rfl) ?_
      refine lv_iconst (v := 1) hx hb dL_law_1723 (by decide) ?_
      refine lv_iadd hx hb dL_law_1724 ?_
      refine va_sld hx hb hX hbl hbA hS (lw_ix (k := 1) hL hin (by decide) (by decide)) dL_law_1725 ?_
      have hF := gFree hDM hS hA
      refine va_calllD hd0 (va_runV_D (As := [.int (xs ((nI (6 * j)) + 1).toNatClampNeg)]) (rest := []) ⟨hx, hb, hml, hown, hts⟩ (n_X12_go l dC dI am cM adK adV H.size τ hIM (xs ((nI (6 * j)) + 1).toNatClampNeg) hDp) (cwV 1 hts gL0_X12_go rfl rfl rfl (by decide +kernel) ⟨Nat.le_of_ble_eq_true rfl, Nat.le_of_ble_eq_true rfl⟩) ⟨gBlind, va_recv hKM hPM (ci := 11) (q0 := 0) rfl (mat_11 rfl), gStart (As := [.ref (am 0), .int (xs ((nI (6 * j)) + 1).toNatClampNeg)]) hPM hDM hKM0 hT hS hF (d_666)⟩ rfl rfl hl.1 rfl (lv_room (Nat.le_of_ble_eq_true rfl)) dL_law_1726 ⟨by omega, by omega⟩) hS (fun q _ h => hF q h) hF (fun r_670 τz_671 t H1 locs ht hvm hw hB hz1 hk1 hS d_672 hd0 => ?_)
      have hts := dr_words hts0 (d_672)
      have hKX := gKd hKX0 (d_672)
      have hKM := gKd hKM0 (d_672)
      have hown : (s.setDrawn (d_672)).vm.findClass RL = some m.cls := hown0
      have hX : va_X b L xs (s.setDrawn (d_672)) s.heap := hX0
      obtain ⟨hPM, hDM⟩ := gBack hF ht hB
      obtain ⟨hI_674, fc_675, hp_673⟩ := hw
      have hPX := gOther hPX hk1 (dj_sym (dj_G dj))
      have hPO := gOther hPO hk1 (dj_1 djM)
      generalize H1 = H at hPX hPM hPO hS ⊢
      have dp_676 : Deep τz_671 := hp_673
      refine lv_pop2_2 hx hb dL_law_1729 rfl ?_
      refine lv_goto (tgt := 1850) hx hb dL_law_1730 (by decide) ?_
      obtain ⟨x_677, ex_677⟩ : ∃ zz : Int32, zz = (nI (6 * j)) + 6 := ⟨_, rfl⟩
      refine lv_iinc (v := x_677) (lv' := [(4, .int x_677), (3, .ref lo), (2, .ref (am 0)), (1, .ref (ad 0)), (0, .ref b)]) hx hb dL_law_1850 hl (k := 0) rfl (by rw [ex_677]; rfl) (by decide) rfl (fun ls hl => ?_)
      refine lv_goto (tgt := 23) hx hb dL_law_1853 (by decide) ?_
      have hl := lv_sub hl [0, 1, 2, 3, 4] rfl
      rw [ex_677, nI_6] at hl
      exact ih (j + 1) σz_665 τz_671 f _ _ _ _ _ _ (by omega) (by omega) hI_668 hI_674 dp_676 (by omega) (by omega) hd0 hPX hDX hPM hDM hPO hDO hS hl
    by_cases c_678 : ((xs (nI (6 * j)).toNatClampNeg) &&& 63) = 37
    · refine lv_tableIn (tgt := 1733) hx hb dL_law_40 (by rw [c_678]; decide) (by rw [c_678]; decide) (by rw [c_678]; rfl) (by decide) ?_
      refine lv_aload_n hx hb dL_law_1733 rfl (lv_at hl 3 rfl) ?_
      refine lv_aload_n hx hb dL_law_1734 rfl (lv_at hl 4 rfl) ?_
      refine lv_iload hx hb dL_law_1735 (lv_at hl 0 rfl) ?_
      refine lv_iconst (v := 1) hx hb dL_law_1737 (by decide) ?_
      refine lv_iadd hx hb dL_law_1738 ?_
      refine va_sld hx hb hX hbl hbA hS (lw_ix (k := 1) hL hin (by decide) (by decide)) dL_law_1739 ?_
      have hF := gFree hDX hS hA
      refine va_calllD hd0 (va_runV_D (As := [.int (xs ((nI (6 * j)) + 1).toNatClampNeg)]) (rest := []) ⟨hx, hb, hml, hown, hts⟩ (n_X11_income l dC dI ad cA adK adV H.size σ hIX (xs ((nI (6 * j)) + 1).toNatClampNeg) ) (cwV 1 hts gL0_X11_income rfl rfl rfl (by decide +kernel) ⟨Nat.le_of_ble_eq_true rfl, Nat.le_of_ble_eq_true rfl⟩) ⟨gBlind, va_recv hKX hPX (ci := 10) (q0 := 0) rfl (at_10 rfl), gStart (As := [.ref (ad 0), .int (xs ((nI (6 * j)) + 1).toNatClampNeg)]) hPX hDX hKX0 hT hS hF (d)⟩ rfl rfl hl.1 rfl (lv_room (Nat.le_of_ble_eq_true rfl)) dL_law_1740 ⟨by omega, by omega⟩) hS (fun q _ h => hF q h) hF (fun r_679 σz_680 t H1 locs ht hvm hw hB hz1 hk1 hS d_681 hd0 => ?_)
      have hts := dr_words hts0 (d_681)
      have hKX := gKd hKX0 (d_681)
      have hKM := gKd hKM0 (d_681)
      have hown : (s.setDrawn (d_681)).vm.findClass RL = some m.cls := hown0
      have hX : va_X b L xs (s.setDrawn (d_681)) s.heap := hX0
      obtain ⟨hPX, hDX⟩ := gBack hF ht hB
      obtain ⟨hI_683, fc_684, hp_682⟩ := hw
      have hPM := gOther hPM hk1 (dj_G dj)
      have hPO := gOther hPO hk1 (dj_1 djX)
      generalize H1 = H at hPX hPM hPO hS ⊢
      refine lv_pop2_2 hx hb dL_law_1743 rfl ?_
      refine lv_aload_n hx hb dL_law_1744 rfl (lv_at hl 2 rfl) ?_
      refine lv_aload_n hx hb dL_law_1745 rfl (lv_at hl 4 rfl) ?_
      refine lv_iload hx hb dL_law_1746 (lv_at hl 0 rfl) ?_
      refine lv_iconst (v := 1) hx hb dL_law_1748 (by decide) ?_
      refine lv_iadd hx hb dL_law_1749 ?_
      refine va_sld hx hb hX hbl hbA hS (lw_ix (k := 1) hL hin (by decide) (by decide)) dL_law_1750 ?_
      have hF := gFree hDM hS hA
      refine va_calllD hd0 (va_runV_D (As := [.int (xs ((nI (6 * j)) + 1).toNatClampNeg)]) (rest := []) ⟨hx, hb, hml, hown, hts⟩ (n_X12_income l dC dI am cM adK adV H.size τ hIM (xs ((nI (6 * j)) + 1).toNatClampNeg) hDp) (cwV 1 hts gL0_X12_income rfl rfl rfl (by decide +kernel) ⟨Nat.le_of_ble_eq_true rfl, Nat.le_of_ble_eq_true rfl⟩) ⟨gBlind, va_recv hKM hPM (ci := 11) (q0 := 0) rfl (mat_11 rfl), gStart (As := [.ref (am 0), .int (xs ((nI (6 * j)) + 1).toNatClampNeg)]) hPM hDM hKM0 hT hS hF (d_681)⟩ rfl rfl hl.1 rfl (lv_room (Nat.le_of_ble_eq_true rfl)) dL_law_1751 ⟨by omega, by omega⟩) hS (fun q _ h => hF q h) hF (fun r_685 τz_686 t H1 locs ht hvm hw hB hz1 hk1 hS d_687 hd0 => ?_)
      have hts := dr_words hts0 (d_687)
      have hKX := gKd hKX0 (d_687)
      have hKM := gKd hKM0 (d_687)
      have hown : (s.setDrawn (d_687)).vm.findClass RL = some m.cls := hown0
      have hX : va_X b L xs (s.setDrawn (d_687)) s.heap := hX0
      obtain ⟨hPM, hDM⟩ := gBack hF ht hB
      obtain ⟨hI_689, fc_690, hp_688⟩ := hw
      have hPX := gOther hPX hk1 (dj_sym (dj_G dj))
      have hPO := gOther hPO hk1 (dj_1 djM)
      generalize H1 = H at hPX hPM hPO hS ⊢
      have dp_691 : Deep τz_686 := hp_688
      refine lv_pop2_2 hx hb dL_law_1754 rfl ?_
      refine lv_goto (tgt := 1850) hx hb dL_law_1755 (by decide) ?_
      obtain ⟨x_692, ex_692⟩ : ∃ zz : Int32, zz = (nI (6 * j)) + 6 := ⟨_, rfl⟩
      refine lv_iinc (v := x_692) (lv' := [(4, .int x_692), (3, .ref lo), (2, .ref (am 0)), (1, .ref (ad 0)), (0, .ref b)]) hx hb dL_law_1850 hl (k := 0) rfl (by rw [ex_692]; rfl) (by decide) rfl (fun ls hl => ?_)
      refine lv_goto (tgt := 23) hx hb dL_law_1853 (by decide) ?_
      have hl := lv_sub hl [0, 1, 2, 3, 4] rfl
      rw [ex_692, nI_6] at hl
      exact ih (j + 1) σz_680 τz_686 f _ _ _ _ _ _ (by omega) (by omega) hI_683 hI_689 dp_691 (by omega) (by omega) hd0 hPX hDX hPM hDM hPO hDO hS hl
    by_cases c_693 : ((xs (nI (6 * j)).toNatClampNeg) &&& 63) = 38
    · refine lv_tableIn (tgt := 1758) hx hb dL_law_40 (by rw [c_693]; decide) (by rw [c_693]; decide) (by rw [c_693]; rfl) (by decide) ?_
      refine lv_aload_n hx hb dL_law_1758 rfl (lv_at hl 3 rfl) ?_
      have hF := gFree hDX hS hA
      refine va_calliD hd0 (va_runV_D (As := []) (rest := []) ⟨hx, hb, hml, hown, hts⟩ (n_X11_keep l dC dI ad cA adK adV H.size σ hIX  ) (cwV 0 hts gL0_X11_keep rfl rfl rfl (by decide +kernel) ⟨Nat.le_of_ble_eq_true rfl, Nat.le_of_ble_eq_true rfl⟩) ⟨gBlind, va_recv hKX hPX (ci := 10) (q0 := 0) rfl (at_10 rfl), gStart (As := [.ref (ad 0)]) hPX hDX hKX0 hT hS hF (d)⟩ rfl rfl hl.1 rfl (lv_room (Nat.le_of_ble_eq_true rfl)) dL_law_1759 ⟨by omega, by omega⟩) hS (fun q _ h => hF q h) hF (fun r_694 σz_695 t H1 locs ht hvm hw hB hz1 hk1 hS d_696 hd0 => ?_)
      have hts := dr_words hts0 (d_696)
      have hKX := gKd hKX0 (d_696)
      have hKM := gKd hKM0 (d_696)
      have hown : (s.setDrawn (d_696)).vm.findClass RL = some m.cls := hown0
      have hX : va_X b L xs (s.setDrawn (d_696)) s.heap := hX0
      obtain ⟨hPX, hDX⟩ := gBack hF ht hB
      obtain ⟨hI_698, fc_699, hp_697⟩ := hw
      have hPM := gOther hPM hk1 (dj_G dj)
      have hPO := gOther hPO hk1 (dj_1 djX)
      generalize H1 = H at hPX hPM hPO hS ⊢
      refine lv_pop hx hb dL_law_1762 rfl ?_
      refine lv_aload_n hx hb dL_law_1763 rfl (lv_at hl 2 rfl) ?_
      have hF := gFree hDM hS hA
      refine va_calliD hd0 (va_runV_D (As := []) (rest := []) ⟨hx, hb, hml, hown, hts⟩ (n_X12_keep l dC dI am cM adK adV H.size τ hIM  hDp) (cwV 0 hts gL0_X12_keep rfl rfl rfl (by decide +kernel) ⟨Nat.le_of_ble_eq_true rfl, Nat.le_of_ble_eq_true rfl⟩) ⟨gBlind, va_recv hKM hPM (ci := 11) (q0 := 0) rfl (mat_11 rfl), gStart (As := [.ref (am 0)]) hPM hDM hKM0 hT hS hF (d_696)⟩ rfl rfl hl.1 rfl (lv_room (Nat.le_of_ble_eq_true rfl)) dL_law_1764 ⟨by omega, by omega⟩) hS (fun q _ h => hF q h) hF (fun r_700 τz_701 t H1 locs ht hvm hw hB hz1 hk1 hS d_702 hd0 => ?_)
      have hts := dr_words hts0 (d_702)
      have hKX := gKd hKX0 (d_702)
      have hKM := gKd hKM0 (d_702)
      have hown : (s.setDrawn (d_702)).vm.findClass RL = some m.cls := hown0
      have hX : va_X b L xs (s.setDrawn (d_702)) s.heap := hX0
      obtain ⟨hPM, hDM⟩ := gBack hF ht hB
      obtain ⟨hI_704, fc_705, hp_703⟩ := hw
      have hPX := gOther hPX hk1 (dj_sym (dj_G dj))
      have hPO := gOther hPO hk1 (dj_1 djM)
      generalize H1 = H at hPX hPM hPO hS ⊢
      have dp_706 : Deep τz_701 := hp_703.2
      refine lv_pop hx hb dL_law_1767 rfl ?_
      refine lv_goto (tgt := 1850) hx hb dL_law_1768 (by decide) ?_
      obtain ⟨x_707, ex_707⟩ : ∃ zz : Int32, zz = (nI (6 * j)) + 6 := ⟨_, rfl⟩
      refine lv_iinc (v := x_707) (lv' := [(4, .int x_707), (3, .ref lo), (2, .ref (am 0)), (1, .ref (ad 0)), (0, .ref b)]) hx hb dL_law_1850 hl (k := 0) rfl (by rw [ex_707]; rfl) (by decide) rfl (fun ls hl => ?_)
      refine lv_goto (tgt := 23) hx hb dL_law_1853 (by decide) ?_
      have hl := lv_sub hl [0, 1, 2, 3, 4] rfl
      rw [ex_707, nI_6] at hl
      exact ih (j + 1) σz_695 τz_701 f _ _ _ _ _ _ (by omega) (by omega) hI_698 hI_704 dp_706 (by omega) (by omega) hd0 hPX hDX hPM hDM hPO hDO hS hl
    by_cases c_708 : ((xs (nI (6 * j)).toNatClampNeg) &&& 63) = 39
    · refine lv_tableIn (tgt := 1771) hx hb dL_law_40 (by rw [c_708]; decide) (by rw [c_708]; decide) (by rw [c_708]; rfl) (by decide) ?_
      refine lv_aload_n hx hb dL_law_1771 rfl (lv_at hl 3 rfl) ?_
      have hF := gFree hDX hS hA
      refine va_calliD hd0 (va_runV_D (As := []) (rest := []) ⟨hx, hb, hml, hown, hts⟩ (n_X11_back l dC dI ad cA adK adV H.size σ hIX  ) (cwV 0 hts gL0_X11_back rfl rfl rfl (by decide +kernel) ⟨Nat.le_of_ble_eq_true rfl, Nat.le_of_ble_eq_true rfl⟩) ⟨gBlind, va_recv hKX hPX (ci := 10) (q0 := 0) rfl (at_10 rfl), gStart (As := [.ref (ad 0)]) hPX hDX hKX0 hT hS hF (d)⟩ rfl rfl hl.1 rfl (lv_room (Nat.le_of_ble_eq_true rfl)) dL_law_1772 ⟨by omega, by omega⟩) hS (fun q _ h => hF q h) hF (fun r_709 σz_710 t H1 locs ht hvm hw hB hz1 hk1 hS d_711 hd0 => ?_)
      have hts := dr_words hts0 (d_711)
      have hKX := gKd hKX0 (d_711)
      have hKM := gKd hKM0 (d_711)
      have hown : (s.setDrawn (d_711)).vm.findClass RL = some m.cls := hown0
      have hX : va_X b L xs (s.setDrawn (d_711)) s.heap := hX0
      obtain ⟨hPX, hDX⟩ := gBack hF ht hB
      obtain ⟨hI_713, fc_714, hp_712⟩ := hw
      have hPM := gOther hPM hk1 (dj_G dj)
      have hPO := gOther hPO hk1 (dj_1 djX)
      generalize H1 = H at hPX hPM hPO hS ⊢
      refine lv_pop hx hb dL_law_1775 rfl ?_
      refine lv_aload_n hx hb dL_law_1776 rfl (lv_at hl 2 rfl) ?_
      have hF := gFree hDM hS hA
      refine va_calliD hd0 (va_runV_D (As := []) (rest := []) ⟨hx, hb, hml, hown, hts⟩ (n_X12_back l dC dI am cM adK adV H.size τ hIM  hDp) (cwV 0 hts gL0_X12_back rfl rfl rfl (by decide +kernel) ⟨Nat.le_of_ble_eq_true rfl, Nat.le_of_ble_eq_true rfl⟩) ⟨gBlind, va_recv hKM hPM (ci := 11) (q0 := 0) rfl (mat_11 rfl), gStart (As := [.ref (am 0)]) hPM hDM hKM0 hT hS hF (d_711)⟩ rfl rfl hl.1 rfl (lv_room (Nat.le_of_ble_eq_true rfl)) dL_law_1777 ⟨by omega, by omega⟩) hS (fun q _ h => hF q h) hF (fun r_715 τz_716 t H1 locs ht hvm hw hB hz1 hk1 hS d_717 hd0 => ?_)
      have hts := dr_words hts0 (d_717)
      have hKX := gKd hKX0 (d_717)
      have hKM := gKd hKM0 (d_717)
      have hown : (s.setDrawn (d_717)).vm.findClass RL = some m.cls := hown0
      have hX : va_X b L xs (s.setDrawn (d_717)) s.heap := hX0
      obtain ⟨hPM, hDM⟩ := gBack hF ht hB
      obtain ⟨hI_719, fc_720, hp_718⟩ := hw
      have hPX := gOther hPX hk1 (dj_sym (dj_G dj))
      have hPO := gOther hPO hk1 (dj_1 djM)
      generalize H1 = H at hPX hPM hPO hS ⊢
      have dp_721 : Deep τz_716 := hp_718.2
      refine lv_pop hx hb dL_law_1780 rfl ?_
      refine lv_goto (tgt := 1850) hx hb dL_law_1781 (by decide) ?_
      obtain ⟨x_722, ex_722⟩ : ∃ zz : Int32, zz = (nI (6 * j)) + 6 := ⟨_, rfl⟩
      refine lv_iinc (v := x_722) (lv' := [(4, .int x_722), (3, .ref lo), (2, .ref (am 0)), (1, .ref (ad 0)), (0, .ref b)]) hx hb dL_law_1850 hl (k := 0) rfl (by rw [ex_722]; rfl) (by decide) rfl (fun ls hl => ?_)
      refine lv_goto (tgt := 23) hx hb dL_law_1853 (by decide) ?_
      have hl := lv_sub hl [0, 1, 2, 3, 4] rfl
      rw [ex_722, nI_6] at hl
      exact ih (j + 1) σz_710 τz_716 f _ _ _ _ _ _ (by omega) (by omega) hI_713 hI_719 dp_721 (by omega) (by omega) hd0 hPX hDX hPM hDM hPO hDO hS hl
    by_cases c_723 : ((xs (nI (6 * j)).toNatClampNeg) &&& 63) = 40
    · refine lv_tableIn (tgt := 1784) hx hb dL_law_40 (by rw [c_723]; decide) (by rw [c_723]; decide) (by rw [c_723]; rfl) (by decide) ?_
      refine lv_aload_n hx hb dL_law_1784 rfl (lv_at hl 3 rfl) ?_
      refine lv_aload_n hx hb dL_law_1785 rfl (lv_at hl 4 rfl) ?_
      refine lv_iload hx hb dL_law_1786 (lv_at hl 0 rfl) ?_
      refine lv_iconst (v := 1) hx hb dL_law_1788 (by decide) ?_
      refine lv_iadd hx hb dL_law_1789 ?_
      refine va_sld hx hb hX hbl hbA hS (lw_ix (k := 1) hL hin (by decide) (by decide)) dL_law_1790 ?_
      refine lv_aload_n hx hb dL_law_1791 rfl (lv_at hl 1 rfl) ?_
      have hF := gFree hDO hS hA
      refine va_calli (vx_runSW (As := [.ref (ad 0), .int (xs ((nI (6 * j)) + 1).toNatClampNeg), .ref lo]) (rest := []) ⟨hx, hb, hml, hown, dr_words htsT0 (d)⟩ (n_L_holiday l hl0 dC dI ad cA adK adV H.size σ hIX lo cL f djX sa (xs ((nI (6 * j)) + 1).toNatClampNeg)) (vx_cwSW 3 (dr_words htsT0 (d)) hy_gT rfl rfl rfl (by decide +kernel) ⟨Nat.le_of_ble_eq_true rfl, Nat.le_of_ble_eq_true rfl⟩) ⟨fun a U g mk q => by obtain ⟨q1, q2, q3, q4, q5, q6⟩ := q; exact ⟨q1, (gBlind (As := [.ref (ad 0), .int (xs ((nI (6 * j)) + 1).toNatClampNeg), .ref lo]) a U g mk ⟨q1, q2⟩).2, vk_R.same rfl q3, q4, va_K.moved (u := U) (U := U.calling g mk a) (Vm.Alike.refl U.vm) q5, q6⟩, fun U hU hW => ⟨rfl, (gStart (As := [.ref (ad 0), .int (xs ((nI (6 * j)) + 1).toNatClampNeg), .ref lo]) hPX hDX hKX0 hT hS (gFree hDX hS hA) (d) U hU hW).2, vk_R.warm hW (vk_R.same rfl hR), by rw [hU]; exact hPO, va_K.moved hW.alike (gKd hKL0 (d)), hDO.weaken (fun _ _ _ _ => trivial)⟩⟩ rfl rfl hl.1 rfl (lv_room (Nat.le_of_ble_eq_true rfl)) dL_law_1792 ⟨by omega, by omega⟩) hS (fun q _ h => hF q h) hF (fun r_724 f_725 t H1 locs ht hvm hw hB hz1 hk1 hS => ?_)
      rw [ht] at hB
      have hPX := gOther hPX hk1 (dj_sym (dj_1 djX))
      have hPM := gOther hPM hk1 (dj_sym (dj_1 djM))
      have hPO := hB
      have hDO : va_D A [(lo, .inl (cL, 1, .inr (.inl f_725)))] := vD_one hDO
      generalize H1 = H at hPX hPM hPO hS ⊢
      refine lv_istore (lv' := [(5, .int r_724), (4, .int (nI (6 * j))), (3, .ref lo), (2, .ref (am 0)), (1, .ref (ad 0)), (0, .ref b)]) hx hb dL_law_1795 hl (by decide) rfl (fun ls hl => ?_)
      refine lv_aload_n hx hb dL_law_1797 rfl (lv_at hl 3 rfl) ?_
      refine lv_aload_n hx hb dL_law_1798 rfl (lv_at hl 5 rfl) ?_
      refine lv_iload hx hb dL_law_1799 (lv_at hl 1 rfl) ?_
      refine lv_iconst (v := 1) hx hb dL_law_1801 (by decide) ?_
      refine lv_iadd hx hb dL_law_1802 ?_
      refine va_sld hx hb hX hbl hbA hS (lw_ix (k := 1) hL hin (by decide) (by decide)) dL_law_1803 ?_
      have hF := gFree hDM hS hA
      refine va_calliD hd0 (va_runV_D (As := [.int (xs ((nI (6 * j)) + 1).toNatClampNeg)]) (rest := []) ⟨hx, hb, hml, hown, hts⟩ (n_X12_holiday l dC dI am cM adK adV H.size τ hIM (xs ((nI (6 * j)) + 1).toNatClampNeg) ) (cwV 1 hts gL0_X12_holiday rfl rfl rfl (by decide +kernel) ⟨Nat.le_of_ble_eq_true rfl, Nat.le_of_ble_eq_true rfl⟩) ⟨gBlind, va_recv hKM hPM (ci := 11) (q0 := 0) rfl (mat_11 rfl), gStart (As := [.ref (am 0), .int (xs ((nI (6 * j)) + 1).toNatClampNeg)]) hPM hDM hKM0 hT hS hF (d)⟩ rfl rfl hl.1 rfl (lv_room (Nat.le_of_ble_eq_true rfl)) dL_law_1804 ⟨by omega, by omega⟩) hS (fun q _ h => hF q h) hF (fun r_726 τz_727 t H1 locs ht hvm hw hB hz1 hk1 hS d_728 hd0 => ?_)
      have hts := dr_words hts0 (d_728)
      have hKX := gKd hKX0 (d_728)
      have hKM := gKd hKM0 (d_728)
      have hown : (s.setDrawn (d_728)).vm.findClass RL = some m.cls := hown0
      have hX : va_X b L xs (s.setDrawn (d_728)) s.heap := hX0
      obtain ⟨hPM, hDM⟩ := gBack hF ht hB
      obtain ⟨hI_730, fc_731, hp_729⟩ := hw
      have hPX := gOther hPX hk1 (dj_sym (dj_G dj))
      have hPO := gOther hPO hk1 (dj_1 djM)
      generalize H1 = H at hPX hPM hPO hS ⊢
      have dp_732 : Deep τz_727 := (Deep.fr hDp (fc_731.1 2 (by decide) (by decide)) (fc_731.1 4 (by decide) (by decide)) (fc_731.1 9 (by decide) (by decide)) (fc_731.1 11 (by decide) (by decide)) (fc_731.1 12 (by decide) (by decide)) (fc_731.1 17 (by decide) (by decide)) (fc_731.1 18 (by decide) (by decide)) (fc_731.2 20 (by decide)) (fc_731.2 21 (by decide)) (fc_731.2 28 (by decide)) (fc_731.2 64 (by decide)) (fc_731.2 65 (by decide)) (fc_731.2 68 (by decide)))
      refine lv_istore (lv' := [(6, .int r_726), (5, .int r_724), (4, .int (nI (6 * j))), (3, .ref lo), (2, .ref (am 0)), (1, .ref (ad 0)), (0, .ref b)]) hx hb dL_law_1807 hl (by decide) rfl (fun ls hl => ?_)
      refine lv_goto (tgt := 1850) hx hb dL_law_1809 (by decide) ?_
      obtain ⟨x_733, ex_733⟩ : ∃ zz : Int32, zz = (nI (6 * j)) + 6 := ⟨_, rfl⟩
      refine lv_iinc (v := x_733) (lv' := [(4, .int x_733), (6, .int r_726), (5, .int r_724), (3, .ref lo), (2, .ref (am 0)), (1, .ref (ad 0)), (0, .ref b)]) hx hb dL_law_1850 hl (k := 2) rfl (by rw [ex_733]; rfl) (by decide) rfl (fun ls hl => ?_)
      refine lv_goto (tgt := 23) hx hb dL_law_1853 (by decide) ?_
      have hl := lv_sub hl [0, 3, 4, 5, 6] rfl
      rw [ex_733, nI_6] at hl
      exact ih (j + 1) σ τz_727 f_725 _ _ _ _ _ _ (by omega) (by omega) hIX hI_730 dp_732 (by omega) (by omega) hd0 hPX hDX hPM hDM hPO hDO hS hl
    by_cases c_734 : ((xs (nI (6 * j)).toNatClampNeg) &&& 63) = 41
    · refine lv_tableIn (tgt := 1812) hx hb dL_law_40 (by rw [c_734]; decide) (by rw [c_734]; decide) (by rw [c_734]; rfl) (by decide) ?_
      refine lv_aload_n hx hb dL_law_1812 rfl (lv_at hl 3 rfl) ?_
      refine lv_aload_n hx hb dL_law_1813 rfl (lv_at hl 4 rfl) ?_
      refine lv_iload hx hb dL_law_1814 (lv_at hl 0 rfl) ?_
      refine lv_iconst (v := 1) hx hb dL_law_1816 (by decide) ?_
      refine lv_iadd hx hb dL_law_1817 ?_
      refine va_sld hx hb hX hbl hbA hS (lw_ix (k := 1) hL hin (by decide) (by decide)) dL_law_1818 ?_
      have hF := gFree hDX hS hA
      refine va_calliD hd0 (va_runV_D (As := [.int (xs ((nI (6 * j)) + 1).toNatClampNeg)]) (rest := []) ⟨hx, hb, hml, hown, hts⟩ (n_X11_size l dC dI ad cA adK adV H.size σ hIX (xs ((nI (6 * j)) + 1).toNatClampNeg) ) (cwV 1 hts gL0_X11_size rfl rfl rfl (by decide +kernel) ⟨Nat.le_of_ble_eq_true rfl, Nat.le_of_ble_eq_true rfl⟩) ⟨gBlind, va_recv hKX hPX (ci := 10) (q0 := 0) rfl (at_10 rfl), gStart (As := [.ref (ad 0), .int (xs ((nI (6 * j)) + 1).toNatClampNeg)]) hPX hDX hKX0 hT hS hF (d)⟩ rfl rfl hl.1 rfl (lv_room (Nat.le_of_ble_eq_true rfl)) dL_law_1819 ⟨by omega, by omega⟩) hS (fun q _ h => hF q h) hF (fun r_735 σz_736 t H1 locs ht hvm hw hB hz1 hk1 hS d_737 hd0 => ?_)
      have hts := dr_words hts0 (d_737)
      have hKX := gKd hKX0 (d_737)
      have hKM := gKd hKM0 (d_737)
      have hown : (s.setDrawn (d_737)).vm.findClass RL = some m.cls := hown0
      have hX : va_X b L xs (s.setDrawn (d_737)) s.heap := hX0
      obtain ⟨hPX, hDX⟩ := gBack hF ht hB
      obtain ⟨hI_739, fc_740, hp_738⟩ := hw
      have hPM := gOther hPM hk1 (dj_G dj)
      have hPO := gOther hPO hk1 (dj_1 djX)
      generalize H1 = H at hPX hPM hPO hS ⊢
      refine lv_pop hx hb dL_law_1822 rfl ?_
      refine lv_aload_n hx hb dL_law_1823 rfl (lv_at hl 2 rfl) ?_
      refine lv_aload_n hx hb dL_law_1824 rfl (lv_at hl 4 rfl) ?_
      refine lv_iload hx hb dL_law_1825 (lv_at hl 0 rfl) ?_
      refine lv_iconst (v := 1) hx hb dL_law_1827 (by decide) ?_
      refine lv_iadd hx hb dL_law_1828 ?_
      refine va_sld hx hb hX hbl hbA hS (lw_ix (k := 1) hL hin (by decide) (by decide)) dL_law_1829 ?_
      have hF := gFree hDM hS hA
      refine va_calliD hd0 (va_runV_D (As := [.int (xs ((nI (6 * j)) + 1).toNatClampNeg)]) (rest := []) ⟨hx, hb, hml, hown, hts⟩ (n_X12_size l dC dI am cM adK adV H.size τ hIM (xs ((nI (6 * j)) + 1).toNatClampNeg) ) (cwV 1 hts gL0_X12_size rfl rfl rfl (by decide +kernel) ⟨Nat.le_of_ble_eq_true rfl, Nat.le_of_ble_eq_true rfl⟩) ⟨gBlind, va_recv hKM hPM (ci := 11) (q0 := 0) rfl (mat_11 rfl), gStart (As := [.ref (am 0), .int (xs ((nI (6 * j)) + 1).toNatClampNeg)]) hPM hDM hKM0 hT hS hF (d_737)⟩ rfl rfl hl.1 rfl (lv_room (Nat.le_of_ble_eq_true rfl)) dL_law_1830 ⟨by omega, by omega⟩) hS (fun q _ h => hF q h) hF (fun r_741 τz_742 t H1 locs ht hvm hw hB hz1 hk1 hS d_743 hd0 => ?_)
      have hts := dr_words hts0 (d_743)
      have hKX := gKd hKX0 (d_743)
      have hKM := gKd hKM0 (d_743)
      have hown : (s.setDrawn (d_743)).vm.findClass RL = some m.cls := hown0
      have hX : va_X b L xs (s.setDrawn (d_743)) s.heap := hX0
      obtain ⟨hPM, hDM⟩ := gBack hF ht hB
      obtain ⟨hI_745, fc_746, hp_744⟩ := hw
      have hPX := gOther hPX hk1 (dj_sym (dj_G dj))
      have hPO := gOther hPO hk1 (dj_1 djM)
      generalize H1 = H at hPX hPM hPO hS ⊢
      have dp_747 : Deep τz_742 := (Deep.fr hDp (fc_746.1 2 (by decide) (by decide)) (fc_746.1 4 (by decide) (by decide)) (fc_746.1 9 (by decide) (by decide)) (fc_746.1 11 (by decide) (by decide)) (fc_746.1 12 (by decide) (by decide)) (fc_746.1 17 (by decide) (by decide)) (fc_746.1 18 (by decide) (by decide)) (fc_746.2 20 (by decide)) (fc_746.2 21 (by decide)) (fc_746.2 28 (by decide)) (fc_746.2 64 (by decide)) (fc_746.2 65 (by decide)) (fc_746.2 68 (by decide)))
      refine lv_pop hx hb dL_law_1833 rfl ?_
      refine lv_goto (tgt := 1850) hx hb dL_law_1834 (by decide) ?_
      obtain ⟨x_748, ex_748⟩ : ∃ zz : Int32, zz = (nI (6 * j)) + 6 := ⟨_, rfl⟩
      refine lv_iinc (v := x_748) (lv' := [(4, .int x_748), (3, .ref lo), (2, .ref (am 0)), (1, .ref (ad 0)), (0, .ref b)]) hx hb dL_law_1850 hl (k := 0) rfl (by rw [ex_748]; rfl) (by decide) rfl (fun ls hl => ?_)
      refine lv_goto (tgt := 23) hx hb dL_law_1853 (by decide) ?_
      have hl := lv_sub hl [0, 1, 2, 3, 4] rfl
      rw [ex_748, nI_6] at hl
      exact ih (j + 1) σz_736 τz_742 f _ _ _ _ _ _ (by omega) (by omega) hI_739 hI_745 dp_747 (by omega) (by omega) hd0 hPX hDX hPM hDM hPO hDO hS hl
    by_cases c_749 : ((xs (nI (6 * j)).toNatClampNeg) &&& 63) = 42
    · refine lv_tableIn (tgt := 1837) hx hb dL_law_40 (by rw [c_749]; decide) (by rw [c_749]; decide) (by rw [c_749]; rfl) (by decide) ?_
      refine lv_aload_n hx hb dL_law_1837 rfl (lv_at hl 3 rfl) ?_
      have hF := gFree hDX hS hA
      refine va_calliD hd0 (va_runV_D (As := []) (rest := []) ⟨hx, hb, hml, hown, hts⟩ (n_X11_trouble l dC dI ad cA adK adV H.size σ hIX  ) (cwV 0 hts gL0_X11_trouble rfl rfl rfl (by decide +kernel) ⟨Nat.le_of_ble_eq_true rfl, Nat.le_of_ble_eq_true rfl⟩) ⟨gBlind, va_recv hKX hPX (ci := 10) (q0 := 0) rfl (at_10 rfl), gStart (As := [.ref (ad 0)]) hPX hDX hKX0 hT hS hF (d)⟩ rfl rfl hl.1 rfl (lv_room (Nat.le_of_ble_eq_true rfl)) dL_law_1838 ⟨by omega, by omega⟩) hS (fun q _ h => hF q h) hF (fun r_750 σz_751 t H1 locs ht hvm hw hB hz1 hk1 hS d_752 hd0 => ?_)
      have hts := dr_words hts0 (d_752)
      have hKX := gKd hKX0 (d_752)
      have hKM := gKd hKM0 (d_752)
      have hown : (s.setDrawn (d_752)).vm.findClass RL = some m.cls := hown0
      have hX : va_X b L xs (s.setDrawn (d_752)) s.heap := hX0
      obtain ⟨hPX, hDX⟩ := gBack hF ht hB
      obtain ⟨hI_754, fc_755, hp_753⟩ := hw
      have hPM := gOther hPM hk1 (dj_G dj)
      have hPO := gOther hPO hk1 (dj_1 djX)
      generalize H1 = H at hPX hPM hPO hS ⊢
      refine lv_pop hx hb dL_law_1841 rfl ?_
      refine lv_aload_n hx hb dL_law_1842 rfl (lv_at hl 2 rfl) ?_
      have hF := gFree hDM hS hA
      refine va_calliD hd0 (va_runV_D (As := []) (rest := []) ⟨hx, hb, hml, hown, hts⟩ (n_X12_trouble l dC dI am cM adK adV H.size τ hIM  ) (cwV 0 hts gL0_X12_trouble rfl rfl rfl (by decide +kernel) ⟨Nat.le_of_ble_eq_true rfl, Nat.le_of_ble_eq_true rfl⟩) ⟨gBlind, va_recv hKM hPM (ci := 11) (q0 := 0) rfl (mat_11 rfl), gStart (As := [.ref (am 0)]) hPM hDM hKM0 hT hS hF (d_752)⟩ rfl rfl hl.1 rfl (lv_room (Nat.le_of_ble_eq_true rfl)) dL_law_1843 ⟨by omega, by omega⟩) hS (fun q _ h => hF q h) hF (fun r_756 τz_757 t H1 locs ht hvm hw hB hz1 hk1 hS d_758 hd0 => ?_)
      have hts := dr_words hts0 (d_758)
      have hKX := gKd hKX0 (d_758)
      have hKM := gKd hKM0 (d_758)
      have hown : (s.setDrawn (d_758)).vm.findClass RL = some m.cls := hown0
      have hX : va_X b L xs (s.setDrawn (d_758)) s.heap := hX0
      obtain ⟨hPM, hDM⟩ := gBack hF ht hB
      obtain ⟨hI_760, fc_761, hp_759⟩ := hw
      have hPX := gOther hPX hk1 (dj_sym (dj_G dj))
      have hPO := gOther hPO hk1 (dj_1 djM)
      generalize H1 = H at hPX hPM hPO hS ⊢
      have dp_762 : Deep τz_757 := (Deep.fr hDp (fc_761.1 2 (by decide) (by decide)) (fc_761.1 4 (by decide) (by decide)) (fc_761.1 9 (by decide) (by decide)) (fc_761.1 11 (by decide) (by decide)) (fc_761.1 12 (by decide) (by decide)) (fc_761.1 17 (by decide) (by decide)) (fc_761.1 18 (by decide) (by decide)) (fc_761.2 20 (by decide)) (fc_761.2 21 (by decide)) (fc_761.2 28 (by decide)) (fc_761.2 64 (by decide)) (fc_761.2 65 (by decide)) (fc_761.2 68 (by decide)))
      refine lv_pop hx hb dL_law_1846 rfl ?_
      refine lv_goto (tgt := 1850) hx hb dL_law_1847 (by decide) ?_
      obtain ⟨x_763, ex_763⟩ : ∃ zz : Int32, zz = (nI (6 * j)) + 6 := ⟨_, rfl⟩
      refine lv_iinc (v := x_763) (lv' := [(4, .int x_763), (3, .ref lo), (2, .ref (am 0)), (1, .ref (ad 0)), (0, .ref b)]) hx hb dL_law_1850 hl (k := 0) rfl (by rw [ex_763]; rfl) (by decide) rfl (fun ls hl => ?_)
      refine lv_goto (tgt := 23) hx hb dL_law_1853 (by decide) ?_
      have hl := lv_sub hl [0, 1, 2, 3, 4] rfl
      rw [ex_763, nI_6] at hl
      exact ih (j + 1) σz_751 τz_757 f _ _ _ _ _ _ (by omega) (by omega) hI_754 hI_760 dp_762 (by omega) (by omega) hd0 hPX hDX hPM hDM hPO hDO hS hl
    refine lv_tableOut (tgt := 1850) hx hb dL_law_40 (by have q0 := lv_neT (a := 0) c_3 rfl; have q1 := lv_neT (a := 1) c_18 rfl; have q2 := lv_neT (a := 2) c_33 rfl; have q3 := lv_neT (a := 3) c_48 rfl; have q4 := lv_neT (a := 4) c_63 rfl; have q5 := lv_neT (a := 5) c_78 rfl; have q6 := lv_neT (a := 6) c_94 rfl; have q7 := lv_neT (a := 7) c_126 rfl; have q8 := lv_neT (a := 8) c_141 rfl; have q9 := lv_neT (a := 9) c_156 rfl; have q10 := lv_neT (a := 10) c_188 rfl; have q11 := lv_neT (a := 11) c_203 rfl; have q12 := lv_neT (a := 12) c_218 rfl; have q13 := lv_neT (a := 13) c_233 rfl; have q14 := lv_neT (a := 14) c_265 rfl; have q15 := lv_neT (a := 15) c_297 rfl; have q16 := lv_neT (a := 16) c_312 rfl; have q17 := lv_neT (a := 17) c_327 rfl; have q18 := lv_neT (a := 18) c_342 rfl; have q19 := lv_neT (a := 19) c_357 rfl; have q20 := lv_neT (a := 20) c_389 rfl; have q21 := lv_neT (a := 21) c_421 rfl; have q22 := lv_neT (a := 22) c_436 rfl; have q23 := lv_neT (a := 23) c_451 rfl; have q24 := lv_neT (a := 24) c_466 rfl; have q25 := lv_neT (a := 25) c_498 rfl; have q26 := lv_neT (a := 26) c_513 rfl; have q27 := lv_neT (a := 27) c_528 rfl; have q28 := lv_neT (a := 28) c_543 rfl; have q29 := lv_neT (a := 29) c_558 rfl; have q30 := lv_neT (a := 30) c_573 rfl; have q31 := lv_neT (a := 31) c_588 rfl; have q32 := lv_neT (a := 32) c_603 rfl; have q33 := lv_neT (a := 33) c_618 rfl; have q34 := lv_neT (a := 34) c_633 rfl; have q35 := lv_neT (a := 35) c_648 rfl; have q36 := lv_neT (a := 36) c_663 rfl; have q37 := lv_neT (a := 37) c_678 rfl; have q38 := lv_neT (a := 38) c_693 rfl; have q39 := lv_neT (a := 39) c_708 rfl; have q40 := lv_neT (a := 40) c_723 rfl; have q41 := lv_neT (a := 41) c_734 rfl; have q42 := lv_neT (a := 42) c_749 rfl; omega) (by decide) ?_
    obtain ⟨x_764, ex_764⟩ : ∃ zz : Int32, zz = (nI (6 * j)) + 6 := ⟨_, rfl⟩
    refine lv_iinc (v := x_764) (lv' := [(4, .int x_764), (3, .ref lo), (2, .ref (am 0)), (1, .ref (ad 0)), (0, .ref b)]) hx hb dL_law_1850 hl (k := 0) rfl (by rw [ex_764]; rfl) (by decide) rfl (fun ls hl => ?_)
    refine lv_goto (tgt := 23) hx hb dL_law_1853 (by decide) ?_
    have hl := lv_sub hl [0, 1, 2, 3, 4] rfl
    rw [ex_764, nI_6] at hl
    exact ih (j + 1) σ τ f _ _ _ _ _ _ (by omega) (by omega) hIX hIM hDp (by omega) (by omega) hd0 hPX hDX hPM hDM hPO hDO hS hl
