/-! THE CLAIM OUT OF ONE WALK OF THE LAW'S BODY. Your part is whole_start (and what it stands on); all else here is the same for every law, but numbers. -/
def R_law : String := "BondCalendarsLaw"
def lw_P (b : Addr) (xs : List Int32) (args : Array Value) (s : State) : Prop := args = #[.ref b] ∧ s.IntsAt b xs ∧ xs.length ≤ 3072 ∧ (Jvm.Cond.and given_1 narrow_1).before args s = true
/-- what a walk over the start with the record d0 says of its end, said of the start itself -/
theorem lw_closed {s t : State} {o : Outcome} {d0 : Drawn} {L : List Loc} {k n : Nat} (hd0 : s.drawn.sameBut d0 lw_cs) (hv : ∃ v, o = .returned v) (hW : (s.setDrawn d0).WarmedH t.vm) (hs : (s.setDrawn d0).sameButNew ({ t with vm := s.vm } : State) L k n) : State.butDraws s t lw_cs (fun t1 => Framed s o t1 L k n) := by
  have h2 : t.drawn = d0 := congrArg State.drawn hs.1
  refine ⟨⟨hv, hW, State.sameButNew.setDrawn hs s.drawn⟩, ?_, by decide⟩
  rw [h2]
  exact hd0
def lw_Q (_ : Array Value) (s : State) (o : Outcome) (t : State) : Prop := o = .returned (some (.int 1)) ∧ State.butDraws s t lw_cs (fun t1 => Framed s o t1 [] 601024 7293034)
def lw_Z (below : List Frame) (a : Array Value) (s : State) : State → Prop := fun t => ∃ o, t.status = .running ∧ Ended t below o ∧ lw_Q a s o t
/-- the law's own end, with 1 on the stack, nothing written that was there before, its room as the claim has it; d0: the record of draws at this point (at the entry s.drawn: begin with 'refine W.base ?_' and 'have hd0 := Drawn.sameBut.refl s.drawn lw_cs') -/
theorem lw_ret {p : Program} {l : Launch} {e : Env} {s : State} {m : MethodId} {below : List Frame} {meth : Method} {c : Code} {b : Nat} {d0 : Drawn} (hd0 : s.drawn.sameBut d0 lw_cs) (hx : p.tables.exec = Jvm.exec) (hb : c.code = code) (hr : meth.sig.returnType = ret) (hlocks : meth.locks = false) {pc : Nat} {H : Heap} {ls : Array Slot} (hdg : decode code pc = .ok (.ireturn, 1)) : W p l e room_1 (s.setDrawn d0) m #[Value.ref b] below meth c H [] 601024 7293034 (lw_Z below #[Value.ref b] s) (F0 m pc ls [.int 1]) := by
  intro T hT X
  obtain ⟨fs, hret, hrun, hended, hW, hframe⟩ := X.leave (v := some (.int 1)) (hlocks := hlocks) (fun h => by rw [hr] at h; cases h)
  have hmeth' : T.vm.method? m = some meth := X.method'
  refine ⟨T.setFrames fs, ?_, .returned (some (.int 1)), hrun, hended, rfl, lw_closed hd0 ⟨_, rfl⟩ hW hframe⟩
  jvm_step X.here [X.here.top, hx, hb, hdg, hmeth', hr, ret, narrow_b1]
  (try refine ⟨rfl, ?_⟩); (try refine ⟨rfl, ?_⟩)
  first | (intro acts; rw [hret _ acts rfl rfl rfl]) | rw [hret _ _ rfl rfl rfl]
  exact Steps.refl _
/-- what holds at the law's entry: the machine, the code, the tables' words (any of lw_tbl by 'hts w (by decide +kernel)'), the script of L ints xs at the cell b, what the Statement gives of the start (any of its parts by flat_of_before) -/
def lw_At (p : Program) (s : State) (m : MethodId) (meth : Method) (c : Code) (b L : Nat) (xs : Nat → Int32) : Prop :=
  p.tables.exec = Jvm.exec ∧ c.code = code ∧ meth.sig.returnType = ret ∧ c.maxLocals = 7 ∧ s.vm.findClass R_law = some m.cls ∧ (∀ w ∈ lw_tbl, w.before #[Value.ref b] s = true) ∧ va_X b L xs s s.heap ∧ b < s.heap.size ∧ meth.locks = false ∧ (Jvm.Cond.and given_1 narrow_1).before #[Value.ref b] s = true
theorem vD_one {A : Nat → Prop} {lo : Nat} {e e' : va_E} (h : va_D A [(lo, e)]) : va_D A [(lo, e')] := by
  refine ⟨fun i j p q h1 h2 _ => ?_, fun k q hq => ?_⟩
  · have a := (List.getElem?_eq_some_iff.mp h1).1
    have b := (List.getElem?_eq_some_iff.mp h2).1
    simp at a b
    omega
  · have a := (List.getElem?_eq_some_iff.mp hq).1
    simp at a
    subst a
    cases hq
    exact (show A lo from h.2 0 (lo, e) rfl)
theorem lw_in {L j : Nat} {x : Int32} (hL : L ≤ 3072) (hj : 6 * j ≤ L + 6) (ex : x = Int32.ofNat L - 6) (h : ¬ x < nI (6 * j)) : 6 * j + 6 ≤ L := by
  have a : (Int32.ofNat L).toInt = (L : Int) := Int32.toInt_ofNat_of_lt (by omega)
  have b : (nI (6 * j)).toInt = ((6 * j : Nat) : Int) := Int32.toInt_ofNat_of_lt (by omega)
  have c : x.toInt = (L : Int) - 6 := by rw [ex]; exact i3_sub (b := 6) (y := 6) a rfl (by omega) (by omega)
  have d := mt Int32.lt_iff_toInt_lt.mpr h
  omega
theorem lw_ix {L j k : Nat} {c : Int32} (hL : L ≤ 3072) (hj : 6 * j + 6 ≤ L) (hc : c.toInt = (k : Int)) (hk : k < 6) : vp_in (nI (6 * j) + c) L := by
  have b : (nI (6 * j)).toInt = ((6 * j : Nat) : Int) := Int32.toInt_ofNat_of_lt (by omega)
  have d : (nI (6 * j) + c).toInt = ((6 * j : Nat) : Int) + k := i3_add b hc (by omega) (by omega)
  intro h
  rcases h with h | h
  · have := Int32.lt_iff_toInt_lt.mp h
    have z : (0 : Int32).toInt = 0 := by decide
    omega
  · have e : (nI (6 * j) + c).toNatClampNeg = (nI (6 * j) + c).toInt.toNat := rfl
    omega
theorem lw_ix0 {L j : Nat} (hL : L ≤ 3072) (hj : 6 * j + 6 ≤ L) : vp_in (nI (6 * j)) L := by
  have b : (nI (6 * j)).toInt = ((6 * j : Nat) : Int) := Int32.toInt_ofNat_of_lt (by omega)
  intro h
  rcases h with h | h
  · have := Int32.lt_iff_toInt_lt.mp h
    have z : (0 : Int32).toInt = 0 := by decide
    omega
  · have e : (nI (6 * j)).toNatClampNeg = (nI (6 * j)).toInt.toNat := rfl
    omega
theorem nI_6 (j : Nat) : nI (6 * j) + 6 = nI (6 * (j + 1)) := by
  show Int32.ofNat (6 * j) + Int32.ofNat 6 = Int32.ofNat (6 * (j + 1))
  rw [← Int32.ofNat_add]
  congr 1

set_option maxHeartbeats 80000000 in
set_option maxRecDepth 100000 in
/-- the law's loop: from any state of both objects -/
theorem law_loop {p : Program} {e : Env} {s : State} {m : MethodId} {below : List Frame} {meth : Method} {c : Code} (l : Launch) (hflags : l.flags = flags0) {b L : Nat} {xs : Nat → Int32} (C0 : lw_At p s m meth c b L xs) (hL : L ≤ 3072) (dC : Nat → ClassId) (dI : Nat → Nat → Nat) (ad am : Nat → Nat) (cA cM : Nat → ClassId) (lo : Nat) (cL : ClassId) (adK adV : Nat → Nat) (sa : Nat) (hKX0 : va_K (dC, dI) vwCl (tX cA) s) (hKM0 : va_K (dC, dI) vwCl (tM cM) s) (hKL0 : va_K (dC, dI) vwCl [(cL, .long)] s) (hT : gT adK adV (fun q : Nat => s.heap.size ≤ q) s s.heap) (hR : vk_R RX11 386 "no such holiday" sa s) (dj : ∀ i, i < 155 → ∀ j, j < 31 → ad i ≠ am j) (djX : ∀ i, i < 155 → ad i ≠ lo) (djM : ∀ i, i < 31 → am i ≠ lo) : ∀ (n j : Nat) (σ τ : gs) (f : Nat → Int64) (d : Drawn) (H : Heap) (locs : List Loc) (ls : Array Slot) (cells slots : Nat), L + 6 - 6 * j < n → 6 * j ≤ L + 6 → InvX σ → InvM τ → Deep τ → cells ≤ 187 + j → slots ≤ 12986 + 6 * j → s.drawn.sameBut d lw_cs → va_P (dC, dI) vwCl (wX ad cA σ) H → va_D (fun q : Nat => s.heap.size ≤ q) (wX ad cA σ) → va_P (dC, dI) vwCl (wM am cM τ) H → va_D (fun q : Nat => s.heap.size ≤ q) (wM am cM τ) → va_P (dC, dI) vwCl [(lo, .inl (cL, 1, .inr (.inl f)))] H → va_D (fun q : Nat => s.heap.size ≤ q) [(lo, .inl (cL, 1, .inr (.inl f)))] → va_S (fun q : Nat => s.heap.size ≤ q) s.heap H locs → lv_has ls 7 [(4, .int (nI (6 * j))), (3, .ref lo), (2, .ref (am 0)), (1, .ref (ad 0)), (0, .ref b)] → W p l e room_1 (s.setDrawn d) m #[Value.ref b] below meth c H locs cells slots (lw_Z below #[Value.ref b] s) (F0 m 23 ls []) := by
  obtain ⟨hx, hb, hr, hml, hown0, htsL, hX0, hbl, hlocks, hgv⟩ := id C0
  have hown0 : s.vm.findClass RL = some m.cls := hown0
  have hl0 : l.stackTraces = false := hx_fl hflags
  have htsT0 : ∀ w ∈ hy_T, w.before #[Value.ref b] s = true := fun w h => htsL w (hy_T_in w h)
  have hts0 : ∀ w ∈ wsL_law0, w.before #[Value.ref b] s = true := fun w h => htsL w (wsL_law_in0 w h)
  have hA : ∀ q : Nat, s.heap.size ≤ q → (fun q : Nat => s.heap.size ≤ q) q := fun _ h => h
  have hbA : ¬ (fun q : Nat => s.heap.size ≤ q) b := Nat.not_le.mpr hbl
  generalize hAe : (fun q : Nat => s.heap.size ≤ q) = A at hA hbA hT ⊢
  have hrc : room_1.cells = 601024 := rfl
  have hrs : room_1.slots = 7293034 := rfl
  intro n
  induction n with
  | zero => intro j σ τ f d H locs ls cells slots hm; exact absurd hm (Nat.not_lt_zero _)
  | succ n ih =>
  intro j σ τ f d H locs ls cells slots hm hj hIX hIM hDp hcl hsl hd0 hPX hDX hPM hDM hPO hDO hS hl
  have hts := dr_words hts0 (d)
  have hKX := gKd hKX0 (d)
  have hKM := gKd hKM0 (d)
  have hown : (s.setDrawn (d)).vm.findClass RL = some m.cls := hown0
  have hX : va_X b L xs (s.setDrawn (d)) s.heap := hX0
  refine lv_iload hx hb dL_law_23 (lv_at hl 0 rfl) ?_
  refine lv_aload_n hx hb dL_law_25 rfl (lv_at hl 4 rfl) ?_
  refine va_slen hx hb hX hbl hbA hS dL_law_26 ?_
  refine lv_bipush (v := 6) hx hb dL_law_27 (by decide) ?_
  refine lv_isub hx hb dL_law_29 ?_
  refine lv_topi (fun x_1 ex_1 => ?_)
  refine lv_icmp_gt (tgt := 1857) hx hb dL_law_30 (by decide) (fun c_2 => ?_) (fun c_2 => ?_)
  · refine lv_iconst (v := 1) hx hb dL_law_1857 (by decide) ?_
    refine va_forget (fun q hq => by have h9 := hS.2.2 q hq; rw [← hAe] at h9; exact h9) ?_
    refine W.widen (k := 601024) (n := 7293034) (by omega) (by omega) ?_
    exact lw_ret hd0 hx hb hr hlocks dL_law_1858
  · have hin : 6 * j + 6 ≤ L := lw_in hL hj ex_1 c_2
    refine lv_aload_n hx hb dL_law_33 rfl (lv_at hl 4 rfl) ?_
    refine lv_iload hx hb dL_law_34 (lv_at hl 0 rfl) ?_
    refine va_sld hx hb hX hbl hbA hS (lw_ix0 hL hin) dL_law_36 ?_
    refine lv_bipush (v := 63) hx hb dL_law_37 (by decide) ?_
    refine lv_iand hx hb dL_law_39 ?_
    by_cases c_3 : ((xs (nI (6 * j)).toNatClampNeg) &&& 63) = 0
    · refine lv_tableIn (tgt := 228) hx hb dL_law_40 (by rw [c_3]; decide) (by rw [c_3]; decide) (by rw [c_3]; rfl) (by decide) ?_
      refine lv_aload_n hx hb dL_law_228 rfl (lv_at hl 3 rfl) ?_
      refine lv_aload_n hx hb dL_law_229 rfl (lv_at hl 4 rfl) ?_
      refine lv_iload hx hb dL_law_230 (lv_at hl 0 rfl) ?_
      refine lv_iconst (v := 1) hx hb dL_law_232 (by decide) ?_
      refine lv_iadd hx hb dL_law_233 ?_
      refine va_sld hx hb hX hbl hbA hS (lw_ix (k := 1) hL hin (by decide) (by decide)) dL_law_234 ?_
      refine lv_aload_n hx hb dL_law_235 rfl (lv_at hl 4 rfl) ?_
      refine lv_iload hx hb dL_law_236 (lv_at hl 0 rfl) ?_
      refine lv_iconst (v := 2) hx hb dL_law_238 (by decide) ?_
      refine lv_iadd hx hb dL_law_239 ?_
      refine va_sld hx hb hX hbl hbA hS (lw_ix (k := 2) hL hin (by decide) (by decide)) dL_law_240 ?_
      refine lv_aload_n hx hb dL_law_241 rfl (lv_at hl 4 rfl) ?_
      refine lv_iload hx hb dL_law_242 (lv_at hl 0 rfl) ?_
      refine lv_iconst (v := 3) hx hb dL_law_244 (by decide) ?_
      refine lv_iadd hx hb dL_law_245 ?_
      refine va_sld hx hb hX hbl hbA hS (lw_ix (k := 3) hL hin (by decide) (by decide)) dL_law_246 ?_
      refine lv_aload_n hx hb dL_law_247 rfl (lv_at hl 4 rfl) ?_
      refine lv_iload hx hb dL_law_248 (lv_at hl 0 rfl) ?_
      refine lv_iconst (v := 4) hx hb dL_law_250 (by decide) ?_
      refine lv_iadd hx hb dL_law_251 ?_
      refine va_sld hx hb hX hbl hbA hS (lw_ix (k := 4) hL hin (by decide) (by decide)) dL_law_252 ?_
      refine lv_aload_n hx hb dL_law_253 rfl (lv_at hl 4 rfl) ?_
      refine lv_iload hx hb dL_law_254 (lv_at hl 0 rfl) ?_
      refine lv_iconst (v := 5) hx hb dL_law_256 (by decide) ?_
      refine lv_iadd hx hb dL_law_257 ?_
      refine va_sld hx hb hX hbl hbA hS (lw_ix (k := 5) hL hin (by decide) (by decide)) dL_law_258 ?_
      have hF := gFree hDX hS hA
      refine va_calliD hd0 (va_runV_D (As := [.int (xs ((nI (6 * j)) + 1).toNatClampNeg), .int (xs ((nI (6 * j)) + 2).toNatClampNeg), .int (xs ((nI (6 * j)) + 3).toNatClampNeg), .int (xs ((nI (6 * j)) + 4).toNatClampNeg), .int (xs ((nI (6 * j)) + 5).toNatClampNeg)]) (rest := []) ⟨hx, hb, hml, hown, hts⟩ (n_X11_feed l dC dI ad cA adK adV H.size σ hIX (xs ((nI (6 * j)) + 1).toNatClampNeg) (xs ((nI (6 * j)) + 2).toNatClampNeg) (xs ((nI (6 * j)) + 3).toNatClampNeg) (xs ((nI (6 * j)) + 4).toNatClampNeg) (xs ((nI (6 * j)) + 5).toNatClampNeg) ) (cwV 5 hts gL0_X11_feed rfl rfl rfl (by decide +kernel) ⟨Nat.le_of_ble_eq_true rfl, Nat.le_of_ble_eq_true rfl⟩) ⟨gBlind, va_recv hKX hPX (ci := 10) (q0 := 0) rfl (at_10 rfl), gStart (As := [.ref (ad 0), .int (xs ((nI (6 * j)) + 1).toNatClampNeg), .int (xs ((nI (6 * j)) + 2).toNatClampNeg), .int (xs ((nI (6 * j)) + 3).toNatClampNeg), .int (xs ((nI (6 * j)) + 4).toNatClampNeg), .int (xs ((nI (6 * j)) + 5).toNatClampNeg)]) hPX hDX hKX0 hT hS hF (d)⟩ rfl rfl hl.1 rfl (lv_room (Nat.le_of_ble_eq_true rfl)) dL_law_259 ⟨by omega, by omega⟩) hS (fun q _ h => hF q h) hF (fun r_4 σz_5 t H1 locs ht hvm hw hB hz1 hk1 hS d_6 hd0 => ?_)
      have hts := dr_words hts0 (d_6)
      have hKX := gKd hKX0 (d_6)
      have hKM := gKd hKM0 (d_6)
      have hown : (s.setDrawn (d_6)).vm.findClass RL = some m.cls := hown0
      have hX : va_X b L xs (s.setDrawn (d_6)) s.heap := hX0
      obtain ⟨hPX, hDX⟩ := gBack hF ht hB
      obtain ⟨hI_8, fc_9, hp_7⟩ := hw
      have hPM := gOther hPM hk1 (dj_G dj)
      have hPO := gOther hPO hk1 (dj_1 djX)
      generalize H1 = H at hPX hPM hPO hS ⊢
      refine lv_pop hx hb dL_law_262 rfl ?_
      refine lv_aload_n hx hb dL_law_263 rfl (lv_at hl 2 rfl) ?_
      refine lv_aload_n hx hb dL_law_264 rfl (lv_at hl 4 rfl) ?_
      refine lv_iload hx hb dL_law_265 (lv_at hl 0 rfl) ?_
      refine lv_iconst (v := 1) hx hb dL_law_267 (by decide) ?_
      refine lv_iadd hx hb dL_law_268 ?_
      refine va_sld hx hb hX hbl hbA hS (lw_ix (k := 1) hL hin (by decide) (by decide)) dL_law_269 ?_
      refine lv_aload_n hx hb dL_law_270 rfl (lv_at hl 4 rfl) ?_
      refine lv_iload hx hb dL_law_271 (lv_at hl 0 rfl) ?_
      refine lv_iconst (v := 2) hx hb dL_law_273 (by decide) ?_
      refine lv_iadd hx hb dL_law_274 ?_
      refine va_sld hx hb hX hbl hbA hS (lw_ix (k := 2) hL hin (by decide) (by decide)) dL_law_275 ?_
      refine lv_aload_n hx hb dL_law_276 rfl (lv_at hl 4 rfl) ?_
      refine lv_iload hx hb dL_law_277 (lv_at hl 0 rfl) ?_
      refine lv_iconst (v := 3) hx hb dL_law_279 (by decide) ?_
      refine lv_iadd hx hb dL_law_280 ?_
      refine va_sld hx hb hX hbl hbA hS (lw_ix (k := 3) hL hin (by decide) (by decide)) dL_law_281 ?_
      refine lv_aload_n hx hb dL_law_282 rfl (lv_at hl 4 rfl) ?_
      refine lv_iload hx hb dL_law_283 (lv_at hl 0 rfl) ?_
      refine lv_iconst (v := 4) hx hb dL_law_285 (by decide) ?_
      refine lv_iadd hx hb dL_law_286 ?_
      refine va_sld hx hb hX hbl hbA hS (lw_ix (k := 4) hL hin (by decide) (by decide)) dL_law_287 ?_
      refine lv_aload_n hx hb dL_law_288 rfl (lv_at hl 4 rfl) ?_
      refine lv_iload hx hb dL_law_289 (lv_at hl 0 rfl) ?_
      refine lv_iconst (v := 5) hx hb dL_law_291 (by decide) ?_
      refine lv_iadd hx hb dL_law_292 ?_
      refine va_sld hx hb hX hbl hbA hS (lw_ix (k := 5) hL hin (by decide) (by decide)) dL_law_293 ?_
      have hF := gFree hDM hS hA
      refine va_calliD hd0 (va_runV_D (As := [.int (xs ((nI (6 * j)) + 1).toNatClampNeg), .int (xs ((nI (6 * j)) + 2).toNatClampNeg), .int (xs ((nI (6 * j)) + 3).toNatClampNeg), .int (xs ((nI (6 * j)) + 4).toNatClampNeg), .int (xs ((nI (6 * j)) + 5).toNatClampNeg)]) (rest := []) ⟨hx, hb, hml, hown, hts⟩ (n_X12_feed l dC dI am cM adK adV H.size τ hIM (xs ((nI (6 * j)) + 1).toNatClampNeg) (xs ((nI (6 * j)) + 2).toNatClampNeg) (xs ((nI (6 * j)) + 3).toNatClampNeg) (xs ((nI (6 * j)) + 4).toNatClampNeg) (xs ((nI (6 * j)) + 5).toNatClampNeg) ) (cwV 5 hts gL0_X12_feed rfl rfl rfl (by decide +kernel) ⟨Nat.le_of_ble_eq_true rfl, Nat.le_of_ble_eq_true rfl⟩) ⟨gBlind, va_recv hKM hPM (ci := 11) (q0 := 0) rfl (mat_11 rfl), gStart (As := [.ref (am 0), .int (xs ((nI (6 * j)) + 1).toNatClampNeg), .int (xs ((nI (6 * j)) + 2).toNatClampNeg), .int (xs ((nI (6 * j)) + 3).toNatClampNeg), .int (xs ((nI (6 * j)) + 4).toNatClampNeg), .int (xs ((nI (6 * j)) + 5).toNatClampNeg)]) hPM hDM hKM0 hT hS hF (d_6)⟩ rfl rfl hl.1 rfl (lv_room (Nat.le_of_ble_eq_true rfl)) dL_law_294 ⟨by omega, by omega⟩) hS (fun q _ h => hF q h) hF (fun r_10 τz_11 t H1 locs ht hvm hw hB hz1 hk1 hS d_12 hd0 => ?_)
      have hts := dr_words hts0 (d_12)
      have hKX := gKd hKX0 (d_12)
      have hKM := gKd hKM0 (d_12)
      have hown : (s.setDrawn (d_12)).vm.findClass RL = some m.cls := hown0
      have hX : va_X b L xs (s.setDrawn (d_12)) s.heap := hX0
      obtain ⟨hPM, hDM⟩ := gBack hF ht hB
      obtain ⟨hI_14, fc_15, hp_13⟩ := hw
      have hPX := gOther hPX hk1 (dj_sym (dj_G dj))
      have hPO := gOther hPO hk1 (dj_1 djM)
      generalize H1 = H at hPX hPM hPO hS ⊢
      have dp_16 : Deep τz_11 := (Deep.fr hDp (fc_15.1 2 (by decide) (by decide)) (fc_15.1 4 (by decide) (by decide)) (fc_15.1 9 (by decide) (by decide)) (fc_15.1 11 (by decide) (by decide)) (fc_15.1 12 (by decide) (by decide)) (fc_15.1 17 (by decide) (by decide)) (fc_15.1 18 (by decide) (by decide)) (fc_15.2 20 (by decide)) (fc_15.2 21 (by decide)) (fc_15.2 28 (by decide)) (fc_15.2 64 (by decide)) (fc_15.2 65 (by decide)) (fc_15.2 68 (by decide)))
      refine lv_pop hx hb dL_law_297 rfl ?_
      refine lv_goto (tgt := 1851) hx hb dL_law_298 (by decide) ?_
      obtain ⟨x_17, ex_17⟩ : ∃ zz : Int32, zz = (nI (6 * j)) + 6 := ⟨_, rfl⟩
      refine lv_iinc (v := x_17) (lv' := [(4, .int x_17), (3, .ref lo), (2, .ref (am 0)), (1, .ref (ad 0)), (0, .ref b)]) hx hb dL_law_1851 hl (k := 0) rfl (by rw [ex_17]; rfl) (by decide) rfl (fun ls hl => ?_)
      refine lv_goto (tgt := 23) hx hb dL_law_1854 (by decide) ?_
      have hl := lv_sub hl [0, 1, 2, 3, 4] rfl
      rw [ex_17, nI_6] at hl
      exact ih (j + 1) σz_5 τz_11 f _ _ _ _ _ _ (by omega) (by omega) hI_8 hI_14 dp_16 (by omega) (by omega) hd0 hPX hDX hPM hDM hPO hDO hS hl
    by_cases c_18 : ((xs (nI (6 * j)).toNatClampNeg) &&& 63) = 1
    · refine lv_tableIn (tgt := 301) hx hb dL_law_40 (by rw [c_18]; decide) (by rw [c_18]; decide) (by rw [c_18]; rfl) (by decide) ?_
      refine lv_aload_n hx hb dL_law_301 rfl (lv_at hl 3 rfl) ?_
      refine lv_aload_n hx hb dL_law_302 rfl (lv_at hl 4 rfl) ?_
      refine lv_iload hx hb dL_law_303 (lv_at hl 0 rfl) ?_
      refine lv_iconst (v := 1) hx hb dL_law_305 (by decide) ?_
      refine lv_iadd hx hb dL_law_306 ?_
      refine va_sld hx hb hX hbl hbA hS (lw_ix (k := 1) hL hin (by decide) (by decide)) dL_law_307 ?_
      have hF := gFree hDX hS hA
      refine va_calliD hd0 (va_runV_D (As := [.int (xs ((nI (6 * j)) + 1).toNatClampNeg)]) (rest := []) ⟨hx, hb, hml, hown, hts⟩ (n_X11_desk l dC dI ad cA adK adV H.size σ hIX (xs ((nI (6 * j)) + 1).toNatClampNeg) ) (cwV 1 hts gL0_X11_desk rfl rfl rfl (by decide +kernel) ⟨Nat.le_of_ble_eq_true rfl, Nat.le_of_ble_eq_true rfl⟩) ⟨gBlind, va_recv hKX hPX (ci := 10) (q0 := 0) rfl (at_10 rfl), gStart (As := [.ref (ad 0), .int (xs ((nI (6 * j)) + 1).toNatClampNeg)]) hPX hDX hKX0 hT hS hF (d)⟩ rfl rfl hl.1 rfl (lv_room (Nat.le_of_ble_eq_true rfl)) dL_law_308 ⟨by omega, by omega⟩) hS (fun q _ h => hF q h) hF (fun r_19 σz_20 t H1 locs ht hvm hw hB hz1 hk1 hS d_21 hd0 => ?_)
      have hts := dr_words hts0 (d_21)
      have hKX := gKd hKX0 (d_21)
      have hKM := gKd hKM0 (d_21)
      have hown : (s.setDrawn (d_21)).vm.findClass RL = some m.cls := hown0
      have hX : va_X b L xs (s.setDrawn (d_21)) s.heap := hX0
      obtain ⟨hPX, hDX⟩ := gBack hF ht hB
      obtain ⟨hI_23, fc_24, hp_22⟩ := hw
      have hPM := gOther hPM hk1 (dj_G dj)
      have hPO := gOther hPO hk1 (dj_1 djX)
      generalize H1 = H at hPX hPM hPO hS ⊢
      refine lv_pop hx hb dL_law_311 rfl ?_
      refine lv_aload_n hx hb dL_law_312 rfl (lv_at hl 2 rfl) ?_
      refine lv_aload_n hx hb dL_law_313 rfl (lv_at hl 4 rfl) ?_
      refine lv_iload hx hb dL_law_314 (lv_at hl 0 rfl) ?_
      refine lv_iconst (v := 1) hx hb dL_law_316 (by decide) ?_
      refine lv_iadd hx hb dL_law_317 ?_
      refine va_sld hx hb hX hbl hbA hS (lw_ix (k := 1) hL hin (by decide) (by decide)) dL_law_318 ?_
      have hF := gFree hDM hS hA
      refine va_calliD hd0 (va_runV_D (As := [.int (xs ((nI (6 * j)) + 1).toNatClampNeg)]) (rest := []) ⟨hx, hb, hml, hown, hts⟩ (n_X12_desk l dC dI am cM adK adV H.size τ hIM (xs ((nI (6 * j)) + 1).toNatClampNeg) hDp) (cwV 1 hts gL0_X12_desk rfl rfl rfl (by decide +kernel) ⟨Nat.le_of_ble_eq_true rfl, Nat.le_of_ble_eq_true rfl⟩) ⟨gBlind, va_recv hKM hPM (ci := 11) (q0 := 0) rfl (mat_11 rfl), gStart (As := [.ref (am 0), .int (xs ((nI (6 * j)) + 1).toNatClampNeg)]) hPM hDM hKM0 hT hS hF (d_21)⟩ rfl rfl hl.1 rfl (lv_room (Nat.le_of_ble_eq_true rfl)) dL_law_319 ⟨by omega, by omega⟩) hS (fun q _ h => hF q h) hF (fun r_25 τz_26 t H1 locs ht hvm hw hB hz1 hk1 hS d_27 hd0 => ?_)
      have hts := dr_words hts0 (d_27)
      have hKX := gKd hKX0 (d_27)
      have hKM := gKd hKM0 (d_27)
      have hown : (s.setDrawn (d_27)).vm.findClass RL = some m.cls := hown0
      have hX : va_X b L xs (s.setDrawn (d_27)) s.heap := hX0
      obtain ⟨hPM, hDM⟩ := gBack hF ht hB
      obtain ⟨hI_29, fc_30, hp_28⟩ := hw
      have hPX := gOther hPX hk1 (dj_sym (dj_G dj))
      have hPO := gOther hPO hk1 (dj_1 djM)
      generalize H1 = H at hPX hPM hPO hS ⊢
      have dp_31 : Deep τz_26 := hp_28
      refine lv_pop hx hb dL_law_322 rfl ?_
      refine lv_goto (tgt := 1851) hx hb dL_law_323 (by decide) ?_
      obtain ⟨x_32, ex_32⟩ : ∃ zz : Int32, zz = (nI (6 * j)) + 6 := ⟨_, rfl⟩
      refine lv_iinc (v := x_32) (lv' := [(4, .int x_32), (3, .ref lo), (2, .ref (am 0)), (1, .ref (ad 0)), (0, .ref b)]) hx hb dL_law_1851 hl (k := 0) rfl (by rw [ex_32]; rfl) (by decide) rfl (fun ls hl => ?_)
      refine lv_goto (tgt := 23) hx hb dL_law_1854 (by decide) ?_
      have hl := lv_sub hl [0, 1, 2, 3, 4] rfl
      rw [ex_32, nI_6] at hl
      exact ih (j + 1) σz_20 τz_26 f _ _ _ _ _ _ (by omega) (by omega) hI_23 hI_29 dp_31 (by omega) (by omega) hd0 hPX hDX hPM hDM hPO hDO hS hl
    by_cases c_33 : ((xs (nI (6 * j)).toNatClampNeg) &&& 63) = 2
    · refine lv_tableIn (tgt := 326) hx hb dL_law_40 (by rw [c_33]; decide) (by rw [c_33]; decide) (by rw [c_33]; rfl) (by decide) ?_
      refine lv_aload_n hx hb dL_law_326 rfl (lv_at hl 3 rfl) ?_
      have hF := gFree hDX hS hA
      refine va_calliD hd0 (va_runV_D (As := []) (rest := []) ⟨hx, hb, hml, hown, hts⟩ (n_X11_fault l dC dI ad cA adK adV H.size σ hIX  ) (cwV 0 hts gL0_X11_fault rfl rfl rfl (by decide +kernel) ⟨Nat.le_of_ble_eq_true rfl, Nat.le_of_ble_eq_true rfl⟩) ⟨gBlind, va_recv hKX hPX (ci := 10) (q0 := 0) rfl (at_10 rfl), gStart (As := [.ref (ad 0)]) hPX hDX hKX0 hT hS hF (d)⟩ rfl rfl hl.1 rfl (lv_room (Nat.le_of_ble_eq_true rfl)) dL_law_327 ⟨by omega, by omega⟩) hS (fun q _ h => hF q h) hF (fun r_34 σz_35 t H1 locs ht hvm hw hB hz1 hk1 hS d_36 hd0 => ?_)
      have hts := dr_words hts0 (d_36)
      have hKX := gKd hKX0 (d_36)
      have hKM := gKd hKM0 (d_36)
      have hown : (s.setDrawn (d_36)).vm.findClass RL = some m.cls := hown0
      have hX : va_X b L xs (s.setDrawn (d_36)) s.heap := hX0
      obtain ⟨hPX, hDX⟩ := gBack hF ht hB
      obtain ⟨hI_38, fc_39, hp_37⟩ := hw
      have hPM := gOther hPM hk1 (dj_G dj)
      have hPO := gOther hPO hk1 (dj_1 djX)
      generalize H1 = H at hPX hPM hPO hS ⊢
      refine lv_pop hx hb dL_law_330 rfl ?_
      refine lv_aload_n hx hb dL_law_331 rfl (lv_at hl 2 rfl) ?_
      have hF := gFree hDM hS hA
      refine va_calliD hd0 (va_runV_D (As := []) (rest := []) ⟨hx, hb, hml, hown, hts⟩ (n_X12_fault l dC dI am cM adK adV H.size τ hIM  ) (cwV 0 hts gL0_X12_fault rfl rfl rfl (by decide +kernel) ⟨Nat.le_of_ble_eq_true rfl, Nat.le_of_ble_eq_true rfl⟩) ⟨gBlind, va_recv hKM hPM (ci := 11) (q0 := 0) rfl (mat_11 rfl), gStart (As := [.ref (am 0)]) hPM hDM hKM0 hT hS hF (d_36)⟩ rfl rfl hl.1 rfl (lv_room (Nat.le_of_ble_eq_true rfl)) dL_law_332 ⟨by omega, by omega⟩) hS (fun q _ h => hF q h) hF (fun r_40 τz_41 t H1 locs ht hvm hw hB hz1 hk1 hS d_42 hd0 => ?_)
      have hts := dr_words hts0 (d_42)
      have hKX := gKd hKX0 (d_42)
      have hKM := gKd hKM0 (d_42)
      have hown : (s.setDrawn (d_42)).vm.findClass RL = some m.cls := hown0
      have hX : va_X b L xs (s.setDrawn (d_42)) s.heap := hX0
      obtain ⟨hPM, hDM⟩ := gBack hF ht hB
      obtain ⟨hI_44, fc_45, hp_43⟩ := hw
      have hPX := gOther hPX hk1 (dj_sym (dj_G dj))
      have hPO := gOther hPO hk1 (dj_1 djM)
      generalize H1 = H at hPX hPM hPO hS ⊢
      have dp_46 : Deep τz_41 := (Deep.fr hDp (fc_45.1 2 (by decide) (by decide)) (fc_45.1 4 (by decide) (by decide)) (fc_45.1 9 (by decide) (by decide)) (fc_45.1 11 (by decide) (by decide)) (fc_45.1 12 (by decide) (by decide)) (fc_45.1 17 (by decide) (by decide)) (fc_45.1 18 (by decide) (by decide)) (fc_45.2 20 (by decide)) (fc_45.2 21 (by decide)) (fc_45.2 28 (by decide)) (fc_45.2 64 (by decide)) (fc_45.2 65 (by decide)) (fc_45.2 68 (by decide)))
      refine lv_pop hx hb dL_law_335 rfl ?_
      refine lv_goto (tgt := 1851) hx hb dL_law_336 (by decide) ?_
      obtain ⟨x_47, ex_47⟩ : ∃ zz : Int32, zz = (nI (6 * j)) + 6 := ⟨_, rfl⟩
      refine lv_iinc (v := x_47) (lv' := [(4, .int x_47), (3, .ref lo), (2, .ref (am 0)), (1, .ref (ad 0)), (0, .ref b)]) hx hb dL_law_1851 hl (k := 0) rfl (by rw [ex_47]; rfl) (by decide) rfl (fun ls hl => ?_)
      refine lv_goto (tgt := 23) hx hb dL_law_1854 (by decide) ?_
      have hl := lv_sub hl [0, 1, 2, 3, 4] rfl
      rw [ex_47, nI_6] at hl
      exact ih (j + 1) σz_35 τz_41 f _ _ _ _ _ _ (by omega) (by omega) hI_38 hI_44 dp_46 (by omega) (by omega) hd0 hPX hDX hPM hDM hPO hDO hS hl
    by_cases c_48 : ((xs (nI (6 * j)).toNatClampNeg) &&& 63) = 3
    · refine lv_tableIn (tgt := 339) hx hb dL_law_40 (by rw [c_48]; decide) (by rw [c_48]; decide) (by rw [c_48]; rfl) (by decide) ?_
      refine lv_aload_n hx hb dL_law_339 rfl (lv_at hl 3 rfl) ?_
      have hF := gFree hDX hS hA
      refine va_calliD hd0 (va_runV_D (As := []) (rest := []) ⟨hx, hb, hml, hown, hts⟩ (n_X11_where l dC dI ad cA adK adV H.size σ hIX  ) (cwV 0 hts gL0_X11_where rfl rfl rfl (by decide +kernel) ⟨Nat.le_of_ble_eq_true rfl, Nat.le_of_ble_eq_true rfl⟩) ⟨gBlind, va_recv hKX hPX (ci := 10) (q0 := 0) rfl (at_10 rfl), gStart (As := [.ref (ad 0)]) hPX hDX hKX0 hT hS hF (d)⟩ rfl rfl hl.1 rfl (lv_room (Nat.le_of_ble_eq_true rfl)) dL_law_340 ⟨by omega, by omega⟩) hS (fun q _ h => hF q h) hF (fun r_49 σz_50 t H1 locs ht hvm hw hB hz1 hk1 hS d_51 hd0 => ?_)
      have hts := dr_words hts0 (d_51)
      have hKX := gKd hKX0 (d_51)
      have hKM := gKd hKM0 (d_51)
      have hown : (s.setDrawn (d_51)).vm.findClass RL = some m.cls := hown0
      have hX : va_X b L xs (s.setDrawn (d_51)) s.heap := hX0
      obtain ⟨hPX, hDX⟩ := gBack hF ht hB
      obtain ⟨hI_53, fc_54, hp_52⟩ := hw
      have hPM := gOther hPM hk1 (dj_G dj)
      have hPO := gOther hPO hk1 (dj_1 djX)
      generalize H1 = H at hPX hPM hPO hS ⊢
      refine lv_pop hx hb dL_law_343 rfl ?_
      refine lv_aload_n hx hb dL_law_344 rfl (lv_at hl 2 rfl) ?_
      have hF := gFree hDM hS hA
      refine va_calliD hd0 (va_runV_D (As := []) (rest := []) ⟨hx, hb, hml, hown, hts⟩ (n_X12_where l dC dI am cM adK adV H.size τ hIM  ) (cwV 0 hts gL0_X12_where rfl rfl rfl (by decide +kernel) ⟨Nat.le_of_ble_eq_true rfl, Nat.le_of_ble_eq_true rfl⟩) ⟨gBlind, va_recv hKM hPM (ci := 11) (q0 := 0) rfl (mat_11 rfl), gStart (As := [.ref (am 0)]) hPM hDM hKM0 hT hS hF (d_51)⟩ rfl rfl hl.1 rfl (lv_room (Nat.le_of_ble_eq_true rfl)) dL_law_345 ⟨by omega, by omega⟩) hS (fun q _ h => hF q h) hF (fun r_55 τz_56 t H1 locs ht hvm hw hB hz1 hk1 hS d_57 hd0 => ?_)
      have hts := dr_words hts0 (d_57)
      have hKX := gKd hKX0 (d_57)
      have hKM := gKd hKM0 (d_57)
      have hown : (s.setDrawn (d_57)).vm.findClass RL = some m.cls := hown0
      have hX : va_X b L xs (s.setDrawn (d_57)) s.heap := hX0
      obtain ⟨hPM, hDM⟩ := gBack hF ht hB
      obtain ⟨hI_59, fc_60, hp_58⟩ := hw
      have hPX := gOther hPX hk1 (dj_sym (dj_G dj))
      have hPO := gOther hPO hk1 (dj_1 djM)
      generalize H1 = H at hPX hPM hPO hS ⊢
      have dp_61 : Deep τz_56 := (Deep.fr hDp (fc_60.1 2 (by decide) (by decide)) (fc_60.1 4 (by decide) (by decide)) (fc_60.1 9 (by decide) (by decide)) (fc_60.1 11 (by decide) (by decide)) (fc_60.1 12 (by decide) (by decide)) (fc_60.1 17 (by decide) (by decide)) (fc_60.1 18 (by decide) (by decide)) (fc_60.2 20 (by decide)) (fc_60.2 21 (by decide)) (fc_60.2 28 (by decide)) (fc_60.2 64 (by decide)) (fc_60.2 65 (by decide)) (fc_60.2 68 (by decide)))
      refine lv_pop hx hb dL_law_348 rfl ?_
      refine lv_goto (tgt := 1851) hx hb dL_law_349 (by decide) ?_
      obtain ⟨x_62, ex_62⟩ : ∃ zz : Int32, zz = (nI (6 * j)) + 6 := ⟨_, rfl⟩
      refine lv_iinc (v := x_62) (lv' := [(4, .int x_62), (3, .ref lo), (2, .ref (am 0)), (1, .ref (ad 0)), (0, .ref b)]) hx hb dL_law_1851 hl (k := 0) rfl (by rw [ex_62]; rfl) (by decide) rfl (fun ls hl => ?_)
      refine lv_goto (tgt := 23) hx hb dL_law_1854 (by decide) ?_
      have hl := lv_sub hl [0, 1, 2, 3, 4] rfl
      rw [ex_62, nI_6] at hl
      exact ih (j + 1) σz_50 τz_56 f _ _ _ _ _ _ (by omega) (by omega) hI_53 hI_59 dp_61 (by omega) (by omega) hd0 hPX hDX hPM hDM hPO hDO hS hl
    by_cases c_63 : ((xs (nI (6 * j)).toNatClampNeg) &&& 63) = 4
    · refine lv_tableIn (tgt := 352) hx hb dL_law_40 (by rw [c_63]; decide) (by rw [c_63]; decide) (by rw [c_63]; rfl) (by decide) ?_
      refine lv_aload_n hx hb dL_law_352 rfl (lv_at hl 3 rfl) ?_
      refine lv_aload_n hx hb dL_law_353 rfl (lv_at hl 4 rfl) ?_
      refine lv_iload hx hb dL_law_354 (lv_at hl 0 rfl) ?_
      refine lv_iconst (v := 1) hx hb dL_law_356 (by decide) ?_
      refine lv_iadd hx hb dL_law_357 ?_
      refine va_sld hx hb hX hbl hbA hS (lw_ix (k := 1) hL hin (by decide) (by decide)) dL_law_358 ?_
      refine lv_aload_n hx hb dL_law_359 rfl (lv_at hl 4 rfl) ?_
      refine lv_iload hx hb dL_law_360 (lv_at hl 0 rfl) ?_
      refine lv_iconst (v := 2) hx hb dL_law_362 (by decide) ?_
      refine lv_iadd hx hb dL_law_363 ?_
      refine va_sld hx hb hX hbl hbA hS (lw_ix (k := 2) hL hin (by decide) (by decide)) dL_law_364 ?_
      have hF := gFree hDX hS hA
      refine va_calliD hd0 (va_runV_D (As := [.int (xs ((nI (6 * j)) + 1).toNatClampNeg), .int (xs ((nI (6 * j)) + 2).toNatClampNeg)]) (rest := []) ⟨hx, hb, hml, hown, hts⟩ (n_X11_days l dC dI ad cA adK adV H.size σ hIX (xs ((nI (6 * j)) + 1).toNatClampNeg) (xs ((nI (6 * j)) + 2).toNatClampNeg) ) (cwV 2 hts gL0_X11_days rfl rfl rfl (by decide +kernel) ⟨Nat.le_of_ble_eq_true rfl, Nat.le_of_ble_eq_true rfl⟩) ⟨gBlind, va_recv hKX hPX (ci := 10) (q0 := 0) rfl (at_10 rfl), gStart (As := [.ref (ad 0), .int (xs ((nI (6 * j)) + 1).toNatClampNeg), .int (xs ((nI (6 * j)) + 2).toNatClampNeg)]) hPX hDX hKX0 hT hS hF (d)⟩ rfl rfl hl.1 rfl (lv_room (Nat.le_of_ble_eq_true rfl)) dL_law_365 ⟨by omega, by omega⟩) hS (fun q _ h => hF q h) hF (fun r_64 σz_65 t H1 locs ht hvm hw hB hz1 hk1 hS d_66 hd0 => ?_)
      have hts := dr_words hts0 (d_66)
      have hKX := gKd hKX0 (d_66)
      have hKM := gKd hKM0 (d_66)
      have hown : (s.setDrawn (d_66)).vm.findClass RL = some m.cls := hown0
      have hX : va_X b L xs (s.setDrawn (d_66)) s.heap := hX0
      obtain ⟨hPX, hDX⟩ := gBack hF ht hB
      obtain ⟨hI_68, fc_69, hp_67⟩ := hw
      have hPM := gOther hPM hk1 (dj_G dj)
      have hPO := gOther hPO hk1 (dj_1 djX)
      generalize H1 = H at hPX hPM hPO hS ⊢
      refine lv_pop hx hb dL_law_368 rfl ?_
      refine lv_aload_n hx hb dL_law_369 rfl (lv_at hl 2 rfl) ?_
      refine lv_aload_n hx hb dL_law_370 rfl (lv_at hl 4 rfl) ?_
      refine lv_iload hx hb dL_law_371 (lv_at hl 0 rfl) ?_
      refine lv_iconst (v := 1) hx hb dL_law_373 (by decide) ?_
      refine lv_iadd hx hb dL_law_374 ?_
      refine va_sld hx hb hX hbl hbA hS (lw_ix (k := 1) hL hin (by decide) (by decide)) dL_law_375 ?_
      refine lv_aload_n hx hb dL_law_376 rfl (lv_at hl 4 rfl) ?_
      refine lv_iload hx hb dL_law_377 (lv_at hl 0 rfl) ?_
      refine lv_iconst (v := 2) hx hb dL_law_379 (by decide) ?_
      refine lv_iadd hx hb dL_law_380 ?_
      refine va_sld hx hb hX hbl hbA hS (lw_ix (k := 2) hL hin (by decide) (by decide)) dL_law_381 ?_
      have hF := gFree hDM hS hA
      refine va_calliD hd0 (va_runV_D (As := [.int (xs ((nI (6 * j)) + 1).toNatClampNeg), .int (xs ((nI (6 * j)) + 2).toNatClampNeg)]) (rest := []) ⟨hx, hb, hml, hown, hts⟩ (n_X12_days l dC dI am cM adK adV H.size τ hIM (xs ((nI (6 * j)) + 1).toNatClampNeg) (xs ((nI (6 * j)) + 2).toNatClampNeg) ) (cwV 2 hts gL0_X12_days rfl rfl rfl (by decide +kernel) ⟨Nat.le_of_ble_eq_true rfl, Nat.le_of_ble_eq_true rfl⟩) ⟨gBlind, va_recv hKM hPM (ci := 11) (q0 := 0) rfl (mat_11 rfl), gStart (As := [.ref (am 0), .int (xs ((nI (6 * j)) + 1).toNatClampNeg), .int (xs ((nI (6 * j)) + 2).toNatClampNeg)]) hPM hDM hKM0 hT hS hF (d_66)⟩ rfl rfl hl.1 rfl (lv_room (Nat.le_of_ble_eq_true rfl)) dL_law_382 ⟨by omega, by omega⟩) hS (fun q _ h => hF q h) hF (fun r_70 τz_71 t H1 locs ht hvm hw hB hz1 hk1 hS d_72 hd0 => ?_)
      have hts := dr_words hts0 (d_72)
      have hKX := gKd hKX0 (d_72)
      have hKM := gKd hKM0 (d_72)
      have hown : (s.setDrawn (d_72)).vm.findClass RL = some m.cls := hown0
      have hX : va_X b L xs (s.setDrawn (d_72)) s.heap := hX0
      obtain ⟨hPM, hDM⟩ := gBack hF ht hB
      obtain ⟨hI_74, fc_75, hp_73⟩ := hw
      have hPX := gOther hPX hk1 (dj_sym (dj_G dj))
      have hPO := gOther hPO hk1 (dj_1 djM)
      generalize H1 = H at hPX hPM hPO hS ⊢
      have dp_76 : Deep τz_71 := (Deep.fr hDp (fc_75.1 2 (by decide) (by decide)) (fc_75.1 4 (by decide) (by decide)) (fc_75.1 9 (by decide) (by decide)) (fc_75.1 11 (by decide) (by decide)) (fc_75.1 12 (by decide) (by decide)) (fc_75.1 17 (by decide) (by decide)) (fc_75.1 18 (by decide) (by decide)) (fc_75.2 20 (by decide)) (fc_75.2 21 (by decide)) (fc_75.2 28 (by decide)) (fc_75.2 64 (by decide)) (fc_75.2 65 (by decide)) (fc_75.2 68 (by decide)))
      refine lv_pop hx hb dL_law_385 rfl ?_
      refine lv_goto (tgt := 1851) hx hb dL_law_386 (by decide) ?_
      obtain ⟨x_77, ex_77⟩ : ∃ zz : Int32, zz = (nI (6 * j)) + 6 := ⟨_, rfl⟩
      refine lv_iinc (v := x_77) (lv' := [(4, .int x_77), (3, .ref lo), (2, .ref (am 0)), (1, .ref (ad 0)), (0, .ref b)]) hx hb dL_law_1851 hl (k := 0) rfl (by rw [ex_77]; rfl) (by decide) rfl (fun ls hl => ?_)
      refine lv_goto (tgt := 23) hx hb dL_law_1854 (by decide) ?_
      have hl := lv_sub hl [0, 1, 2, 3, 4] rfl
      rw [ex_77, nI_6] at hl
      exact ih (j + 1) σz_65 τz_71 f _ _ _ _ _ _ (by omega) (by omega) hI_68 hI_74 dp_76 (by omega) (by omega) hd0 hPX hDX hPM hDM hPO hDO hS hl
    by_cases c_78 : ((xs (nI (6 * j)).toNatClampNeg) &&& 63) = 5
    · refine lv_tableIn (tgt := 389) hx hb dL_law_40 (by rw [c_78]; decide) (by rw [c_78]; decide) (by rw [c_78]; rfl) (by decide) ?_
      refine lv_aload_n hx hb dL_law_389 rfl (lv_at hl 3 rfl) ?_
      refine lv_aload_n hx hb dL_law_390 rfl (lv_at hl 4 rfl) ?_
      refine lv_iload hx hb dL_law_391 (lv_at hl 0 rfl) ?_
      refine lv_iconst (v := 1) hx hb dL_law_393 (by decide) ?_
      refine lv_iadd hx hb dL_law_394 ?_
      refine va_sld hx hb hX hbl hbA hS (lw_ix (k := 1) hL hin (by decide) (by decide)) dL_law_395 ?_
      have hF := gFree hDX hS hA
      refine va_calliD hd0 (va_runV_D (As := [.int (xs ((nI (6 * j)) + 1).toNatClampNeg)]) (rest := []) ⟨hx, hb, hml, hown, hts⟩ (n_X11_weekday l dC dI ad cA adK adV H.size σ hIX (xs ((nI (6 * j)) + 1).toNatClampNeg) ) (cwV 1 hts gL0_X11_weekday rfl rfl rfl (by decide +kernel) ⟨Nat.le_of_ble_eq_true rfl, Nat.le_of_ble_eq_true rfl⟩) ⟨gBlind, va_recv hKX hPX (ci := 10) (q0 := 0) rfl (at_10 rfl), gStart (As := [.ref (ad 0), .int (xs ((nI (6 * j)) + 1).toNatClampNeg)]) hPX hDX hKX0 hT hS hF (d)⟩ rfl rfl hl.1 rfl (lv_room (Nat.le_of_ble_eq_true rfl)) dL_law_396 ⟨by omega, by omega⟩) hS (fun q _ h => hF q h) hF (fun r_79 σz_80 t H1 locs ht hvm hw hB hz1 hk1 hS d_81 hd0 => ?_)
      have hts := dr_words hts0 (d_81)
      have hKX := gKd hKX0 (d_81)
      have hKM := gKd hKM0 (d_81)
      have hown : (s.setDrawn (d_81)).vm.findClass RL = some m.cls := hown0
      have hX : va_X b L xs (s.setDrawn (d_81)) s.heap := hX0
      obtain ⟨hPX, hDX⟩ := gBack hF ht hB
      obtain ⟨hI_83, fc_84, hp_82⟩ := hw
      have hPM := gOther hPM hk1 (dj_G dj)
      have hPO := gOther hPO hk1 (dj_1 djX)
      generalize H1 = H at hPX hPM hPO hS ⊢
      refine lv_pop hx hb dL_law_399 rfl ?_
      refine lv_aload_n hx hb dL_law_400 rfl (lv_at hl 2 rfl) ?_
      refine lv_aload_n hx hb dL_law_401 rfl (lv_at hl 4 rfl) ?_
      refine lv_iload hx hb dL_law_402 (lv_at hl 0 rfl) ?_
      refine lv_iconst (v := 1) hx hb dL_law_404 (by decide) ?_
      refine lv_iadd hx hb dL_law_405 ?_
      refine va_sld hx hb hX hbl hbA hS (lw_ix (k := 1) hL hin (by decide) (by decide)) dL_law_406 ?_
      have hF := gFree hDM hS hA
      refine va_calliD hd0 (va_runV_D (As := [.int (xs ((nI (6 * j)) + 1).toNatClampNeg)]) (rest := []) ⟨hx, hb, hml, hown, hts⟩ (n_X12_weekday l dC dI am cM adK adV H.size τ hIM (xs ((nI (6 * j)) + 1).toNatClampNeg) ) (cwV 1 hts gL0_X12_weekday rfl rfl rfl (by decide +kernel) ⟨Nat.le_of_ble_eq_true rfl, Nat.le_of_ble_eq_true rfl⟩) ⟨gBlind, va_recv hKM hPM (ci := 11) (q0 := 0) rfl (mat_11 rfl), gStart (As := [.ref (am 0), .int (xs ((nI (6 * j)) + 1).toNatClampNeg)]) hPM hDM hKM0 hT hS hF (d_81)⟩ rfl rfl hl.1 rfl (lv_room (Nat.le_of_ble_eq_true rfl)) dL_law_407 ⟨by omega, by omega⟩) hS (fun q _ h => hF q h) hF (fun r_85 τz_86 t H1 locs ht hvm hw hB hz1 hk1 hS d_87 hd0 => ?_)
      have hts := dr_words hts0 (d_87)
      have hKX := gKd hKX0 (d_87)
      have hKM := gKd hKM0 (d_87)
      have hown : (s.setDrawn (d_87)).vm.findClass RL = some m.cls := hown0
      have hX : va_X b L xs (s.setDrawn (d_87)) s.heap := hX0
      obtain ⟨hPM, hDM⟩ := gBack hF ht hB
      obtain ⟨hI_89, fc_90, hp_88⟩ := hw
      have hPX := gOther hPX hk1 (dj_sym (dj_G dj))
      have hPO := gOther hPO hk1 (dj_1 djM)
      generalize H1 = H at hPX hPM hPO hS ⊢
      have dp_91 : Deep τz_86 := (Deep.fr hDp (fc_90.1 2 (by decide) (by decide)) (fc_90.1 4 (by decide) (by decide)) (fc_90.1 9 (by decide) (by decide)) (fc_90.1 11 (by decide) (by decide)) (fc_90.1 12 (by decide) (by decide)) (fc_90.1 17 (by decide) (by decide)) (fc_90.1 18 (by decide) (by decide)) (fc_90.2 20 (by decide)) (fc_90.2 21 (by decide)) (fc_90.2 28 (by decide)) (fc_90.2 64 (by decide)) (fc_90.2 65 (by decide)) (fc_90.2 68 (by decide)))
      refine lv_pop hx hb dL_law_410 rfl ?_
      refine lv_goto (tgt := 1851) hx hb dL_law_411 (by decide) ?_
      obtain ⟨x_92, ex_92⟩ : ∃ zz : Int32, zz = (nI (6 * j)) + 6 := ⟨_, rfl⟩
      refine lv_iinc (v := x_92) (lv' := [(4, .int x_92), (3, .ref lo), (2, .ref (am 0)), (1, .ref (ad 0)), (0, .ref b)]) hx hb dL_law_1851 hl (k := 0) rfl (by rw [ex_92]; rfl) (by decide) rfl (fun ls hl => ?_)
      refine lv_goto (tgt := 23) hx hb dL_law_1854 (by decide) ?_
      have hl := lv_sub hl [0, 1, 2, 3, 4] rfl
      rw [ex_92, nI_6] at hl
      exact ih (j + 1) σz_80 τz_86 f _ _ _ _ _ _ (by omega) (by omega) hI_83 hI_89 dp_91 (by omega) (by omega) hd0 hPX hDX hPM hDM hPO hDO hS hl
    by_cases c_93 : ((xs (nI (6 * j)).toNatClampNeg) &&& 63) = 6
    · refine lv_tableIn (tgt := 414) hx hb dL_law_40 (by rw [c_93]; decide) (by rw [c_93]; decide) (by rw [c_93]; rfl) (by decide) ?_
      refine lv_aload_n hx hb dL_law_414 rfl (lv_at hl 3 rfl) ?_
      refine lv_aload_n hx hb dL_law_415 rfl (lv_at hl 4 rfl) ?_
      refine lv_iload hx hb dL_law_416 (lv_at hl 0 rfl) ?_
      refine lv_iconst (v := 1) hx hb dL_law_418 (by decide) ?_
      refine lv_iadd hx hb dL_law_419 ?_
      refine va_sld hx hb hX hbl hbA hS (lw_ix (k := 1) hL hin (by decide) (by decide)) dL_law_420 ?_
      refine lv_aload_n hx hb dL_law_421 rfl (lv_at hl 4 rfl) ?_
      refine lv_iload hx hb dL_law_422 (lv_at hl 0 rfl) ?_
      refine lv_iconst (v := 2) hx hb dL_law_424 (by decide) ?_
      refine lv_iadd hx hb dL_law_425 ?_
      refine va_sld hx hb hX hbl hbA hS (lw_ix (k := 2) hL hin (by decide) (by decide)) dL_law_426 ?_
      refine lv_aload_n hx hb dL_law_427 rfl (lv_at hl 4 rfl) ?_
      refine lv_iload hx hb dL_law_428 (lv_at hl 0 rfl) ?_
      refine lv_iconst (v := 3) hx hb dL_law_430 (by decide) ?_
      refine lv_iadd hx hb dL_law_431 ?_
      refine va_sld hx hb hX hbl hbA hS (lw_ix (k := 3) hL hin (by decide) (by decide)) dL_law_432 ?_
      refine lv_if_eq (tgt := 440) hx hb dL_law_433 (by decide) (fun c_94 => ?_) (fun c_94 => ?_)
      · refine lv_iconst (v := 0) hx hb dL_law_440 (by decide) ?_
        have hF := gFree hDX hS hA
        refine va_calliD hd0 (va_runV_D (As := [.int (xs ((nI (6 * j)) + 1).toNatClampNeg), .int (xs ((nI (6 * j)) + 2).toNatClampNeg), .int 0]) (rest := []) ⟨hx, hb, hml, hown, hts⟩ (n_X11_months l dC dI ad cA adK adV H.size σ hIX (xs ((nI (6 * j)) + 1).toNatClampNeg) (xs ((nI (6 * j)) + 2).toNatClampNeg) 0 ) (cwV 3 hts gL0_X11_months rfl rfl rfl (by decide +kernel) ⟨Nat.le_of_ble_eq_true rfl, Nat.le_of_ble_eq_true rfl⟩) ⟨gBlind, va_recv hKX hPX (ci := 10) (q0 := 0) rfl (at_10 rfl), gStart (As := [.ref (ad 0), .int (xs ((nI (6 * j)) + 1).toNatClampNeg), .int (xs ((nI (6 * j)) + 2).toNatClampNeg), .int 0]) hPX hDX hKX0 hT hS hF (d)⟩ rfl rfl hl.1 rfl (lv_room (Nat.le_of_ble_eq_true rfl)) dL_law_441 ⟨by omega, by omega⟩) hS (fun q _ h => hF q h) hF (fun r_95 σz_96 t H1 locs ht hvm hw hB hz1 hk1 hS d_97 hd0 => ?_)
        have hts := dr_words hts0 (d_97)
        have hKX := gKd hKX0 (d_97)
        have hKM := gKd hKM0 (d_97)
        have hown : (s.setDrawn (d_97)).vm.findClass RL = some m.cls := hown0
        have hX : va_X b L xs (s.setDrawn (d_97)) s.heap := hX0
        obtain ⟨hPX, hDX⟩ := gBack hF ht hB
        obtain ⟨hI_99, fc_100, hp_98⟩ := hw
        have hPM := gOther hPM hk1 (dj_G dj)
        have hPO := gOther hPO hk1 (dj_1 djX)
        generalize H1 = H at hPX hPM hPO hS ⊢
        refine lv_pop hx hb dL_law_444 rfl ?_
        refine lv_aload_n hx hb dL_law_445 rfl (lv_at hl 2 rfl) ?_
        refine lv_aload_n hx hb dL_law_446 rfl (lv_at hl 4 rfl) ?_
        refine lv_iload hx hb dL_law_447 (lv_at hl 0 rfl) ?_
        refine lv_iconst (v := 1) hx hb dL_law_449 (by decide) ?_
        refine lv_iadd hx hb dL_law_450 ?_
        refine va_sld hx hb hX hbl hbA hS (lw_ix (k := 1) hL hin (by decide) (by decide)) dL_law_451 ?_
        refine lv_aload_n hx hb dL_law_452 rfl (lv_at hl 4 rfl) ?_
        refine lv_iload hx hb dL_law_453 (lv_at hl 0 rfl) ?_
        refine lv_iconst (v := 2) hx hb dL_law_455 (by decide) ?_
        refine lv_iadd hx hb dL_law_456 ?_
        refine va_sld hx hb hX hbl hbA hS (lw_ix (k := 2) hL hin (by decide) (by decide)) dL_law_457 ?_
        refine lv_aload_n hx hb dL_law_458 rfl (lv_at hl 4 rfl) ?_
        refine lv_iload hx hb dL_law_459 (lv_at hl 0 rfl) ?_
        refine lv_iconst (v := 3) hx hb dL_law_461 (by decide) ?_
        refine lv_iadd hx hb dL_law_462 ?_
        refine va_sld hx hb hX hbl hbA hS (lw_ix (k := 3) hL hin (by decide) (by decide)) dL_law_463 ?_
        refine lv_if_eq (tgt := 471) hx hb dL_law_464 (by decide) (fun c_101 => ?_) (fun c_101 => ?_)
        · refine lv_iconst (v := 0) hx hb dL_law_471 (by decide) ?_
          have hF := gFree hDM hS hA
          refine va_calliD hd0 (va_runV_D (As := [.int (xs ((nI (6 * j)) + 1).toNatClampNeg), .int (xs ((nI (6 * j)) + 2).toNatClampNeg), .int 0]) (rest := []) ⟨hx, hb, hml, hown, hts⟩ (n_X12_months l dC dI am cM adK adV H.size τ hIM (xs ((nI (6 * j)) + 1).toNatClampNeg) (xs ((nI (6 * j)) + 2).toNatClampNeg) 0 ) (cwV 3 hts gL0_X12_months rfl rfl rfl (by decide +kernel) ⟨Nat.le_of_ble_eq_true rfl, Nat.le_of_ble_eq_true rfl⟩) ⟨gBlind, va_recv hKM hPM (ci := 11) (q0 := 0) rfl (mat_11 rfl), gStart (As := [.ref (am 0), .int (xs ((nI (6 * j)) + 1).toNatClampNeg), .int (xs ((nI (6 * j)) + 2).toNatClampNeg), .int 0]) hPM hDM hKM0 hT hS hF (d_97)⟩ rfl rfl hl.1 rfl (lv_room (Nat.le_of_ble_eq_true rfl)) dL_law_472 ⟨by omega, by omega⟩) hS (fun q _ h => hF q h) hF (fun r_102 τz_103 t H1 locs ht hvm hw hB hz1 hk1 hS d_104 hd0 => ?_)
          have hts := dr_words hts0 (d_104)
          have hKX := gKd hKX0 (d_104)
          have hKM := gKd hKM0 (d_104)
          have hown : (s.setDrawn (d_104)).vm.findClass RL = some m.cls := hown0
          have hX : va_X b L xs (s.setDrawn (d_104)) s.heap := hX0
          obtain ⟨hPM, hDM⟩ := gBack hF ht hB
          obtain ⟨hI_106, fc_107, hp_105⟩ := hw
          have hPX := gOther hPX hk1 (dj_sym (dj_G dj))
          have hPO := gOther hPO hk1 (dj_1 djM)
          generalize H1 = H at hPX hPM hPO hS ⊢
          have dp_108 : Deep τz_103 := (Deep.fr hDp (fc_107.1 2 (by decide) (by decide)) (fc_107.1 4 (by decide) (by decide)) (fc_107.1 9 (by decide) (by decide)) (fc_107.1 11 (by decide) (by decide)) (fc_107.1 12 (by decide) (by decide)) (fc_107.1 17 (by decide) (by decide)) (fc_107.1 18 (by decide) (by decide)) (fc_107.2 20 (by decide)) (fc_107.2 21 (by decide)) (fc_107.2 28 (by decide)) (fc_107.2 64 (by decide)) (fc_107.2 65 (by decide)) (fc_107.2 68 (by decide)))
          refine lv_pop hx hb dL_law_475 rfl ?_
          refine lv_goto (tgt := 1851) hx hb dL_law_476 (by decide) ?_
          obtain ⟨x_109, ex_109⟩ : ∃ zz : Int32, zz = (nI (6 * j)) + 6 := ⟨_, rfl⟩
          refine lv_iinc (v := x_109) (lv' := [(4, .int x_109), (3, .ref lo), (2, .ref (am 0)), (1, .ref (ad 0)), (0, .ref b)]) hx hb dL_law_1851 hl (k := 0) rfl (by rw [ex_109]; rfl) (by decide) rfl (fun ls hl => ?_)
          refine lv_goto (tgt := 23) hx hb dL_law_1854 (by decide) ?_
          have hl := lv_sub hl [0, 1, 2, 3, 4] rfl
          rw [ex_109, nI_6] at hl
          exact ih (j + 1) σz_96 τz_103 f _ _ _ _ _ _ (by omega) (by omega) hI_99 hI_106 dp_108 (by omega) (by omega) hd0 hPX hDX hPM hDM hPO hDO hS hl
        · exact absurd c_94 c_101
      · refine lv_iconst (v := 1) hx hb dL_law_436 (by decide) ?_
        refine lv_goto (tgt := 441) hx hb dL_law_437 (by decide) ?_
        have hF := gFree hDX hS hA
        refine va_calliD hd0 (va_runV_D (As := [.int (xs ((nI (6 * j)) + 1).toNatClampNeg), .int (xs ((nI (6 * j)) + 2).toNatClampNeg), .int 1]) (rest := []) ⟨hx, hb, hml, hown, hts⟩ (n_X11_months l dC dI ad cA adK adV H.size σ hIX (xs ((nI (6 * j)) + 1).toNatClampNeg) (xs ((nI (6 * j)) + 2).toNatClampNeg) 1 ) (cwV 3 hts gL0_X11_months rfl rfl rfl (by decide +kernel) ⟨Nat.le_of_ble_eq_true rfl, Nat.le_of_ble_eq_true rfl⟩) ⟨gBlind, va_recv hKX hPX (ci := 10) (q0 := 0) rfl (at_10 rfl), gStart (As := [.ref (ad 0), .int (xs ((nI (6 * j)) + 1).toNatClampNeg), .int (xs ((nI (6 * j)) + 2).toNatClampNeg), .int 1]) hPX hDX hKX0 hT hS hF (d)⟩ rfl rfl hl.1 rfl (lv_room (Nat.le_of_ble_eq_true rfl)) dL_law_441 ⟨by omega, by omega⟩) hS (fun q _ h => hF q h) hF (fun r_110 σz_111 t H1 locs ht hvm hw hB hz1 hk1 hS d_112 hd0 => ?_)
        have hts := dr_words hts0 (d_112)
        have hKX := gKd hKX0 (d_112)
        have hKM := gKd hKM0 (d_112)
        have hown : (s.setDrawn (d_112)).vm.findClass RL = some m.cls := hown0
        have hX : va_X b L xs (s.setDrawn (d_112)) s.heap := hX0
        obtain ⟨hPX, hDX⟩ := gBack hF ht hB
        obtain ⟨hI_114, fc_115, hp_113⟩ := hw
        have hPM := gOther hPM hk1 (dj_G dj)
        have hPO := gOther hPO hk1 (dj_1 djX)
        generalize H1 = H at hPX hPM hPO hS ⊢
        refine lv_pop hx hb dL_law_444 rfl ?_
        refine lv_aload_n hx hb dL_law_445 rfl (lv_at hl 2 rfl) ?_
        refine lv_aload_n hx hb dL_law_446 rfl (lv_at hl 4 rfl) ?_
        refine lv_iload hx hb dL_law_447 (lv_at hl 0 rfl) ?_
        refine lv_iconst (v := 1) hx hb dL_law_449 (by decide) ?_
        refine lv_iadd hx hb dL_law_450 ?_
        refine va_sld hx hb hX hbl hbA hS (lw_ix (k := 1) hL hin (by decide) (by decide)) dL_law_451 ?_
        refine lv_aload_n hx hb dL_law_452 rfl (lv_at hl 4 rfl) ?_
        refine lv_iload hx hb dL_law_453 (lv_at hl 0 rfl) ?_
        refine lv_iconst (v := 2) hx hb dL_law_455 (by decide) ?_
        refine lv_iadd hx hb dL_law_456 ?_
        refine va_sld hx hb hX hbl hbA hS (lw_ix (k := 2) hL hin (by decide) (by decide)) dL_law_457 ?_
        refine lv_aload_n hx hb dL_law_458 rfl (lv_at hl 4 rfl) ?_
        refine lv_iload hx hb dL_law_459 (lv_at hl 0 rfl) ?_
        refine lv_iconst (v := 3) hx hb dL_law_461 (by decide) ?_
        refine lv_iadd hx hb dL_law_462 ?_
        refine va_sld hx hb hX hbl hbA hS (lw_ix (k := 3) hL hin (by decide) (by decide)) dL_law_463 ?_
        refine lv_if_eq (tgt := 471) hx hb dL_law_464 (by decide) (fun c_116 => ?_) (fun c_116 => ?_)
        · exact absurd c_116 c_94
        · refine lv_iconst (v := 1) hx hb dL_law_467 (by decide) ?_
          refine lv_goto (tgt := 472) hx hb dL_law_468 (by decide) ?_
          have hF := gFree hDM hS hA
          refine va_calliD hd0 (va_runV_D (As := [.int (xs ((nI (6 * j)) + 1).toNatClampNeg), .int (xs ((nI (6 * j)) + 2).toNatClampNeg), .int 1]) (rest := []) ⟨hx, hb, hml, hown, hts⟩ (n_X12_months l dC dI am cM adK adV H.size τ hIM (xs ((nI (6 * j)) + 1).toNatClampNeg) (xs ((nI (6 * j)) + 2).toNatClampNeg) 1 ) (cwV 3 hts gL0_X12_months rfl rfl rfl (by decide +kernel) ⟨Nat.le_of_ble_eq_true rfl, Nat.le_of_ble_eq_true rfl⟩) ⟨gBlind, va_recv hKM hPM (ci := 11) (q0 := 0) rfl (mat_11 rfl), gStart (As := [.ref (am 0), .int (xs ((nI (6 * j)) + 1).toNatClampNeg), .int (xs ((nI (6 * j)) + 2).toNatClampNeg), .int 1]) hPM hDM hKM0 hT hS hF (d_112)⟩ rfl rfl hl.1 rfl (lv_room (Nat.le_of_ble_eq_true rfl)) dL_law_472 ⟨by omega, by omega⟩) hS (fun q _ h => hF q h) hF (fun r_117 τz_118 t H1 locs ht hvm hw hB hz1 hk1 hS d_119 hd0 => ?_)
          have hts := dr_words hts0 (d_119)
          have hKX := gKd hKX0 (d_119)
          have hKM := gKd hKM0 (d_119)
          have hown : (s.setDrawn (d_119)).vm.findClass RL = some m.cls := hown0
          have hX : va_X b L xs (s.setDrawn (d_119)) s.heap := hX0
          obtain ⟨hPM, hDM⟩ := gBack hF ht hB
          obtain ⟨hI_121, fc_122, hp_120⟩ := hw
          have hPX := gOther hPX hk1 (dj_sym (dj_G dj))
          have hPO := gOther hPO hk1 (dj_1 djM)
          generalize H1 = H at hPX hPM hPO hS ⊢
          have dp_123 : Deep τz_118 := (Deep.fr hDp (fc_122.1 2 (by decide) (by decide)) (fc_122.1 4 (by decide) (by decide)) (fc_122.1 9 (by decide) (by decide)) (fc_122.1 11 (by decide) (by decide)) (fc_122.1 12 (by decide) (by decide)) (fc_122.1 17 (by decide) (by decide)) (fc_122.1 18 (by decide) (by decide)) (fc_122.2 20 (by decide)) (fc_122.2 21 (by decide)) (fc_122.2 28 (by decide)) (fc_122.2 64 (by decide)) (fc_122.2 65 (by decide)) (fc_122.2 68 (by decide)))
          refine lv_pop hx hb dL_law_475 rfl ?_
          refine lv_goto (tgt := 1851) hx hb dL_law_476 (by decide) ?_
          obtain ⟨x_124, ex_124⟩ : ∃ zz : Int32, zz = (nI (6 * j)) + 6 := ⟨_, rfl⟩
          refine lv_iinc (v := x_124) (lv' := [(4, .int x_124), (3, .ref lo), (2, .ref (am 0)), (1, .ref (ad 0)), (0, .ref b)]) hx hb dL_law_1851 hl (k := 0) rfl (by rw [ex_124]; rfl) (by decide) rfl (fun ls hl => ?_)
          refine lv_goto (tgt := 23) hx hb dL_law_1854 (by decide) ?_
          have hl := lv_sub hl [0, 1, 2, 3, 4] rfl
          rw [ex_124, nI_6] at hl
          exact ih (j + 1) σz_111 τz_118 f _ _ _ _ _ _ (by omega) (by omega) hI_114 hI_121 dp_123 (by omega) (by omega) hd0 hPX hDX hPM hDM hPO hDO hS hl
    by_cases c_125 : ((xs (nI (6 * j)).toNatClampNeg) &&& 63) = 7
    · refine lv_tableIn (tgt := 479) hx hb dL_law_40 (by rw [c_125]; decide) (by rw [c_125]; decide) (by rw [c_125]; rfl) (by decide) ?_
      refine lv_aload_n hx hb dL_law_479 rfl (lv_at hl 3 rfl) ?_
      refine lv_aload_n hx hb dL_law_480 rfl (lv_at hl 4 rfl) ?_
      refine lv_iload hx hb dL_law_481 (lv_at hl 0 rfl) ?_
      refine lv_iconst (v := 1) hx hb dL_law_483 (by decide) ?_
      refine lv_iadd hx hb dL_law_484 ?_
      refine va_sld hx hb hX hbl hbA hS (lw_ix (k := 1) hL hin (by decide) (by decide)) dL_law_485 ?_
      have hF := gFree hDX hS hA
      refine va_calliD hd0 (va_runV_D (As := [.int (xs ((nI (6 * j)) + 1).toNatClampNeg)]) (rest := []) ⟨hx, hb, hml, hown, hts⟩ (n_X11_business l dC dI ad cA adK adV H.size σ hIX (xs ((nI (6 * j)) + 1).toNatClampNeg) ) (cwV 1 hts gL0_X11_business rfl rfl rfl (by decide +kernel) ⟨Nat.le_of_ble_eq_true rfl, Nat.le_of_ble_eq_true rfl⟩) ⟨gBlind, va_recv hKX hPX (ci := 10) (q0 := 0) rfl (at_10 rfl), gStart (As := [.ref (ad 0), .int (xs ((nI (6 * j)) + 1).toNatClampNeg)]) hPX hDX hKX0 hT hS hF (d)⟩ rfl rfl hl.1 rfl (lv_room (Nat.le_of_ble_eq_true rfl)) dL_law_486 ⟨by omega, by omega⟩) hS (fun q _ h => hF q h) hF (fun r_126 σz_127 t H1 locs ht hvm hw hB hz1 hk1 hS d_128 hd0 => ?_)
      have hts := dr_words hts0 (d_128)
      have hKX := gKd hKX0 (d_128)
      have hKM := gKd hKM0 (d_128)
      have hown : (s.setDrawn (d_128)).vm.findClass RL = some m.cls := hown0
      have hX : va_X b L xs (s.setDrawn (d_128)) s.heap := hX0
      obtain ⟨hPX, hDX⟩ := gBack hF ht hB
      obtain ⟨hI_130, fc_131, hp_129⟩ := hw
      have hPM := gOther hPM hk1 (dj_G dj)
      have hPO := gOther hPO hk1 (dj_1 djX)
      generalize H1 = H at hPX hPM hPO hS ⊢
      refine lv_pop hx hb dL_law_489 rfl ?_
      refine lv_aload_n hx hb dL_law_490 rfl (lv_at hl 2 rfl) ?_
      refine lv_aload_n hx hb dL_law_491 rfl (lv_at hl 4 rfl) ?_
      refine lv_iload hx hb dL_law_492 (lv_at hl 0 rfl) ?_
      refine lv_iconst (v := 1) hx hb dL_law_494 (by decide) ?_
      refine lv_iadd hx hb dL_law_495 ?_
      refine va_sld hx hb hX hbl hbA hS (lw_ix (k := 1) hL hin (by decide) (by decide)) dL_law_496 ?_
      have hF := gFree hDM hS hA
      refine va_calliD hd0 (va_runV_D (As := [.int (xs ((nI (6 * j)) + 1).toNatClampNeg)]) (rest := []) ⟨hx, hb, hml, hown, hts⟩ (n_X12_business l dC dI am cM adK adV H.size τ hIM (xs ((nI (6 * j)) + 1).toNatClampNeg) ) (cwV 1 hts gL0_X12_business rfl rfl rfl (by decide +kernel) ⟨Nat.le_of_ble_eq_true rfl, Nat.le_of_ble_eq_true rfl⟩) ⟨gBlind, va_recv hKM hPM (ci := 11) (q0 := 0) rfl (mat_11 rfl), gStart (As := [.ref (am 0), .int (xs ((nI (6 * j)) + 1).toNatClampNeg)]) hPM hDM hKM0 hT hS hF (d_128)⟩ rfl rfl hl.1 rfl (lv_room (Nat.le_of_ble_eq_true rfl)) dL_law_497 ⟨by omega, by omega⟩) hS (fun q _ h => hF q h) hF (fun r_132 τz_133 t H1 locs ht hvm hw hB hz1 hk1 hS d_134 hd0 => ?_)
      have hts := dr_words hts0 (d_134)
      have hKX := gKd hKX0 (d_134)
      have hKM := gKd hKM0 (d_134)
      have hown : (s.setDrawn (d_134)).vm.findClass RL = some m.cls := hown0
      have hX : va_X b L xs (s.setDrawn (d_134)) s.heap := hX0
      obtain ⟨hPM, hDM⟩ := gBack hF ht hB
      obtain ⟨hI_136, fc_137, hp_135⟩ := hw
      have hPX := gOther hPX hk1 (dj_sym (dj_G dj))
      have hPO := gOther hPO hk1 (dj_1 djM)
      generalize H1 = H at hPX hPM hPO hS ⊢
      have dp_138 : Deep τz_133 := (Deep.fr hDp (fc_137.1 2 (by decide) (by decide)) (fc_137.1 4 (by decide) (by decide)) (fc_137.1 9 (by decide) (by decide)) (fc_137.1 11 (by decide) (by decide)) (fc_137.1 12 (by decide) (by decide)) (fc_137.1 17 (by decide) (by decide)) (fc_137.1 18 (by decide) (by decide)) (fc_137.2 20 (by decide)) (fc_137.2 21 (by decide)) (fc_137.2 28 (by decide)) (fc_137.2 64 (by decide)) (fc_137.2 65 (by decide)) (fc_137.2 68 (by decide)))
      refine lv_pop hx hb dL_law_500 rfl ?_
      refine lv_goto (tgt := 1851) hx hb dL_law_501 (by decide) ?_
      obtain ⟨x_139, ex_139⟩ : ∃ zz : Int32, zz = (nI (6 * j)) + 6 := ⟨_, rfl⟩
      refine lv_iinc (v := x_139) (lv' := [(4, .int x_139), (3, .ref lo), (2, .ref (am 0)), (1, .ref (ad 0)), (0, .ref b)]) hx hb dL_law_1851 hl (k := 0) rfl (by rw [ex_139]; rfl) (by decide) rfl (fun ls hl => ?_)
      refine lv_goto (tgt := 23) hx hb dL_law_1854 (by decide) ?_
      have hl := lv_sub hl [0, 1, 2, 3, 4] rfl
      rw [ex_139, nI_6] at hl
      exact ih (j + 1) σz_127 τz_133 f _ _ _ _ _ _ (by omega) (by omega) hI_130 hI_136 dp_138 (by omega) (by omega) hd0 hPX hDX hPM hDM hPO hDO hS hl
    by_cases c_140 : ((xs (nI (6 * j)).toNatClampNeg) &&& 63) = 8
    · refine lv_tableIn (tgt := 504) hx hb dL_law_40 (by rw [c_140]; decide) (by rw [c_140]; decide) (by rw [c_140]; rfl) (by decide) ?_
      refine lv_aload_n hx hb dL_law_504 rfl (lv_at hl 3 rfl) ?_
      refine lv_aload_n hx hb dL_law_505 rfl (lv_at hl 4 rfl) ?_
      refine lv_iload hx hb dL_law_506 (lv_at hl 0 rfl) ?_
      refine lv_iconst (v := 1) hx hb dL_law_508 (by decide) ?_
      refine lv_iadd hx hb dL_law_509 ?_
      refine va_sld hx hb hX hbl hbA hS (lw_ix (k := 1) hL hin (by decide) (by decide)) dL_law_510 ?_
      refine lv_aload_n hx hb dL_law_511 rfl (lv_at hl 4 rfl) ?_
      refine lv_iload hx hb dL_law_512 (lv_at hl 0 rfl) ?_
      refine lv_iconst (v := 2) hx hb dL_law_514 (by decide) ?_
      refine lv_iadd hx hb dL_law_515 ?_
      refine va_sld hx hb hX hbl hbA hS (lw_ix (k := 2) hL hin (by decide) (by decide)) dL_law_516 ?_
      have hF := gFree hDX hS hA
      refine va_calliD hd0 (va_runV_D (As := [.int (xs ((nI (6 * j)) + 1).toNatClampNeg), .int (xs ((nI (6 * j)) + 2).toNatClampNeg)]) (rest := []) ⟨hx, hb, hml, hown, hts⟩ (n_X11_businessFrom l dC dI ad cA adK adV H.size σ hIX (xs ((nI (6 * j)) + 1).toNatClampNeg) (xs ((nI (6 * j)) + 2).toNatClampNeg) ) (cwV 2 hts gL0_X11_businessFrom rfl rfl rfl (by decide +kernel) ⟨Nat.le_of_ble_eq_true rfl, Nat.le_of_ble_eq_true rfl⟩) ⟨gBlind, va_recv hKX hPX (ci := 10) (q0 := 0) rfl (at_10 rfl), gStart (As := [.ref (ad 0), .int (xs ((nI (6 * j)) + 1).toNatClampNeg), .int (xs ((nI (6 * j)) + 2).toNatClampNeg)]) hPX hDX hKX0 hT hS hF (d)⟩ rfl rfl hl.1 rfl (lv_room (Nat.le_of_ble_eq_true rfl)) dL_law_517 ⟨by omega, by omega⟩) hS (fun q _ h => hF q h) hF (fun r_141 σz_142 t H1 locs ht hvm hw hB hz1 hk1 hS d_143 hd0 => ?_)
      have hts := dr_words hts0 (d_143)
      have hKX := gKd hKX0 (d_143)
      have hKM := gKd hKM0 (d_143)
      have hown : (s.setDrawn (d_143)).vm.findClass RL = some m.cls := hown0
      have hX : va_X b L xs (s.setDrawn (d_143)) s.heap := hX0
      obtain ⟨hPX, hDX⟩ := gBack hF ht hB
      obtain ⟨hI_145, fc_146, hp_144⟩ := hw
      have hPM := gOther hPM hk1 (dj_G dj)
      have hPO := gOther hPO hk1 (dj_1 djX)
      generalize H1 = H at hPX hPM hPO hS ⊢
      refine lv_pop hx hb dL_law_520 rfl ?_
      refine lv_aload_n hx hb dL_law_521 rfl (lv_at hl 2 rfl) ?_
      refine lv_aload_n hx hb dL_law_522 rfl (lv_at hl 4 rfl) ?_
      refine lv_iload hx hb dL_law_523 (lv_at hl 0 rfl) ?_
      refine lv_iconst (v := 1) hx hb dL_law_525 (by decide) ?_
      refine lv_iadd hx hb dL_law_526 ?_
      refine va_sld hx hb hX hbl hbA hS (lw_ix (k := 1) hL hin (by decide) (by decide)) dL_law_527 ?_
      refine lv_aload_n hx hb dL_law_528 rfl (lv_at hl 4 rfl) ?_
      refine lv_iload hx hb dL_law_529 (lv_at hl 0 rfl) ?_
      refine lv_iconst (v := 2) hx hb dL_law_531 (by decide) ?_
      refine lv_iadd hx hb dL_law_532 ?_
      refine va_sld hx hb hX hbl hbA hS (lw_ix (k := 2) hL hin (by decide) (by decide)) dL_law_533 ?_
      have hF := gFree hDM hS hA
      refine va_calliD hd0 (va_runV_D (As := [.int (xs ((nI (6 * j)) + 1).toNatClampNeg), .int (xs ((nI (6 * j)) + 2).toNatClampNeg)]) (rest := []) ⟨hx, hb, hml, hown, hts⟩ (n_X12_businessFrom l dC dI am cM adK adV H.size τ hIM (xs ((nI (6 * j)) + 1).toNatClampNeg) (xs ((nI (6 * j)) + 2).toNatClampNeg) ) (cwV 2 hts gL0_X12_businessFrom rfl rfl rfl (by decide +kernel) ⟨Nat.le_of_ble_eq_true rfl, Nat.le_of_ble_eq_true rfl⟩) ⟨gBlind, va_recv hKM hPM (ci := 11) (q0 := 0) rfl (mat_11 rfl), gStart (As := [.ref (am 0), .int (xs ((nI (6 * j)) + 1).toNatClampNeg), .int (xs ((nI (6 * j)) + 2).toNatClampNeg)]) hPM hDM hKM0 hT hS hF (d_143)⟩ rfl rfl hl.1 rfl (lv_room (Nat.le_of_ble_eq_true rfl)) dL_law_534 ⟨by omega, by omega⟩) hS (fun q _ h => hF q h) hF (fun r_147 τz_148 t H1 locs ht hvm hw hB hz1 hk1 hS d_149 hd0 => ?_)
      have hts := dr_words hts0 (d_149)
      have hKX := gKd hKX0 (d_149)
      have hKM := gKd hKM0 (d_149)
      have hown : (s.setDrawn (d_149)).vm.findClass RL = some m.cls := hown0
      have hX : va_X b L xs (s.setDrawn (d_149)) s.heap := hX0
      obtain ⟨hPM, hDM⟩ := gBack hF ht hB
      obtain ⟨hI_151, fc_152, hp_150⟩ := hw
      have hPX := gOther hPX hk1 (dj_sym (dj_G dj))
      have hPO := gOther hPO hk1 (dj_1 djM)
      generalize H1 = H at hPX hPM hPO hS ⊢
      have dp_153 : Deep τz_148 := (Deep.fr hDp (fc_152.1 2 (by decide) (by decide)) (fc_152.1 4 (by decide) (by decide)) (fc_152.1 9 (by decide) (by decide)) (fc_152.1 11 (by decide) (by decide)) (fc_152.1 12 (by decide) (by decide)) (fc_152.1 17 (by decide) (by decide)) (fc_152.1 18 (by decide) (by decide)) (fc_152.2 20 (by decide)) (fc_152.2 21 (by decide)) (fc_152.2 28 (by decide)) (fc_152.2 64 (by decide)) (fc_152.2 65 (by decide)) (fc_152.2 68 (by decide)))
      refine lv_pop hx hb dL_law_537 rfl ?_
      refine lv_goto (tgt := 1851) hx hb dL_law_538 (by decide) ?_
      obtain ⟨x_154, ex_154⟩ : ∃ zz : Int32, zz = (nI (6 * j)) + 6 := ⟨_, rfl⟩
      refine lv_iinc (v := x_154) (lv' := [(4, .int x_154), (3, .ref lo), (2, .ref (am 0)), (1, .ref (ad 0)), (0, .ref b)]) hx hb dL_law_1851 hl (k := 0) rfl (by rw [ex_154]; rfl) (by decide) rfl (fun ls hl => ?_)
      refine lv_goto (tgt := 23) hx hb dL_law_1854 (by decide) ?_
      have hl := lv_sub hl [0, 1, 2, 3, 4] rfl
      rw [ex_154, nI_6] at hl
      exact ih (j + 1) σz_142 τz_148 f _ _ _ _ _ _ (by omega) (by omega) hI_145 hI_151 dp_153 (by omega) (by omega) hd0 hPX hDX hPM hDM hPO hDO hS hl
    by_cases c_155 : ((xs (nI (6 * j)).toNatClampNeg) &&& 63) = 9
    · refine lv_tableIn (tgt := 541) hx hb dL_law_40 (by rw [c_155]; decide) (by rw [c_155]; decide) (by rw [c_155]; rfl) (by decide) ?_
      refine lv_aload_n hx hb dL_law_541 rfl (lv_at hl 3 rfl) ?_
      refine lv_aload_n hx hb dL_law_542 rfl (lv_at hl 4 rfl) ?_
      refine lv_iload hx hb dL_law_543 (lv_at hl 0 rfl) ?_
      refine lv_iconst (v := 1) hx hb dL_law_545 (by decide) ?_
      refine lv_iadd hx hb dL_law_546 ?_
      refine va_sld hx hb hX hbl hbA hS (lw_ix (k := 1) hL hin (by decide) (by decide)) dL_law_547 ?_
      refine lv_aload_n hx hb dL_law_548 rfl (lv_at hl 4 rfl) ?_
      refine lv_iload hx hb dL_law_549 (lv_at hl 0 rfl) ?_
      refine lv_iconst (v := 2) hx hb dL_law_551 (by decide) ?_
      refine lv_iadd hx hb dL_law_552 ?_
      refine va_sld hx hb hX hbl hbA hS (lw_ix (k := 2) hL hin (by decide) (by decide)) dL_law_553 ?_
      refine lv_aload_n hx hb dL_law_554 rfl (lv_at hl 4 rfl) ?_
      refine lv_iload hx hb dL_law_555 (lv_at hl 0 rfl) ?_
      refine lv_iconst (v := 3) hx hb dL_law_557 (by decide) ?_
      refine lv_iadd hx hb dL_law_558 ?_
      refine va_sld hx hb hX hbl hbA hS (lw_ix (k := 3) hL hin (by decide) (by decide)) dL_law_559 ?_
      refine lv_aload_n hx hb dL_law_560 rfl (lv_at hl 4 rfl) ?_
      refine lv_iload hx hb dL_law_561 (lv_at hl 0 rfl) ?_
      refine lv_iconst (v := 4) hx hb dL_law_563 (by decide) ?_
      refine lv_iadd hx hb dL_law_564 ?_
      refine va_sld hx hb hX hbl hbA hS (lw_ix (k := 4) hL hin (by decide) (by decide)) dL_law_565 ?_
      refine lv_if_eq (tgt := 573) hx hb dL_law_566 (by decide) (fun c_156 => ?_) (fun c_156 => ?_)
      · refine lv_iconst (v := 0) hx hb dL_law_573 (by decide) ?_
        have hF := gFree hDX hS hA
        refine va_calllD hd0 (va_runV_D (As := [.int (xs ((nI (6 * j)) + 1).toNatClampNeg), .int (xs ((nI (6 * j)) + 2).toNatClampNeg), .int (xs ((nI (6 * j)) + 3).toNatClampNeg), .int 0]) (rest := []) ⟨hx, hb, hml, hown, hts⟩ (n_X11_countedF l dC dI ad cA adK adV H.size σ hIX (xs ((nI (6 * j)) + 1).toNatClampNeg) (xs ((nI (6 * j)) + 2).toNatClampNeg) (xs ((nI (6 * j)) + 3).toNatClampNeg) 0 ) (cwV 4 hts gL0_X11_counted rfl rfl rfl (by decide +kernel) ⟨Nat.le_of_ble_eq_true rfl, Nat.le_of_ble_eq_true rfl⟩) ⟨gBlind, va_recv hKX hPX (ci := 10) (q0 := 0) rfl (at_10 rfl), gStart (As := [.ref (ad 0), .int (xs ((nI (6 * j)) + 1).toNatClampNeg), .int (xs ((nI (6 * j)) + 2).toNatClampNeg), .int (xs ((nI (6 * j)) + 3).toNatClampNeg), .int 0]) hPX hDX hKX0 hT hS hF (d)⟩ rfl rfl hl.1 rfl (lv_room (Nat.le_of_ble_eq_true rfl)) dL_law_574 ⟨by omega, by omega⟩) hS (fun q _ h => hF q h) hF (fun r_157 σz_158 t H1 locs ht hvm hw hB hz1 hk1 hS d_159 hd0 => ?_)
        have hts := dr_words hts0 (d_159)
        have hKX := gKd hKX0 (d_159)
        have hKM := gKd hKM0 (d_159)
        have hown : (s.setDrawn (d_159)).vm.findClass RL = some m.cls := hown0
        have hX : va_X b L xs (s.setDrawn (d_159)) s.heap := hX0
        obtain ⟨hPX, hDX⟩ := gBack hF ht hB
        obtain ⟨hI_161, fc_162, hp_160⟩ := hw
        have hPM := gOther hPM hk1 (dj_G dj)
        have hPO := gOther hPO hk1 (dj_1 djX)
        generalize H1 = H at hPX hPM hPO hS ⊢
        refine lv_aload_n hx hb dL_law_577 rfl (lv_at hl 2 rfl) ?_
        refine lv_aload_n hx hb dL_law_578 rfl (lv_at hl 4 rfl) ?_
        refine lv_iload hx hb dL_law_579 (lv_at hl 0 rfl) ?_
        refine lv_iconst (v := 1) hx hb dL_law_581 (by decide) ?_
        refine lv_iadd hx hb dL_law_582 ?_
        refine va_sld hx hb hX hbl hbA hS (lw_ix (k := 1) hL hin (by decide) (by decide)) dL_law_583 ?_
        refine lv_aload_n hx hb dL_law_584 rfl (lv_at hl 4 rfl) ?_
        refine lv_iload hx hb dL_law_585 (lv_at hl 0 rfl) ?_
        refine lv_iconst (v := 2) hx hb dL_law_587 (by decide) ?_
        refine lv_iadd hx hb dL_law_588 ?_
        refine va_sld hx hb hX hbl hbA hS (lw_ix (k := 2) hL hin (by decide) (by decide)) dL_law_589 ?_
        refine lv_aload_n hx hb dL_law_590 rfl (lv_at hl 4 rfl) ?_
        refine lv_iload hx hb dL_law_591 (lv_at hl 0 rfl) ?_
        refine lv_iconst (v := 3) hx hb dL_law_593 (by decide) ?_
        refine lv_iadd hx hb dL_law_594 ?_
        refine va_sld hx hb hX hbl hbA hS (lw_ix (k := 3) hL hin (by decide) (by decide)) dL_law_595 ?_
        refine lv_aload_n hx hb dL_law_596 rfl (lv_at hl 4 rfl) ?_
        refine lv_iload hx hb dL_law_597 (lv_at hl 0 rfl) ?_
        refine lv_iconst (v := 4) hx hb dL_law_599 (by decide) ?_
        refine lv_iadd hx hb dL_law_600 ?_
        refine va_sld hx hb hX hbl hbA hS (lw_ix (k := 4) hL hin (by decide) (by decide)) dL_law_601 ?_
        refine lv_if_eq (tgt := 609) hx hb dL_law_602 (by decide) (fun c_163 => ?_) (fun c_163 => ?_)
        · refine lv_iconst (v := 0) hx hb dL_law_609 (by decide) ?_
          have hF := gFree hDM hS hA
          refine va_calllD hd0 (va_runV_D (As := [.int (xs ((nI (6 * j)) + 1).toNatClampNeg), .int (xs ((nI (6 * j)) + 2).toNatClampNeg), .int (xs ((nI (6 * j)) + 3).toNatClampNeg), .int 0]) (rest := [.long r_157]) ⟨hx, hb, hml, hown, hts⟩ (n_X12_countedF l dC dI am cM adK adV H.size τ hIM (xs ((nI (6 * j)) + 1).toNatClampNeg) (xs ((nI (6 * j)) + 2).toNatClampNeg) (xs ((nI (6 * j)) + 3).toNatClampNeg) 0 ) (cwV 4 hts gL0_X12_counted rfl rfl rfl (by decide +kernel) ⟨Nat.le_of_ble_eq_true rfl, Nat.le_of_ble_eq_true rfl⟩) ⟨gBlind, va_recv hKM hPM (ci := 11) (q0 := 0) rfl (mat_11 rfl), gStart (As := [.ref (am 0), .int (xs ((nI (6 * j)) + 1).toNatClampNeg), .int (xs ((nI (6 * j)) + 2).toNatClampNeg), .int (xs ((nI (6 * j)) + 3).toNatClampNeg), .int 0]) hPM hDM hKM0 hT hS hF (d_159)⟩ rfl rfl hl.1 rfl (lv_room (Nat.le_of_ble_eq_true rfl)) dL_law_610 ⟨by omega, by omega⟩) hS (fun q _ h => hF q h) hF (fun r_164 τz_165 t H1 locs ht hvm hw hB hz1 hk1 hS d_166 hd0 => ?_)
          have hts := dr_words hts0 (d_166)
          have hKX := gKd hKX0 (d_166)
          have hKM := gKd hKM0 (d_166)
          have hown : (s.setDrawn (d_166)).vm.findClass RL = some m.cls := hown0
          have hX : va_X b L xs (s.setDrawn (d_166)) s.heap := hX0
          obtain ⟨hPM, hDM⟩ := gBack hF ht hB
          obtain ⟨hI_168, fc_169, hp_167⟩ := hw
          have hPX := gOther hPX hk1 (dj_sym (dj_G dj))
          have hPO := gOther hPO hk1 (dj_1 djM)
          generalize H1 = H at hPX hPM hPO hS ⊢
          have dp_170 : Deep τz_165 := (Deep.fr hDp (fc_169.1 2 (by decide) (by decide)) (fc_169.1 4 (by decide) (by decide)) (fc_169.1 9 (by decide) (by decide)) (fc_169.1 11 (by decide) (by decide)) (fc_169.1 12 (by decide) (by decide)) (fc_169.1 17 (by decide) (by decide)) (fc_169.1 18 (by decide) (by decide)) (fc_169.2 20 (by decide)) (fc_169.2 21 (by decide)) (fc_169.2 28 (by decide)) (fc_169.2 64 (by decide)) (fc_169.2 65 (by decide)) (fc_169.2 68 (by decide)))
          refine W.lcmp hx hb dL_law_613 ?_
          refine lv_if_eq (tgt := 1851) hx hb dL_law_614 (by decide) (fun c_171 => ?_) (fun c_171 => ?_)
          · obtain ⟨x_172, ex_172⟩ : ∃ zz : Int32, zz = (nI (6 * j)) + 6 := ⟨_, rfl⟩
            refine lv_iinc (v := x_172) (lv' := [(4, .int x_172), (3, .ref lo), (2, .ref (am 0)), (1, .ref (ad 0)), (0, .ref b)]) hx hb dL_law_1851 hl (k := 0) rfl (by rw [ex_172]; rfl) (by decide) rfl (fun ls hl => ?_)
            refine lv_goto (tgt := 23) hx hb dL_law_1854 (by decide) ?_
            have hl := lv_sub hl [0, 1, 2, 3, 4] rfl
            rw [ex_172, nI_6] at hl
            exact ih (j + 1) σz_158 τz_165 f _ _ _ _ _ _ (by omega) (by omega) hI_161 hI_168 dp_170 (by omega) (by omega) hd0 hPX hDX hPM hDM hPO hDO hS hl
          · exact absurd ((lg_cmp_eq _ _).mpr (hp_160.trans ((q_counted 0 0 _ _ _ _).trans hp_167.symm))) c_171
        · exact absurd c_156 c_163
      · refine lv_iconst (v := 1) hx hb dL_law_569 (by decide) ?_
        refine lv_goto (tgt := 574) hx hb dL_law_570 (by decide) ?_
        have hF := gFree hDX hS hA
        refine va_calllD hd0 (va_runV_D (As := [.int (xs ((nI (6 * j)) + 1).toNatClampNeg), .int (xs ((nI (6 * j)) + 2).toNatClampNeg), .int (xs ((nI (6 * j)) + 3).toNatClampNeg), .int 1]) (rest := []) ⟨hx, hb, hml, hown, hts⟩ (n_X11_countedF l dC dI ad cA adK adV H.size σ hIX (xs ((nI (6 * j)) + 1).toNatClampNeg) (xs ((nI (6 * j)) + 2).toNatClampNeg) (xs ((nI (6 * j)) + 3).toNatClampNeg) 1 ) (cwV 4 hts gL0_X11_counted rfl rfl rfl (by decide +kernel) ⟨Nat.le_of_ble_eq_true rfl, Nat.le_of_ble_eq_true rfl⟩) ⟨gBlind, va_recv hKX hPX (ci := 10) (q0 := 0) rfl (at_10 rfl), gStart (As := [.ref (ad 0), .int (xs ((nI (6 * j)) + 1).toNatClampNeg), .int (xs ((nI (6 * j)) + 2).toNatClampNeg), .int (xs ((nI (6 * j)) + 3).toNatClampNeg), .int 1]) hPX hDX hKX0 hT hS hF (d)⟩ rfl rfl hl.1 rfl (lv_room (Nat.le_of_ble_eq_true rfl)) dL_law_574 ⟨by omega, by omega⟩) hS (fun q _ h => hF q h) hF (fun r_173 σz_174 t H1 locs ht hvm hw hB hz1 hk1 hS d_175 hd0 => ?_)
        have hts := dr_words hts0 (d_175)
        have hKX := gKd hKX0 (d_175)
        have hKM := gKd hKM0 (d_175)
        have hown : (s.setDrawn (d_175)).vm.findClass RL = some m.cls := hown0
        have hX : va_X b L xs (s.setDrawn (d_175)) s.heap := hX0
        obtain ⟨hPX, hDX⟩ := gBack hF ht hB
        obtain ⟨hI_177, fc_178, hp_176⟩ := hw
        have hPM := gOther hPM hk1 (dj_G dj)
        have hPO := gOther hPO hk1 (dj_1 djX)
        generalize H1 = H at hPX hPM hPO hS ⊢
        refine lv_aload_n hx hb dL_law_577 rfl (lv_at hl 2 rfl) ?_
        refine lv_aload_n hx hb dL_law_578 rfl (lv_at hl 4 rfl) ?_
        refine lv_iload hx hb dL_law_579 (lv_at hl 0 rfl) ?_
        refine lv_iconst (v := 1) hx hb dL_law_581 (by decide) ?_
        refine lv_iadd hx hb dL_law_582 ?_
        refine va_sld hx hb hX hbl hbA hS (lw_ix (k := 1) hL hin (by decide) (by decide)) dL_law_583 ?_
        refine lv_aload_n hx hb dL_law_584 rfl (lv_at hl 4 rfl) ?_
        refine lv_iload hx hb dL_law_585 (lv_at hl 0 rfl) ?_
        refine lv_iconst (v := 2) hx hb dL_law_587 (by decide) ?_
        refine lv_iadd hx hb dL_law_588 ?_
        refine va_sld hx hb hX hbl hbA hS (lw_ix (k := 2) hL hin (by decide) (by decide)) dL_law_589 ?_
        refine lv_aload_n hx hb dL_law_590 rfl (lv_at hl 4 rfl) ?_
        refine lv_iload hx hb dL_law_591 (lv_at hl 0 rfl) ?_
        refine lv_iconst (v := 3) hx hb dL_law_593 (by decide) ?_
        refine lv_iadd hx hb dL_law_594 ?_
        refine va_sld hx hb hX hbl hbA hS (lw_ix (k := 3) hL hin (by decide) (by decide)) dL_law_595 ?_
        refine lv_aload_n hx hb dL_law_596 rfl (lv_at hl 4 rfl) ?_
        refine lv_iload hx hb dL_law_597 (lv_at hl 0 rfl) ?_
        refine lv_iconst (v := 4) hx hb dL_law_599 (by decide) ?_
        refine lv_iadd hx hb dL_law_600 ?_
        refine va_sld hx hb hX hbl hbA hS (lw_ix (k := 4) hL hin (by decide) (by decide)) dL_law_601 ?_
        refine lv_if_eq (tgt := 609) hx hb dL_law_602 (by decide) (fun c_179 => ?_) (fun c_179 => ?_)
        · exact absurd c_179 c_156
        · refine lv_iconst (v := 1) hx hb dL_law_605 (by decide) ?_
          refine lv_goto (tgt := 610) hx hb dL_law_606 (by decide) ?_
          have hF := gFree hDM hS hA
          refine va_calllD hd0 (va_runV_D (As := [.int (xs ((nI (6 * j)) + 1).toNatClampNeg), .int (xs ((nI (6 * j)) + 2).toNatClampNeg), .int (xs ((nI (6 * j)) + 3).toNatClampNeg), .int 1]) (rest := [.long r_173]) ⟨hx, hb, hml, hown, hts⟩ (n_X12_countedF l dC dI am cM adK adV H.size τ hIM (xs ((nI (6 * j)) + 1).toNatClampNeg) (xs ((nI (6 * j)) + 2).toNatClampNeg) (xs ((nI (6 * j)) + 3).toNatClampNeg) 1 ) (cwV 4 hts gL0_X12_counted rfl rfl rfl (by decide +kernel) ⟨Nat.le_of_ble_eq_true rfl, Nat.le_of_ble_eq_true rfl⟩) ⟨gBlind, va_recv hKM hPM (ci := 11) (q0 := 0) rfl (mat_11 rfl), gStart (As := [.ref (am 0), .int (xs ((nI (6 * j)) + 1).toNatClampNeg), .int (xs ((nI (6 * j)) + 2).toNatClampNeg), .int (xs ((nI (6 * j)) + 3).toNatClampNeg), .int 1]) hPM hDM hKM0 hT hS hF (d_175)⟩ rfl rfl hl.1 rfl (lv_room (Nat.le_of_ble_eq_true rfl)) dL_law_610 ⟨by omega, by omega⟩) hS (fun q _ h => hF q h) hF (fun r_180 τz_181 t H1 locs ht hvm hw hB hz1 hk1 hS d_182 hd0 => ?_)
          have hts := dr_words hts0 (d_182)
          have hKX := gKd hKX0 (d_182)
          have hKM := gKd hKM0 (d_182)
          have hown : (s.setDrawn (d_182)).vm.findClass RL = some m.cls := hown0
          have hX : va_X b L xs (s.setDrawn (d_182)) s.heap := hX0
          obtain ⟨hPM, hDM⟩ := gBack hF ht hB
          obtain ⟨hI_184, fc_185, hp_183⟩ := hw
          have hPX := gOther hPX hk1 (dj_sym (dj_G dj))
          have hPO := gOther hPO hk1 (dj_1 djM)
          generalize H1 = H at hPX hPM hPO hS ⊢
          have dp_186 : Deep τz_181 := (Deep.fr hDp (fc_185.1 2 (by decide) (by decide)) (fc_185.1 4 (by decide) (by decide)) (fc_185.1 9 (by decide) (by decide)) (fc_185.1 11 (by decide) (by decide)) (fc_185.1 12 (by decide) (by decide)) (fc_185.1 17 (by decide) (by decide)) (fc_185.1 18 (by decide) (by decide)) (fc_185.2 20 (by decide)) (fc_185.2 21 (by decide)) (fc_185.2 28 (by decide)) (fc_185.2 64 (by decide)) (fc_185.2 65 (by decide)) (fc_185.2 68 (by decide)))
          refine W.lcmp hx hb dL_law_613 ?_
          refine lv_if_eq (tgt := 1851) hx hb dL_law_614 (by decide) (fun c_187 => ?_) (fun c_187 => ?_)
          · obtain ⟨x_188, ex_188⟩ : ∃ zz : Int32, zz = (nI (6 * j)) + 6 := ⟨_, rfl⟩
            refine lv_iinc (v := x_188) (lv' := [(4, .int x_188), (3, .ref lo), (2, .ref (am 0)), (1, .ref (ad 0)), (0, .ref b)]) hx hb dL_law_1851 hl (k := 0) rfl (by rw [ex_188]; rfl) (by decide) rfl (fun ls hl => ?_)
            refine lv_goto (tgt := 23) hx hb dL_law_1854 (by decide) ?_
            have hl := lv_sub hl [0, 1, 2, 3, 4] rfl
            rw [ex_188, nI_6] at hl
            exact ih (j + 1) σz_174 τz_181 f _ _ _ _ _ _ (by omega) (by omega) hI_177 hI_184 dp_186 (by omega) (by omega) hd0 hPX hDX hPM hDM hPO hDO hS hl
          · exact absurd ((lg_cmp_eq _ _).mpr (hp_176.trans ((q_counted 0 0 _ _ _ _).trans hp_183.symm))) c_187
    by_cases c_189 : ((xs (nI (6 * j)).toNatClampNeg) &&& 63) = 10
    · refine lv_tableIn (tgt := 619) hx hb dL_law_40 (by rw [c_189]; decide) (by rw [c_189]; decide) (by rw [c_189]; rfl) (by decide) ?_
      refine lv_aload_n hx hb dL_law_619 rfl (lv_at hl 3 rfl) ?_
      refine lv_aload_n hx hb dL_law_620 rfl (lv_at hl 4 rfl) ?_
      refine lv_iload hx hb dL_law_621 (lv_at hl 0 rfl) ?_
      refine lv_iconst (v := 1) hx hb dL_law_623 (by decide) ?_
      refine lv_iadd hx hb dL_law_624 ?_
      refine va_sld hx hb hX hbl hbA hS (lw_ix (k := 1) hL hin (by decide) (by decide)) dL_law_625 ?_
      refine lv_aload_n hx hb dL_law_626 rfl (lv_at hl 4 rfl) ?_
      refine lv_iload hx hb dL_law_627 (lv_at hl 0 rfl) ?_
      refine lv_iconst (v := 2) hx hb dL_law_629 (by decide) ?_
      refine lv_iadd hx hb dL_law_630 ?_
      refine va_sld hx hb hX hbl hbA hS (lw_ix (k := 2) hL hin (by decide) (by decide)) dL_law_631 ?_
      have hF := gFree hDX hS hA
      refine va_calliD hd0 (va_runV_D (As := [.int (xs ((nI (6 * j)) + 1).toNatClampNeg), .int (xs ((nI (6 * j)) + 2).toNatClampNeg)]) (rest := []) ⟨hx, hb, hml, hown, hts⟩ (n_X11_bond l dC dI ad cA adK adV H.size σ hIX (xs ((nI (6 * j)) + 1).toNatClampNeg) (xs ((nI (6 * j)) + 2).toNatClampNeg) ) (cwV 2 hts gL0_X11_bond rfl rfl rfl (by decide +kernel) ⟨Nat.le_of_ble_eq_true rfl, Nat.le_of_ble_eq_true rfl⟩) ⟨gBlind, va_recv hKX hPX (ci := 10) (q0 := 0) rfl (at_10 rfl), gStart (As := [.ref (ad 0), .int (xs ((nI (6 * j)) + 1).toNatClampNeg), .int (xs ((nI (6 * j)) + 2).toNatClampNeg)]) hPX hDX hKX0 hT hS hF (d)⟩ rfl rfl hl.1 rfl (lv_room (Nat.le_of_ble_eq_true rfl)) dL_law_632 ⟨by omega, by omega⟩) hS (fun q _ h => hF q h) hF (fun r_190 σz_191 t H1 locs ht hvm hw hB hz1 hk1 hS d_192 hd0 => ?_)
      have hts := dr_words hts0 (d_192)
      have hKX := gKd hKX0 (d_192)
      have hKM := gKd hKM0 (d_192)
      have hown : (s.setDrawn (d_192)).vm.findClass RL = some m.cls := hown0
      have hX : va_X b L xs (s.setDrawn (d_192)) s.heap := hX0
      obtain ⟨hPX, hDX⟩ := gBack hF ht hB
      obtain ⟨hI_194, fc_195, hp_193⟩ := hw
      have hPM := gOther hPM hk1 (dj_G dj)
      have hPO := gOther hPO hk1 (dj_1 djX)
      generalize H1 = H at hPX hPM hPO hS ⊢
      refine lv_pop hx hb dL_law_635 rfl ?_
      refine lv_aload_n hx hb dL_law_636 rfl (lv_at hl 2 rfl) ?_
      refine lv_aload_n hx hb dL_law_637 rfl (lv_at hl 4 rfl) ?_
      refine lv_iload hx hb dL_law_638 (lv_at hl 0 rfl) ?_
      refine lv_iconst (v := 1) hx hb dL_law_640 (by decide) ?_
      refine lv_iadd hx hb dL_law_641 ?_
      refine va_sld hx hb hX hbl hbA hS (lw_ix (k := 1) hL hin (by decide) (by decide)) dL_law_642 ?_
      refine lv_aload_n hx hb dL_law_643 rfl (lv_at hl 4 rfl) ?_
      refine lv_iload hx hb dL_law_644 (lv_at hl 0 rfl) ?_
      refine lv_iconst (v := 2) hx hb dL_law_646 (by decide) ?_
      refine lv_iadd hx hb dL_law_647 ?_
      refine va_sld hx hb hX hbl hbA hS (lw_ix (k := 2) hL hin (by decide) (by decide)) dL_law_648 ?_
      have hF := gFree hDM hS hA
      refine va_calliD hd0 (va_runV_D (As := [.int (xs ((nI (6 * j)) + 1).toNatClampNeg), .int (xs ((nI (6 * j)) + 2).toNatClampNeg)]) (rest := []) ⟨hx, hb, hml, hown, hts⟩ (n_X12_bond l dC dI am cM adK adV H.size τ hIM (xs ((nI (6 * j)) + 1).toNatClampNeg) (xs ((nI (6 * j)) + 2).toNatClampNeg) ) (cwV 2 hts gL0_X12_bond rfl rfl rfl (by decide +kernel) ⟨Nat.le_of_ble_eq_true rfl, Nat.le_of_ble_eq_true rfl⟩) ⟨gBlind, va_recv hKM hPM (ci := 11) (q0 := 0) rfl (mat_11 rfl), gStart (As := [.ref (am 0), .int (xs ((nI (6 * j)) + 1).toNatClampNeg), .int (xs ((nI (6 * j)) + 2).toNatClampNeg)]) hPM hDM hKM0 hT hS hF (d_192)⟩ rfl rfl hl.1 rfl (lv_room (Nat.le_of_ble_eq_true rfl)) dL_law_649 ⟨by omega, by omega⟩) hS (fun q _ h => hF q h) hF (fun r_196 τz_197 t H1 locs ht hvm hw hB hz1 hk1 hS d_198 hd0 => ?_)
      have hts := dr_words hts0 (d_198)
      have hKX := gKd hKX0 (d_198)
      have hKM := gKd hKM0 (d_198)
      have hown : (s.setDrawn (d_198)).vm.findClass RL = some m.cls := hown0
      have hX : va_X b L xs (s.setDrawn (d_198)) s.heap := hX0
      obtain ⟨hPM, hDM⟩ := gBack hF ht hB
      obtain ⟨hI_200, fc_201, hp_199⟩ := hw
      have hPX := gOther hPX hk1 (dj_sym (dj_G dj))
      have hPO := gOther hPO hk1 (dj_1 djM)
      generalize H1 = H at hPX hPM hPO hS ⊢
      have dp_202 : Deep τz_197 := (Deep.fr hDp (fc_201.1 2 (by decide) (by decide)) (fc_201.1 4 (by decide) (by decide)) (fc_201.1 9 (by decide) (by decide)) (fc_201.1 11 (by decide) (by decide)) (fc_201.1 12 (by decide) (by decide)) (fc_201.1 17 (by decide) (by decide)) (fc_201.1 18 (by decide) (by decide)) (fc_201.2 20 (by decide)) (fc_201.2 21 (by decide)) (fc_201.2 28 (by decide)) (fc_201.2 64 (by decide)) (fc_201.2 65 (by decide)) (fc_201.2 68 (by decide)))
      refine lv_pop hx hb dL_law_652 rfl ?_
      refine lv_goto (tgt := 1851) hx hb dL_law_653 (by decide) ?_
      obtain ⟨x_203, ex_203⟩ : ∃ zz : Int32, zz = (nI (6 * j)) + 6 := ⟨_, rfl⟩
      refine lv_iinc (v := x_203) (lv' := [(4, .int x_203), (3, .ref lo), (2, .ref (am 0)), (1, .ref (ad 0)), (0, .ref b)]) hx hb dL_law_1851 hl (k := 0) rfl (by rw [ex_203]; rfl) (by decide) rfl (fun ls hl => ?_)
      refine lv_goto (tgt := 23) hx hb dL_law_1854 (by decide) ?_
      have hl := lv_sub hl [0, 1, 2, 3, 4] rfl
      rw [ex_203, nI_6] at hl
      exact ih (j + 1) σz_191 τz_197 f _ _ _ _ _ _ (by omega) (by omega) hI_194 hI_200 dp_202 (by omega) (by omega) hd0 hPX hDX hPM hDM hPO hDO hS hl
    by_cases c_204 : ((xs (nI (6 * j)).toNatClampNeg) &&& 63) = 11
    · refine lv_tableIn (tgt := 656) hx hb dL_law_40 (by rw [c_204]; decide) (by rw [c_204]; decide) (by rw [c_204]; rfl) (by decide) ?_
      refine lv_aload_n hx hb dL_law_656 rfl (lv_at hl 3 rfl) ?_
      refine lv_aload_n hx hb dL_law_657 rfl (lv_at hl 4 rfl) ?_
      refine lv_iload hx hb dL_law_658 (lv_at hl 0 rfl) ?_
      refine lv_iconst (v := 1) hx hb dL_law_660 (by decide) ?_
      refine lv_iadd hx hb dL_law_661 ?_
      refine va_sld hx hb hX hbl hbA hS (lw_ix (k := 1) hL hin (by decide) (by decide)) dL_law_662 ?_
      refine lv_aload_n hx hb dL_law_663 rfl (lv_at hl 4 rfl) ?_
      refine lv_iload hx hb dL_law_664 (lv_at hl 0 rfl) ?_
      refine lv_iconst (v := 2) hx hb dL_law_666 (by decide) ?_
      refine lv_iadd hx hb dL_law_667 ?_
      refine va_sld hx hb hX hbl hbA hS (lw_ix (k := 2) hL hin (by decide) (by decide)) dL_law_668 ?_
      have hF := gFree hDX hS hA
      refine va_calliD hd0 (va_runV_D (As := [.int (xs ((nI (6 * j)) + 1).toNatClampNeg), .int (xs ((nI (6 * j)) + 2).toNatClampNeg)]) (rest := []) ⟨hx, hb, hml, hown, hts⟩ (n_X11_grid l dC dI ad cA adK adV H.size σ hIX (xs ((nI (6 * j)) + 1).toNatClampNeg) (xs ((nI (6 * j)) + 2).toNatClampNeg) ) (cwV 2 hts gL0_X11_grid rfl rfl rfl (by decide +kernel) ⟨Nat.le_of_ble_eq_true rfl, Nat.le_of_ble_eq_true rfl⟩) ⟨gBlind, va_recv hKX hPX (ci := 10) (q0 := 0) rfl (at_10 rfl), gStart (As := [.ref (ad 0), .int (xs ((nI (6 * j)) + 1).toNatClampNeg), .int (xs ((nI (6 * j)) + 2).toNatClampNeg)]) hPX hDX hKX0 hT hS hF (d)⟩ rfl rfl hl.1 rfl (lv_room (Nat.le_of_ble_eq_true rfl)) dL_law_669 ⟨by omega, by omega⟩) hS (fun q _ h => hF q h) hF (fun r_205 σz_206 t H1 locs ht hvm hw hB hz1 hk1 hS d_207 hd0 => ?_)
      have hts := dr_words hts0 (d_207)
      have hKX := gKd hKX0 (d_207)
      have hKM := gKd hKM0 (d_207)
      have hown : (s.setDrawn (d_207)).vm.findClass RL = some m.cls := hown0
      have hX : va_X b L xs (s.setDrawn (d_207)) s.heap := hX0
      obtain ⟨hPX, hDX⟩ := gBack hF ht hB
      obtain ⟨hI_209, fc_210, hp_208⟩ := hw
      have hPM := gOther hPM hk1 (dj_G dj)
      have hPO := gOther hPO hk1 (dj_1 djX)
      generalize H1 = H at hPX hPM hPO hS ⊢
      refine lv_pop hx hb dL_law_672 rfl ?_
      refine lv_aload_n hx hb dL_law_673 rfl (lv_at hl 2 rfl) ?_
      refine lv_aload_n hx hb dL_law_674 rfl (lv_at hl 4 rfl) ?_
      refine lv_iload hx hb dL_law_675 (lv_at hl 0 rfl) ?_
      refine lv_iconst (v := 1) hx hb dL_law_677 (by decide) ?_
      refine lv_iadd hx hb dL_law_678 ?_
      refine va_sld hx hb hX hbl hbA hS (lw_ix (k := 1) hL hin (by decide) (by decide)) dL_law_679 ?_
      refine lv_aload_n hx hb dL_law_680 rfl (lv_at hl 4 rfl) ?_
      refine lv_iload hx hb dL_law_681 (lv_at hl 0 rfl) ?_
      refine lv_iconst (v := 2) hx hb dL_law_683 (by decide) ?_
      refine lv_iadd hx hb dL_law_684 ?_
      refine va_sld hx hb hX hbl hbA hS (lw_ix (k := 2) hL hin (by decide) (by decide)) dL_law_685 ?_
      have hF := gFree hDM hS hA
      refine va_calliD hd0 (va_runV_D (As := [.int (xs ((nI (6 * j)) + 1).toNatClampNeg), .int (xs ((nI (6 * j)) + 2).toNatClampNeg)]) (rest := []) ⟨hx, hb, hml, hown, hts⟩ (n_X12_grid l dC dI am cM adK adV H.size τ hIM (xs ((nI (6 * j)) + 1).toNatClampNeg) (xs ((nI (6 * j)) + 2).toNatClampNeg) hDp) (cwV 2 hts gL0_X12_grid rfl rfl rfl (by decide +kernel) ⟨Nat.le_of_ble_eq_true rfl, Nat.le_of_ble_eq_true rfl⟩) ⟨gBlind, va_recv hKM hPM (ci := 11) (q0 := 0) rfl (mat_11 rfl), gStart (As := [.ref (am 0), .int (xs ((nI (6 * j)) + 1).toNatClampNeg), .int (xs ((nI (6 * j)) + 2).toNatClampNeg)]) hPM hDM hKM0 hT hS hF (d_207)⟩ rfl rfl hl.1 rfl (lv_room (Nat.le_of_ble_eq_true rfl)) dL_law_686 ⟨by omega, by omega⟩) hS (fun q _ h => hF q h) hF (fun r_211 τz_212 t H1 locs ht hvm hw hB hz1 hk1 hS d_213 hd0 => ?_)
      have hts := dr_words hts0 (d_213)
      have hKX := gKd hKX0 (d_213)
      have hKM := gKd hKM0 (d_213)
      have hown : (s.setDrawn (d_213)).vm.findClass RL = some m.cls := hown0
      have hX : va_X b L xs (s.setDrawn (d_213)) s.heap := hX0
      obtain ⟨hPM, hDM⟩ := gBack hF ht hB
      obtain ⟨hI_215, fc_216, hp_214⟩ := hw
      have hPX := gOther hPX hk1 (dj_sym (dj_G dj))
      have hPO := gOther hPO hk1 (dj_1 djM)
      generalize H1 = H at hPX hPM hPO hS ⊢
      have dp_217 : Deep τz_212 := (Deep.fr hDp (fc_216.1 2 (by decide) (by decide)) (fc_216.1 4 (by decide) (by decide)) (fc_216.1 9 (by decide) (by decide)) (fc_216.1 11 (by decide) (by decide)) (fc_216.1 12 (by decide) (by decide)) (fc_216.1 17 (by decide) (by decide)) (fc_216.1 18 (by decide) (by decide)) (fc_216.2 20 (by decide)) (fc_216.2 21 (by decide)) (fc_216.2 28 (by decide)) (fc_216.2 64 (by decide)) (fc_216.2 65 (by decide)) (fc_216.2 68 (by decide)))
      refine lv_pop hx hb dL_law_689 rfl ?_
      refine lv_goto (tgt := 1851) hx hb dL_law_690 (by decide) ?_
      obtain ⟨x_218, ex_218⟩ : ∃ zz : Int32, zz = (nI (6 * j)) + 6 := ⟨_, rfl⟩
      refine lv_iinc (v := x_218) (lv' := [(4, .int x_218), (3, .ref lo), (2, .ref (am 0)), (1, .ref (ad 0)), (0, .ref b)]) hx hb dL_law_1851 hl (k := 0) rfl (by rw [ex_218]; rfl) (by decide) rfl (fun ls hl => ?_)
      refine lv_goto (tgt := 23) hx hb dL_law_1854 (by decide) ?_
      have hl := lv_sub hl [0, 1, 2, 3, 4] rfl
      rw [ex_218, nI_6] at hl
      exact ih (j + 1) σz_206 τz_212 f _ _ _ _ _ _ (by omega) (by omega) hI_209 hI_215 dp_217 (by omega) (by omega) hd0 hPX hDX hPM hDM hPO hDO hS hl
    by_cases c_219 : ((xs (nI (6 * j)).toNatClampNeg) &&& 63) = 12
    · refine lv_tableIn (tgt := 693) hx hb dL_law_40 (by rw [c_219]; decide) (by rw [c_219]; decide) (by rw [c_219]; rfl) (by decide) ?_
      refine lv_aload_n hx hb dL_law_693 rfl (lv_at hl 3 rfl) ?_
      refine lv_aload_n hx hb dL_law_694 rfl (lv_at hl 4 rfl) ?_
      refine lv_iload hx hb dL_law_695 (lv_at hl 0 rfl) ?_
      refine lv_iconst (v := 1) hx hb dL_law_697 (by decide) ?_
      refine lv_iadd hx hb dL_law_698 ?_
      refine va_sld hx hb hX hbl hbA hS (lw_ix (k := 1) hL hin (by decide) (by decide)) dL_law_699 ?_
      refine lv_aload_n hx hb dL_law_700 rfl (lv_at hl 4 rfl) ?_
      refine lv_iload hx hb dL_law_701 (lv_at hl 0 rfl) ?_
      refine lv_iconst (v := 2) hx hb dL_law_703 (by decide) ?_
      refine lv_iadd hx hb dL_law_704 ?_
      refine va_sld hx hb hX hbl hbA hS (lw_ix (k := 2) hL hin (by decide) (by decide)) dL_law_705 ?_
      refine lv_aload_n hx hb dL_law_706 rfl (lv_at hl 4 rfl) ?_
      refine lv_iload hx hb dL_law_707 (lv_at hl 0 rfl) ?_
      refine lv_iconst (v := 3) hx hb dL_law_709 (by decide) ?_
      refine lv_iadd hx hb dL_law_710 ?_
      refine va_sld hx hb hX hbl hbA hS (lw_ix (k := 3) hL hin (by decide) (by decide)) dL_law_711 ?_
      have hF := gFree hDX hS hA
      refine va_calliD hd0 (va_runV_D (As := [.int (xs ((nI (6 * j)) + 1).toNatClampNeg), .int (xs ((nI (6 * j)) + 2).toNatClampNeg), .int (xs ((nI (6 * j)) + 3).toNatClampNeg)]) (rest := []) ⟨hx, hb, hml, hown, hts⟩ (n_X11_period l dC dI ad cA adK adV H.size σ hIX (xs ((nI (6 * j)) + 1).toNatClampNeg) (xs ((nI (6 * j)) + 2).toNatClampNeg) (xs ((nI (6 * j)) + 3).toNatClampNeg) ) (cwV 3 hts gL0_X11_period rfl rfl rfl (by decide +kernel) ⟨Nat.le_of_ble_eq_true rfl, Nat.le_of_ble_eq_true rfl⟩) ⟨gBlind, va_recv hKX hPX (ci := 10) (q0 := 0) rfl (at_10 rfl), gStart (As := [.ref (ad 0), .int (xs ((nI (6 * j)) + 1).toNatClampNeg), .int (xs ((nI (6 * j)) + 2).toNatClampNeg), .int (xs ((nI (6 * j)) + 3).toNatClampNeg)]) hPX hDX hKX0 hT hS hF (d)⟩ rfl rfl hl.1 rfl (lv_room (Nat.le_of_ble_eq_true rfl)) dL_law_712 ⟨by omega, by omega⟩) hS (fun q _ h => hF q h) hF (fun r_220 σz_221 t H1 locs ht hvm hw hB hz1 hk1 hS d_222 hd0 => ?_)
      have hts := dr_words hts0 (d_222)
      have hKX := gKd hKX0 (d_222)
      have hKM := gKd hKM0 (d_222)
      have hown : (s.setDrawn (d_222)).vm.findClass RL = some m.cls := hown0
      have hX : va_X b L xs (s.setDrawn (d_222)) s.heap := hX0
      obtain ⟨hPX, hDX⟩ := gBack hF ht hB
      obtain ⟨hI_224, fc_225, hp_223⟩ := hw
      have hPM := gOther hPM hk1 (dj_G dj)
      have hPO := gOther hPO hk1 (dj_1 djX)
      generalize H1 = H at hPX hPM hPO hS ⊢
      refine lv_pop hx hb dL_law_715 rfl ?_
      refine lv_aload_n hx hb dL_law_716 rfl (lv_at hl 2 rfl) ?_
      refine lv_aload_n hx hb dL_law_717 rfl (lv_at hl 4 rfl) ?_
      refine lv_iload hx hb dL_law_718 (lv_at hl 0 rfl) ?_
      refine lv_iconst (v := 1) hx hb dL_law_720 (by decide) ?_
      refine lv_iadd hx hb dL_law_721 ?_
      refine va_sld hx hb hX hbl hbA hS (lw_ix (k := 1) hL hin (by decide) (by decide)) dL_law_722 ?_
      refine lv_aload_n hx hb dL_law_723 rfl (lv_at hl 4 rfl) ?_
      refine lv_iload hx hb dL_law_724 (lv_at hl 0 rfl) ?_
      refine lv_iconst (v := 2) hx hb dL_law_726 (by decide) ?_
      refine lv_iadd hx hb dL_law_727 ?_
      refine va_sld hx hb hX hbl hbA hS (lw_ix (k := 2) hL hin (by decide) (by decide)) dL_law_728 ?_
      refine lv_aload_n hx hb dL_law_729 rfl (lv_at hl 4 rfl) ?_
      refine lv_iload hx hb dL_law_730 (lv_at hl 0 rfl) ?_
      refine lv_iconst (v := 3) hx hb dL_law_732 (by decide) ?_
      refine lv_iadd hx hb dL_law_733 ?_
      refine va_sld hx hb hX hbl hbA hS (lw_ix (k := 3) hL hin (by decide) (by decide)) dL_law_734 ?_
      have hF := gFree hDM hS hA
      refine va_calliD hd0 (va_runV_D (As := [.int (xs ((nI (6 * j)) + 1).toNatClampNeg), .int (xs ((nI (6 * j)) + 2).toNatClampNeg), .int (xs ((nI (6 * j)) + 3).toNatClampNeg)]) (rest := []) ⟨hx, hb, hml, hown, hts⟩ (n_X12_period l dC dI am cM adK adV H.size τ hIM (xs ((nI (6 * j)) + 1).toNatClampNeg) (xs ((nI (6 * j)) + 2).toNatClampNeg) (xs ((nI (6 * j)) + 3).toNatClampNeg) ) (cwV 3 hts gL0_X12_period rfl rfl rfl (by decide +kernel) ⟨Nat.le_of_ble_eq_true rfl, Nat.le_of_ble_eq_true rfl⟩) ⟨gBlind, va_recv hKM hPM (ci := 11) (q0 := 0) rfl (mat_11 rfl), gStart (As := [.ref (am 0), .int (xs ((nI (6 * j)) + 1).toNatClampNeg), .int (xs ((nI (6 * j)) + 2).toNatClampNeg), .int (xs ((nI (6 * j)) + 3).toNatClampNeg)]) hPM hDM hKM0 hT hS hF (d_222)⟩ rfl rfl hl.1 rfl (lv_room (Nat.le_of_ble_eq_true rfl)) dL_law_735 ⟨by omega, by omega⟩) hS (fun q _ h => hF q h) hF (fun r_226 τz_227 t H1 locs ht hvm hw hB hz1 hk1 hS d_228 hd0 => ?_)
      have hts := dr_words hts0 (d_228)
      have hKX := gKd hKX0 (d_228)
      have hKM := gKd hKM0 (d_228)
      have hown : (s.setDrawn (d_228)).vm.findClass RL = some m.cls := hown0
      have hX : va_X b L xs (s.setDrawn (d_228)) s.heap := hX0
      obtain ⟨hPM, hDM⟩ := gBack hF ht hB
      obtain ⟨hI_230, fc_231, hp_229⟩ := hw
      have hPX := gOther hPX hk1 (dj_sym (dj_G dj))
      have hPO := gOther hPO hk1 (dj_1 djM)
      generalize H1 = H at hPX hPM hPO hS ⊢
      have dp_232 : Deep τz_227 := (Deep.fr hDp (fc_231.1 2 (by decide) (by decide)) (fc_231.1 4 (by decide) (by decide)) (fc_231.1 9 (by decide) (by decide)) (fc_231.1 11 (by decide) (by decide)) (fc_231.1 12 (by decide) (by decide)) (fc_231.1 17 (by decide) (by decide)) (fc_231.1 18 (by decide) (by decide)) (fc_231.2 20 (by decide)) (fc_231.2 21 (by decide)) (fc_231.2 28 (by decide)) (fc_231.2 64 (by decide)) (fc_231.2 65 (by decide)) (fc_231.2 68 (by decide)))
      refine lv_pop hx hb dL_law_738 rfl ?_
      refine lv_goto (tgt := 1851) hx hb dL_law_739 (by decide) ?_
      obtain ⟨x_233, ex_233⟩ : ∃ zz : Int32, zz = (nI (6 * j)) + 6 := ⟨_, rfl⟩
      refine lv_iinc (v := x_233) (lv' := [(4, .int x_233), (3, .ref lo), (2, .ref (am 0)), (1, .ref (ad 0)), (0, .ref b)]) hx hb dL_law_1851 hl (k := 0) rfl (by rw [ex_233]; rfl) (by decide) rfl (fun ls hl => ?_)
      refine lv_goto (tgt := 23) hx hb dL_law_1854 (by decide) ?_
      have hl := lv_sub hl [0, 1, 2, 3, 4] rfl
      rw [ex_233, nI_6] at hl
      exact ih (j + 1) σz_221 τz_227 f _ _ _ _ _ _ (by omega) (by omega) hI_224 hI_230 dp_232 (by omega) (by omega) hd0 hPX hDX hPM hDM hPO hDO hS hl
    by_cases c_234 : ((xs (nI (6 * j)).toNatClampNeg) &&& 63) = 13
    · refine lv_tableIn (tgt := 742) hx hb dL_law_40 (by rw [c_234]; decide) (by rw [c_234]; decide) (by rw [c_234]; rfl) (by decide) ?_
      refine lv_aload_n hx hb dL_law_742 rfl (lv_at hl 3 rfl) ?_
      refine lv_aload_n hx hb dL_law_743 rfl (lv_at hl 4 rfl) ?_
      refine lv_iload hx hb dL_law_744 (lv_at hl 0 rfl) ?_
      refine lv_iconst (v := 1) hx hb dL_law_746 (by decide) ?_
      refine lv_iadd hx hb dL_law_747 ?_
      refine va_sld hx hb hX hbl hbA hS (lw_ix (k := 1) hL hin (by decide) (by decide)) dL_law_748 ?_
      refine lv_aload_n hx hb dL_law_749 rfl (lv_at hl 4 rfl) ?_
      refine lv_iload hx hb dL_law_750 (lv_at hl 0 rfl) ?_
      refine lv_iconst (v := 2) hx hb dL_law_752 (by decide) ?_
      refine lv_iadd hx hb dL_law_753 ?_
      refine va_sld hx hb hX hbl hbA hS (lw_ix (k := 2) hL hin (by decide) (by decide)) dL_law_754 ?_
      refine lv_aload_n hx hb dL_law_755 rfl (lv_at hl 4 rfl) ?_
      refine lv_iload hx hb dL_law_756 (lv_at hl 0 rfl) ?_
      refine lv_iconst (v := 3) hx hb dL_law_758 (by decide) ?_
      refine lv_iadd hx hb dL_law_759 ?_
      refine va_sld hx hb hX hbl hbA hS (lw_ix (k := 3) hL hin (by decide) (by decide)) dL_law_760 ?_
      refine lv_if_eq (tgt := 768) hx hb dL_law_761 (by decide) (fun c_235 => ?_) (fun c_235 => ?_)
      · refine lv_iconst (v := 0) hx hb dL_law_768 (by decide) ?_
        have hF := gFree hDX hS hA
        refine va_calllD hd0 (va_runV_D (As := [.int (xs ((nI (6 * j)) + 1).toNatClampNeg), .int (xs ((nI (6 * j)) + 2).toNatClampNeg), .int 0]) (rest := []) ⟨hx, hb, hml, hown, hts⟩ (n_X11_fraction l dC dI ad cA adK adV H.size σ hIX (xs ((nI (6 * j)) + 1).toNatClampNeg) (xs ((nI (6 * j)) + 2).toNatClampNeg) 0 ) (cwV 3 hts gL0_X11_fraction rfl rfl rfl (by decide +kernel) ⟨Nat.le_of_ble_eq_true rfl, Nat.le_of_ble_eq_true rfl⟩) ⟨gBlind, va_recv hKX hPX (ci := 10) (q0 := 0) rfl (at_10 rfl), gStart (As := [.ref (ad 0), .int (xs ((nI (6 * j)) + 1).toNatClampNeg), .int (xs ((nI (6 * j)) + 2).toNatClampNeg), .int 0]) hPX hDX hKX0 hT hS hF (d)⟩ rfl rfl hl.1 rfl (lv_room (Nat.le_of_ble_eq_true rfl)) dL_law_769 ⟨by omega, by omega⟩) hS (fun q _ h => hF q h) hF (fun r_236 σz_237 t H1 locs ht hvm hw hB hz1 hk1 hS d_238 hd0 => ?_)
        have hts := dr_words hts0 (d_238)
        have hKX := gKd hKX0 (d_238)
        have hKM := gKd hKM0 (d_238)
        have hown : (s.setDrawn (d_238)).vm.findClass RL = some m.cls := hown0
        have hX : va_X b L xs (s.setDrawn (d_238)) s.heap := hX0
        obtain ⟨hPX, hDX⟩ := gBack hF ht hB
        obtain ⟨hI_240, fc_241, hp_239⟩ := hw
        have hPM := gOther hPM hk1 (dj_G dj)
        have hPO := gOther hPO hk1 (dj_1 djX)
        generalize H1 = H at hPX hPM hPO hS ⊢
        refine lv_pop2_2 hx hb dL_law_772 rfl ?_
        refine lv_aload_n hx hb dL_law_773 rfl (lv_at hl 2 rfl) ?_
        refine lv_aload_n hx hb dL_law_774 rfl (lv_at hl 4 rfl) ?_
        refine lv_iload hx hb dL_law_775 (lv_at hl 0 rfl) ?_
        refine lv_iconst (v := 1) hx hb dL_law_777 (by decide) ?_
        refine lv_iadd hx hb dL_law_778 ?_
        refine va_sld hx hb hX hbl hbA hS (lw_ix (k := 1) hL hin (by decide) (by decide)) dL_law_779 ?_
        refine lv_aload_n hx hb dL_law_780 rfl (lv_at hl 4 rfl) ?_
        refine lv_iload hx hb dL_law_781 (lv_at hl 0 rfl) ?_
        refine lv_iconst (v := 2) hx hb dL_law_783 (by decide) ?_
        refine lv_iadd hx hb dL_law_784 ?_
        refine va_sld hx hb hX hbl hbA hS (lw_ix (k := 2) hL hin (by decide) (by decide)) dL_law_785 ?_
        refine lv_aload_n hx hb dL_law_786 rfl (lv_at hl 4 rfl) ?_
        refine lv_iload hx hb dL_law_787 (lv_at hl 0 rfl) ?_
        refine lv_iconst (v := 3) hx hb dL_law_789 (by decide) ?_
        refine lv_iadd hx hb dL_law_790 ?_
        refine va_sld hx hb hX hbl hbA hS (lw_ix (k := 3) hL hin (by decide) (by decide)) dL_law_791 ?_
        refine lv_if_eq (tgt := 799) hx hb dL_law_792 (by decide) (fun c_242 => ?_) (fun c_242 => ?_)
        · refine lv_iconst (v := 0) hx hb dL_law_799 (by decide) ?_
          have hF := gFree hDM hS hA
          refine va_calllD hd0 (va_runV_D (As := [.int (xs ((nI (6 * j)) + 1).toNatClampNeg), .int (xs ((nI (6 * j)) + 2).toNatClampNeg), .int 0]) (rest := []) ⟨hx, hb, hml, hown, hts⟩ (n_X12_fraction l dC dI am cM adK adV H.size τ hIM (xs ((nI (6 * j)) + 1).toNatClampNeg) (xs ((nI (6 * j)) + 2).toNatClampNeg) 0 hDp) (cwV 3 hts gL0_X12_fraction rfl rfl rfl (by decide +kernel) ⟨Nat.le_of_ble_eq_true rfl, Nat.le_of_ble_eq_true rfl⟩) ⟨gBlind, va_recv hKM hPM (ci := 11) (q0 := 0) rfl (mat_11 rfl), gStart (As := [.ref (am 0), .int (xs ((nI (6 * j)) + 1).toNatClampNeg), .int (xs ((nI (6 * j)) + 2).toNatClampNeg), .int 0]) hPM hDM hKM0 hT hS hF (d_238)⟩ rfl rfl hl.1 rfl (lv_room (Nat.le_of_ble_eq_true rfl)) dL_law_800 ⟨by omega, by omega⟩) hS (fun q _ h => hF q h) hF (fun r_243 τz_244 t H1 locs ht hvm hw hB hz1 hk1 hS d_245 hd0 => ?_)
          have hts := dr_words hts0 (d_245)
          have hKX := gKd hKX0 (d_245)
          have hKM := gKd hKM0 (d_245)
          have hown : (s.setDrawn (d_245)).vm.findClass RL = some m.cls := hown0
          have hX : va_X b L xs (s.setDrawn (d_245)) s.heap := hX0
          obtain ⟨hPM, hDM⟩ := gBack hF ht hB
          obtain ⟨hI_247, fc_248, hp_246⟩ := hw
          have hPX := gOther hPX hk1 (dj_sym (dj_G dj))
          have hPO := gOther hPO hk1 (dj_1 djM)
          generalize H1 = H at hPX hPM hPO hS ⊢
          have dp_249 : Deep τz_244 := (Deep.fr hDp (fc_248.1 2 (by decide) (by decide)) (fc_248.1 4 (by decide) (by decide)) (fc_248.1 9 (by decide) (by decide)) (fc_248.1 11 (by decide) (by decide)) (fc_248.1 12 (by decide) (by decide)) (fc_248.1 17 (by decide) (by decide)) (fc_248.1 18 (by decide) (by decide)) (fc_248.2 20 (by decide)) (fc_248.2 21 (by decide)) (fc_248.2 28 (by decide)) (fc_248.2 64 (by decide)) (fc_248.2 65 (by decide)) (fc_248.2 68 (by decide)))
          refine lv_pop2_2 hx hb dL_law_803 rfl ?_
          refine lv_goto (tgt := 1851) hx hb dL_law_804 (by decide) ?_
          obtain ⟨x_250, ex_250⟩ : ∃ zz : Int32, zz = (nI (6 * j)) + 6 := ⟨_, rfl⟩
          refine lv_iinc (v := x_250) (lv' := [(4, .int x_250), (3, .ref lo), (2, .ref (am 0)), (1, .ref (ad 0)), (0, .ref b)]) hx hb dL_law_1851 hl (k := 0) rfl (by rw [ex_250]; rfl) (by decide) rfl (fun ls hl => ?_)
          refine lv_goto (tgt := 23) hx hb dL_law_1854 (by decide) ?_
          have hl := lv_sub hl [0, 1, 2, 3, 4] rfl
          rw [ex_250, nI_6] at hl
          exact ih (j + 1) σz_237 τz_244 f _ _ _ _ _ _ (by omega) (by omega) hI_240 hI_247 dp_249 (by omega) (by omega) hd0 hPX hDX hPM hDM hPO hDO hS hl
        · exact absurd c_235 c_242
      · refine lv_iconst (v := 1) hx hb dL_law_764 (by decide) ?_
        refine lv_goto (tgt := 769) hx hb dL_law_765 (by decide) ?_
        have hF := gFree hDX hS hA
        refine va_calllD hd0 (va_runV_D (As := [.int (xs ((nI (6 * j)) + 1).toNatClampNeg), .int (xs ((nI (6 * j)) + 2).toNatClampNeg), .int 1]) (rest := []) ⟨hx, hb, hml, hown, hts⟩ (n_X11_fraction l dC dI ad cA adK adV H.size σ hIX (xs ((nI (6 * j)) + 1).toNatClampNeg) (xs ((nI (6 * j)) + 2).toNatClampNeg) 1 ) (cwV 3 hts gL0_X11_fraction rfl rfl rfl (by decide +kernel) ⟨Nat.le_of_ble_eq_true rfl, Nat.le_of_ble_eq_true rfl⟩) ⟨gBlind, va_recv hKX hPX (ci := 10) (q0 := 0) rfl (at_10 rfl), gStart (As := [.ref (ad 0), .int (xs ((nI (6 * j)) + 1).toNatClampNeg), .int (xs ((nI (6 * j)) + 2).toNatClampNeg), .int 1]) hPX hDX hKX0 hT hS hF (d)⟩ rfl rfl hl.1 rfl (lv_room (Nat.le_of_ble_eq_true rfl)) dL_law_769 ⟨by omega, by omega⟩) hS (fun q _ h => hF q h) hF (fun r_251 σz_252 t H1 locs ht hvm hw hB hz1 hk1 hS d_253 hd0 => ?_)
        have hts := dr_words hts0 (d_253)
        have hKX := gKd hKX0 (d_253)
        have hKM := gKd hKM0 (d_253)
        have hown : (s.setDrawn (d_253)).vm.findClass RL = some m.cls := hown0
        have hX : va_X b L xs (s.setDrawn (d_253)) s.heap := hX0
        obtain ⟨hPX, hDX⟩ := gBack hF ht hB
        obtain ⟨hI_255, fc_256, hp_254⟩ := hw
        have hPM := gOther hPM hk1 (dj_G dj)
        have hPO := gOther hPO hk1 (dj_1 djX)
        generalize H1 = H at hPX hPM hPO hS ⊢
        refine lv_pop2_2 hx hb dL_law_772 rfl ?_
        refine lv_aload_n hx hb dL_law_773 rfl (lv_at hl 2 rfl) ?_
        refine lv_aload_n hx hb dL_law_774 rfl (lv_at hl 4 rfl) ?_
        refine lv_iload hx hb dL_law_775 (lv_at hl 0 rfl) ?_
        refine lv_iconst (v := 1) hx hb dL_law_777 (by decide) ?_
        refine lv_iadd hx hb dL_law_778 ?_
        refine va_sld hx hb hX hbl hbA hS (lw_ix (k := 1) hL hin (by decide) (by decide)) dL_law_779 ?_
        refine lv_aload_n hx hb dL_law_780 rfl (lv_at hl 4 rfl) ?_
        refine lv_iload hx hb dL_law_781 (lv_at hl 0 rfl) ?_
        refine lv_iconst (v := 2) hx hb dL_law_783 (by decide) ?_
        refine lv_iadd hx hb dL_law_784 ?_
        refine va_sld hx hb hX hbl hbA hS (lw_ix (k := 2) hL hin (by decide) (by decide)) dL_law_785 ?_
        refine lv_aload_n hx hb dL_law_786 rfl (lv_at hl 4 rfl) ?_
        refine lv_iload hx hb dL_law_787 (lv_at hl 0 rfl) ?_
        refine lv_iconst (v := 3) hx hb dL_law_789 (by decide) ?_
        refine lv_iadd hx hb dL_law_790 ?_
        refine va_sld hx hb hX hbl hbA hS (lw_ix (k := 3) hL hin (by decide) (by decide)) dL_law_791 ?_
        refine lv_if_eq (tgt := 799) hx hb dL_law_792 (by decide) (fun c_257 => ?_) (fun c_257 => ?_)
        · exact absurd c_257 c_235
        · refine lv_iconst (v := 1) hx hb dL_law_795 (by decide) ?_
          refine lv_goto (tgt := 800) hx hb dL_law_796 (by decide) ?_
          have hF := gFree hDM hS hA
          refine va_calllD hd0 (va_runV_D (As := [.int (xs ((nI (6 * j)) + 1).toNatClampNeg), .int (xs ((nI (6 * j)) + 2).toNatClampNeg), .int 1]) (rest := []) ⟨hx, hb, hml, hown, hts⟩ (n_X12_fraction l dC dI am cM adK adV H.size τ hIM (xs ((nI (6 * j)) + 1).toNatClampNeg) (xs ((nI (6 * j)) + 2).toNatClampNeg) 1 hDp) (cwV 3 hts gL0_X12_fraction rfl rfl rfl (by decide +kernel) ⟨Nat.le_of_ble_eq_true rfl, Nat.le_of_ble_eq_true rfl⟩) ⟨gBlind, va_recv hKM hPM (ci := 11) (q0 := 0) rfl (mat_11 rfl), gStart (As := [.ref (am 0), .int (xs ((nI (6 * j)) + 1).toNatClampNeg), .int (xs ((nI (6 * j)) + 2).toNatClampNeg), .int 1]) hPM hDM hKM0 hT hS hF (d_253)⟩ rfl rfl hl.1 rfl (lv_room (Nat.le_of_ble_eq_true rfl)) dL_law_800 ⟨by omega, by omega⟩) hS (fun q _ h => hF q h) hF (fun r_258 τz_259 t H1 locs ht hvm hw hB hz1 hk1 hS d_260 hd0 => ?_)
          have hts := dr_words hts0 (d_260)
          have hKX := gKd hKX0 (d_260)
          have hKM := gKd hKM0 (d_260)
          have hown : (s.setDrawn (d_260)).vm.findClass RL = some m.cls := hown0
          have hX : va_X b L xs (s.setDrawn (d_260)) s.heap := hX0
          obtain ⟨hPM, hDM⟩ := gBack hF ht hB
          obtain ⟨hI_262, fc_263, hp_261⟩ := hw
          have hPX := gOther hPX hk1 (dj_sym (dj_G dj))
          have hPO := gOther hPO hk1 (dj_1 djM)
          generalize H1 = H at hPX hPM hPO hS ⊢
          have dp_264 : Deep τz_259 := (Deep.fr hDp (fc_263.1 2 (by decide) (by decide)) (fc_263.1 4 (by decide) (by decide)) (fc_263.1 9 (by decide) (by decide)) (fc_263.1 11 (by decide) (by decide)) (fc_263.1 12 (by decide) (by decide)) (fc_263.1 17 (by decide) (by decide)) (fc_263.1 18 (by decide) (by decide)) (fc_263.2 20 (by decide)) (fc_263.2 21 (by decide)) (fc_263.2 28 (by decide)) (fc_263.2 64 (by decide)) (fc_263.2 65 (by decide)) (fc_263.2 68 (by decide)))
          refine lv_pop2_2 hx hb dL_law_803 rfl ?_
          refine lv_goto (tgt := 1851) hx hb dL_law_804 (by decide) ?_
          obtain ⟨x_265, ex_265⟩ : ∃ zz : Int32, zz = (nI (6 * j)) + 6 := ⟨_, rfl⟩
          refine lv_iinc (v := x_265) (lv' := [(4, .int x_265), (3, .ref lo), (2, .ref (am 0)), (1, .ref (ad 0)), (0, .ref b)]) hx hb dL_law_1851 hl (k := 0) rfl (by rw [ex_265]; rfl) (by decide) rfl (fun ls hl => ?_)
          refine lv_goto (tgt := 23) hx hb dL_law_1854 (by decide) ?_
          have hl := lv_sub hl [0, 1, 2, 3, 4] rfl
          rw [ex_265, nI_6] at hl
          exact ih (j + 1) σz_252 τz_259 f _ _ _ _ _ _ (by omega) (by omega) hI_255 hI_262 dp_264 (by omega) (by omega) hd0 hPX hDX hPM hDM hPO hDO hS hl
    by_cases c_266 : ((xs (nI (6 * j)).toNatClampNeg) &&& 63) = 14
    · refine lv_tableIn (tgt := 807) hx hb dL_law_40 (by rw [c_266]; decide) (by rw [c_266]; decide) (by rw [c_266]; rfl) (by decide) ?_
      refine lv_aload_n hx hb dL_law_807 rfl (lv_at hl 3 rfl) ?_
      refine lv_aload_n hx hb dL_law_808 rfl (lv_at hl 4 rfl) ?_
      refine lv_iload hx hb dL_law_809 (lv_at hl 0 rfl) ?_
      refine lv_iconst (v := 1) hx hb dL_law_811 (by decide) ?_
      refine lv_iadd hx hb dL_law_812 ?_
      refine va_sld hx hb hX hbl hbA hS (lw_ix (k := 1) hL hin (by decide) (by decide)) dL_law_813 ?_
      refine lv_aload_n hx hb dL_law_814 rfl (lv_at hl 4 rfl) ?_
      refine lv_iload hx hb dL_law_815 (lv_at hl 0 rfl) ?_
      refine lv_iconst (v := 2) hx hb dL_law_817 (by decide) ?_
      refine lv_iadd hx hb dL_law_818 ?_
      refine va_sld hx hb hX hbl hbA hS (lw_ix (k := 2) hL hin (by decide) (by decide)) dL_law_819 ?_
      refine lv_aload_n hx hb dL_law_820 rfl (lv_at hl 4 rfl) ?_
      refine lv_iload hx hb dL_law_821 (lv_at hl 0 rfl) ?_
      refine lv_iconst (v := 3) hx hb dL_law_823 (by decide) ?_
      refine lv_iadd hx hb dL_law_824 ?_
      refine va_sld hx hb hX hbl hbA hS (lw_ix (k := 3) hL hin (by decide) (by decide)) dL_law_825 ?_
      refine lv_if_eq (tgt := 833) hx hb dL_law_826 (by decide) (fun c_267 => ?_) (fun c_267 => ?_)
      · refine lv_iconst (v := 0) hx hb dL_law_833 (by decide) ?_
        have hF := gFree hDX hS hA
        refine va_calllD hd0 (va_runV_D (As := [.int (xs ((nI (6 * j)) + 1).toNatClampNeg), .int (xs ((nI (6 * j)) + 2).toNatClampNeg), .int 0]) (rest := []) ⟨hx, hb, hml, hown, hts⟩ (n_X11_coupon l dC dI ad cA adK adV H.size σ hIX (xs ((nI (6 * j)) + 1).toNatClampNeg) (xs ((nI (6 * j)) + 2).toNatClampNeg) 0 ) (cwV 3 hts gL0_X11_coupon rfl rfl rfl (by decide +kernel) ⟨Nat.le_of_ble_eq_true rfl, Nat.le_of_ble_eq_true rfl⟩) ⟨gBlind, va_recv hKX hPX (ci := 10) (q0 := 0) rfl (at_10 rfl), gStart (As := [.ref (ad 0), .int (xs ((nI (6 * j)) + 1).toNatClampNeg), .int (xs ((nI (6 * j)) + 2).toNatClampNeg), .int 0]) hPX hDX hKX0 hT hS hF (d)⟩ rfl rfl hl.1 rfl (lv_room (Nat.le_of_ble_eq_true rfl)) dL_law_834 ⟨by omega, by omega⟩) hS (fun q _ h => hF q h) hF (fun r_268 σz_269 t H1 locs ht hvm hw hB hz1 hk1 hS d_270 hd0 => ?_)
        have hts := dr_words hts0 (d_270)
        have hKX := gKd hKX0 (d_270)
        have hKM := gKd hKM0 (d_270)
        have hown : (s.setDrawn (d_270)).vm.findClass RL = some m.cls := hown0
        have hX : va_X b L xs (s.setDrawn (d_270)) s.heap := hX0
        obtain ⟨hPX, hDX⟩ := gBack hF ht hB
        obtain ⟨hI_272, fc_273, hp_271⟩ := hw
        have hPM := gOther hPM hk1 (dj_G dj)
        have hPO := gOther hPO hk1 (dj_1 djX)
        generalize H1 = H at hPX hPM hPO hS ⊢
        refine lv_pop2_2 hx hb dL_law_837 rfl ?_
        refine lv_aload_n hx hb dL_law_838 rfl (lv_at hl 2 rfl) ?_
        refine lv_aload_n hx hb dL_law_839 rfl (lv_at hl 4 rfl) ?_
        refine lv_iload hx hb dL_law_840 (lv_at hl 0 rfl) ?_
        refine lv_iconst (v := 1) hx hb dL_law_842 (by decide) ?_
        refine lv_iadd hx hb dL_law_843 ?_
        refine va_sld hx hb hX hbl hbA hS (lw_ix (k := 1) hL hin (by decide) (by decide)) dL_law_844 ?_
        refine lv_aload_n hx hb dL_law_845 rfl (lv_at hl 4 rfl) ?_
        refine lv_iload hx hb dL_law_846 (lv_at hl 0 rfl) ?_
        refine lv_iconst (v := 2) hx hb dL_law_848 (by decide) ?_
        refine lv_iadd hx hb dL_law_849 ?_
        refine va_sld hx hb hX hbl hbA hS (lw_ix (k := 2) hL hin (by decide) (by decide)) dL_law_850 ?_
        refine lv_aload_n hx hb dL_law_851 rfl (lv_at hl 4 rfl) ?_
        refine lv_iload hx hb dL_law_852 (lv_at hl 0 rfl) ?_
        refine lv_iconst (v := 3) hx hb dL_law_854 (by decide) ?_
        refine lv_iadd hx hb dL_law_855 ?_
        refine va_sld hx hb hX hbl hbA hS (lw_ix (k := 3) hL hin (by decide) (by decide)) dL_law_856 ?_
        refine lv_if_eq (tgt := 864) hx hb dL_law_857 (by decide) (fun c_274 => ?_) (fun c_274 => ?_)
        · refine lv_iconst (v := 0) hx hb dL_law_864 (by decide) ?_
          have hF := gFree hDM hS hA
          refine va_calllD hd0 (va_runV_D (As := [.int (xs ((nI (6 * j)) + 1).toNatClampNeg), .int (xs ((nI (6 * j)) + 2).toNatClampNeg), .int 0]) (rest := []) ⟨hx, hb, hml, hown, hts⟩ (n_X12_coupon l dC dI am cM adK adV H.size τ hIM (xs ((nI (6 * j)) + 1).toNatClampNeg) (xs ((nI (6 * j)) + 2).toNatClampNeg) 0 hDp) (cwV 3 hts gL0_X12_coupon rfl rfl rfl (by decide +kernel) ⟨Nat.le_of_ble_eq_true rfl, Nat.le_of_ble_eq_true rfl⟩) ⟨gBlind, va_recv hKM hPM (ci := 11) (q0 := 0) rfl (mat_11 rfl), gStart (As := [.ref (am 0), .int (xs ((nI (6 * j)) + 1).toNatClampNeg), .int (xs ((nI (6 * j)) + 2).toNatClampNeg), .int 0]) hPM hDM hKM0 hT hS hF (d_270)⟩ rfl rfl hl.1 rfl (lv_room (Nat.le_of_ble_eq_true rfl)) dL_law_865 ⟨by omega, by omega⟩) hS (fun q _ h => hF q h) hF (fun r_275 τz_276 t H1 locs ht hvm hw hB hz1 hk1 hS d_277 hd0 => ?_)
          have hts := dr_words hts0 (d_277)
          have hKX := gKd hKX0 (d_277)
          have hKM := gKd hKM0 (d_277)
          have hown : (s.setDrawn (d_277)).vm.findClass RL = some m.cls := hown0
          have hX : va_X b L xs (s.setDrawn (d_277)) s.heap := hX0
          obtain ⟨hPM, hDM⟩ := gBack hF ht hB
          obtain ⟨hI_279, fc_280, hp_278⟩ := hw
          have hPX := gOther hPX hk1 (dj_sym (dj_G dj))
          have hPO := gOther hPO hk1 (dj_1 djM)
          generalize H1 = H at hPX hPM hPO hS ⊢
          have dp_281 : Deep τz_276 := (Deep.fr hDp (fc_280.1 2 (by decide) (by decide)) (fc_280.1 4 (by decide) (by decide)) (fc_280.1 9 (by decide) (by decide)) (fc_280.1 11 (by decide) (by decide)) (fc_280.1 12 (by decide) (by decide)) (fc_280.1 17 (by decide) (by decide)) (fc_280.1 18 (by decide) (by decide)) (fc_280.2 20 (by decide)) (fc_280.2 21 (by decide)) (fc_280.2 28 (by decide)) (fc_280.2 64 (by decide)) (fc_280.2 65 (by decide)) (fc_280.2 68 (by decide)))
          refine lv_pop2_2 hx hb dL_law_868 rfl ?_
          refine lv_goto (tgt := 1851) hx hb dL_law_869 (by decide) ?_
          obtain ⟨x_282, ex_282⟩ : ∃ zz : Int32, zz = (nI (6 * j)) + 6 := ⟨_, rfl⟩
          refine lv_iinc (v := x_282) (lv' := [(4, .int x_282), (3, .ref lo), (2, .ref (am 0)), (1, .ref (ad 0)), (0, .ref b)]) hx hb dL_law_1851 hl (k := 0) rfl (by rw [ex_282]; rfl) (by decide) rfl (fun ls hl => ?_)
          refine lv_goto (tgt := 23) hx hb dL_law_1854 (by decide) ?_
          have hl := lv_sub hl [0, 1, 2, 3, 4] rfl
          rw [ex_282, nI_6] at hl
          exact ih (j + 1) σz_269 τz_276 f _ _ _ _ _ _ (by omega) (by omega) hI_272 hI_279 dp_281 (by omega) (by omega) hd0 hPX hDX hPM hDM hPO hDO hS hl
        · exact absurd c_267 c_274
      · refine lv_iconst (v := 1) hx hb dL_law_829 (by decide) ?_
        refine lv_goto (tgt := 834) hx hb dL_law_830 (by decide) ?_
        have hF := gFree hDX hS hA
        refine va_calllD hd0 (va_runV_D (As := [.int (xs ((nI (6 * j)) + 1).toNatClampNeg), .int (xs ((nI (6 * j)) + 2).toNatClampNeg), .int 1]) (rest := []) ⟨hx, hb, hml, hown, hts⟩ (n_X11_coupon l dC dI ad cA adK adV H.size σ hIX (xs ((nI (6 * j)) + 1).toNatClampNeg) (xs ((nI (6 * j)) + 2).toNatClampNeg) 1 ) (cwV 3 hts gL0_X11_coupon rfl rfl rfl (by decide +kernel) ⟨Nat.le_of_ble_eq_true rfl, Nat.le_of_ble_eq_true rfl⟩) ⟨gBlind, va_recv hKX hPX (ci := 10) (q0 := 0) rfl (at_10 rfl), gStart (As := [.ref (ad 0), .int (xs ((nI (6 * j)) + 1).toNatClampNeg), .int (xs ((nI (6 * j)) + 2).toNatClampNeg), .int 1]) hPX hDX hKX0 hT hS hF (d)⟩ rfl rfl hl.1 rfl (lv_room (Nat.le_of_ble_eq_true rfl)) dL_law_834 ⟨by omega, by omega⟩) hS (fun q _ h => hF q h) hF (fun r_283 σz_284 t H1 locs ht hvm hw hB hz1 hk1 hS d_285 hd0 => ?_)
        have hts := dr_words hts0 (d_285)
        have hKX := gKd hKX0 (d_285)
        have hKM := gKd hKM0 (d_285)
        have hown : (s.setDrawn (d_285)).vm.findClass RL = some m.cls := hown0
        have hX : va_X b L xs (s.setDrawn (d_285)) s.heap := hX0
        obtain ⟨hPX, hDX⟩ := gBack hF ht hB
        obtain ⟨hI_287, fc_288, hp_286⟩ := hw
        have hPM := gOther hPM hk1 (dj_G dj)
        have hPO := gOther hPO hk1 (dj_1 djX)
        generalize H1 = H at hPX hPM hPO hS ⊢
        refine lv_pop2_2 hx hb dL_law_837 rfl ?_
        refine lv_aload_n hx hb dL_law_838 rfl (lv_at hl 2 rfl) ?_
        refine lv_aload_n hx hb dL_law_839 rfl (lv_at hl 4 rfl) ?_
        refine lv_iload hx hb dL_law_840 (lv_at hl 0 rfl) ?_
        refine lv_iconst (v := 1) hx hb dL_law_842 (by decide) ?_
        refine lv_iadd hx hb dL_law_843 ?_
        refine va_sld hx hb hX hbl hbA hS (lw_ix (k := 1) hL hin (by decide) (by decide)) dL_law_844 ?_
        refine lv_aload_n hx hb dL_law_845 rfl (lv_at hl 4 rfl) ?_
        refine lv_iload hx hb dL_law_846 (lv_at hl 0 rfl) ?_
        refine lv_iconst (v := 2) hx hb dL_law_848 (by decide) ?_
        refine lv_iadd hx hb dL_law_849 ?_
        refine va_sld hx hb hX hbl hbA hS (lw_ix (k := 2) hL hin (by decide) (by decide)) dL_law_850 ?_
        refine lv_aload_n hx hb dL_law_851 rfl (lv_at hl 4 rfl) ?_
        refine lv_iload hx hb dL_law_852 (lv_at hl 0 rfl) ?_
        refine lv_iconst (v := 3) hx hb dL_law_854 (by decide) ?_
        refine lv_iadd hx hb dL_law_855 ?_
        refine va_sld hx hb hX hbl hbA hS (lw_ix (k := 3) hL hin (by decide) (by decide)) dL_law_856 ?_
        refine lv_if_eq (tgt := 864) hx hb dL_law_857 (by decide) (fun c_289 => ?_) (fun c_289 => ?_)
        · exact absurd c_289 c_267
        · refine lv_iconst (v := 1) hx hb dL_law_860 (by decide) ?_
          refine lv_goto (tgt := 865) hx hb dL_law_861 (by decide) ?_
          have hF := gFree hDM hS hA
          refine va_calllD hd0 (va_runV_D (As := [.int (xs ((nI (6 * j)) + 1).toNatClampNeg), .int (xs ((nI (6 * j)) + 2).toNatClampNeg), .int 1]) (rest := []) ⟨hx, hb, hml, hown, hts⟩ (n_X12_coupon l dC dI am cM adK adV H.size τ hIM (xs ((nI (6 * j)) + 1).toNatClampNeg) (xs ((nI (6 * j)) + 2).toNatClampNeg) 1 hDp) (cwV 3 hts gL0_X12_coupon rfl rfl rfl (by decide +kernel) ⟨Nat.le_of_ble_eq_true rfl, Nat.le_of_ble_eq_true rfl⟩) ⟨gBlind, va_recv hKM hPM (ci := 11) (q0 := 0) rfl (mat_11 rfl), gStart (As := [.ref (am 0), .int (xs ((nI (6 * j)) + 1).toNatClampNeg), .int (xs ((nI (6 * j)) + 2).toNatClampNeg), .int 1]) hPM hDM hKM0 hT hS hF (d_285)⟩ rfl rfl hl.1 rfl (lv_room (Nat.le_of_ble_eq_true rfl)) dL_law_865 ⟨by omega, by omega⟩) hS (fun q _ h => hF q h) hF (fun r_290 τz_291 t H1 locs ht hvm hw hB hz1 hk1 hS d_292 hd0 => ?_)
          have hts := dr_words hts0 (d_292)
          have hKX := gKd hKX0 (d_292)
          have hKM := gKd hKM0 (d_292)
          have hown : (s.setDrawn (d_292)).vm.findClass RL = some m.cls := hown0
          have hX : va_X b L xs (s.setDrawn (d_292)) s.heap := hX0
          obtain ⟨hPM, hDM⟩ := gBack hF ht hB
          obtain ⟨hI_294, fc_295, hp_293⟩ := hw
          have hPX := gOther hPX hk1 (dj_sym (dj_G dj))
          have hPO := gOther hPO hk1 (dj_1 djM)
          generalize H1 = H at hPX hPM hPO hS ⊢
          have dp_296 : Deep τz_291 := (Deep.fr hDp (fc_295.1 2 (by decide) (by decide)) (fc_295.1 4 (by decide) (by decide)) (fc_295.1 9 (by decide) (by decide)) (fc_295.1 11 (by decide) (by decide)) (fc_295.1 12 (by decide) (by decide)) (fc_295.1 17 (by decide) (by decide)) (fc_295.1 18 (by decide) (by decide)) (fc_295.2 20 (by decide)) (fc_295.2 21 (by decide)) (fc_295.2 28 (by decide)) (fc_295.2 64 (by decide)) (fc_295.2 65 (by decide)) (fc_295.2 68 (by decide)))
          refine lv_pop2_2 hx hb dL_law_868 rfl ?_
          refine lv_goto (tgt := 1851) hx hb dL_law_869 (by decide) ?_
          obtain ⟨x_297, ex_297⟩ : ∃ zz : Int32, zz = (nI (6 * j)) + 6 := ⟨_, rfl⟩
          refine lv_iinc (v := x_297) (lv' := [(4, .int x_297), (3, .ref lo), (2, .ref (am 0)), (1, .ref (ad 0)), (0, .ref b)]) hx hb dL_law_1851 hl (k := 0) rfl (by rw [ex_297]; rfl) (by decide) rfl (fun ls hl => ?_)
          refine lv_goto (tgt := 23) hx hb dL_law_1854 (by decide) ?_
          have hl := lv_sub hl [0, 1, 2, 3, 4] rfl
          rw [ex_297, nI_6] at hl
          exact ih (j + 1) σz_284 τz_291 f _ _ _ _ _ _ (by omega) (by omega) hI_287 hI_294 dp_296 (by omega) (by omega) hd0 hPX hDX hPM hDM hPO hDO hS hl
    by_cases c_298 : ((xs (nI (6 * j)).toNatClampNeg) &&& 63) = 15
    · refine lv_tableIn (tgt := 872) hx hb dL_law_40 (by rw [c_298]; decide) (by rw [c_298]; decide) (by rw [c_298]; rfl) (by decide) ?_
      refine lv_aload_n hx hb dL_law_872 rfl (lv_at hl 3 rfl) ?_
      refine lv_aload_n hx hb dL_law_873 rfl (lv_at hl 4 rfl) ?_
      refine lv_iload hx hb dL_law_874 (lv_at hl 0 rfl) ?_
      refine lv_iconst (v := 1) hx hb dL_law_876 (by decide) ?_
      refine lv_iadd hx hb dL_law_877 ?_
      refine va_sld hx hb hX hbl hbA hS (lw_ix (k := 1) hL hin (by decide) (by decide)) dL_law_878 ?_
      refine lv_aload_n hx hb dL_law_879 rfl (lv_at hl 4 rfl) ?_
      refine lv_iload hx hb dL_law_880 (lv_at hl 0 rfl) ?_
      refine lv_iconst (v := 2) hx hb dL_law_882 (by decide) ?_
      refine lv_iadd hx hb dL_law_883 ?_
      refine va_sld hx hb hX hbl hbA hS (lw_ix (k := 2) hL hin (by decide) (by decide)) dL_law_884 ?_
      have hF := gFree hDX hS hA
      refine va_calliD hd0 (va_runV_D (As := [.int (xs ((nI (6 * j)) + 1).toNatClampNeg), .int (xs ((nI (6 * j)) + 2).toNatClampNeg)]) (rest := []) ⟨hx, hb, hml, hown, hts⟩ (n_X11_line l dC dI ad cA adK adV H.size σ hIX (xs ((nI (6 * j)) + 1).toNatClampNeg) (xs ((nI (6 * j)) + 2).toNatClampNeg) ) (cwV 2 hts gL0_X11_line rfl rfl rfl (by decide +kernel) ⟨Nat.le_of_ble_eq_true rfl, Nat.le_of_ble_eq_true rfl⟩) ⟨gBlind, va_recv hKX hPX (ci := 10) (q0 := 0) rfl (at_10 rfl), gStart (As := [.ref (ad 0), .int (xs ((nI (6 * j)) + 1).toNatClampNeg), .int (xs ((nI (6 * j)) + 2).toNatClampNeg)]) hPX hDX hKX0 hT hS hF (d)⟩ rfl rfl hl.1 rfl (lv_room (Nat.le_of_ble_eq_true rfl)) dL_law_885 ⟨by omega, by omega⟩) hS (fun q _ h => hF q h) hF (fun r_299 σz_300 t H1 locs ht hvm hw hB hz1 hk1 hS d_301 hd0 => ?_)
      have hts := dr_words hts0 (d_301)
      have hKX := gKd hKX0 (d_301)
      have hKM := gKd hKM0 (d_301)
      have hown : (s.setDrawn (d_301)).vm.findClass RL = some m.cls := hown0
      have hX : va_X b L xs (s.setDrawn (d_301)) s.heap := hX0
      obtain ⟨hPX, hDX⟩ := gBack hF ht hB
      obtain ⟨hI_303, fc_304, hp_302⟩ := hw
      have hPM := gOther hPM hk1 (dj_G dj)
      have hPO := gOther hPO hk1 (dj_1 djX)
      generalize H1 = H at hPX hPM hPO hS ⊢
      refine lv_pop hx hb dL_law_888 rfl ?_
      refine lv_aload_n hx hb dL_law_889 rfl (lv_at hl 2 rfl) ?_
      refine lv_aload_n hx hb dL_law_890 rfl (lv_at hl 4 rfl) ?_
      refine lv_iload hx hb dL_law_891 (lv_at hl 0 rfl) ?_
      refine lv_iconst (v := 1) hx hb dL_law_893 (by decide) ?_
      refine lv_iadd hx hb dL_law_894 ?_
      refine va_sld hx hb hX hbl hbA hS (lw_ix (k := 1) hL hin (by decide) (by decide)) dL_law_895 ?_
      refine lv_aload_n hx hb dL_law_896 rfl (lv_at hl 4 rfl) ?_
      refine lv_iload hx hb dL_law_897 (lv_at hl 0 rfl) ?_
      refine lv_iconst (v := 2) hx hb dL_law_899 (by decide) ?_
      refine lv_iadd hx hb dL_law_900 ?_
      refine va_sld hx hb hX hbl hbA hS (lw_ix (k := 2) hL hin (by decide) (by decide)) dL_law_901 ?_
      have hF := gFree hDM hS hA
      refine va_calliD hd0 (va_runV_D (As := [.int (xs ((nI (6 * j)) + 1).toNatClampNeg), .int (xs ((nI (6 * j)) + 2).toNatClampNeg)]) (rest := []) ⟨hx, hb, hml, hown, hts⟩ (n_X12_line l dC dI am cM adK adV H.size τ hIM (xs ((nI (6 * j)) + 1).toNatClampNeg) (xs ((nI (6 * j)) + 2).toNatClampNeg) hDp) (cwV 2 hts gL0_X12_line rfl rfl rfl (by decide +kernel) ⟨Nat.le_of_ble_eq_true rfl, Nat.le_of_ble_eq_true rfl⟩) ⟨gBlind, va_recv hKM hPM (ci := 11) (q0 := 0) rfl (mat_11 rfl), gStart (As := [.ref (am 0), .int (xs ((nI (6 * j)) + 1).toNatClampNeg), .int (xs ((nI (6 * j)) + 2).toNatClampNeg)]) hPM hDM hKM0 hT hS hF (d_301)⟩ rfl rfl hl.1 rfl (lv_room (Nat.le_of_ble_eq_true rfl)) dL_law_902 ⟨by omega, by omega⟩) hS (fun q _ h => hF q h) hF (fun r_305 τz_306 t H1 locs ht hvm hw hB hz1 hk1 hS d_307 hd0 => ?_)
      have hts := dr_words hts0 (d_307)
      have hKX := gKd hKX0 (d_307)
      have hKM := gKd hKM0 (d_307)
      have hown : (s.setDrawn (d_307)).vm.findClass RL = some m.cls := hown0
      have hX : va_X b L xs (s.setDrawn (d_307)) s.heap := hX0
      obtain ⟨hPM, hDM⟩ := gBack hF ht hB
      obtain ⟨hI_309, fc_310, hp_308⟩ := hw
      have hPX := gOther hPX hk1 (dj_sym (dj_G dj))
      have hPO := gOther hPO hk1 (dj_1 djM)
      generalize H1 = H at hPX hPM hPO hS ⊢
      have dp_311 : Deep τz_306 := (Deep.fr hDp (fc_310.1 2 (by decide) (by decide)) (fc_310.1 4 (by decide) (by decide)) (fc_310.1 9 (by decide) (by decide)) (fc_310.1 11 (by decide) (by decide)) (fc_310.1 12 (by decide) (by decide)) (fc_310.1 17 (by decide) (by decide)) (fc_310.1 18 (by decide) (by decide)) (fc_310.2 20 (by decide)) (fc_310.2 21 (by decide)) (fc_310.2 28 (by decide)) (fc_310.2 64 (by decide)) (fc_310.2 65 (by decide)) (fc_310.2 68 (by decide)))
      refine lv_pop hx hb dL_law_905 rfl ?_
      refine lv_goto (tgt := 1851) hx hb dL_law_906 (by decide) ?_
      obtain ⟨x_312, ex_312⟩ : ∃ zz : Int32, zz = (nI (6 * j)) + 6 := ⟨_, rfl⟩
      refine lv_iinc (v := x_312) (lv' := [(4, .int x_312), (3, .ref lo), (2, .ref (am 0)), (1, .ref (ad 0)), (0, .ref b)]) hx hb dL_law_1851 hl (k := 0) rfl (by rw [ex_312]; rfl) (by decide) rfl (fun ls hl => ?_)
      refine lv_goto (tgt := 23) hx hb dL_law_1854 (by decide) ?_
      have hl := lv_sub hl [0, 1, 2, 3, 4] rfl
      rw [ex_312, nI_6] at hl
      exact ih (j + 1) σz_300 τz_306 f _ _ _ _ _ _ (by omega) (by omega) hI_303 hI_309 dp_311 (by omega) (by omega) hd0 hPX hDX hPM hDM hPO hDO hS hl
    by_cases c_313 : ((xs (nI (6 * j)).toNatClampNeg) &&& 63) = 16
    · refine lv_tableIn (tgt := 909) hx hb dL_law_40 (by rw [c_313]; decide) (by rw [c_313]; decide) (by rw [c_313]; rfl) (by decide) ?_
      refine lv_aload_n hx hb dL_law_909 rfl (lv_at hl 3 rfl) ?_
      refine lv_aload_n hx hb dL_law_910 rfl (lv_at hl 4 rfl) ?_
      refine lv_iload hx hb dL_law_911 (lv_at hl 0 rfl) ?_
      refine lv_iconst (v := 1) hx hb dL_law_913 (by decide) ?_
      refine lv_iadd hx hb dL_law_914 ?_
      refine va_sld hx hb hX hbl hbA hS (lw_ix (k := 1) hL hin (by decide) (by decide)) dL_law_915 ?_
      refine lv_aload_n hx hb dL_law_916 rfl (lv_at hl 4 rfl) ?_
      refine lv_iload hx hb dL_law_917 (lv_at hl 0 rfl) ?_
      refine lv_iconst (v := 2) hx hb dL_law_919 (by decide) ?_
      refine lv_iadd hx hb dL_law_920 ?_
      refine va_sld hx hb hX hbl hbA hS (lw_ix (k := 2) hL hin (by decide) (by decide)) dL_law_921 ?_
      refine lv_aload_n hx hb dL_law_922 rfl (lv_at hl 4 rfl) ?_
      refine lv_iload hx hb dL_law_923 (lv_at hl 0 rfl) ?_
      refine lv_iconst (v := 3) hx hb dL_law_925 (by decide) ?_
      refine lv_iadd hx hb dL_law_926 ?_
      refine va_sld hx hb hX hbl hbA hS (lw_ix (k := 3) hL hin (by decide) (by decide)) dL_law_927 ?_
      have hF := gFree hDX hS hA
      refine va_calliD hd0 (va_runV_D (As := [.int (xs ((nI (6 * j)) + 1).toNatClampNeg), .int (xs ((nI (6 * j)) + 2).toNatClampNeg), .int (xs ((nI (6 * j)) + 3).toNatClampNeg)]) (rest := []) ⟨hx, hb, hml, hown, hts⟩ (n_X11_sign l dC dI ad cA adK adV H.size σ hIX (xs ((nI (6 * j)) + 1).toNatClampNeg) (xs ((nI (6 * j)) + 2).toNatClampNeg) (xs ((nI (6 * j)) + 3).toNatClampNeg) ) (cwV 3 hts gL0_X11_sign rfl rfl rfl (by decide +kernel) ⟨Nat.le_of_ble_eq_true rfl, Nat.le_of_ble_eq_true rfl⟩) ⟨gBlind, va_recv hKX hPX (ci := 10) (q0 := 0) rfl (at_10 rfl), gStart (As := [.ref (ad 0), .int (xs ((nI (6 * j)) + 1).toNatClampNeg), .int (xs ((nI (6 * j)) + 2).toNatClampNeg), .int (xs ((nI (6 * j)) + 3).toNatClampNeg)]) hPX hDX hKX0 hT hS hF (d)⟩ rfl rfl hl.1 rfl (lv_room (Nat.le_of_ble_eq_true rfl)) dL_law_928 ⟨by omega, by omega⟩) hS (fun q _ h => hF q h) hF (fun r_314 σz_315 t H1 locs ht hvm hw hB hz1 hk1 hS d_316 hd0 => ?_)
      have hts := dr_words hts0 (d_316)
      have hKX := gKd hKX0 (d_316)
      have hKM := gKd hKM0 (d_316)
      have hown : (s.setDrawn (d_316)).vm.findClass RL = some m.cls := hown0
      have hX : va_X b L xs (s.setDrawn (d_316)) s.heap := hX0
      obtain ⟨hPX, hDX⟩ := gBack hF ht hB
      obtain ⟨hI_318, fc_319, hp_317⟩ := hw
      have hPM := gOther hPM hk1 (dj_G dj)
      have hPO := gOther hPO hk1 (dj_1 djX)
      generalize H1 = H at hPX hPM hPO hS ⊢
      refine lv_pop hx hb dL_law_931 rfl ?_
      refine lv_aload_n hx hb dL_law_932 rfl (lv_at hl 2 rfl) ?_
      refine lv_aload_n hx hb dL_law_933 rfl (lv_at hl 4 rfl) ?_
      refine lv_iload hx hb dL_law_934 (lv_at hl 0 rfl) ?_
      refine lv_iconst (v := 1) hx hb dL_law_936 (by decide) ?_
      refine lv_iadd hx hb dL_law_937 ?_
      refine va_sld hx hb hX hbl hbA hS (lw_ix (k := 1) hL hin (by decide) (by decide)) dL_law_938 ?_
      refine lv_aload_n hx hb dL_law_939 rfl (lv_at hl 4 rfl) ?_
      refine lv_iload hx hb dL_law_940 (lv_at hl 0 rfl) ?_
      refine lv_iconst (v := 2) hx hb dL_law_942 (by decide) ?_
      refine lv_iadd hx hb dL_law_943 ?_
      refine va_sld hx hb hX hbl hbA hS (lw_ix (k := 2) hL hin (by decide) (by decide)) dL_law_944 ?_
      refine lv_aload_n hx hb dL_law_945 rfl (lv_at hl 4 rfl) ?_
      refine lv_iload hx hb dL_law_946 (lv_at hl 0 rfl) ?_
      refine lv_iconst (v := 3) hx hb dL_law_948 (by decide) ?_
      refine lv_iadd hx hb dL_law_949 ?_
      refine va_sld hx hb hX hbl hbA hS (lw_ix (k := 3) hL hin (by decide) (by decide)) dL_law_950 ?_
      have hF := gFree hDM hS hA
      refine va_calliD hd0 (va_runV_D (As := [.int (xs ((nI (6 * j)) + 1).toNatClampNeg), .int (xs ((nI (6 * j)) + 2).toNatClampNeg), .int (xs ((nI (6 * j)) + 3).toNatClampNeg)]) (rest := []) ⟨hx, hb, hml, hown, hts⟩ (n_X12_sign l dC dI am cM adK adV H.size τ hIM (xs ((nI (6 * j)) + 1).toNatClampNeg) (xs ((nI (6 * j)) + 2).toNatClampNeg) (xs ((nI (6 * j)) + 3).toNatClampNeg) hDp) (cwV 3 hts gL0_X12_sign rfl rfl rfl (by decide +kernel) ⟨Nat.le_of_ble_eq_true rfl, Nat.le_of_ble_eq_true rfl⟩) ⟨gBlind, va_recv hKM hPM (ci := 11) (q0 := 0) rfl (mat_11 rfl), gStart (As := [.ref (am 0), .int (xs ((nI (6 * j)) + 1).toNatClampNeg), .int (xs ((nI (6 * j)) + 2).toNatClampNeg), .int (xs ((nI (6 * j)) + 3).toNatClampNeg)]) hPM hDM hKM0 hT hS hF (d_316)⟩ rfl rfl hl.1 rfl (lv_room (Nat.le_of_ble_eq_true rfl)) dL_law_951 ⟨by omega, by omega⟩) hS (fun q _ h => hF q h) hF (fun r_320 τz_321 t H1 locs ht hvm hw hB hz1 hk1 hS d_322 hd0 => ?_)
      have hts := dr_words hts0 (d_322)
      have hKX := gKd hKX0 (d_322)
      have hKM := gKd hKM0 (d_322)
      have hown : (s.setDrawn (d_322)).vm.findClass RL = some m.cls := hown0
      have hX : va_X b L xs (s.setDrawn (d_322)) s.heap := hX0
      obtain ⟨hPM, hDM⟩ := gBack hF ht hB
      obtain ⟨hI_324, fc_325, hp_323⟩ := hw
      have hPX := gOther hPX hk1 (dj_sym (dj_G dj))
      have hPO := gOther hPO hk1 (dj_1 djM)
      generalize H1 = H at hPX hPM hPO hS ⊢
      have dp_326 : Deep τz_321 := (Deep.fr hDp (fc_325.1 2 (by decide) (by decide)) (fc_325.1 4 (by decide) (by decide)) (fc_325.1 9 (by decide) (by decide)) (fc_325.1 11 (by decide) (by decide)) (fc_325.1 12 (by decide) (by decide)) (fc_325.1 17 (by decide) (by decide)) (fc_325.1 18 (by decide) (by decide)) (fc_325.2 20 (by decide)) (fc_325.2 21 (by decide)) (fc_325.2 28 (by decide)) (fc_325.2 64 (by decide)) (fc_325.2 65 (by decide)) (fc_325.2 68 (by decide)))
      refine lv_pop hx hb dL_law_954 rfl ?_
      refine lv_goto (tgt := 1851) hx hb dL_law_955 (by decide) ?_
      obtain ⟨x_327, ex_327⟩ : ∃ zz : Int32, zz = (nI (6 * j)) + 6 := ⟨_, rfl⟩
      refine lv_iinc (v := x_327) (lv' := [(4, .int x_327), (3, .ref lo), (2, .ref (am 0)), (1, .ref (ad 0)), (0, .ref b)]) hx hb dL_law_1851 hl (k := 0) rfl (by rw [ex_327]; rfl) (by decide) rfl (fun ls hl => ?_)
      refine lv_goto (tgt := 23) hx hb dL_law_1854 (by decide) ?_
      have hl := lv_sub hl [0, 1, 2, 3, 4] rfl
      rw [ex_327, nI_6] at hl
      exact ih (j + 1) σz_315 τz_321 f _ _ _ _ _ _ (by omega) (by omega) hI_318 hI_324 dp_326 (by omega) (by omega) hd0 hPX hDX hPM hDM hPO hDO hS hl
    by_cases c_328 : ((xs (nI (6 * j)).toNatClampNeg) &&& 63) = 17
    · refine lv_tableIn (tgt := 958) hx hb dL_law_40 (by rw [c_328]; decide) (by rw [c_328]; decide) (by rw [c_328]; rfl) (by decide) ?_
      refine lv_aload_n hx hb dL_law_958 rfl (lv_at hl 3 rfl) ?_
      refine lv_aload_n hx hb dL_law_959 rfl (lv_at hl 4 rfl) ?_
      refine lv_iload hx hb dL_law_960 (lv_at hl 0 rfl) ?_
      refine lv_iconst (v := 1) hx hb dL_law_962 (by decide) ?_
      refine lv_iadd hx hb dL_law_963 ?_
      refine va_sld hx hb hX hbl hbA hS (lw_ix (k := 1) hL hin (by decide) (by decide)) dL_law_964 ?_
      refine lv_aload_n hx hb dL_law_965 rfl (lv_at hl 4 rfl) ?_
      refine lv_iload hx hb dL_law_966 (lv_at hl 0 rfl) ?_
      refine lv_iconst (v := 2) hx hb dL_law_968 (by decide) ?_
      refine lv_iadd hx hb dL_law_969 ?_
      refine va_sld hx hb hX hbl hbA hS (lw_ix (k := 2) hL hin (by decide) (by decide)) dL_law_970 ?_
      have hF := gFree hDX hS hA
      refine va_calliD hd0 (va_runV_D (As := [.int (xs ((nI (6 * j)) + 1).toNatClampNeg), .int (xs ((nI (6 * j)) + 2).toNatClampNeg)]) (rest := []) ⟨hx, hb, hml, hown, hts⟩ (n_X11_current l dC dI ad cA adK adV H.size σ hIX (xs ((nI (6 * j)) + 1).toNatClampNeg) (xs ((nI (6 * j)) + 2).toNatClampNeg) ) (cwV 2 hts gL0_X11_current rfl rfl rfl (by decide +kernel) ⟨Nat.le_of_ble_eq_true rfl, Nat.le_of_ble_eq_true rfl⟩) ⟨gBlind, va_recv hKX hPX (ci := 10) (q0 := 0) rfl (at_10 rfl), gStart (As := [.ref (ad 0), .int (xs ((nI (6 * j)) + 1).toNatClampNeg), .int (xs ((nI (6 * j)) + 2).toNatClampNeg)]) hPX hDX hKX0 hT hS hF (d)⟩ rfl rfl hl.1 rfl (lv_room (Nat.le_of_ble_eq_true rfl)) dL_law_971 ⟨by omega, by omega⟩) hS (fun q _ h => hF q h) hF (fun r_329 σz_330 t H1 locs ht hvm hw hB hz1 hk1 hS d_331 hd0 => ?_)
      have hts := dr_words hts0 (d_331)
      have hKX := gKd hKX0 (d_331)
      have hKM := gKd hKM0 (d_331)
      have hown : (s.setDrawn (d_331)).vm.findClass RL = some m.cls := hown0
      have hX : va_X b L xs (s.setDrawn (d_331)) s.heap := hX0
      obtain ⟨hPX, hDX⟩ := gBack hF ht hB
      obtain ⟨hI_333, fc_334, hp_332⟩ := hw
      have hPM := gOther hPM hk1 (dj_G dj)
      have hPO := gOther hPO hk1 (dj_1 djX)
      generalize H1 = H at hPX hPM hPO hS ⊢
      refine lv_pop hx hb dL_law_974 rfl ?_
      refine lv_aload_n hx hb dL_law_975 rfl (lv_at hl 2 rfl) ?_
      refine lv_aload_n hx hb dL_law_976 rfl (lv_at hl 4 rfl) ?_
      refine lv_iload hx hb dL_law_977 (lv_at hl 0 rfl) ?_
      refine lv_iconst (v := 1) hx hb dL_law_979 (by decide) ?_
      refine lv_iadd hx hb dL_law_980 ?_
      refine va_sld hx hb hX hbl hbA hS (lw_ix (k := 1) hL hin (by decide) (by decide)) dL_law_981 ?_
      refine lv_aload_n hx hb dL_law_982 rfl (lv_at hl 4 rfl) ?_
      refine lv_iload hx hb dL_law_983 (lv_at hl 0 rfl) ?_
      refine lv_iconst (v := 2) hx hb dL_law_985 (by decide) ?_
      refine lv_iadd hx hb dL_law_986 ?_
      refine va_sld hx hb hX hbl hbA hS (lw_ix (k := 2) hL hin (by decide) (by decide)) dL_law_987 ?_
      have hF := gFree hDM hS hA
      refine va_calliD hd0 (va_runV_D (As := [.int (xs ((nI (6 * j)) + 1).toNatClampNeg), .int (xs ((nI (6 * j)) + 2).toNatClampNeg)]) (rest := []) ⟨hx, hb, hml, hown, hts⟩ (n_X12_current l dC dI am cM adK adV H.size τ hIM (xs ((nI (6 * j)) + 1).toNatClampNeg) (xs ((nI (6 * j)) + 2).toNatClampNeg) hDp) (cwV 2 hts gL0_X12_current rfl rfl rfl (by decide +kernel) ⟨Nat.le_of_ble_eq_true rfl, Nat.le_of_ble_eq_true rfl⟩) ⟨gBlind, va_recv hKM hPM (ci := 11) (q0 := 0) rfl (mat_11 rfl), gStart (As := [.ref (am 0), .int (xs ((nI (6 * j)) + 1).toNatClampNeg), .int (xs ((nI (6 * j)) + 2).toNatClampNeg)]) hPM hDM hKM0 hT hS hF (d_331)⟩ rfl rfl hl.1 rfl (lv_room (Nat.le_of_ble_eq_true rfl)) dL_law_988 ⟨by omega, by omega⟩) hS (fun q _ h => hF q h) hF (fun r_335 τz_336 t H1 locs ht hvm hw hB hz1 hk1 hS d_337 hd0 => ?_)
      have hts := dr_words hts0 (d_337)
      have hKX := gKd hKX0 (d_337)
      have hKM := gKd hKM0 (d_337)
      have hown : (s.setDrawn (d_337)).vm.findClass RL = some m.cls := hown0
      have hX : va_X b L xs (s.setDrawn (d_337)) s.heap := hX0
      obtain ⟨hPM, hDM⟩ := gBack hF ht hB
      obtain ⟨hI_339, fc_340, hp_338⟩ := hw
      have hPX := gOther hPX hk1 (dj_sym (dj_G dj))
      have hPO := gOther hPO hk1 (dj_1 djM)
      generalize H1 = H at hPX hPM hPO hS ⊢
      have dp_341 : Deep τz_336 := (Deep.fr hDp (fc_340.1 2 (by decide) (by decide)) (fc_340.1 4 (by decide) (by decide)) (fc_340.1 9 (by decide) (by decide)) (fc_340.1 11 (by decide) (by decide)) (fc_340.1 12 (by decide) (by decide)) (fc_340.1 17 (by decide) (by decide)) (fc_340.1 18 (by decide) (by decide)) (fc_340.2 20 (by decide)) (fc_340.2 21 (by decide)) (fc_340.2 28 (by decide)) (fc_340.2 64 (by decide)) (fc_340.2 65 (by decide)) (fc_340.2 68 (by decide)))
      refine lv_pop hx hb dL_law_991 rfl ?_
      refine lv_goto (tgt := 1851) hx hb dL_law_992 (by decide) ?_
      obtain ⟨x_342, ex_342⟩ : ∃ zz : Int32, zz = (nI (6 * j)) + 6 := ⟨_, rfl⟩
      refine lv_iinc (v := x_342) (lv' := [(4, .int x_342), (3, .ref lo), (2, .ref (am 0)), (1, .ref (ad 0)), (0, .ref b)]) hx hb dL_law_1851 hl (k := 0) rfl (by rw [ex_342]; rfl) (by decide) rfl (fun ls hl => ?_)
      refine lv_goto (tgt := 23) hx hb dL_law_1854 (by decide) ?_
      have hl := lv_sub hl [0, 1, 2, 3, 4] rfl
      rw [ex_342, nI_6] at hl
      exact ih (j + 1) σz_330 τz_336 f _ _ _ _ _ _ (by omega) (by omega) hI_333 hI_339 dp_341 (by omega) (by omega) hd0 hPX hDX hPM hDM hPO hDO hS hl
    by_cases c_343 : ((xs (nI (6 * j)).toNatClampNeg) &&& 63) = 18
    · refine lv_tableIn (tgt := 995) hx hb dL_law_40 (by rw [c_343]; decide) (by rw [c_343]; decide) (by rw [c_343]; rfl) (by decide) ?_
      refine lv_aload_n hx hb dL_law_995 rfl (lv_at hl 3 rfl) ?_
      refine lv_aload_n hx hb dL_law_996 rfl (lv_at hl 4 rfl) ?_
      refine lv_iload hx hb dL_law_997 (lv_at hl 0 rfl) ?_
      refine lv_iconst (v := 1) hx hb dL_law_999 (by decide) ?_
      refine lv_iadd hx hb dL_law_1000 ?_
      refine va_sld hx hb hX hbl hbA hS (lw_ix (k := 1) hL hin (by decide) (by decide)) dL_law_1001 ?_
      refine lv_aload_n hx hb dL_law_1002 rfl (lv_at hl 4 rfl) ?_
      refine lv_iload hx hb dL_law_1003 (lv_at hl 0 rfl) ?_
      refine lv_iconst (v := 2) hx hb dL_law_1005 (by decide) ?_
      refine lv_iadd hx hb dL_law_1006 ?_
      refine va_sld hx hb hX hbl hbA hS (lw_ix (k := 2) hL hin (by decide) (by decide)) dL_law_1007 ?_
      have hF := gFree hDX hS hA
      refine va_calliD hd0 (va_runV_D (As := [.int (xs ((nI (6 * j)) + 1).toNatClampNeg), .int (xs ((nI (6 * j)) + 2).toNatClampNeg)]) (rest := []) ⟨hx, hb, hml, hown, hts⟩ (n_X11_isEx l dC dI ad cA adK adV H.size σ hIX (xs ((nI (6 * j)) + 1).toNatClampNeg) (xs ((nI (6 * j)) + 2).toNatClampNeg) ) (cwV 2 hts gL0_X11_isEx rfl rfl rfl (by decide +kernel) ⟨Nat.le_of_ble_eq_true rfl, Nat.le_of_ble_eq_true rfl⟩) ⟨gBlind, va_recv hKX hPX (ci := 10) (q0 := 0) rfl (at_10 rfl), gStart (As := [.ref (ad 0), .int (xs ((nI (6 * j)) + 1).toNatClampNeg), .int (xs ((nI (6 * j)) + 2).toNatClampNeg)]) hPX hDX hKX0 hT hS hF (d)⟩ rfl rfl hl.1 rfl (lv_room (Nat.le_of_ble_eq_true rfl)) dL_law_1008 ⟨by omega, by omega⟩) hS (fun q _ h => hF q h) hF (fun r_344 σz_345 t H1 locs ht hvm hw hB hz1 hk1 hS d_346 hd0 => ?_)
      have hts := dr_words hts0 (d_346)
      have hKX := gKd hKX0 (d_346)
      have hKM := gKd hKM0 (d_346)
      have hown : (s.setDrawn (d_346)).vm.findClass RL = some m.cls := hown0
      have hX : va_X b L xs (s.setDrawn (d_346)) s.heap := hX0
      obtain ⟨hPX, hDX⟩ := gBack hF ht hB
      obtain ⟨hI_348, fc_349, hp_347⟩ := hw
      have hPM := gOther hPM hk1 (dj_G dj)
      have hPO := gOther hPO hk1 (dj_1 djX)
      generalize H1 = H at hPX hPM hPO hS ⊢
      refine lv_pop hx hb dL_law_1011 rfl ?_
      refine lv_aload_n hx hb dL_law_1012 rfl (lv_at hl 2 rfl) ?_
      refine lv_aload_n hx hb dL_law_1013 rfl (lv_at hl 4 rfl) ?_
      refine lv_iload hx hb dL_law_1014 (lv_at hl 0 rfl) ?_
      refine lv_iconst (v := 1) hx hb dL_law_1016 (by decide) ?_
      refine lv_iadd hx hb dL_law_1017 ?_
      refine va_sld hx hb hX hbl hbA hS (lw_ix (k := 1) hL hin (by decide) (by decide)) dL_law_1018 ?_
      refine lv_aload_n hx hb dL_law_1019 rfl (lv_at hl 4 rfl) ?_
      refine lv_iload hx hb dL_law_1020 (lv_at hl 0 rfl) ?_
      refine lv_iconst (v := 2) hx hb dL_law_1022 (by decide) ?_
      refine lv_iadd hx hb dL_law_1023 ?_
      refine va_sld hx hb hX hbl hbA hS (lw_ix (k := 2) hL hin (by decide) (by decide)) dL_law_1024 ?_
      have hF := gFree hDM hS hA
      refine va_calliD hd0 (va_runV_D (As := [.int (xs ((nI (6 * j)) + 1).toNatClampNeg), .int (xs ((nI (6 * j)) + 2).toNatClampNeg)]) (rest := []) ⟨hx, hb, hml, hown, hts⟩ (n_X12_isEx l dC dI am cM adK adV H.size τ hIM (xs ((nI (6 * j)) + 1).toNatClampNeg) (xs ((nI (6 * j)) + 2).toNatClampNeg) hDp) (cwV 2 hts gL0_X12_isEx rfl rfl rfl (by decide +kernel) ⟨Nat.le_of_ble_eq_true rfl, Nat.le_of_ble_eq_true rfl⟩) ⟨gBlind, va_recv hKM hPM (ci := 11) (q0 := 0) rfl (mat_11 rfl), gStart (As := [.ref (am 0), .int (xs ((nI (6 * j)) + 1).toNatClampNeg), .int (xs ((nI (6 * j)) + 2).toNatClampNeg)]) hPM hDM hKM0 hT hS hF (d_346)⟩ rfl rfl hl.1 rfl (lv_room (Nat.le_of_ble_eq_true rfl)) dL_law_1025 ⟨by omega, by omega⟩) hS (fun q _ h => hF q h) hF (fun r_350 τz_351 t H1 locs ht hvm hw hB hz1 hk1 hS d_352 hd0 => ?_)
      have hts := dr_words hts0 (d_352)
      have hKX := gKd hKX0 (d_352)
      have hKM := gKd hKM0 (d_352)
      have hown : (s.setDrawn (d_352)).vm.findClass RL = some m.cls := hown0
      have hX : va_X b L xs (s.setDrawn (d_352)) s.heap := hX0
      obtain ⟨hPM, hDM⟩ := gBack hF ht hB
      obtain ⟨hI_354, fc_355, hp_353⟩ := hw
      have hPX := gOther hPX hk1 (dj_sym (dj_G dj))
      have hPO := gOther hPO hk1 (dj_1 djM)
      generalize H1 = H at hPX hPM hPO hS ⊢
      have dp_356 : Deep τz_351 := (Deep.fr hDp (fc_355.1 2 (by decide) (by decide)) (fc_355.1 4 (by decide) (by decide)) (fc_355.1 9 (by decide) (by decide)) (fc_355.1 11 (by decide) (by decide)) (fc_355.1 12 (by decide) (by decide)) (fc_355.1 17 (by decide) (by decide)) (fc_355.1 18 (by decide) (by decide)) (fc_355.2 20 (by decide)) (fc_355.2 21 (by decide)) (fc_355.2 28 (by decide)) (fc_355.2 64 (by decide)) (fc_355.2 65 (by decide)) (fc_355.2 68 (by decide)))
      refine lv_pop hx hb dL_law_1028 rfl ?_
      refine lv_goto (tgt := 1851) hx hb dL_law_1029 (by decide) ?_
      obtain ⟨x_357, ex_357⟩ : ∃ zz : Int32, zz = (nI (6 * j)) + 6 := ⟨_, rfl⟩
      refine lv_iinc (v := x_357) (lv' := [(4, .int x_357), (3, .ref lo), (2, .ref (am 0)), (1, .ref (ad 0)), (0, .ref b)]) hx hb dL_law_1851 hl (k := 0) rfl (by rw [ex_357]; rfl) (by decide) rfl (fun ls hl => ?_)
      refine lv_goto (tgt := 23) hx hb dL_law_1854 (by decide) ?_
      have hl := lv_sub hl [0, 1, 2, 3, 4] rfl
      rw [ex_357, nI_6] at hl
      exact ih (j + 1) σz_345 τz_351 f _ _ _ _ _ _ (by omega) (by omega) hI_348 hI_354 dp_356 (by omega) (by omega) hd0 hPX hDX hPM hDM hPO hDO hS hl
    by_cases c_358 : ((xs (nI (6 * j)).toNatClampNeg) &&& 63) = 19
    · refine lv_tableIn (tgt := 1032) hx hb dL_law_40 (by rw [c_358]; decide) (by rw [c_358]; decide) (by rw [c_358]; rfl) (by decide) ?_
      refine lv_aload_n hx hb dL_law_1032 rfl (lv_at hl 3 rfl) ?_
      refine lv_aload_n hx hb dL_law_1033 rfl (lv_at hl 4 rfl) ?_
      refine lv_iload hx hb dL_law_1034 (lv_at hl 0 rfl) ?_
      refine lv_iconst (v := 1) hx hb dL_law_1036 (by decide) ?_
      refine lv_iadd hx hb dL_law_1037 ?_
      refine va_sld hx hb hX hbl hbA hS (lw_ix (k := 1) hL hin (by decide) (by decide)) dL_law_1038 ?_
      refine lv_aload_n hx hb dL_law_1039 rfl (lv_at hl 4 rfl) ?_
      refine lv_iload hx hb dL_law_1040 (lv_at hl 0 rfl) ?_
      refine lv_iconst (v := 2) hx hb dL_law_1042 (by decide) ?_
      refine lv_iadd hx hb dL_law_1043 ?_
      refine va_sld hx hb hX hbl hbA hS (lw_ix (k := 2) hL hin (by decide) (by decide)) dL_law_1044 ?_
      refine lv_aload_n hx hb dL_law_1045 rfl (lv_at hl 4 rfl) ?_
      refine lv_iload hx hb dL_law_1046 (lv_at hl 0 rfl) ?_
      refine lv_iconst (v := 3) hx hb dL_law_1048 (by decide) ?_
      refine lv_iadd hx hb dL_law_1049 ?_
      refine va_sld hx hb hX hbl hbA hS (lw_ix (k := 3) hL hin (by decide) (by decide)) dL_law_1050 ?_
      refine lv_if_eq (tgt := 1058) hx hb dL_law_1051 (by decide) (fun c_359 => ?_) (fun c_359 => ?_)
      · refine lv_iconst (v := 0) hx hb dL_law_1058 (by decide) ?_
        have hF := gFree hDX hS hA
        refine va_calllD hd0 (va_runV_D (As := [.int (xs ((nI (6 * j)) + 1).toNatClampNeg), .int (xs ((nI (6 * j)) + 2).toNatClampNeg), .int 0]) (rest := []) ⟨hx, hb, hml, hown, hts⟩ (n_X11_accrued l dC dI ad cA adK adV H.size σ hIX (xs ((nI (6 * j)) + 1).toNatClampNeg) (xs ((nI (6 * j)) + 2).toNatClampNeg) 0 ) (cwV 3 hts gL0_X11_accrued rfl rfl rfl (by decide +kernel) ⟨Nat.le_of_ble_eq_true rfl, Nat.le_of_ble_eq_true rfl⟩) ⟨gBlind, va_recv hKX hPX (ci := 10) (q0 := 0) rfl (at_10 rfl), gStart (As := [.ref (ad 0), .int (xs ((nI (6 * j)) + 1).toNatClampNeg), .int (xs ((nI (6 * j)) + 2).toNatClampNeg), .int 0]) hPX hDX hKX0 hT hS hF (d)⟩ rfl rfl hl.1 rfl (lv_room (Nat.le_of_ble_eq_true rfl)) dL_law_1059 ⟨by omega, by omega⟩) hS (fun q _ h => hF q h) hF (fun r_360 σz_361 t H1 locs ht hvm hw hB hz1 hk1 hS d_362 hd0 => ?_)
        have hts := dr_words hts0 (d_362)
        have hKX := gKd hKX0 (d_362)
        have hKM := gKd hKM0 (d_362)
        have hown : (s.setDrawn (d_362)).vm.findClass RL = some m.cls := hown0
        have hX : va_X b L xs (s.setDrawn (d_362)) s.heap := hX0
        obtain ⟨hPX, hDX⟩ := gBack hF ht hB
        obtain ⟨hI_364, fc_365, hp_363⟩ := hw
        have hPM := gOther hPM hk1 (dj_G dj)
        have hPO := gOther hPO hk1 (dj_1 djX)
        generalize H1 = H at hPX hPM hPO hS ⊢
        refine lv_pop2_2 hx hb dL_law_1062 rfl ?_
        refine lv_aload_n hx hb dL_law_1063 rfl (lv_at hl 2 rfl) ?_
        refine lv_aload_n hx hb dL_law_1064 rfl (lv_at hl 4 rfl) ?_
        refine lv_iload hx hb dL_law_1065 (lv_at hl 0 rfl) ?_
        refine lv_iconst (v := 1) hx hb dL_law_1067 (by decide) ?_
        refine lv_iadd hx hb dL_law_1068 ?_
        refine va_sld hx hb hX hbl hbA hS (lw_ix (k := 1) hL hin (by decide) (by decide)) dL_law_1069 ?_
        refine lv_aload_n hx hb dL_law_1070 rfl (lv_at hl 4 rfl) ?_
        refine lv_iload hx hb dL_law_1071 (lv_at hl 0 rfl) ?_
        refine lv_iconst (v := 2) hx hb dL_law_1073 (by decide) ?_
        refine lv_iadd hx hb dL_law_1074 ?_
        refine va_sld hx hb hX hbl hbA hS (lw_ix (k := 2) hL hin (by decide) (by decide)) dL_law_1075 ?_
        refine lv_aload_n hx hb dL_law_1076 rfl (lv_at hl 4 rfl) ?_
        refine lv_iload hx hb dL_law_1077 (lv_at hl 0 rfl) ?_
        refine lv_iconst (v := 3) hx hb dL_law_1079 (by decide) ?_
        refine lv_iadd hx hb dL_law_1080 ?_
        refine va_sld hx hb hX hbl hbA hS (lw_ix (k := 3) hL hin (by decide) (by decide)) dL_law_1081 ?_
        refine lv_if_eq (tgt := 1089) hx hb dL_law_1082 (by decide) (fun c_366 => ?_) (fun c_366 => ?_)
        · refine lv_iconst (v := 0) hx hb dL_law_1089 (by decide) ?_
          have hF := gFree hDM hS hA
          refine va_calllD hd0 (va_runV_D (As := [.int (xs ((nI (6 * j)) + 1).toNatClampNeg), .int (xs ((nI (6 * j)) + 2).toNatClampNeg), .int 0]) (rest := []) ⟨hx, hb, hml, hown, hts⟩ (n_X12_accrued l dC dI am cM adK adV H.size τ hIM (xs ((nI (6 * j)) + 1).toNatClampNeg) (xs ((nI (6 * j)) + 2).toNatClampNeg) 0 hDp) (cwV 3 hts gL0_X12_accrued rfl rfl rfl (by decide +kernel) ⟨Nat.le_of_ble_eq_true rfl, Nat.le_of_ble_eq_true rfl⟩) ⟨gBlind, va_recv hKM hPM (ci := 11) (q0 := 0) rfl (mat_11 rfl), gStart (As := [.ref (am 0), .int (xs ((nI (6 * j)) + 1).toNatClampNeg), .int (xs ((nI (6 * j)) + 2).toNatClampNeg), .int 0]) hPM hDM hKM0 hT hS hF (d_362)⟩ rfl rfl hl.1 rfl (lv_room (Nat.le_of_ble_eq_true rfl)) dL_law_1090 ⟨by omega, by omega⟩) hS (fun q _ h => hF q h) hF (fun r_367 τz_368 t H1 locs ht hvm hw hB hz1 hk1 hS d_369 hd0 => ?_)
          have hts := dr_words hts0 (d_369)
          have hKX := gKd hKX0 (d_369)
          have hKM := gKd hKM0 (d_369)
          have hown : (s.setDrawn (d_369)).vm.findClass RL = some m.cls := hown0
          have hX : va_X b L xs (s.setDrawn (d_369)) s.heap := hX0
          obtain ⟨hPM, hDM⟩ := gBack hF ht hB
          obtain ⟨hI_371, fc_372, hp_370⟩ := hw
          have hPX := gOther hPX hk1 (dj_sym (dj_G dj))
          have hPO := gOther hPO hk1 (dj_1 djM)
          generalize H1 = H at hPX hPM hPO hS ⊢
          have dp_373 : Deep τz_368 := (Deep.fr hDp (fc_372.1 2 (by decide) (by decide)) (fc_372.1 4 (by decide) (by decide)) (fc_372.1 9 (by decide) (by decide)) (fc_372.1 11 (by decide) (by decide)) (fc_372.1 12 (by decide) (by decide)) (fc_372.1 17 (by decide) (by decide)) (fc_372.1 18 (by decide) (by decide)) (fc_372.2 20 (by decide)) (fc_372.2 21 (by decide)) (fc_372.2 28 (by decide)) (fc_372.2 64 (by decide)) (fc_372.2 65 (by decide)) (fc_372.2 68 (by decide)))
          refine lv_pop2_2 hx hb dL_law_1093 rfl ?_
          refine lv_goto (tgt := 1851) hx hb dL_law_1094 (by decide) ?_
          obtain ⟨x_374, ex_374⟩ : ∃ zz : Int32, zz = (nI (6 * j)) + 6 := ⟨_, rfl⟩
          refine lv_iinc (v := x_374) (lv' := [(4, .int x_374), (3, .ref lo), (2, .ref (am 0)), (1, .ref (ad 0)), (0, .ref b)]) hx hb dL_law_1851 hl (k := 0) rfl (by rw [ex_374]; rfl) (by decide) rfl (fun ls hl => ?_)
          refine lv_goto (tgt := 23) hx hb dL_law_1854 (by decide) ?_
          have hl := lv_sub hl [0, 1, 2, 3, 4] rfl
          rw [ex_374, nI_6] at hl
          exact ih (j + 1) σz_361 τz_368 f _ _ _ _ _ _ (by omega) (by omega) hI_364 hI_371 dp_373 (by omega) (by omega) hd0 hPX hDX hPM hDM hPO hDO hS hl
        · exact absurd c_359 c_366
      · refine lv_iconst (v := 1) hx hb dL_law_1054 (by decide) ?_
        refine lv_goto (tgt := 1059) hx hb dL_law_1055 (by decide) ?_
        have hF := gFree hDX hS hA
        refine va_calllD hd0 (va_runV_D (As := [.int (xs ((nI (6 * j)) + 1).toNatClampNeg), .int (xs ((nI (6 * j)) + 2).toNatClampNeg), .int 1]) (rest := []) ⟨hx, hb, hml, hown, hts⟩ (n_X11_accrued l dC dI ad cA adK adV H.size σ hIX (xs ((nI (6 * j)) + 1).toNatClampNeg) (xs ((nI (6 * j)) + 2).toNatClampNeg) 1 ) (cwV 3 hts gL0_X11_accrued rfl rfl rfl (by decide +kernel) ⟨Nat.le_of_ble_eq_true rfl, Nat.le_of_ble_eq_true rfl⟩) ⟨gBlind, va_recv hKX hPX (ci := 10) (q0 := 0) rfl (at_10 rfl), gStart (As := [.ref (ad 0), .int (xs ((nI (6 * j)) + 1).toNatClampNeg), .int (xs ((nI (6 * j)) + 2).toNatClampNeg), .int 1]) hPX hDX hKX0 hT hS hF (d)⟩ rfl rfl hl.1 rfl (lv_room (Nat.le_of_ble_eq_true rfl)) dL_law_1059 ⟨by omega, by omega⟩) hS (fun q _ h => hF q h) hF (fun r_375 σz_376 t H1 locs ht hvm hw hB hz1 hk1 hS d_377 hd0 => ?_)
        have hts := dr_words hts0 (d_377)
        have hKX := gKd hKX0 (d_377)
        have hKM := gKd hKM0 (d_377)
        have hown : (s.setDrawn (d_377)).vm.findClass RL = some m.cls := hown0
        have hX : va_X b L xs (s.setDrawn (d_377)) s.heap := hX0
        obtain ⟨hPX, hDX⟩ := gBack hF ht hB
        obtain ⟨hI_379, fc_380, hp_378⟩ := hw
        have hPM := gOther hPM hk1 (dj_G dj)
        have hPO := gOther hPO hk1 (dj_1 djX)
        generalize H1 = H at hPX hPM hPO hS ⊢
        refine lv_pop2_2 hx hb dL_law_1062 rfl ?_
        refine lv_aload_n hx hb dL_law_1063 rfl (lv_at hl 2 rfl) ?_
        refine lv_aload_n hx hb dL_law_1064 rfl (lv_at hl 4 rfl) ?_
        refine lv_iload hx hb dL_law_1065 (lv_at hl 0 rfl) ?_
        refine lv_iconst (v := 1) hx hb dL_law_1067 (by decide) ?_
        refine lv_iadd hx hb dL_law_1068 ?_
        refine va_sld hx hb hX hbl hbA hS (lw_ix (k := 1) hL hin (by decide) (by decide)) dL_law_1069 ?_
        refine lv_aload_n hx hb dL_law_1070 rfl (lv_at hl 4 rfl) ?_
        refine lv_iload hx hb dL_law_1071 (lv_at hl 0 rfl) ?_
        refine lv_iconst (v := 2) hx hb dL_law_1073 (by decide) ?_
        refine lv_iadd hx hb dL_law_1074 ?_
        refine va_sld hx hb hX hbl hbA hS (lw_ix (k := 2) hL hin (by decide) (by decide)) dL_law_1075 ?_
        refine lv_aload_n hx hb dL_law_1076 rfl (lv_at hl 4 rfl) ?_
        refine lv_iload hx hb dL_law_1077 (lv_at hl 0 rfl) ?_
        refine lv_iconst (v := 3) hx hb dL_law_1079 (by decide) ?_
        refine lv_iadd hx hb dL_law_1080 ?_
        refine va_sld hx hb hX hbl hbA hS (lw_ix (k := 3) hL hin (by decide) (by decide)) dL_law_1081 ?_
        refine lv_if_eq (tgt := 1089) hx hb dL_law_1082 (by decide) (fun c_381 => ?_) (fun c_381 => ?_)
        · exact absurd c_381 c_359
        · refine lv_iconst (v := 1) hx hb dL_law_1085 (by decide) ?_
          refine lv_goto (tgt := 1090) hx hb dL_law_1086 (by decide) ?_
          have hF := gFree hDM hS hA
          refine va_calllD hd0 (va_runV_D (As := [.int (xs ((nI (6 * j)) + 1).toNatClampNeg), .int (xs ((nI (6 * j)) + 2).toNatClampNeg), .int 1]) (rest := []) ⟨hx, hb, hml, hown, hts⟩ (n_X12_accrued l dC dI am cM adK adV H.size τ hIM (xs ((nI (6 * j)) + 1).toNatClampNeg) (xs ((nI (6 * j)) + 2).toNatClampNeg) 1 hDp) (cwV 3 hts gL0_X12_accrued rfl rfl rfl (by decide +kernel) ⟨Nat.le_of_ble_eq_true rfl, Nat.le_of_ble_eq_true rfl⟩) ⟨gBlind, va_recv hKM hPM (ci := 11) (q0 := 0) rfl (mat_11 rfl), gStart (As := [.ref (am 0), .int (xs ((nI (6 * j)) + 1).toNatClampNeg), .int (xs ((nI (6 * j)) + 2).toNatClampNeg), .int 1]) hPM hDM hKM0 hT hS hF (d_377)⟩ rfl rfl hl.1 rfl (lv_room (Nat.le_of_ble_eq_true rfl)) dL_law_1090 ⟨by omega, by omega⟩) hS (fun q _ h => hF q h) hF (fun r_382 τz_383 t H1 locs ht hvm hw hB hz1 hk1 hS d_384 hd0 => ?_)
          have hts := dr_words hts0 (d_384)
          have hKX := gKd hKX0 (d_384)
          have hKM := gKd hKM0 (d_384)
          have hown : (s.setDrawn (d_384)).vm.findClass RL = some m.cls := hown0
          have hX : va_X b L xs (s.setDrawn (d_384)) s.heap := hX0
          obtain ⟨hPM, hDM⟩ := gBack hF ht hB
          obtain ⟨hI_386, fc_387, hp_385⟩ := hw
          have hPX := gOther hPX hk1 (dj_sym (dj_G dj))
          have hPO := gOther hPO hk1 (dj_1 djM)
          generalize H1 = H at hPX hPM hPO hS ⊢
          have dp_388 : Deep τz_383 := (Deep.fr hDp (fc_387.1 2 (by decide) (by decide)) (fc_387.1 4 (by decide) (by decide)) (fc_387.1 9 (by decide) (by decide)) (fc_387.1 11 (by decide) (by decide)) (fc_387.1 12 (by decide) (by decide)) (fc_387.1 17 (by decide) (by decide)) (fc_387.1 18 (by decide) (by decide)) (fc_387.2 20 (by decide)) (fc_387.2 21 (by decide)) (fc_387.2 28 (by decide)) (fc_387.2 64 (by decide)) (fc_387.2 65 (by decide)) (fc_387.2 68 (by decide)))
          refine lv_pop2_2 hx hb dL_law_1093 rfl ?_
          refine lv_goto (tgt := 1851) hx hb dL_law_1094 (by decide) ?_
          obtain ⟨x_389, ex_389⟩ : ∃ zz : Int32, zz = (nI (6 * j)) + 6 := ⟨_, rfl⟩
          refine lv_iinc (v := x_389) (lv' := [(4, .int x_389), (3, .ref lo), (2, .ref (am 0)), (1, .ref (ad 0)), (0, .ref b)]) hx hb dL_law_1851 hl (k := 0) rfl (by rw [ex_389]; rfl) (by decide) rfl (fun ls hl => ?_)
          refine lv_goto (tgt := 23) hx hb dL_law_1854 (by decide) ?_
          have hl := lv_sub hl [0, 1, 2, 3, 4] rfl
          rw [ex_389, nI_6] at hl
          exact ih (j + 1) σz_376 τz_383 f _ _ _ _ _ _ (by omega) (by omega) hI_379 hI_386 dp_388 (by omega) (by omega) hd0 hPX hDX hPM hDM hPO hDO hS hl
    by_cases c_390 : ((xs (nI (6 * j)).toNatClampNeg) &&& 63) = 20
    · refine lv_tableIn (tgt := 1097) hx hb dL_law_40 (by rw [c_390]; decide) (by rw [c_390]; decide) (by rw [c_390]; rfl) (by decide) ?_
      refine lv_aload_n hx hb dL_law_1097 rfl (lv_at hl 3 rfl) ?_
      refine lv_aload_n hx hb dL_law_1098 rfl (lv_at hl 4 rfl) ?_
      refine lv_iload hx hb dL_law_1099 (lv_at hl 0 rfl) ?_
      refine lv_iconst (v := 1) hx hb dL_law_1101 (by decide) ?_
      refine lv_iadd hx hb dL_law_1102 ?_
      refine va_sld hx hb hX hbl hbA hS (lw_ix (k := 1) hL hin (by decide) (by decide)) dL_law_1103 ?_
      refine lv_aload_n hx hb dL_law_1104 rfl (lv_at hl 4 rfl) ?_
      refine lv_iload hx hb dL_law_1105 (lv_at hl 0 rfl) ?_
      refine lv_iconst (v := 2) hx hb dL_law_1107 (by decide) ?_
      refine lv_iadd hx hb dL_law_1108 ?_
      refine va_sld hx hb hX hbl hbA hS (lw_ix (k := 2) hL hin (by decide) (by decide)) dL_law_1109 ?_
      refine lv_aload_n hx hb dL_law_1110 rfl (lv_at hl 4 rfl) ?_
      refine lv_iload hx hb dL_law_1111 (lv_at hl 0 rfl) ?_
      refine lv_iconst (v := 3) hx hb dL_law_1113 (by decide) ?_
      refine lv_iadd hx hb dL_law_1114 ?_
      refine va_sld hx hb hX hbl hbA hS (lw_ix (k := 3) hL hin (by decide) (by decide)) dL_law_1115 ?_
      refine lv_if_eq (tgt := 1123) hx hb dL_law_1116 (by decide) (fun c_391 => ?_) (fun c_391 => ?_)
      · refine lv_iconst (v := 0) hx hb dL_law_1123 (by decide) ?_
        have hF := gFree hDX hS hA
        refine va_calllD hd0 (va_runV_D (As := [.int (xs ((nI (6 * j)) + 1).toNatClampNeg), .int (xs ((nI (6 * j)) + 2).toNatClampNeg), .int 0]) (rest := []) ⟨hx, hb, hml, hown, hts⟩ (n_X11_rest l dC dI ad cA adK adV H.size σ hIX (xs ((nI (6 * j)) + 1).toNatClampNeg) (xs ((nI (6 * j)) + 2).toNatClampNeg) 0 ) (cwV 3 hts gL0_X11_rest rfl rfl rfl (by decide +kernel) ⟨Nat.le_of_ble_eq_true rfl, Nat.le_of_ble_eq_true rfl⟩) ⟨gBlind, va_recv hKX hPX (ci := 10) (q0 := 0) rfl (at_10 rfl), gStart (As := [.ref (ad 0), .int (xs ((nI (6 * j)) + 1).toNatClampNeg), .int (xs ((nI (6 * j)) + 2).toNatClampNeg), .int 0]) hPX hDX hKX0 hT hS hF (d)⟩ rfl rfl hl.1 rfl (lv_room (Nat.le_of_ble_eq_true rfl)) dL_law_1124 ⟨by omega, by omega⟩) hS (fun q _ h => hF q h) hF (fun r_392 σz_393 t H1 locs ht hvm hw hB hz1 hk1 hS d_394 hd0 => ?_)
        have hts := dr_words hts0 (d_394)
        have hKX := gKd hKX0 (d_394)
        have hKM := gKd hKM0 (d_394)
        have hown : (s.setDrawn (d_394)).vm.findClass RL = some m.cls := hown0
        have hX : va_X b L xs (s.setDrawn (d_394)) s.heap := hX0
        obtain ⟨hPX, hDX⟩ := gBack hF ht hB
        obtain ⟨hI_396, fc_397, hp_395⟩ := hw
        have hPM := gOther hPM hk1 (dj_G dj)
        have hPO := gOther hPO hk1 (dj_1 djX)
        generalize H1 = H at hPX hPM hPO hS ⊢
        refine lv_pop2_2 hx hb dL_law_1127 rfl ?_
        refine lv_aload_n hx hb dL_law_1128 rfl (lv_at hl 2 rfl) ?_
        refine lv_aload_n hx hb dL_law_1129 rfl (lv_at hl 4 rfl) ?_
        refine lv_iload hx hb dL_law_1130 (lv_at hl 0 rfl) ?_
        refine lv_iconst (v := 1) hx hb dL_law_1132 (by decide) ?_
        refine lv_iadd hx hb dL_law_1133 ?_
        refine va_sld hx hb hX hbl hbA hS (lw_ix (k := 1) hL hin (by decide) (by decide)) dL_law_1134 ?_
        refine lv_aload_n hx hb dL_law_1135 rfl (lv_at hl 4 rfl) ?_
        refine lv_iload hx hb dL_law_1136 (lv_at hl 0 rfl) ?_
        refine lv_iconst (v := 2) hx hb dL_law_1138 (by decide) ?_
        refine lv_iadd hx hb dL_law_1139 ?_
        refine va_sld hx hb hX hbl hbA hS (lw_ix (k := 2) hL hin (by decide) (by decide)) dL_law_1140 ?_
        refine lv_aload_n hx hb dL_law_1141 rfl (lv_at hl 4 rfl) ?_
        refine lv_iload hx hb dL_law_1142 (lv_at hl 0 rfl) ?_
        refine lv_iconst (v := 3) hx hb dL_law_1144 (by decide) ?_
        refine lv_iadd hx hb dL_law_1145 ?_
        refine va_sld hx hb hX hbl hbA hS (lw_ix (k := 3) hL hin (by decide) (by decide)) dL_law_1146 ?_
        refine lv_if_eq (tgt := 1154) hx hb dL_law_1147 (by decide) (fun c_398 => ?_) (fun c_398 => ?_)
        · refine lv_iconst (v := 0) hx hb dL_law_1154 (by decide) ?_
          have hF := gFree hDM hS hA
          refine va_calllD hd0 (va_runV_D (As := [.int (xs ((nI (6 * j)) + 1).toNatClampNeg), .int (xs ((nI (6 * j)) + 2).toNatClampNeg), .int 0]) (rest := []) ⟨hx, hb, hml, hown, hts⟩ (n_X12_rest l dC dI am cM adK adV H.size τ hIM (xs ((nI (6 * j)) + 1).toNatClampNeg) (xs ((nI (6 * j)) + 2).toNatClampNeg) 0 hDp) (cwV 3 hts gL0_X12_rest rfl rfl rfl (by decide +kernel) ⟨Nat.le_of_ble_eq_true rfl, Nat.le_of_ble_eq_true rfl⟩) ⟨gBlind, va_recv hKM hPM (ci := 11) (q0 := 0) rfl (mat_11 rfl), gStart (As := [.ref (am 0), .int (xs ((nI (6 * j)) + 1).toNatClampNeg), .int (xs ((nI (6 * j)) + 2).toNatClampNeg), .int 0]) hPM hDM hKM0 hT hS hF (d_394)⟩ rfl rfl hl.1 rfl (lv_room (Nat.le_of_ble_eq_true rfl)) dL_law_1155 ⟨by omega, by omega⟩) hS (fun q _ h => hF q h) hF (fun r_399 τz_400 t H1 locs ht hvm hw hB hz1 hk1 hS d_401 hd0 => ?_)
          have hts := dr_words hts0 (d_401)
          have hKX := gKd hKX0 (d_401)
          have hKM := gKd hKM0 (d_401)
          have hown : (s.setDrawn (d_401)).vm.findClass RL = some m.cls := hown0
          have hX : va_X b L xs (s.setDrawn (d_401)) s.heap := hX0
          obtain ⟨hPM, hDM⟩ := gBack hF ht hB
          obtain ⟨hI_403, fc_404, hp_402⟩ := hw
          have hPX := gOther hPX hk1 (dj_sym (dj_G dj))
          have hPO := gOther hPO hk1 (dj_1 djM)
          generalize H1 = H at hPX hPM hPO hS ⊢
          have dp_405 : Deep τz_400 := (Deep.fr hDp (fc_404.1 2 (by decide) (by decide)) (fc_404.1 4 (by decide) (by decide)) (fc_404.1 9 (by decide) (by decide)) (fc_404.1 11 (by decide) (by decide)) (fc_404.1 12 (by decide) (by decide)) (fc_404.1 17 (by decide) (by decide)) (fc_404.1 18 (by decide) (by decide)) (fc_404.2 20 (by decide)) (fc_404.2 21 (by decide)) (fc_404.2 28 (by decide)) (fc_404.2 64 (by decide)) (fc_404.2 65 (by decide)) (fc_404.2 68 (by decide)))
          refine lv_pop2_2 hx hb dL_law_1158 rfl ?_
          refine lv_goto (tgt := 1851) hx hb dL_law_1159 (by decide) ?_
          obtain ⟨x_406, ex_406⟩ : ∃ zz : Int32, zz = (nI (6 * j)) + 6 := ⟨_, rfl⟩
          refine lv_iinc (v := x_406) (lv' := [(4, .int x_406), (3, .ref lo), (2, .ref (am 0)), (1, .ref (ad 0)), (0, .ref b)]) hx hb dL_law_1851 hl (k := 0) rfl (by rw [ex_406]; rfl) (by decide) rfl (fun ls hl => ?_)
          refine lv_goto (tgt := 23) hx hb dL_law_1854 (by decide) ?_
          have hl := lv_sub hl [0, 1, 2, 3, 4] rfl
          rw [ex_406, nI_6] at hl
          exact ih (j + 1) σz_393 τz_400 f _ _ _ _ _ _ (by omega) (by omega) hI_396 hI_403 dp_405 (by omega) (by omega) hd0 hPX hDX hPM hDM hPO hDO hS hl
        · exact absurd c_391 c_398
      · refine lv_iconst (v := 1) hx hb dL_law_1119 (by decide) ?_
        refine lv_goto (tgt := 1124) hx hb dL_law_1120 (by decide) ?_
        have hF := gFree hDX hS hA
        refine va_calllD hd0 (va_runV_D (As := [.int (xs ((nI (6 * j)) + 1).toNatClampNeg), .int (xs ((nI (6 * j)) + 2).toNatClampNeg), .int 1]) (rest := []) ⟨hx, hb, hml, hown, hts⟩ (n_X11_rest l dC dI ad cA adK adV H.size σ hIX (xs ((nI (6 * j)) + 1).toNatClampNeg) (xs ((nI (6 * j)) + 2).toNatClampNeg) 1 ) (cwV 3 hts gL0_X11_rest rfl rfl rfl (by decide +kernel) ⟨Nat.le_of_ble_eq_true rfl, Nat.le_of_ble_eq_true rfl⟩) ⟨gBlind, va_recv hKX hPX (ci := 10) (q0 := 0) rfl (at_10 rfl), gStart (As := [.ref (ad 0), .int (xs ((nI (6 * j)) + 1).toNatClampNeg), .int (xs ((nI (6 * j)) + 2).toNatClampNeg), .int 1]) hPX hDX hKX0 hT hS hF (d)⟩ rfl rfl hl.1 rfl (lv_room (Nat.le_of_ble_eq_true rfl)) dL_law_1124 ⟨by omega, by omega⟩) hS (fun q _ h => hF q h) hF (fun r_407 σz_408 t H1 locs ht hvm hw hB hz1 hk1 hS d_409 hd0 => ?_)
        have hts := dr_words hts0 (d_409)
        have hKX := gKd hKX0 (d_409)
        have hKM := gKd hKM0 (d_409)
        have hown : (s.setDrawn (d_409)).vm.findClass RL = some m.cls := hown0
        have hX : va_X b L xs (s.setDrawn (d_409)) s.heap := hX0
        obtain ⟨hPX, hDX⟩ := gBack hF ht hB
        obtain ⟨hI_411, fc_412, hp_410⟩ := hw
        have hPM := gOther hPM hk1 (dj_G dj)
        have hPO := gOther hPO hk1 (dj_1 djX)
        generalize H1 = H at hPX hPM hPO hS ⊢
        refine lv_pop2_2 hx hb dL_law_1127 rfl ?_
        refine lv_aload_n hx hb dL_law_1128 rfl (lv_at hl 2 rfl) ?_
        refine lv_aload_n hx hb dL_law_1129 rfl (lv_at hl 4 rfl) ?_
        refine lv_iload hx hb dL_law_1130 (lv_at hl 0 rfl) ?_
        refine lv_iconst (v := 1) hx hb dL_law_1132 (by decide) ?_
        refine lv_iadd hx hb dL_law_1133 ?_
        refine va_sld hx hb hX hbl hbA hS (lw_ix (k := 1) hL hin (by decide) (by decide)) dL_law_1134 ?_
        refine lv_aload_n hx hb dL_law_1135 rfl (lv_at hl 4 rfl) ?_
        refine lv_iload hx hb dL_law_1136 (lv_at hl 0 rfl) ?_
        refine lv_iconst (v := 2) hx hb dL_law_1138 (by decide) ?_
        refine lv_iadd hx hb dL_law_1139 ?_
        refine va_sld hx hb hX hbl hbA hS (lw_ix (k := 2) hL hin (by decide) (by decide)) dL_law_1140 ?_
        refine lv_aload_n hx hb dL_law_1141 rfl (lv_at hl 4 rfl) ?_
        refine lv_iload hx hb dL_law_1142 (lv_at hl 0 rfl) ?_
        refine lv_iconst (v := 3) hx hb dL_law_1144 (by decide) ?_
        refine lv_iadd hx hb dL_law_1145 ?_
        refine va_sld hx hb hX hbl hbA hS (lw_ix (k := 3) hL hin (by decide) (by decide)) dL_law_1146 ?_
        refine lv_if_eq (tgt := 1154) hx hb dL_law_1147 (by decide) (fun c_413 => ?_) (fun c_413 => ?_)
        · exact absurd c_413 c_391
        · refine lv_iconst (v := 1) hx hb dL_law_1150 (by decide) ?_
          refine lv_goto (tgt := 1155) hx hb dL_law_1151 (by decide) ?_
          have hF := gFree hDM hS hA
          refine va_calllD hd0 (va_runV_D (As := [.int (xs ((nI (6 * j)) + 1).toNatClampNeg), .int (xs ((nI (6 * j)) + 2).toNatClampNeg), .int 1]) (rest := []) ⟨hx, hb, hml, hown, hts⟩ (n_X12_rest l dC dI am cM adK adV H.size τ hIM (xs ((nI (6 * j)) + 1).toNatClampNeg) (xs ((nI (6 * j)) + 2).toNatClampNeg) 1 hDp) (cwV 3 hts gL0_X12_rest rfl rfl rfl (by decide +kernel) ⟨Nat.le_of_ble_eq_true rfl, Nat.le_of_ble_eq_true rfl⟩) ⟨gBlind, va_recv hKM hPM (ci := 11) (q0 := 0) rfl (mat_11 rfl), gStart (As := [.ref (am 0), .int (xs ((nI (6 * j)) + 1).toNatClampNeg), .int (xs ((nI (6 * j)) + 2).toNatClampNeg), .int 1]) hPM hDM hKM0 hT hS hF (d_409)⟩ rfl rfl hl.1 rfl (lv_room (Nat.le_of_ble_eq_true rfl)) dL_law_1155 ⟨by omega, by omega⟩) hS (fun q _ h => hF q h) hF (fun r_414 τz_415 t H1 locs ht hvm hw hB hz1 hk1 hS d_416 hd0 => ?_)
          have hts := dr_words hts0 (d_416)
          have hKX := gKd hKX0 (d_416)
          have hKM := gKd hKM0 (d_416)
          have hown : (s.setDrawn (d_416)).vm.findClass RL = some m.cls := hown0
          have hX : va_X b L xs (s.setDrawn (d_416)) s.heap := hX0
          obtain ⟨hPM, hDM⟩ := gBack hF ht hB
          obtain ⟨hI_418, fc_419, hp_417⟩ := hw
          have hPX := gOther hPX hk1 (dj_sym (dj_G dj))
          have hPO := gOther hPO hk1 (dj_1 djM)
          generalize H1 = H at hPX hPM hPO hS ⊢
          have dp_420 : Deep τz_415 := (Deep.fr hDp (fc_419.1 2 (by decide) (by decide)) (fc_419.1 4 (by decide) (by decide)) (fc_419.1 9 (by decide) (by decide)) (fc_419.1 11 (by decide) (by decide)) (fc_419.1 12 (by decide) (by decide)) (fc_419.1 17 (by decide) (by decide)) (fc_419.1 18 (by decide) (by decide)) (fc_419.2 20 (by decide)) (fc_419.2 21 (by decide)) (fc_419.2 28 (by decide)) (fc_419.2 64 (by decide)) (fc_419.2 65 (by decide)) (fc_419.2 68 (by decide)))
          refine lv_pop2_2 hx hb dL_law_1158 rfl ?_
          refine lv_goto (tgt := 1851) hx hb dL_law_1159 (by decide) ?_
          obtain ⟨x_421, ex_421⟩ : ∃ zz : Int32, zz = (nI (6 * j)) + 6 := ⟨_, rfl⟩
          refine lv_iinc (v := x_421) (lv' := [(4, .int x_421), (3, .ref lo), (2, .ref (am 0)), (1, .ref (ad 0)), (0, .ref b)]) hx hb dL_law_1851 hl (k := 0) rfl (by rw [ex_421]; rfl) (by decide) rfl (fun ls hl => ?_)
          refine lv_goto (tgt := 23) hx hb dL_law_1854 (by decide) ?_
          have hl := lv_sub hl [0, 1, 2, 3, 4] rfl
          rw [ex_421, nI_6] at hl
          exact ih (j + 1) σz_408 τz_415 f _ _ _ _ _ _ (by omega) (by omega) hI_411 hI_418 dp_420 (by omega) (by omega) hd0 hPX hDX hPM hDM hPO hDO hS hl
    by_cases c_422 : ((xs (nI (6 * j)).toNatClampNeg) &&& 63) = 21
    · refine lv_tableIn (tgt := 1162) hx hb dL_law_40 (by rw [c_422]; decide) (by rw [c_422]; decide) (by rw [c_422]; rfl) (by decide) ?_
      refine lv_aload_n hx hb dL_law_1162 rfl (lv_at hl 3 rfl) ?_
      refine lv_aload_n hx hb dL_law_1163 rfl (lv_at hl 4 rfl) ?_
      refine lv_iload hx hb dL_law_1164 (lv_at hl 0 rfl) ?_
      refine lv_iconst (v := 1) hx hb dL_law_1166 (by decide) ?_
      refine lv_iadd hx hb dL_law_1167 ?_
      refine va_sld hx hb hX hbl hbA hS (lw_ix (k := 1) hL hin (by decide) (by decide)) dL_law_1168 ?_
      refine lv_aload_n hx hb dL_law_1169 rfl (lv_at hl 4 rfl) ?_
      refine lv_iload hx hb dL_law_1170 (lv_at hl 0 rfl) ?_
      refine lv_iconst (v := 2) hx hb dL_law_1172 (by decide) ?_
      refine lv_iadd hx hb dL_law_1173 ?_
      refine va_sld hx hb hX hbl hbA hS (lw_ix (k := 2) hL hin (by decide) (by decide)) dL_law_1174 ?_
      refine lv_aload_n hx hb dL_law_1175 rfl (lv_at hl 4 rfl) ?_
      refine lv_iload hx hb dL_law_1176 (lv_at hl 0 rfl) ?_
      refine lv_iconst (v := 3) hx hb dL_law_1178 (by decide) ?_
      refine lv_iadd hx hb dL_law_1179 ?_
      refine va_sld hx hb hX hbl hbA hS (lw_ix (k := 3) hL hin (by decide) (by decide)) dL_law_1180 ?_
      have hF := gFree hDX hS hA
      refine va_calllD hd0 (va_runV_D (As := [.int (xs ((nI (6 * j)) + 1).toNatClampNeg), .int (xs ((nI (6 * j)) + 2).toNatClampNeg), .int (xs ((nI (6 * j)) + 3).toNatClampNeg)]) (rest := []) ⟨hx, hb, hml, hown, hts⟩ (n_X11_dirty l dC dI ad cA adK adV H.size σ hIX (xs ((nI (6 * j)) + 1).toNatClampNeg) (xs ((nI (6 * j)) + 2).toNatClampNeg) (xs ((nI (6 * j)) + 3).toNatClampNeg) ) (cwV 3 hts gL0_X11_dirty rfl rfl rfl (by decide +kernel) ⟨Nat.le_of_ble_eq_true rfl, Nat.le_of_ble_eq_true rfl⟩) ⟨gBlind, va_recv hKX hPX (ci := 10) (q0 := 0) rfl (at_10 rfl), gStart (As := [.ref (ad 0), .int (xs ((nI (6 * j)) + 1).toNatClampNeg), .int (xs ((nI (6 * j)) + 2).toNatClampNeg), .int (xs ((nI (6 * j)) + 3).toNatClampNeg)]) hPX hDX hKX0 hT hS hF (d)⟩ rfl rfl hl.1 rfl (lv_room (Nat.le_of_ble_eq_true rfl)) dL_law_1181 ⟨by omega, by omega⟩) hS (fun q _ h => hF q h) hF (fun r_423 σz_424 t H1 locs ht hvm hw hB hz1 hk1 hS d_425 hd0 => ?_)
      have hts := dr_words hts0 (d_425)
      have hKX := gKd hKX0 (d_425)
      have hKM := gKd hKM0 (d_425)
      have hown : (s.setDrawn (d_425)).vm.findClass RL = some m.cls := hown0
      have hX : va_X b L xs (s.setDrawn (d_425)) s.heap := hX0
      obtain ⟨hPX, hDX⟩ := gBack hF ht hB
      obtain ⟨hI_427, fc_428, hp_426⟩ := hw
      have hPM := gOther hPM hk1 (dj_G dj)
      have hPO := gOther hPO hk1 (dj_1 djX)
      generalize H1 = H at hPX hPM hPO hS ⊢
      refine lv_pop2_2 hx hb dL_law_1184 rfl ?_
      refine lv_aload_n hx hb dL_law_1185 rfl (lv_at hl 2 rfl) ?_
      refine lv_aload_n hx hb dL_law_1186 rfl (lv_at hl 4 rfl) ?_
      refine lv_iload hx hb dL_law_1187 (lv_at hl 0 rfl) ?_
      refine lv_iconst (v := 1) hx hb dL_law_1189 (by decide) ?_
      refine lv_iadd hx hb dL_law_1190 ?_
      refine va_sld hx hb hX hbl hbA hS (lw_ix (k := 1) hL hin (by decide) (by decide)) dL_law_1191 ?_
      refine lv_aload_n hx hb dL_law_1192 rfl (lv_at hl 4 rfl) ?_
      refine lv_iload hx hb dL_law_1193 (lv_at hl 0 rfl) ?_
      refine lv_iconst (v := 2) hx hb dL_law_1195 (by decide) ?_
      refine lv_iadd hx hb dL_law_1196 ?_
      refine va_sld hx hb hX hbl hbA hS (lw_ix (k := 2) hL hin (by decide) (by decide)) dL_law_1197 ?_
      refine lv_aload_n hx hb dL_law_1198 rfl (lv_at hl 4 rfl) ?_
      refine lv_iload hx hb dL_law_1199 (lv_at hl 0 rfl) ?_
      refine lv_iconst (v := 3) hx hb dL_law_1201 (by decide) ?_
      refine lv_iadd hx hb dL_law_1202 ?_
      refine va_sld hx hb hX hbl hbA hS (lw_ix (k := 3) hL hin (by decide) (by decide)) dL_law_1203 ?_
      have hF := gFree hDM hS hA
      refine va_calllD hd0 (va_runV_D (As := [.int (xs ((nI (6 * j)) + 1).toNatClampNeg), .int (xs ((nI (6 * j)) + 2).toNatClampNeg), .int (xs ((nI (6 * j)) + 3).toNatClampNeg)]) (rest := []) ⟨hx, hb, hml, hown, hts⟩ (n_X12_dirty l dC dI am cM adK adV H.size τ hIM (xs ((nI (6 * j)) + 1).toNatClampNeg) (xs ((nI (6 * j)) + 2).toNatClampNeg) (xs ((nI (6 * j)) + 3).toNatClampNeg) hDp) (cwV 3 hts gL0_X12_dirty rfl rfl rfl (by decide +kernel) ⟨Nat.le_of_ble_eq_true rfl, Nat.le_of_ble_eq_true rfl⟩) ⟨gBlind, va_recv hKM hPM (ci := 11) (q0 := 0) rfl (mat_11 rfl), gStart (As := [.ref (am 0), .int (xs ((nI (6 * j)) + 1).toNatClampNeg), .int (xs ((nI (6 * j)) + 2).toNatClampNeg), .int (xs ((nI (6 * j)) + 3).toNatClampNeg)]) hPM hDM hKM0 hT hS hF (d_425)⟩ rfl rfl hl.1 rfl (lv_room (Nat.le_of_ble_eq_true rfl)) dL_law_1204 ⟨by omega, by omega⟩) hS (fun q _ h => hF q h) hF (fun r_429 τz_430 t H1 locs ht hvm hw hB hz1 hk1 hS d_431 hd0 => ?_)
      have hts := dr_words hts0 (d_431)
      have hKX := gKd hKX0 (d_431)
      have hKM := gKd hKM0 (d_431)
      have hown : (s.setDrawn (d_431)).vm.findClass RL = some m.cls := hown0
      have hX : va_X b L xs (s.setDrawn (d_431)) s.heap := hX0
      obtain ⟨hPM, hDM⟩ := gBack hF ht hB
      obtain ⟨hI_433, fc_434, hp_432⟩ := hw
      have hPX := gOther hPX hk1 (dj_sym (dj_G dj))
      have hPO := gOther hPO hk1 (dj_1 djM)
      generalize H1 = H at hPX hPM hPO hS ⊢
      have dp_435 : Deep τz_430 := (Deep.fr hDp (fc_434.1 2 (by decide) (by decide)) (fc_434.1 4 (by decide) (by decide)) (fc_434.1 9 (by decide) (by decide)) (fc_434.1 11 (by decide) (by decide)) (fc_434.1 12 (by decide) (by decide)) (fc_434.1 17 (by decide) (by decide)) (fc_434.1 18 (by decide) (by decide)) (fc_434.2 20 (by decide)) (fc_434.2 21 (by decide)) (fc_434.2 28 (by decide)) (fc_434.2 64 (by decide)) (fc_434.2 65 (by decide)) (fc_434.2 68 (by decide)))
      refine lv_pop2_2 hx hb dL_law_1207 rfl ?_
      refine lv_goto (tgt := 1851) hx hb dL_law_1208 (by decide) ?_
      obtain ⟨x_436, ex_436⟩ : ∃ zz : Int32, zz = (nI (6 * j)) + 6 := ⟨_, rfl⟩
      refine lv_iinc (v := x_436) (lv' := [(4, .int x_436), (3, .ref lo), (2, .ref (am 0)), (1, .ref (ad 0)), (0, .ref b)]) hx hb dL_law_1851 hl (k := 0) rfl (by rw [ex_436]; rfl) (by decide) rfl (fun ls hl => ?_)
      refine lv_goto (tgt := 23) hx hb dL_law_1854 (by decide) ?_
      have hl := lv_sub hl [0, 1, 2, 3, 4] rfl
      rw [ex_436, nI_6] at hl
      exact ih (j + 1) σz_424 τz_430 f _ _ _ _ _ _ (by omega) (by omega) hI_427 hI_433 dp_435 (by omega) (by omega) hd0 hPX hDX hPM hDM hPO hDO hS hl
    by_cases c_437 : ((xs (nI (6 * j)).toNatClampNeg) &&& 63) = 22
    · refine lv_tableIn (tgt := 1211) hx hb dL_law_40 (by rw [c_437]; decide) (by rw [c_437]; decide) (by rw [c_437]; rfl) (by decide) ?_
      refine lv_aload_n hx hb dL_law_1211 rfl (lv_at hl 3 rfl) ?_
      refine lv_aload_n hx hb dL_law_1212 rfl (lv_at hl 4 rfl) ?_
      refine lv_iload hx hb dL_law_1213 (lv_at hl 0 rfl) ?_
      refine lv_iconst (v := 1) hx hb dL_law_1215 (by decide) ?_
      refine lv_iadd hx hb dL_law_1216 ?_
      refine va_sld hx hb hX hbl hbA hS (lw_ix (k := 1) hL hin (by decide) (by decide)) dL_law_1217 ?_
      refine lv_aload_n hx hb dL_law_1218 rfl (lv_at hl 4 rfl) ?_
      refine lv_iload hx hb dL_law_1219 (lv_at hl 0 rfl) ?_
      refine lv_iconst (v := 2) hx hb dL_law_1221 (by decide) ?_
      refine lv_iadd hx hb dL_law_1222 ?_
      refine va_sld hx hb hX hbl hbA hS (lw_ix (k := 2) hL hin (by decide) (by decide)) dL_law_1223 ?_
      refine lv_aload_n hx hb dL_law_1224 rfl (lv_at hl 4 rfl) ?_
      refine lv_iload hx hb dL_law_1225 (lv_at hl 0 rfl) ?_
      refine lv_iconst (v := 3) hx hb dL_law_1227 (by decide) ?_
      refine lv_iadd hx hb dL_law_1228 ?_
      refine va_sld hx hb hX hbl hbA hS (lw_ix (k := 3) hL hin (by decide) (by decide)) dL_law_1229 ?_
      have hF := gFree hDX hS hA
      refine va_calllD hd0 (va_runV_D (As := [.int (xs ((nI (6 * j)) + 1).toNatClampNeg), .int (xs ((nI (6 * j)) + 2).toNatClampNeg), .int (xs ((nI (6 * j)) + 3).toNatClampNeg)]) (rest := []) ⟨hx, hb, hml, hown, hts⟩ (n_X11_clean l dC dI ad cA adK adV H.size σ hIX (xs ((nI (6 * j)) + 1).toNatClampNeg) (xs ((nI (6 * j)) + 2).toNatClampNeg) (xs ((nI (6 * j)) + 3).toNatClampNeg) ) (cwV 3 hts gL0_X11_clean rfl rfl rfl (by decide +kernel) ⟨Nat.le_of_ble_eq_true rfl, Nat.le_of_ble_eq_true rfl⟩) ⟨gBlind, va_recv hKX hPX (ci := 10) (q0 := 0) rfl (at_10 rfl), gStart (As := [.ref (ad 0), .int (xs ((nI (6 * j)) + 1).toNatClampNeg), .int (xs ((nI (6 * j)) + 2).toNatClampNeg), .int (xs ((nI (6 * j)) + 3).toNatClampNeg)]) hPX hDX hKX0 hT hS hF (d)⟩ rfl rfl hl.1 rfl (lv_room (Nat.le_of_ble_eq_true rfl)) dL_law_1230 ⟨by omega, by omega⟩) hS (fun q _ h => hF q h) hF (fun r_438 σz_439 t H1 locs ht hvm hw hB hz1 hk1 hS d_440 hd0 => ?_)
      have hts := dr_words hts0 (d_440)
      have hKX := gKd hKX0 (d_440)
      have hKM := gKd hKM0 (d_440)
      have hown : (s.setDrawn (d_440)).vm.findClass RL = some m.cls := hown0
      have hX : va_X b L xs (s.setDrawn (d_440)) s.heap := hX0
      obtain ⟨hPX, hDX⟩ := gBack hF ht hB
      obtain ⟨hI_442, fc_443, hp_441⟩ := hw
      have hPM := gOther hPM hk1 (dj_G dj)
      have hPO := gOther hPO hk1 (dj_1 djX)
      generalize H1 = H at hPX hPM hPO hS ⊢
      refine lv_pop2_2 hx hb dL_law_1233 rfl ?_
      refine lv_aload_n hx hb dL_law_1234 rfl (lv_at hl 2 rfl) ?_
      refine lv_aload_n hx hb dL_law_1235 rfl (lv_at hl 4 rfl) ?_
      refine lv_iload hx hb dL_law_1236 (lv_at hl 0 rfl) ?_
      refine lv_iconst (v := 1) hx hb dL_law_1238 (by decide) ?_
      refine lv_iadd hx hb dL_law_1239 ?_
      refine va_sld hx hb hX hbl hbA hS (lw_ix (k := 1) hL hin (by decide) (by decide)) dL_law_1240 ?_
      refine lv_aload_n hx hb dL_law_1241 rfl (lv_at hl 4 rfl) ?_
      refine lv_iload hx hb dL_law_1242 (lv_at hl 0 rfl) ?_
      refine lv_iconst (v := 2) hx hb dL_law_1244 (by decide) ?_
      refine lv_iadd hx hb dL_law_1245 ?_
      refine va_sld hx hb hX hbl hbA hS (lw_ix (k := 2) hL hin (by decide) (by decide)) dL_law_1246 ?_
      refine lv_aload_n hx hb dL_law_1247 rfl (lv_at hl 4 rfl) ?_
      refine lv_iload hx hb dL_law_1248 (lv_at hl 0 rfl) ?_
      refine lv_iconst (v := 3) hx hb dL_law_1250 (by decide) ?_
      refine lv_iadd hx hb dL_law_1251 ?_
      refine va_sld hx hb hX hbl hbA hS (lw_ix (k := 3) hL hin (by decide) (by decide)) dL_law_1252 ?_
      have hF := gFree hDM hS hA
      refine va_calllD hd0 (va_runV_D (As := [.int (xs ((nI (6 * j)) + 1).toNatClampNeg), .int (xs ((nI (6 * j)) + 2).toNatClampNeg), .int (xs ((nI (6 * j)) + 3).toNatClampNeg)]) (rest := []) ⟨hx, hb, hml, hown, hts⟩ (n_X12_clean l dC dI am cM adK adV H.size τ hIM (xs ((nI (6 * j)) + 1).toNatClampNeg) (xs ((nI (6 * j)) + 2).toNatClampNeg) (xs ((nI (6 * j)) + 3).toNatClampNeg) hDp) (cwV 3 hts gL0_X12_clean rfl rfl rfl (by decide +kernel) ⟨Nat.le_of_ble_eq_true rfl, Nat.le_of_ble_eq_true rfl⟩) ⟨gBlind, va_recv hKM hPM (ci := 11) (q0 := 0) rfl (mat_11 rfl), gStart (As := [.ref (am 0), .int (xs ((nI (6 * j)) + 1).toNatClampNeg), .int (xs ((nI (6 * j)) + 2).toNatClampNeg), .int (xs ((nI (6 * j)) + 3).toNatClampNeg)]) hPM hDM hKM0 hT hS hF (d_440)⟩ rfl rfl hl.1 rfl (lv_room (Nat.le_of_ble_eq_true rfl)) dL_law_1253 ⟨by omega, by omega⟩) hS (fun q _ h => hF q h) hF (fun r_444 τz_445 t H1 locs ht hvm hw hB hz1 hk1 hS d_446 hd0 => ?_)
      have hts := dr_words hts0 (d_446)
      have hKX := gKd hKX0 (d_446)
      have hKM := gKd hKM0 (d_446)
      have hown : (s.setDrawn (d_446)).vm.findClass RL = some m.cls := hown0
      have hX : va_X b L xs (s.setDrawn (d_446)) s.heap := hX0
      obtain ⟨hPM, hDM⟩ := gBack hF ht hB
      obtain ⟨hI_448, fc_449, hp_447⟩ := hw
      have hPX := gOther hPX hk1 (dj_sym (dj_G dj))
      have hPO := gOther hPO hk1 (dj_1 djM)
      generalize H1 = H at hPX hPM hPO hS ⊢
      have dp_450 : Deep τz_445 := (Deep.fr hDp (fc_449.1 2 (by decide) (by decide)) (fc_449.1 4 (by decide) (by decide)) (fc_449.1 9 (by decide) (by decide)) (fc_449.1 11 (by decide) (by decide)) (fc_449.1 12 (by decide) (by decide)) (fc_449.1 17 (by decide) (by decide)) (fc_449.1 18 (by decide) (by decide)) (fc_449.2 20 (by decide)) (fc_449.2 21 (by decide)) (fc_449.2 28 (by decide)) (fc_449.2 64 (by decide)) (fc_449.2 65 (by decide)) (fc_449.2 68 (by decide)))
      refine lv_pop2_2 hx hb dL_law_1256 rfl ?_
      refine lv_goto (tgt := 1851) hx hb dL_law_1257 (by decide) ?_
      obtain ⟨x_451, ex_451⟩ : ∃ zz : Int32, zz = (nI (6 * j)) + 6 := ⟨_, rfl⟩
      refine lv_iinc (v := x_451) (lv' := [(4, .int x_451), (3, .ref lo), (2, .ref (am 0)), (1, .ref (ad 0)), (0, .ref b)]) hx hb dL_law_1851 hl (k := 0) rfl (by rw [ex_451]; rfl) (by decide) rfl (fun ls hl => ?_)
      refine lv_goto (tgt := 23) hx hb dL_law_1854 (by decide) ?_
      have hl := lv_sub hl [0, 1, 2, 3, 4] rfl
      rw [ex_451, nI_6] at hl
      exact ih (j + 1) σz_439 τz_445 f _ _ _ _ _ _ (by omega) (by omega) hI_442 hI_448 dp_450 (by omega) (by omega) hd0 hPX hDX hPM hDM hPO hDO hS hl
    by_cases c_452 : ((xs (nI (6 * j)).toNatClampNeg) &&& 63) = 23
    · refine lv_tableIn (tgt := 1260) hx hb dL_law_40 (by rw [c_452]; decide) (by rw [c_452]; decide) (by rw [c_452]; rfl) (by decide) ?_
      refine lv_aload_n hx hb dL_law_1260 rfl (lv_at hl 3 rfl) ?_
      refine lv_aload_n hx hb dL_law_1261 rfl (lv_at hl 4 rfl) ?_
      refine lv_iload hx hb dL_law_1262 (lv_at hl 0 rfl) ?_
      refine lv_iconst (v := 1) hx hb dL_law_1264 (by decide) ?_
      refine lv_iadd hx hb dL_law_1265 ?_
      refine va_sld hx hb hX hbl hbA hS (lw_ix (k := 1) hL hin (by decide) (by decide)) dL_law_1266 ?_
      refine lv_aload_n hx hb dL_law_1267 rfl (lv_at hl 4 rfl) ?_
      refine lv_iload hx hb dL_law_1268 (lv_at hl 0 rfl) ?_
      refine lv_iconst (v := 2) hx hb dL_law_1270 (by decide) ?_
      refine lv_iadd hx hb dL_law_1271 ?_
      refine va_sld hx hb hX hbl hbA hS (lw_ix (k := 2) hL hin (by decide) (by decide)) dL_law_1272 ?_
      refine lv_aload_n hx hb dL_law_1273 rfl (lv_at hl 4 rfl) ?_
      refine lv_iload hx hb dL_law_1274 (lv_at hl 0 rfl) ?_
      refine lv_iconst (v := 3) hx hb dL_law_1276 (by decide) ?_
      refine lv_iadd hx hb dL_law_1277 ?_
      refine va_sld hx hb hX hbl hbA hS (lw_ix (k := 3) hL hin (by decide) (by decide)) dL_law_1278 ?_
      have hF := gFree hDX hS hA
      refine va_calllD hd0 (va_runV_D (As := [.int (xs ((nI (6 * j)) + 1).toNatClampNeg), .int (xs ((nI (6 * j)) + 2).toNatClampNeg), .int (xs ((nI (6 * j)) + 3).toNatClampNeg)]) (rest := []) ⟨hx, hb, hml, hown, hts⟩ (n_X11_risk l dC dI ad cA adK adV H.size σ hIX (xs ((nI (6 * j)) + 1).toNatClampNeg) (xs ((nI (6 * j)) + 2).toNatClampNeg) (xs ((nI (6 * j)) + 3).toNatClampNeg) ) (cwV 3 hts gL0_X11_risk rfl rfl rfl (by decide +kernel) ⟨Nat.le_of_ble_eq_true rfl, Nat.le_of_ble_eq_true rfl⟩) ⟨gBlind, va_recv hKX hPX (ci := 10) (q0 := 0) rfl (at_10 rfl), gStart (As := [.ref (ad 0), .int (xs ((nI (6 * j)) + 1).toNatClampNeg), .int (xs ((nI (6 * j)) + 2).toNatClampNeg), .int (xs ((nI (6 * j)) + 3).toNatClampNeg)]) hPX hDX hKX0 hT hS hF (d)⟩ rfl rfl hl.1 rfl (lv_room (Nat.le_of_ble_eq_true rfl)) dL_law_1279 ⟨by omega, by omega⟩) hS (fun q _ h => hF q h) hF (fun r_453 σz_454 t H1 locs ht hvm hw hB hz1 hk1 hS d_455 hd0 => ?_)
      have hts := dr_words hts0 (d_455)
      have hKX := gKd hKX0 (d_455)
      have hKM := gKd hKM0 (d_455)
      have hown : (s.setDrawn (d_455)).vm.findClass RL = some m.cls := hown0
      have hX : va_X b L xs (s.setDrawn (d_455)) s.heap := hX0
      obtain ⟨hPX, hDX⟩ := gBack hF ht hB
      obtain ⟨hI_457, fc_458, hp_456⟩ := hw
      have hPM := gOther hPM hk1 (dj_G dj)
      have hPO := gOther hPO hk1 (dj_1 djX)
      generalize H1 = H at hPX hPM hPO hS ⊢
      refine lv_pop2_2 hx hb dL_law_1282 rfl ?_
      refine lv_aload_n hx hb dL_law_1283 rfl (lv_at hl 2 rfl) ?_
      refine lv_aload_n hx hb dL_law_1284 rfl (lv_at hl 4 rfl) ?_
      refine lv_iload hx hb dL_law_1285 (lv_at hl 0 rfl) ?_
      refine lv_iconst (v := 1) hx hb dL_law_1287 (by decide) ?_
      refine lv_iadd hx hb dL_law_1288 ?_
      refine va_sld hx hb hX hbl hbA hS (lw_ix (k := 1) hL hin (by decide) (by decide)) dL_law_1289 ?_
      refine lv_aload_n hx hb dL_law_1290 rfl (lv_at hl 4 rfl) ?_
      refine lv_iload hx hb dL_law_1291 (lv_at hl 0 rfl) ?_
      refine lv_iconst (v := 2) hx hb dL_law_1293 (by decide) ?_
      refine lv_iadd hx hb dL_law_1294 ?_
      refine va_sld hx hb hX hbl hbA hS (lw_ix (k := 2) hL hin (by decide) (by decide)) dL_law_1295 ?_
      refine lv_aload_n hx hb dL_law_1296 rfl (lv_at hl 4 rfl) ?_
      refine lv_iload hx hb dL_law_1297 (lv_at hl 0 rfl) ?_
      refine lv_iconst (v := 3) hx hb dL_law_1299 (by decide) ?_
      refine lv_iadd hx hb dL_law_1300 ?_
      refine va_sld hx hb hX hbl hbA hS (lw_ix (k := 3) hL hin (by decide) (by decide)) dL_law_1301 ?_
      have hF := gFree hDM hS hA
      refine va_calllD hd0 (va_runV_D (As := [.int (xs ((nI (6 * j)) + 1).toNatClampNeg), .int (xs ((nI (6 * j)) + 2).toNatClampNeg), .int (xs ((nI (6 * j)) + 3).toNatClampNeg)]) (rest := []) ⟨hx, hb, hml, hown, hts⟩ (n_X12_risk l dC dI am cM adK adV H.size τ hIM (xs ((nI (6 * j)) + 1).toNatClampNeg) (xs ((nI (6 * j)) + 2).toNatClampNeg) (xs ((nI (6 * j)) + 3).toNatClampNeg) hDp) (cwV 3 hts gL0_X12_risk rfl rfl rfl (by decide +kernel) ⟨Nat.le_of_ble_eq_true rfl, Nat.le_of_ble_eq_true rfl⟩) ⟨gBlind, va_recv hKM hPM (ci := 11) (q0 := 0) rfl (mat_11 rfl), gStart (As := [.ref (am 0), .int (xs ((nI (6 * j)) + 1).toNatClampNeg), .int (xs ((nI (6 * j)) + 2).toNatClampNeg), .int (xs ((nI (6 * j)) + 3).toNatClampNeg)]) hPM hDM hKM0 hT hS hF (d_455)⟩ rfl rfl hl.1 rfl (lv_room (Nat.le_of_ble_eq_true rfl)) dL_law_1302 ⟨by omega, by omega⟩) hS (fun q _ h => hF q h) hF (fun r_459 τz_460 t H1 locs ht hvm hw hB hz1 hk1 hS d_461 hd0 => ?_)
      have hts := dr_words hts0 (d_461)
      have hKX := gKd hKX0 (d_461)
      have hKM := gKd hKM0 (d_461)
      have hown : (s.setDrawn (d_461)).vm.findClass RL = some m.cls := hown0
      have hX : va_X b L xs (s.setDrawn (d_461)) s.heap := hX0
      obtain ⟨hPM, hDM⟩ := gBack hF ht hB
      obtain ⟨hI_463, fc_464, hp_462⟩ := hw
      have hPX := gOther hPX hk1 (dj_sym (dj_G dj))
      have hPO := gOther hPO hk1 (dj_1 djM)
      generalize H1 = H at hPX hPM hPO hS ⊢
      have dp_465 : Deep τz_460 := (Deep.fr hDp (fc_464.1 2 (by decide) (by decide)) (fc_464.1 4 (by decide) (by decide)) (fc_464.1 9 (by decide) (by decide)) (fc_464.1 11 (by decide) (by decide)) (fc_464.1 12 (by decide) (by decide)) (fc_464.1 17 (by decide) (by decide)) (fc_464.1 18 (by decide) (by decide)) (fc_464.2 20 (by decide)) (fc_464.2 21 (by decide)) (fc_464.2 28 (by decide)) (fc_464.2 64 (by decide)) (fc_464.2 65 (by decide)) (fc_464.2 68 (by decide)))
      refine lv_pop2_2 hx hb dL_law_1305 rfl ?_
      refine lv_goto (tgt := 1851) hx hb dL_law_1306 (by decide) ?_
      obtain ⟨x_466, ex_466⟩ : ∃ zz : Int32, zz = (nI (6 * j)) + 6 := ⟨_, rfl⟩
      refine lv_iinc (v := x_466) (lv' := [(4, .int x_466), (3, .ref lo), (2, .ref (am 0)), (1, .ref (ad 0)), (0, .ref b)]) hx hb dL_law_1851 hl (k := 0) rfl (by rw [ex_466]; rfl) (by decide) rfl (fun ls hl => ?_)
      refine lv_goto (tgt := 23) hx hb dL_law_1854 (by decide) ?_
      have hl := lv_sub hl [0, 1, 2, 3, 4] rfl
      rw [ex_466, nI_6] at hl
      exact ih (j + 1) σz_454 τz_460 f _ _ _ _ _ _ (by omega) (by omega) hI_457 hI_463 dp_465 (by omega) (by omega) hd0 hPX hDX hPM hDM hPO hDO hS hl
    by_cases c_467 : ((xs (nI (6 * j)).toNatClampNeg) &&& 63) = 24
    · refine lv_tableIn (tgt := 1309) hx hb dL_law_40 (by rw [c_467]; decide) (by rw [c_467]; decide) (by rw [c_467]; rfl) (by decide) ?_
      refine lv_aload_n hx hb dL_law_1309 rfl (lv_at hl 3 rfl) ?_
      refine lv_aload_n hx hb dL_law_1310 rfl (lv_at hl 4 rfl) ?_
      refine lv_iload hx hb dL_law_1311 (lv_at hl 0 rfl) ?_
      refine lv_iconst (v := 1) hx hb dL_law_1313 (by decide) ?_
      refine lv_iadd hx hb dL_law_1314 ?_
      refine va_sld hx hb hX hbl hbA hS (lw_ix (k := 1) hL hin (by decide) (by decide)) dL_law_1315 ?_
      refine lv_aload_n hx hb dL_law_1316 rfl (lv_at hl 4 rfl) ?_
      refine lv_iload hx hb dL_law_1317 (lv_at hl 0 rfl) ?_
      refine lv_iconst (v := 2) hx hb dL_law_1319 (by decide) ?_
      refine lv_iadd hx hb dL_law_1320 ?_
      refine va_sld hx hb hX hbl hbA hS (lw_ix (k := 2) hL hin (by decide) (by decide)) dL_law_1321 ?_
      refine lv_aload_n hx hb dL_law_1322 rfl (lv_at hl 4 rfl) ?_
      refine lv_iload hx hb dL_law_1323 (lv_at hl 0 rfl) ?_
      refine lv_iconst (v := 3) hx hb dL_law_1325 (by decide) ?_
      refine lv_iadd hx hb dL_law_1326 ?_
      refine va_sld hx hb hX hbl hbA hS (lw_ix (k := 3) hL hin (by decide) (by decide)) dL_law_1327 ?_
      refine lv_aload_n hx hb dL_law_1328 rfl (lv_at hl 4 rfl) ?_
      refine lv_iload hx hb dL_law_1329 (lv_at hl 0 rfl) ?_
      refine lv_iconst (v := 4) hx hb dL_law_1331 (by decide) ?_
      refine lv_iadd hx hb dL_law_1332 ?_
      refine va_sld hx hb hX hbl hbA hS (lw_ix (k := 4) hL hin (by decide) (by decide)) dL_law_1333 ?_
      refine lv_aload_n hx hb dL_law_1334 rfl (lv_at hl 4 rfl) ?_
      refine lv_iload hx hb dL_law_1335 (lv_at hl 0 rfl) ?_
      refine lv_iconst (v := 5) hx hb dL_law_1337 (by decide) ?_
      refine lv_iadd hx hb dL_law_1338 ?_
      refine va_sld hx hb hX hbl hbA hS (lw_ix (k := 5) hL hin (by decide) (by decide)) dL_law_1339 ?_
      refine lv_if_eq (tgt := 1347) hx hb dL_law_1340 (by decide) (fun c_468 => ?_) (fun c_468 => ?_)
      · refine lv_iconst (v := 0) hx hb dL_law_1347 (by decide) ?_
        have hF := gFree hDX hS hA
        refine va_calllD hd0 (va_runV_D (As := [.int (xs ((nI (6 * j)) + 1).toNatClampNeg), .int (xs ((nI (6 * j)) + 2).toNatClampNeg), .int (xs ((nI (6 * j)) + 3).toNatClampNeg), .int (xs ((nI (6 * j)) + 4).toNatClampNeg), .int 0]) (rest := []) ⟨hx, hb, hml, hown, hts⟩ (n_X11_bracket l dC dI ad cA adK adV H.size σ hIX (xs ((nI (6 * j)) + 1).toNatClampNeg) (xs ((nI (6 * j)) + 2).toNatClampNeg) (xs ((nI (6 * j)) + 3).toNatClampNeg) (xs ((nI (6 * j)) + 4).toNatClampNeg) 0 ) (cwV 5 hts gL0_X11_bracket rfl rfl rfl (by decide +kernel) ⟨Nat.le_of_ble_eq_true rfl, Nat.le_of_ble_eq_true rfl⟩) ⟨gBlind, va_recv hKX hPX (ci := 10) (q0 := 0) rfl (at_10 rfl), gStart (As := [.ref (ad 0), .int (xs ((nI (6 * j)) + 1).toNatClampNeg), .int (xs ((nI (6 * j)) + 2).toNatClampNeg), .int (xs ((nI (6 * j)) + 3).toNatClampNeg), .int (xs ((nI (6 * j)) + 4).toNatClampNeg), .int 0]) hPX hDX hKX0 hT hS hF (d)⟩ rfl rfl hl.1 rfl (lv_room (Nat.le_of_ble_eq_true rfl)) dL_law_1348 ⟨by omega, by omega⟩) hS (fun q _ h => hF q h) hF (fun r_469 σz_470 t H1 locs ht hvm hw hB hz1 hk1 hS d_471 hd0 => ?_)
        have hts := dr_words hts0 (d_471)
        have hKX := gKd hKX0 (d_471)
        have hKM := gKd hKM0 (d_471)
        have hown : (s.setDrawn (d_471)).vm.findClass RL = some m.cls := hown0
        have hX : va_X b L xs (s.setDrawn (d_471)) s.heap := hX0
        obtain ⟨hPX, hDX⟩ := gBack hF ht hB
        obtain ⟨hI_473, fc_474, hp_472⟩ := hw
        have hPM := gOther hPM hk1 (dj_G dj)
        have hPO := gOther hPO hk1 (dj_1 djX)
        generalize H1 = H at hPX hPM hPO hS ⊢
        refine lv_pop2_2 hx hb dL_law_1351 rfl ?_
        refine lv_aload_n hx hb dL_law_1352 rfl (lv_at hl 2 rfl) ?_
        refine lv_aload_n hx hb dL_law_1353 rfl (lv_at hl 4 rfl) ?_
        refine lv_iload hx hb dL_law_1354 (lv_at hl 0 rfl) ?_
        refine lv_iconst (v := 1) hx hb dL_law_1356 (by decide) ?_
        refine lv_iadd hx hb dL_law_1357 ?_
        refine va_sld hx hb hX hbl hbA hS (lw_ix (k := 1) hL hin (by decide) (by decide)) dL_law_1358 ?_
        refine lv_aload_n hx hb dL_law_1359 rfl (lv_at hl 4 rfl) ?_
        refine lv_iload hx hb dL_law_1360 (lv_at hl 0 rfl) ?_
        refine lv_iconst (v := 2) hx hb dL_law_1362 (by decide) ?_
        refine lv_iadd hx hb dL_law_1363 ?_
        refine va_sld hx hb hX hbl hbA hS (lw_ix (k := 2) hL hin (by decide) (by decide)) dL_law_1364 ?_
        refine lv_aload_n hx hb dL_law_1365 rfl (lv_at hl 4 rfl) ?_
        refine lv_iload hx hb dL_law_1366 (lv_at hl 0 rfl) ?_
        refine lv_iconst (v := 3) hx hb dL_law_1368 (by decide) ?_
        refine lv_iadd hx hb dL_law_1369 ?_
        refine va_sld hx hb hX hbl hbA hS (lw_ix (k := 3) hL hin (by decide) (by decide)) dL_law_1370 ?_
        refine lv_aload_n hx hb dL_law_1371 rfl (lv_at hl 4 rfl) ?_
        refine lv_iload hx hb dL_law_1372 (lv_at hl 0 rfl) ?_
        refine lv_iconst (v := 4) hx hb dL_law_1374 (by decide) ?_
        refine lv_iadd hx hb dL_law_1375 ?_
        refine va_sld hx hb hX hbl hbA hS (lw_ix (k := 4) hL hin (by decide) (by decide)) dL_law_1376 ?_
        refine lv_aload_n hx hb dL_law_1377 rfl (lv_at hl 4 rfl) ?_
        refine lv_iload hx hb dL_law_1378 (lv_at hl 0 rfl) ?_
        refine lv_iconst (v := 5) hx hb dL_law_1380 (by decide) ?_
        refine lv_iadd hx hb dL_law_1381 ?_
        refine va_sld hx hb hX hbl hbA hS (lw_ix (k := 5) hL hin (by decide) (by decide)) dL_law_1382 ?_
        refine lv_if_eq (tgt := 1390) hx hb dL_law_1383 (by decide) (fun c_475 => ?_) (fun c_475 => ?_)
        · refine lv_iconst (v := 0) hx hb dL_law_1390 (by decide) ?_
          have hF := gFree hDM hS hA
          refine va_calllD hd0 (va_runV_D (As := [.int (xs ((nI (6 * j)) + 1).toNatClampNeg), .int (xs ((nI (6 * j)) + 2).toNatClampNeg), .int (xs ((nI (6 * j)) + 3).toNatClampNeg), .int (xs ((nI (6 * j)) + 4).toNatClampNeg), .int 0]) (rest := []) ⟨hx, hb, hml, hown, hts⟩ (n_X12_bracket l dC dI am cM adK adV H.size τ hIM (xs ((nI (6 * j)) + 1).toNatClampNeg) (xs ((nI (6 * j)) + 2).toNatClampNeg) (xs ((nI (6 * j)) + 3).toNatClampNeg) (xs ((nI (6 * j)) + 4).toNatClampNeg) 0 hDp) (cwV 5 hts gL0_X12_bracket rfl rfl rfl (by decide +kernel) ⟨Nat.le_of_ble_eq_true rfl, Nat.le_of_ble_eq_true rfl⟩) ⟨gBlind, va_recv hKM hPM (ci := 11) (q0 := 0) rfl (mat_11 rfl), gStart (As := [.ref (am 0), .int (xs ((nI (6 * j)) + 1).toNatClampNeg), .int (xs ((nI (6 * j)) + 2).toNatClampNeg), .int (xs ((nI (6 * j)) + 3).toNatClampNeg), .int (xs ((nI (6 * j)) + 4).toNatClampNeg), .int 0]) hPM hDM hKM0 hT hS hF (d_471)⟩ rfl rfl hl.1 rfl (lv_room (Nat.le_of_ble_eq_true rfl)) dL_law_1391 ⟨by omega, by omega⟩) hS (fun q _ h => hF q h) hF (fun r_476 τz_477 t H1 locs ht hvm hw hB hz1 hk1 hS d_478 hd0 => ?_)
          have hts := dr_words hts0 (d_478)
          have hKX := gKd hKX0 (d_478)
          have hKM := gKd hKM0 (d_478)
          have hown : (s.setDrawn (d_478)).vm.findClass RL = some m.cls := hown0
          have hX : va_X b L xs (s.setDrawn (d_478)) s.heap := hX0
          obtain ⟨hPM, hDM⟩ := gBack hF ht hB
          obtain ⟨hI_480, fc_481, hp_479⟩ := hw
          have hPX := gOther hPX hk1 (dj_sym (dj_G dj))
          have hPO := gOther hPO hk1 (dj_1 djM)
          generalize H1 = H at hPX hPM hPO hS ⊢
          have dp_482 : Deep τz_477 := (Deep.fr hDp (fc_481.1 2 (by decide) (by decide)) (fc_481.1 4 (by decide) (by decide)) (fc_481.1 9 (by decide) (by decide)) (fc_481.1 11 (by decide) (by decide)) (fc_481.1 12 (by decide) (by decide)) (fc_481.1 17 (by decide) (by decide)) (fc_481.1 18 (by decide) (by decide)) (fc_481.2 20 (by decide)) (fc_481.2 21 (by decide)) (fc_481.2 28 (by decide)) (fc_481.2 64 (by decide)) (fc_481.2 65 (by decide)) (fc_481.2 68 (by decide)))
          refine lv_pop2_2 hx hb dL_law_1394 rfl ?_
          refine lv_goto (tgt := 1851) hx hb dL_law_1395 (by decide) ?_
          obtain ⟨x_483, ex_483⟩ : ∃ zz : Int32, zz = (nI (6 * j)) + 6 := ⟨_, rfl⟩
          refine lv_iinc (v := x_483) (lv' := [(4, .int x_483), (3, .ref lo), (2, .ref (am 0)), (1, .ref (ad 0)), (0, .ref b)]) hx hb dL_law_1851 hl (k := 0) rfl (by rw [ex_483]; rfl) (by decide) rfl (fun ls hl => ?_)
          refine lv_goto (tgt := 23) hx hb dL_law_1854 (by decide) ?_
          have hl := lv_sub hl [0, 1, 2, 3, 4] rfl
          rw [ex_483, nI_6] at hl
          exact ih (j + 1) σz_470 τz_477 f _ _ _ _ _ _ (by omega) (by omega) hI_473 hI_480 dp_482 (by omega) (by omega) hd0 hPX hDX hPM hDM hPO hDO hS hl
        · exact absurd c_468 c_475
      · refine lv_iconst (v := 1) hx hb dL_law_1343 (by decide) ?_
        refine lv_goto (tgt := 1348) hx hb dL_law_1344 (by decide) ?_
        have hF := gFree hDX hS hA
        refine va_calllD hd0 (va_runV_D (As := [.int (xs ((nI (6 * j)) + 1).toNatClampNeg), .int (xs ((nI (6 * j)) + 2).toNatClampNeg), .int (xs ((nI (6 * j)) + 3).toNatClampNeg), .int (xs ((nI (6 * j)) + 4).toNatClampNeg), .int 1]) (rest := []) ⟨hx, hb, hml, hown, hts⟩ (n_X11_bracket l dC dI ad cA adK adV H.size σ hIX (xs ((nI (6 * j)) + 1).toNatClampNeg) (xs ((nI (6 * j)) + 2).toNatClampNeg) (xs ((nI (6 * j)) + 3).toNatClampNeg) (xs ((nI (6 * j)) + 4).toNatClampNeg) 1 ) (cwV 5 hts gL0_X11_bracket rfl rfl rfl (by decide +kernel) ⟨Nat.le_of_ble_eq_true rfl, Nat.le_of_ble_eq_true rfl⟩) ⟨gBlind, va_recv hKX hPX (ci := 10) (q0 := 0) rfl (at_10 rfl), gStart (As := [.ref (ad 0), .int (xs ((nI (6 * j)) + 1).toNatClampNeg), .int (xs ((nI (6 * j)) + 2).toNatClampNeg), .int (xs ((nI (6 * j)) + 3).toNatClampNeg), .int (xs ((nI (6 * j)) + 4).toNatClampNeg), .int 1]) hPX hDX hKX0 hT hS hF (d)⟩ rfl rfl hl.1 rfl (lv_room (Nat.le_of_ble_eq_true rfl)) dL_law_1348 ⟨by omega, by omega⟩) hS (fun q _ h => hF q h) hF (fun r_484 σz_485 t H1 locs ht hvm hw hB hz1 hk1 hS d_486 hd0 => ?_)
        have hts := dr_words hts0 (d_486)
        have hKX := gKd hKX0 (d_486)
        have hKM := gKd hKM0 (d_486)
        have hown : (s.setDrawn (d_486)).vm.findClass RL = some m.cls := hown0
        have hX : va_X b L xs (s.setDrawn (d_486)) s.heap := hX0
        obtain ⟨hPX, hDX⟩ := gBack hF ht hB
        obtain ⟨hI_488, fc_489, hp_487⟩ := hw
        have hPM := gOther hPM hk1 (dj_G dj)
        have hPO := gOther hPO hk1 (dj_1 djX)
        generalize H1 = H at hPX hPM hPO hS ⊢
        refine lv_pop2_2 hx hb dL_law_1351 rfl ?_
        refine lv_aload_n hx hb dL_law_1352 rfl (lv_at hl 2 rfl) ?_
        refine lv_aload_n hx hb dL_law_1353 rfl (lv_at hl 4 rfl) ?_
        refine lv_iload hx hb dL_law_1354 (lv_at hl 0 rfl) ?_
        refine lv_iconst (v := 1) hx hb dL_law_1356 (by decide) ?_
        refine lv_iadd hx hb dL_law_1357 ?_
        refine va_sld hx hb hX hbl hbA hS (lw_ix (k := 1) hL hin (by decide) (by decide)) dL_law_1358 ?_
        refine lv_aload_n hx hb dL_law_1359 rfl (lv_at hl 4 rfl) ?_
        refine lv_iload hx hb dL_law_1360 (lv_at hl 0 rfl) ?_
        refine lv_iconst (v := 2) hx hb dL_law_1362 (by decide) ?_
        refine lv_iadd hx hb dL_law_1363 ?_
        refine va_sld hx hb hX hbl hbA hS (lw_ix (k := 2) hL hin (by decide) (by decide)) dL_law_1364 ?_
        refine lv_aload_n hx hb dL_law_1365 rfl (lv_at hl 4 rfl) ?_
        refine lv_iload hx hb dL_law_1366 (lv_at hl 0 rfl) ?_
        refine lv_iconst (v := 3) hx hb dL_law_1368 (by decide) ?_
        refine lv_iadd hx hb dL_law_1369 ?_
        refine va_sld hx hb hX hbl hbA hS (lw_ix (k := 3) hL hin (by decide) (by decide)) dL_law_1370 ?_
        refine lv_aload_n hx hb dL_law_1371 rfl (lv_at hl 4 rfl) ?_
        refine lv_iload hx hb dL_law_1372 (lv_at hl 0 rfl) ?_
        refine lv_iconst (v := 4) hx hb dL_law_1374 (by decide) ?_
        refine lv_iadd hx hb dL_law_1375 ?_
        refine va_sld hx hb hX hbl hbA hS (lw_ix (k := 4) hL hin (by decide) (by decide)) dL_law_1376 ?_
        refine lv_aload_n hx hb dL_law_1377 rfl (lv_at hl 4 rfl) ?_
        refine lv_iload hx hb dL_law_1378 (lv_at hl 0 rfl) ?_
        refine lv_iconst (v := 5) hx hb dL_law_1380 (by decide) ?_
        refine lv_iadd hx hb dL_law_1381 ?_
        refine va_sld hx hb hX hbl hbA hS (lw_ix (k := 5) hL hin (by decide) (by decide)) dL_law_1382 ?_
        refine lv_if_eq (tgt := 1390) hx hb dL_law_1383 (by decide) (fun c_490 => ?_) (fun c_490 => ?_)
        · exact absurd c_490 c_468
        · refine lv_iconst (v := 1) hx hb dL_law_1386 (by decide) ?_
          refine lv_goto (tgt := 1391) hx hb dL_law_1387 (by decide) ?_
          have hF := gFree hDM hS hA
          refine va_calllD hd0 (va_runV_D (As := [.int (xs ((nI (6 * j)) + 1).toNatClampNeg), .int (xs ((nI (6 * j)) + 2).toNatClampNeg), .int (xs ((nI (6 * j)) + 3).toNatClampNeg), .int (xs ((nI (6 * j)) + 4).toNatClampNeg), .int 1]) (rest := []) ⟨hx, hb, hml, hown, hts⟩ (n_X12_bracket l dC dI am cM adK adV H.size τ hIM (xs ((nI (6 * j)) + 1).toNatClampNeg) (xs ((nI (6 * j)) + 2).toNatClampNeg) (xs ((nI (6 * j)) + 3).toNatClampNeg) (xs ((nI (6 * j)) + 4).toNatClampNeg) 1 hDp) (cwV 5 hts gL0_X12_bracket rfl rfl rfl (by decide +kernel) ⟨Nat.le_of_ble_eq_true rfl, Nat.le_of_ble_eq_true rfl⟩) ⟨gBlind, va_recv hKM hPM (ci := 11) (q0 := 0) rfl (mat_11 rfl), gStart (As := [.ref (am 0), .int (xs ((nI (6 * j)) + 1).toNatClampNeg), .int (xs ((nI (6 * j)) + 2).toNatClampNeg), .int (xs ((nI (6 * j)) + 3).toNatClampNeg), .int (xs ((nI (6 * j)) + 4).toNatClampNeg), .int 1]) hPM hDM hKM0 hT hS hF (d_486)⟩ rfl rfl hl.1 rfl (lv_room (Nat.le_of_ble_eq_true rfl)) dL_law_1391 ⟨by omega, by omega⟩) hS (fun q _ h => hF q h) hF (fun r_491 τz_492 t H1 locs ht hvm hw hB hz1 hk1 hS d_493 hd0 => ?_)
          have hts := dr_words hts0 (d_493)
          have hKX := gKd hKX0 (d_493)
          have hKM := gKd hKM0 (d_493)
          have hown : (s.setDrawn (d_493)).vm.findClass RL = some m.cls := hown0
          have hX : va_X b L xs (s.setDrawn (d_493)) s.heap := hX0
          obtain ⟨hPM, hDM⟩ := gBack hF ht hB
          obtain ⟨hI_495, fc_496, hp_494⟩ := hw
          have hPX := gOther hPX hk1 (dj_sym (dj_G dj))
          have hPO := gOther hPO hk1 (dj_1 djM)
          generalize H1 = H at hPX hPM hPO hS ⊢
          have dp_497 : Deep τz_492 := (Deep.fr hDp (fc_496.1 2 (by decide) (by decide)) (fc_496.1 4 (by decide) (by decide)) (fc_496.1 9 (by decide) (by decide)) (fc_496.1 11 (by decide) (by decide)) (fc_496.1 12 (by decide) (by decide)) (fc_496.1 17 (by decide) (by decide)) (fc_496.1 18 (by decide) (by decide)) (fc_496.2 20 (by decide)) (fc_496.2 21 (by decide)) (fc_496.2 28 (by decide)) (fc_496.2 64 (by decide)) (fc_496.2 65 (by decide)) (fc_496.2 68 (by decide)))
          refine lv_pop2_2 hx hb dL_law_1394 rfl ?_
          refine lv_goto (tgt := 1851) hx hb dL_law_1395 (by decide) ?_
          obtain ⟨x_498, ex_498⟩ : ∃ zz : Int32, zz = (nI (6 * j)) + 6 := ⟨_, rfl⟩
          refine lv_iinc (v := x_498) (lv' := [(4, .int x_498), (3, .ref lo), (2, .ref (am 0)), (1, .ref (ad 0)), (0, .ref b)]) hx hb dL_law_1851 hl (k := 0) rfl (by rw [ex_498]; rfl) (by decide) rfl (fun ls hl => ?_)
          refine lv_goto (tgt := 23) hx hb dL_law_1854 (by decide) ?_
          have hl := lv_sub hl [0, 1, 2, 3, 4] rfl
          rw [ex_498, nI_6] at hl
          exact ih (j + 1) σz_485 τz_492 f _ _ _ _ _ _ (by omega) (by omega) hI_488 hI_495 dp_497 (by omega) (by omega) hd0 hPX hDX hPM hDM hPO hDO hS hl
    by_cases c_499 : ((xs (nI (6 * j)).toNatClampNeg) &&& 63) = 25
    · refine lv_tableIn (tgt := 1398) hx hb dL_law_40 (by rw [c_499]; decide) (by rw [c_499]; decide) (by rw [c_499]; rfl) (by decide) ?_
      refine lv_aload_n hx hb dL_law_1398 rfl (lv_at hl 3 rfl) ?_
      refine lv_aload_n hx hb dL_law_1399 rfl (lv_at hl 4 rfl) ?_
      refine lv_iload hx hb dL_law_1400 (lv_at hl 0 rfl) ?_
      refine lv_iconst (v := 1) hx hb dL_law_1402 (by decide) ?_
      refine lv_iadd hx hb dL_law_1403 ?_
      refine va_sld hx hb hX hbl hbA hS (lw_ix (k := 1) hL hin (by decide) (by decide)) dL_law_1404 ?_
      refine lv_aload_n hx hb dL_law_1405 rfl (lv_at hl 4 rfl) ?_
      refine lv_iload hx hb dL_law_1406 (lv_at hl 0 rfl) ?_
      refine lv_iconst (v := 2) hx hb dL_law_1408 (by decide) ?_
      refine lv_iadd hx hb dL_law_1409 ?_
      refine va_sld hx hb hX hbl hbA hS (lw_ix (k := 2) hL hin (by decide) (by decide)) dL_law_1410 ?_
      refine lv_aload_n hx hb dL_law_1411 rfl (lv_at hl 4 rfl) ?_
      refine lv_iload hx hb dL_law_1412 (lv_at hl 0 rfl) ?_
      refine lv_iconst (v := 3) hx hb dL_law_1414 (by decide) ?_
      refine lv_iadd hx hb dL_law_1415 ?_
      refine va_sld hx hb hX hbl hbA hS (lw_ix (k := 3) hL hin (by decide) (by decide)) dL_law_1416 ?_
      have hF := gFree hDX hS hA
      refine va_calliD hd0 (va_runV_D (As := [.int (xs ((nI (6 * j)) + 1).toNatClampNeg), .int (xs ((nI (6 * j)) + 2).toNatClampNeg), .int (xs ((nI (6 * j)) + 3).toNatClampNeg)]) (rest := []) ⟨hx, hb, hml, hown, hts⟩ (n_X11_narrows l dC dI ad cA adK adV H.size σ hIX (xs ((nI (6 * j)) + 1).toNatClampNeg) (xs ((nI (6 * j)) + 2).toNatClampNeg) (xs ((nI (6 * j)) + 3).toNatClampNeg) ) (cwV 3 hts gL0_X11_narrows rfl rfl rfl (by decide +kernel) ⟨Nat.le_of_ble_eq_true rfl, Nat.le_of_ble_eq_true rfl⟩) ⟨gBlind, va_recv hKX hPX (ci := 10) (q0 := 0) rfl (at_10 rfl), gStart (As := [.ref (ad 0), .int (xs ((nI (6 * j)) + 1).toNatClampNeg), .int (xs ((nI (6 * j)) + 2).toNatClampNeg), .int (xs ((nI (6 * j)) + 3).toNatClampNeg)]) hPX hDX hKX0 hT hS hF (d)⟩ rfl rfl hl.1 rfl (lv_room (Nat.le_of_ble_eq_true rfl)) dL_law_1417 ⟨by omega, by omega⟩) hS (fun q _ h => hF q h) hF (fun r_500 σz_501 t H1 locs ht hvm hw hB hz1 hk1 hS d_502 hd0 => ?_)
      have hts := dr_words hts0 (d_502)
      have hKX := gKd hKX0 (d_502)
      have hKM := gKd hKM0 (d_502)
      have hown : (s.setDrawn (d_502)).vm.findClass RL = some m.cls := hown0
      have hX : va_X b L xs (s.setDrawn (d_502)) s.heap := hX0
      obtain ⟨hPX, hDX⟩ := gBack hF ht hB
      obtain ⟨hI_504, fc_505, hp_503⟩ := hw
      have hPM := gOther hPM hk1 (dj_G dj)
      have hPO := gOther hPO hk1 (dj_1 djX)
      generalize H1 = H at hPX hPM hPO hS ⊢
      refine lv_pop hx hb dL_law_1420 rfl ?_
      refine lv_aload_n hx hb dL_law_1421 rfl (lv_at hl 2 rfl) ?_
      refine lv_aload_n hx hb dL_law_1422 rfl (lv_at hl 4 rfl) ?_
      refine lv_iload hx hb dL_law_1423 (lv_at hl 0 rfl) ?_
      refine lv_iconst (v := 1) hx hb dL_law_1425 (by decide) ?_
      refine lv_iadd hx hb dL_law_1426 ?_
      refine va_sld hx hb hX hbl hbA hS (lw_ix (k := 1) hL hin (by decide) (by decide)) dL_law_1427 ?_
      refine lv_aload_n hx hb dL_law_1428 rfl (lv_at hl 4 rfl) ?_
      refine lv_iload hx hb dL_law_1429 (lv_at hl 0 rfl) ?_
      refine lv_iconst (v := 2) hx hb dL_law_1431 (by decide) ?_
      refine lv_iadd hx hb dL_law_1432 ?_
      refine va_sld hx hb hX hbl hbA hS (lw_ix (k := 2) hL hin (by decide) (by decide)) dL_law_1433 ?_
      refine lv_aload_n hx hb dL_law_1434 rfl (lv_at hl 4 rfl) ?_
      refine lv_iload hx hb dL_law_1435 (lv_at hl 0 rfl) ?_
      refine lv_iconst (v := 3) hx hb dL_law_1437 (by decide) ?_
      refine lv_iadd hx hb dL_law_1438 ?_
      refine va_sld hx hb hX hbl hbA hS (lw_ix (k := 3) hL hin (by decide) (by decide)) dL_law_1439 ?_
      have hF := gFree hDM hS hA
      refine va_calliD hd0 (va_runV_D (As := [.int (xs ((nI (6 * j)) + 1).toNatClampNeg), .int (xs ((nI (6 * j)) + 2).toNatClampNeg), .int (xs ((nI (6 * j)) + 3).toNatClampNeg)]) (rest := []) ⟨hx, hb, hml, hown, hts⟩ (n_X12_narrows l dC dI am cM adK adV H.size τ hIM (xs ((nI (6 * j)) + 1).toNatClampNeg) (xs ((nI (6 * j)) + 2).toNatClampNeg) (xs ((nI (6 * j)) + 3).toNatClampNeg) hDp) (cwV 3 hts gL0_X12_narrows rfl rfl rfl (by decide +kernel) ⟨Nat.le_of_ble_eq_true rfl, Nat.le_of_ble_eq_true rfl⟩) ⟨gBlind, va_recv hKM hPM (ci := 11) (q0 := 0) rfl (mat_11 rfl), gStart (As := [.ref (am 0), .int (xs ((nI (6 * j)) + 1).toNatClampNeg), .int (xs ((nI (6 * j)) + 2).toNatClampNeg), .int (xs ((nI (6 * j)) + 3).toNatClampNeg)]) hPM hDM hKM0 hT hS hF (d_502)⟩ rfl rfl hl.1 rfl (lv_room (Nat.le_of_ble_eq_true rfl)) dL_law_1440 ⟨by omega, by omega⟩) hS (fun q _ h => hF q h) hF (fun r_506 τz_507 t H1 locs ht hvm hw hB hz1 hk1 hS d_508 hd0 => ?_)
      have hts := dr_words hts0 (d_508)
      have hKX := gKd hKX0 (d_508)
      have hKM := gKd hKM0 (d_508)
      have hown : (s.setDrawn (d_508)).vm.findClass RL = some m.cls := hown0
      have hX : va_X b L xs (s.setDrawn (d_508)) s.heap := hX0
      obtain ⟨hPM, hDM⟩ := gBack hF ht hB
      obtain ⟨hI_510, fc_511, hp_509⟩ := hw
      have hPX := gOther hPX hk1 (dj_sym (dj_G dj))
      have hPO := gOther hPO hk1 (dj_1 djM)
      generalize H1 = H at hPX hPM hPO hS ⊢
      have dp_512 : Deep τz_507 := (Deep.fr hDp (fc_511.1 2 (by decide) (by decide)) (fc_511.1 4 (by decide) (by decide)) (fc_511.1 9 (by decide) (by decide)) (fc_511.1 11 (by decide) (by decide)) (fc_511.1 12 (by decide) (by decide)) (fc_511.1 17 (by decide) (by decide)) (fc_511.1 18 (by decide) (by decide)) (fc_511.2 20 (by decide)) (fc_511.2 21 (by decide)) (fc_511.2 28 (by decide)) (fc_511.2 64 (by decide)) (fc_511.2 65 (by decide)) (fc_511.2 68 (by decide)))
      refine lv_pop hx hb dL_law_1443 rfl ?_
      refine lv_goto (tgt := 1851) hx hb dL_law_1444 (by decide) ?_
      obtain ⟨x_513, ex_513⟩ : ∃ zz : Int32, zz = (nI (6 * j)) + 6 := ⟨_, rfl⟩
      refine lv_iinc (v := x_513) (lv' := [(4, .int x_513), (3, .ref lo), (2, .ref (am 0)), (1, .ref (ad 0)), (0, .ref b)]) hx hb dL_law_1851 hl (k := 0) rfl (by rw [ex_513]; rfl) (by decide) rfl (fun ls hl => ?_)
      refine lv_goto (tgt := 23) hx hb dL_law_1854 (by decide) ?_
      have hl := lv_sub hl [0, 1, 2, 3, 4] rfl
      rw [ex_513, nI_6] at hl
      exact ih (j + 1) σz_501 τz_507 f _ _ _ _ _ _ (by omega) (by omega) hI_504 hI_510 dp_512 (by omega) (by omega) hd0 hPX hDX hPM hDM hPO hDO hS hl
    by_cases c_514 : ((xs (nI (6 * j)).toNatClampNeg) &&& 63) = 26
    · refine lv_tableIn (tgt := 1447) hx hb dL_law_40 (by rw [c_514]; decide) (by rw [c_514]; decide) (by rw [c_514]; rfl) (by decide) ?_
      refine lv_aload_n hx hb dL_law_1447 rfl (lv_at hl 3 rfl) ?_
      refine lv_aload_n hx hb dL_law_1448 rfl (lv_at hl 4 rfl) ?_
      refine lv_iload hx hb dL_law_1449 (lv_at hl 0 rfl) ?_
      refine lv_iconst (v := 1) hx hb dL_law_1451 (by decide) ?_
      refine lv_iadd hx hb dL_law_1452 ?_
      refine va_sld hx hb hX hbl hbA hS (lw_ix (k := 1) hL hin (by decide) (by decide)) dL_law_1453 ?_
      refine lv_aload_n hx hb dL_law_1454 rfl (lv_at hl 4 rfl) ?_
      refine lv_iload hx hb dL_law_1455 (lv_at hl 0 rfl) ?_
      refine lv_iconst (v := 2) hx hb dL_law_1457 (by decide) ?_
      refine lv_iadd hx hb dL_law_1458 ?_
      refine va_sld hx hb hX hbl hbA hS (lw_ix (k := 2) hL hin (by decide) (by decide)) dL_law_1459 ?_
      refine lv_aload_n hx hb dL_law_1460 rfl (lv_at hl 4 rfl) ?_
      refine lv_iload hx hb dL_law_1461 (lv_at hl 0 rfl) ?_
      refine lv_iconst (v := 3) hx hb dL_law_1463 (by decide) ?_
      refine lv_iadd hx hb dL_law_1464 ?_
      refine va_sld hx hb hX hbl hbA hS (lw_ix (k := 3) hL hin (by decide) (by decide)) dL_law_1465 ?_
      have hF := gFree hDX hS hA
      refine va_calliD hd0 (va_runV_D (As := [.int (xs ((nI (6 * j)) + 1).toNatClampNeg), .int (xs ((nI (6 * j)) + 2).toNatClampNeg), .int (xs ((nI (6 * j)) + 3).toNatClampNeg)]) (rest := []) ⟨hx, hb, hml, hown, hts⟩ (n_X11_pointsAt l dC dI ad cA adK adV H.size σ hIX (xs ((nI (6 * j)) + 1).toNatClampNeg) (xs ((nI (6 * j)) + 2).toNatClampNeg) (xs ((nI (6 * j)) + 3).toNatClampNeg) ) (cwV 3 hts gL0_X11_pointsAt rfl rfl rfl (by decide +kernel) ⟨Nat.le_of_ble_eq_true rfl, Nat.le_of_ble_eq_true rfl⟩) ⟨gBlind, va_recv hKX hPX (ci := 10) (q0 := 0) rfl (at_10 rfl), gStart (As := [.ref (ad 0), .int (xs ((nI (6 * j)) + 1).toNatClampNeg), .int (xs ((nI (6 * j)) + 2).toNatClampNeg), .int (xs ((nI (6 * j)) + 3).toNatClampNeg)]) hPX hDX hKX0 hT hS hF (d)⟩ rfl rfl hl.1 rfl (lv_room (Nat.le_of_ble_eq_true rfl)) dL_law_1466 ⟨by omega, by omega⟩) hS (fun q _ h => hF q h) hF (fun r_515 σz_516 t H1 locs ht hvm hw hB hz1 hk1 hS d_517 hd0 => ?_)
      have hts := dr_words hts0 (d_517)
      have hKX := gKd hKX0 (d_517)
      have hKM := gKd hKM0 (d_517)
      have hown : (s.setDrawn (d_517)).vm.findClass RL = some m.cls := hown0
      have hX : va_X b L xs (s.setDrawn (d_517)) s.heap := hX0
      obtain ⟨hPX, hDX⟩ := gBack hF ht hB
      obtain ⟨hI_519, fc_520, hp_518⟩ := hw
      have hPM := gOther hPM hk1 (dj_G dj)
      have hPO := gOther hPO hk1 (dj_1 djX)
      generalize H1 = H at hPX hPM hPO hS ⊢
      refine lv_pop hx hb dL_law_1469 rfl ?_
      refine lv_aload_n hx hb dL_law_1470 rfl (lv_at hl 2 rfl) ?_
      refine lv_aload_n hx hb dL_law_1471 rfl (lv_at hl 4 rfl) ?_
      refine lv_iload hx hb dL_law_1472 (lv_at hl 0 rfl) ?_
      refine lv_iconst (v := 1) hx hb dL_law_1474 (by decide) ?_
      refine lv_iadd hx hb dL_law_1475 ?_
      refine va_sld hx hb hX hbl hbA hS (lw_ix (k := 1) hL hin (by decide) (by decide)) dL_law_1476 ?_
      refine lv_aload_n hx hb dL_law_1477 rfl (lv_at hl 4 rfl) ?_
      refine lv_iload hx hb dL_law_1478 (lv_at hl 0 rfl) ?_
      refine lv_iconst (v := 2) hx hb dL_law_1480 (by decide) ?_
      refine lv_iadd hx hb dL_law_1481 ?_
      refine va_sld hx hb hX hbl hbA hS (lw_ix (k := 2) hL hin (by decide) (by decide)) dL_law_1482 ?_
      refine lv_aload_n hx hb dL_law_1483 rfl (lv_at hl 4 rfl) ?_
      refine lv_iload hx hb dL_law_1484 (lv_at hl 0 rfl) ?_
      refine lv_iconst (v := 3) hx hb dL_law_1486 (by decide) ?_
      refine lv_iadd hx hb dL_law_1487 ?_
      refine va_sld hx hb hX hbl hbA hS (lw_ix (k := 3) hL hin (by decide) (by decide)) dL_law_1488 ?_
      have hF := gFree hDM hS hA
      refine va_calliD hd0 (va_runV_D (As := [.int (xs ((nI (6 * j)) + 1).toNatClampNeg), .int (xs ((nI (6 * j)) + 2).toNatClampNeg), .int (xs ((nI (6 * j)) + 3).toNatClampNeg)]) (rest := []) ⟨hx, hb, hml, hown, hts⟩ (n_X12_pointsAt l dC dI am cM adK adV H.size τ hIM (xs ((nI (6 * j)) + 1).toNatClampNeg) (xs ((nI (6 * j)) + 2).toNatClampNeg) (xs ((nI (6 * j)) + 3).toNatClampNeg) hDp) (cwV 3 hts gL0_X12_pointsAt rfl rfl rfl (by decide +kernel) ⟨Nat.le_of_ble_eq_true rfl, Nat.le_of_ble_eq_true rfl⟩) ⟨gBlind, va_recv hKM hPM (ci := 11) (q0 := 0) rfl (mat_11 rfl), gStart (As := [.ref (am 0), .int (xs ((nI (6 * j)) + 1).toNatClampNeg), .int (xs ((nI (6 * j)) + 2).toNatClampNeg), .int (xs ((nI (6 * j)) + 3).toNatClampNeg)]) hPM hDM hKM0 hT hS hF (d_517)⟩ rfl rfl hl.1 rfl (lv_room (Nat.le_of_ble_eq_true rfl)) dL_law_1489 ⟨by omega, by omega⟩) hS (fun q _ h => hF q h) hF (fun r_521 τz_522 t H1 locs ht hvm hw hB hz1 hk1 hS d_523 hd0 => ?_)
      have hts := dr_words hts0 (d_523)
      have hKX := gKd hKX0 (d_523)
      have hKM := gKd hKM0 (d_523)
      have hown : (s.setDrawn (d_523)).vm.findClass RL = some m.cls := hown0
      have hX : va_X b L xs (s.setDrawn (d_523)) s.heap := hX0
      obtain ⟨hPM, hDM⟩ := gBack hF ht hB
      obtain ⟨hI_525, fc_526, hp_524⟩ := hw
      have hPX := gOther hPX hk1 (dj_sym (dj_G dj))
      have hPO := gOther hPO hk1 (dj_1 djM)
      generalize H1 = H at hPX hPM hPO hS ⊢
      have dp_527 : Deep τz_522 := (Deep.fr hDp (fc_526.1 2 (by decide) (by decide)) (fc_526.1 4 (by decide) (by decide)) (fc_526.1 9 (by decide) (by decide)) (fc_526.1 11 (by decide) (by decide)) (fc_526.1 12 (by decide) (by decide)) (fc_526.1 17 (by decide) (by decide)) (fc_526.1 18 (by decide) (by decide)) (fc_526.2 20 (by decide)) (fc_526.2 21 (by decide)) (fc_526.2 28 (by decide)) (fc_526.2 64 (by decide)) (fc_526.2 65 (by decide)) (fc_526.2 68 (by decide)))
      refine lv_pop hx hb dL_law_1492 rfl ?_
      refine lv_goto (tgt := 1851) hx hb dL_law_1493 (by decide) ?_
      obtain ⟨x_528, ex_528⟩ : ∃ zz : Int32, zz = (nI (6 * j)) + 6 := ⟨_, rfl⟩
      refine lv_iinc (v := x_528) (lv' := [(4, .int x_528), (3, .ref lo), (2, .ref (am 0)), (1, .ref (ad 0)), (0, .ref b)]) hx hb dL_law_1851 hl (k := 0) rfl (by rw [ex_528]; rfl) (by decide) rfl (fun ls hl => ?_)
      refine lv_goto (tgt := 23) hx hb dL_law_1854 (by decide) ?_
      have hl := lv_sub hl [0, 1, 2, 3, 4] rfl
      rw [ex_528, nI_6] at hl
      exact ih (j + 1) σz_516 τz_522 f _ _ _ _ _ _ (by omega) (by omega) hI_519 hI_525 dp_527 (by omega) (by omega) hd0 hPX hDX hPM hDM hPO hDO hS hl
    by_cases c_529 : ((xs (nI (6 * j)).toNatClampNeg) &&& 63) = 27
    · refine lv_tableIn (tgt := 1496) hx hb dL_law_40 (by rw [c_529]; decide) (by rw [c_529]; decide) (by rw [c_529]; rfl) (by decide) ?_
      refine lv_aload_n hx hb dL_law_1496 rfl (lv_at hl 3 rfl) ?_
      refine lv_aload_n hx hb dL_law_1497 rfl (lv_at hl 4 rfl) ?_
      refine lv_iload hx hb dL_law_1498 (lv_at hl 0 rfl) ?_
      refine lv_iconst (v := 1) hx hb dL_law_1500 (by decide) ?_
      refine lv_iadd hx hb dL_law_1501 ?_
      refine va_sld hx hb hX hbl hbA hS (lw_ix (k := 1) hL hin (by decide) (by decide)) dL_law_1502 ?_
      refine lv_aload_n hx hb dL_law_1503 rfl (lv_at hl 4 rfl) ?_
      refine lv_iload hx hb dL_law_1504 (lv_at hl 0 rfl) ?_
      refine lv_iconst (v := 2) hx hb dL_law_1506 (by decide) ?_
      refine lv_iadd hx hb dL_law_1507 ?_
      refine va_sld hx hb hX hbl hbA hS (lw_ix (k := 2) hL hin (by decide) (by decide)) dL_law_1508 ?_
      have hF := gFree hDX hS hA
      refine va_calliD hd0 (va_runV_D (As := [.int (xs ((nI (6 * j)) + 1).toNatClampNeg), .int (xs ((nI (6 * j)) + 2).toNatClampNeg)]) (rest := []) ⟨hx, hb, hml, hown, hts⟩ (n_X11_quote l dC dI ad cA adK adV H.size σ hIX (xs ((nI (6 * j)) + 1).toNatClampNeg) (xs ((nI (6 * j)) + 2).toNatClampNeg) ) (cwV 2 hts gL0_X11_quote rfl rfl rfl (by decide +kernel) ⟨Nat.le_of_ble_eq_true rfl, Nat.le_of_ble_eq_true rfl⟩) ⟨gBlind, va_recv hKX hPX (ci := 10) (q0 := 0) rfl (at_10 rfl), gStart (As := [.ref (ad 0), .int (xs ((nI (6 * j)) + 1).toNatClampNeg), .int (xs ((nI (6 * j)) + 2).toNatClampNeg)]) hPX hDX hKX0 hT hS hF (d)⟩ rfl rfl hl.1 rfl (lv_room (Nat.le_of_ble_eq_true rfl)) dL_law_1509 ⟨by omega, by omega⟩) hS (fun q _ h => hF q h) hF (fun r_530 σz_531 t H1 locs ht hvm hw hB hz1 hk1 hS d_532 hd0 => ?_)
      have hts := dr_words hts0 (d_532)
      have hKX := gKd hKX0 (d_532)
      have hKM := gKd hKM0 (d_532)
      have hown : (s.setDrawn (d_532)).vm.findClass RL = some m.cls := hown0
      have hX : va_X b L xs (s.setDrawn (d_532)) s.heap := hX0
      obtain ⟨hPX, hDX⟩ := gBack hF ht hB
      obtain ⟨hI_534, fc_535, hp_533⟩ := hw
      have hPM := gOther hPM hk1 (dj_G dj)
      have hPO := gOther hPO hk1 (dj_1 djX)
      generalize H1 = H at hPX hPM hPO hS ⊢
      refine lv_pop hx hb dL_law_1512 rfl ?_
      refine lv_aload_n hx hb dL_law_1513 rfl (lv_at hl 2 rfl) ?_
      refine lv_aload_n hx hb dL_law_1514 rfl (lv_at hl 4 rfl) ?_
      refine lv_iload hx hb dL_law_1515 (lv_at hl 0 rfl) ?_
      refine lv_iconst (v := 1) hx hb dL_law_1517 (by decide) ?_
      refine lv_iadd hx hb dL_law_1518 ?_
      refine va_sld hx hb hX hbl hbA hS (lw_ix (k := 1) hL hin (by decide) (by decide)) dL_law_1519 ?_
      refine lv_aload_n hx hb dL_law_1520 rfl (lv_at hl 4 rfl) ?_
      refine lv_iload hx hb dL_law_1521 (lv_at hl 0 rfl) ?_
      refine lv_iconst (v := 2) hx hb dL_law_1523 (by decide) ?_
      refine lv_iadd hx hb dL_law_1524 ?_
      refine va_sld hx hb hX hbl hbA hS (lw_ix (k := 2) hL hin (by decide) (by decide)) dL_law_1525 ?_
      have hF := gFree hDM hS hA
      refine va_calliD hd0 (va_runV_D (As := [.int (xs ((nI (6 * j)) + 1).toNatClampNeg), .int (xs ((nI (6 * j)) + 2).toNatClampNeg)]) (rest := []) ⟨hx, hb, hml, hown, hts⟩ (n_X12_quote l dC dI am cM adK adV H.size τ hIM (xs ((nI (6 * j)) + 1).toNatClampNeg) (xs ((nI (6 * j)) + 2).toNatClampNeg) ) (cwV 2 hts gL0_X12_quote rfl rfl rfl (by decide +kernel) ⟨Nat.le_of_ble_eq_true rfl, Nat.le_of_ble_eq_true rfl⟩) ⟨gBlind, va_recv hKM hPM (ci := 11) (q0 := 0) rfl (mat_11 rfl), gStart (As := [.ref (am 0), .int (xs ((nI (6 * j)) + 1).toNatClampNeg), .int (xs ((nI (6 * j)) + 2).toNatClampNeg)]) hPM hDM hKM0 hT hS hF (d_532)⟩ rfl rfl hl.1 rfl (lv_room (Nat.le_of_ble_eq_true rfl)) dL_law_1526 ⟨by omega, by omega⟩) hS (fun q _ h => hF q h) hF (fun r_536 τz_537 t H1 locs ht hvm hw hB hz1 hk1 hS d_538 hd0 => ?_)
      have hts := dr_words hts0 (d_538)
      have hKX := gKd hKX0 (d_538)
      have hKM := gKd hKM0 (d_538)
      have hown : (s.setDrawn (d_538)).vm.findClass RL = some m.cls := hown0
      have hX : va_X b L xs (s.setDrawn (d_538)) s.heap := hX0
      obtain ⟨hPM, hDM⟩ := gBack hF ht hB
      obtain ⟨hI_540, fc_541, hp_539⟩ := hw
      have hPX := gOther hPX hk1 (dj_sym (dj_G dj))
      have hPO := gOther hPO hk1 (dj_1 djM)
      generalize H1 = H at hPX hPM hPO hS ⊢
      have dp_542 : Deep τz_537 := (Deep.fr hDp (fc_541.1 2 (by decide) (by decide)) (fc_541.1 4 (by decide) (by decide)) (fc_541.1 9 (by decide) (by decide)) (fc_541.1 11 (by decide) (by decide)) (fc_541.1 12 (by decide) (by decide)) (fc_541.1 17 (by decide) (by decide)) (fc_541.1 18 (by decide) (by decide)) (fc_541.2 20 (by decide)) (fc_541.2 21 (by decide)) (fc_541.2 28 (by decide)) (fc_541.2 64 (by decide)) (fc_541.2 65 (by decide)) (fc_541.2 68 (by decide)))
      refine lv_pop hx hb dL_law_1529 rfl ?_
      refine lv_goto (tgt := 1851) hx hb dL_law_1530 (by decide) ?_
      obtain ⟨x_543, ex_543⟩ : ∃ zz : Int32, zz = (nI (6 * j)) + 6 := ⟨_, rfl⟩
      refine lv_iinc (v := x_543) (lv' := [(4, .int x_543), (3, .ref lo), (2, .ref (am 0)), (1, .ref (ad 0)), (0, .ref b)]) hx hb dL_law_1851 hl (k := 0) rfl (by rw [ex_543]; rfl) (by decide) rfl (fun ls hl => ?_)
      refine lv_goto (tgt := 23) hx hb dL_law_1854 (by decide) ?_
      have hl := lv_sub hl [0, 1, 2, 3, 4] rfl
      rw [ex_543, nI_6] at hl
      exact ih (j + 1) σz_531 τz_537 f _ _ _ _ _ _ (by omega) (by omega) hI_534 hI_540 dp_542 (by omega) (by omega) hd0 hPX hDX hPM hDM hPO hDO hS hl
    by_cases c_544 : ((xs (nI (6 * j)).toNatClampNeg) &&& 63) = 28
    · refine lv_tableIn (tgt := 1533) hx hb dL_law_40 (by rw [c_544]; decide) (by rw [c_544]; decide) (by rw [c_544]; rfl) (by decide) ?_
      refine lv_aload_n hx hb dL_law_1533 rfl (lv_at hl 3 rfl) ?_
      refine lv_aload_n hx hb dL_law_1534 rfl (lv_at hl 4 rfl) ?_
      refine lv_iload hx hb dL_law_1535 (lv_at hl 0 rfl) ?_
      refine lv_iconst (v := 1) hx hb dL_law_1537 (by decide) ?_
      refine lv_iadd hx hb dL_law_1538 ?_
      refine va_sld hx hb hX hbl hbA hS (lw_ix (k := 1) hL hin (by decide) (by decide)) dL_law_1539 ?_
      have hF := gFree hDX hS hA
      refine va_calllD hd0 (va_runV_D (As := [.int (xs ((nI (6 * j)) + 1).toNatClampNeg)]) (rest := []) ⟨hx, hb, hml, hown, hts⟩ (n_X11_off l dC dI ad cA adK adV H.size σ hIX (xs ((nI (6 * j)) + 1).toNatClampNeg) ) (cwV 1 hts gL0_X11_off rfl rfl rfl (by decide +kernel) ⟨Nat.le_of_ble_eq_true rfl, Nat.le_of_ble_eq_true rfl⟩) ⟨gBlind, va_recv hKX hPX (ci := 10) (q0 := 0) rfl (at_10 rfl), gStart (As := [.ref (ad 0), .int (xs ((nI (6 * j)) + 1).toNatClampNeg)]) hPX hDX hKX0 hT hS hF (d)⟩ rfl rfl hl.1 rfl (lv_room (Nat.le_of_ble_eq_true rfl)) dL_law_1540 ⟨by omega, by omega⟩) hS (fun q _ h => hF q h) hF (fun r_545 σz_546 t H1 locs ht hvm hw hB hz1 hk1 hS d_547 hd0 => ?_)
      have hts := dr_words hts0 (d_547)
      have hKX := gKd hKX0 (d_547)
      have hKM := gKd hKM0 (d_547)
      have hown : (s.setDrawn (d_547)).vm.findClass RL = some m.cls := hown0
      have hX : va_X b L xs (s.setDrawn (d_547)) s.heap := hX0
      obtain ⟨hPX, hDX⟩ := gBack hF ht hB
      obtain ⟨hI_549, fc_550, hp_548⟩ := hw
      have hPM := gOther hPM hk1 (dj_G dj)
      have hPO := gOther hPO hk1 (dj_1 djX)
      generalize H1 = H at hPX hPM hPO hS ⊢
      refine lv_pop2_2 hx hb dL_law_1543 rfl ?_
      refine lv_aload_n hx hb dL_law_1544 rfl (lv_at hl 2 rfl) ?_
      refine lv_aload_n hx hb dL_law_1545 rfl (lv_at hl 4 rfl) ?_
      refine lv_iload hx hb dL_law_1546 (lv_at hl 0 rfl) ?_
      refine lv_iconst (v := 1) hx hb dL_law_1548 (by decide) ?_
      refine lv_iadd hx hb dL_law_1549 ?_
      refine va_sld hx hb hX hbl hbA hS (lw_ix (k := 1) hL hin (by decide) (by decide)) dL_law_1550 ?_
      have hF := gFree hDM hS hA
      refine va_calllD hd0 (va_runV_D (As := [.int (xs ((nI (6 * j)) + 1).toNatClampNeg)]) (rest := []) ⟨hx, hb, hml, hown, hts⟩ (n_X12_off l dC dI am cM adK adV H.size τ hIM (xs ((nI (6 * j)) + 1).toNatClampNeg) hDp) (cwV 1 hts gL0_X12_off rfl rfl rfl (by decide +kernel) ⟨Nat.le_of_ble_eq_true rfl, Nat.le_of_ble_eq_true rfl⟩) ⟨gBlind, va_recv hKM hPM (ci := 11) (q0 := 0) rfl (mat_11 rfl), gStart (As := [.ref (am 0), .int (xs ((nI (6 * j)) + 1).toNatClampNeg)]) hPM hDM hKM0 hT hS hF (d_547)⟩ rfl rfl hl.1 rfl (lv_room (Nat.le_of_ble_eq_true rfl)) dL_law_1551 ⟨by omega, by omega⟩) hS (fun q _ h => hF q h) hF (fun r_551 τz_552 t H1 locs ht hvm hw hB hz1 hk1 hS d_553 hd0 => ?_)
      have hts := dr_words hts0 (d_553)
      have hKX := gKd hKX0 (d_553)
      have hKM := gKd hKM0 (d_553)
      have hown : (s.setDrawn (d_553)).vm.findClass RL = some m.cls := hown0
      have hX : va_X b L xs (s.setDrawn (d_553)) s.heap := hX0
      obtain ⟨hPM, hDM⟩ := gBack hF ht hB
      obtain ⟨hI_555, fc_556, hp_554⟩ := hw
      have hPX := gOther hPX hk1 (dj_sym (dj_G dj))
      have hPO := gOther hPO hk1 (dj_1 djM)
      generalize H1 = H at hPX hPM hPO hS ⊢
      have dp_557 : Deep τz_552 := (Deep.fr hDp (fc_556.1 2 (by decide) (by decide)) (fc_556.1 4 (by decide) (by decide)) (fc_556.1 9 (by decide) (by decide)) (fc_556.1 11 (by decide) (by decide)) (fc_556.1 12 (by decide) (by decide)) (fc_556.1 17 (by decide) (by decide)) (fc_556.1 18 (by decide) (by decide)) (fc_556.2 20 (by decide)) (fc_556.2 21 (by decide)) (fc_556.2 28 (by decide)) (fc_556.2 64 (by decide)) (fc_556.2 65 (by decide)) (fc_556.2 68 (by decide)))
      refine lv_pop2_2 hx hb dL_law_1554 rfl ?_
      refine lv_goto (tgt := 1851) hx hb dL_law_1555 (by decide) ?_
      obtain ⟨x_558, ex_558⟩ : ∃ zz : Int32, zz = (nI (6 * j)) + 6 := ⟨_, rfl⟩
      refine lv_iinc (v := x_558) (lv' := [(4, .int x_558), (3, .ref lo), (2, .ref (am 0)), (1, .ref (ad 0)), (0, .ref b)]) hx hb dL_law_1851 hl (k := 0) rfl (by rw [ex_558]; rfl) (by decide) rfl (fun ls hl => ?_)
      refine lv_goto (tgt := 23) hx hb dL_law_1854 (by decide) ?_
      have hl := lv_sub hl [0, 1, 2, 3, 4] rfl
      rw [ex_558, nI_6] at hl
      exact ih (j + 1) σz_546 τz_552 f _ _ _ _ _ _ (by omega) (by omega) hI_549 hI_555 dp_557 (by omega) (by omega) hd0 hPX hDX hPM hDM hPO hDO hS hl
    by_cases c_559 : ((xs (nI (6 * j)).toNatClampNeg) &&& 63) = 29
    · refine lv_tableIn (tgt := 1558) hx hb dL_law_40 (by rw [c_559]; decide) (by rw [c_559]; decide) (by rw [c_559]; rfl) (by decide) ?_
      refine lv_aload_n hx hb dL_law_1558 rfl (lv_at hl 3 rfl) ?_
      have hF := gFree hDX hS hA
      refine va_calliD hd0 (va_runV_D (As := []) (rest := []) ⟨hx, hb, hml, hown, hts⟩ (n_X11_flat l dC dI ad cA adK adV H.size σ hIX  ) (cwV 0 hts gL0_X11_flat rfl rfl rfl (by decide +kernel) ⟨Nat.le_of_ble_eq_true rfl, Nat.le_of_ble_eq_true rfl⟩) ⟨gBlind, va_recv hKX hPX (ci := 10) (q0 := 0) rfl (at_10 rfl), gStart (As := [.ref (ad 0)]) hPX hDX hKX0 hT hS hF (d)⟩ rfl rfl hl.1 rfl (lv_room (Nat.le_of_ble_eq_true rfl)) dL_law_1559 ⟨by omega, by omega⟩) hS (fun q _ h => hF q h) hF (fun r_560 σz_561 t H1 locs ht hvm hw hB hz1 hk1 hS d_562 hd0 => ?_)
      have hts := dr_words hts0 (d_562)
      have hKX := gKd hKX0 (d_562)
      have hKM := gKd hKM0 (d_562)
      have hown : (s.setDrawn (d_562)).vm.findClass RL = some m.cls := hown0
      have hX : va_X b L xs (s.setDrawn (d_562)) s.heap := hX0
      obtain ⟨hPX, hDX⟩ := gBack hF ht hB
      obtain ⟨hI_564, fc_565, hp_563⟩ := hw
      have hPM := gOther hPM hk1 (dj_G dj)
      have hPO := gOther hPO hk1 (dj_1 djX)
      generalize H1 = H at hPX hPM hPO hS ⊢
      refine lv_pop hx hb dL_law_1562 rfl ?_
      refine lv_aload_n hx hb dL_law_1563 rfl (lv_at hl 2 rfl) ?_
      have hF := gFree hDM hS hA
      refine va_calliD hd0 (va_runV_D (As := []) (rest := []) ⟨hx, hb, hml, hown, hts⟩ (n_X12_flat l dC dI am cM adK adV H.size τ hIM  hDp) (cwV 0 hts gL0_X12_flat rfl rfl rfl (by decide +kernel) ⟨Nat.le_of_ble_eq_true rfl, Nat.le_of_ble_eq_true rfl⟩) ⟨gBlind, va_recv hKM hPM (ci := 11) (q0 := 0) rfl (mat_11 rfl), gStart (As := [.ref (am 0)]) hPM hDM hKM0 hT hS hF (d_562)⟩ rfl rfl hl.1 rfl (lv_room (Nat.le_of_ble_eq_true rfl)) dL_law_1564 ⟨by omega, by omega⟩) hS (fun q _ h => hF q h) hF (fun r_566 τz_567 t H1 locs ht hvm hw hB hz1 hk1 hS d_568 hd0 => ?_)
      have hts := dr_words hts0 (d_568)
      have hKX := gKd hKX0 (d_568)
      have hKM := gKd hKM0 (d_568)
      have hown : (s.setDrawn (d_568)).vm.findClass RL = some m.cls := hown0
      have hX : va_X b L xs (s.setDrawn (d_568)) s.heap := hX0
      obtain ⟨hPM, hDM⟩ := gBack hF ht hB
      obtain ⟨hI_570, fc_571, hp_569⟩ := hw
      have hPX := gOther hPX hk1 (dj_sym (dj_G dj))
      have hPO := gOther hPO hk1 (dj_1 djM)
      generalize H1 = H at hPX hPM hPO hS ⊢
      have dp_572 : Deep τz_567 := (Deep.fr hDp (fc_571.1 2 (by decide) (by decide)) (fc_571.1 4 (by decide) (by decide)) (fc_571.1 9 (by decide) (by decide)) (fc_571.1 11 (by decide) (by decide)) (fc_571.1 12 (by decide) (by decide)) (fc_571.1 17 (by decide) (by decide)) (fc_571.1 18 (by decide) (by decide)) (fc_571.2 20 (by decide)) (fc_571.2 21 (by decide)) (fc_571.2 28 (by decide)) (fc_571.2 64 (by decide)) (fc_571.2 65 (by decide)) (fc_571.2 68 (by decide)))
      refine lv_pop hx hb dL_law_1567 rfl ?_
      refine lv_goto (tgt := 1851) hx hb dL_law_1568 (by decide) ?_
      obtain ⟨x_573, ex_573⟩ : ∃ zz : Int32, zz = (nI (6 * j)) + 6 := ⟨_, rfl⟩
      refine lv_iinc (v := x_573) (lv' := [(4, .int x_573), (3, .ref lo), (2, .ref (am 0)), (1, .ref (ad 0)), (0, .ref b)]) hx hb dL_law_1851 hl (k := 0) rfl (by rw [ex_573]; rfl) (by decide) rfl (fun ls hl => ?_)
      refine lv_goto (tgt := 23) hx hb dL_law_1854 (by decide) ?_
      have hl := lv_sub hl [0, 1, 2, 3, 4] rfl
      rw [ex_573, nI_6] at hl
      exact ih (j + 1) σz_561 τz_567 f _ _ _ _ _ _ (by omega) (by omega) hI_564 hI_570 dp_572 (by omega) (by omega) hd0 hPX hDX hPM hDM hPO hDO hS hl
    by_cases c_574 : ((xs (nI (6 * j)).toNatClampNeg) &&& 63) = 30
    · refine lv_tableIn (tgt := 1571) hx hb dL_law_40 (by rw [c_574]; decide) (by rw [c_574]; decide) (by rw [c_574]; rfl) (by decide) ?_
      refine lv_aload_n hx hb dL_law_1571 rfl (lv_at hl 3 rfl) ?_
      have hF := gFree hDX hS hA
      refine va_calliD hd0 (va_runV_D (As := []) (rest := []) ⟨hx, hb, hml, hown, hts⟩ (n_X11_cheapest l dC dI ad cA adK adV H.size σ hIX  ) (cwV 0 hts gL0_X11_cheapest rfl rfl rfl (by decide +kernel) ⟨Nat.le_of_ble_eq_true rfl, Nat.le_of_ble_eq_true rfl⟩) ⟨gBlind, va_recv hKX hPX (ci := 10) (q0 := 0) rfl (at_10 rfl), gStart (As := [.ref (ad 0)]) hPX hDX hKX0 hT hS hF (d)⟩ rfl rfl hl.1 rfl (lv_room (Nat.le_of_ble_eq_true rfl)) dL_law_1572 ⟨by omega, by omega⟩) hS (fun q _ h => hF q h) hF (fun r_575 σz_576 t H1 locs ht hvm hw hB hz1 hk1 hS d_577 hd0 => ?_)
      have hts := dr_words hts0 (d_577)
      have hKX := gKd hKX0 (d_577)
      have hKM := gKd hKM0 (d_577)
      have hown : (s.setDrawn (d_577)).vm.findClass RL = some m.cls := hown0
      have hX : va_X b L xs (s.setDrawn (d_577)) s.heap := hX0
      obtain ⟨hPX, hDX⟩ := gBack hF ht hB
      obtain ⟨hI_579, fc_580, hp_578⟩ := hw
      have hPM := gOther hPM hk1 (dj_G dj)
      have hPO := gOther hPO hk1 (dj_1 djX)
      generalize H1 = H at hPX hPM hPO hS ⊢
      refine lv_pop hx hb dL_law_1575 rfl ?_
      refine lv_aload_n hx hb dL_law_1576 rfl (lv_at hl 2 rfl) ?_
      have hF := gFree hDM hS hA
      refine va_calliD hd0 (va_runV_D (As := []) (rest := []) ⟨hx, hb, hml, hown, hts⟩ (n_X12_cheapest l dC dI am cM adK adV H.size τ hIM  hDp) (cwV 0 hts gL0_X12_cheapest rfl rfl rfl (by decide +kernel) ⟨Nat.le_of_ble_eq_true rfl, Nat.le_of_ble_eq_true rfl⟩) ⟨gBlind, va_recv hKM hPM (ci := 11) (q0 := 0) rfl (mat_11 rfl), gStart (As := [.ref (am 0)]) hPM hDM hKM0 hT hS hF (d_577)⟩ rfl rfl hl.1 rfl (lv_room (Nat.le_of_ble_eq_true rfl)) dL_law_1577 ⟨by omega, by omega⟩) hS (fun q _ h => hF q h) hF (fun r_581 τz_582 t H1 locs ht hvm hw hB hz1 hk1 hS d_583 hd0 => ?_)
      have hts := dr_words hts0 (d_583)
      have hKX := gKd hKX0 (d_583)
      have hKM := gKd hKM0 (d_583)
      have hown : (s.setDrawn (d_583)).vm.findClass RL = some m.cls := hown0
      have hX : va_X b L xs (s.setDrawn (d_583)) s.heap := hX0
      obtain ⟨hPM, hDM⟩ := gBack hF ht hB
      obtain ⟨hI_585, fc_586, hp_584⟩ := hw
      have hPX := gOther hPX hk1 (dj_sym (dj_G dj))
      have hPO := gOther hPO hk1 (dj_1 djM)
      generalize H1 = H at hPX hPM hPO hS ⊢
      have dp_587 : Deep τz_582 := (Deep.fr hDp (fc_586.1 2 (by decide) (by decide)) (fc_586.1 4 (by decide) (by decide)) (fc_586.1 9 (by decide) (by decide)) (fc_586.1 11 (by decide) (by decide)) (fc_586.1 12 (by decide) (by decide)) (fc_586.1 17 (by decide) (by decide)) (fc_586.1 18 (by decide) (by decide)) (fc_586.2 20 (by decide)) (fc_586.2 21 (by decide)) (fc_586.2 28 (by decide)) (fc_586.2 64 (by decide)) (fc_586.2 65 (by decide)) (fc_586.2 68 (by decide)))
      refine lv_pop hx hb dL_law_1580 rfl ?_
      refine lv_goto (tgt := 1851) hx hb dL_law_1581 (by decide) ?_
      obtain ⟨x_588, ex_588⟩ : ∃ zz : Int32, zz = (nI (6 * j)) + 6 := ⟨_, rfl⟩
      refine lv_iinc (v := x_588) (lv' := [(4, .int x_588), (3, .ref lo), (2, .ref (am 0)), (1, .ref (ad 0)), (0, .ref b)]) hx hb dL_law_1851 hl (k := 0) rfl (by rw [ex_588]; rfl) (by decide) rfl (fun ls hl => ?_)
      refine lv_goto (tgt := 23) hx hb dL_law_1854 (by decide) ?_
      have hl := lv_sub hl [0, 1, 2, 3, 4] rfl
      rw [ex_588, nI_6] at hl
      exact ih (j + 1) σz_576 τz_582 f _ _ _ _ _ _ (by omega) (by omega) hI_579 hI_585 dp_587 (by omega) (by omega) hd0 hPX hDX hPM hDM hPO hDO hS hl
    by_cases c_589 : ((xs (nI (6 * j)).toNatClampNeg) &&& 63) = 31
    · refine lv_tableIn (tgt := 1584) hx hb dL_law_40 (by rw [c_589]; decide) (by rw [c_589]; decide) (by rw [c_589]; rfl) (by decide) ?_
      refine lv_aload_n hx hb dL_law_1584 rfl (lv_at hl 3 rfl) ?_
      have hF := gFree hDX hS hA
      refine va_calliD hd0 (va_runV_D (As := []) (rest := []) ⟨hx, hb, hml, hown, hts⟩ (n_X11_now l dC dI ad cA adK adV H.size σ hIX  ) (cwV 0 hts gL0_X11_now rfl rfl rfl (by decide +kernel) ⟨Nat.le_of_ble_eq_true rfl, Nat.le_of_ble_eq_true rfl⟩) ⟨gBlind, va_recv hKX hPX (ci := 10) (q0 := 0) rfl (at_10 rfl), gStart (As := [.ref (ad 0)]) hPX hDX hKX0 hT hS hF (d)⟩ rfl rfl hl.1 rfl (lv_room (Nat.le_of_ble_eq_true rfl)) dL_law_1585 ⟨by omega, by omega⟩) hS (fun q _ h => hF q h) hF (fun r_590 σz_591 t H1 locs ht hvm hw hB hz1 hk1 hS d_592 hd0 => ?_)
      have hts := dr_words hts0 (d_592)
      have hKX := gKd hKX0 (d_592)
      have hKM := gKd hKM0 (d_592)
      have hown : (s.setDrawn (d_592)).vm.findClass RL = some m.cls := hown0
      have hX : va_X b L xs (s.setDrawn (d_592)) s.heap := hX0
      obtain ⟨hPX, hDX⟩ := gBack hF ht hB
      obtain ⟨hI_594, fc_595, hp_593⟩ := hw
      have hPM := gOther hPM hk1 (dj_G dj)
      have hPO := gOther hPO hk1 (dj_1 djX)
      generalize H1 = H at hPX hPM hPO hS ⊢
      refine lv_pop hx hb dL_law_1588 rfl ?_
      refine lv_aload_n hx hb dL_law_1589 rfl (lv_at hl 2 rfl) ?_
      have hF := gFree hDM hS hA
      refine va_calliD hd0 (va_runV_D (As := []) (rest := []) ⟨hx, hb, hml, hown, hts⟩ (n_X12_now l dC dI am cM adK adV H.size τ hIM  ) (cwV 0 hts gL0_X12_now rfl rfl rfl (by decide +kernel) ⟨Nat.le_of_ble_eq_true rfl, Nat.le_of_ble_eq_true rfl⟩) ⟨gBlind, va_recv hKM hPM (ci := 11) (q0 := 0) rfl (mat_11 rfl), gStart (As := [.ref (am 0)]) hPM hDM hKM0 hT hS hF (d_592)⟩ rfl rfl hl.1 rfl (lv_room (Nat.le_of_ble_eq_true rfl)) dL_law_1590 ⟨by omega, by omega⟩) hS (fun q _ h => hF q h) hF (fun r_596 τz_597 t H1 locs ht hvm hw hB hz1 hk1 hS d_598 hd0 => ?_)
      have hts := dr_words hts0 (d_598)
      have hKX := gKd hKX0 (d_598)
      have hKM := gKd hKM0 (d_598)
      have hown : (s.setDrawn (d_598)).vm.findClass RL = some m.cls := hown0
      have hX : va_X b L xs (s.setDrawn (d_598)) s.heap := hX0
      obtain ⟨hPM, hDM⟩ := gBack hF ht hB
      obtain ⟨hI_600, fc_601, hp_599⟩ := hw
      have hPX := gOther hPX hk1 (dj_sym (dj_G dj))
      have hPO := gOther hPO hk1 (dj_1 djM)
      generalize H1 = H at hPX hPM hPO hS ⊢
      have dp_602 : Deep τz_597 := (Deep.fr hDp (fc_601.1 2 (by decide) (by decide)) (fc_601.1 4 (by decide) (by decide)) (fc_601.1 9 (by decide) (by decide)) (fc_601.1 11 (by decide) (by decide)) (fc_601.1 12 (by decide) (by decide)) (fc_601.1 17 (by decide) (by decide)) (fc_601.1 18 (by decide) (by decide)) (fc_601.2 20 (by decide)) (fc_601.2 21 (by decide)) (fc_601.2 28 (by decide)) (fc_601.2 64 (by decide)) (fc_601.2 65 (by decide)) (fc_601.2 68 (by decide)))
      refine lv_pop hx hb dL_law_1593 rfl ?_
      refine lv_goto (tgt := 1851) hx hb dL_law_1594 (by decide) ?_
      obtain ⟨x_603, ex_603⟩ : ∃ zz : Int32, zz = (nI (6 * j)) + 6 := ⟨_, rfl⟩
      refine lv_iinc (v := x_603) (lv' := [(4, .int x_603), (3, .ref lo), (2, .ref (am 0)), (1, .ref (ad 0)), (0, .ref b)]) hx hb dL_law_1851 hl (k := 0) rfl (by rw [ex_603]; rfl) (by decide) rfl (fun ls hl => ?_)
      refine lv_goto (tgt := 23) hx hb dL_law_1854 (by decide) ?_
      have hl := lv_sub hl [0, 1, 2, 3, 4] rfl
      rw [ex_603, nI_6] at hl
      exact ih (j + 1) σz_591 τz_597 f _ _ _ _ _ _ (by omega) (by omega) hI_594 hI_600 dp_602 (by omega) (by omega) hd0 hPX hDX hPM hDM hPO hDO hS hl
    by_cases c_604 : ((xs (nI (6 * j)).toNatClampNeg) &&& 63) = 32
    · refine lv_tableIn (tgt := 1597) hx hb dL_law_40 (by rw [c_604]; decide) (by rw [c_604]; decide) (by rw [c_604]; rfl) (by decide) ?_
      refine lv_aload_n hx hb dL_law_1597 rfl (lv_at hl 3 rfl) ?_
      have hF := gFree hDX hS hA
      refine va_calllD hd0 (va_runV_D (As := []) (rest := []) ⟨hx, hb, hml, hown, hts⟩ (n_X11_cash l dC dI ad cA adK adV H.size σ hIX  ) (cwV 0 hts gL0_X11_cash rfl rfl rfl (by decide +kernel) ⟨Nat.le_of_ble_eq_true rfl, Nat.le_of_ble_eq_true rfl⟩) ⟨gBlind, va_recv hKX hPX (ci := 10) (q0 := 0) rfl (at_10 rfl), gStart (As := [.ref (ad 0)]) hPX hDX hKX0 hT hS hF (d)⟩ rfl rfl hl.1 rfl (lv_room (Nat.le_of_ble_eq_true rfl)) dL_law_1598 ⟨by omega, by omega⟩) hS (fun q _ h => hF q h) hF (fun r_605 σz_606 t H1 locs ht hvm hw hB hz1 hk1 hS d_607 hd0 => ?_)
      have hts := dr_words hts0 (d_607)
      have hKX := gKd hKX0 (d_607)
      have hKM := gKd hKM0 (d_607)
      have hown : (s.setDrawn (d_607)).vm.findClass RL = some m.cls := hown0
      have hX : va_X b L xs (s.setDrawn (d_607)) s.heap := hX0
      obtain ⟨hPX, hDX⟩ := gBack hF ht hB
      obtain ⟨hI_609, fc_610, hp_608⟩ := hw
      have hPM := gOther hPM hk1 (dj_G dj)
      have hPO := gOther hPO hk1 (dj_1 djX)
      generalize H1 = H at hPX hPM hPO hS ⊢
      refine lv_pop2_2 hx hb dL_law_1601 rfl ?_
      refine lv_aload_n hx hb dL_law_1602 rfl (lv_at hl 2 rfl) ?_
      have hF := gFree hDM hS hA
      refine va_calllD hd0 (va_runV_D (As := []) (rest := []) ⟨hx, hb, hml, hown, hts⟩ (n_X12_cash l dC dI am cM adK adV H.size τ hIM  ) (cwV 0 hts gL0_X12_cash rfl rfl rfl (by decide +kernel) ⟨Nat.le_of_ble_eq_true rfl, Nat.le_of_ble_eq_true rfl⟩) ⟨gBlind, va_recv hKM hPM (ci := 11) (q0 := 0) rfl (mat_11 rfl), gStart (As := [.ref (am 0)]) hPM hDM hKM0 hT hS hF (d_607)⟩ rfl rfl hl.1 rfl (lv_room (Nat.le_of_ble_eq_true rfl)) dL_law_1603 ⟨by omega, by omega⟩) hS (fun q _ h => hF q h) hF (fun r_611 τz_612 t H1 locs ht hvm hw hB hz1 hk1 hS d_613 hd0 => ?_)
      have hts := dr_words hts0 (d_613)
      have hKX := gKd hKX0 (d_613)
      have hKM := gKd hKM0 (d_613)
      have hown : (s.setDrawn (d_613)).vm.findClass RL = some m.cls := hown0
      have hX : va_X b L xs (s.setDrawn (d_613)) s.heap := hX0
      obtain ⟨hPM, hDM⟩ := gBack hF ht hB
      obtain ⟨hI_615, fc_616, hp_614⟩ := hw
      have hPX := gOther hPX hk1 (dj_sym (dj_G dj))
      have hPO := gOther hPO hk1 (dj_1 djM)
      generalize H1 = H at hPX hPM hPO hS ⊢
      have dp_617 : Deep τz_612 := (Deep.fr hDp (fc_616.1 2 (by decide) (by decide)) (fc_616.1 4 (by decide) (by decide)) (fc_616.1 9 (by decide) (by decide)) (fc_616.1 11 (by decide) (by decide)) (fc_616.1 12 (by decide) (by decide)) (fc_616.1 17 (by decide) (by decide)) (fc_616.1 18 (by decide) (by decide)) (fc_616.2 20 (by decide)) (fc_616.2 21 (by decide)) (fc_616.2 28 (by decide)) (fc_616.2 64 (by decide)) (fc_616.2 65 (by decide)) (fc_616.2 68 (by decide)))
      refine lv_pop2_2 hx hb dL_law_1606 rfl ?_
      refine lv_goto (tgt := 1851) hx hb dL_law_1607 (by decide) ?_
      obtain ⟨x_618, ex_618⟩ : ∃ zz : Int32, zz = (nI (6 * j)) + 6 := ⟨_, rfl⟩
      refine lv_iinc (v := x_618) (lv' := [(4, .int x_618), (3, .ref lo), (2, .ref (am 0)), (1, .ref (ad 0)), (0, .ref b)]) hx hb dL_law_1851 hl (k := 0) rfl (by rw [ex_618]; rfl) (by decide) rfl (fun ls hl => ?_)
      refine lv_goto (tgt := 23) hx hb dL_law_1854 (by decide) ?_
      have hl := lv_sub hl [0, 1, 2, 3, 4] rfl
      rw [ex_618, nI_6] at hl
      exact ih (j + 1) σz_606 τz_612 f _ _ _ _ _ _ (by omega) (by omega) hI_609 hI_615 dp_617 (by omega) (by omega) hd0 hPX hDX hPM hDM hPO hDO hS hl
    by_cases c_619 : ((xs (nI (6 * j)).toNatClampNeg) &&& 63) = 33
    · refine lv_tableIn (tgt := 1610) hx hb dL_law_40 (by rw [c_619]; decide) (by rw [c_619]; decide) (by rw [c_619]; rfl) (by decide) ?_
      refine lv_aload_n hx hb dL_law_1610 rfl (lv_at hl 3 rfl) ?_
      refine lv_aload_n hx hb dL_law_1611 rfl (lv_at hl 4 rfl) ?_
      refine lv_iload hx hb dL_law_1612 (lv_at hl 0 rfl) ?_
      refine lv_iconst (v := 1) hx hb dL_law_1614 (by decide) ?_
      refine lv_iadd hx hb dL_law_1615 ?_
      refine va_sld hx hb hX hbl hbA hS (lw_ix (k := 1) hL hin (by decide) (by decide)) dL_law_1616 ?_
      have hF := gFree hDX hS hA
      refine va_calliD hd0 (va_runV_D (As := [.int (xs ((nI (6 * j)) + 1).toNatClampNeg)]) (rest := []) ⟨hx, hb, hml, hown, hts⟩ (n_X11_holding l dC dI ad cA adK adV H.size σ hIX (xs ((nI (6 * j)) + 1).toNatClampNeg) ) (cwV 1 hts gL0_X11_holding rfl rfl rfl (by decide +kernel) ⟨Nat.le_of_ble_eq_true rfl, Nat.le_of_ble_eq_true rfl⟩) ⟨gBlind, va_recv hKX hPX (ci := 10) (q0 := 0) rfl (at_10 rfl), gStart (As := [.ref (ad 0), .int (xs ((nI (6 * j)) + 1).toNatClampNeg)]) hPX hDX hKX0 hT hS hF (d)⟩ rfl rfl hl.1 rfl (lv_room (Nat.le_of_ble_eq_true rfl)) dL_law_1617 ⟨by omega, by omega⟩) hS (fun q _ h => hF q h) hF (fun r_620 σz_621 t H1 locs ht hvm hw hB hz1 hk1 hS d_622 hd0 => ?_)
      have hts := dr_words hts0 (d_622)
      have hKX := gKd hKX0 (d_622)
      have hKM := gKd hKM0 (d_622)
      have hown : (s.setDrawn (d_622)).vm.findClass RL = some m.cls := hown0
      have hX : va_X b L xs (s.setDrawn (d_622)) s.heap := hX0
      obtain ⟨hPX, hDX⟩ := gBack hF ht hB
      obtain ⟨hI_624, fc_625, hp_623⟩ := hw
      have hPM := gOther hPM hk1 (dj_G dj)
      have hPO := gOther hPO hk1 (dj_1 djX)
      generalize H1 = H at hPX hPM hPO hS ⊢
      refine lv_pop hx hb dL_law_1620 rfl ?_
      refine lv_aload_n hx hb dL_law_1621 rfl (lv_at hl 2 rfl) ?_
      refine lv_aload_n hx hb dL_law_1622 rfl (lv_at hl 4 rfl) ?_
      refine lv_iload hx hb dL_law_1623 (lv_at hl 0 rfl) ?_
      refine lv_iconst (v := 1) hx hb dL_law_1625 (by decide) ?_
      refine lv_iadd hx hb dL_law_1626 ?_
      refine va_sld hx hb hX hbl hbA hS (lw_ix (k := 1) hL hin (by decide) (by decide)) dL_law_1627 ?_
      have hF := gFree hDM hS hA
      refine va_calliD hd0 (va_runV_D (As := [.int (xs ((nI (6 * j)) + 1).toNatClampNeg)]) (rest := []) ⟨hx, hb, hml, hown, hts⟩ (n_X12_holding l dC dI am cM adK adV H.size τ hIM (xs ((nI (6 * j)) + 1).toNatClampNeg) ) (cwV 1 hts gL0_X12_holding rfl rfl rfl (by decide +kernel) ⟨Nat.le_of_ble_eq_true rfl, Nat.le_of_ble_eq_true rfl⟩) ⟨gBlind, va_recv hKM hPM (ci := 11) (q0 := 0) rfl (mat_11 rfl), gStart (As := [.ref (am 0), .int (xs ((nI (6 * j)) + 1).toNatClampNeg)]) hPM hDM hKM0 hT hS hF (d_622)⟩ rfl rfl hl.1 rfl (lv_room (Nat.le_of_ble_eq_true rfl)) dL_law_1628 ⟨by omega, by omega⟩) hS (fun q _ h => hF q h) hF (fun r_626 τz_627 t H1 locs ht hvm hw hB hz1 hk1 hS d_628 hd0 => ?_)
      have hts := dr_words hts0 (d_628)
      have hKX := gKd hKX0 (d_628)
      have hKM := gKd hKM0 (d_628)
      have hown : (s.setDrawn (d_628)).vm.findClass RL = some m.cls := hown0
      have hX : va_X b L xs (s.setDrawn (d_628)) s.heap := hX0
      obtain ⟨hPM, hDM⟩ := gBack hF ht hB
      obtain ⟨hI_630, fc_631, hp_629⟩ := hw
      have hPX := gOther hPX hk1 (dj_sym (dj_G dj))
      have hPO := gOther hPO hk1 (dj_1 djM)
      generalize H1 = H at hPX hPM hPO hS ⊢
      have dp_632 : Deep τz_627 := (Deep.fr hDp (fc_631.1 2 (by decide) (by decide)) (fc_631.1 4 (by decide) (by decide)) (fc_631.1 9 (by decide) (by decide)) (fc_631.1 11 (by decide) (by decide)) (fc_631.1 12 (by decide) (by decide)) (fc_631.1 17 (by decide) (by decide)) (fc_631.1 18 (by decide) (by decide)) (fc_631.2 20 (by decide)) (fc_631.2 21 (by decide)) (fc_631.2 28 (by decide)) (fc_631.2 64 (by decide)) (fc_631.2 65 (by decide)) (fc_631.2 68 (by decide)))
      refine lv_pop hx hb dL_law_1631 rfl ?_
      refine lv_goto (tgt := 1851) hx hb dL_law_1632 (by decide) ?_
      obtain ⟨x_633, ex_633⟩ : ∃ zz : Int32, zz = (nI (6 * j)) + 6 := ⟨_, rfl⟩
      refine lv_iinc (v := x_633) (lv' := [(4, .int x_633), (3, .ref lo), (2, .ref (am 0)), (1, .ref (ad 0)), (0, .ref b)]) hx hb dL_law_1851 hl (k := 0) rfl (by rw [ex_633]; rfl) (by decide) rfl (fun ls hl => ?_)
      refine lv_goto (tgt := 23) hx hb dL_law_1854 (by decide) ?_
      have hl := lv_sub hl [0, 1, 2, 3, 4] rfl
      rw [ex_633, nI_6] at hl
      exact ih (j + 1) σz_621 τz_627 f _ _ _ _ _ _ (by omega) (by omega) hI_624 hI_630 dp_632 (by omega) (by omega) hd0 hPX hDX hPM hDM hPO hDO hS hl
    by_cases c_634 : ((xs (nI (6 * j)).toNatClampNeg) &&& 63) = 34
    · refine lv_tableIn (tgt := 1635) hx hb dL_law_40 (by rw [c_634]; decide) (by rw [c_634]; decide) (by rw [c_634]; rfl) (by decide) ?_
      refine lv_aload_n hx hb dL_law_1635 rfl (lv_at hl 3 rfl) ?_
      refine lv_aload_n hx hb dL_law_1636 rfl (lv_at hl 4 rfl) ?_
      refine lv_iload hx hb dL_law_1637 (lv_at hl 0 rfl) ?_
      refine lv_iconst (v := 1) hx hb dL_law_1639 (by decide) ?_
      refine lv_iadd hx hb dL_law_1640 ?_
      refine va_sld hx hb hX hbl hbA hS (lw_ix (k := 1) hL hin (by decide) (by decide)) dL_law_1641 ?_
      have hF := gFree hDX hS hA
      refine va_calllD hd0 (va_runV_D (As := [.int (xs ((nI (6 * j)) + 1).toNatClampNeg)]) (rest := []) ⟨hx, hb, hml, hown, hts⟩ (n_X11_worth l dC dI ad cA adK adV H.size σ hIX (xs ((nI (6 * j)) + 1).toNatClampNeg) ) (cwV 1 hts gL0_X11_worth rfl rfl rfl (by decide +kernel) ⟨Nat.le_of_ble_eq_true rfl, Nat.le_of_ble_eq_true rfl⟩) ⟨gBlind, va_recv hKX hPX (ci := 10) (q0 := 0) rfl (at_10 rfl), gStart (As := [.ref (ad 0), .int (xs ((nI (6 * j)) + 1).toNatClampNeg)]) hPX hDX hKX0 hT hS hF (d)⟩ rfl rfl hl.1 rfl (lv_room (Nat.le_of_ble_eq_true rfl)) dL_law_1642 ⟨by omega, by omega⟩) hS (fun q _ h => hF q h) hF (fun r_635 σz_636 t H1 locs ht hvm hw hB hz1 hk1 hS d_637 hd0 => ?_)
      have hts := dr_words hts0 (d_637)
      have hKX := gKd hKX0 (d_637)
      have hKM := gKd hKM0 (d_637)
      have hown : (s.setDrawn (d_637)).vm.findClass RL = some m.cls := hown0
      have hX : va_X b L xs (s.setDrawn (d_637)) s.heap := hX0
      obtain ⟨hPX, hDX⟩ := gBack hF ht hB
      obtain ⟨hI_639, fc_640, hp_638⟩ := hw
      have hPM := gOther hPM hk1 (dj_G dj)
      have hPO := gOther hPO hk1 (dj_1 djX)
      generalize H1 = H at hPX hPM hPO hS ⊢
      refine lv_pop2_2 hx hb dL_law_1645 rfl ?_
      refine lv_aload_n hx hb dL_law_1646 rfl (lv_at hl 2 rfl) ?_
      refine lv_aload_n hx hb dL_law_1647 rfl (lv_at hl 4 rfl) ?_
      refine lv_iload hx hb dL_law_1648 (lv_at hl 0 rfl) ?_
      refine lv_iconst (v := 1) hx hb dL_law_1650 (by decide) ?_
      refine lv_iadd hx hb dL_law_1651 ?_
      refine va_sld hx hb hX hbl hbA hS (lw_ix (k := 1) hL hin (by decide) (by decide)) dL_law_1652 ?_
      have hF := gFree hDM hS hA
      refine va_calllD hd0 (va_runV_D (As := [.int (xs ((nI (6 * j)) + 1).toNatClampNeg)]) (rest := []) ⟨hx, hb, hml, hown, hts⟩ (n_X12_worth l dC dI am cM adK adV H.size τ hIM (xs ((nI (6 * j)) + 1).toNatClampNeg) hDp) (cwV 1 hts gL0_X12_worth rfl rfl rfl (by decide +kernel) ⟨Nat.le_of_ble_eq_true rfl, Nat.le_of_ble_eq_true rfl⟩) ⟨gBlind, va_recv hKM hPM (ci := 11) (q0 := 0) rfl (mat_11 rfl), gStart (As := [.ref (am 0), .int (xs ((nI (6 * j)) + 1).toNatClampNeg)]) hPM hDM hKM0 hT hS hF (d_637)⟩ rfl rfl hl.1 rfl (lv_room (Nat.le_of_ble_eq_true rfl)) dL_law_1653 ⟨by omega, by omega⟩) hS (fun q _ h => hF q h) hF (fun r_641 τz_642 t H1 locs ht hvm hw hB hz1 hk1 hS d_643 hd0 => ?_)
      have hts := dr_words hts0 (d_643)
      have hKX := gKd hKX0 (d_643)
      have hKM := gKd hKM0 (d_643)
      have hown : (s.setDrawn (d_643)).vm.findClass RL = some m.cls := hown0
      have hX : va_X b L xs (s.setDrawn (d_643)) s.heap := hX0
      obtain ⟨hPM, hDM⟩ := gBack hF ht hB
      obtain ⟨hI_645, fc_646, hp_644⟩ := hw
      have hPX := gOther hPX hk1 (dj_sym (dj_G dj))
      have hPO := gOther hPO hk1 (dj_1 djM)
      generalize H1 = H at hPX hPM hPO hS ⊢
      have dp_647 : Deep τz_642 := (Deep.fr hDp (fc_646.1 2 (by decide) (by decide)) (fc_646.1 4 (by decide) (by decide)) (fc_646.1 9 (by decide) (by decide)) (fc_646.1 11 (by decide) (by decide)) (fc_646.1 12 (by decide) (by decide)) (fc_646.1 17 (by decide) (by decide)) (fc_646.1 18 (by decide) (by decide)) (fc_646.2 20 (by decide)) (fc_646.2 21 (by decide)) (fc_646.2 28 (by decide)) (fc_646.2 64 (by decide)) (fc_646.2 65 (by decide)) (fc_646.2 68 (by decide)))
      refine lv_pop2_2 hx hb dL_law_1656 rfl ?_
      refine lv_goto (tgt := 1851) hx hb dL_law_1657 (by decide) ?_
      obtain ⟨x_648, ex_648⟩ : ∃ zz : Int32, zz = (nI (6 * j)) + 6 := ⟨_, rfl⟩
      refine lv_iinc (v := x_648) (lv' := [(4, .int x_648), (3, .ref lo), (2, .ref (am 0)), (1, .ref (ad 0)), (0, .ref b)]) hx hb dL_law_1851 hl (k := 0) rfl (by rw [ex_648]; rfl) (by decide) rfl (fun ls hl => ?_)
      refine lv_goto (tgt := 23) hx hb dL_law_1854 (by decide) ?_
      have hl := lv_sub hl [0, 1, 2, 3, 4] rfl
      rw [ex_648, nI_6] at hl
      exact ih (j + 1) σz_636 τz_642 f _ _ _ _ _ _ (by omega) (by omega) hI_639 hI_645 dp_647 (by omega) (by omega) hd0 hPX hDX hPM hDM hPO hDO hS hl
    by_cases c_649 : ((xs (nI (6 * j)).toNatClampNeg) &&& 63) = 35
    · refine lv_tableIn (tgt := 1660) hx hb dL_law_40 (by rw [c_649]; decide) (by rw [c_649]; decide) (by rw [c_649]; rfl) (by decide) ?_
      refine lv_aload_n hx hb dL_law_1660 rfl (lv_at hl 3 rfl) ?_
      refine lv_aload_n hx hb dL_law_1661 rfl (lv_at hl 4 rfl) ?_
      refine lv_iload hx hb dL_law_1662 (lv_at hl 0 rfl) ?_
      refine lv_iconst (v := 1) hx hb dL_law_1664 (by decide) ?_
      refine lv_iadd hx hb dL_law_1665 ?_
      refine va_sld hx hb hX hbl hbA hS (lw_ix (k := 1) hL hin (by decide) (by decide)) dL_law_1666 ?_
      refine lv_aload_n hx hb dL_law_1667 rfl (lv_at hl 4 rfl) ?_
      refine lv_iload hx hb dL_law_1668 (lv_at hl 0 rfl) ?_
      refine lv_iconst (v := 2) hx hb dL_law_1670 (by decide) ?_
      refine lv_iadd hx hb dL_law_1671 ?_
      refine va_sld hx hb hX hbl hbA hS (lw_ix (k := 2) hL hin (by decide) (by decide)) dL_law_1672 ?_
      refine lv_aload_n hx hb dL_law_1673 rfl (lv_at hl 4 rfl) ?_
      refine lv_iload hx hb dL_law_1674 (lv_at hl 0 rfl) ?_
      refine lv_iconst (v := 3) hx hb dL_law_1676 (by decide) ?_
      refine lv_iadd hx hb dL_law_1677 ?_
      refine va_sld hx hb hX hbl hbA hS (lw_ix (k := 3) hL hin (by decide) (by decide)) dL_law_1678 ?_
      have hF := gFree hDX hS hA
      refine va_calllD hd0 (va_runV_D (As := [.int (xs ((nI (6 * j)) + 1).toNatClampNeg), .int (xs ((nI (6 * j)) + 2).toNatClampNeg), .int (xs ((nI (6 * j)) + 3).toNatClampNeg)]) (rest := []) ⟨hx, hb, hml, hown, hts⟩ (n_X11_deal l dC dI ad cA adK adV H.size σ hIX (xs ((nI (6 * j)) + 1).toNatClampNeg) (xs ((nI (6 * j)) + 2).toNatClampNeg) (xs ((nI (6 * j)) + 3).toNatClampNeg) ) (cwV 3 hts gL0_X11_deal rfl rfl rfl (by decide +kernel) ⟨Nat.le_of_ble_eq_true rfl, Nat.le_of_ble_eq_true rfl⟩) ⟨gBlind, va_recv hKX hPX (ci := 10) (q0 := 0) rfl (at_10 rfl), gStart (As := [.ref (ad 0), .int (xs ((nI (6 * j)) + 1).toNatClampNeg), .int (xs ((nI (6 * j)) + 2).toNatClampNeg), .int (xs ((nI (6 * j)) + 3).toNatClampNeg)]) hPX hDX hKX0 hT hS hF (d)⟩ rfl rfl hl.1 rfl (lv_room (Nat.le_of_ble_eq_true rfl)) dL_law_1679 ⟨by omega, by omega⟩) hS (fun q _ h => hF q h) hF (fun r_650 σz_651 t H1 locs ht hvm hw hB hz1 hk1 hS d_652 hd0 => ?_)
      have hts := dr_words hts0 (d_652)
      have hKX := gKd hKX0 (d_652)
      have hKM := gKd hKM0 (d_652)
      have hown : (s.setDrawn (d_652)).vm.findClass RL = some m.cls := hown0
      have hX : va_X b L xs (s.setDrawn (d_652)) s.heap := hX0
      obtain ⟨hPX, hDX⟩ := gBack hF ht hB
      obtain ⟨hI_654, fc_655, hp_653⟩ := hw
      have hPM := gOther hPM hk1 (dj_G dj)
      have hPO := gOther hPO hk1 (dj_1 djX)
      generalize H1 = H at hPX hPM hPO hS ⊢
      refine lv_pop2_2 hx hb dL_law_1682 rfl ?_
      refine lv_aload_n hx hb dL_law_1683 rfl (lv_at hl 2 rfl) ?_
      refine lv_aload_n hx hb dL_law_1684 rfl (lv_at hl 4 rfl) ?_
      refine lv_iload hx hb dL_law_1685 (lv_at hl 0 rfl) ?_
      refine lv_iconst (v := 1) hx hb dL_law_1687 (by decide) ?_
      refine lv_iadd hx hb dL_law_1688 ?_
      refine va_sld hx hb hX hbl hbA hS (lw_ix (k := 1) hL hin (by decide) (by decide)) dL_law_1689 ?_
      refine lv_aload_n hx hb dL_law_1690 rfl (lv_at hl 4 rfl) ?_
      refine lv_iload hx hb dL_law_1691 (lv_at hl 0 rfl) ?_
      refine lv_iconst (v := 2) hx hb dL_law_1693 (by decide) ?_
      refine lv_iadd hx hb dL_law_1694 ?_
      refine va_sld hx hb hX hbl hbA hS (lw_ix (k := 2) hL hin (by decide) (by decide)) dL_law_1695 ?_
      refine lv_aload_n hx hb dL_law_1696 rfl (lv_at hl 4 rfl) ?_
      refine lv_iload hx hb dL_law_1697 (lv_at hl 0 rfl) ?_
      refine lv_iconst (v := 3) hx hb dL_law_1699 (by decide) ?_
      refine lv_iadd hx hb dL_law_1700 ?_
      refine va_sld hx hb hX hbl hbA hS (lw_ix (k := 3) hL hin (by decide) (by decide)) dL_law_1701 ?_
      have hF := gFree hDM hS hA
      refine va_calllD hd0 (va_runV_D (As := [.int (xs ((nI (6 * j)) + 1).toNatClampNeg), .int (xs ((nI (6 * j)) + 2).toNatClampNeg), .int (xs ((nI (6 * j)) + 3).toNatClampNeg)]) (rest := []) ⟨hx, hb, hml, hown, hts⟩ (n_X12_deal l dC dI am cM adK adV H.size τ hIM (xs ((nI (6 * j)) + 1).toNatClampNeg) (xs ((nI (6 * j)) + 2).toNatClampNeg) (xs ((nI (6 * j)) + 3).toNatClampNeg) hDp) (cwV 3 hts gL0_X12_deal rfl rfl rfl (by decide +kernel) ⟨Nat.le_of_ble_eq_true rfl, Nat.le_of_ble_eq_true rfl⟩) ⟨gBlind, va_recv hKM hPM (ci := 11) (q0 := 0) rfl (mat_11 rfl), gStart (As := [.ref (am 0), .int (xs ((nI (6 * j)) + 1).toNatClampNeg), .int (xs ((nI (6 * j)) + 2).toNatClampNeg), .int (xs ((nI (6 * j)) + 3).toNatClampNeg)]) hPM hDM hKM0 hT hS hF (d_652)⟩ rfl rfl hl.1 rfl (lv_room (Nat.le_of_ble_eq_true rfl)) dL_law_1702 ⟨by omega, by omega⟩) hS (fun q _ h => hF q h) hF (fun r_656 τz_657 t H1 locs ht hvm hw hB hz1 hk1 hS d_658 hd0 => ?_)
      have hts := dr_words hts0 (d_658)
      have hKX := gKd hKX0 (d_658)
      have hKM := gKd hKM0 (d_658)
      have hown : (s.setDrawn (d_658)).vm.findClass RL = some m.cls := hown0
      have hX : va_X b L xs (s.setDrawn (d_658)) s.heap := hX0
      obtain ⟨hPM, hDM⟩ := gBack hF ht hB
      obtain ⟨hI_660, fc_661, hp_659⟩ := hw
      have hPX := gOther hPX hk1 (dj_sym (dj_G dj))
      have hPO := gOther hPO hk1 (dj_1 djM)
      generalize H1 = H at hPX hPM hPO hS ⊢
      have dp_662 : Deep τz_657 := (Deep.fr hDp (fc_661.1 2 (by decide) (by decide)) (fc_661.1 4 (by decide) (by decide)) (fc_661.1 9 (by decide) (by decide)) (fc_661.1 11 (by decide) (by decide)) (fc_661.1 12 (by decide) (by decide)) (fc_661.1 17 (by decide) (by decide)) (fc_661.1 18 (by decide) (by decide)) (fc_661.2 20 (by decide)) (fc_661.2 21 (by decide)) (fc_661.2 28 (by decide)) (fc_661.2 64 (by decide)) (fc_661.2 65 (by decide)) (fc_661.2 68 (by decide)))
      refine lv_pop2_2 hx hb dL_law_1705 rfl ?_
      refine lv_goto (tgt := 1851) hx hb dL_law_1706 (by decide) ?_
      obtain ⟨x_663, ex_663⟩ : ∃ zz : Int32, zz = (nI (6 * j)) + 6 := ⟨_, rfl⟩
      refine lv_iinc (v := x_663) (lv' := [(4, .int x_663), (3, .ref lo), (2, .ref (am 0)), (1, .ref (ad 0)), (0, .ref b)]) hx hb dL_law_1851 hl (k := 0) rfl (by rw [ex_663]; rfl) (by decide) rfl (fun ls hl => ?_)
      refine lv_goto (tgt := 23) hx hb dL_law_1854 (by decide) ?_
      have hl := lv_sub hl [0, 1, 2, 3, 4] rfl
      rw [ex_663, nI_6] at hl
      exact ih (j + 1) σz_651 τz_657 f _ _ _ _ _ _ (by omega) (by omega) hI_654 hI_660 dp_662 (by omega) (by omega) hd0 hPX hDX hPM hDM hPO hDO hS hl
    by_cases c_664 : ((xs (nI (6 * j)).toNatClampNeg) &&& 63) = 36
    · refine lv_tableIn (tgt := 1709) hx hb dL_law_40 (by rw [c_664]; decide) (by rw [c_664]; decide) (by rw [c_664]; rfl) (by decide) ?_
      refine lv_aload_n hx hb dL_law_1709 rfl (lv_at hl 3 rfl) ?_
      refine lv_aload_n hx hb dL_law_1710 rfl (lv_at hl 4 rfl) ?_
      refine lv_iload hx hb dL_law_1711 (lv_at hl 0 rfl) ?_
      refine lv_iconst (v := 1) hx hb dL_law_1713 (by decide) ?_
      refine lv_iadd hx hb dL_law_1714 ?_
      refine va_sld hx hb hX hbl hbA hS (lw_ix (k := 1) hL hin (by decide) (by decide)) dL_law_1715 ?_
      have hF := gFree hDX hS hA
      refine va_calllD hd0 (va_runV_D (As := [.int (xs ((nI (6 * j)) + 1).toNatClampNeg)]) (rest := []) ⟨hx, hb, hml, hown, hts⟩ (n_X11_go l dC dI ad cA adK adV H.size σ hIX (xs ((nI (6 * j)) + 1).toNatClampNeg) ) (cwV 1 hts gL0_X11_go rfl rfl rfl (by decide +kernel) ⟨Nat.le_of_ble_eq_true rfl, Nat.le_of_ble_eq_true rfl⟩) ⟨gBlind, va_recv hKX hPX (ci := 10) (q0 := 0) rfl (at_10 rfl), gStart (As := [.ref (ad 0), .int (xs ((nI (6 * j)) + 1).toNatClampNeg)]) hPX hDX hKX0 hT hS hF (d)⟩ rfl rfl hl.1 rfl (lv_room (Nat.le_of_ble_eq_true rfl)) dL_law_1716 ⟨by omega, by omega⟩) hS (fun q _ h => hF q h) hF (fun r_665 σz_666 t H1 locs ht hvm hw hB hz1 hk1 hS d_667 hd0 => ?_)
      have hts := dr_words hts0 (d_667)
      have hKX := gKd hKX0 (d_667)
      have hKM := gKd hKM0 (d_667)
      have hown : (s.setDrawn (d_667)).vm.findClass RL = some m.cls := hown0
      have hX : va_X b L xs (s.setDrawn (d_667)) s.heap := hX0
      obtain ⟨hPX, hDX⟩ := gBack hF ht hB
      obtain ⟨hI_669, fc_670, hp_668⟩ := hw
      have hPM := gOther hPM hk1 (dj_G dj)
      have hPO := gOther hPO hk1 (dj_1 djX)
      generalize H1 = H at hPX hPM hPO hS ⊢
      refine lv_pop2_2 hx hb dL_law_1719 rfl ?_
      refine lv_aload_n hx hb dL_law_1720 rfl (lv_at hl 2 rfl) ?_
      refine lv_aload_n hx hb dL_law_1721 rfl (lv_at hl 4 rfl) ?_
      refine lv_iload hx hb dL_law_1722 (lv_at hl 0 rfl) ?_
      refine lv_iconst (v := 1) hx hb dL_law_1724 (by decide) ?_
      refine lv_iadd hx hb dL_law_1725 ?_
      refine va_sld hx hb hX hbl hbA hS (lw_ix (k := 1) hL hin (by decide) (by decide)) dL_law_1726 ?_
      have hF := gFree hDM hS hA
      refine va_calllD hd0 (va_runV_D (As := [.int (xs ((nI (6 * j)) + 1).toNatClampNeg)]) (rest := []) ⟨hx, hb, hml, hown, hts⟩ (n_X12_go l dC dI am cM adK adV H.size τ hIM (xs ((nI (6 * j)) + 1).toNatClampNeg) hDp) (cwV 1 hts gL0_X12_go rfl rfl rfl (by decide +kernel) ⟨Nat.le_of_ble_eq_true rfl, Nat.le_of_ble_eq_true rfl⟩) ⟨gBlind, va_recv hKM hPM (ci := 11) (q0 := 0) rfl (mat_11 rfl), gStart (As := [.ref (am 0), .int (xs ((nI (6 * j)) + 1).toNatClampNeg)]) hPM hDM hKM0 hT hS hF (d_667)⟩ rfl rfl hl.1 rfl (lv_room (Nat.le_of_ble_eq_true rfl)) dL_law_1727 ⟨by omega, by omega⟩) hS (fun q _ h => hF q h) hF (fun r_671 τz_672 t H1 locs ht hvm hw hB hz1 hk1 hS d_673 hd0 => ?_)
      have hts := dr_words hts0 (d_673)
      have hKX := gKd hKX0 (d_673)
      have hKM := gKd hKM0 (d_673)
      have hown : (s.setDrawn (d_673)).vm.findClass RL = some m.cls := hown0
      have hX : va_X b L xs (s.setDrawn (d_673)) s.heap := hX0
      obtain ⟨hPM, hDM⟩ := gBack hF ht hB
      obtain ⟨hI_675, fc_676, hp_674⟩ := hw
      have hPX := gOther hPX hk1 (dj_sym (dj_G dj))
      have hPO := gOther hPO hk1 (dj_1 djM)
      generalize H1 = H at hPX hPM hPO hS ⊢
      have dp_677 : Deep τz_672 := hp_674
      refine lv_pop2_2 hx hb dL_law_1730 rfl ?_
      refine lv_goto (tgt := 1851) hx hb dL_law_1731 (by decide) ?_
      obtain ⟨x_678, ex_678⟩ : ∃ zz : Int32, zz = (nI (6 * j)) + 6 := ⟨_, rfl⟩
      refine lv_iinc (v := x_678) (lv' := [(4, .int x_678), (3, .ref lo), (2, .ref (am 0)), (1, .ref (ad 0)), (0, .ref b)]) hx hb dL_law_1851 hl (k := 0) rfl (by rw [ex_678]; rfl) (by decide) rfl (fun ls hl => ?_)
      refine lv_goto (tgt := 23) hx hb dL_law_1854 (by decide) ?_
      have hl := lv_sub hl [0, 1, 2, 3, 4] rfl
      rw [ex_678, nI_6] at hl
      exact ih (j + 1) σz_666 τz_672 f _ _ _ _ _ _ (by omega) (by omega) hI_669 hI_675 dp_677 (by omega) (by omega) hd0 hPX hDX hPM hDM hPO hDO hS hl
    by_cases c_679 : ((xs (nI (6 * j)).toNatClampNeg) &&& 63) = 37
    · refine lv_tableIn (tgt := 1734) hx hb dL_law_40 (by rw [c_679]; decide) (by rw [c_679]; decide) (by rw [c_679]; rfl) (by decide) ?_
      refine lv_aload_n hx hb dL_law_1734 rfl (lv_at hl 3 rfl) ?_
      refine lv_aload_n hx hb dL_law_1735 rfl (lv_at hl 4 rfl) ?_
      refine lv_iload hx hb dL_law_1736 (lv_at hl 0 rfl) ?_
      refine lv_iconst (v := 1) hx hb dL_law_1738 (by decide) ?_
      refine lv_iadd hx hb dL_law_1739 ?_
      refine va_sld hx hb hX hbl hbA hS (lw_ix (k := 1) hL hin (by decide) (by decide)) dL_law_1740 ?_
      have hF := gFree hDX hS hA
      refine va_calllD hd0 (va_runV_D (As := [.int (xs ((nI (6 * j)) + 1).toNatClampNeg)]) (rest := []) ⟨hx, hb, hml, hown, hts⟩ (n_X11_income l dC dI ad cA adK adV H.size σ hIX (xs ((nI (6 * j)) + 1).toNatClampNeg) ) (cwV 1 hts gL0_X11_income rfl rfl rfl (by decide +kernel) ⟨Nat.le_of_ble_eq_true rfl, Nat.le_of_ble_eq_true rfl⟩) ⟨gBlind, va_recv hKX hPX (ci := 10) (q0 := 0) rfl (at_10 rfl), gStart (As := [.ref (ad 0), .int (xs ((nI (6 * j)) + 1).toNatClampNeg)]) hPX hDX hKX0 hT hS hF (d)⟩ rfl rfl hl.1 rfl (lv_room (Nat.le_of_ble_eq_true rfl)) dL_law_1741 ⟨by omega, by omega⟩) hS (fun q _ h => hF q h) hF (fun r_680 σz_681 t H1 locs ht hvm hw hB hz1 hk1 hS d_682 hd0 => ?_)
      have hts := dr_words hts0 (d_682)
      have hKX := gKd hKX0 (d_682)
      have hKM := gKd hKM0 (d_682)
      have hown : (s.setDrawn (d_682)).vm.findClass RL = some m.cls := hown0
      have hX : va_X b L xs (s.setDrawn (d_682)) s.heap := hX0
      obtain ⟨hPX, hDX⟩ := gBack hF ht hB
      obtain ⟨hI_684, fc_685, hp_683⟩ := hw
      have hPM := gOther hPM hk1 (dj_G dj)
      have hPO := gOther hPO hk1 (dj_1 djX)
      generalize H1 = H at hPX hPM hPO hS ⊢
      refine lv_pop2_2 hx hb dL_law_1744 rfl ?_
      refine lv_aload_n hx hb dL_law_1745 rfl (lv_at hl 2 rfl) ?_
      refine lv_aload_n hx hb dL_law_1746 rfl (lv_at hl 4 rfl) ?_
      refine lv_iload hx hb dL_law_1747 (lv_at hl 0 rfl) ?_
      refine lv_iconst (v := 1) hx hb dL_law_1749 (by decide) ?_
      refine lv_iadd hx hb dL_law_1750 ?_
      refine va_sld hx hb hX hbl hbA hS (lw_ix (k := 1) hL hin (by decide) (by decide)) dL_law_1751 ?_
      have hF := gFree hDM hS hA
      refine va_calllD hd0 (va_runV_D (As := [.int (xs ((nI (6 * j)) + 1).toNatClampNeg)]) (rest := []) ⟨hx, hb, hml, hown, hts⟩ (n_X12_income l dC dI am cM adK adV H.size τ hIM (xs ((nI (6 * j)) + 1).toNatClampNeg) hDp) (cwV 1 hts gL0_X12_income rfl rfl rfl (by decide +kernel) ⟨Nat.le_of_ble_eq_true rfl, Nat.le_of_ble_eq_true rfl⟩) ⟨gBlind, va_recv hKM hPM (ci := 11) (q0 := 0) rfl (mat_11 rfl), gStart (As := [.ref (am 0), .int (xs ((nI (6 * j)) + 1).toNatClampNeg)]) hPM hDM hKM0 hT hS hF (d_682)⟩ rfl rfl hl.1 rfl (lv_room (Nat.le_of_ble_eq_true rfl)) dL_law_1752 ⟨by omega, by omega⟩) hS (fun q _ h => hF q h) hF (fun r_686 τz_687 t H1 locs ht hvm hw hB hz1 hk1 hS d_688 hd0 => ?_)
      have hts := dr_words hts0 (d_688)
      have hKX := gKd hKX0 (d_688)
      have hKM := gKd hKM0 (d_688)
      have hown : (s.setDrawn (d_688)).vm.findClass RL = some m.cls := hown0
      have hX : va_X b L xs (s.setDrawn (d_688)) s.heap := hX0
      obtain ⟨hPM, hDM⟩ := gBack hF ht hB
      obtain ⟨hI_690, fc_691, hp_689⟩ := hw
      have hPX := gOther hPX hk1 (dj_sym (dj_G dj))
      have hPO := gOther hPO hk1 (dj_1 djM)
      generalize H1 = H at hPX hPM hPO hS ⊢
      have dp_692 : Deep τz_687 := hp_689
      refine lv_pop2_2 hx hb dL_law_1755 rfl ?_
      refine lv_goto (tgt := 1851) hx hb dL_law_1756 (by decide) ?_
      obtain ⟨x_693, ex_693⟩ : ∃ zz : Int32, zz = (nI (6 * j)) + 6 := ⟨_, rfl⟩
      refine lv_iinc (v := x_693) (lv' := [(4, .int x_693), (3, .ref lo), (2, .ref (am 0)), (1, .ref (ad 0)), (0, .ref b)]) hx hb dL_law_1851 hl (k := 0) rfl (by rw [ex_693]; rfl) (by decide) rfl (fun ls hl => ?_)
      refine lv_goto (tgt := 23) hx hb dL_law_1854 (by decide) ?_
      have hl := lv_sub hl [0, 1, 2, 3, 4] rfl
      rw [ex_693, nI_6] at hl
      exact ih (j + 1) σz_681 τz_687 f _ _ _ _ _ _ (by omega) (by omega) hI_684 hI_690 dp_692 (by omega) (by omega) hd0 hPX hDX hPM hDM hPO hDO hS hl
    by_cases c_694 : ((xs (nI (6 * j)).toNatClampNeg) &&& 63) = 38
    · refine lv_tableIn (tgt := 1759) hx hb dL_law_40 (by rw [c_694]; decide) (by rw [c_694]; decide) (by rw [c_694]; rfl) (by decide) ?_
      refine lv_aload_n hx hb dL_law_1759 rfl (lv_at hl 3 rfl) ?_
      have hF := gFree hDX hS hA
      refine va_calliD hd0 (va_runV_D (As := []) (rest := []) ⟨hx, hb, hml, hown, hts⟩ (n_X11_keep l dC dI ad cA adK adV H.size σ hIX  ) (cwV 0 hts gL0_X11_keep rfl rfl rfl (by decide +kernel) ⟨Nat.le_of_ble_eq_true rfl, Nat.le_of_ble_eq_true rfl⟩) ⟨gBlind, va_recv hKX hPX (ci := 10) (q0 := 0) rfl (at_10 rfl), gStart (As := [.ref (ad 0)]) hPX hDX hKX0 hT hS hF (d)⟩ rfl rfl hl.1 rfl (lv_room (Nat.le_of_ble_eq_true rfl)) dL_law_1760 ⟨by omega, by omega⟩) hS (fun q _ h => hF q h) hF (fun r_695 σz_696 t H1 locs ht hvm hw hB hz1 hk1 hS d_697 hd0 => ?_)
      have hts := dr_words hts0 (d_697)
      have hKX := gKd hKX0 (d_697)
      have hKM := gKd hKM0 (d_697)
      have hown : (s.setDrawn (d_697)).vm.findClass RL = some m.cls := hown0
      have hX : va_X b L xs (s.setDrawn (d_697)) s.heap := hX0
      obtain ⟨hPX, hDX⟩ := gBack hF ht hB
      obtain ⟨hI_699, fc_700, hp_698⟩ := hw
      have hPM := gOther hPM hk1 (dj_G dj)
      have hPO := gOther hPO hk1 (dj_1 djX)
      generalize H1 = H at hPX hPM hPO hS ⊢
      refine lv_pop hx hb dL_law_1763 rfl ?_
      refine lv_aload_n hx hb dL_law_1764 rfl (lv_at hl 2 rfl) ?_
      have hF := gFree hDM hS hA
      refine va_calliD hd0 (va_runV_D (As := []) (rest := []) ⟨hx, hb, hml, hown, hts⟩ (n_X12_keep l dC dI am cM adK adV H.size τ hIM  hDp) (cwV 0 hts gL0_X12_keep rfl rfl rfl (by decide +kernel) ⟨Nat.le_of_ble_eq_true rfl, Nat.le_of_ble_eq_true rfl⟩) ⟨gBlind, va_recv hKM hPM (ci := 11) (q0 := 0) rfl (mat_11 rfl), gStart (As := [.ref (am 0)]) hPM hDM hKM0 hT hS hF (d_697)⟩ rfl rfl hl.1 rfl (lv_room (Nat.le_of_ble_eq_true rfl)) dL_law_1765 ⟨by omega, by omega⟩) hS (fun q _ h => hF q h) hF (fun r_701 τz_702 t H1 locs ht hvm hw hB hz1 hk1 hS d_703 hd0 => ?_)
      have hts := dr_words hts0 (d_703)
      have hKX := gKd hKX0 (d_703)
      have hKM := gKd hKM0 (d_703)
      have hown : (s.setDrawn (d_703)).vm.findClass RL = some m.cls := hown0
      have hX : va_X b L xs (s.setDrawn (d_703)) s.heap := hX0
      obtain ⟨hPM, hDM⟩ := gBack hF ht hB
      obtain ⟨hI_705, fc_706, hp_704⟩ := hw
      have hPX := gOther hPX hk1 (dj_sym (dj_G dj))
      have hPO := gOther hPO hk1 (dj_1 djM)
      generalize H1 = H at hPX hPM hPO hS ⊢
      have dp_707 : Deep τz_702 := hp_704.2
      refine lv_pop hx hb dL_law_1768 rfl ?_
      refine lv_goto (tgt := 1851) hx hb dL_law_1769 (by decide) ?_
      obtain ⟨x_708, ex_708⟩ : ∃ zz : Int32, zz = (nI (6 * j)) + 6 := ⟨_, rfl⟩
      refine lv_iinc (v := x_708) (lv' := [(4, .int x_708), (3, .ref lo), (2, .ref (am 0)), (1, .ref (ad 0)), (0, .ref b)]) hx hb dL_law_1851 hl (k := 0) rfl (by rw [ex_708]; rfl) (by decide) rfl (fun ls hl => ?_)
      refine lv_goto (tgt := 23) hx hb dL_law_1854 (by decide) ?_
      have hl := lv_sub hl [0, 1, 2, 3, 4] rfl
      rw [ex_708, nI_6] at hl
      exact ih (j + 1) σz_696 τz_702 f _ _ _ _ _ _ (by omega) (by omega) hI_699 hI_705 dp_707 (by omega) (by omega) hd0 hPX hDX hPM hDM hPO hDO hS hl
    by_cases c_709 : ((xs (nI (6 * j)).toNatClampNeg) &&& 63) = 39
    · refine lv_tableIn (tgt := 1772) hx hb dL_law_40 (by rw [c_709]; decide) (by rw [c_709]; decide) (by rw [c_709]; rfl) (by decide) ?_
      refine lv_aload_n hx hb dL_law_1772 rfl (lv_at hl 3 rfl) ?_
      have hF := gFree hDX hS hA
      refine va_calliD hd0 (va_runV_D (As := []) (rest := []) ⟨hx, hb, hml, hown, hts⟩ (n_X11_back l dC dI ad cA adK adV H.size σ hIX  ) (cwV 0 hts gL0_X11_back rfl rfl rfl (by decide +kernel) ⟨Nat.le_of_ble_eq_true rfl, Nat.le_of_ble_eq_true rfl⟩) ⟨gBlind, va_recv hKX hPX (ci := 10) (q0 := 0) rfl (at_10 rfl), gStart (As := [.ref (ad 0)]) hPX hDX hKX0 hT hS hF (d)⟩ rfl rfl hl.1 rfl (lv_room (Nat.le_of_ble_eq_true rfl)) dL_law_1773 ⟨by omega, by omega⟩) hS (fun q _ h => hF q h) hF (fun r_710 σz_711 t H1 locs ht hvm hw hB hz1 hk1 hS d_712 hd0 => ?_)
      have hts := dr_words hts0 (d_712)
      have hKX := gKd hKX0 (d_712)
      have hKM := gKd hKM0 (d_712)
      have hown : (s.setDrawn (d_712)).vm.findClass RL = some m.cls := hown0
      have hX : va_X b L xs (s.setDrawn (d_712)) s.heap := hX0
      obtain ⟨hPX, hDX⟩ := gBack hF ht hB
      obtain ⟨hI_714, fc_715, hp_713⟩ := hw
      have hPM := gOther hPM hk1 (dj_G dj)
      have hPO := gOther hPO hk1 (dj_1 djX)
      generalize H1 = H at hPX hPM hPO hS ⊢
      refine lv_pop hx hb dL_law_1776 rfl ?_
      refine lv_aload_n hx hb dL_law_1777 rfl (lv_at hl 2 rfl) ?_
      have hF := gFree hDM hS hA
      refine va_calliD hd0 (va_runV_D (As := []) (rest := []) ⟨hx, hb, hml, hown, hts⟩ (n_X12_back l dC dI am cM adK adV H.size τ hIM  hDp) (cwV 0 hts gL0_X12_back rfl rfl rfl (by decide +kernel) ⟨Nat.le_of_ble_eq_true rfl, Nat.le_of_ble_eq_true rfl⟩) ⟨gBlind, va_recv hKM hPM (ci := 11) (q0 := 0) rfl (mat_11 rfl), gStart (As := [.ref (am 0)]) hPM hDM hKM0 hT hS hF (d_712)⟩ rfl rfl hl.1 rfl (lv_room (Nat.le_of_ble_eq_true rfl)) dL_law_1778 ⟨by omega, by omega⟩) hS (fun q _ h => hF q h) hF (fun r_716 τz_717 t H1 locs ht hvm hw hB hz1 hk1 hS d_718 hd0 => ?_)
      have hts := dr_words hts0 (d_718)
      have hKX := gKd hKX0 (d_718)
      have hKM := gKd hKM0 (d_718)
      have hown : (s.setDrawn (d_718)).vm.findClass RL = some m.cls := hown0
      have hX : va_X b L xs (s.setDrawn (d_718)) s.heap := hX0
      obtain ⟨hPM, hDM⟩ := gBack hF ht hB
      obtain ⟨hI_720, fc_721, hp_719⟩ := hw
      have hPX := gOther hPX hk1 (dj_sym (dj_G dj))
      have hPO := gOther hPO hk1 (dj_1 djM)
      generalize H1 = H at hPX hPM hPO hS ⊢
      have dp_722 : Deep τz_717 := hp_719.2
      refine lv_pop hx hb dL_law_1781 rfl ?_
      refine lv_goto (tgt := 1851) hx hb dL_law_1782 (by decide) ?_
      obtain ⟨x_723, ex_723⟩ : ∃ zz : Int32, zz = (nI (6 * j)) + 6 := ⟨_, rfl⟩
      refine lv_iinc (v := x_723) (lv' := [(4, .int x_723), (3, .ref lo), (2, .ref (am 0)), (1, .ref (ad 0)), (0, .ref b)]) hx hb dL_law_1851 hl (k := 0) rfl (by rw [ex_723]; rfl) (by decide) rfl (fun ls hl => ?_)
      refine lv_goto (tgt := 23) hx hb dL_law_1854 (by decide) ?_
      have hl := lv_sub hl [0, 1, 2, 3, 4] rfl
      rw [ex_723, nI_6] at hl
      exact ih (j + 1) σz_711 τz_717 f _ _ _ _ _ _ (by omega) (by omega) hI_714 hI_720 dp_722 (by omega) (by omega) hd0 hPX hDX hPM hDM hPO hDO hS hl
    by_cases c_724 : ((xs (nI (6 * j)).toNatClampNeg) &&& 63) = 40
    · refine lv_tableIn (tgt := 1785) hx hb dL_law_40 (by rw [c_724]; decide) (by rw [c_724]; decide) (by rw [c_724]; rfl) (by decide) ?_
      refine lv_aload_n hx hb dL_law_1785 rfl (lv_at hl 3 rfl) ?_
      refine lv_aload_n hx hb dL_law_1786 rfl (lv_at hl 4 rfl) ?_
      refine lv_iload hx hb dL_law_1787 (lv_at hl 0 rfl) ?_
      refine lv_iconst (v := 1) hx hb dL_law_1789 (by decide) ?_
      refine lv_iadd hx hb dL_law_1790 ?_
      refine va_sld hx hb hX hbl hbA hS (lw_ix (k := 1) hL hin (by decide) (by decide)) dL_law_1791 ?_
      refine lv_aload_n hx hb dL_law_1792 rfl (lv_at hl 1 rfl) ?_
      have hF := gFree hDO hS hA
      refine va_calli (vx_runSW (As := [.ref (ad 0), .int (xs ((nI (6 * j)) + 1).toNatClampNeg), .ref lo]) (rest := []) ⟨hx, hb, hml, hown, dr_words htsT0 (d)⟩ (n_L_holiday l hl0 dC dI ad cA adK adV H.size σ hIX lo cL f djX sa (xs ((nI (6 * j)) + 1).toNatClampNeg)) (vx_cwSW 3 (dr_words htsT0 (d)) hy_gT rfl rfl rfl (by decide +kernel) ⟨Nat.le_of_ble_eq_true rfl, Nat.le_of_ble_eq_true rfl⟩) ⟨fun a U g mk q => by obtain ⟨q1, q2, q3, q4, q5, q6⟩ := q; exact ⟨q1, (gBlind (As := [.ref (ad 0), .int (xs ((nI (6 * j)) + 1).toNatClampNeg), .ref lo]) a U g mk ⟨q1, q2⟩).2, vk_R.same rfl q3, q4, va_K.moved (u := U) (U := U.calling g mk a) (Vm.Alike.refl U.vm) q5, q6⟩, fun U hU hW => ⟨rfl, (gStart (As := [.ref (ad 0), .int (xs ((nI (6 * j)) + 1).toNatClampNeg), .ref lo]) hPX hDX hKX0 hT hS (gFree hDX hS hA) (d) U hU hW).2, vk_R.warm hW (vk_R.same rfl hR), by rw [hU]; exact hPO, va_K.moved hW.alike (gKd hKL0 (d)), hDO.weaken (fun _ _ _ _ => trivial)⟩⟩ rfl rfl hl.1 rfl (lv_room (Nat.le_of_ble_eq_true rfl)) dL_law_1793 ⟨by omega, by omega⟩) hS (fun q _ h => hF q h) hF (fun r_725 f_726 t H1 locs ht hvm hw hB hz1 hk1 hS => ?_)
      rw [ht] at hB
      have hPX := gOther hPX hk1 (dj_sym (dj_1 djX))
      have hPM := gOther hPM hk1 (dj_sym (dj_1 djM))
      have hPO := hB
      have hDO : va_D A [(lo, .inl (cL, 1, .inr (.inl f_726)))] := vD_one hDO
      generalize H1 = H at hPX hPM hPO hS ⊢
      refine lv_istore (lv' := [(5, .int r_725), (4, .int (nI (6 * j))), (3, .ref lo), (2, .ref (am 0)), (1, .ref (ad 0)), (0, .ref b)]) hx hb dL_law_1796 hl (by decide) rfl (fun ls hl => ?_)
      refine lv_aload_n hx hb dL_law_1798 rfl (lv_at hl 3 rfl) ?_
      refine lv_aload_n hx hb dL_law_1799 rfl (lv_at hl 5 rfl) ?_
      refine lv_iload hx hb dL_law_1800 (lv_at hl 1 rfl) ?_
      refine lv_iconst (v := 1) hx hb dL_law_1802 (by decide) ?_
      refine lv_iadd hx hb dL_law_1803 ?_
      refine va_sld hx hb hX hbl hbA hS (lw_ix (k := 1) hL hin (by decide) (by decide)) dL_law_1804 ?_
      have hF := gFree hDM hS hA
      refine va_calliD hd0 (va_runV_D (As := [.int (xs ((nI (6 * j)) + 1).toNatClampNeg)]) (rest := []) ⟨hx, hb, hml, hown, hts⟩ (n_X12_holiday l dC dI am cM adK adV H.size τ hIM (xs ((nI (6 * j)) + 1).toNatClampNeg) ) (cwV 1 hts gL0_X12_holiday rfl rfl rfl (by decide +kernel) ⟨Nat.le_of_ble_eq_true rfl, Nat.le_of_ble_eq_true rfl⟩) ⟨gBlind, va_recv hKM hPM (ci := 11) (q0 := 0) rfl (mat_11 rfl), gStart (As := [.ref (am 0), .int (xs ((nI (6 * j)) + 1).toNatClampNeg)]) hPM hDM hKM0 hT hS hF (d)⟩ rfl rfl hl.1 rfl (lv_room (Nat.le_of_ble_eq_true rfl)) dL_law_1805 ⟨by omega, by omega⟩) hS (fun q _ h => hF q h) hF (fun r_727 τz_728 t H1 locs ht hvm hw hB hz1 hk1 hS d_729 hd0 => ?_)
      have hts := dr_words hts0 (d_729)
      have hKX := gKd hKX0 (d_729)
      have hKM := gKd hKM0 (d_729)
      have hown : (s.setDrawn (d_729)).vm.findClass RL = some m.cls := hown0
      have hX : va_X b L xs (s.setDrawn (d_729)) s.heap := hX0
      obtain ⟨hPM, hDM⟩ := gBack hF ht hB
      obtain ⟨hI_731, fc_732, hp_730⟩ := hw
      have hPX := gOther hPX hk1 (dj_sym (dj_G dj))
      have hPO := gOther hPO hk1 (dj_1 djM)
      generalize H1 = H at hPX hPM hPO hS ⊢
      have dp_733 : Deep τz_728 := (Deep.fr hDp (fc_732.1 2 (by decide) (by decide)) (fc_732.1 4 (by decide) (by decide)) (fc_732.1 9 (by decide) (by decide)) (fc_732.1 11 (by decide) (by decide)) (fc_732.1 12 (by decide) (by decide)) (fc_732.1 17 (by decide) (by decide)) (fc_732.1 18 (by decide) (by decide)) (fc_732.2 20 (by decide)) (fc_732.2 21 (by decide)) (fc_732.2 28 (by decide)) (fc_732.2 64 (by decide)) (fc_732.2 65 (by decide)) (fc_732.2 68 (by decide)))
      refine lv_istore (lv' := [(6, .int r_727), (5, .int r_725), (4, .int (nI (6 * j))), (3, .ref lo), (2, .ref (am 0)), (1, .ref (ad 0)), (0, .ref b)]) hx hb dL_law_1808 hl (by decide) rfl (fun ls hl => ?_)
      refine lv_goto (tgt := 1851) hx hb dL_law_1810 (by decide) ?_
      obtain ⟨x_734, ex_734⟩ : ∃ zz : Int32, zz = (nI (6 * j)) + 6 := ⟨_, rfl⟩
      refine lv_iinc (v := x_734) (lv' := [(4, .int x_734), (6, .int r_727), (5, .int r_725), (3, .ref lo), (2, .ref (am 0)), (1, .ref (ad 0)), (0, .ref b)]) hx hb dL_law_1851 hl (k := 2) rfl (by rw [ex_734]; rfl) (by decide) rfl (fun ls hl => ?_)
      refine lv_goto (tgt := 23) hx hb dL_law_1854 (by decide) ?_
      have hl := lv_sub hl [0, 3, 4, 5, 6] rfl
      rw [ex_734, nI_6] at hl
      exact ih (j + 1) σ τz_728 f_726 _ _ _ _ _ _ (by omega) (by omega) hIX hI_731 dp_733 (by omega) (by omega) hd0 hPX hDX hPM hDM hPO hDO hS hl
    by_cases c_735 : ((xs (nI (6 * j)).toNatClampNeg) &&& 63) = 41
    · refine lv_tableIn (tgt := 1813) hx hb dL_law_40 (by rw [c_735]; decide) (by rw [c_735]; decide) (by rw [c_735]; rfl) (by decide) ?_
      refine lv_aload_n hx hb dL_law_1813 rfl (lv_at hl 3 rfl) ?_
      refine lv_aload_n hx hb dL_law_1814 rfl (lv_at hl 4 rfl) ?_
      refine lv_iload hx hb dL_law_1815 (lv_at hl 0 rfl) ?_
      refine lv_iconst (v := 1) hx hb dL_law_1817 (by decide) ?_
      refine lv_iadd hx hb dL_law_1818 ?_
      refine va_sld hx hb hX hbl hbA hS (lw_ix (k := 1) hL hin (by decide) (by decide)) dL_law_1819 ?_
      have hF := gFree hDX hS hA
      refine va_calliD hd0 (va_runV_D (As := [.int (xs ((nI (6 * j)) + 1).toNatClampNeg)]) (rest := []) ⟨hx, hb, hml, hown, hts⟩ (n_X11_size l dC dI ad cA adK adV H.size σ hIX (xs ((nI (6 * j)) + 1).toNatClampNeg) ) (cwV 1 hts gL0_X11_size rfl rfl rfl (by decide +kernel) ⟨Nat.le_of_ble_eq_true rfl, Nat.le_of_ble_eq_true rfl⟩) ⟨gBlind, va_recv hKX hPX (ci := 10) (q0 := 0) rfl (at_10 rfl), gStart (As := [.ref (ad 0), .int (xs ((nI (6 * j)) + 1).toNatClampNeg)]) hPX hDX hKX0 hT hS hF (d)⟩ rfl rfl hl.1 rfl (lv_room (Nat.le_of_ble_eq_true rfl)) dL_law_1820 ⟨by omega, by omega⟩) hS (fun q _ h => hF q h) hF (fun r_736 σz_737 t H1 locs ht hvm hw hB hz1 hk1 hS d_738 hd0 => ?_)
      have hts := dr_words hts0 (d_738)
      have hKX := gKd hKX0 (d_738)
      have hKM := gKd hKM0 (d_738)
      have hown : (s.setDrawn (d_738)).vm.findClass RL = some m.cls := hown0
      have hX : va_X b L xs (s.setDrawn (d_738)) s.heap := hX0
      obtain ⟨hPX, hDX⟩ := gBack hF ht hB
      obtain ⟨hI_740, fc_741, hp_739⟩ := hw
      have hPM := gOther hPM hk1 (dj_G dj)
      have hPO := gOther hPO hk1 (dj_1 djX)
      generalize H1 = H at hPX hPM hPO hS ⊢
      refine lv_pop hx hb dL_law_1823 rfl ?_
      refine lv_aload_n hx hb dL_law_1824 rfl (lv_at hl 2 rfl) ?_
      refine lv_aload_n hx hb dL_law_1825 rfl (lv_at hl 4 rfl) ?_
      refine lv_iload hx hb dL_law_1826 (lv_at hl 0 rfl) ?_
      refine lv_iconst (v := 1) hx hb dL_law_1828 (by decide) ?_
      refine lv_iadd hx hb dL_law_1829 ?_
      refine va_sld hx hb hX hbl hbA hS (lw_ix (k := 1) hL hin (by decide) (by decide)) dL_law_1830 ?_
      have hF := gFree hDM hS hA
      refine va_calliD hd0 (va_runV_D (As := [.int (xs ((nI (6 * j)) + 1).toNatClampNeg)]) (rest := []) ⟨hx, hb, hml, hown, hts⟩ (n_X12_size l dC dI am cM adK adV H.size τ hIM (xs ((nI (6 * j)) + 1).toNatClampNeg) ) (cwV 1 hts gL0_X12_size rfl rfl rfl (by decide +kernel) ⟨Nat.le_of_ble_eq_true rfl, Nat.le_of_ble_eq_true rfl⟩) ⟨gBlind, va_recv hKM hPM (ci := 11) (q0 := 0) rfl (mat_11 rfl), gStart (As := [.ref (am 0), .int (xs ((nI (6 * j)) + 1).toNatClampNeg)]) hPM hDM hKM0 hT hS hF (d_738)⟩ rfl rfl hl.1 rfl (lv_room (Nat.le_of_ble_eq_true rfl)) dL_law_1831 ⟨by omega, by omega⟩) hS (fun q _ h => hF q h) hF (fun r_742 τz_743 t H1 locs ht hvm hw hB hz1 hk1 hS d_744 hd0 => ?_)
      have hts := dr_words hts0 (d_744)
      have hKX := gKd hKX0 (d_744)
      have hKM := gKd hKM0 (d_744)
      have hown : (s.setDrawn (d_744)).vm.findClass RL = some m.cls := hown0
      have hX : va_X b L xs (s.setDrawn (d_744)) s.heap := hX0
      obtain ⟨hPM, hDM⟩ := gBack hF ht hB
      obtain ⟨hI_746, fc_747, hp_745⟩ := hw
      have hPX := gOther hPX hk1 (dj_sym (dj_G dj))
      have hPO := gOther hPO hk1 (dj_1 djM)
      generalize H1 = H at hPX hPM hPO hS ⊢
      have dp_748 : Deep τz_743 := (Deep.fr hDp (fc_747.1 2 (by decide) (by decide)) (fc_747.1 4 (by decide) (by decide)) (fc_747.1 9 (by decide) (by decide)) (fc_747.1 11 (by decide) (by decide)) (fc_747.1 12 (by decide) (by decide)) (fc_747.1 17 (by decide) (by decide)) (fc_747.1 18 (by decide) (by decide)) (fc_747.2 20 (by decide)) (fc_747.2 21 (by decide)) (fc_747.2 28 (by decide)) (fc_747.2 64 (by decide)) (fc_747.2 65 (by decide)) (fc_747.2 68 (by decide)))
      refine lv_pop hx hb dL_law_1834 rfl ?_
      refine lv_goto (tgt := 1851) hx hb dL_law_1835 (by decide) ?_
      obtain ⟨x_749, ex_749⟩ : ∃ zz : Int32, zz = (nI (6 * j)) + 6 := ⟨_, rfl⟩
      refine lv_iinc (v := x_749) (lv' := [(4, .int x_749), (3, .ref lo), (2, .ref (am 0)), (1, .ref (ad 0)), (0, .ref b)]) hx hb dL_law_1851 hl (k := 0) rfl (by rw [ex_749]; rfl) (by decide) rfl (fun ls hl => ?_)
      refine lv_goto (tgt := 23) hx hb dL_law_1854 (by decide) ?_
      have hl := lv_sub hl [0, 1, 2, 3, 4] rfl
      rw [ex_749, nI_6] at hl
      exact ih (j + 1) σz_737 τz_743 f _ _ _ _ _ _ (by omega) (by omega) hI_740 hI_746 dp_748 (by omega) (by omega) hd0 hPX hDX hPM hDM hPO hDO hS hl
    by_cases c_750 : ((xs (nI (6 * j)).toNatClampNeg) &&& 63) = 42
    · refine lv_tableIn (tgt := 1838) hx hb dL_law_40 (by rw [c_750]; decide) (by rw [c_750]; decide) (by rw [c_750]; rfl) (by decide) ?_
      refine lv_aload_n hx hb dL_law_1838 rfl (lv_at hl 3 rfl) ?_
      have hF := gFree hDX hS hA
      refine va_calliD hd0 (va_runV_D (As := []) (rest := []) ⟨hx, hb, hml, hown, hts⟩ (n_X11_trouble l dC dI ad cA adK adV H.size σ hIX  ) (cwV 0 hts gL0_X11_trouble rfl rfl rfl (by decide +kernel) ⟨Nat.le_of_ble_eq_true rfl, Nat.le_of_ble_eq_true rfl⟩) ⟨gBlind, va_recv hKX hPX (ci := 10) (q0 := 0) rfl (at_10 rfl), gStart (As := [.ref (ad 0)]) hPX hDX hKX0 hT hS hF (d)⟩ rfl rfl hl.1 rfl (lv_room (Nat.le_of_ble_eq_true rfl)) dL_law_1839 ⟨by omega, by omega⟩) hS (fun q _ h => hF q h) hF (fun r_751 σz_752 t H1 locs ht hvm hw hB hz1 hk1 hS d_753 hd0 => ?_)
      have hts := dr_words hts0 (d_753)
      have hKX := gKd hKX0 (d_753)
      have hKM := gKd hKM0 (d_753)
      have hown : (s.setDrawn (d_753)).vm.findClass RL = some m.cls := hown0
      have hX : va_X b L xs (s.setDrawn (d_753)) s.heap := hX0
      obtain ⟨hPX, hDX⟩ := gBack hF ht hB
      obtain ⟨hI_755, fc_756, hp_754⟩ := hw
      have hPM := gOther hPM hk1 (dj_G dj)
      have hPO := gOther hPO hk1 (dj_1 djX)
      generalize H1 = H at hPX hPM hPO hS ⊢
      refine lv_pop hx hb dL_law_1842 rfl ?_
      refine lv_aload_n hx hb dL_law_1843 rfl (lv_at hl 2 rfl) ?_
      have hF := gFree hDM hS hA
      refine va_calliD hd0 (va_runV_D (As := []) (rest := []) ⟨hx, hb, hml, hown, hts⟩ (n_X12_trouble l dC dI am cM adK adV H.size τ hIM  ) (cwV 0 hts gL0_X12_trouble rfl rfl rfl (by decide +kernel) ⟨Nat.le_of_ble_eq_true rfl, Nat.le_of_ble_eq_true rfl⟩) ⟨gBlind, va_recv hKM hPM (ci := 11) (q0 := 0) rfl (mat_11 rfl), gStart (As := [.ref (am 0)]) hPM hDM hKM0 hT hS hF (d_753)⟩ rfl rfl hl.1 rfl (lv_room (Nat.le_of_ble_eq_true rfl)) dL_law_1844 ⟨by omega, by omega⟩) hS (fun q _ h => hF q h) hF (fun r_757 τz_758 t H1 locs ht hvm hw hB hz1 hk1 hS d_759 hd0 => ?_)
      have hts := dr_words hts0 (d_759)
      have hKX := gKd hKX0 (d_759)
      have hKM := gKd hKM0 (d_759)
      have hown : (s.setDrawn (d_759)).vm.findClass RL = some m.cls := hown0
      have hX : va_X b L xs (s.setDrawn (d_759)) s.heap := hX0
      obtain ⟨hPM, hDM⟩ := gBack hF ht hB
      obtain ⟨hI_761, fc_762, hp_760⟩ := hw
      have hPX := gOther hPX hk1 (dj_sym (dj_G dj))
      have hPO := gOther hPO hk1 (dj_1 djM)
      generalize H1 = H at hPX hPM hPO hS ⊢
      have dp_763 : Deep τz_758 := (Deep.fr hDp (fc_762.1 2 (by decide) (by decide)) (fc_762.1 4 (by decide) (by decide)) (fc_762.1 9 (by decide) (by decide)) (fc_762.1 11 (by decide) (by decide)) (fc_762.1 12 (by decide) (by decide)) (fc_762.1 17 (by decide) (by decide)) (fc_762.1 18 (by decide) (by decide)) (fc_762.2 20 (by decide)) (fc_762.2 21 (by decide)) (fc_762.2 28 (by decide)) (fc_762.2 64 (by decide)) (fc_762.2 65 (by decide)) (fc_762.2 68 (by decide)))
      refine lv_pop hx hb dL_law_1847 rfl ?_
      refine lv_goto (tgt := 1851) hx hb dL_law_1848 (by decide) ?_
      obtain ⟨x_764, ex_764⟩ : ∃ zz : Int32, zz = (nI (6 * j)) + 6 := ⟨_, rfl⟩
      refine lv_iinc (v := x_764) (lv' := [(4, .int x_764), (3, .ref lo), (2, .ref (am 0)), (1, .ref (ad 0)), (0, .ref b)]) hx hb dL_law_1851 hl (k := 0) rfl (by rw [ex_764]; rfl) (by decide) rfl (fun ls hl => ?_)
      refine lv_goto (tgt := 23) hx hb dL_law_1854 (by decide) ?_
      have hl := lv_sub hl [0, 1, 2, 3, 4] rfl
      rw [ex_764, nI_6] at hl
      exact ih (j + 1) σz_752 τz_758 f _ _ _ _ _ _ (by omega) (by omega) hI_755 hI_761 dp_763 (by omega) (by omega) hd0 hPX hDX hPM hDM hPO hDO hS hl
    refine lv_tableOut (tgt := 1851) hx hb dL_law_40 (by have q0 := lv_neT (a := 0) c_3 rfl; have q1 := lv_neT (a := 1) c_18 rfl; have q2 := lv_neT (a := 2) c_33 rfl; have q3 := lv_neT (a := 3) c_48 rfl; have q4 := lv_neT (a := 4) c_63 rfl; have q5 := lv_neT (a := 5) c_78 rfl; have q6 := lv_neT (a := 6) c_93 rfl; have q7 := lv_neT (a := 7) c_125 rfl; have q8 := lv_neT (a := 8) c_140 rfl; have q9 := lv_neT (a := 9) c_155 rfl; have q10 := lv_neT (a := 10) c_189 rfl; have q11 := lv_neT (a := 11) c_204 rfl; have q12 := lv_neT (a := 12) c_219 rfl; have q13 := lv_neT (a := 13) c_234 rfl; have q14 := lv_neT (a := 14) c_266 rfl; have q15 := lv_neT (a := 15) c_298 rfl; have q16 := lv_neT (a := 16) c_313 rfl; have q17 := lv_neT (a := 17) c_328 rfl; have q18 := lv_neT (a := 18) c_343 rfl; have q19 := lv_neT (a := 19) c_358 rfl; have q20 := lv_neT (a := 20) c_390 rfl; have q21 := lv_neT (a := 21) c_422 rfl; have q22 := lv_neT (a := 22) c_437 rfl; have q23 := lv_neT (a := 23) c_452 rfl; have q24 := lv_neT (a := 24) c_467 rfl; have q25 := lv_neT (a := 25) c_499 rfl; have q26 := lv_neT (a := 26) c_514 rfl; have q27 := lv_neT (a := 27) c_529 rfl; have q28 := lv_neT (a := 28) c_544 rfl; have q29 := lv_neT (a := 29) c_559 rfl; have q30 := lv_neT (a := 30) c_574 rfl; have q31 := lv_neT (a := 31) c_589 rfl; have q32 := lv_neT (a := 32) c_604 rfl; have q33 := lv_neT (a := 33) c_619 rfl; have q34 := lv_neT (a := 34) c_634 rfl; have q35 := lv_neT (a := 35) c_649 rfl; have q36 := lv_neT (a := 36) c_664 rfl; have q37 := lv_neT (a := 37) c_679 rfl; have q38 := lv_neT (a := 38) c_694 rfl; have q39 := lv_neT (a := 39) c_709 rfl; have q40 := lv_neT (a := 40) c_724 rfl; have q41 := lv_neT (a := 41) c_735 rfl; have q42 := lv_neT (a := 42) c_750 rfl; omega) (by decide) ?_
    obtain ⟨x_765, ex_765⟩ : ∃ zz : Int32, zz = (nI (6 * j)) + 6 := ⟨_, rfl⟩
    refine lv_iinc (v := x_765) (lv' := [(4, .int x_765), (3, .ref lo), (2, .ref (am 0)), (1, .ref (ad 0)), (0, .ref b)]) hx hb dL_law_1851 hl (k := 0) rfl (by rw [ex_765]; rfl) (by decide) rfl (fun ls hl => ?_)
    refine lv_goto (tgt := 23) hx hb dL_law_1854 (by decide) ?_
    have hl := lv_sub hl [0, 1, 2, 3, 4] rfl
    rw [ex_765, nI_6] at hl
    exact ih (j + 1) σ τ f _ _ _ _ _ _ (by omega) (by omega) hIX hIM hDp (by omega) (by omega) hd0 hPX hDX hPM hDM hPO hDO hS hl
