/-! THE CLAIM OUT OF ONE WALK OF THE LAW'S BODY. Your part is whole_start (and what it stands on); all else here is the same for every law, but numbers. -/
def R_law : String := "BondCalendarsLaw"
def lw_P (b : Addr) (xs : List Int32) (args : Array Value) (s : State) : Prop := args = #[.ref b] ∧ s.IntsAt b xs ∧ xs.length ≤ 6 ∧ (Jvm.Cond.and given_1 narrow_1).before args s = true
/-- what a walk over the start with the record d0 says of its end, said of the start itself -/
theorem lw_closed {s t : State} {o : Outcome} {d0 : Drawn} {L : List Loc} {k n : Nat} (hd0 : s.drawn.sameBut d0 lw_cs) (hv : ∃ v, o = .returned v) (hW : (s.setDrawn d0).WarmedH t.vm) (hs : (s.setDrawn d0).sameButNew ({ t with vm := s.vm } : State) L k n) : State.butDraws s t lw_cs (fun t1 => Framed s o t1 L k n) := by
  have h2 : t.drawn = d0 := congrArg State.drawn hs.1
  refine ⟨⟨hv, hW, State.sameButNew.setDrawn hs s.drawn⟩, ?_, by decide⟩
  rw [h2]
  exact hd0
def lw_Q (_ : Array Value) (s : State) (o : Outcome) (t : State) : Prop := o = .returned (some (.int 1)) ∧ State.butDraws s t lw_cs (fun t1 => Framed s o t1 [] 600002 7302232)
def lw_Z (below : List Frame) (a : Array Value) (s : State) : State → Prop := fun t => ∃ o, t.status = .running ∧ Ended t below o ∧ lw_Q a s o t
/-- the law's own end, with 1 on the stack, nothing written that was there before, its room as the claim has it; d0: the record of draws at this point (at the entry s.drawn: begin with 'refine W.base ?_' and 'have hd0 := Drawn.sameBut.refl s.drawn lw_cs') -/
theorem lw_ret {p : Program} {l : Launch} {e : Env} {s : State} {m : MethodId} {below : List Frame} {meth : Method} {c : Code} {b : Nat} {d0 : Drawn} (hd0 : s.drawn.sameBut d0 lw_cs) (hx : p.tables.exec = Jvm.exec) (hb : c.code = code) (hr : meth.sig.returnType = ret) (hlocks : meth.locks = false) {pc : Nat} {H : Heap} {ls : Array Slot} (hdg : decode code pc = .ok (.ireturn, 1)) : W p l e room_1 (s.setDrawn d0) m #[Value.ref b] below meth c H [] 600002 7302232 (lw_Z below #[Value.ref b] s) (F0 m pc ls [.int 1]) := by
  intro T hT X
  obtain ⟨fs, hret, hrun, hended, hW, hframe⟩ := X.leave (v := some (.int 1)) (hlocks := hlocks) (fun h => by rw [hr] at h; cases h)
  have hmeth' : T.vm.method? m = some meth := X.method'
  refine ⟨T.setFrames fs, ?_, .returned (some (.int 1)), hrun, hended, rfl, lw_closed hd0 ⟨_, rfl⟩ hW hframe⟩
  jvm_step X.here [X.here.top, hx, hb, hdg, hmeth', hr, ret, narrow_b1]
  (try refine ⟨rfl, ?_⟩); (try refine ⟨rfl, ?_⟩)
  first | (intro acts; rw [hret _ acts rfl rfl rfl]) | rw [hret _ _ rfl rfl rfl]
  exact Steps.refl _
/-- what holds at the law's entry: the machine, the code, the tables' words (any of lw_tbl by 'hts w (by decide +kernel)'), the script of L ints xs at the cell b, what the Statement gives of the start (any of its parts by flat_of_before) -/
def lw_At (p : Program) (s : State) (m : MethodId) (meth : Method) (c : Code) (b L : Nat) (xs : Nat → Int32) : Prop :=
  p.tables.exec = Jvm.exec ∧ c.code = code ∧ meth.sig.returnType = ret ∧ c.maxLocals = 7 ∧ s.vm.findClass R_law = some m.cls ∧ (∀ w ∈ lw_tbl, w.before #[Value.ref b] s = true) ∧ va_X b L xs s s.heap ∧ b < s.heap.size ∧ meth.locks = false ∧ (Jvm.Cond.and given_1 narrow_1).before #[Value.ref b] s = true
set_option maxHeartbeats 40000000 in
set_option maxRecDepth 100000 in
/-- the law's body on a script of six ints, with both objects new -/
theorem law_cases {p : Program} {e : Env} {s : State} {m : MethodId} {below : List Frame} {meth : Method} {c : Code} (l : Launch) (hflags : l.flags = flags0) {b : Nat} {xs : Nat → Int32} (C0 : lw_At p s m meth c b 6 xs) {d0 : Drawn} (hd0 : s.drawn.sameBut d0 lw_cs) (dC : Nat → ClassId) (dI : Nat → Nat → Nat) (x : Nat) (fs_x : List Value) (rd : Nat) (fs_rd : List Value) (tp : Nat) (fs_tp : List Value) (ba : Nat) (cB : ClassId) (fb : Nat → Int32) (ra : Nat) (li : Nat) (fs_li : List Value) (ho : Nat) (fs_ho : List Value) (dr : Nat) (fs_dr : List Value) (hd : Nat) (fs_hd : List Value) (mm : Nat) (fs_mm : List Value) (mb : Nat) (cM : ClassId) (fM : Nat → Int32) (u0 : Int64) (w0 : Int64) (lo : Nat) (cL : ClassId) (hn_x : fs_x.length = 15) (hf_x_0 : fs_x[0]? = some (.ref rd)) (hf_x_3 : fs_x[3]? = some (.ref ra)) (hf_x_8 : fs_x[8]? = some (.ref li)) (hf_x_9 : fs_x[9]? = some (.ref dr)) (hf_x_10 : fs_x[10]? = some (.int 0)) (hf_x_11 : fs_x[11]? = some (.int 0)) (hf_x_12 : fs_x[12]? = some (.int 0)) (hf_x_13 : fs_x[13]? = some (.int 0)) (hf_x_14 : fs_x[14]? = some (.int (-1))) (hn_rd : fs_rd.length = 5) (hf_rd_0 : fs_rd[0]? = some (.ref tp)) (hf_rd_1 : fs_rd[1]? = some (.int 0)) (hf_rd_2 : fs_rd[2]? = some (.int (-1))) (hf_rd_3 : fs_rd[3]? = some (.int 0)) (hf_rd_4 : fs_rd[4]? = some (.int 0)) (hn_tp : fs_tp.length = 7) (hf_tp_0 : fs_tp[0]? = some (.ref ba)) (hf_tp_1 : fs_tp[1]? = some (.int 0)) (hf_tp_2 : fs_tp[2]? = some (.int 0)) (hf_tp_3 : fs_tp[3]? = some (.int 0)) (hf_tp_4 : fs_tp[4]? = some (.int 0)) (hf_tp_5 : fs_tp[5]? = some (.int 0)) (hf_tp_6 : fs_tp[6]? = some (.int 0)) (hn_li : fs_li.length = 12) (hf_li_0 : fs_li[0]? = some (.int 0)) (hf_li_1 : fs_li[1]? = some (.int 0)) (hf_li_2 : fs_li[2]? = some (.ref ho)) (hf_li_4 : fs_li[4]? = some (.int 0)) (hf_li_9 : fs_li[9]? = some (.int 0)) (hf_li_10 : fs_li[10]? = some (.int 0)) (hn_ho : fs_ho.length = 2) (hf_ho_1 : fs_ho[1]? = some (.int 0)) (hn_dr : fs_dr.length = 12) (hf_dr_2 : fs_dr[2]? = some (.ref hd)) (hn_hd : fs_hd.length = 2) (hn_mm : fs_mm.length = 69) (hf_mm_0 : fs_mm[0]? = some (.int 0)) (hf_mm_1 : fs_mm[1]? = some (.int 0)) (hf_mm_2 : fs_mm[2]? = some (.int (-1))) (hf_mm_3 : fs_mm[3]? = some (.long 0)) (hf_mm_4 : fs_mm[4]? = some (.long 0)) (hf_mm_20 : fs_mm[20]? = some (.int 0)) (hf_mm_21 : fs_mm[21]? = some (.int 0)) (hf_mm_22 : fs_mm[22]? = some (.int 0)) (hf_mm_23 : fs_mm[23]? = some (.int 0)) (hf_mm_24 : fs_mm[24]? = some (.int 0)) (hf_mm_25 : fs_mm[25]? = some (.int 0)) (hf_mm_26 : fs_mm[26]? = some (.int 0)) (hf_mm_27 : fs_mm[27]? = some (.int 0)) (hf_mm_28 : fs_mm[28]? = some (.int 0)) (hf_mm_29 : fs_mm[29]? = some (.int 0)) (hf_mm_30 : fs_mm[30]? = some (.ref mb)) (hf_mm_31 : fs_mm[31]? = some (.int 0)) (hf_mm_32 : fs_mm[32]? = some (.int 0)) (hf_mm_33 : fs_mm[33]? = some (.int 0)) (hf_mm_34 : fs_mm[34]? = some (.int 0)) (hf_mm_35 : fs_mm[35]? = some (.int 0)) (hf_mm_36 : fs_mm[36]? = some (.int 0)) (hf_mm_37 : fs_mm[37]? = some (.int 0)) (hf_mm_38 : fs_mm[38]? = some (.long 0)) (hf_mm_46 : fs_mm[46]? = some (.int 0)) (hf_mm_47 : fs_mm[47]? = some (.int 0)) (hf_mm_48 : fs_mm[48]? = some (.int 0)) (hf_mm_49 : fs_mm[49]? = some (.int 0)) (hf_mm_64 : fs_mm[64]? = some (.int 0)) (hf_mm_65 : fs_mm[65]? = some (.int 0)) (hf_mm_66 : fs_mm[66]? = some (.long 0)) (hf_mm_67 : fs_mm[67]? = some (.long 0)) (hf_mm_68 : fs_mm[68]? = some (.int 0)) (H : Heap) (locs : List Loc) (ls : Array Slot) (hK : va_K (dC, dI) vwCl [(cB, .byte), (cM, .byte), (cL, .long)] s) (hP : va_P (dC, dI) vwCl [(x, .inr (10, fs_x)), (rd, .inr (6, fs_rd)), (tp, .inr (9, fs_tp)), (ba, .inl (cB, 900, .inl fb)), (ra, .inr (5, [.long u0, .long w0])), (li, .inr (3, fs_li)), (ho, .inr (4, fs_ho)), (dr, .inr (3, fs_dr)), (hd, .inr (4, fs_hd)), (mm, .inr (11, fs_mm)), (mb, .inl (cM, 900, .inl fM))] H) (hD : va_D (fun q : Nat => s.heap.size ≤ q) [(x, .inr (10, fs_x)), (rd, .inr (6, fs_rd)), (tp, .inr (9, fs_tp)), (ba, .inl (cB, 900, .inl fb)), (ra, .inr (5, [.long u0, .long w0])), (li, .inr (3, fs_li)), (ho, .inr (4, fs_ho)), (dr, .inr (3, fs_dr)), (hd, .inr (4, fs_hd)), (mm, .inr (11, fs_mm)), (mb, .inl (cM, 900, .inl fM))]) (hS : va_S (fun q : Nat => s.heap.size ≤ q) s.heap H locs) (hl : lv_has ls 7 [(4, .int 0), (3, .ref lo), (2, .ref mm), (1, .ref x), (0, .ref b)]) : W p l e room_1 (s.setDrawn d0) m #[Value.ref b] below meth c H locs 187 12986 (lw_Z below #[Value.ref b] s) (F0 m 23 ls []) := by
  obtain ⟨hx, hb, hr, hml, hown, hts, hX, hbl, hlocks, hgv⟩ := id C0
  have hown : s.vm.findClass RL = some m.cls := hown
  have hts : ∀ w ∈ wsL_law0, w.before #[Value.ref b] (s.setDrawn d0) = true := dr_words (fun w h => hts w (wsL_law_in0 w h)) d0
  have hX : va_X b 6 xs (s.setDrawn d0) s.heap := hX
  have hA : ∀ q : Nat, s.heap.size ≤ q → (fun q : Nat => s.heap.size ≤ q) q := fun _ h => h
  have hbA : ¬ (fun q : Nat => s.heap.size ≤ q) b := Nat.not_le.mpr hbl
  generalize hAe : (fun q : Nat => s.heap.size ≤ q) = A at hD hS hA hbA
  have hfg : ∀ q ∈ locs, s.heap.size ≤ q.base := fun q hq => by have := hS.2.2 q hq; rw [← hAe] at this; exact this
  refine lv_iload hx hb dL_law_23 (lv_at hl 0 rfl) ?_
  refine lv_aload_n hx hb dL_law_25 rfl (lv_at hl 4 rfl) ?_
  refine va_slen hx hb hX hbl hbA hS dL_law_26 ?_
  refine lv_topi (fun z_1 ez_1 => ?_)
  obtain rfl : z_1 = 6 := ez_1.trans rfl
  refine lv_bipush (v := 6) hx hb dL_law_27 (by decide) ?_
  refine lv_isub hx hb dL_law_29 ?_
  refine lv_topi (fun z_2 ez_2 => ?_)
  obtain rfl : z_2 = 0 := ez_2.trans (by decide)
  refine lv_icmp_gt (tgt := 1899) hx hb dL_law_30 (by decide) (fun c_3 => ?_) (fun c_3 => ?_)
  · exact absurd c_3 (by decide)
  · refine lv_aload_n hx hb dL_law_33 rfl (lv_at hl 4 rfl) ?_
    refine lv_iload hx hb dL_law_34 (lv_at hl 0 rfl) ?_
    refine va_sld hx hb hX hbl hbA hS (vp_in_nI (n := 0) (by decide) (by decide)) dL_law_36 ?_
    refine lv_bipush (v := 63) hx hb dL_law_37 (by decide) ?_
    refine lv_iand hx hb dL_law_39 ?_
    by_cases c_4 : ((xs (0 : Int32).toNatClampNeg) &&& 63) = 0
    · refine lv_tableIn (tgt := 228) hx hb dL_law_40 (by rw [c_4]; decide) (by rw [c_4]; decide) (by rw [c_4]; rfl) (by decide) ?_
      refine lv_aload_n hx hb dL_law_228 rfl (lv_at hl 3 rfl) ?_
      refine lv_aload_n hx hb dL_law_229 rfl (lv_at hl 4 rfl) ?_
      refine lv_iload hx hb dL_law_230 (lv_at hl 0 rfl) ?_
      refine lv_iconst (v := 1) hx hb dL_law_232 (by decide) ?_
      refine lv_iadd hx hb dL_law_233 ?_
      refine lv_topi (fun z_5 ez_5 => ?_)
      obtain rfl : z_5 = 1 := ez_5.trans (by decide)
      refine va_sld hx hb hX hbl hbA hS (vp_in_nI (n := 1) (by decide) (by decide)) dL_law_234 ?_
      refine lv_aload_n hx hb dL_law_235 rfl (lv_at hl 4 rfl) ?_
      refine lv_iload hx hb dL_law_236 (lv_at hl 0 rfl) ?_
      refine lv_iconst (v := 2) hx hb dL_law_238 (by decide) ?_
      refine lv_iadd hx hb dL_law_239 ?_
      refine lv_topi (fun z_6 ez_6 => ?_)
      obtain rfl : z_6 = 2 := ez_6.trans (by decide)
      refine va_sld hx hb hX hbl hbA hS (vp_in_nI (n := 2) (by decide) (by decide)) dL_law_240 ?_
      refine lv_aload_n hx hb dL_law_241 rfl (lv_at hl 4 rfl) ?_
      refine lv_iload hx hb dL_law_242 (lv_at hl 0 rfl) ?_
      refine lv_iconst (v := 3) hx hb dL_law_244 (by decide) ?_
      refine lv_iadd hx hb dL_law_245 ?_
      refine lv_topi (fun z_7 ez_7 => ?_)
      obtain rfl : z_7 = 3 := ez_7.trans (by decide)
      refine va_sld hx hb hX hbl hbA hS (vp_in_nI (n := 3) (by decide) (by decide)) dL_law_246 ?_
      refine lv_aload_n hx hb dL_law_247 rfl (lv_at hl 4 rfl) ?_
      refine lv_iload hx hb dL_law_248 (lv_at hl 0 rfl) ?_
      refine lv_iconst (v := 4) hx hb dL_law_250 (by decide) ?_
      refine lv_iadd hx hb dL_law_251 ?_
      refine lv_topi (fun z_8 ez_8 => ?_)
      obtain rfl : z_8 = 4 := ez_8.trans (by decide)
      refine va_sld hx hb hX hbl hbA hS (vp_in_nI (n := 4) (by decide) (by decide)) dL_law_252 ?_
      refine lv_aload_n hx hb dL_law_253 rfl (lv_at hl 4 rfl) ?_
      refine lv_iload hx hb dL_law_254 (lv_at hl 0 rfl) ?_
      refine lv_iconst (v := 5) hx hb dL_law_256 (by decide) ?_
      refine lv_iadd hx hb dL_law_257 ?_
      refine lv_topi (fun z_9 ez_9 => ?_)
      obtain rfl : z_9 = 5 := ez_9.trans (by decide)
      refine va_sld hx hb hX hbl hbA hS (vp_in_nI (n := 5) (by decide) (by decide)) dL_law_258 ?_
      have hPc := hP.sub (ws' := [(x, .inr (10, fs_x)), (rd, .inr (6, fs_rd)), (tp, .inr (9, fs_tp)), (ba, .inl (cB, 900, .inl fb))]) [0, 1, 2, 3] rfl
      have hDc := hD.sub (ws' := [(x, .inr (10, fs_x)), (rd, .inr (6, fs_rd)), (tp, .inr (9, fs_tp)), (ba, .inl (cB, 900, .inl fb))]) [0, 1, 2, 3] (by decide) rfl
      have hKc := hK.sub (tys' := [(cB, .byte)]) [0] rfl
      have hFc := va_free (wc := [(x, .inr (10, fs_x)), (rd, .inr (6, fs_rd)), (tp, .inr (9, fs_tp)), (ba, .inl (cB, 900, .inl fb))]) hD hS hA [0, 1, 2, 3] rfl
      refine va_calli (va_runV (As := [.int (xs (1 : Int32).toNatClampNeg), .int (xs (2 : Int32).toNatClampNeg), .int (xs (3 : Int32).toNatClampNeg), .int (xs (4 : Int32).toNatClampNeg), .int (xs (5 : Int32).toNatClampNeg)]) (rest := []) ⟨hx, hb, hml, hown, hts⟩ (k_X11_feed l dC dI H.size x fs_x rd fs_rd tp fs_tp ba cB fb (xs (1 : Int32).toNatClampNeg) (xs (2 : Int32).toNatClampNeg) (xs (3 : Int32).toNatClampNeg) (xs (4 : Int32).toNatClampNeg) (xs (5 : Int32).toNatClampNeg) hn_x hf_x_0 hn_rd hf_rd_0 hn_tp hf_tp_0 hf_tp_1) (cwV 5 hts gL0_X11_feed rfl rfl rfl (by decide +kernel) ⟨Nat.le_of_ble_eq_true rfl, Nat.le_of_ble_eq_true rfl⟩) ⟨fun a U g mk q => by obtain ⟨q0, q1, qP, qK, qD⟩ := q; exact ⟨q0, q1, qP, va_K.moved (u := U) (U := U.calling g mk a) (Vm.Alike.refl U.vm) qK, qD⟩, va_recv hKc hPc (ci := 10) (q0 := 0) rfl rfl, fun U hU hW => ⟨rfl, by rw [hU], by rw [hU]; exact hPc, va_K.moved hW.alike hKc, hDc.weaken (fun _ _ _ _ => trivial)⟩⟩ rfl rfl hl.1 rfl (lv_room (Nat.le_of_ble_eq_true rfl)) dL_law_259 ⟨Nat.le_of_ble_eq_true rfl, Nat.le_of_ble_eq_true rfl⟩) hS (fun q _ h => hFc q h) hFc (fun r_10 u t H1 locs ht hvm hw hB hz1 hk1 hS => ?_)
      obtain ⟨hP1, hK1, hD1⟩ := hB
      rw [ht] at hP1
      have hK1 := va_K.moved hvm.symm hK1
      obtain ⟨hP, hD⟩ := va_join (wr := [(ra, .inr (5, [.long u0, .long w0])), (li, .inr (3, fs_li)), (ho, .inr (4, fs_ho)), (dr, .inr (3, fs_dr)), (hd, .inr (4, fs_hd)), (mm, .inr (11, fs_mm)), (mb, .inl (cM, 900, .inl fM))]) (w1 := []) hP hD [0, 1, 2, 3] [4, 5, 6, 7, 8, 9, 10] rfl rfl (by decide) (by decide) hk1 hFc hP1 hD1
      generalize H1 = H at hP hS ⊢
      have hP : va_P (dC, dI) vwCl [(ra, .inr (5, [.long u0, .long w0])), (li, .inr (3, fs_li)), (ho, .inr (4, fs_ho)), (dr, .inr (3, fs_dr)), (hd, .inr (4, fs_hd)), (mm, .inr (11, fs_mm)), (mb, .inl (cM, 900, .inl fM))] H := hP
      have hD : va_D A [(ra, .inr (5, [.long u0, .long w0])), (li, .inr (3, fs_li)), (ho, .inr (4, fs_ho)), (dr, .inr (3, fs_dr)), (hd, .inr (4, fs_hd)), (mm, .inr (11, fs_mm)), (mb, .inl (cM, 900, .inl fM))] := hD
      have er_10 : r_10 = 20 := hw
      subst er_10
      refine lv_aload_n hx hb dL_law_262 rfl (lv_at hl 2 rfl) ?_
      refine lv_aload_n hx hb dL_law_263 rfl (lv_at hl 4 rfl) ?_
      refine lv_iload hx hb dL_law_264 (lv_at hl 0 rfl) ?_
      refine lv_iconst (v := 1) hx hb dL_law_266 (by decide) ?_
      refine lv_iadd hx hb dL_law_267 ?_
      refine lv_topi (fun z_11 ez_11 => ?_)
      obtain rfl : z_11 = 1 := ez_11.trans (by decide)
      refine va_sld hx hb hX hbl hbA hS (vp_in_nI (n := 1) (by decide) (by decide)) dL_law_268 ?_
      refine lv_aload_n hx hb dL_law_269 rfl (lv_at hl 4 rfl) ?_
      refine lv_iload hx hb dL_law_270 (lv_at hl 0 rfl) ?_
      refine lv_iconst (v := 2) hx hb dL_law_272 (by decide) ?_
      refine lv_iadd hx hb dL_law_273 ?_
      refine lv_topi (fun z_12 ez_12 => ?_)
      obtain rfl : z_12 = 2 := ez_12.trans (by decide)
      refine va_sld hx hb hX hbl hbA hS (vp_in_nI (n := 2) (by decide) (by decide)) dL_law_274 ?_
      refine lv_aload_n hx hb dL_law_275 rfl (lv_at hl 4 rfl) ?_
      refine lv_iload hx hb dL_law_276 (lv_at hl 0 rfl) ?_
      refine lv_iconst (v := 3) hx hb dL_law_278 (by decide) ?_
      refine lv_iadd hx hb dL_law_279 ?_
      refine lv_topi (fun z_13 ez_13 => ?_)
      obtain rfl : z_13 = 3 := ez_13.trans (by decide)
      refine va_sld hx hb hX hbl hbA hS (vp_in_nI (n := 3) (by decide) (by decide)) dL_law_280 ?_
      refine lv_aload_n hx hb dL_law_281 rfl (lv_at hl 4 rfl) ?_
      refine lv_iload hx hb dL_law_282 (lv_at hl 0 rfl) ?_
      refine lv_iconst (v := 4) hx hb dL_law_284 (by decide) ?_
      refine lv_iadd hx hb dL_law_285 ?_
      refine lv_topi (fun z_14 ez_14 => ?_)
      obtain rfl : z_14 = 4 := ez_14.trans (by decide)
      refine va_sld hx hb hX hbl hbA hS (vp_in_nI (n := 4) (by decide) (by decide)) dL_law_286 ?_
      refine lv_aload_n hx hb dL_law_287 rfl (lv_at hl 4 rfl) ?_
      refine lv_iload hx hb dL_law_288 (lv_at hl 0 rfl) ?_
      refine lv_iconst (v := 5) hx hb dL_law_290 (by decide) ?_
      refine lv_iadd hx hb dL_law_291 ?_
      refine lv_topi (fun z_15 ez_15 => ?_)
      obtain rfl : z_15 = 5 := ez_15.trans (by decide)
      refine va_sld hx hb hX hbl hbA hS (vp_in_nI (n := 5) (by decide) (by decide)) dL_law_292 ?_
      have hPc := hP.sub (ws' := [(mm, .inr (11, fs_mm)), (mb, .inl (cM, 900, .inl fM))]) [5, 6] rfl
      have hDc := hD.sub (ws' := [(mm, .inr (11, fs_mm)), (mb, .inl (cM, 900, .inl fM))]) [5, 6] (by decide) rfl
      have hKc := hK.sub (tys' := [(cM, .byte)]) [1] rfl
      have hFc := va_free (wc := [(mm, .inr (11, fs_mm)), (mb, .inl (cM, 900, .inl fM))]) hD hS hA [5, 6] rfl
      refine va_calli (va_runV (As := [.int (xs (1 : Int32).toNatClampNeg), .int (xs (2 : Int32).toNatClampNeg), .int (xs (3 : Int32).toNatClampNeg), .int (xs (4 : Int32).toNatClampNeg), .int (xs (5 : Int32).toNatClampNeg)]) (rest := [.int 20]) ⟨hx, hb, hml, hown, hts⟩ (k_X12_feed l dC dI H.size mm fs_mm mb cM fM (xs (1 : Int32).toNatClampNeg) (xs (2 : Int32).toNatClampNeg) (xs (3 : Int32).toNatClampNeg) (xs (4 : Int32).toNatClampNeg) (xs (5 : Int32).toNatClampNeg) hn_mm hf_mm_30 hf_mm_31) (cwV 5 hts gL0_X12_feed rfl rfl rfl (by decide +kernel) ⟨Nat.le_of_ble_eq_true rfl, Nat.le_of_ble_eq_true rfl⟩) ⟨fun a U g mk q => by obtain ⟨q0, q1, qP, qK, qD⟩ := q; exact ⟨q0, q1, qP, va_K.moved (u := U) (U := U.calling g mk a) (Vm.Alike.refl U.vm) qK, qD⟩, va_recv hKc hPc (ci := 11) (q0 := 0) rfl rfl, fun U hU hW => ⟨rfl, by rw [hU], by rw [hU]; exact hPc, va_K.moved hW.alike hKc, hDc.weaken (fun _ _ _ _ => trivial)⟩⟩ rfl rfl hl.1 rfl (lv_room (Nat.le_of_ble_eq_true rfl)) dL_law_293 ⟨Nat.le_of_ble_eq_true rfl, Nat.le_of_ble_eq_true rfl⟩) hS (fun q _ h => hFc q h) hFc (fun r_16 u t H1 locs ht hvm hw hB hz1 hk1 hS => ?_)
      obtain ⟨hP1, hK1, hD1⟩ := hB
      rw [ht] at hP1
      have hK1 := va_K.moved hvm.symm hK1
      obtain ⟨hP, hD⟩ := va_join (wr := [(ra, .inr (5, [.long u0, .long w0])), (li, .inr (3, fs_li)), (ho, .inr (4, fs_ho)), (dr, .inr (3, fs_dr)), (hd, .inr (4, fs_hd))]) (w1 := []) hP hD [5, 6] [0, 1, 2, 3, 4] rfl rfl (by decide) (by decide) hk1 hFc hP1 hD1
      generalize H1 = H at hP hS ⊢
      have hP : va_P (dC, dI) vwCl [(ra, .inr (5, [.long u0, .long w0])), (li, .inr (3, fs_li)), (ho, .inr (4, fs_ho)), (dr, .inr (3, fs_dr)), (hd, .inr (4, fs_hd))] H := hP
      have hD : va_D A [(ra, .inr (5, [.long u0, .long w0])), (li, .inr (3, fs_li)), (ho, .inr (4, fs_ho)), (dr, .inr (3, fs_dr)), (hd, .inr (4, fs_hd))] := hD
      have er_16 : r_16 = 20 := hw
      subst er_16
      refine lv_icmp_eq (tgt := 1893) hx hb dL_law_296 (by decide) (fun c_17 => ?_) (fun c_17 => ?_)
      · refine lv_iinc (v := 6) (lv' := [(4, .int 6), (3, .ref lo), (2, .ref mm), (1, .ref x), (0, .ref b)]) hx hb dL_law_1893 hl (k := 0) rfl (by decide) (by decide) rfl (fun ls hl => ?_)
        refine lv_goto (tgt := 23) hx hb dL_law_1896 (by decide) ?_
        refine lv_iload hx hb dL_law_23 (lv_at hl 0 rfl) ?_
        refine lv_aload_n hx hb dL_law_25 rfl (lv_at hl 4 rfl) ?_
        refine va_slen hx hb hX hbl hbA hS dL_law_26 ?_
        refine lv_topi (fun z_19 ez_19 => ?_)
        obtain rfl : z_19 = 6 := ez_19.trans rfl
        refine lv_bipush (v := 6) hx hb dL_law_27 (by decide) ?_
        refine lv_isub hx hb dL_law_29 ?_
        refine lv_topi (fun z_20 ez_20 => ?_)
        obtain rfl : z_20 = 0 := ez_20.trans (by decide)
        refine lv_icmp_gt (tgt := 1899) hx hb dL_law_30 (by decide) (fun c_21 => ?_) (fun c_21 => ?_)
        · refine lv_iconst (v := 1) hx hb dL_law_1899 (by decide) ?_
          refine va_forget (fun q hq => by have h9 := hS.2.2 q hq; rw [← hAe] at h9; exact h9) ?_
          refine W.widen (k := 600002) (n := 7302232) (Nat.le_of_ble_eq_true rfl) (Nat.le_of_ble_eq_true rfl) ?_
          exact lw_ret hd0 hx hb hr hlocks dL_law_1900
        · exact absurd (by decide) c_21
      · exact absurd (by decide) c_17
    by_cases c_22 : ((xs (0 : Int32).toNatClampNeg) &&& 63) = 1
    · refine lv_tableIn (tgt := 301) hx hb dL_law_40 (by rw [c_22]; decide) (by rw [c_22]; decide) (by rw [c_22]; rfl) (by decide) ?_
      sorry
    by_cases c_23 : ((xs (0 : Int32).toNatClampNeg) &&& 63) = 2
    · refine lv_tableIn (tgt := 326) hx hb dL_law_40 (by rw [c_23]; decide) (by rw [c_23]; decide) (by rw [c_23]; rfl) (by decide) ?_
      refine lv_aload_n hx hb dL_law_326 rfl (lv_at hl 3 rfl) ?_
      have hPc := hP.sub (ws' := [(x, .inr (10, fs_x))]) [0] rfl
      have hDc := hD.sub (ws' := [(x, .inr (10, fs_x))]) [0] (by decide) rfl
      have hKc := hK.sub (tys' := []) [] rfl
      have hFc := va_free (wc := [(x, .inr (10, fs_x))]) hD hS hA [0] rfl
      refine va_calli (va_runV (As := []) (rest := []) ⟨hx, hb, hml, hown, hts⟩ (k_X11_fault l dC dI H.size x fs_x hn_x hf_x_13) (cwV 0 hts gL0_X11_fault rfl rfl rfl (by decide +kernel) ⟨Nat.le_of_ble_eq_true rfl, Nat.le_of_ble_eq_true rfl⟩) ⟨fun a U g mk q => by obtain ⟨q0, q1, qP, qK, qD⟩ := q; exact ⟨q0, q1, qP, va_K.moved (u := U) (U := U.calling g mk a) (Vm.Alike.refl U.vm) qK, qD⟩, va_recv hKc hPc (ci := 10) (q0 := 0) rfl rfl, fun U hU hW => ⟨rfl, by rw [hU], by rw [hU]; exact hPc, va_K.moved hW.alike hKc, hDc.weaken (fun _ _ _ _ => trivial)⟩⟩ rfl rfl hl.1 rfl (lv_room (Nat.le_of_ble_eq_true rfl)) dL_law_327 ⟨Nat.le_of_ble_eq_true rfl, Nat.le_of_ble_eq_true rfl⟩) hS (fun q _ h => hFc q h) hFc (fun r_24 u t H1 locs ht hvm hw hB hz1 hk1 hS => ?_)
      obtain ⟨hP1, hK1, hD1⟩ := hB
      rw [ht] at hP1
      have hK1 := va_K.moved hvm.symm hK1
      obtain ⟨hP, hD⟩ := va_join (wr := [(rd, .inr (6, fs_rd)), (tp, .inr (9, fs_tp)), (ba, .inl (cB, 900, .inl fb)), (ra, .inr (5, [.long u0, .long w0])), (li, .inr (3, fs_li)), (ho, .inr (4, fs_ho)), (dr, .inr (3, fs_dr)), (hd, .inr (4, fs_hd)), (mm, .inr (11, fs_mm)), (mb, .inl (cM, 900, .inl fM))]) (w1 := []) hP hD [0] [1, 2, 3, 4, 5, 6, 7, 8, 9, 10] rfl rfl (by decide) (by decide) hk1 hFc hP1 hD1
      generalize H1 = H at hP hS ⊢
      have hP : va_P (dC, dI) vwCl [(rd, .inr (6, fs_rd)), (tp, .inr (9, fs_tp)), (ba, .inl (cB, 900, .inl fb)), (ra, .inr (5, [.long u0, .long w0])), (li, .inr (3, fs_li)), (ho, .inr (4, fs_ho)), (dr, .inr (3, fs_dr)), (hd, .inr (4, fs_hd)), (mm, .inr (11, fs_mm)), (mb, .inl (cM, 900, .inl fM))] H := hP
      have hD : va_D A [(rd, .inr (6, fs_rd)), (tp, .inr (9, fs_tp)), (ba, .inl (cB, 900, .inl fb)), (ra, .inr (5, [.long u0, .long w0])), (li, .inr (3, fs_li)), (ho, .inr (4, fs_ho)), (dr, .inr (3, fs_dr)), (hd, .inr (4, fs_hd)), (mm, .inr (11, fs_mm)), (mb, .inl (cM, 900, .inl fM))] := hD
      have er_24 : r_24 = 0 := hw
      subst er_24
      refine lv_aload_n hx hb dL_law_330 rfl (lv_at hl 2 rfl) ?_
      have hPc := hP.sub (ws' := [(mm, .inr (11, fs_mm))]) [8] rfl
      have hDc := hD.sub (ws' := [(mm, .inr (11, fs_mm))]) [8] (by decide) rfl
      have hKc := hK.sub (tys' := []) [] rfl
      have hFc := va_free (wc := [(mm, .inr (11, fs_mm))]) hD hS hA [8] rfl
      refine va_calli (va_runV (As := []) (rest := [.int 0]) ⟨hx, hb, hml, hown, hts⟩ (k_X12_fault l dC dI H.size mm fs_mm hn_mm hf_mm_37) (cwV 0 hts gL0_X12_fault rfl rfl rfl (by decide +kernel) ⟨Nat.le_of_ble_eq_true rfl, Nat.le_of_ble_eq_true rfl⟩) ⟨fun a U g mk q => by obtain ⟨q0, q1, qP, qK, qD⟩ := q; exact ⟨q0, q1, qP, va_K.moved (u := U) (U := U.calling g mk a) (Vm.Alike.refl U.vm) qK, qD⟩, va_recv hKc hPc (ci := 11) (q0 := 0) rfl rfl, fun U hU hW => ⟨rfl, by rw [hU], by rw [hU]; exact hPc, va_K.moved hW.alike hKc, hDc.weaken (fun _ _ _ _ => trivial)⟩⟩ rfl rfl hl.1 rfl (lv_room (Nat.le_of_ble_eq_true rfl)) dL_law_331 ⟨Nat.le_of_ble_eq_true rfl, Nat.le_of_ble_eq_true rfl⟩) hS (fun q _ h => hFc q h) hFc (fun r_25 u t H1 locs ht hvm hw hB hz1 hk1 hS => ?_)
      obtain ⟨hP1, hK1, hD1⟩ := hB
      rw [ht] at hP1
      have hK1 := va_K.moved hvm.symm hK1
      obtain ⟨hP, hD⟩ := va_join (wr := [(rd, .inr (6, fs_rd)), (tp, .inr (9, fs_tp)), (ba, .inl (cB, 900, .inl fb)), (ra, .inr (5, [.long u0, .long w0])), (li, .inr (3, fs_li)), (ho, .inr (4, fs_ho)), (dr, .inr (3, fs_dr)), (hd, .inr (4, fs_hd)), (mb, .inl (cM, 900, .inl fM))]) (w1 := []) hP hD [8] [0, 1, 2, 3, 4, 5, 6, 7, 9] rfl rfl (by decide) (by decide) hk1 hFc hP1 hD1
      generalize H1 = H at hP hS ⊢
      have hP : va_P (dC, dI) vwCl [(rd, .inr (6, fs_rd)), (tp, .inr (9, fs_tp)), (ba, .inl (cB, 900, .inl fb)), (ra, .inr (5, [.long u0, .long w0])), (li, .inr (3, fs_li)), (ho, .inr (4, fs_ho)), (dr, .inr (3, fs_dr)), (hd, .inr (4, fs_hd)), (mb, .inl (cM, 900, .inl fM))] H := hP
      have hD : va_D A [(rd, .inr (6, fs_rd)), (tp, .inr (9, fs_tp)), (ba, .inl (cB, 900, .inl fb)), (ra, .inr (5, [.long u0, .long w0])), (li, .inr (3, fs_li)), (ho, .inr (4, fs_ho)), (dr, .inr (3, fs_dr)), (hd, .inr (4, fs_hd)), (mb, .inl (cM, 900, .inl fM))] := hD
      have er_25 : r_25 = 0 := hw
      subst er_25
      refine lv_icmp_eq (tgt := 1893) hx hb dL_law_334 (by decide) (fun c_26 => ?_) (fun c_26 => ?_)
      · refine lv_iinc (v := 6) (lv' := [(4, .int 6), (3, .ref lo), (2, .ref mm), (1, .ref x), (0, .ref b)]) hx hb dL_law_1893 hl (k := 0) rfl (by decide) (by decide) rfl (fun ls hl => ?_)
        refine lv_goto (tgt := 23) hx hb dL_law_1896 (by decide) ?_
        refine lv_iload hx hb dL_law_23 (lv_at hl 0 rfl) ?_
        refine lv_aload_n hx hb dL_law_25 rfl (lv_at hl 4 rfl) ?_
        refine va_slen hx hb hX hbl hbA hS dL_law_26 ?_
        refine lv_topi (fun z_28 ez_28 => ?_)
        obtain rfl : z_28 = 6 := ez_28.trans rfl
        refine lv_bipush (v := 6) hx hb dL_law_27 (by decide) ?_
        refine lv_isub hx hb dL_law_29 ?_
        refine lv_topi (fun z_29 ez_29 => ?_)
        obtain rfl : z_29 = 0 := ez_29.trans (by decide)
        refine lv_icmp_gt (tgt := 1899) hx hb dL_law_30 (by decide) (fun c_30 => ?_) (fun c_30 => ?_)
        · refine lv_iconst (v := 1) hx hb dL_law_1899 (by decide) ?_
          refine va_forget (fun q hq => by have h9 := hS.2.2 q hq; rw [← hAe] at h9; exact h9) ?_
          refine W.widen (k := 600002) (n := 7302232) (Nat.le_of_ble_eq_true rfl) (Nat.le_of_ble_eq_true rfl) ?_
          exact lw_ret hd0 hx hb hr hlocks dL_law_1900
        · exact absurd (by decide) c_30
      · exact absurd (by decide) c_26
    by_cases c_31 : ((xs (0 : Int32).toNatClampNeg) &&& 63) = 3
    · refine lv_tableIn (tgt := 339) hx hb dL_law_40 (by rw [c_31]; decide) (by rw [c_31]; decide) (by rw [c_31]; rfl) (by decide) ?_
      refine lv_aload_n hx hb dL_law_339 rfl (lv_at hl 3 rfl) ?_
      have hPc := hP.sub (ws' := [(x, .inr (10, fs_x))]) [0] rfl
      have hDc := hD.sub (ws' := [(x, .inr (10, fs_x))]) [0] (by decide) rfl
      have hKc := hK.sub (tys' := []) [] rfl
      have hFc := va_free (wc := [(x, .inr (10, fs_x))]) hD hS hA [0] rfl
      refine va_calli (va_runV (As := []) (rest := []) ⟨hx, hb, hml, hown, hts⟩ (k_X11_where l dC dI H.size x fs_x hn_x hf_x_12) (cwV 0 hts gL0_X11_where rfl rfl rfl (by decide +kernel) ⟨Nat.le_of_ble_eq_true rfl, Nat.le_of_ble_eq_true rfl⟩) ⟨fun a U g mk q => by obtain ⟨q0, q1, qP, qK, qD⟩ := q; exact ⟨q0, q1, qP, va_K.moved (u := U) (U := U.calling g mk a) (Vm.Alike.refl U.vm) qK, qD⟩, va_recv hKc hPc (ci := 10) (q0 := 0) rfl rfl, fun U hU hW => ⟨rfl, by rw [hU], by rw [hU]; exact hPc, va_K.moved hW.alike hKc, hDc.weaken (fun _ _ _ _ => trivial)⟩⟩ rfl rfl hl.1 rfl (lv_room (Nat.le_of_ble_eq_true rfl)) dL_law_340 ⟨Nat.le_of_ble_eq_true rfl, Nat.le_of_ble_eq_true rfl⟩) hS (fun q _ h => hFc q h) hFc (fun r_32 u t H1 locs ht hvm hw hB hz1 hk1 hS => ?_)
      obtain ⟨hP1, hK1, hD1⟩ := hB
      rw [ht] at hP1
      have hK1 := va_K.moved hvm.symm hK1
      obtain ⟨hP, hD⟩ := va_join (wr := [(rd, .inr (6, fs_rd)), (tp, .inr (9, fs_tp)), (ba, .inl (cB, 900, .inl fb)), (ra, .inr (5, [.long u0, .long w0])), (li, .inr (3, fs_li)), (ho, .inr (4, fs_ho)), (dr, .inr (3, fs_dr)), (hd, .inr (4, fs_hd)), (mm, .inr (11, fs_mm)), (mb, .inl (cM, 900, .inl fM))]) (w1 := []) hP hD [0] [1, 2, 3, 4, 5, 6, 7, 8, 9, 10] rfl rfl (by decide) (by decide) hk1 hFc hP1 hD1
      generalize H1 = H at hP hS ⊢
      have hP : va_P (dC, dI) vwCl [(rd, .inr (6, fs_rd)), (tp, .inr (9, fs_tp)), (ba, .inl (cB, 900, .inl fb)), (ra, .inr (5, [.long u0, .long w0])), (li, .inr (3, fs_li)), (ho, .inr (4, fs_ho)), (dr, .inr (3, fs_dr)), (hd, .inr (4, fs_hd)), (mm, .inr (11, fs_mm)), (mb, .inl (cM, 900, .inl fM))] H := hP
      have hD : va_D A [(rd, .inr (6, fs_rd)), (tp, .inr (9, fs_tp)), (ba, .inl (cB, 900, .inl fb)), (ra, .inr (5, [.long u0, .long w0])), (li, .inr (3, fs_li)), (ho, .inr (4, fs_ho)), (dr, .inr (3, fs_dr)), (hd, .inr (4, fs_hd)), (mm, .inr (11, fs_mm)), (mb, .inl (cM, 900, .inl fM))] := hD
      have er_32 : r_32 = (-1) := hw
      subst er_32
      refine lv_aload_n hx hb dL_law_343 rfl (lv_at hl 2 rfl) ?_
      have hPc := hP.sub (ws' := [(mm, .inr (11, fs_mm))]) [8] rfl
      have hDc := hD.sub (ws' := [(mm, .inr (11, fs_mm))]) [8] (by decide) rfl
      have hKc := hK.sub (tys' := []) [] rfl
      have hFc := va_free (wc := [(mm, .inr (11, fs_mm))]) hD hS hA [8] rfl
      refine va_calli (va_runV (As := []) (rest := [.int (-1)]) ⟨hx, hb, hml, hown, hts⟩ (k_X12_where l dC dI H.size mm fs_mm hn_mm hf_mm_2) (cwV 0 hts gL0_X12_where rfl rfl rfl (by decide +kernel) ⟨Nat.le_of_ble_eq_true rfl, Nat.le_of_ble_eq_true rfl⟩) ⟨fun a U g mk q => by obtain ⟨q0, q1, qP, qK, qD⟩ := q; exact ⟨q0, q1, qP, va_K.moved (u := U) (U := U.calling g mk a) (Vm.Alike.refl U.vm) qK, qD⟩, va_recv hKc hPc (ci := 11) (q0 := 0) rfl rfl, fun U hU hW => ⟨rfl, by rw [hU], by rw [hU]; exact hPc, va_K.moved hW.alike hKc, hDc.weaken (fun _ _ _ _ => trivial)⟩⟩ rfl rfl hl.1 rfl (lv_room (Nat.le_of_ble_eq_true rfl)) dL_law_344 ⟨Nat.le_of_ble_eq_true rfl, Nat.le_of_ble_eq_true rfl⟩) hS (fun q _ h => hFc q h) hFc (fun r_33 u t H1 locs ht hvm hw hB hz1 hk1 hS => ?_)
      obtain ⟨hP1, hK1, hD1⟩ := hB
      rw [ht] at hP1
      have hK1 := va_K.moved hvm.symm hK1
      obtain ⟨hP, hD⟩ := va_join (wr := [(rd, .inr (6, fs_rd)), (tp, .inr (9, fs_tp)), (ba, .inl (cB, 900, .inl fb)), (ra, .inr (5, [.long u0, .long w0])), (li, .inr (3, fs_li)), (ho, .inr (4, fs_ho)), (dr, .inr (3, fs_dr)), (hd, .inr (4, fs_hd)), (mb, .inl (cM, 900, .inl fM))]) (w1 := []) hP hD [8] [0, 1, 2, 3, 4, 5, 6, 7, 9] rfl rfl (by decide) (by decide) hk1 hFc hP1 hD1
      generalize H1 = H at hP hS ⊢
      have hP : va_P (dC, dI) vwCl [(rd, .inr (6, fs_rd)), (tp, .inr (9, fs_tp)), (ba, .inl (cB, 900, .inl fb)), (ra, .inr (5, [.long u0, .long w0])), (li, .inr (3, fs_li)), (ho, .inr (4, fs_ho)), (dr, .inr (3, fs_dr)), (hd, .inr (4, fs_hd)), (mb, .inl (cM, 900, .inl fM))] H := hP
      have hD : va_D A [(rd, .inr (6, fs_rd)), (tp, .inr (9, fs_tp)), (ba, .inl (cB, 900, .inl fb)), (ra, .inr (5, [.long u0, .long w0])), (li, .inr (3, fs_li)), (ho, .inr (4, fs_ho)), (dr, .inr (3, fs_dr)), (hd, .inr (4, fs_hd)), (mb, .inl (cM, 900, .inl fM))] := hD
      have er_33 : r_33 = (-1) := hw
      subst er_33
      refine lv_icmp_eq (tgt := 1893) hx hb dL_law_347 (by decide) (fun c_34 => ?_) (fun c_34 => ?_)
      · refine lv_iinc (v := 6) (lv' := [(4, .int 6), (3, .ref lo), (2, .ref mm), (1, .ref x), (0, .ref b)]) hx hb dL_law_1893 hl (k := 0) rfl (by decide) (by decide) rfl (fun ls hl => ?_)
        refine lv_goto (tgt := 23) hx hb dL_law_1896 (by decide) ?_
        refine lv_iload hx hb dL_law_23 (lv_at hl 0 rfl) ?_
        refine lv_aload_n hx hb dL_law_25 rfl (lv_at hl 4 rfl) ?_
        refine va_slen hx hb hX hbl hbA hS dL_law_26 ?_
        refine lv_topi (fun z_36 ez_36 => ?_)
        obtain rfl : z_36 = 6 := ez_36.trans rfl
        refine lv_bipush (v := 6) hx hb dL_law_27 (by decide) ?_
        refine lv_isub hx hb dL_law_29 ?_
        refine lv_topi (fun z_37 ez_37 => ?_)
        obtain rfl : z_37 = 0 := ez_37.trans (by decide)
        refine lv_icmp_gt (tgt := 1899) hx hb dL_law_30 (by decide) (fun c_38 => ?_) (fun c_38 => ?_)
        · refine lv_iconst (v := 1) hx hb dL_law_1899 (by decide) ?_
          refine va_forget (fun q hq => by have h9 := hS.2.2 q hq; rw [← hAe] at h9; exact h9) ?_
          refine W.widen (k := 600002) (n := 7302232) (Nat.le_of_ble_eq_true rfl) (Nat.le_of_ble_eq_true rfl) ?_
          exact lw_ret hd0 hx hb hr hlocks dL_law_1900
        · exact absurd (by decide) c_38
      · exact absurd (by decide) c_34
    by_cases c_39 : ((xs (0 : Int32).toNatClampNeg) &&& 63) = 4
    · refine lv_tableIn (tgt := 352) hx hb dL_law_40 (by rw [c_39]; decide) (by rw [c_39]; decide) (by rw [c_39]; rfl) (by decide) ?_
      refine lv_aload_n hx hb dL_law_352 rfl (lv_at hl 3 rfl) ?_
      refine lv_aload_n hx hb dL_law_353 rfl (lv_at hl 4 rfl) ?_
      refine lv_iload hx hb dL_law_354 (lv_at hl 0 rfl) ?_
      refine lv_iconst (v := 1) hx hb dL_law_356 (by decide) ?_
      refine lv_iadd hx hb dL_law_357 ?_
      refine lv_topi (fun z_40 ez_40 => ?_)
      obtain rfl : z_40 = 1 := ez_40.trans (by decide)
      refine va_sld hx hb hX hbl hbA hS (vp_in_nI (n := 1) (by decide) (by decide)) dL_law_358 ?_
      refine lv_aload_n hx hb dL_law_359 rfl (lv_at hl 4 rfl) ?_
      refine lv_iload hx hb dL_law_360 (lv_at hl 0 rfl) ?_
      refine lv_iconst (v := 2) hx hb dL_law_362 (by decide) ?_
      refine lv_iadd hx hb dL_law_363 ?_
      refine lv_topi (fun z_41 ez_41 => ?_)
      obtain rfl : z_41 = 2 := ez_41.trans (by decide)
      refine va_sld hx hb hX hbl hbA hS (vp_in_nI (n := 2) (by decide) (by decide)) dL_law_364 ?_
      have hPc := hP.sub (ws' := [(x, .inr (10, fs_x))]) [0] rfl
      have hDc := hD.sub (ws' := [(x, .inr (10, fs_x))]) [0] (by decide) rfl
      have hKc := hK.sub (tys' := []) [] rfl
      have hFc := va_free (wc := [(x, .inr (10, fs_x))]) hD hS hA [0] rfl
      refine va_calli (va_runV (As := [.int (xs (1 : Int32).toNatClampNeg), .int (xs (2 : Int32).toNatClampNeg)]) (rest := []) ⟨hx, hb, hml, hown, hts⟩ (k_X11_days l dC dI H.size x fs_x (xs (1 : Int32).toNatClampNeg) (xs (2 : Int32).toNatClampNeg) hn_x) (cwV 2 hts gL0_X11_days rfl rfl rfl (by decide +kernel) ⟨Nat.le_of_ble_eq_true rfl, Nat.le_of_ble_eq_true rfl⟩) ⟨fun a U g mk q => by obtain ⟨q0, q1, qP, qK, qD⟩ := q; exact ⟨q0, q1, qP, va_K.moved (u := U) (U := U.calling g mk a) (Vm.Alike.refl U.vm) qK, qD⟩, va_recv hKc hPc (ci := 10) (q0 := 0) rfl rfl, fun U hU hW => ⟨rfl, by rw [hU], by rw [hU]; exact hPc, va_K.moved hW.alike hKc, hDc.weaken (fun _ _ _ _ => trivial)⟩⟩ rfl rfl hl.1 rfl (lv_room (Nat.le_of_ble_eq_true rfl)) dL_law_365 ⟨Nat.le_of_ble_eq_true rfl, Nat.le_of_ble_eq_true rfl⟩) hS (fun q _ h => hFc q h) hFc (fun r_42 u t H1 locs ht hvm hw hB hz1 hk1 hS => ?_)
      obtain ⟨hP1, hK1, hD1⟩ := hB
      rw [ht] at hP1
      have hK1 := va_K.moved hvm.symm hK1
      obtain ⟨hP, hD⟩ := va_join (wr := [(rd, .inr (6, fs_rd)), (tp, .inr (9, fs_tp)), (ba, .inl (cB, 900, .inl fb)), (ra, .inr (5, [.long u0, .long w0])), (li, .inr (3, fs_li)), (ho, .inr (4, fs_ho)), (dr, .inr (3, fs_dr)), (hd, .inr (4, fs_hd)), (mm, .inr (11, fs_mm)), (mb, .inl (cM, 900, .inl fM))]) (w1 := []) hP hD [0] [1, 2, 3, 4, 5, 6, 7, 8, 9, 10] rfl rfl (by decide) (by decide) hk1 hFc hP1 hD1
      generalize H1 = H at hP hS ⊢
      have hP : va_P (dC, dI) vwCl [(rd, .inr (6, fs_rd)), (tp, .inr (9, fs_tp)), (ba, .inl (cB, 900, .inl fb)), (ra, .inr (5, [.long u0, .long w0])), (li, .inr (3, fs_li)), (ho, .inr (4, fs_ho)), (dr, .inr (3, fs_dr)), (hd, .inr (4, fs_hd)), (mm, .inr (11, fs_mm)), (mb, .inl (cM, 900, .inl fM))] H := hP
      have hD : va_D A [(rd, .inr (6, fs_rd)), (tp, .inr (9, fs_tp)), (ba, .inl (cB, 900, .inl fb)), (ra, .inr (5, [.long u0, .long w0])), (li, .inr (3, fs_li)), (ho, .inr (4, fs_ho)), (dr, .inr (3, fs_dr)), (hd, .inr (4, fs_hd)), (mm, .inr (11, fs_mm)), (mb, .inl (cM, 900, .inl fM))] := hD
      have er_42 : r_42 = f_X11_days (xs (1 : Int32).toNatClampNeg) (xs (2 : Int32).toNatClampNeg) := hw
      refine lv_aload_n hx hb dL_law_368 rfl (lv_at hl 2 rfl) ?_
      refine lv_aload_n hx hb dL_law_369 rfl (lv_at hl 4 rfl) ?_
      refine lv_iload hx hb dL_law_370 (lv_at hl 0 rfl) ?_
      refine lv_iconst (v := 1) hx hb dL_law_372 (by decide) ?_
      refine lv_iadd hx hb dL_law_373 ?_
      refine lv_topi (fun z_43 ez_43 => ?_)
      obtain rfl : z_43 = 1 := ez_43.trans (by decide)
      refine va_sld hx hb hX hbl hbA hS (vp_in_nI (n := 1) (by decide) (by decide)) dL_law_374 ?_
      refine lv_aload_n hx hb dL_law_375 rfl (lv_at hl 4 rfl) ?_
      refine lv_iload hx hb dL_law_376 (lv_at hl 0 rfl) ?_
      refine lv_iconst (v := 2) hx hb dL_law_378 (by decide) ?_
      refine lv_iadd hx hb dL_law_379 ?_
      refine lv_topi (fun z_44 ez_44 => ?_)
      obtain rfl : z_44 = 2 := ez_44.trans (by decide)
      refine va_sld hx hb hX hbl hbA hS (vp_in_nI (n := 2) (by decide) (by decide)) dL_law_380 ?_
      have hPc := hP.sub (ws' := [(mm, .inr (11, fs_mm))]) [8] rfl
      have hDc := hD.sub (ws' := [(mm, .inr (11, fs_mm))]) [8] (by decide) rfl
      have hKc := hK.sub (tys' := []) [] rfl
      have hFc := va_free (wc := [(mm, .inr (11, fs_mm))]) hD hS hA [8] rfl
      refine va_calli (va_runV (As := [.int (xs (1 : Int32).toNatClampNeg), .int (xs (2 : Int32).toNatClampNeg)]) (rest := [.int r_42]) ⟨hx, hb, hml, hown, hts⟩ (k_X12_days l dC dI H.size mm fs_mm (xs (1 : Int32).toNatClampNeg) (xs (2 : Int32).toNatClampNeg) hn_mm) (cwV 2 hts gL0_X12_days rfl rfl rfl (by decide +kernel) ⟨Nat.le_of_ble_eq_true rfl, Nat.le_of_ble_eq_true rfl⟩) ⟨fun a U g mk q => by obtain ⟨q0, q1, qP, qK, qD⟩ := q; exact ⟨q0, q1, qP, va_K.moved (u := U) (U := U.calling g mk a) (Vm.Alike.refl U.vm) qK, qD⟩, va_recv hKc hPc (ci := 11) (q0 := 0) rfl rfl, fun U hU hW => ⟨rfl, by rw [hU], by rw [hU]; exact hPc, va_K.moved hW.alike hKc, hDc.weaken (fun _ _ _ _ => trivial)⟩⟩ rfl rfl hl.1 rfl (lv_room (Nat.le_of_ble_eq_true rfl)) dL_law_381 ⟨Nat.le_of_ble_eq_true rfl, Nat.le_of_ble_eq_true rfl⟩) hS (fun q _ h => hFc q h) hFc (fun r_45 u t H1 locs ht hvm hw hB hz1 hk1 hS => ?_)
      obtain ⟨hP1, hK1, hD1⟩ := hB
      rw [ht] at hP1
      have hK1 := va_K.moved hvm.symm hK1
      obtain ⟨hP, hD⟩ := va_join (wr := [(rd, .inr (6, fs_rd)), (tp, .inr (9, fs_tp)), (ba, .inl (cB, 900, .inl fb)), (ra, .inr (5, [.long u0, .long w0])), (li, .inr (3, fs_li)), (ho, .inr (4, fs_ho)), (dr, .inr (3, fs_dr)), (hd, .inr (4, fs_hd)), (mb, .inl (cM, 900, .inl fM))]) (w1 := []) hP hD [8] [0, 1, 2, 3, 4, 5, 6, 7, 9] rfl rfl (by decide) (by decide) hk1 hFc hP1 hD1
      generalize H1 = H at hP hS ⊢
      have hP : va_P (dC, dI) vwCl [(rd, .inr (6, fs_rd)), (tp, .inr (9, fs_tp)), (ba, .inl (cB, 900, .inl fb)), (ra, .inr (5, [.long u0, .long w0])), (li, .inr (3, fs_li)), (ho, .inr (4, fs_ho)), (dr, .inr (3, fs_dr)), (hd, .inr (4, fs_hd)), (mb, .inl (cM, 900, .inl fM))] H := hP
      have hD : va_D A [(rd, .inr (6, fs_rd)), (tp, .inr (9, fs_tp)), (ba, .inl (cB, 900, .inl fb)), (ra, .inr (5, [.long u0, .long w0])), (li, .inr (3, fs_li)), (ho, .inr (4, fs_ho)), (dr, .inr (3, fs_dr)), (hd, .inr (4, fs_hd)), (mb, .inl (cM, 900, .inl fM))] := hD
      have er_45 : r_45 = f_X12_days (xs (1 : Int32).toNatClampNeg) (xs (2 : Int32).toNatClampNeg) := hw
      refine lv_icmp_eq (tgt := 1893) hx hb dL_law_384 (by decide) (fun c_46 => ?_) (fun c_46 => ?_)
      · refine lv_iinc (v := 6) (lv' := [(4, .int 6), (3, .ref lo), (2, .ref mm), (1, .ref x), (0, .ref b)]) hx hb dL_law_1893 hl (k := 0) rfl (by decide) (by decide) rfl (fun ls hl => ?_)
        refine lv_goto (tgt := 23) hx hb dL_law_1896 (by decide) ?_
        refine lv_iload hx hb dL_law_23 (lv_at hl 0 rfl) ?_
        refine lv_aload_n hx hb dL_law_25 rfl (lv_at hl 4 rfl) ?_
        refine va_slen hx hb hX hbl hbA hS dL_law_26 ?_
        refine lv_topi (fun z_48 ez_48 => ?_)
        obtain rfl : z_48 = 6 := ez_48.trans rfl
        refine lv_bipush (v := 6) hx hb dL_law_27 (by decide) ?_
        refine lv_isub hx hb dL_law_29 ?_
        refine lv_topi (fun z_49 ez_49 => ?_)
        obtain rfl : z_49 = 0 := ez_49.trans (by decide)
        refine lv_icmp_gt (tgt := 1899) hx hb dL_law_30 (by decide) (fun c_50 => ?_) (fun c_50 => ?_)
        · refine lv_iconst (v := 1) hx hb dL_law_1899 (by decide) ?_
          refine va_forget (fun q hq => by have h9 := hS.2.2 q hq; rw [← hAe] at h9; exact h9) ?_
          refine W.widen (k := 600002) (n := 7302232) (Nat.le_of_ble_eq_true rfl) (Nat.le_of_ble_eq_true rfl) ?_
          exact lw_ret hd0 hx hb hr hlocks dL_law_1900
        · exact absurd (by decide) c_50
      · exact absurd (er_42.trans ((q_days _ _).trans er_45.symm)) c_46
    by_cases c_51 : ((xs (0 : Int32).toNatClampNeg) &&& 63) = 5
    · refine lv_tableIn (tgt := 389) hx hb dL_law_40 (by rw [c_51]; decide) (by rw [c_51]; decide) (by rw [c_51]; rfl) (by decide) ?_
      refine lv_aload_n hx hb dL_law_389 rfl (lv_at hl 3 rfl) ?_
      refine lv_aload_n hx hb dL_law_390 rfl (lv_at hl 4 rfl) ?_
      refine lv_iload hx hb dL_law_391 (lv_at hl 0 rfl) ?_
      refine lv_iconst (v := 1) hx hb dL_law_393 (by decide) ?_
      refine lv_iadd hx hb dL_law_394 ?_
      refine lv_topi (fun z_52 ez_52 => ?_)
      obtain rfl : z_52 = 1 := ez_52.trans (by decide)
      refine va_sld hx hb hX hbl hbA hS (vp_in_nI (n := 1) (by decide) (by decide)) dL_law_395 ?_
      have hPc := hP.sub (ws' := [(x, .inr (10, fs_x))]) [0] rfl
      have hDc := hD.sub (ws' := [(x, .inr (10, fs_x))]) [0] (by decide) rfl
      have hKc := hK.sub (tys' := []) [] rfl
      have hFc := va_free (wc := [(x, .inr (10, fs_x))]) hD hS hA [0] rfl
      refine va_calli (va_runV (As := [.int (xs (1 : Int32).toNatClampNeg)]) (rest := []) ⟨hx, hb, hml, hown, hts⟩ (k_X11_weekday l dC dI H.size x fs_x (xs (1 : Int32).toNatClampNeg) hn_x) (cwV 1 hts gL0_X11_weekday rfl rfl rfl (by decide +kernel) ⟨Nat.le_of_ble_eq_true rfl, Nat.le_of_ble_eq_true rfl⟩) ⟨fun a U g mk q => by obtain ⟨q0, q1, qP, qK, qD⟩ := q; exact ⟨q0, q1, qP, va_K.moved (u := U) (U := U.calling g mk a) (Vm.Alike.refl U.vm) qK, qD⟩, va_recv hKc hPc (ci := 10) (q0 := 0) rfl rfl, fun U hU hW => ⟨rfl, by rw [hU], by rw [hU]; exact hPc, va_K.moved hW.alike hKc, hDc.weaken (fun _ _ _ _ => trivial)⟩⟩ rfl rfl hl.1 rfl (lv_room (Nat.le_of_ble_eq_true rfl)) dL_law_396 ⟨Nat.le_of_ble_eq_true rfl, Nat.le_of_ble_eq_true rfl⟩) hS (fun q _ h => hFc q h) hFc (fun r_53 u t H1 locs ht hvm hw hB hz1 hk1 hS => ?_)
      obtain ⟨hP1, hK1, hD1⟩ := hB
      rw [ht] at hP1
      have hK1 := va_K.moved hvm.symm hK1
      obtain ⟨hP, hD⟩ := va_join (wr := [(rd, .inr (6, fs_rd)), (tp, .inr (9, fs_tp)), (ba, .inl (cB, 900, .inl fb)), (ra, .inr (5, [.long u0, .long w0])), (li, .inr (3, fs_li)), (ho, .inr (4, fs_ho)), (dr, .inr (3, fs_dr)), (hd, .inr (4, fs_hd)), (mm, .inr (11, fs_mm)), (mb, .inl (cM, 900, .inl fM))]) (w1 := []) hP hD [0] [1, 2, 3, 4, 5, 6, 7, 8, 9, 10] rfl rfl (by decide) (by decide) hk1 hFc hP1 hD1
      generalize H1 = H at hP hS ⊢
      have hP : va_P (dC, dI) vwCl [(rd, .inr (6, fs_rd)), (tp, .inr (9, fs_tp)), (ba, .inl (cB, 900, .inl fb)), (ra, .inr (5, [.long u0, .long w0])), (li, .inr (3, fs_li)), (ho, .inr (4, fs_ho)), (dr, .inr (3, fs_dr)), (hd, .inr (4, fs_hd)), (mm, .inr (11, fs_mm)), (mb, .inl (cM, 900, .inl fM))] H := hP
      have hD : va_D A [(rd, .inr (6, fs_rd)), (tp, .inr (9, fs_tp)), (ba, .inl (cB, 900, .inl fb)), (ra, .inr (5, [.long u0, .long w0])), (li, .inr (3, fs_li)), (ho, .inr (4, fs_ho)), (dr, .inr (3, fs_dr)), (hd, .inr (4, fs_hd)), (mm, .inr (11, fs_mm)), (mb, .inl (cM, 900, .inl fM))] := hD
      have er_53 : r_53 = f_X11_weekday (xs (1 : Int32).toNatClampNeg) := hw
      refine lv_aload_n hx hb dL_law_399 rfl (lv_at hl 2 rfl) ?_
      refine lv_aload_n hx hb dL_law_400 rfl (lv_at hl 4 rfl) ?_
      refine lv_iload hx hb dL_law_401 (lv_at hl 0 rfl) ?_
      refine lv_iconst (v := 1) hx hb dL_law_403 (by decide) ?_
      refine lv_iadd hx hb dL_law_404 ?_
      refine lv_topi (fun z_54 ez_54 => ?_)
      obtain rfl : z_54 = 1 := ez_54.trans (by decide)
      refine va_sld hx hb hX hbl hbA hS (vp_in_nI (n := 1) (by decide) (by decide)) dL_law_405 ?_
      have hPc := hP.sub (ws' := [(mm, .inr (11, fs_mm))]) [8] rfl
      have hDc := hD.sub (ws' := [(mm, .inr (11, fs_mm))]) [8] (by decide) rfl
      have hKc := hK.sub (tys' := []) [] rfl
      have hFc := va_free (wc := [(mm, .inr (11, fs_mm))]) hD hS hA [8] rfl
      refine va_calli (va_runV (As := [.int (xs (1 : Int32).toNatClampNeg)]) (rest := [.int r_53]) ⟨hx, hb, hml, hown, hts⟩ (k_X12_weekday l dC dI H.size mm fs_mm (xs (1 : Int32).toNatClampNeg) hn_mm) (cwV 1 hts gL0_X12_weekday rfl rfl rfl (by decide +kernel) ⟨Nat.le_of_ble_eq_true rfl, Nat.le_of_ble_eq_true rfl⟩) ⟨fun a U g mk q => by obtain ⟨q0, q1, qP, qK, qD⟩ := q; exact ⟨q0, q1, qP, va_K.moved (u := U) (U := U.calling g mk a) (Vm.Alike.refl U.vm) qK, qD⟩, va_recv hKc hPc (ci := 11) (q0 := 0) rfl rfl, fun U hU hW => ⟨rfl, by rw [hU], by rw [hU]; exact hPc, va_K.moved hW.alike hKc, hDc.weaken (fun _ _ _ _ => trivial)⟩⟩ rfl rfl hl.1 rfl (lv_room (Nat.le_of_ble_eq_true rfl)) dL_law_406 ⟨Nat.le_of_ble_eq_true rfl, Nat.le_of_ble_eq_true rfl⟩) hS (fun q _ h => hFc q h) hFc (fun r_55 u t H1 locs ht hvm hw hB hz1 hk1 hS => ?_)
      obtain ⟨hP1, hK1, hD1⟩ := hB
      rw [ht] at hP1
      have hK1 := va_K.moved hvm.symm hK1
      obtain ⟨hP, hD⟩ := va_join (wr := [(rd, .inr (6, fs_rd)), (tp, .inr (9, fs_tp)), (ba, .inl (cB, 900, .inl fb)), (ra, .inr (5, [.long u0, .long w0])), (li, .inr (3, fs_li)), (ho, .inr (4, fs_ho)), (dr, .inr (3, fs_dr)), (hd, .inr (4, fs_hd)), (mb, .inl (cM, 900, .inl fM))]) (w1 := []) hP hD [8] [0, 1, 2, 3, 4, 5, 6, 7, 9] rfl rfl (by decide) (by decide) hk1 hFc hP1 hD1
      generalize H1 = H at hP hS ⊢
      have hP : va_P (dC, dI) vwCl [(rd, .inr (6, fs_rd)), (tp, .inr (9, fs_tp)), (ba, .inl (cB, 900, .inl fb)), (ra, .inr (5, [.long u0, .long w0])), (li, .inr (3, fs_li)), (ho, .inr (4, fs_ho)), (dr, .inr (3, fs_dr)), (hd, .inr (4, fs_hd)), (mb, .inl (cM, 900, .inl fM))] H := hP
      have hD : va_D A [(rd, .inr (6, fs_rd)), (tp, .inr (9, fs_tp)), (ba, .inl (cB, 900, .inl fb)), (ra, .inr (5, [.long u0, .long w0])), (li, .inr (3, fs_li)), (ho, .inr (4, fs_ho)), (dr, .inr (3, fs_dr)), (hd, .inr (4, fs_hd)), (mb, .inl (cM, 900, .inl fM))] := hD
      have er_55 : r_55 = f_X12_weekday (xs (1 : Int32).toNatClampNeg) := hw
      refine lv_icmp_eq (tgt := 1893) hx hb dL_law_409 (by decide) (fun c_56 => ?_) (fun c_56 => ?_)
      · refine lv_iinc (v := 6) (lv' := [(4, .int 6), (3, .ref lo), (2, .ref mm), (1, .ref x), (0, .ref b)]) hx hb dL_law_1893 hl (k := 0) rfl (by decide) (by decide) rfl (fun ls hl => ?_)
        refine lv_goto (tgt := 23) hx hb dL_law_1896 (by decide) ?_
        refine lv_iload hx hb dL_law_23 (lv_at hl 0 rfl) ?_
        refine lv_aload_n hx hb dL_law_25 rfl (lv_at hl 4 rfl) ?_
        refine va_slen hx hb hX hbl hbA hS dL_law_26 ?_
        refine lv_topi (fun z_58 ez_58 => ?_)
        obtain rfl : z_58 = 6 := ez_58.trans rfl
        refine lv_bipush (v := 6) hx hb dL_law_27 (by decide) ?_
        refine lv_isub hx hb dL_law_29 ?_
        refine lv_topi (fun z_59 ez_59 => ?_)
        obtain rfl : z_59 = 0 := ez_59.trans (by decide)
        refine lv_icmp_gt (tgt := 1899) hx hb dL_law_30 (by decide) (fun c_60 => ?_) (fun c_60 => ?_)
        · refine lv_iconst (v := 1) hx hb dL_law_1899 (by decide) ?_
          refine va_forget (fun q hq => by have h9 := hS.2.2 q hq; rw [← hAe] at h9; exact h9) ?_
          refine W.widen (k := 600002) (n := 7302232) (Nat.le_of_ble_eq_true rfl) (Nat.le_of_ble_eq_true rfl) ?_
          exact lw_ret hd0 hx hb hr hlocks dL_law_1900
        · exact absurd (by decide) c_60
      · exact absurd (er_53.trans ((q_weekday _).trans er_55.symm)) c_56
    by_cases c_61 : ((xs (0 : Int32).toNatClampNeg) &&& 63) = 6
    · refine lv_tableIn (tgt := 414) hx hb dL_law_40 (by rw [c_61]; decide) (by rw [c_61]; decide) (by rw [c_61]; rfl) (by decide) ?_
      refine lv_aload_n hx hb dL_law_414 rfl (lv_at hl 3 rfl) ?_
      refine lv_aload_n hx hb dL_law_415 rfl (lv_at hl 4 rfl) ?_
      refine lv_iload hx hb dL_law_416 (lv_at hl 0 rfl) ?_
      refine lv_iconst (v := 1) hx hb dL_law_418 (by decide) ?_
      refine lv_iadd hx hb dL_law_419 ?_
      refine lv_topi (fun z_62 ez_62 => ?_)
      obtain rfl : z_62 = 1 := ez_62.trans (by decide)
      refine va_sld hx hb hX hbl hbA hS (vp_in_nI (n := 1) (by decide) (by decide)) dL_law_420 ?_
      refine lv_aload_n hx hb dL_law_421 rfl (lv_at hl 4 rfl) ?_
      refine lv_iload hx hb dL_law_422 (lv_at hl 0 rfl) ?_
      refine lv_iconst (v := 2) hx hb dL_law_424 (by decide) ?_
      refine lv_iadd hx hb dL_law_425 ?_
      refine lv_topi (fun z_63 ez_63 => ?_)
      obtain rfl : z_63 = 2 := ez_63.trans (by decide)
      refine va_sld hx hb hX hbl hbA hS (vp_in_nI (n := 2) (by decide) (by decide)) dL_law_426 ?_
      refine lv_aload_n hx hb dL_law_427 rfl (lv_at hl 4 rfl) ?_
      refine lv_iload hx hb dL_law_428 (lv_at hl 0 rfl) ?_
      refine lv_iconst (v := 3) hx hb dL_law_430 (by decide) ?_
      refine lv_iadd hx hb dL_law_431 ?_
      refine lv_topi (fun z_64 ez_64 => ?_)
      obtain rfl : z_64 = 3 := ez_64.trans (by decide)
      refine va_sld hx hb hX hbl hbA hS (vp_in_nI (n := 3) (by decide) (by decide)) dL_law_432 ?_
      refine lv_if_eq (tgt := 440) hx hb dL_law_433 (by decide) (fun c_65 => ?_) (fun c_65 => ?_)
      · refine lv_iconst (v := 0) hx hb dL_law_440 (by decide) ?_
        have hPc := hP.sub (ws' := [(x, .inr (10, fs_x))]) [0] rfl
        have hDc := hD.sub (ws' := [(x, .inr (10, fs_x))]) [0] (by decide) rfl
        have hKc := hK.sub (tys' := []) [] rfl
        have hFc := va_free (wc := [(x, .inr (10, fs_x))]) hD hS hA [0] rfl
        refine va_calli (va_runV (As := [.int (xs (1 : Int32).toNatClampNeg), .int (xs (2 : Int32).toNatClampNeg), .int 0]) (rest := []) ⟨hx, hb, hml, hown, hts⟩ (k_X11_months l dC dI H.size x fs_x (xs (1 : Int32).toNatClampNeg) (xs (2 : Int32).toNatClampNeg) 0 hn_x) (cwV 3 hts gL0_X11_months rfl rfl rfl (by decide +kernel) ⟨Nat.le_of_ble_eq_true rfl, Nat.le_of_ble_eq_true rfl⟩) ⟨fun a U g mk q => by obtain ⟨q0, q1, qP, qK, qD⟩ := q; exact ⟨q0, q1, qP, va_K.moved (u := U) (U := U.calling g mk a) (Vm.Alike.refl U.vm) qK, qD⟩, va_recv hKc hPc (ci := 10) (q0 := 0) rfl rfl, fun U hU hW => ⟨rfl, by rw [hU], by rw [hU]; exact hPc, va_K.moved hW.alike hKc, hDc.weaken (fun _ _ _ _ => trivial)⟩⟩ rfl rfl hl.1 rfl (lv_room (Nat.le_of_ble_eq_true rfl)) dL_law_441 ⟨Nat.le_of_ble_eq_true rfl, Nat.le_of_ble_eq_true rfl⟩) hS (fun q _ h => hFc q h) hFc (fun r_66 u t H1 locs ht hvm hw hB hz1 hk1 hS => ?_)
        obtain ⟨hP1, hK1, hD1⟩ := hB
        rw [ht] at hP1
        have hK1 := va_K.moved hvm.symm hK1
        obtain ⟨hP, hD⟩ := va_join (wr := [(rd, .inr (6, fs_rd)), (tp, .inr (9, fs_tp)), (ba, .inl (cB, 900, .inl fb)), (ra, .inr (5, [.long u0, .long w0])), (li, .inr (3, fs_li)), (ho, .inr (4, fs_ho)), (dr, .inr (3, fs_dr)), (hd, .inr (4, fs_hd)), (mm, .inr (11, fs_mm)), (mb, .inl (cM, 900, .inl fM))]) (w1 := []) hP hD [0] [1, 2, 3, 4, 5, 6, 7, 8, 9, 10] rfl rfl (by decide) (by decide) hk1 hFc hP1 hD1
        generalize H1 = H at hP hS ⊢
        have hP : va_P (dC, dI) vwCl [(rd, .inr (6, fs_rd)), (tp, .inr (9, fs_tp)), (ba, .inl (cB, 900, .inl fb)), (ra, .inr (5, [.long u0, .long w0])), (li, .inr (3, fs_li)), (ho, .inr (4, fs_ho)), (dr, .inr (3, fs_dr)), (hd, .inr (4, fs_hd)), (mm, .inr (11, fs_mm)), (mb, .inl (cM, 900, .inl fM))] H := hP
        have hD : va_D A [(rd, .inr (6, fs_rd)), (tp, .inr (9, fs_tp)), (ba, .inl (cB, 900, .inl fb)), (ra, .inr (5, [.long u0, .long w0])), (li, .inr (3, fs_li)), (ho, .inr (4, fs_ho)), (dr, .inr (3, fs_dr)), (hd, .inr (4, fs_hd)), (mm, .inr (11, fs_mm)), (mb, .inl (cM, 900, .inl fM))] := hD
        have er_66 : r_66 = f_X11_months (xs (1 : Int32).toNatClampNeg) (xs (2 : Int32).toNatClampNeg) 0 := hw
        refine lv_aload_n hx hb dL_law_444 rfl (lv_at hl 2 rfl) ?_
        refine lv_aload_n hx hb dL_law_445 rfl (lv_at hl 4 rfl) ?_
        refine lv_iload hx hb dL_law_446 (lv_at hl 0 rfl) ?_
        refine lv_iconst (v := 1) hx hb dL_law_448 (by decide) ?_
        refine lv_iadd hx hb dL_law_449 ?_
        refine lv_topi (fun z_67 ez_67 => ?_)
        obtain rfl : z_67 = 1 := ez_67.trans (by decide)
        refine va_sld hx hb hX hbl hbA hS (vp_in_nI (n := 1) (by decide) (by decide)) dL_law_450 ?_
        refine lv_aload_n hx hb dL_law_451 rfl (lv_at hl 4 rfl) ?_
        refine lv_iload hx hb dL_law_452 (lv_at hl 0 rfl) ?_
        refine lv_iconst (v := 2) hx hb dL_law_454 (by decide) ?_
        refine lv_iadd hx hb dL_law_455 ?_
        refine lv_topi (fun z_68 ez_68 => ?_)
        obtain rfl : z_68 = 2 := ez_68.trans (by decide)
        refine va_sld hx hb hX hbl hbA hS (vp_in_nI (n := 2) (by decide) (by decide)) dL_law_456 ?_
        refine lv_aload_n hx hb dL_law_457 rfl (lv_at hl 4 rfl) ?_
        refine lv_iload hx hb dL_law_458 (lv_at hl 0 rfl) ?_
        refine lv_iconst (v := 3) hx hb dL_law_460 (by decide) ?_
        refine lv_iadd hx hb dL_law_461 ?_
        refine lv_topi (fun z_69 ez_69 => ?_)
        obtain rfl : z_69 = 3 := ez_69.trans (by decide)
        refine va_sld hx hb hX hbl hbA hS (vp_in_nI (n := 3) (by decide) (by decide)) dL_law_462 ?_
        refine lv_if_eq (tgt := 470) hx hb dL_law_463 (by decide) (fun c_70 => ?_) (fun c_70 => ?_)
        · refine lv_iconst (v := 0) hx hb dL_law_470 (by decide) ?_
          have hPc := hP.sub (ws' := [(mm, .inr (11, fs_mm))]) [8] rfl
          have hDc := hD.sub (ws' := [(mm, .inr (11, fs_mm))]) [8] (by decide) rfl
          have hKc := hK.sub (tys' := []) [] rfl
          have hFc := va_free (wc := [(mm, .inr (11, fs_mm))]) hD hS hA [8] rfl
          refine va_calli (va_runV (As := [.int (xs (1 : Int32).toNatClampNeg), .int (xs (2 : Int32).toNatClampNeg), .int 0]) (rest := [.int r_66]) ⟨hx, hb, hml, hown, hts⟩ (k_X12_months l dC dI H.size mm fs_mm (xs (1 : Int32).toNatClampNeg) (xs (2 : Int32).toNatClampNeg) 0 hn_mm) (cwV 3 hts gL0_X12_months rfl rfl rfl (by decide +kernel) ⟨Nat.le_of_ble_eq_true rfl, Nat.le_of_ble_eq_true rfl⟩) ⟨fun a U g mk q => by obtain ⟨q0, q1, qP, qK, qD⟩ := q; exact ⟨q0, q1, qP, va_K.moved (u := U) (U := U.calling g mk a) (Vm.Alike.refl U.vm) qK, qD⟩, va_recv hKc hPc (ci := 11) (q0 := 0) rfl rfl, fun U hU hW => ⟨rfl, by rw [hU], by rw [hU]; exact hPc, va_K.moved hW.alike hKc, hDc.weaken (fun _ _ _ _ => trivial)⟩⟩ rfl rfl hl.1 rfl (lv_room (Nat.le_of_ble_eq_true rfl)) dL_law_471 ⟨Nat.le_of_ble_eq_true rfl, Nat.le_of_ble_eq_true rfl⟩) hS (fun q _ h => hFc q h) hFc (fun r_71 u t H1 locs ht hvm hw hB hz1 hk1 hS => ?_)
          obtain ⟨hP1, hK1, hD1⟩ := hB
          rw [ht] at hP1
          have hK1 := va_K.moved hvm.symm hK1
          obtain ⟨hP, hD⟩ := va_join (wr := [(rd, .inr (6, fs_rd)), (tp, .inr (9, fs_tp)), (ba, .inl (cB, 900, .inl fb)), (ra, .inr (5, [.long u0, .long w0])), (li, .inr (3, fs_li)), (ho, .inr (4, fs_ho)), (dr, .inr (3, fs_dr)), (hd, .inr (4, fs_hd)), (mb, .inl (cM, 900, .inl fM))]) (w1 := []) hP hD [8] [0, 1, 2, 3, 4, 5, 6, 7, 9] rfl rfl (by decide) (by decide) hk1 hFc hP1 hD1
          generalize H1 = H at hP hS ⊢
          have hP : va_P (dC, dI) vwCl [(rd, .inr (6, fs_rd)), (tp, .inr (9, fs_tp)), (ba, .inl (cB, 900, .inl fb)), (ra, .inr (5, [.long u0, .long w0])), (li, .inr (3, fs_li)), (ho, .inr (4, fs_ho)), (dr, .inr (3, fs_dr)), (hd, .inr (4, fs_hd)), (mb, .inl (cM, 900, .inl fM))] H := hP
          have hD : va_D A [(rd, .inr (6, fs_rd)), (tp, .inr (9, fs_tp)), (ba, .inl (cB, 900, .inl fb)), (ra, .inr (5, [.long u0, .long w0])), (li, .inr (3, fs_li)), (ho, .inr (4, fs_ho)), (dr, .inr (3, fs_dr)), (hd, .inr (4, fs_hd)), (mb, .inl (cM, 900, .inl fM))] := hD
          have er_71 : r_71 = f_X12_months (xs (1 : Int32).toNatClampNeg) (xs (2 : Int32).toNatClampNeg) 0 := hw
          refine lv_icmp_eq (tgt := 1893) hx hb dL_law_474 (by decide) (fun c_72 => ?_) (fun c_72 => ?_)
          · refine lv_iinc (v := 6) (lv' := [(4, .int 6), (3, .ref lo), (2, .ref mm), (1, .ref x), (0, .ref b)]) hx hb dL_law_1893 hl (k := 0) rfl (by decide) (by decide) rfl (fun ls hl => ?_)
            refine lv_goto (tgt := 23) hx hb dL_law_1896 (by decide) ?_
            refine lv_iload hx hb dL_law_23 (lv_at hl 0 rfl) ?_
            refine lv_aload_n hx hb dL_law_25 rfl (lv_at hl 4 rfl) ?_
            refine va_slen hx hb hX hbl hbA hS dL_law_26 ?_
            refine lv_topi (fun z_74 ez_74 => ?_)
            obtain rfl : z_74 = 6 := ez_74.trans rfl
            refine lv_bipush (v := 6) hx hb dL_law_27 (by decide) ?_
            refine lv_isub hx hb dL_law_29 ?_
            refine lv_topi (fun z_75 ez_75 => ?_)
            obtain rfl : z_75 = 0 := ez_75.trans (by decide)
            refine lv_icmp_gt (tgt := 1899) hx hb dL_law_30 (by decide) (fun c_76 => ?_) (fun c_76 => ?_)
            · refine lv_iconst (v := 1) hx hb dL_law_1899 (by decide) ?_
              refine va_forget (fun q hq => by have h9 := hS.2.2 q hq; rw [← hAe] at h9; exact h9) ?_
              refine W.widen (k := 600002) (n := 7302232) (Nat.le_of_ble_eq_true rfl) (Nat.le_of_ble_eq_true rfl) ?_
              exact lw_ret hd0 hx hb hr hlocks dL_law_1900
            · exact absurd (by decide) c_76
          · exact absurd (er_66.trans ((q_months _ _ _).trans er_71.symm)) c_72
        · exact absurd c_65 c_70
      · refine lv_iconst (v := 1) hx hb dL_law_436 (by decide) ?_
        refine lv_goto (tgt := 441) hx hb dL_law_437 (by decide) ?_
        have hPc := hP.sub (ws' := [(x, .inr (10, fs_x))]) [0] rfl
        have hDc := hD.sub (ws' := [(x, .inr (10, fs_x))]) [0] (by decide) rfl
        have hKc := hK.sub (tys' := []) [] rfl
        have hFc := va_free (wc := [(x, .inr (10, fs_x))]) hD hS hA [0] rfl
        refine va_calli (va_runV (As := [.int (xs (1 : Int32).toNatClampNeg), .int (xs (2 : Int32).toNatClampNeg), .int 1]) (rest := []) ⟨hx, hb, hml, hown, hts⟩ (k_X11_months l dC dI H.size x fs_x (xs (1 : Int32).toNatClampNeg) (xs (2 : Int32).toNatClampNeg) 1 hn_x) (cwV 3 hts gL0_X11_months rfl rfl rfl (by decide +kernel) ⟨Nat.le_of_ble_eq_true rfl, Nat.le_of_ble_eq_true rfl⟩) ⟨fun a U g mk q => by obtain ⟨q0, q1, qP, qK, qD⟩ := q; exact ⟨q0, q1, qP, va_K.moved (u := U) (U := U.calling g mk a) (Vm.Alike.refl U.vm) qK, qD⟩, va_recv hKc hPc (ci := 10) (q0 := 0) rfl rfl, fun U hU hW => ⟨rfl, by rw [hU], by rw [hU]; exact hPc, va_K.moved hW.alike hKc, hDc.weaken (fun _ _ _ _ => trivial)⟩⟩ rfl rfl hl.1 rfl (lv_room (Nat.le_of_ble_eq_true rfl)) dL_law_441 ⟨Nat.le_of_ble_eq_true rfl, Nat.le_of_ble_eq_true rfl⟩) hS (fun q _ h => hFc q h) hFc (fun r_77 u t H1 locs ht hvm hw hB hz1 hk1 hS => ?_)
        obtain ⟨hP1, hK1, hD1⟩ := hB
        rw [ht] at hP1
        have hK1 := va_K.moved hvm.symm hK1
        obtain ⟨hP, hD⟩ := va_join (wr := [(rd, .inr (6, fs_rd)), (tp, .inr (9, fs_tp)), (ba, .inl (cB, 900, .inl fb)), (ra, .inr (5, [.long u0, .long w0])), (li, .inr (3, fs_li)), (ho, .inr (4, fs_ho)), (dr, .inr (3, fs_dr)), (hd, .inr (4, fs_hd)), (mm, .inr (11, fs_mm)), (mb, .inl (cM, 900, .inl fM))]) (w1 := []) hP hD [0] [1, 2, 3, 4, 5, 6, 7, 8, 9, 10] rfl rfl (by decide) (by decide) hk1 hFc hP1 hD1
        generalize H1 = H at hP hS ⊢
        have hP : va_P (dC, dI) vwCl [(rd, .inr (6, fs_rd)), (tp, .inr (9, fs_tp)), (ba, .inl (cB, 900, .inl fb)), (ra, .inr (5, [.long u0, .long w0])), (li, .inr (3, fs_li)), (ho, .inr (4, fs_ho)), (dr, .inr (3, fs_dr)), (hd, .inr (4, fs_hd)), (mm, .inr (11, fs_mm)), (mb, .inl (cM, 900, .inl fM))] H := hP
        have hD : va_D A [(rd, .inr (6, fs_rd)), (tp, .inr (9, fs_tp)), (ba, .inl (cB, 900, .inl fb)), (ra, .inr (5, [.long u0, .long w0])), (li, .inr (3, fs_li)), (ho, .inr (4, fs_ho)), (dr, .inr (3, fs_dr)), (hd, .inr (4, fs_hd)), (mm, .inr (11, fs_mm)), (mb, .inl (cM, 900, .inl fM))] := hD
        have er_77 : r_77 = f_X11_months (xs (1 : Int32).toNatClampNeg) (xs (2 : Int32).toNatClampNeg) 1 := hw
        refine lv_aload_n hx hb dL_law_444 rfl (lv_at hl 2 rfl) ?_
        refine lv_aload_n hx hb dL_law_445 rfl (lv_at hl 4 rfl) ?_
        refine lv_iload hx hb dL_law_446 (lv_at hl 0 rfl) ?_
        refine lv_iconst (v := 1) hx hb dL_law_448 (by decide) ?_
        refine lv_iadd hx hb dL_law_449 ?_
        refine lv_topi (fun z_78 ez_78 => ?_)
        obtain rfl : z_78 = 1 := ez_78.trans (by decide)
        refine va_sld hx hb hX hbl hbA hS (vp_in_nI (n := 1) (by decide) (by decide)) dL_law_450 ?_
        refine lv_aload_n hx hb dL_law_451 rfl (lv_at hl 4 rfl) ?_
        refine lv_iload hx hb dL_law_452 (lv_at hl 0 rfl) ?_
        refine lv_iconst (v := 2) hx hb dL_law_454 (by decide) ?_
        refine lv_iadd hx hb dL_law_455 ?_
        refine lv_topi (fun z_79 ez_79 => ?_)
        obtain rfl : z_79 = 2 := ez_79.trans (by decide)
        refine va_sld hx hb hX hbl hbA hS (vp_in_nI (n := 2) (by decide) (by decide)) dL_law_456 ?_
        refine lv_aload_n hx hb dL_law_457 rfl (lv_at hl 4 rfl) ?_
        refine lv_iload hx hb dL_law_458 (lv_at hl 0 rfl) ?_
        refine lv_iconst (v := 3) hx hb dL_law_460 (by decide) ?_
        refine lv_iadd hx hb dL_law_461 ?_
        refine lv_topi (fun z_80 ez_80 => ?_)
        obtain rfl : z_80 = 3 := ez_80.trans (by decide)
        refine va_sld hx hb hX hbl hbA hS (vp_in_nI (n := 3) (by decide) (by decide)) dL_law_462 ?_
        refine lv_if_eq (tgt := 470) hx hb dL_law_463 (by decide) (fun c_81 => ?_) (fun c_81 => ?_)
        · exact absurd c_81 c_65
        · refine lv_iconst (v := 1) hx hb dL_law_466 (by decide) ?_
          refine lv_goto (tgt := 471) hx hb dL_law_467 (by decide) ?_
          have hPc := hP.sub (ws' := [(mm, .inr (11, fs_mm))]) [8] rfl
          have hDc := hD.sub (ws' := [(mm, .inr (11, fs_mm))]) [8] (by decide) rfl
          have hKc := hK.sub (tys' := []) [] rfl
          have hFc := va_free (wc := [(mm, .inr (11, fs_mm))]) hD hS hA [8] rfl
          refine va_calli (va_runV (As := [.int (xs (1 : Int32).toNatClampNeg), .int (xs (2 : Int32).toNatClampNeg), .int 1]) (rest := [.int r_77]) ⟨hx, hb, hml, hown, hts⟩ (k_X12_months l dC dI H.size mm fs_mm (xs (1 : Int32).toNatClampNeg) (xs (2 : Int32).toNatClampNeg) 1 hn_mm) (cwV 3 hts gL0_X12_months rfl rfl rfl (by decide +kernel) ⟨Nat.le_of_ble_eq_true rfl, Nat.le_of_ble_eq_true rfl⟩) ⟨fun a U g mk q => by obtain ⟨q0, q1, qP, qK, qD⟩ := q; exact ⟨q0, q1, qP, va_K.moved (u := U) (U := U.calling g mk a) (Vm.Alike.refl U.vm) qK, qD⟩, va_recv hKc hPc (ci := 11) (q0 := 0) rfl rfl, fun U hU hW => ⟨rfl, by rw [hU], by rw [hU]; exact hPc, va_K.moved hW.alike hKc, hDc.weaken (fun _ _ _ _ => trivial)⟩⟩ rfl rfl hl.1 rfl (lv_room (Nat.le_of_ble_eq_true rfl)) dL_law_471 ⟨Nat.le_of_ble_eq_true rfl, Nat.le_of_ble_eq_true rfl⟩) hS (fun q _ h => hFc q h) hFc (fun r_82 u t H1 locs ht hvm hw hB hz1 hk1 hS => ?_)
          obtain ⟨hP1, hK1, hD1⟩ := hB
          rw [ht] at hP1
          have hK1 := va_K.moved hvm.symm hK1
          obtain ⟨hP, hD⟩ := va_join (wr := [(rd, .inr (6, fs_rd)), (tp, .inr (9, fs_tp)), (ba, .inl (cB, 900, .inl fb)), (ra, .inr (5, [.long u0, .long w0])), (li, .inr (3, fs_li)), (ho, .inr (4, fs_ho)), (dr, .inr (3, fs_dr)), (hd, .inr (4, fs_hd)), (mb, .inl (cM, 900, .inl fM))]) (w1 := []) hP hD [8] [0, 1, 2, 3, 4, 5, 6, 7, 9] rfl rfl (by decide) (by decide) hk1 hFc hP1 hD1
          generalize H1 = H at hP hS ⊢
          have hP : va_P (dC, dI) vwCl [(rd, .inr (6, fs_rd)), (tp, .inr (9, fs_tp)), (ba, .inl (cB, 900, .inl fb)), (ra, .inr (5, [.long u0, .long w0])), (li, .inr (3, fs_li)), (ho, .inr (4, fs_ho)), (dr, .inr (3, fs_dr)), (hd, .inr (4, fs_hd)), (mb, .inl (cM, 900, .inl fM))] H := hP
          have hD : va_D A [(rd, .inr (6, fs_rd)), (tp, .inr (9, fs_tp)), (ba, .inl (cB, 900, .inl fb)), (ra, .inr (5, [.long u0, .long w0])), (li, .inr (3, fs_li)), (ho, .inr (4, fs_ho)), (dr, .inr (3, fs_dr)), (hd, .inr (4, fs_hd)), (mb, .inl (cM, 900, .inl fM))] := hD
          have er_82 : r_82 = f_X12_months (xs (1 : Int32).toNatClampNeg) (xs (2 : Int32).toNatClampNeg) 1 := hw
          refine lv_icmp_eq (tgt := 1893) hx hb dL_law_474 (by decide) (fun c_83 => ?_) (fun c_83 => ?_)
          · refine lv_iinc (v := 6) (lv' := [(4, .int 6), (3, .ref lo), (2, .ref mm), (1, .ref x), (0, .ref b)]) hx hb dL_law_1893 hl (k := 0) rfl (by decide) (by decide) rfl (fun ls hl => ?_)
            refine lv_goto (tgt := 23) hx hb dL_law_1896 (by decide) ?_
            refine lv_iload hx hb dL_law_23 (lv_at hl 0 rfl) ?_
            refine lv_aload_n hx hb dL_law_25 rfl (lv_at hl 4 rfl) ?_
            refine va_slen hx hb hX hbl hbA hS dL_law_26 ?_
            refine lv_topi (fun z_85 ez_85 => ?_)
            obtain rfl : z_85 = 6 := ez_85.trans rfl
            refine lv_bipush (v := 6) hx hb dL_law_27 (by decide) ?_
            refine lv_isub hx hb dL_law_29 ?_
            refine lv_topi (fun z_86 ez_86 => ?_)
            obtain rfl : z_86 = 0 := ez_86.trans (by decide)
            refine lv_icmp_gt (tgt := 1899) hx hb dL_law_30 (by decide) (fun c_87 => ?_) (fun c_87 => ?_)
            · refine lv_iconst (v := 1) hx hb dL_law_1899 (by decide) ?_
              refine va_forget (fun q hq => by have h9 := hS.2.2 q hq; rw [← hAe] at h9; exact h9) ?_
              refine W.widen (k := 600002) (n := 7302232) (Nat.le_of_ble_eq_true rfl) (Nat.le_of_ble_eq_true rfl) ?_
              exact lw_ret hd0 hx hb hr hlocks dL_law_1900
            · exact absurd (by decide) c_87
          · exact absurd (er_77.trans ((q_months _ _ _).trans er_82.symm)) c_83
    by_cases c_88 : ((xs (0 : Int32).toNatClampNeg) &&& 63) = 7
    · refine lv_tableIn (tgt := 479) hx hb dL_law_40 (by rw [c_88]; decide) (by rw [c_88]; decide) (by rw [c_88]; rfl) (by decide) ?_
      refine lv_aload_n hx hb dL_law_479 rfl (lv_at hl 3 rfl) ?_
      refine lv_aload_n hx hb dL_law_480 rfl (lv_at hl 4 rfl) ?_
      refine lv_iload hx hb dL_law_481 (lv_at hl 0 rfl) ?_
      refine lv_iconst (v := 1) hx hb dL_law_483 (by decide) ?_
      refine lv_iadd hx hb dL_law_484 ?_
      refine lv_topi (fun z_89 ez_89 => ?_)
      obtain rfl : z_89 = 1 := ez_89.trans (by decide)
      refine va_sld hx hb hX hbl hbA hS (vp_in_nI (n := 1) (by decide) (by decide)) dL_law_485 ?_
      have hPc := hP.sub (ws' := [(x, .inr (10, fs_x)), (li, .inr (3, fs_li)), (ho, .inr (4, fs_ho))]) [0, 5, 6] rfl
      have hDc := hD.sub (ws' := [(x, .inr (10, fs_x)), (li, .inr (3, fs_li)), (ho, .inr (4, fs_ho))]) [0, 5, 6] (by decide) rfl
      have hKc := hK.sub (tys' := []) [] rfl
      have hFc := va_free (wc := [(x, .inr (10, fs_x)), (li, .inr (3, fs_li)), (ho, .inr (4, fs_ho))]) hD hS hA [0, 5, 6] rfl
      refine va_calli (va_runV (As := [.int (xs (1 : Int32).toNatClampNeg)]) (rest := []) ⟨hx, hb, hml, hown, hts⟩ (k_X11_business l dC dI H.size x fs_x li fs_li ho fs_ho (xs (1 : Int32).toNatClampNeg) hn_x hf_x_8 hn_li hf_li_2 hn_ho hf_ho_1) (cwV 1 hts gL0_X11_business rfl rfl rfl (by decide +kernel) ⟨Nat.le_of_ble_eq_true rfl, Nat.le_of_ble_eq_true rfl⟩) ⟨fun a U g mk q => by obtain ⟨q0, q1, qP, qK, qD⟩ := q; exact ⟨q0, q1, qP, va_K.moved (u := U) (U := U.calling g mk a) (Vm.Alike.refl U.vm) qK, qD⟩, va_recv hKc hPc (ci := 10) (q0 := 0) rfl rfl, fun U hU hW => ⟨rfl, by rw [hU], by rw [hU]; exact hPc, va_K.moved hW.alike hKc, hDc.weaken (fun _ _ _ _ => trivial)⟩⟩ rfl rfl hl.1 rfl (lv_room (Nat.le_of_ble_eq_true rfl)) dL_law_486 ⟨Nat.le_of_ble_eq_true rfl, Nat.le_of_ble_eq_true rfl⟩) hS (fun q _ h => hFc q h) hFc (fun r_90 u t H1 locs ht hvm hw hB hz1 hk1 hS => ?_)
      obtain ⟨hP1, hK1, hD1⟩ := hB
      rw [ht] at hP1
      have hK1 := va_K.moved hvm.symm hK1
      obtain ⟨hP, hD⟩ := va_join (wr := [(rd, .inr (6, fs_rd)), (tp, .inr (9, fs_tp)), (ba, .inl (cB, 900, .inl fb)), (ra, .inr (5, [.long u0, .long w0])), (dr, .inr (3, fs_dr)), (hd, .inr (4, fs_hd)), (mm, .inr (11, fs_mm)), (mb, .inl (cM, 900, .inl fM))]) (w1 := []) hP hD [0, 5, 6] [1, 2, 3, 4, 7, 8, 9, 10] rfl rfl (by decide) (by decide) hk1 hFc hP1 hD1
      generalize H1 = H at hP hS ⊢
      have hP : va_P (dC, dI) vwCl [(rd, .inr (6, fs_rd)), (tp, .inr (9, fs_tp)), (ba, .inl (cB, 900, .inl fb)), (ra, .inr (5, [.long u0, .long w0])), (dr, .inr (3, fs_dr)), (hd, .inr (4, fs_hd)), (mm, .inr (11, fs_mm)), (mb, .inl (cM, 900, .inl fM))] H := hP
      have hD : va_D A [(rd, .inr (6, fs_rd)), (tp, .inr (9, fs_tp)), (ba, .inl (cB, 900, .inl fb)), (ra, .inr (5, [.long u0, .long w0])), (dr, .inr (3, fs_dr)), (hd, .inr (4, fs_hd)), (mm, .inr (11, fs_mm)), (mb, .inl (cM, 900, .inl fM))] := hD
      have er_90 : r_90 = f_X11_business (xs (1 : Int32).toNatClampNeg) := hw
      refine lv_aload_n hx hb dL_law_489 rfl (lv_at hl 2 rfl) ?_
      refine lv_aload_n hx hb dL_law_490 rfl (lv_at hl 4 rfl) ?_
      refine lv_iload hx hb dL_law_491 (lv_at hl 0 rfl) ?_
      refine lv_iconst (v := 1) hx hb dL_law_493 (by decide) ?_
      refine lv_iadd hx hb dL_law_494 ?_
      refine lv_topi (fun z_91 ez_91 => ?_)
      obtain rfl : z_91 = 1 := ez_91.trans (by decide)
      refine va_sld hx hb hX hbl hbA hS (vp_in_nI (n := 1) (by decide) (by decide)) dL_law_495 ?_
      have hPc := hP.sub (ws' := [(mm, .inr (11, fs_mm))]) [6] rfl
      have hDc := hD.sub (ws' := [(mm, .inr (11, fs_mm))]) [6] (by decide) rfl
      have hKc := hK.sub (tys' := []) [] rfl
      have hFc := va_free (wc := [(mm, .inr (11, fs_mm))]) hD hS hA [6] rfl
      refine va_calli (va_runV (As := [.int (xs (1 : Int32).toNatClampNeg)]) (rest := [.int r_90]) ⟨hx, hb, hml, hown, hts⟩ (k_X12_business l dC dI H.size mm fs_mm (xs (1 : Int32).toNatClampNeg) hn_mm hf_mm_22) (cwV 1 hts gL0_X12_business rfl rfl rfl (by decide +kernel) ⟨Nat.le_of_ble_eq_true rfl, Nat.le_of_ble_eq_true rfl⟩) ⟨fun a U g mk q => by obtain ⟨q0, q1, qP, qK, qD⟩ := q; exact ⟨q0, q1, qP, va_K.moved (u := U) (U := U.calling g mk a) (Vm.Alike.refl U.vm) qK, qD⟩, va_recv hKc hPc (ci := 11) (q0 := 0) rfl rfl, fun U hU hW => ⟨rfl, by rw [hU], by rw [hU]; exact hPc, va_K.moved hW.alike hKc, hDc.weaken (fun _ _ _ _ => trivial)⟩⟩ rfl rfl hl.1 rfl (lv_room (Nat.le_of_ble_eq_true rfl)) dL_law_496 ⟨Nat.le_of_ble_eq_true rfl, Nat.le_of_ble_eq_true rfl⟩) hS (fun q _ h => hFc q h) hFc (fun r_92 u t H1 locs ht hvm hw hB hz1 hk1 hS => ?_)
      obtain ⟨hP1, hK1, hD1⟩ := hB
      rw [ht] at hP1
      have hK1 := va_K.moved hvm.symm hK1
      obtain ⟨hP, hD⟩ := va_join (wr := [(rd, .inr (6, fs_rd)), (tp, .inr (9, fs_tp)), (ba, .inl (cB, 900, .inl fb)), (ra, .inr (5, [.long u0, .long w0])), (dr, .inr (3, fs_dr)), (hd, .inr (4, fs_hd)), (mb, .inl (cM, 900, .inl fM))]) (w1 := []) hP hD [6] [0, 1, 2, 3, 4, 5, 7] rfl rfl (by decide) (by decide) hk1 hFc hP1 hD1
      generalize H1 = H at hP hS ⊢
      have hP : va_P (dC, dI) vwCl [(rd, .inr (6, fs_rd)), (tp, .inr (9, fs_tp)), (ba, .inl (cB, 900, .inl fb)), (ra, .inr (5, [.long u0, .long w0])), (dr, .inr (3, fs_dr)), (hd, .inr (4, fs_hd)), (mb, .inl (cM, 900, .inl fM))] H := hP
      have hD : va_D A [(rd, .inr (6, fs_rd)), (tp, .inr (9, fs_tp)), (ba, .inl (cB, 900, .inl fb)), (ra, .inr (5, [.long u0, .long w0])), (dr, .inr (3, fs_dr)), (hd, .inr (4, fs_hd)), (mb, .inl (cM, 900, .inl fM))] := hD
      have er_92 : r_92 = f_X12_business (xs (1 : Int32).toNatClampNeg) := hw
      refine lv_icmp_eq (tgt := 1893) hx hb dL_law_499 (by decide) (fun c_93 => ?_) (fun c_93 => ?_)
      · refine lv_iinc (v := 6) (lv' := [(4, .int 6), (3, .ref lo), (2, .ref mm), (1, .ref x), (0, .ref b)]) hx hb dL_law_1893 hl (k := 0) rfl (by decide) (by decide) rfl (fun ls hl => ?_)
        refine lv_goto (tgt := 23) hx hb dL_law_1896 (by decide) ?_
        refine lv_iload hx hb dL_law_23 (lv_at hl 0 rfl) ?_
        refine lv_aload_n hx hb dL_law_25 rfl (lv_at hl 4 rfl) ?_
        refine va_slen hx hb hX hbl hbA hS dL_law_26 ?_
        refine lv_topi (fun z_95 ez_95 => ?_)
        obtain rfl : z_95 = 6 := ez_95.trans rfl
        refine lv_bipush (v := 6) hx hb dL_law_27 (by decide) ?_
        refine lv_isub hx hb dL_law_29 ?_
        refine lv_topi (fun z_96 ez_96 => ?_)
        obtain rfl : z_96 = 0 := ez_96.trans (by decide)
        refine lv_icmp_gt (tgt := 1899) hx hb dL_law_30 (by decide) (fun c_97 => ?_) (fun c_97 => ?_)
        · refine lv_iconst (v := 1) hx hb dL_law_1899 (by decide) ?_
          refine va_forget (fun q hq => by have h9 := hS.2.2 q hq; rw [← hAe] at h9; exact h9) ?_
          refine W.widen (k := 600002) (n := 7302232) (Nat.le_of_ble_eq_true rfl) (Nat.le_of_ble_eq_true rfl) ?_
          exact lw_ret hd0 hx hb hr hlocks dL_law_1900
        · exact absurd (by decide) c_97
      · exact absurd (er_90.trans ((q_business _).trans er_92.symm)) c_93
    by_cases c_98 : ((xs (0 : Int32).toNatClampNeg) &&& 63) = 8
    · refine lv_tableIn (tgt := 504) hx hb dL_law_40 (by rw [c_98]; decide) (by rw [c_98]; decide) (by rw [c_98]; rfl) (by decide) ?_
      refine lv_aload_n hx hb dL_law_504 rfl (lv_at hl 3 rfl) ?_
      refine lv_aload_n hx hb dL_law_505 rfl (lv_at hl 4 rfl) ?_
      refine lv_iload hx hb dL_law_506 (lv_at hl 0 rfl) ?_
      refine lv_iconst (v := 1) hx hb dL_law_508 (by decide) ?_
      refine lv_iadd hx hb dL_law_509 ?_
      refine lv_topi (fun z_99 ez_99 => ?_)
      obtain rfl : z_99 = 1 := ez_99.trans (by decide)
      refine va_sld hx hb hX hbl hbA hS (vp_in_nI (n := 1) (by decide) (by decide)) dL_law_510 ?_
      refine lv_aload_n hx hb dL_law_511 rfl (lv_at hl 4 rfl) ?_
      refine lv_iload hx hb dL_law_512 (lv_at hl 0 rfl) ?_
      refine lv_iconst (v := 2) hx hb dL_law_514 (by decide) ?_
      refine lv_iadd hx hb dL_law_515 ?_
      refine lv_topi (fun z_100 ez_100 => ?_)
      obtain rfl : z_100 = 2 := ez_100.trans (by decide)
      refine va_sld hx hb hX hbl hbA hS (vp_in_nI (n := 2) (by decide) (by decide)) dL_law_516 ?_
      have hPc := hP.sub (ws' := [(x, .inr (10, fs_x)), (li, .inr (3, fs_li)), (ho, .inr (4, fs_ho))]) [0, 5, 6] rfl
      have hDc := hD.sub (ws' := [(x, .inr (10, fs_x)), (li, .inr (3, fs_li)), (ho, .inr (4, fs_ho))]) [0, 5, 6] (by decide) rfl
      have hKc := hK.sub (tys' := []) [] rfl
      have hFc := va_free (wc := [(x, .inr (10, fs_x)), (li, .inr (3, fs_li)), (ho, .inr (4, fs_ho))]) hD hS hA [0, 5, 6] rfl
      refine va_calli (va_runV (As := [.int (xs (1 : Int32).toNatClampNeg), .int (xs (2 : Int32).toNatClampNeg)]) (rest := []) ⟨hx, hb, hml, hown, hts⟩ (k_X11_businessFrom l dC dI H.size x fs_x li fs_li ho fs_ho (xs (1 : Int32).toNatClampNeg) (xs (2 : Int32).toNatClampNeg) hn_x hf_x_8 hn_li hf_li_2 hn_ho hf_ho_1) (cwV 2 hts gL0_X11_businessFrom rfl rfl rfl (by decide +kernel) ⟨Nat.le_of_ble_eq_true rfl, Nat.le_of_ble_eq_true rfl⟩) ⟨fun a U g mk q => by obtain ⟨q0, q1, qP, qK, qD⟩ := q; exact ⟨q0, q1, qP, va_K.moved (u := U) (U := U.calling g mk a) (Vm.Alike.refl U.vm) qK, qD⟩, va_recv hKc hPc (ci := 10) (q0 := 0) rfl rfl, fun U hU hW => ⟨rfl, by rw [hU], by rw [hU]; exact hPc, va_K.moved hW.alike hKc, hDc.weaken (fun _ _ _ _ => trivial)⟩⟩ rfl rfl hl.1 rfl (lv_room (Nat.le_of_ble_eq_true rfl)) dL_law_517 ⟨Nat.le_of_ble_eq_true rfl, Nat.le_of_ble_eq_true rfl⟩) hS (fun q _ h => hFc q h) hFc (fun r_101 u t H1 locs ht hvm hw hB hz1 hk1 hS => ?_)
      obtain ⟨hP1, hK1, hD1⟩ := hB
      rw [ht] at hP1
      have hK1 := va_K.moved hvm.symm hK1
      obtain ⟨hP, hD⟩ := va_join (wr := [(rd, .inr (6, fs_rd)), (tp, .inr (9, fs_tp)), (ba, .inl (cB, 900, .inl fb)), (ra, .inr (5, [.long u0, .long w0])), (dr, .inr (3, fs_dr)), (hd, .inr (4, fs_hd)), (mm, .inr (11, fs_mm)), (mb, .inl (cM, 900, .inl fM))]) (w1 := []) hP hD [0, 5, 6] [1, 2, 3, 4, 7, 8, 9, 10] rfl rfl (by decide) (by decide) hk1 hFc hP1 hD1
      generalize H1 = H at hP hS ⊢
      have hP : va_P (dC, dI) vwCl [(rd, .inr (6, fs_rd)), (tp, .inr (9, fs_tp)), (ba, .inl (cB, 900, .inl fb)), (ra, .inr (5, [.long u0, .long w0])), (dr, .inr (3, fs_dr)), (hd, .inr (4, fs_hd)), (mm, .inr (11, fs_mm)), (mb, .inl (cM, 900, .inl fM))] H := hP
      have hD : va_D A [(rd, .inr (6, fs_rd)), (tp, .inr (9, fs_tp)), (ba, .inl (cB, 900, .inl fb)), (ra, .inr (5, [.long u0, .long w0])), (dr, .inr (3, fs_dr)), (hd, .inr (4, fs_hd)), (mm, .inr (11, fs_mm)), (mb, .inl (cM, 900, .inl fM))] := hD
      have er_101 : r_101 = f_X11_businessFrom (xs (1 : Int32).toNatClampNeg) (xs (2 : Int32).toNatClampNeg) := hw
      refine lv_aload_n hx hb dL_law_520 rfl (lv_at hl 2 rfl) ?_
      refine lv_aload_n hx hb dL_law_521 rfl (lv_at hl 4 rfl) ?_
      refine lv_iload hx hb dL_law_522 (lv_at hl 0 rfl) ?_
      refine lv_iconst (v := 1) hx hb dL_law_524 (by decide) ?_
      refine lv_iadd hx hb dL_law_525 ?_
      refine lv_topi (fun z_102 ez_102 => ?_)
      obtain rfl : z_102 = 1 := ez_102.trans (by decide)
      refine va_sld hx hb hX hbl hbA hS (vp_in_nI (n := 1) (by decide) (by decide)) dL_law_526 ?_
      refine lv_aload_n hx hb dL_law_527 rfl (lv_at hl 4 rfl) ?_
      refine lv_iload hx hb dL_law_528 (lv_at hl 0 rfl) ?_
      refine lv_iconst (v := 2) hx hb dL_law_530 (by decide) ?_
      refine lv_iadd hx hb dL_law_531 ?_
      refine lv_topi (fun z_103 ez_103 => ?_)
      obtain rfl : z_103 = 2 := ez_103.trans (by decide)
      refine va_sld hx hb hX hbl hbA hS (vp_in_nI (n := 2) (by decide) (by decide)) dL_law_532 ?_
      have hPc := hP.sub (ws' := [(mm, .inr (11, fs_mm))]) [6] rfl
      have hDc := hD.sub (ws' := [(mm, .inr (11, fs_mm))]) [6] (by decide) rfl
      have hKc := hK.sub (tys' := []) [] rfl
      have hFc := va_free (wc := [(mm, .inr (11, fs_mm))]) hD hS hA [6] rfl
      refine va_calli (va_runV (As := [.int (xs (1 : Int32).toNatClampNeg), .int (xs (2 : Int32).toNatClampNeg)]) (rest := [.int r_101]) ⟨hx, hb, hml, hown, hts⟩ (k_X12_businessFrom l dC dI H.size mm fs_mm (xs (1 : Int32).toNatClampNeg) (xs (2 : Int32).toNatClampNeg) hn_mm hf_mm_22) (cwV 2 hts gL0_X12_businessFrom rfl rfl rfl (by decide +kernel) ⟨Nat.le_of_ble_eq_true rfl, Nat.le_of_ble_eq_true rfl⟩) ⟨fun a U g mk q => by obtain ⟨q0, q1, qP, qK, qD⟩ := q; exact ⟨q0, q1, qP, va_K.moved (u := U) (U := U.calling g mk a) (Vm.Alike.refl U.vm) qK, qD⟩, va_recv hKc hPc (ci := 11) (q0 := 0) rfl rfl, fun U hU hW => ⟨rfl, by rw [hU], by rw [hU]; exact hPc, va_K.moved hW.alike hKc, hDc.weaken (fun _ _ _ _ => trivial)⟩⟩ rfl rfl hl.1 rfl (lv_room (Nat.le_of_ble_eq_true rfl)) dL_law_533 ⟨Nat.le_of_ble_eq_true rfl, Nat.le_of_ble_eq_true rfl⟩) hS (fun q _ h => hFc q h) hFc (fun r_104 u t H1 locs ht hvm hw hB hz1 hk1 hS => ?_)
      obtain ⟨hP1, hK1, hD1⟩ := hB
      rw [ht] at hP1
      have hK1 := va_K.moved hvm.symm hK1
      obtain ⟨hP, hD⟩ := va_join (wr := [(rd, .inr (6, fs_rd)), (tp, .inr (9, fs_tp)), (ba, .inl (cB, 900, .inl fb)), (ra, .inr (5, [.long u0, .long w0])), (dr, .inr (3, fs_dr)), (hd, .inr (4, fs_hd)), (mb, .inl (cM, 900, .inl fM))]) (w1 := []) hP hD [6] [0, 1, 2, 3, 4, 5, 7] rfl rfl (by decide) (by decide) hk1 hFc hP1 hD1
      generalize H1 = H at hP hS ⊢
      have hP : va_P (dC, dI) vwCl [(rd, .inr (6, fs_rd)), (tp, .inr (9, fs_tp)), (ba, .inl (cB, 900, .inl fb)), (ra, .inr (5, [.long u0, .long w0])), (dr, .inr (3, fs_dr)), (hd, .inr (4, fs_hd)), (mb, .inl (cM, 900, .inl fM))] H := hP
      have hD : va_D A [(rd, .inr (6, fs_rd)), (tp, .inr (9, fs_tp)), (ba, .inl (cB, 900, .inl fb)), (ra, .inr (5, [.long u0, .long w0])), (dr, .inr (3, fs_dr)), (hd, .inr (4, fs_hd)), (mb, .inl (cM, 900, .inl fM))] := hD
      have er_104 : r_104 = f_X12_businessFrom (xs (1 : Int32).toNatClampNeg) (xs (2 : Int32).toNatClampNeg) := hw
      refine lv_icmp_eq (tgt := 1893) hx hb dL_law_536 (by decide) (fun c_105 => ?_) (fun c_105 => ?_)
      · refine lv_iinc (v := 6) (lv' := [(4, .int 6), (3, .ref lo), (2, .ref mm), (1, .ref x), (0, .ref b)]) hx hb dL_law_1893 hl (k := 0) rfl (by decide) (by decide) rfl (fun ls hl => ?_)
        refine lv_goto (tgt := 23) hx hb dL_law_1896 (by decide) ?_
        refine lv_iload hx hb dL_law_23 (lv_at hl 0 rfl) ?_
        refine lv_aload_n hx hb dL_law_25 rfl (lv_at hl 4 rfl) ?_
        refine va_slen hx hb hX hbl hbA hS dL_law_26 ?_
        refine lv_topi (fun z_107 ez_107 => ?_)
        obtain rfl : z_107 = 6 := ez_107.trans rfl
        refine lv_bipush (v := 6) hx hb dL_law_27 (by decide) ?_
        refine lv_isub hx hb dL_law_29 ?_
        refine lv_topi (fun z_108 ez_108 => ?_)
        obtain rfl : z_108 = 0 := ez_108.trans (by decide)
        refine lv_icmp_gt (tgt := 1899) hx hb dL_law_30 (by decide) (fun c_109 => ?_) (fun c_109 => ?_)
        · refine lv_iconst (v := 1) hx hb dL_law_1899 (by decide) ?_
          refine va_forget (fun q hq => by have h9 := hS.2.2 q hq; rw [← hAe] at h9; exact h9) ?_
          refine W.widen (k := 600002) (n := 7302232) (Nat.le_of_ble_eq_true rfl) (Nat.le_of_ble_eq_true rfl) ?_
          exact lw_ret hd0 hx hb hr hlocks dL_law_1900
        · exact absurd (by decide) c_109
      · exact absurd (er_101.trans ((q_businessFrom _ _).trans er_104.symm)) c_105
    by_cases c_110 : ((xs (0 : Int32).toNatClampNeg) &&& 63) = 9
    · refine lv_tableIn (tgt := 541) hx hb dL_law_40 (by rw [c_110]; decide) (by rw [c_110]; decide) (by rw [c_110]; rfl) (by decide) ?_
      refine lv_aload_n hx hb dL_law_541 rfl (lv_at hl 3 rfl) ?_
      refine lv_aload_n hx hb dL_law_542 rfl (lv_at hl 4 rfl) ?_
      refine lv_iload hx hb dL_law_543 (lv_at hl 0 rfl) ?_
      refine lv_iconst (v := 1) hx hb dL_law_545 (by decide) ?_
      refine lv_iadd hx hb dL_law_546 ?_
      refine lv_topi (fun z_111 ez_111 => ?_)
      obtain rfl : z_111 = 1 := ez_111.trans (by decide)
      refine va_sld hx hb hX hbl hbA hS (vp_in_nI (n := 1) (by decide) (by decide)) dL_law_547 ?_
      refine lv_aload_n hx hb dL_law_548 rfl (lv_at hl 4 rfl) ?_
      refine lv_iload hx hb dL_law_549 (lv_at hl 0 rfl) ?_
      refine lv_iconst (v := 2) hx hb dL_law_551 (by decide) ?_
      refine lv_iadd hx hb dL_law_552 ?_
      refine lv_topi (fun z_112 ez_112 => ?_)
      obtain rfl : z_112 = 2 := ez_112.trans (by decide)
      refine va_sld hx hb hX hbl hbA hS (vp_in_nI (n := 2) (by decide) (by decide)) dL_law_553 ?_
      refine lv_aload_n hx hb dL_law_554 rfl (lv_at hl 4 rfl) ?_
      refine lv_iload hx hb dL_law_555 (lv_at hl 0 rfl) ?_
      refine lv_iconst (v := 3) hx hb dL_law_557 (by decide) ?_
      refine lv_iadd hx hb dL_law_558 ?_
      refine lv_topi (fun z_113 ez_113 => ?_)
      obtain rfl : z_113 = 3 := ez_113.trans (by decide)
      refine va_sld hx hb hX hbl hbA hS (vp_in_nI (n := 3) (by decide) (by decide)) dL_law_559 ?_
      refine lv_aload_n hx hb dL_law_560 rfl (lv_at hl 4 rfl) ?_
      refine lv_iload hx hb dL_law_561 (lv_at hl 0 rfl) ?_
      refine lv_iconst (v := 4) hx hb dL_law_563 (by decide) ?_
      refine lv_iadd hx hb dL_law_564 ?_
      refine lv_topi (fun z_114 ez_114 => ?_)
      obtain rfl : z_114 = 4 := ez_114.trans (by decide)
      refine va_sld hx hb hX hbl hbA hS (vp_in_nI (n := 4) (by decide) (by decide)) dL_law_565 ?_
      refine lv_if_eq (tgt := 573) hx hb dL_law_566 (by decide) (fun c_115 => ?_) (fun c_115 => ?_)
      · refine lv_iconst (v := 0) hx hb dL_law_573 (by decide) ?_
        have hPc := hP.sub (ws' := [(x, .inr (10, fs_x)), (ra, .inr (5, [.long u0, .long w0]))]) [0, 4] rfl
        have hDc := hD.sub (ws' := [(x, .inr (10, fs_x)), (ra, .inr (5, [.long u0, .long w0]))]) [0, 4] (by decide) rfl
        have hKc := hK.sub (tys' := []) [] rfl
        have hFc := va_free (wc := [(x, .inr (10, fs_x)), (ra, .inr (5, [.long u0, .long w0]))]) hD hS hA [0, 4] rfl
        refine va_calll (va_runV (As := [.int (xs (1 : Int32).toNatClampNeg), .int (xs (2 : Int32).toNatClampNeg), .int (xs (3 : Int32).toNatClampNeg), .int 0]) (rest := []) ⟨hx, hb, hml, hown, hts⟩ (k_X11_counted l dC dI H.size x fs_x ra u0 w0 (xs (1 : Int32).toNatClampNeg) (xs (2 : Int32).toNatClampNeg) (xs (3 : Int32).toNatClampNeg) 0 hn_x hf_x_3) (cwV 4 hts gL0_X11_counted rfl rfl rfl (by decide +kernel) ⟨Nat.le_of_ble_eq_true rfl, Nat.le_of_ble_eq_true rfl⟩) ⟨fun a U g mk q => by obtain ⟨q0, q1, qP, qK, qD⟩ := q; exact ⟨q0, q1, qP, va_K.moved (u := U) (U := U.calling g mk a) (Vm.Alike.refl U.vm) qK, qD⟩, va_recv hKc hPc (ci := 10) (q0 := 0) rfl rfl, fun U hU hW => ⟨rfl, by rw [hU], by rw [hU]; exact hPc, va_K.moved hW.alike hKc, hDc.weaken (fun _ _ _ _ => trivial)⟩⟩ rfl rfl hl.1 rfl (lv_room (Nat.le_of_ble_eq_true rfl)) dL_law_574 ⟨Nat.le_of_ble_eq_true rfl, Nat.le_of_ble_eq_true rfl⟩) hS (fun q _ h => hFc q h) hFc (fun r_116 u t H1 locs ht hvm hw hB hz1 hk1 hS => ?_)
        obtain ⟨hP1, hK1, hD1⟩ := hB
        rw [ht] at hP1
        have hK1 := va_K.moved hvm.symm hK1
        obtain ⟨hP, hD⟩ := va_join (wr := [(rd, .inr (6, fs_rd)), (tp, .inr (9, fs_tp)), (ba, .inl (cB, 900, .inl fb)), (li, .inr (3, fs_li)), (ho, .inr (4, fs_ho)), (dr, .inr (3, fs_dr)), (hd, .inr (4, fs_hd)), (mm, .inr (11, fs_mm)), (mb, .inl (cM, 900, .inl fM))]) (w1 := []) hP hD [0, 4] [1, 2, 3, 5, 6, 7, 8, 9, 10] rfl rfl (by decide) (by decide) hk1 hFc hP1 hD1
        generalize H1 = H at hP hS ⊢
        have hP : va_P (dC, dI) vwCl [(rd, .inr (6, fs_rd)), (tp, .inr (9, fs_tp)), (ba, .inl (cB, 900, .inl fb)), (li, .inr (3, fs_li)), (ho, .inr (4, fs_ho)), (dr, .inr (3, fs_dr)), (hd, .inr (4, fs_hd)), (mm, .inr (11, fs_mm)), (mb, .inl (cM, 900, .inl fM))] H := hP
        have hD : va_D A [(rd, .inr (6, fs_rd)), (tp, .inr (9, fs_tp)), (ba, .inl (cB, 900, .inl fb)), (li, .inr (3, fs_li)), (ho, .inr (4, fs_ho)), (dr, .inr (3, fs_dr)), (hd, .inr (4, fs_hd)), (mm, .inr (11, fs_mm)), (mb, .inl (cM, 900, .inl fM))] := hD
        have er_116 : r_116 = f_X11_counted u0 w0 (xs (1 : Int32).toNatClampNeg) (xs (2 : Int32).toNatClampNeg) (xs (3 : Int32).toNatClampNeg) 0 := hw
        refine lv_aload_n hx hb dL_law_577 rfl (lv_at hl 2 rfl) ?_
        refine lv_aload_n hx hb dL_law_578 rfl (lv_at hl 4 rfl) ?_
        refine lv_iload hx hb dL_law_579 (lv_at hl 0 rfl) ?_
        refine lv_iconst (v := 1) hx hb dL_law_581 (by decide) ?_
        refine lv_iadd hx hb dL_law_582 ?_
        refine lv_topi (fun z_117 ez_117 => ?_)
        obtain rfl : z_117 = 1 := ez_117.trans (by decide)
        refine va_sld hx hb hX hbl hbA hS (vp_in_nI (n := 1) (by decide) (by decide)) dL_law_583 ?_
        refine lv_aload_n hx hb dL_law_584 rfl (lv_at hl 4 rfl) ?_
        refine lv_iload hx hb dL_law_585 (lv_at hl 0 rfl) ?_
        refine lv_iconst (v := 2) hx hb dL_law_587 (by decide) ?_
        refine lv_iadd hx hb dL_law_588 ?_
        refine lv_topi (fun z_118 ez_118 => ?_)
        obtain rfl : z_118 = 2 := ez_118.trans (by decide)
        refine va_sld hx hb hX hbl hbA hS (vp_in_nI (n := 2) (by decide) (by decide)) dL_law_589 ?_
        refine lv_aload_n hx hb dL_law_590 rfl (lv_at hl 4 rfl) ?_
        refine lv_iload hx hb dL_law_591 (lv_at hl 0 rfl) ?_
        refine lv_iconst (v := 3) hx hb dL_law_593 (by decide) ?_
        refine lv_iadd hx hb dL_law_594 ?_
        refine lv_topi (fun z_119 ez_119 => ?_)
        obtain rfl : z_119 = 3 := ez_119.trans (by decide)
        refine va_sld hx hb hX hbl hbA hS (vp_in_nI (n := 3) (by decide) (by decide)) dL_law_595 ?_
        refine lv_aload_n hx hb dL_law_596 rfl (lv_at hl 4 rfl) ?_
        refine lv_iload hx hb dL_law_597 (lv_at hl 0 rfl) ?_
        refine lv_iconst (v := 4) hx hb dL_law_599 (by decide) ?_
        refine lv_iadd hx hb dL_law_600 ?_
        refine lv_topi (fun z_120 ez_120 => ?_)
        obtain rfl : z_120 = 4 := ez_120.trans (by decide)
        refine va_sld hx hb hX hbl hbA hS (vp_in_nI (n := 4) (by decide) (by decide)) dL_law_601 ?_
        refine lv_if_eq (tgt := 609) hx hb dL_law_602 (by decide) (fun c_121 => ?_) (fun c_121 => ?_)
        · refine lv_iconst (v := 0) hx hb dL_law_609 (by decide) ?_
          have hPc := hP.sub (ws' := [(mm, .inr (11, fs_mm))]) [7] rfl
          have hDc := hD.sub (ws' := [(mm, .inr (11, fs_mm))]) [7] (by decide) rfl
          have hKc := hK.sub (tys' := []) [] rfl
          have hFc := va_free (wc := [(mm, .inr (11, fs_mm))]) hD hS hA [7] rfl
          refine va_calll (va_runV (As := [.int (xs (1 : Int32).toNatClampNeg), .int (xs (2 : Int32).toNatClampNeg), .int (xs (3 : Int32).toNatClampNeg), .int 0]) (rest := [.long r_116]) ⟨hx, hb, hml, hown, hts⟩ (k_X12_counted l dC dI H.size mm fs_mm (xs (1 : Int32).toNatClampNeg) (xs (2 : Int32).toNatClampNeg) (xs (3 : Int32).toNatClampNeg) 0 hn_mm) (cwV 4 hts gL0_X12_counted rfl rfl rfl (by decide +kernel) ⟨Nat.le_of_ble_eq_true rfl, Nat.le_of_ble_eq_true rfl⟩) ⟨fun a U g mk q => by obtain ⟨q0, q1, qP, qK, qD⟩ := q; exact ⟨q0, q1, qP, va_K.moved (u := U) (U := U.calling g mk a) (Vm.Alike.refl U.vm) qK, qD⟩, va_recv hKc hPc (ci := 11) (q0 := 0) rfl rfl, fun U hU hW => ⟨rfl, by rw [hU], by rw [hU]; exact hPc, va_K.moved hW.alike hKc, hDc.weaken (fun _ _ _ _ => trivial)⟩⟩ rfl rfl hl.1 rfl (lv_room (Nat.le_of_ble_eq_true rfl)) dL_law_610 ⟨Nat.le_of_ble_eq_true rfl, Nat.le_of_ble_eq_true rfl⟩) hS (fun q _ h => hFc q h) hFc (fun r_122 u t H1 locs ht hvm hw hB hz1 hk1 hS => ?_)
          obtain ⟨hP1, hK1, hD1⟩ := hB
          rw [ht] at hP1
          have hK1 := va_K.moved hvm.symm hK1
          obtain ⟨hP, hD⟩ := va_join (wr := [(rd, .inr (6, fs_rd)), (tp, .inr (9, fs_tp)), (ba, .inl (cB, 900, .inl fb)), (li, .inr (3, fs_li)), (ho, .inr (4, fs_ho)), (dr, .inr (3, fs_dr)), (hd, .inr (4, fs_hd)), (mb, .inl (cM, 900, .inl fM))]) (w1 := []) hP hD [7] [0, 1, 2, 3, 4, 5, 6, 8] rfl rfl (by decide) (by decide) hk1 hFc hP1 hD1
          generalize H1 = H at hP hS ⊢
          have hP : va_P (dC, dI) vwCl [(rd, .inr (6, fs_rd)), (tp, .inr (9, fs_tp)), (ba, .inl (cB, 900, .inl fb)), (li, .inr (3, fs_li)), (ho, .inr (4, fs_ho)), (dr, .inr (3, fs_dr)), (hd, .inr (4, fs_hd)), (mb, .inl (cM, 900, .inl fM))] H := hP
          have hD : va_D A [(rd, .inr (6, fs_rd)), (tp, .inr (9, fs_tp)), (ba, .inl (cB, 900, .inl fb)), (li, .inr (3, fs_li)), (ho, .inr (4, fs_ho)), (dr, .inr (3, fs_dr)), (hd, .inr (4, fs_hd)), (mb, .inl (cM, 900, .inl fM))] := hD
          have er_122 : r_122 = f_X12_counted (xs (1 : Int32).toNatClampNeg) (xs (2 : Int32).toNatClampNeg) (xs (3 : Int32).toNatClampNeg) 0 := hw
          refine W.lcmp hx hb dL_law_613 ?_
          refine lv_if_eq (tgt := 1893) hx hb dL_law_614 (by decide) (fun c_123 => ?_) (fun c_123 => ?_)
          · refine lv_iinc (v := 6) (lv' := [(4, .int 6), (3, .ref lo), (2, .ref mm), (1, .ref x), (0, .ref b)]) hx hb dL_law_1893 hl (k := 0) rfl (by decide) (by decide) rfl (fun ls hl => ?_)
            refine lv_goto (tgt := 23) hx hb dL_law_1896 (by decide) ?_
            refine lv_iload hx hb dL_law_23 (lv_at hl 0 rfl) ?_
            refine lv_aload_n hx hb dL_law_25 rfl (lv_at hl 4 rfl) ?_
            refine va_slen hx hb hX hbl hbA hS dL_law_26 ?_
            refine lv_topi (fun z_125 ez_125 => ?_)
            obtain rfl : z_125 = 6 := ez_125.trans rfl
            refine lv_bipush (v := 6) hx hb dL_law_27 (by decide) ?_
            refine lv_isub hx hb dL_law_29 ?_
            refine lv_topi (fun z_126 ez_126 => ?_)
            obtain rfl : z_126 = 0 := ez_126.trans (by decide)
            refine lv_icmp_gt (tgt := 1899) hx hb dL_law_30 (by decide) (fun c_127 => ?_) (fun c_127 => ?_)
            · refine lv_iconst (v := 1) hx hb dL_law_1899 (by decide) ?_
              refine va_forget (fun q hq => by have h9 := hS.2.2 q hq; rw [← hAe] at h9; exact h9) ?_
              refine W.widen (k := 600002) (n := 7302232) (Nat.le_of_ble_eq_true rfl) (Nat.le_of_ble_eq_true rfl) ?_
              exact lw_ret hd0 hx hb hr hlocks dL_law_1900
            · exact absurd (by decide) c_127
          · exact absurd ((lg_cmp_eq _ _).mpr (er_116.trans ((q_counted _ _ _ _ _ _).trans er_122.symm))) c_123
        · exact absurd c_115 c_121
      · refine lv_iconst (v := 1) hx hb dL_law_569 (by decide) ?_
        refine lv_goto (tgt := 574) hx hb dL_law_570 (by decide) ?_
        have hPc := hP.sub (ws' := [(x, .inr (10, fs_x)), (ra, .inr (5, [.long u0, .long w0]))]) [0, 4] rfl
        have hDc := hD.sub (ws' := [(x, .inr (10, fs_x)), (ra, .inr (5, [.long u0, .long w0]))]) [0, 4] (by decide) rfl
        have hKc := hK.sub (tys' := []) [] rfl
        have hFc := va_free (wc := [(x, .inr (10, fs_x)), (ra, .inr (5, [.long u0, .long w0]))]) hD hS hA [0, 4] rfl
        refine va_calll (va_runV (As := [.int (xs (1 : Int32).toNatClampNeg), .int (xs (2 : Int32).toNatClampNeg), .int (xs (3 : Int32).toNatClampNeg), .int 1]) (rest := []) ⟨hx, hb, hml, hown, hts⟩ (k_X11_counted l dC dI H.size x fs_x ra u0 w0 (xs (1 : Int32).toNatClampNeg) (xs (2 : Int32).toNatClampNeg) (xs (3 : Int32).toNatClampNeg) 1 hn_x hf_x_3) (cwV 4 hts gL0_X11_counted rfl rfl rfl (by decide +kernel) ⟨Nat.le_of_ble_eq_true rfl, Nat.le_of_ble_eq_true rfl⟩) ⟨fun a U g mk q => by obtain ⟨q0, q1, qP, qK, qD⟩ := q; exact ⟨q0, q1, qP, va_K.moved (u := U) (U := U.calling g mk a) (Vm.Alike.refl U.vm) qK, qD⟩, va_recv hKc hPc (ci := 10) (q0 := 0) rfl rfl, fun U hU hW => ⟨rfl, by rw [hU], by rw [hU]; exact hPc, va_K.moved hW.alike hKc, hDc.weaken (fun _ _ _ _ => trivial)⟩⟩ rfl rfl hl.1 rfl (lv_room (Nat.le_of_ble_eq_true rfl)) dL_law_574 ⟨Nat.le_of_ble_eq_true rfl, Nat.le_of_ble_eq_true rfl⟩) hS (fun q _ h => hFc q h) hFc (fun r_128 u t H1 locs ht hvm hw hB hz1 hk1 hS => ?_)
        obtain ⟨hP1, hK1, hD1⟩ := hB
        rw [ht] at hP1
        have hK1 := va_K.moved hvm.symm hK1
        obtain ⟨hP, hD⟩ := va_join (wr := [(rd, .inr (6, fs_rd)), (tp, .inr (9, fs_tp)), (ba, .inl (cB, 900, .inl fb)), (li, .inr (3, fs_li)), (ho, .inr (4, fs_ho)), (dr, .inr (3, fs_dr)), (hd, .inr (4, fs_hd)), (mm, .inr (11, fs_mm)), (mb, .inl (cM, 900, .inl fM))]) (w1 := []) hP hD [0, 4] [1, 2, 3, 5, 6, 7, 8, 9, 10] rfl rfl (by decide) (by decide) hk1 hFc hP1 hD1
        generalize H1 = H at hP hS ⊢
        have hP : va_P (dC, dI) vwCl [(rd, .inr (6, fs_rd)), (tp, .inr (9, fs_tp)), (ba, .inl (cB, 900, .inl fb)), (li, .inr (3, fs_li)), (ho, .inr (4, fs_ho)), (dr, .inr (3, fs_dr)), (hd, .inr (4, fs_hd)), (mm, .inr (11, fs_mm)), (mb, .inl (cM, 900, .inl fM))] H := hP
        have hD : va_D A [(rd, .inr (6, fs_rd)), (tp, .inr (9, fs_tp)), (ba, .inl (cB, 900, .inl fb)), (li, .inr (3, fs_li)), (ho, .inr (4, fs_ho)), (dr, .inr (3, fs_dr)), (hd, .inr (4, fs_hd)), (mm, .inr (11, fs_mm)), (mb, .inl (cM, 900, .inl fM))] := hD
        have er_128 : r_128 = f_X11_counted u0 w0 (xs (1 : Int32).toNatClampNeg) (xs (2 : Int32).toNatClampNeg) (xs (3 : Int32).toNatClampNeg) 1 := hw
        refine lv_aload_n hx hb dL_law_577 rfl (lv_at hl 2 rfl) ?_
        refine lv_aload_n hx hb dL_law_578 rfl (lv_at hl 4 rfl) ?_
        refine lv_iload hx hb dL_law_579 (lv_at hl 0 rfl) ?_
        refine lv_iconst (v := 1) hx hb dL_law_581 (by decide) ?_
        refine lv_iadd hx hb dL_law_582 ?_
        refine lv_topi (fun z_129 ez_129 => ?_)
        obtain rfl : z_129 = 1 := ez_129.trans (by decide)
        refine va_sld hx hb hX hbl hbA hS (vp_in_nI (n := 1) (by decide) (by decide)) dL_law_583 ?_
        refine lv_aload_n hx hb dL_law_584 rfl (lv_at hl 4 rfl) ?_
        refine lv_iload hx hb dL_law_585 (lv_at hl 0 rfl) ?_
        refine lv_iconst (v := 2) hx hb dL_law_587 (by decide) ?_
        refine lv_iadd hx hb dL_law_588 ?_
        refine lv_topi (fun z_130 ez_130 => ?_)
        obtain rfl : z_130 = 2 := ez_130.trans (by decide)
        refine va_sld hx hb hX hbl hbA hS (vp_in_nI (n := 2) (by decide) (by decide)) dL_law_589 ?_
        refine lv_aload_n hx hb dL_law_590 rfl (lv_at hl 4 rfl) ?_
        refine lv_iload hx hb dL_law_591 (lv_at hl 0 rfl) ?_
        refine lv_iconst (v := 3) hx hb dL_law_593 (by decide) ?_
        refine lv_iadd hx hb dL_law_594 ?_
        refine lv_topi (fun z_131 ez_131 => ?_)
        obtain rfl : z_131 = 3 := ez_131.trans (by decide)
        refine va_sld hx hb hX hbl hbA hS (vp_in_nI (n := 3) (by decide) (by decide)) dL_law_595 ?_
        refine lv_aload_n hx hb dL_law_596 rfl (lv_at hl 4 rfl) ?_
        refine lv_iload hx hb dL_law_597 (lv_at hl 0 rfl) ?_
        refine lv_iconst (v := 4) hx hb dL_law_599 (by decide) ?_
        refine lv_iadd hx hb dL_law_600 ?_
        refine lv_topi (fun z_132 ez_132 => ?_)
        obtain rfl : z_132 = 4 := ez_132.trans (by decide)
        refine va_sld hx hb hX hbl hbA hS (vp_in_nI (n := 4) (by decide) (by decide)) dL_law_601 ?_
        refine lv_if_eq (tgt := 609) hx hb dL_law_602 (by decide) (fun c_133 => ?_) (fun c_133 => ?_)
        · exact absurd c_133 c_115
        · refine lv_iconst (v := 1) hx hb dL_law_605 (by decide) ?_
          refine lv_goto (tgt := 610) hx hb dL_law_606 (by decide) ?_
          have hPc := hP.sub (ws' := [(mm, .inr (11, fs_mm))]) [7] rfl
          have hDc := hD.sub (ws' := [(mm, .inr (11, fs_mm))]) [7] (by decide) rfl
          have hKc := hK.sub (tys' := []) [] rfl
          have hFc := va_free (wc := [(mm, .inr (11, fs_mm))]) hD hS hA [7] rfl
          refine va_calll (va_runV (As := [.int (xs (1 : Int32).toNatClampNeg), .int (xs (2 : Int32).toNatClampNeg), .int (xs (3 : Int32).toNatClampNeg), .int 1]) (rest := [.long r_128]) ⟨hx, hb, hml, hown, hts⟩ (k_X12_counted l dC dI H.size mm fs_mm (xs (1 : Int32).toNatClampNeg) (xs (2 : Int32).toNatClampNeg) (xs (3 : Int32).toNatClampNeg) 1 hn_mm) (cwV 4 hts gL0_X12_counted rfl rfl rfl (by decide +kernel) ⟨Nat.le_of_ble_eq_true rfl, Nat.le_of_ble_eq_true rfl⟩) ⟨fun a U g mk q => by obtain ⟨q0, q1, qP, qK, qD⟩ := q; exact ⟨q0, q1, qP, va_K.moved (u := U) (U := U.calling g mk a) (Vm.Alike.refl U.vm) qK, qD⟩, va_recv hKc hPc (ci := 11) (q0 := 0) rfl rfl, fun U hU hW => ⟨rfl, by rw [hU], by rw [hU]; exact hPc, va_K.moved hW.alike hKc, hDc.weaken (fun _ _ _ _ => trivial)⟩⟩ rfl rfl hl.1 rfl (lv_room (Nat.le_of_ble_eq_true rfl)) dL_law_610 ⟨Nat.le_of_ble_eq_true rfl, Nat.le_of_ble_eq_true rfl⟩) hS (fun q _ h => hFc q h) hFc (fun r_134 u t H1 locs ht hvm hw hB hz1 hk1 hS => ?_)
          obtain ⟨hP1, hK1, hD1⟩ := hB
          rw [ht] at hP1
          have hK1 := va_K.moved hvm.symm hK1
          obtain ⟨hP, hD⟩ := va_join (wr := [(rd, .inr (6, fs_rd)), (tp, .inr (9, fs_tp)), (ba, .inl (cB, 900, .inl fb)), (li, .inr (3, fs_li)), (ho, .inr (4, fs_ho)), (dr, .inr (3, fs_dr)), (hd, .inr (4, fs_hd)), (mb, .inl (cM, 900, .inl fM))]) (w1 := []) hP hD [7] [0, 1, 2, 3, 4, 5, 6, 8] rfl rfl (by decide) (by decide) hk1 hFc hP1 hD1
          generalize H1 = H at hP hS ⊢
          have hP : va_P (dC, dI) vwCl [(rd, .inr (6, fs_rd)), (tp, .inr (9, fs_tp)), (ba, .inl (cB, 900, .inl fb)), (li, .inr (3, fs_li)), (ho, .inr (4, fs_ho)), (dr, .inr (3, fs_dr)), (hd, .inr (4, fs_hd)), (mb, .inl (cM, 900, .inl fM))] H := hP
          have hD : va_D A [(rd, .inr (6, fs_rd)), (tp, .inr (9, fs_tp)), (ba, .inl (cB, 900, .inl fb)), (li, .inr (3, fs_li)), (ho, .inr (4, fs_ho)), (dr, .inr (3, fs_dr)), (hd, .inr (4, fs_hd)), (mb, .inl (cM, 900, .inl fM))] := hD
          have er_134 : r_134 = f_X12_counted (xs (1 : Int32).toNatClampNeg) (xs (2 : Int32).toNatClampNeg) (xs (3 : Int32).toNatClampNeg) 1 := hw
          refine W.lcmp hx hb dL_law_613 ?_
          refine lv_if_eq (tgt := 1893) hx hb dL_law_614 (by decide) (fun c_135 => ?_) (fun c_135 => ?_)
          · refine lv_iinc (v := 6) (lv' := [(4, .int 6), (3, .ref lo), (2, .ref mm), (1, .ref x), (0, .ref b)]) hx hb dL_law_1893 hl (k := 0) rfl (by decide) (by decide) rfl (fun ls hl => ?_)
            refine lv_goto (tgt := 23) hx hb dL_law_1896 (by decide) ?_
            refine lv_iload hx hb dL_law_23 (lv_at hl 0 rfl) ?_
            refine lv_aload_n hx hb dL_law_25 rfl (lv_at hl 4 rfl) ?_
            refine va_slen hx hb hX hbl hbA hS dL_law_26 ?_
            refine lv_topi (fun z_137 ez_137 => ?_)
            obtain rfl : z_137 = 6 := ez_137.trans rfl
            refine lv_bipush (v := 6) hx hb dL_law_27 (by decide) ?_
            refine lv_isub hx hb dL_law_29 ?_
            refine lv_topi (fun z_138 ez_138 => ?_)
            obtain rfl : z_138 = 0 := ez_138.trans (by decide)
            refine lv_icmp_gt (tgt := 1899) hx hb dL_law_30 (by decide) (fun c_139 => ?_) (fun c_139 => ?_)
            · refine lv_iconst (v := 1) hx hb dL_law_1899 (by decide) ?_
              refine va_forget (fun q hq => by have h9 := hS.2.2 q hq; rw [← hAe] at h9; exact h9) ?_
              refine W.widen (k := 600002) (n := 7302232) (Nat.le_of_ble_eq_true rfl) (Nat.le_of_ble_eq_true rfl) ?_
              exact lw_ret hd0 hx hb hr hlocks dL_law_1900
            · exact absurd (by decide) c_139
          · exact absurd ((lg_cmp_eq _ _).mpr (er_128.trans ((q_counted _ _ _ _ _ _).trans er_134.symm))) c_135
    by_cases c_140 : ((xs (0 : Int32).toNatClampNeg) &&& 63) = 10
    · refine lv_tableIn (tgt := 619) hx hb dL_law_40 (by rw [c_140]; decide) (by rw [c_140]; decide) (by rw [c_140]; rfl) (by decide) ?_
      refine lv_aload_n hx hb dL_law_619 rfl (lv_at hl 3 rfl) ?_
      refine lv_aload_n hx hb dL_law_620 rfl (lv_at hl 4 rfl) ?_
      refine lv_iload hx hb dL_law_621 (lv_at hl 0 rfl) ?_
      refine lv_iconst (v := 1) hx hb dL_law_623 (by decide) ?_
      refine lv_iadd hx hb dL_law_624 ?_
      refine lv_topi (fun z_141 ez_141 => ?_)
      obtain rfl : z_141 = 1 := ez_141.trans (by decide)
      refine va_sld hx hb hX hbl hbA hS (vp_in_nI (n := 1) (by decide) (by decide)) dL_law_625 ?_
      refine lv_aload_n hx hb dL_law_626 rfl (lv_at hl 4 rfl) ?_
      refine lv_iload hx hb dL_law_627 (lv_at hl 0 rfl) ?_
      refine lv_iconst (v := 2) hx hb dL_law_629 (by decide) ?_
      refine lv_iadd hx hb dL_law_630 ?_
      refine lv_topi (fun z_142 ez_142 => ?_)
      obtain rfl : z_142 = 2 := ez_142.trans (by decide)
      refine va_sld hx hb hX hbl hbA hS (vp_in_nI (n := 2) (by decide) (by decide)) dL_law_631 ?_
      have hPc := hP.sub (ws' := [(x, .inr (10, fs_x)), (rd, .inr (6, fs_rd)), (tp, .inr (9, fs_tp)), (ra, .inr (5, [.long u0, .long w0])), (li, .inr (3, fs_li)), (ho, .inr (4, fs_ho)), (dr, .inr (3, fs_dr)), (hd, .inr (4, fs_hd))]) [0, 1, 2, 4, 5, 6, 7, 8] rfl
      have hDc := hD.sub (ws' := [(x, .inr (10, fs_x)), (rd, .inr (6, fs_rd)), (tp, .inr (9, fs_tp)), (ra, .inr (5, [.long u0, .long w0])), (li, .inr (3, fs_li)), (ho, .inr (4, fs_ho)), (dr, .inr (3, fs_dr)), (hd, .inr (4, fs_hd))]) [0, 1, 2, 4, 5, 6, 7, 8] (by decide) rfl
      have hKc := hK.sub (tys' := []) [] rfl
      have hFc := va_free (wc := [(x, .inr (10, fs_x)), (rd, .inr (6, fs_rd)), (tp, .inr (9, fs_tp)), (ra, .inr (5, [.long u0, .long w0])), (li, .inr (3, fs_li)), (ho, .inr (4, fs_ho)), (dr, .inr (3, fs_dr)), (hd, .inr (4, fs_hd))]) hD hS hA [0, 1, 2, 4, 5, 6, 7, 8] rfl
      refine va_calli (va_runV (As := [.int (xs (1 : Int32).toNatClampNeg), .int (xs (2 : Int32).toNatClampNeg)]) (rest := []) ⟨hx, hb, hml, hown, hts⟩ (k_X11_bond l dC dI H.size x fs_x rd fs_rd tp fs_tp ra [.long u0, .long w0] li fs_li ho fs_ho dr fs_dr hd fs_hd (xs (1 : Int32).toNatClampNeg) (xs (2 : Int32).toNatClampNeg) hn_x hf_x_0 hf_x_3 hf_x_8 hf_x_9 hf_x_10 hn_rd hf_rd_0 hn_tp rfl hn_li hf_li_2 hn_ho hn_dr hf_dr_2 hn_hd) (cwV 2 hts gL0_X11_bond rfl rfl rfl (by decide +kernel) ⟨Nat.le_of_ble_eq_true rfl, Nat.le_of_ble_eq_true rfl⟩) ⟨fun a U g mk q => by obtain ⟨q0, q1, qP, qK, qD⟩ := q; exact ⟨q0, q1, qP, va_K.moved (u := U) (U := U.calling g mk a) (Vm.Alike.refl U.vm) qK, qD⟩, va_recv hKc hPc (ci := 10) (q0 := 0) rfl rfl, fun U hU hW => ⟨rfl, by rw [hU], by rw [hU]; exact hPc, va_K.moved hW.alike hKc, hDc.weaken (fun _ _ _ _ => trivial)⟩⟩ rfl rfl hl.1 rfl (lv_room (Nat.le_of_ble_eq_true rfl)) dL_law_632 ⟨Nat.le_of_ble_eq_true rfl, Nat.le_of_ble_eq_true rfl⟩) hS (fun q _ h => hFc q h) hFc (fun r_143 u t H1 locs ht hvm hw hB hz1 hk1 hS => ?_)
      obtain ⟨hP1, hK1, hD1⟩ := hB
      rw [ht] at hP1
      have hK1 := va_K.moved hvm.symm hK1
      obtain ⟨hP, hD⟩ := va_join (wr := [(ba, .inl (cB, 900, .inl fb)), (mm, .inr (11, fs_mm)), (mb, .inl (cM, 900, .inl fM))]) (w1 := []) hP hD [0, 1, 2, 4, 5, 6, 7, 8] [3, 9, 10] rfl rfl (by decide) (by decide) hk1 hFc hP1 hD1
      generalize H1 = H at hP hS ⊢
      have hP : va_P (dC, dI) vwCl [(ba, .inl (cB, 900, .inl fb)), (mm, .inr (11, fs_mm)), (mb, .inl (cM, 900, .inl fM))] H := hP
      have hD : va_D A [(ba, .inl (cB, 900, .inl fb)), (mm, .inr (11, fs_mm)), (mb, .inl (cM, 900, .inl fM))] := hD
      have er_143 : r_143 = (-1) := hw
      subst er_143
      refine lv_aload_n hx hb dL_law_635 rfl (lv_at hl 2 rfl) ?_
      refine lv_aload_n hx hb dL_law_636 rfl (lv_at hl 4 rfl) ?_
      refine lv_iload hx hb dL_law_637 (lv_at hl 0 rfl) ?_
      refine lv_iconst (v := 1) hx hb dL_law_639 (by decide) ?_
      refine lv_iadd hx hb dL_law_640 ?_
      refine lv_topi (fun z_144 ez_144 => ?_)
      obtain rfl : z_144 = 1 := ez_144.trans (by decide)
      refine va_sld hx hb hX hbl hbA hS (vp_in_nI (n := 1) (by decide) (by decide)) dL_law_641 ?_
      refine lv_aload_n hx hb dL_law_642 rfl (lv_at hl 4 rfl) ?_
      refine lv_iload hx hb dL_law_643 (lv_at hl 0 rfl) ?_
      refine lv_iconst (v := 2) hx hb dL_law_645 (by decide) ?_
      refine lv_iadd hx hb dL_law_646 ?_
      refine lv_topi (fun z_145 ez_145 => ?_)
      obtain rfl : z_145 = 2 := ez_145.trans (by decide)
      refine va_sld hx hb hX hbl hbA hS (vp_in_nI (n := 2) (by decide) (by decide)) dL_law_647 ?_
      have hPc := hP.sub (ws' := [(mm, .inr (11, fs_mm))]) [1] rfl
      have hDc := hD.sub (ws' := [(mm, .inr (11, fs_mm))]) [1] (by decide) rfl
      have hKc := hK.sub (tys' := []) [] rfl
      have hFc := va_free (wc := [(mm, .inr (11, fs_mm))]) hD hS hA [1] rfl
      refine va_calli (va_runV (As := [.int (xs (1 : Int32).toNatClampNeg), .int (xs (2 : Int32).toNatClampNeg)]) (rest := [.int (-1)]) ⟨hx, hb, hml, hown, hts⟩ (k_X12_bond l dC dI H.size mm fs_mm (xs (1 : Int32).toNatClampNeg) (xs (2 : Int32).toNatClampNeg) hn_mm hf_mm_20) (cwV 2 hts gL0_X12_bond rfl rfl rfl (by decide +kernel) ⟨Nat.le_of_ble_eq_true rfl, Nat.le_of_ble_eq_true rfl⟩) ⟨fun a U g mk q => by obtain ⟨q0, q1, qP, qK, qD⟩ := q; exact ⟨q0, q1, qP, va_K.moved (u := U) (U := U.calling g mk a) (Vm.Alike.refl U.vm) qK, qD⟩, va_recv hKc hPc (ci := 11) (q0 := 0) rfl rfl, fun U hU hW => ⟨rfl, by rw [hU], by rw [hU]; exact hPc, va_K.moved hW.alike hKc, hDc.weaken (fun _ _ _ _ => trivial)⟩⟩ rfl rfl hl.1 rfl (lv_room (Nat.le_of_ble_eq_true rfl)) dL_law_648 ⟨Nat.le_of_ble_eq_true rfl, Nat.le_of_ble_eq_true rfl⟩) hS (fun q _ h => hFc q h) hFc (fun r_146 u t H1 locs ht hvm hw hB hz1 hk1 hS => ?_)
      obtain ⟨hP1, hK1, hD1⟩ := hB
      rw [ht] at hP1
      have hK1 := va_K.moved hvm.symm hK1
      obtain ⟨hP, hD⟩ := va_join (wr := [(ba, .inl (cB, 900, .inl fb)), (mb, .inl (cM, 900, .inl fM))]) (w1 := []) hP hD [1] [0, 2] rfl rfl (by decide) (by decide) hk1 hFc hP1 hD1
      generalize H1 = H at hP hS ⊢
      have hP : va_P (dC, dI) vwCl [(ba, .inl (cB, 900, .inl fb)), (mb, .inl (cM, 900, .inl fM))] H := hP
      have hD : va_D A [(ba, .inl (cB, 900, .inl fb)), (mb, .inl (cM, 900, .inl fM))] := hD
      have er_146 : r_146 = (-1) := hw
      subst er_146
      refine lv_icmp_eq (tgt := 1893) hx hb dL_law_651 (by decide) (fun c_147 => ?_) (fun c_147 => ?_)
      · refine lv_iinc (v := 6) (lv' := [(4, .int 6), (3, .ref lo), (2, .ref mm), (1, .ref x), (0, .ref b)]) hx hb dL_law_1893 hl (k := 0) rfl (by decide) (by decide) rfl (fun ls hl => ?_)
        refine lv_goto (tgt := 23) hx hb dL_law_1896 (by decide) ?_
        refine lv_iload hx hb dL_law_23 (lv_at hl 0 rfl) ?_
        refine lv_aload_n hx hb dL_law_25 rfl (lv_at hl 4 rfl) ?_
        refine va_slen hx hb hX hbl hbA hS dL_law_26 ?_
        refine lv_topi (fun z_149 ez_149 => ?_)
        obtain rfl : z_149 = 6 := ez_149.trans rfl
        refine lv_bipush (v := 6) hx hb dL_law_27 (by decide) ?_
        refine lv_isub hx hb dL_law_29 ?_
        refine lv_topi (fun z_150 ez_150 => ?_)
        obtain rfl : z_150 = 0 := ez_150.trans (by decide)
        refine lv_icmp_gt (tgt := 1899) hx hb dL_law_30 (by decide) (fun c_151 => ?_) (fun c_151 => ?_)
        · refine lv_iconst (v := 1) hx hb dL_law_1899 (by decide) ?_
          refine va_forget (fun q hq => by have h9 := hS.2.2 q hq; rw [← hAe] at h9; exact h9) ?_
          refine W.widen (k := 600002) (n := 7302232) (Nat.le_of_ble_eq_true rfl) (Nat.le_of_ble_eq_true rfl) ?_
          exact lw_ret hd0 hx hb hr hlocks dL_law_1900
        · exact absurd (by decide) c_151
      · exact absurd (by decide) c_147
    by_cases c_152 : ((xs (0 : Int32).toNatClampNeg) &&& 63) = 11
    · refine lv_tableIn (tgt := 656) hx hb dL_law_40 (by rw [c_152]; decide) (by rw [c_152]; decide) (by rw [c_152]; rfl) (by decide) ?_
      refine lv_aload_n hx hb dL_law_656 rfl (lv_at hl 3 rfl) ?_
      refine lv_aload_n hx hb dL_law_657 rfl (lv_at hl 4 rfl) ?_
      refine lv_iload hx hb dL_law_658 (lv_at hl 0 rfl) ?_
      refine lv_iconst (v := 1) hx hb dL_law_660 (by decide) ?_
      refine lv_iadd hx hb dL_law_661 ?_
      refine lv_topi (fun z_153 ez_153 => ?_)
      obtain rfl : z_153 = 1 := ez_153.trans (by decide)
      refine va_sld hx hb hX hbl hbA hS (vp_in_nI (n := 1) (by decide) (by decide)) dL_law_662 ?_
      refine lv_aload_n hx hb dL_law_663 rfl (lv_at hl 4 rfl) ?_
      refine lv_iload hx hb dL_law_664 (lv_at hl 0 rfl) ?_
      refine lv_iconst (v := 2) hx hb dL_law_666 (by decide) ?_
      refine lv_iadd hx hb dL_law_667 ?_
      refine lv_topi (fun z_154 ez_154 => ?_)
      obtain rfl : z_154 = 2 := ez_154.trans (by decide)
      refine va_sld hx hb hX hbl hbA hS (vp_in_nI (n := 2) (by decide) (by decide)) dL_law_668 ?_
      have hPc := hP.sub (ws' := [(x, .inr (10, fs_x)), (rd, .inr (6, fs_rd)), (tp, .inr (9, fs_tp)), (ra, .inr (5, [.long u0, .long w0])), (li, .inr (3, fs_li)), (ho, .inr (4, fs_ho)), (dr, .inr (3, fs_dr)), (hd, .inr (4, fs_hd))]) [0, 1, 2, 4, 5, 6, 7, 8] rfl
      have hDc := hD.sub (ws' := [(x, .inr (10, fs_x)), (rd, .inr (6, fs_rd)), (tp, .inr (9, fs_tp)), (ra, .inr (5, [.long u0, .long w0])), (li, .inr (3, fs_li)), (ho, .inr (4, fs_ho)), (dr, .inr (3, fs_dr)), (hd, .inr (4, fs_hd))]) [0, 1, 2, 4, 5, 6, 7, 8] (by decide) rfl
      have hKc := hK.sub (tys' := []) [] rfl
      have hFc := va_free (wc := [(x, .inr (10, fs_x)), (rd, .inr (6, fs_rd)), (tp, .inr (9, fs_tp)), (ra, .inr (5, [.long u0, .long w0])), (li, .inr (3, fs_li)), (ho, .inr (4, fs_ho)), (dr, .inr (3, fs_dr)), (hd, .inr (4, fs_hd))]) hD hS hA [0, 1, 2, 4, 5, 6, 7, 8] rfl
      refine va_calli (va_runV (As := [.int (xs (1 : Int32).toNatClampNeg), .int (xs (2 : Int32).toNatClampNeg)]) (rest := []) ⟨hx, hb, hml, hown, hts⟩ (k_X11_grid l dC dI H.size x fs_x rd fs_rd tp fs_tp ra [.long u0, .long w0] li fs_li ho fs_ho dr fs_dr hd fs_hd (xs (1 : Int32).toNatClampNeg) (xs (2 : Int32).toNatClampNeg) hn_x hf_x_0 hf_x_3 hf_x_8 hf_x_9 hf_x_10 hn_rd hf_rd_0 hn_tp rfl hn_li hf_li_2 hn_ho hn_dr hf_dr_2 hn_hd) (cwV 2 hts gL0_X11_grid rfl rfl rfl (by decide +kernel) ⟨Nat.le_of_ble_eq_true rfl, Nat.le_of_ble_eq_true rfl⟩) ⟨fun a U g mk q => by obtain ⟨q0, q1, qP, qK, qD⟩ := q; exact ⟨q0, q1, qP, va_K.moved (u := U) (U := U.calling g mk a) (Vm.Alike.refl U.vm) qK, qD⟩, va_recv hKc hPc (ci := 10) (q0 := 0) rfl rfl, fun U hU hW => ⟨rfl, by rw [hU], by rw [hU]; exact hPc, va_K.moved hW.alike hKc, hDc.weaken (fun _ _ _ _ => trivial)⟩⟩ rfl rfl hl.1 rfl (lv_room (Nat.le_of_ble_eq_true rfl)) dL_law_669 ⟨Nat.le_of_ble_eq_true rfl, Nat.le_of_ble_eq_true rfl⟩) hS (fun q _ h => hFc q h) hFc (fun r_155 u t H1 locs ht hvm hw hB hz1 hk1 hS => ?_)
      obtain ⟨hP1, hK1, hD1⟩ := hB
      rw [ht] at hP1
      have hK1 := va_K.moved hvm.symm hK1
      obtain ⟨hP, hD⟩ := va_join (wr := [(ba, .inl (cB, 900, .inl fb)), (mm, .inr (11, fs_mm)), (mb, .inl (cM, 900, .inl fM))]) (w1 := []) hP hD [0, 1, 2, 4, 5, 6, 7, 8] [3, 9, 10] rfl rfl (by decide) (by decide) hk1 hFc hP1 hD1
      generalize H1 = H at hP hS ⊢
      have hP : va_P (dC, dI) vwCl [(ba, .inl (cB, 900, .inl fb)), (mm, .inr (11, fs_mm)), (mb, .inl (cM, 900, .inl fM))] H := hP
      have hD : va_D A [(ba, .inl (cB, 900, .inl fb)), (mm, .inr (11, fs_mm)), (mb, .inl (cM, 900, .inl fM))] := hD
      have er_155 : r_155 = (-1) := hw
      subst er_155
      refine lv_aload_n hx hb dL_law_672 rfl (lv_at hl 2 rfl) ?_
      refine lv_aload_n hx hb dL_law_673 rfl (lv_at hl 4 rfl) ?_
      refine lv_iload hx hb dL_law_674 (lv_at hl 0 rfl) ?_
      refine lv_iconst (v := 1) hx hb dL_law_676 (by decide) ?_
      refine lv_iadd hx hb dL_law_677 ?_
      refine lv_topi (fun z_156 ez_156 => ?_)
      obtain rfl : z_156 = 1 := ez_156.trans (by decide)
      refine va_sld hx hb hX hbl hbA hS (vp_in_nI (n := 1) (by decide) (by decide)) dL_law_678 ?_
      refine lv_aload_n hx hb dL_law_679 rfl (lv_at hl 4 rfl) ?_
      refine lv_iload hx hb dL_law_680 (lv_at hl 0 rfl) ?_
      refine lv_iconst (v := 2) hx hb dL_law_682 (by decide) ?_
      refine lv_iadd hx hb dL_law_683 ?_
      refine lv_topi (fun z_157 ez_157 => ?_)
      obtain rfl : z_157 = 2 := ez_157.trans (by decide)
      refine va_sld hx hb hX hbl hbA hS (vp_in_nI (n := 2) (by decide) (by decide)) dL_law_684 ?_
      have hPc := hP.sub (ws' := [(mm, .inr (11, fs_mm))]) [1] rfl
      have hDc := hD.sub (ws' := [(mm, .inr (11, fs_mm))]) [1] (by decide) rfl
      have hKc := hK.sub (tys' := []) [] rfl
      have hFc := va_free (wc := [(mm, .inr (11, fs_mm))]) hD hS hA [1] rfl
      refine va_calli (va_runV (As := [.int (xs (1 : Int32).toNatClampNeg), .int (xs (2 : Int32).toNatClampNeg)]) (rest := [.int (-1)]) ⟨hx, hb, hml, hown, hts⟩ (k_X12_grid l dC dI H.size mm fs_mm (xs (1 : Int32).toNatClampNeg) (xs (2 : Int32).toNatClampNeg) hn_mm hf_mm_20) (cwV 2 hts gL0_X12_grid rfl rfl rfl (by decide +kernel) ⟨Nat.le_of_ble_eq_true rfl, Nat.le_of_ble_eq_true rfl⟩) ⟨fun a U g mk q => by obtain ⟨q0, q1, qP, qK, qD⟩ := q; exact ⟨q0, q1, qP, va_K.moved (u := U) (U := U.calling g mk a) (Vm.Alike.refl U.vm) qK, qD⟩, va_recv hKc hPc (ci := 11) (q0 := 0) rfl rfl, fun U hU hW => ⟨rfl, by rw [hU], by rw [hU]; exact hPc, va_K.moved hW.alike hKc, hDc.weaken (fun _ _ _ _ => trivial)⟩⟩ rfl rfl hl.1 rfl (lv_room (Nat.le_of_ble_eq_true rfl)) dL_law_685 ⟨Nat.le_of_ble_eq_true rfl, Nat.le_of_ble_eq_true rfl⟩) hS (fun q _ h => hFc q h) hFc (fun r_158 u t H1 locs ht hvm hw hB hz1 hk1 hS => ?_)
      obtain ⟨hP1, hK1, hD1⟩ := hB
      rw [ht] at hP1
      have hK1 := va_K.moved hvm.symm hK1
      obtain ⟨hP, hD⟩ := va_join (wr := [(ba, .inl (cB, 900, .inl fb)), (mb, .inl (cM, 900, .inl fM))]) (w1 := []) hP hD [1] [0, 2] rfl rfl (by decide) (by decide) hk1 hFc hP1 hD1
      generalize H1 = H at hP hS ⊢
      have hP : va_P (dC, dI) vwCl [(ba, .inl (cB, 900, .inl fb)), (mb, .inl (cM, 900, .inl fM))] H := hP
      have hD : va_D A [(ba, .inl (cB, 900, .inl fb)), (mb, .inl (cM, 900, .inl fM))] := hD
      have er_158 : r_158 = (-1) := hw
      subst er_158
      refine lv_icmp_eq (tgt := 1893) hx hb dL_law_688 (by decide) (fun c_159 => ?_) (fun c_159 => ?_)
      · refine lv_iinc (v := 6) (lv' := [(4, .int 6), (3, .ref lo), (2, .ref mm), (1, .ref x), (0, .ref b)]) hx hb dL_law_1893 hl (k := 0) rfl (by decide) (by decide) rfl (fun ls hl => ?_)
        refine lv_goto (tgt := 23) hx hb dL_law_1896 (by decide) ?_
        refine lv_iload hx hb dL_law_23 (lv_at hl 0 rfl) ?_
        refine lv_aload_n hx hb dL_law_25 rfl (lv_at hl 4 rfl) ?_
        refine va_slen hx hb hX hbl hbA hS dL_law_26 ?_
        refine lv_topi (fun z_161 ez_161 => ?_)
        obtain rfl : z_161 = 6 := ez_161.trans rfl
        refine lv_bipush (v := 6) hx hb dL_law_27 (by decide) ?_
        refine lv_isub hx hb dL_law_29 ?_
        refine lv_topi (fun z_162 ez_162 => ?_)
        obtain rfl : z_162 = 0 := ez_162.trans (by decide)
        refine lv_icmp_gt (tgt := 1899) hx hb dL_law_30 (by decide) (fun c_163 => ?_) (fun c_163 => ?_)
        · refine lv_iconst (v := 1) hx hb dL_law_1899 (by decide) ?_
          refine va_forget (fun q hq => by have h9 := hS.2.2 q hq; rw [← hAe] at h9; exact h9) ?_
          refine W.widen (k := 600002) (n := 7302232) (Nat.le_of_ble_eq_true rfl) (Nat.le_of_ble_eq_true rfl) ?_
          exact lw_ret hd0 hx hb hr hlocks dL_law_1900
        · exact absurd (by decide) c_163
      · exact absurd (by decide) c_159
    by_cases c_164 : ((xs (0 : Int32).toNatClampNeg) &&& 63) = 12
    · refine lv_tableIn (tgt := 693) hx hb dL_law_40 (by rw [c_164]; decide) (by rw [c_164]; decide) (by rw [c_164]; rfl) (by decide) ?_
      refine lv_aload_n hx hb dL_law_693 rfl (lv_at hl 3 rfl) ?_
      refine lv_aload_n hx hb dL_law_694 rfl (lv_at hl 4 rfl) ?_
      refine lv_iload hx hb dL_law_695 (lv_at hl 0 rfl) ?_
      refine lv_iconst (v := 1) hx hb dL_law_697 (by decide) ?_
      refine lv_iadd hx hb dL_law_698 ?_
      refine lv_topi (fun z_165 ez_165 => ?_)
      obtain rfl : z_165 = 1 := ez_165.trans (by decide)
      refine va_sld hx hb hX hbl hbA hS (vp_in_nI (n := 1) (by decide) (by decide)) dL_law_699 ?_
      refine lv_aload_n hx hb dL_law_700 rfl (lv_at hl 4 rfl) ?_
      refine lv_iload hx hb dL_law_701 (lv_at hl 0 rfl) ?_
      refine lv_iconst (v := 2) hx hb dL_law_703 (by decide) ?_
      refine lv_iadd hx hb dL_law_704 ?_
      refine lv_topi (fun z_166 ez_166 => ?_)
      obtain rfl : z_166 = 2 := ez_166.trans (by decide)
      refine va_sld hx hb hX hbl hbA hS (vp_in_nI (n := 2) (by decide) (by decide)) dL_law_705 ?_
      refine lv_aload_n hx hb dL_law_706 rfl (lv_at hl 4 rfl) ?_
      refine lv_iload hx hb dL_law_707 (lv_at hl 0 rfl) ?_
      refine lv_iconst (v := 3) hx hb dL_law_709 (by decide) ?_
      refine lv_iadd hx hb dL_law_710 ?_
      refine lv_topi (fun z_167 ez_167 => ?_)
      obtain rfl : z_167 = 3 := ez_167.trans (by decide)
      refine va_sld hx hb hX hbl hbA hS (vp_in_nI (n := 3) (by decide) (by decide)) dL_law_711 ?_
      have hPc := hP.sub (ws' := [(x, .inr (10, fs_x)), (rd, .inr (6, fs_rd)), (tp, .inr (9, fs_tp)), (ra, .inr (5, [.long u0, .long w0])), (li, .inr (3, fs_li)), (ho, .inr (4, fs_ho)), (dr, .inr (3, fs_dr)), (hd, .inr (4, fs_hd))]) [0, 1, 2, 4, 5, 6, 7, 8] rfl
      have hDc := hD.sub (ws' := [(x, .inr (10, fs_x)), (rd, .inr (6, fs_rd)), (tp, .inr (9, fs_tp)), (ra, .inr (5, [.long u0, .long w0])), (li, .inr (3, fs_li)), (ho, .inr (4, fs_ho)), (dr, .inr (3, fs_dr)), (hd, .inr (4, fs_hd))]) [0, 1, 2, 4, 5, 6, 7, 8] (by decide) rfl
      have hKc := hK.sub (tys' := []) [] rfl
      have hFc := va_free (wc := [(x, .inr (10, fs_x)), (rd, .inr (6, fs_rd)), (tp, .inr (9, fs_tp)), (ra, .inr (5, [.long u0, .long w0])), (li, .inr (3, fs_li)), (ho, .inr (4, fs_ho)), (dr, .inr (3, fs_dr)), (hd, .inr (4, fs_hd))]) hD hS hA [0, 1, 2, 4, 5, 6, 7, 8] rfl
      refine va_calli (va_runV (As := [.int (xs (1 : Int32).toNatClampNeg), .int (xs (2 : Int32).toNatClampNeg), .int (xs (3 : Int32).toNatClampNeg)]) (rest := []) ⟨hx, hb, hml, hown, hts⟩ (k_X11_period l dC dI H.size x fs_x rd fs_rd tp fs_tp ra [.long u0, .long w0] li fs_li ho fs_ho dr fs_dr hd fs_hd (xs (1 : Int32).toNatClampNeg) (xs (2 : Int32).toNatClampNeg) (xs (3 : Int32).toNatClampNeg) hn_x hf_x_0 hf_x_3 hf_x_8 hf_x_9 hf_x_10 hn_rd hf_rd_0 hn_tp rfl hn_li hf_li_2 hn_ho hn_dr hf_dr_2 hn_hd) (cwV 3 hts gL0_X11_period rfl rfl rfl (by decide +kernel) ⟨Nat.le_of_ble_eq_true rfl, Nat.le_of_ble_eq_true rfl⟩) ⟨fun a U g mk q => by obtain ⟨q0, q1, qP, qK, qD⟩ := q; exact ⟨q0, q1, qP, va_K.moved (u := U) (U := U.calling g mk a) (Vm.Alike.refl U.vm) qK, qD⟩, va_recv hKc hPc (ci := 10) (q0 := 0) rfl rfl, fun U hU hW => ⟨rfl, by rw [hU], by rw [hU]; exact hPc, va_K.moved hW.alike hKc, hDc.weaken (fun _ _ _ _ => trivial)⟩⟩ rfl rfl hl.1 rfl (lv_room (Nat.le_of_ble_eq_true rfl)) dL_law_712 ⟨Nat.le_of_ble_eq_true rfl, Nat.le_of_ble_eq_true rfl⟩) hS (fun q _ h => hFc q h) hFc (fun r_168 u t H1 locs ht hvm hw hB hz1 hk1 hS => ?_)
      obtain ⟨hP1, hK1, hD1⟩ := hB
      rw [ht] at hP1
      have hK1 := va_K.moved hvm.symm hK1
      obtain ⟨hP, hD⟩ := va_join (wr := [(ba, .inl (cB, 900, .inl fb)), (mm, .inr (11, fs_mm)), (mb, .inl (cM, 900, .inl fM))]) (w1 := []) hP hD [0, 1, 2, 4, 5, 6, 7, 8] [3, 9, 10] rfl rfl (by decide) (by decide) hk1 hFc hP1 hD1
      generalize H1 = H at hP hS ⊢
      have hP : va_P (dC, dI) vwCl [(ba, .inl (cB, 900, .inl fb)), (mm, .inr (11, fs_mm)), (mb, .inl (cM, 900, .inl fM))] H := hP
      have hD : va_D A [(ba, .inl (cB, 900, .inl fb)), (mm, .inr (11, fs_mm)), (mb, .inl (cM, 900, .inl fM))] := hD
      have er_168 : r_168 = (-1) := hw
      subst er_168
      refine lv_aload_n hx hb dL_law_715 rfl (lv_at hl 2 rfl) ?_
      refine lv_aload_n hx hb dL_law_716 rfl (lv_at hl 4 rfl) ?_
      refine lv_iload hx hb dL_law_717 (lv_at hl 0 rfl) ?_
      refine lv_iconst (v := 1) hx hb dL_law_719 (by decide) ?_
      refine lv_iadd hx hb dL_law_720 ?_
      refine lv_topi (fun z_169 ez_169 => ?_)
      obtain rfl : z_169 = 1 := ez_169.trans (by decide)
      refine va_sld hx hb hX hbl hbA hS (vp_in_nI (n := 1) (by decide) (by decide)) dL_law_721 ?_
      refine lv_aload_n hx hb dL_law_722 rfl (lv_at hl 4 rfl) ?_
      refine lv_iload hx hb dL_law_723 (lv_at hl 0 rfl) ?_
      refine lv_iconst (v := 2) hx hb dL_law_725 (by decide) ?_
      refine lv_iadd hx hb dL_law_726 ?_
      refine lv_topi (fun z_170 ez_170 => ?_)
      obtain rfl : z_170 = 2 := ez_170.trans (by decide)
      refine va_sld hx hb hX hbl hbA hS (vp_in_nI (n := 2) (by decide) (by decide)) dL_law_727 ?_
      refine lv_aload_n hx hb dL_law_728 rfl (lv_at hl 4 rfl) ?_
      refine lv_iload hx hb dL_law_729 (lv_at hl 0 rfl) ?_
      refine lv_iconst (v := 3) hx hb dL_law_731 (by decide) ?_
      refine lv_iadd hx hb dL_law_732 ?_
      refine lv_topi (fun z_171 ez_171 => ?_)
      obtain rfl : z_171 = 3 := ez_171.trans (by decide)
      refine va_sld hx hb hX hbl hbA hS (vp_in_nI (n := 3) (by decide) (by decide)) dL_law_733 ?_
      have hPc := hP.sub (ws' := [(mm, .inr (11, fs_mm))]) [1] rfl
      have hDc := hD.sub (ws' := [(mm, .inr (11, fs_mm))]) [1] (by decide) rfl
      have hKc := hK.sub (tys' := []) [] rfl
      have hFc := va_free (wc := [(mm, .inr (11, fs_mm))]) hD hS hA [1] rfl
      refine va_calli (va_runV (As := [.int (xs (1 : Int32).toNatClampNeg), .int (xs (2 : Int32).toNatClampNeg), .int (xs (3 : Int32).toNatClampNeg)]) (rest := [.int (-1)]) ⟨hx, hb, hml, hown, hts⟩ (k_X12_period l dC dI H.size mm fs_mm (xs (1 : Int32).toNatClampNeg) (xs (2 : Int32).toNatClampNeg) (xs (3 : Int32).toNatClampNeg) hn_mm hf_mm_20) (cwV 3 hts gL0_X12_period rfl rfl rfl (by decide +kernel) ⟨Nat.le_of_ble_eq_true rfl, Nat.le_of_ble_eq_true rfl⟩) ⟨fun a U g mk q => by obtain ⟨q0, q1, qP, qK, qD⟩ := q; exact ⟨q0, q1, qP, va_K.moved (u := U) (U := U.calling g mk a) (Vm.Alike.refl U.vm) qK, qD⟩, va_recv hKc hPc (ci := 11) (q0 := 0) rfl rfl, fun U hU hW => ⟨rfl, by rw [hU], by rw [hU]; exact hPc, va_K.moved hW.alike hKc, hDc.weaken (fun _ _ _ _ => trivial)⟩⟩ rfl rfl hl.1 rfl (lv_room (Nat.le_of_ble_eq_true rfl)) dL_law_734 ⟨Nat.le_of_ble_eq_true rfl, Nat.le_of_ble_eq_true rfl⟩) hS (fun q _ h => hFc q h) hFc (fun r_172 u t H1 locs ht hvm hw hB hz1 hk1 hS => ?_)
      obtain ⟨hP1, hK1, hD1⟩ := hB
      rw [ht] at hP1
      have hK1 := va_K.moved hvm.symm hK1
      obtain ⟨hP, hD⟩ := va_join (wr := [(ba, .inl (cB, 900, .inl fb)), (mb, .inl (cM, 900, .inl fM))]) (w1 := []) hP hD [1] [0, 2] rfl rfl (by decide) (by decide) hk1 hFc hP1 hD1
      generalize H1 = H at hP hS ⊢
      have hP : va_P (dC, dI) vwCl [(ba, .inl (cB, 900, .inl fb)), (mb, .inl (cM, 900, .inl fM))] H := hP
      have hD : va_D A [(ba, .inl (cB, 900, .inl fb)), (mb, .inl (cM, 900, .inl fM))] := hD
      have er_172 : r_172 = (-1) := hw
      subst er_172
      refine lv_icmp_eq (tgt := 1893) hx hb dL_law_737 (by decide) (fun c_173 => ?_) (fun c_173 => ?_)
      · refine lv_iinc (v := 6) (lv' := [(4, .int 6), (3, .ref lo), (2, .ref mm), (1, .ref x), (0, .ref b)]) hx hb dL_law_1893 hl (k := 0) rfl (by decide) (by decide) rfl (fun ls hl => ?_)
        refine lv_goto (tgt := 23) hx hb dL_law_1896 (by decide) ?_
        refine lv_iload hx hb dL_law_23 (lv_at hl 0 rfl) ?_
        refine lv_aload_n hx hb dL_law_25 rfl (lv_at hl 4 rfl) ?_
        refine va_slen hx hb hX hbl hbA hS dL_law_26 ?_
        refine lv_topi (fun z_175 ez_175 => ?_)
        obtain rfl : z_175 = 6 := ez_175.trans rfl
        refine lv_bipush (v := 6) hx hb dL_law_27 (by decide) ?_
        refine lv_isub hx hb dL_law_29 ?_
        refine lv_topi (fun z_176 ez_176 => ?_)
        obtain rfl : z_176 = 0 := ez_176.trans (by decide)
        refine lv_icmp_gt (tgt := 1899) hx hb dL_law_30 (by decide) (fun c_177 => ?_) (fun c_177 => ?_)
        · refine lv_iconst (v := 1) hx hb dL_law_1899 (by decide) ?_
          refine va_forget (fun q hq => by have h9 := hS.2.2 q hq; rw [← hAe] at h9; exact h9) ?_
          refine W.widen (k := 600002) (n := 7302232) (Nat.le_of_ble_eq_true rfl) (Nat.le_of_ble_eq_true rfl) ?_
          exact lw_ret hd0 hx hb hr hlocks dL_law_1900
        · exact absurd (by decide) c_177
      · exact absurd (by decide) c_173
    by_cases c_178 : ((xs (0 : Int32).toNatClampNeg) &&& 63) = 13
    · refine lv_tableIn (tgt := 742) hx hb dL_law_40 (by rw [c_178]; decide) (by rw [c_178]; decide) (by rw [c_178]; rfl) (by decide) ?_
      refine lv_aload_n hx hb dL_law_742 rfl (lv_at hl 3 rfl) ?_
      refine lv_aload_n hx hb dL_law_743 rfl (lv_at hl 4 rfl) ?_
      refine lv_iload hx hb dL_law_744 (lv_at hl 0 rfl) ?_
      refine lv_iconst (v := 1) hx hb dL_law_746 (by decide) ?_
      refine lv_iadd hx hb dL_law_747 ?_
      refine lv_topi (fun z_179 ez_179 => ?_)
      obtain rfl : z_179 = 1 := ez_179.trans (by decide)
      refine va_sld hx hb hX hbl hbA hS (vp_in_nI (n := 1) (by decide) (by decide)) dL_law_748 ?_
      refine lv_aload_n hx hb dL_law_749 rfl (lv_at hl 4 rfl) ?_
      refine lv_iload hx hb dL_law_750 (lv_at hl 0 rfl) ?_
      refine lv_iconst (v := 2) hx hb dL_law_752 (by decide) ?_
      refine lv_iadd hx hb dL_law_753 ?_
      refine lv_topi (fun z_180 ez_180 => ?_)
      obtain rfl : z_180 = 2 := ez_180.trans (by decide)
      refine va_sld hx hb hX hbl hbA hS (vp_in_nI (n := 2) (by decide) (by decide)) dL_law_754 ?_
      refine lv_aload_n hx hb dL_law_755 rfl (lv_at hl 4 rfl) ?_
      refine lv_iload hx hb dL_law_756 (lv_at hl 0 rfl) ?_
      refine lv_iconst (v := 3) hx hb dL_law_758 (by decide) ?_
      refine lv_iadd hx hb dL_law_759 ?_
      refine lv_topi (fun z_181 ez_181 => ?_)
      obtain rfl : z_181 = 3 := ez_181.trans (by decide)
      refine va_sld hx hb hX hbl hbA hS (vp_in_nI (n := 3) (by decide) (by decide)) dL_law_760 ?_
      refine lv_if_eq (tgt := 768) hx hb dL_law_761 (by decide) (fun c_182 => ?_) (fun c_182 => ?_)
      · refine lv_iconst (v := 0) hx hb dL_law_768 (by decide) ?_
        have hPc := hP.sub (ws' := [(x, .inr (10, fs_x)), (rd, .inr (6, fs_rd)), (tp, .inr (9, fs_tp)), (ra, .inr (5, [.long u0, .long w0])), (li, .inr (3, fs_li)), (ho, .inr (4, fs_ho)), (dr, .inr (3, fs_dr)), (hd, .inr (4, fs_hd))]) [0, 1, 2, 4, 5, 6, 7, 8] rfl
        have hDc := hD.sub (ws' := [(x, .inr (10, fs_x)), (rd, .inr (6, fs_rd)), (tp, .inr (9, fs_tp)), (ra, .inr (5, [.long u0, .long w0])), (li, .inr (3, fs_li)), (ho, .inr (4, fs_ho)), (dr, .inr (3, fs_dr)), (hd, .inr (4, fs_hd))]) [0, 1, 2, 4, 5, 6, 7, 8] (by decide) rfl
        have hKc := hK.sub (tys' := []) [] rfl
        have hFc := va_free (wc := [(x, .inr (10, fs_x)), (rd, .inr (6, fs_rd)), (tp, .inr (9, fs_tp)), (ra, .inr (5, [.long u0, .long w0])), (li, .inr (3, fs_li)), (ho, .inr (4, fs_ho)), (dr, .inr (3, fs_dr)), (hd, .inr (4, fs_hd))]) hD hS hA [0, 1, 2, 4, 5, 6, 7, 8] rfl
        refine va_calll (va_runV (As := [.int (xs (1 : Int32).toNatClampNeg), .int (xs (2 : Int32).toNatClampNeg), .int 0]) (rest := []) ⟨hx, hb, hml, hown, hts⟩ (k_X11_fraction l dC dI H.size x fs_x rd fs_rd tp fs_tp ra [.long u0, .long w0] li fs_li ho fs_ho dr fs_dr hd fs_hd (xs (1 : Int32).toNatClampNeg) (xs (2 : Int32).toNatClampNeg) 0 hn_x hf_x_0 hf_x_3 hf_x_8 hf_x_9 hf_x_10 hn_rd hf_rd_0 hn_tp rfl hn_li hf_li_2 hn_ho hn_dr hf_dr_2 hn_hd) (cwV 3 hts gL0_X11_fraction rfl rfl rfl (by decide +kernel) ⟨Nat.le_of_ble_eq_true rfl, Nat.le_of_ble_eq_true rfl⟩) ⟨fun a U g mk q => by obtain ⟨q0, q1, qP, qK, qD⟩ := q; exact ⟨q0, q1, qP, va_K.moved (u := U) (U := U.calling g mk a) (Vm.Alike.refl U.vm) qK, qD⟩, va_recv hKc hPc (ci := 10) (q0 := 0) rfl rfl, fun U hU hW => ⟨rfl, by rw [hU], by rw [hU]; exact hPc, va_K.moved hW.alike hKc, hDc.weaken (fun _ _ _ _ => trivial)⟩⟩ rfl rfl hl.1 rfl (lv_room (Nat.le_of_ble_eq_true rfl)) dL_law_769 ⟨Nat.le_of_ble_eq_true rfl, Nat.le_of_ble_eq_true rfl⟩) hS (fun q _ h => hFc q h) hFc (fun r_183 u t H1 locs ht hvm hw hB hz1 hk1 hS => ?_)
        obtain ⟨hP1, hK1, hD1⟩ := hB
        rw [ht] at hP1
        have hK1 := va_K.moved hvm.symm hK1
        obtain ⟨hP, hD⟩ := va_join (wr := [(ba, .inl (cB, 900, .inl fb)), (mm, .inr (11, fs_mm)), (mb, .inl (cM, 900, .inl fM))]) (w1 := []) hP hD [0, 1, 2, 4, 5, 6, 7, 8] [3, 9, 10] rfl rfl (by decide) (by decide) hk1 hFc hP1 hD1
        generalize H1 = H at hP hS ⊢
        have hP : va_P (dC, dI) vwCl [(ba, .inl (cB, 900, .inl fb)), (mm, .inr (11, fs_mm)), (mb, .inl (cM, 900, .inl fM))] H := hP
        have hD : va_D A [(ba, .inl (cB, 900, .inl fb)), (mm, .inr (11, fs_mm)), (mb, .inl (cM, 900, .inl fM))] := hD
        have er_183 : r_183 = (-1) := hw
        subst er_183
        refine lv_aload_n hx hb dL_law_772 rfl (lv_at hl 2 rfl) ?_
        refine lv_aload_n hx hb dL_law_773 rfl (lv_at hl 4 rfl) ?_
        refine lv_iload hx hb dL_law_774 (lv_at hl 0 rfl) ?_
        refine lv_iconst (v := 1) hx hb dL_law_776 (by decide) ?_
        refine lv_iadd hx hb dL_law_777 ?_
        refine lv_topi (fun z_184 ez_184 => ?_)
        obtain rfl : z_184 = 1 := ez_184.trans (by decide)
        refine va_sld hx hb hX hbl hbA hS (vp_in_nI (n := 1) (by decide) (by decide)) dL_law_778 ?_
        refine lv_aload_n hx hb dL_law_779 rfl (lv_at hl 4 rfl) ?_
        refine lv_iload hx hb dL_law_780 (lv_at hl 0 rfl) ?_
        refine lv_iconst (v := 2) hx hb dL_law_782 (by decide) ?_
        refine lv_iadd hx hb dL_law_783 ?_
        refine lv_topi (fun z_185 ez_185 => ?_)
        obtain rfl : z_185 = 2 := ez_185.trans (by decide)
        refine va_sld hx hb hX hbl hbA hS (vp_in_nI (n := 2) (by decide) (by decide)) dL_law_784 ?_
        refine lv_aload_n hx hb dL_law_785 rfl (lv_at hl 4 rfl) ?_
        refine lv_iload hx hb dL_law_786 (lv_at hl 0 rfl) ?_
        refine lv_iconst (v := 3) hx hb dL_law_788 (by decide) ?_
        refine lv_iadd hx hb dL_law_789 ?_
        refine lv_topi (fun z_186 ez_186 => ?_)
        obtain rfl : z_186 = 3 := ez_186.trans (by decide)
        refine va_sld hx hb hX hbl hbA hS (vp_in_nI (n := 3) (by decide) (by decide)) dL_law_790 ?_
        refine lv_if_eq (tgt := 798) hx hb dL_law_791 (by decide) (fun c_187 => ?_) (fun c_187 => ?_)
        · refine lv_iconst (v := 0) hx hb dL_law_798 (by decide) ?_
          have hPc := hP.sub (ws' := [(mm, .inr (11, fs_mm))]) [1] rfl
          have hDc := hD.sub (ws' := [(mm, .inr (11, fs_mm))]) [1] (by decide) rfl
          have hKc := hK.sub (tys' := []) [] rfl
          have hFc := va_free (wc := [(mm, .inr (11, fs_mm))]) hD hS hA [1] rfl
          refine va_calll (va_runV (As := [.int (xs (1 : Int32).toNatClampNeg), .int (xs (2 : Int32).toNatClampNeg), .int 0]) (rest := [.long (-1)]) ⟨hx, hb, hml, hown, hts⟩ (k_X12_fraction l dC dI H.size mm fs_mm (xs (1 : Int32).toNatClampNeg) (xs (2 : Int32).toNatClampNeg) 0 hn_mm hf_mm_20) (cwV 3 hts gL0_X12_fraction rfl rfl rfl (by decide +kernel) ⟨Nat.le_of_ble_eq_true rfl, Nat.le_of_ble_eq_true rfl⟩) ⟨fun a U g mk q => by obtain ⟨q0, q1, qP, qK, qD⟩ := q; exact ⟨q0, q1, qP, va_K.moved (u := U) (U := U.calling g mk a) (Vm.Alike.refl U.vm) qK, qD⟩, va_recv hKc hPc (ci := 11) (q0 := 0) rfl rfl, fun U hU hW => ⟨rfl, by rw [hU], by rw [hU]; exact hPc, va_K.moved hW.alike hKc, hDc.weaken (fun _ _ _ _ => trivial)⟩⟩ rfl rfl hl.1 rfl (lv_room (Nat.le_of_ble_eq_true rfl)) dL_law_799 ⟨Nat.le_of_ble_eq_true rfl, Nat.le_of_ble_eq_true rfl⟩) hS (fun q _ h => hFc q h) hFc (fun r_188 u t H1 locs ht hvm hw hB hz1 hk1 hS => ?_)
          obtain ⟨hP1, hK1, hD1⟩ := hB
          rw [ht] at hP1
          have hK1 := va_K.moved hvm.symm hK1
          obtain ⟨hP, hD⟩ := va_join (wr := [(ba, .inl (cB, 900, .inl fb)), (mb, .inl (cM, 900, .inl fM))]) (w1 := []) hP hD [1] [0, 2] rfl rfl (by decide) (by decide) hk1 hFc hP1 hD1
          generalize H1 = H at hP hS ⊢
          have hP : va_P (dC, dI) vwCl [(ba, .inl (cB, 900, .inl fb)), (mb, .inl (cM, 900, .inl fM))] H := hP
          have hD : va_D A [(ba, .inl (cB, 900, .inl fb)), (mb, .inl (cM, 900, .inl fM))] := hD
          have er_188 : r_188 = (-1) := hw
          subst er_188
          refine W.lcmp hx hb dL_law_802 ?_
          refine lv_topi (fun z_189 ez_189 => ?_)
          obtain rfl : z_189 = 0 := ez_189.trans (by decide)
          refine lv_if_eq (tgt := 1893) hx hb dL_law_803 (by decide) (fun c_190 => ?_) (fun c_190 => ?_)
          · refine lv_iinc (v := 6) (lv' := [(4, .int 6), (3, .ref lo), (2, .ref mm), (1, .ref x), (0, .ref b)]) hx hb dL_law_1893 hl (k := 0) rfl (by decide) (by decide) rfl (fun ls hl => ?_)
            refine lv_goto (tgt := 23) hx hb dL_law_1896 (by decide) ?_
            refine lv_iload hx hb dL_law_23 (lv_at hl 0 rfl) ?_
            refine lv_aload_n hx hb dL_law_25 rfl (lv_at hl 4 rfl) ?_
            refine va_slen hx hb hX hbl hbA hS dL_law_26 ?_
            refine lv_topi (fun z_192 ez_192 => ?_)
            obtain rfl : z_192 = 6 := ez_192.trans rfl
            refine lv_bipush (v := 6) hx hb dL_law_27 (by decide) ?_
            refine lv_isub hx hb dL_law_29 ?_
            refine lv_topi (fun z_193 ez_193 => ?_)
            obtain rfl : z_193 = 0 := ez_193.trans (by decide)
            refine lv_icmp_gt (tgt := 1899) hx hb dL_law_30 (by decide) (fun c_194 => ?_) (fun c_194 => ?_)
            · refine lv_iconst (v := 1) hx hb dL_law_1899 (by decide) ?_
              refine va_forget (fun q hq => by have h9 := hS.2.2 q hq; rw [← hAe] at h9; exact h9) ?_
              refine W.widen (k := 600002) (n := 7302232) (Nat.le_of_ble_eq_true rfl) (Nat.le_of_ble_eq_true rfl) ?_
              exact lw_ret hd0 hx hb hr hlocks dL_law_1900
            · exact absurd (by decide) c_194
          · exact absurd (by decide) c_190
        · exact absurd c_182 c_187
      · refine lv_iconst (v := 1) hx hb dL_law_764 (by decide) ?_
        refine lv_goto (tgt := 769) hx hb dL_law_765 (by decide) ?_
        have hPc := hP.sub (ws' := [(x, .inr (10, fs_x)), (rd, .inr (6, fs_rd)), (tp, .inr (9, fs_tp)), (ra, .inr (5, [.long u0, .long w0])), (li, .inr (3, fs_li)), (ho, .inr (4, fs_ho)), (dr, .inr (3, fs_dr)), (hd, .inr (4, fs_hd))]) [0, 1, 2, 4, 5, 6, 7, 8] rfl
        have hDc := hD.sub (ws' := [(x, .inr (10, fs_x)), (rd, .inr (6, fs_rd)), (tp, .inr (9, fs_tp)), (ra, .inr (5, [.long u0, .long w0])), (li, .inr (3, fs_li)), (ho, .inr (4, fs_ho)), (dr, .inr (3, fs_dr)), (hd, .inr (4, fs_hd))]) [0, 1, 2, 4, 5, 6, 7, 8] (by decide) rfl
        have hKc := hK.sub (tys' := []) [] rfl
        have hFc := va_free (wc := [(x, .inr (10, fs_x)), (rd, .inr (6, fs_rd)), (tp, .inr (9, fs_tp)), (ra, .inr (5, [.long u0, .long w0])), (li, .inr (3, fs_li)), (ho, .inr (4, fs_ho)), (dr, .inr (3, fs_dr)), (hd, .inr (4, fs_hd))]) hD hS hA [0, 1, 2, 4, 5, 6, 7, 8] rfl
        refine va_calll (va_runV (As := [.int (xs (1 : Int32).toNatClampNeg), .int (xs (2 : Int32).toNatClampNeg), .int 1]) (rest := []) ⟨hx, hb, hml, hown, hts⟩ (k_X11_fraction l dC dI H.size x fs_x rd fs_rd tp fs_tp ra [.long u0, .long w0] li fs_li ho fs_ho dr fs_dr hd fs_hd (xs (1 : Int32).toNatClampNeg) (xs (2 : Int32).toNatClampNeg) 1 hn_x hf_x_0 hf_x_3 hf_x_8 hf_x_9 hf_x_10 hn_rd hf_rd_0 hn_tp rfl hn_li hf_li_2 hn_ho hn_dr hf_dr_2 hn_hd) (cwV 3 hts gL0_X11_fraction rfl rfl rfl (by decide +kernel) ⟨Nat.le_of_ble_eq_true rfl, Nat.le_of_ble_eq_true rfl⟩) ⟨fun a U g mk q => by obtain ⟨q0, q1, qP, qK, qD⟩ := q; exact ⟨q0, q1, qP, va_K.moved (u := U) (U := U.calling g mk a) (Vm.Alike.refl U.vm) qK, qD⟩, va_recv hKc hPc (ci := 10) (q0 := 0) rfl rfl, fun U hU hW => ⟨rfl, by rw [hU], by rw [hU]; exact hPc, va_K.moved hW.alike hKc, hDc.weaken (fun _ _ _ _ => trivial)⟩⟩ rfl rfl hl.1 rfl (lv_room (Nat.le_of_ble_eq_true rfl)) dL_law_769 ⟨Nat.le_of_ble_eq_true rfl, Nat.le_of_ble_eq_true rfl⟩) hS (fun q _ h => hFc q h) hFc (fun r_195 u t H1 locs ht hvm hw hB hz1 hk1 hS => ?_)
        obtain ⟨hP1, hK1, hD1⟩ := hB
        rw [ht] at hP1
        have hK1 := va_K.moved hvm.symm hK1
        obtain ⟨hP, hD⟩ := va_join (wr := [(ba, .inl (cB, 900, .inl fb)), (mm, .inr (11, fs_mm)), (mb, .inl (cM, 900, .inl fM))]) (w1 := []) hP hD [0, 1, 2, 4, 5, 6, 7, 8] [3, 9, 10] rfl rfl (by decide) (by decide) hk1 hFc hP1 hD1
        generalize H1 = H at hP hS ⊢
        have hP : va_P (dC, dI) vwCl [(ba, .inl (cB, 900, .inl fb)), (mm, .inr (11, fs_mm)), (mb, .inl (cM, 900, .inl fM))] H := hP
        have hD : va_D A [(ba, .inl (cB, 900, .inl fb)), (mm, .inr (11, fs_mm)), (mb, .inl (cM, 900, .inl fM))] := hD
        have er_195 : r_195 = (-1) := hw
        subst er_195
        refine lv_aload_n hx hb dL_law_772 rfl (lv_at hl 2 rfl) ?_
        refine lv_aload_n hx hb dL_law_773 rfl (lv_at hl 4 rfl) ?_
        refine lv_iload hx hb dL_law_774 (lv_at hl 0 rfl) ?_
        refine lv_iconst (v := 1) hx hb dL_law_776 (by decide) ?_
        refine lv_iadd hx hb dL_law_777 ?_
        refine lv_topi (fun z_196 ez_196 => ?_)
        obtain rfl : z_196 = 1 := ez_196.trans (by decide)
        refine va_sld hx hb hX hbl hbA hS (vp_in_nI (n := 1) (by decide) (by decide)) dL_law_778 ?_
        refine lv_aload_n hx hb dL_law_779 rfl (lv_at hl 4 rfl) ?_
        refine lv_iload hx hb dL_law_780 (lv_at hl 0 rfl) ?_
        refine lv_iconst (v := 2) hx hb dL_law_782 (by decide) ?_
        refine lv_iadd hx hb dL_law_783 ?_
        refine lv_topi (fun z_197 ez_197 => ?_)
        obtain rfl : z_197 = 2 := ez_197.trans (by decide)
        refine va_sld hx hb hX hbl hbA hS (vp_in_nI (n := 2) (by decide) (by decide)) dL_law_784 ?_
        refine lv_aload_n hx hb dL_law_785 rfl (lv_at hl 4 rfl) ?_
        refine lv_iload hx hb dL_law_786 (lv_at hl 0 rfl) ?_
        refine lv_iconst (v := 3) hx hb dL_law_788 (by decide) ?_
        refine lv_iadd hx hb dL_law_789 ?_
        refine lv_topi (fun z_198 ez_198 => ?_)
        obtain rfl : z_198 = 3 := ez_198.trans (by decide)
        refine va_sld hx hb hX hbl hbA hS (vp_in_nI (n := 3) (by decide) (by decide)) dL_law_790 ?_
        refine lv_if_eq (tgt := 798) hx hb dL_law_791 (by decide) (fun c_199 => ?_) (fun c_199 => ?_)
        · exact absurd c_199 c_182
        · refine lv_iconst (v := 1) hx hb dL_law_794 (by decide) ?_
          refine lv_goto (tgt := 799) hx hb dL_law_795 (by decide) ?_
          have hPc := hP.sub (ws' := [(mm, .inr (11, fs_mm))]) [1] rfl
          have hDc := hD.sub (ws' := [(mm, .inr (11, fs_mm))]) [1] (by decide) rfl
          have hKc := hK.sub (tys' := []) [] rfl
          have hFc := va_free (wc := [(mm, .inr (11, fs_mm))]) hD hS hA [1] rfl
          refine va_calll (va_runV (As := [.int (xs (1 : Int32).toNatClampNeg), .int (xs (2 : Int32).toNatClampNeg), .int 1]) (rest := [.long (-1)]) ⟨hx, hb, hml, hown, hts⟩ (k_X12_fraction l dC dI H.size mm fs_mm (xs (1 : Int32).toNatClampNeg) (xs (2 : Int32).toNatClampNeg) 1 hn_mm hf_mm_20) (cwV 3 hts gL0_X12_fraction rfl rfl rfl (by decide +kernel) ⟨Nat.le_of_ble_eq_true rfl, Nat.le_of_ble_eq_true rfl⟩) ⟨fun a U g mk q => by obtain ⟨q0, q1, qP, qK, qD⟩ := q; exact ⟨q0, q1, qP, va_K.moved (u := U) (U := U.calling g mk a) (Vm.Alike.refl U.vm) qK, qD⟩, va_recv hKc hPc (ci := 11) (q0 := 0) rfl rfl, fun U hU hW => ⟨rfl, by rw [hU], by rw [hU]; exact hPc, va_K.moved hW.alike hKc, hDc.weaken (fun _ _ _ _ => trivial)⟩⟩ rfl rfl hl.1 rfl (lv_room (Nat.le_of_ble_eq_true rfl)) dL_law_799 ⟨Nat.le_of_ble_eq_true rfl, Nat.le_of_ble_eq_true rfl⟩) hS (fun q _ h => hFc q h) hFc (fun r_200 u t H1 locs ht hvm hw hB hz1 hk1 hS => ?_)
          obtain ⟨hP1, hK1, hD1⟩ := hB
          rw [ht] at hP1
          have hK1 := va_K.moved hvm.symm hK1
          obtain ⟨hP, hD⟩ := va_join (wr := [(ba, .inl (cB, 900, .inl fb)), (mb, .inl (cM, 900, .inl fM))]) (w1 := []) hP hD [1] [0, 2] rfl rfl (by decide) (by decide) hk1 hFc hP1 hD1
          generalize H1 = H at hP hS ⊢
          have hP : va_P (dC, dI) vwCl [(ba, .inl (cB, 900, .inl fb)), (mb, .inl (cM, 900, .inl fM))] H := hP
          have hD : va_D A [(ba, .inl (cB, 900, .inl fb)), (mb, .inl (cM, 900, .inl fM))] := hD
          have er_200 : r_200 = (-1) := hw
          subst er_200
          refine W.lcmp hx hb dL_law_802 ?_
          refine lv_topi (fun z_201 ez_201 => ?_)
          obtain rfl : z_201 = 0 := ez_201.trans (by decide)
          refine lv_if_eq (tgt := 1893) hx hb dL_law_803 (by decide) (fun c_202 => ?_) (fun c_202 => ?_)
          · refine lv_iinc (v := 6) (lv' := [(4, .int 6), (3, .ref lo), (2, .ref mm), (1, .ref x), (0, .ref b)]) hx hb dL_law_1893 hl (k := 0) rfl (by decide) (by decide) rfl (fun ls hl => ?_)
            refine lv_goto (tgt := 23) hx hb dL_law_1896 (by decide) ?_
            refine lv_iload hx hb dL_law_23 (lv_at hl 0 rfl) ?_
            refine lv_aload_n hx hb dL_law_25 rfl (lv_at hl 4 rfl) ?_
            refine va_slen hx hb hX hbl hbA hS dL_law_26 ?_
            refine lv_topi (fun z_204 ez_204 => ?_)
            obtain rfl : z_204 = 6 := ez_204.trans rfl
            refine lv_bipush (v := 6) hx hb dL_law_27 (by decide) ?_
            refine lv_isub hx hb dL_law_29 ?_
            refine lv_topi (fun z_205 ez_205 => ?_)
            obtain rfl : z_205 = 0 := ez_205.trans (by decide)
            refine lv_icmp_gt (tgt := 1899) hx hb dL_law_30 (by decide) (fun c_206 => ?_) (fun c_206 => ?_)
            · refine lv_iconst (v := 1) hx hb dL_law_1899 (by decide) ?_
              refine va_forget (fun q hq => by have h9 := hS.2.2 q hq; rw [← hAe] at h9; exact h9) ?_
              refine W.widen (k := 600002) (n := 7302232) (Nat.le_of_ble_eq_true rfl) (Nat.le_of_ble_eq_true rfl) ?_
              exact lw_ret hd0 hx hb hr hlocks dL_law_1900
            · exact absurd (by decide) c_206
          · exact absurd (by decide) c_202
    by_cases c_207 : ((xs (0 : Int32).toNatClampNeg) &&& 63) = 14
    · refine lv_tableIn (tgt := 808) hx hb dL_law_40 (by rw [c_207]; decide) (by rw [c_207]; decide) (by rw [c_207]; rfl) (by decide) ?_
      refine lv_aload_n hx hb dL_law_808 rfl (lv_at hl 3 rfl) ?_
      refine lv_aload_n hx hb dL_law_809 rfl (lv_at hl 4 rfl) ?_
      refine lv_iload hx hb dL_law_810 (lv_at hl 0 rfl) ?_
      refine lv_iconst (v := 1) hx hb dL_law_812 (by decide) ?_
      refine lv_iadd hx hb dL_law_813 ?_
      refine lv_topi (fun z_208 ez_208 => ?_)
      obtain rfl : z_208 = 1 := ez_208.trans (by decide)
      refine va_sld hx hb hX hbl hbA hS (vp_in_nI (n := 1) (by decide) (by decide)) dL_law_814 ?_
      refine lv_aload_n hx hb dL_law_815 rfl (lv_at hl 4 rfl) ?_
      refine lv_iload hx hb dL_law_816 (lv_at hl 0 rfl) ?_
      refine lv_iconst (v := 2) hx hb dL_law_818 (by decide) ?_
      refine lv_iadd hx hb dL_law_819 ?_
      refine lv_topi (fun z_209 ez_209 => ?_)
      obtain rfl : z_209 = 2 := ez_209.trans (by decide)
      refine va_sld hx hb hX hbl hbA hS (vp_in_nI (n := 2) (by decide) (by decide)) dL_law_820 ?_
      refine lv_aload_n hx hb dL_law_821 rfl (lv_at hl 4 rfl) ?_
      refine lv_iload hx hb dL_law_822 (lv_at hl 0 rfl) ?_
      refine lv_iconst (v := 3) hx hb dL_law_824 (by decide) ?_
      refine lv_iadd hx hb dL_law_825 ?_
      refine lv_topi (fun z_210 ez_210 => ?_)
      obtain rfl : z_210 = 3 := ez_210.trans (by decide)
      refine va_sld hx hb hX hbl hbA hS (vp_in_nI (n := 3) (by decide) (by decide)) dL_law_826 ?_
      refine lv_if_eq (tgt := 834) hx hb dL_law_827 (by decide) (fun c_211 => ?_) (fun c_211 => ?_)
      · refine lv_iconst (v := 0) hx hb dL_law_834 (by decide) ?_
        have hPc := hP.sub (ws' := [(x, .inr (10, fs_x)), (rd, .inr (6, fs_rd)), (tp, .inr (9, fs_tp)), (ra, .inr (5, [.long u0, .long w0])), (li, .inr (3, fs_li)), (ho, .inr (4, fs_ho)), (dr, .inr (3, fs_dr)), (hd, .inr (4, fs_hd))]) [0, 1, 2, 4, 5, 6, 7, 8] rfl
        have hDc := hD.sub (ws' := [(x, .inr (10, fs_x)), (rd, .inr (6, fs_rd)), (tp, .inr (9, fs_tp)), (ra, .inr (5, [.long u0, .long w0])), (li, .inr (3, fs_li)), (ho, .inr (4, fs_ho)), (dr, .inr (3, fs_dr)), (hd, .inr (4, fs_hd))]) [0, 1, 2, 4, 5, 6, 7, 8] (by decide) rfl
        have hKc := hK.sub (tys' := []) [] rfl
        have hFc := va_free (wc := [(x, .inr (10, fs_x)), (rd, .inr (6, fs_rd)), (tp, .inr (9, fs_tp)), (ra, .inr (5, [.long u0, .long w0])), (li, .inr (3, fs_li)), (ho, .inr (4, fs_ho)), (dr, .inr (3, fs_dr)), (hd, .inr (4, fs_hd))]) hD hS hA [0, 1, 2, 4, 5, 6, 7, 8] rfl
        refine va_calll (va_runV (As := [.int (xs (1 : Int32).toNatClampNeg), .int (xs (2 : Int32).toNatClampNeg), .int 0]) (rest := []) ⟨hx, hb, hml, hown, hts⟩ (k_X11_coupon l dC dI H.size x fs_x rd fs_rd tp fs_tp ra [.long u0, .long w0] li fs_li ho fs_ho dr fs_dr hd fs_hd (xs (1 : Int32).toNatClampNeg) (xs (2 : Int32).toNatClampNeg) 0 hn_x hf_x_0 hf_x_3 hf_x_8 hf_x_9 hf_x_10 hn_rd hf_rd_0 hn_tp rfl hn_li hf_li_2 hn_ho hn_dr hf_dr_2 hn_hd) (cwV 3 hts gL0_X11_coupon rfl rfl rfl (by decide +kernel) ⟨Nat.le_of_ble_eq_true rfl, Nat.le_of_ble_eq_true rfl⟩) ⟨fun a U g mk q => by obtain ⟨q0, q1, qP, qK, qD⟩ := q; exact ⟨q0, q1, qP, va_K.moved (u := U) (U := U.calling g mk a) (Vm.Alike.refl U.vm) qK, qD⟩, va_recv hKc hPc (ci := 10) (q0 := 0) rfl rfl, fun U hU hW => ⟨rfl, by rw [hU], by rw [hU]; exact hPc, va_K.moved hW.alike hKc, hDc.weaken (fun _ _ _ _ => trivial)⟩⟩ rfl rfl hl.1 rfl (lv_room (Nat.le_of_ble_eq_true rfl)) dL_law_835 ⟨Nat.le_of_ble_eq_true rfl, Nat.le_of_ble_eq_true rfl⟩) hS (fun q _ h => hFc q h) hFc (fun r_212 u t H1 locs ht hvm hw hB hz1 hk1 hS => ?_)
        obtain ⟨hP1, hK1, hD1⟩ := hB
        rw [ht] at hP1
        have hK1 := va_K.moved hvm.symm hK1
        obtain ⟨hP, hD⟩ := va_join (wr := [(ba, .inl (cB, 900, .inl fb)), (mm, .inr (11, fs_mm)), (mb, .inl (cM, 900, .inl fM))]) (w1 := []) hP hD [0, 1, 2, 4, 5, 6, 7, 8] [3, 9, 10] rfl rfl (by decide) (by decide) hk1 hFc hP1 hD1
        generalize H1 = H at hP hS ⊢
        have hP : va_P (dC, dI) vwCl [(ba, .inl (cB, 900, .inl fb)), (mm, .inr (11, fs_mm)), (mb, .inl (cM, 900, .inl fM))] H := hP
        have hD : va_D A [(ba, .inl (cB, 900, .inl fb)), (mm, .inr (11, fs_mm)), (mb, .inl (cM, 900, .inl fM))] := hD
        have er_212 : r_212 = (-1) := hw
        subst er_212
        refine lv_aload_n hx hb dL_law_838 rfl (lv_at hl 2 rfl) ?_
        refine lv_aload_n hx hb dL_law_839 rfl (lv_at hl 4 rfl) ?_
        refine lv_iload hx hb dL_law_840 (lv_at hl 0 rfl) ?_
        refine lv_iconst (v := 1) hx hb dL_law_842 (by decide) ?_
        refine lv_iadd hx hb dL_law_843 ?_
        refine lv_topi (fun z_213 ez_213 => ?_)
        obtain rfl : z_213 = 1 := ez_213.trans (by decide)
        refine va_sld hx hb hX hbl hbA hS (vp_in_nI (n := 1) (by decide) (by decide)) dL_law_844 ?_
        refine lv_aload_n hx hb dL_law_845 rfl (lv_at hl 4 rfl) ?_
        refine lv_iload hx hb dL_law_846 (lv_at hl 0 rfl) ?_
        refine lv_iconst (v := 2) hx hb dL_law_848 (by decide) ?_
        refine lv_iadd hx hb dL_law_849 ?_
        refine lv_topi (fun z_214 ez_214 => ?_)
        obtain rfl : z_214 = 2 := ez_214.trans (by decide)
        refine va_sld hx hb hX hbl hbA hS (vp_in_nI (n := 2) (by decide) (by decide)) dL_law_850 ?_
        refine lv_aload_n hx hb dL_law_851 rfl (lv_at hl 4 rfl) ?_
        refine lv_iload hx hb dL_law_852 (lv_at hl 0 rfl) ?_
        refine lv_iconst (v := 3) hx hb dL_law_854 (by decide) ?_
        refine lv_iadd hx hb dL_law_855 ?_
        refine lv_topi (fun z_215 ez_215 => ?_)
        obtain rfl : z_215 = 3 := ez_215.trans (by decide)
        refine va_sld hx hb hX hbl hbA hS (vp_in_nI (n := 3) (by decide) (by decide)) dL_law_856 ?_
        refine lv_if_eq (tgt := 864) hx hb dL_law_857 (by decide) (fun c_216 => ?_) (fun c_216 => ?_)
        · refine lv_iconst (v := 0) hx hb dL_law_864 (by decide) ?_
          have hPc := hP.sub (ws' := [(mm, .inr (11, fs_mm))]) [1] rfl
          have hDc := hD.sub (ws' := [(mm, .inr (11, fs_mm))]) [1] (by decide) rfl
          have hKc := hK.sub (tys' := []) [] rfl
          have hFc := va_free (wc := [(mm, .inr (11, fs_mm))]) hD hS hA [1] rfl
          refine va_calll (va_runV (As := [.int (xs (1 : Int32).toNatClampNeg), .int (xs (2 : Int32).toNatClampNeg), .int 0]) (rest := [.long (-1)]) ⟨hx, hb, hml, hown, hts⟩ (k_X12_coupon l dC dI H.size mm fs_mm (xs (1 : Int32).toNatClampNeg) (xs (2 : Int32).toNatClampNeg) 0 hn_mm hf_mm_20) (cwV 3 hts gL0_X12_coupon rfl rfl rfl (by decide +kernel) ⟨Nat.le_of_ble_eq_true rfl, Nat.le_of_ble_eq_true rfl⟩) ⟨fun a U g mk q => by obtain ⟨q0, q1, qP, qK, qD⟩ := q; exact ⟨q0, q1, qP, va_K.moved (u := U) (U := U.calling g mk a) (Vm.Alike.refl U.vm) qK, qD⟩, va_recv hKc hPc (ci := 11) (q0 := 0) rfl rfl, fun U hU hW => ⟨rfl, by rw [hU], by rw [hU]; exact hPc, va_K.moved hW.alike hKc, hDc.weaken (fun _ _ _ _ => trivial)⟩⟩ rfl rfl hl.1 rfl (lv_room (Nat.le_of_ble_eq_true rfl)) dL_law_865 ⟨Nat.le_of_ble_eq_true rfl, Nat.le_of_ble_eq_true rfl⟩) hS (fun q _ h => hFc q h) hFc (fun r_217 u t H1 locs ht hvm hw hB hz1 hk1 hS => ?_)
          obtain ⟨hP1, hK1, hD1⟩ := hB
          rw [ht] at hP1
          have hK1 := va_K.moved hvm.symm hK1
          obtain ⟨hP, hD⟩ := va_join (wr := [(ba, .inl (cB, 900, .inl fb)), (mb, .inl (cM, 900, .inl fM))]) (w1 := []) hP hD [1] [0, 2] rfl rfl (by decide) (by decide) hk1 hFc hP1 hD1
          generalize H1 = H at hP hS ⊢
          have hP : va_P (dC, dI) vwCl [(ba, .inl (cB, 900, .inl fb)), (mb, .inl (cM, 900, .inl fM))] H := hP
          have hD : va_D A [(ba, .inl (cB, 900, .inl fb)), (mb, .inl (cM, 900, .inl fM))] := hD
          have er_217 : r_217 = (-1) := hw
          subst er_217
          refine W.lcmp hx hb dL_law_868 ?_
          refine lv_topi (fun z_218 ez_218 => ?_)
          obtain rfl : z_218 = 0 := ez_218.trans (by decide)
          refine lv_if_eq (tgt := 1893) hx hb dL_law_869 (by decide) (fun c_219 => ?_) (fun c_219 => ?_)
          · refine lv_iinc (v := 6) (lv' := [(4, .int 6), (3, .ref lo), (2, .ref mm), (1, .ref x), (0, .ref b)]) hx hb dL_law_1893 hl (k := 0) rfl (by decide) (by decide) rfl (fun ls hl => ?_)
            refine lv_goto (tgt := 23) hx hb dL_law_1896 (by decide) ?_
            refine lv_iload hx hb dL_law_23 (lv_at hl 0 rfl) ?_
            refine lv_aload_n hx hb dL_law_25 rfl (lv_at hl 4 rfl) ?_
            refine va_slen hx hb hX hbl hbA hS dL_law_26 ?_
            refine lv_topi (fun z_221 ez_221 => ?_)
            obtain rfl : z_221 = 6 := ez_221.trans rfl
            refine lv_bipush (v := 6) hx hb dL_law_27 (by decide) ?_
            refine lv_isub hx hb dL_law_29 ?_
            refine lv_topi (fun z_222 ez_222 => ?_)
            obtain rfl : z_222 = 0 := ez_222.trans (by decide)
            refine lv_icmp_gt (tgt := 1899) hx hb dL_law_30 (by decide) (fun c_223 => ?_) (fun c_223 => ?_)
            · refine lv_iconst (v := 1) hx hb dL_law_1899 (by decide) ?_
              refine va_forget (fun q hq => by have h9 := hS.2.2 q hq; rw [← hAe] at h9; exact h9) ?_
              refine W.widen (k := 600002) (n := 7302232) (Nat.le_of_ble_eq_true rfl) (Nat.le_of_ble_eq_true rfl) ?_
              exact lw_ret hd0 hx hb hr hlocks dL_law_1900
            · exact absurd (by decide) c_223
          · exact absurd (by decide) c_219
        · exact absurd c_211 c_216
      · refine lv_iconst (v := 1) hx hb dL_law_830 (by decide) ?_
        refine lv_goto (tgt := 835) hx hb dL_law_831 (by decide) ?_
        have hPc := hP.sub (ws' := [(x, .inr (10, fs_x)), (rd, .inr (6, fs_rd)), (tp, .inr (9, fs_tp)), (ra, .inr (5, [.long u0, .long w0])), (li, .inr (3, fs_li)), (ho, .inr (4, fs_ho)), (dr, .inr (3, fs_dr)), (hd, .inr (4, fs_hd))]) [0, 1, 2, 4, 5, 6, 7, 8] rfl
        have hDc := hD.sub (ws' := [(x, .inr (10, fs_x)), (rd, .inr (6, fs_rd)), (tp, .inr (9, fs_tp)), (ra, .inr (5, [.long u0, .long w0])), (li, .inr (3, fs_li)), (ho, .inr (4, fs_ho)), (dr, .inr (3, fs_dr)), (hd, .inr (4, fs_hd))]) [0, 1, 2, 4, 5, 6, 7, 8] (by decide) rfl
        have hKc := hK.sub (tys' := []) [] rfl
        have hFc := va_free (wc := [(x, .inr (10, fs_x)), (rd, .inr (6, fs_rd)), (tp, .inr (9, fs_tp)), (ra, .inr (5, [.long u0, .long w0])), (li, .inr (3, fs_li)), (ho, .inr (4, fs_ho)), (dr, .inr (3, fs_dr)), (hd, .inr (4, fs_hd))]) hD hS hA [0, 1, 2, 4, 5, 6, 7, 8] rfl
        refine va_calll (va_runV (As := [.int (xs (1 : Int32).toNatClampNeg), .int (xs (2 : Int32).toNatClampNeg), .int 1]) (rest := []) ⟨hx, hb, hml, hown, hts⟩ (k_X11_coupon l dC dI H.size x fs_x rd fs_rd tp fs_tp ra [.long u0, .long w0] li fs_li ho fs_ho dr fs_dr hd fs_hd (xs (1 : Int32).toNatClampNeg) (xs (2 : Int32).toNatClampNeg) 1 hn_x hf_x_0 hf_x_3 hf_x_8 hf_x_9 hf_x_10 hn_rd hf_rd_0 hn_tp rfl hn_li hf_li_2 hn_ho hn_dr hf_dr_2 hn_hd) (cwV 3 hts gL0_X11_coupon rfl rfl rfl (by decide +kernel) ⟨Nat.le_of_ble_eq_true rfl, Nat.le_of_ble_eq_true rfl⟩) ⟨fun a U g mk q => by obtain ⟨q0, q1, qP, qK, qD⟩ := q; exact ⟨q0, q1, qP, va_K.moved (u := U) (U := U.calling g mk a) (Vm.Alike.refl U.vm) qK, qD⟩, va_recv hKc hPc (ci := 10) (q0 := 0) rfl rfl, fun U hU hW => ⟨rfl, by rw [hU], by rw [hU]; exact hPc, va_K.moved hW.alike hKc, hDc.weaken (fun _ _ _ _ => trivial)⟩⟩ rfl rfl hl.1 rfl (lv_room (Nat.le_of_ble_eq_true rfl)) dL_law_835 ⟨Nat.le_of_ble_eq_true rfl, Nat.le_of_ble_eq_true rfl⟩) hS (fun q _ h => hFc q h) hFc (fun r_224 u t H1 locs ht hvm hw hB hz1 hk1 hS => ?_)
        obtain ⟨hP1, hK1, hD1⟩ := hB
        rw [ht] at hP1
        have hK1 := va_K.moved hvm.symm hK1
        obtain ⟨hP, hD⟩ := va_join (wr := [(ba, .inl (cB, 900, .inl fb)), (mm, .inr (11, fs_mm)), (mb, .inl (cM, 900, .inl fM))]) (w1 := []) hP hD [0, 1, 2, 4, 5, 6, 7, 8] [3, 9, 10] rfl rfl (by decide) (by decide) hk1 hFc hP1 hD1
        generalize H1 = H at hP hS ⊢
        have hP : va_P (dC, dI) vwCl [(ba, .inl (cB, 900, .inl fb)), (mm, .inr (11, fs_mm)), (mb, .inl (cM, 900, .inl fM))] H := hP
        have hD : va_D A [(ba, .inl (cB, 900, .inl fb)), (mm, .inr (11, fs_mm)), (mb, .inl (cM, 900, .inl fM))] := hD
        have er_224 : r_224 = (-1) := hw
        subst er_224
        refine lv_aload_n hx hb dL_law_838 rfl (lv_at hl 2 rfl) ?_
        refine lv_aload_n hx hb dL_law_839 rfl (lv_at hl 4 rfl) ?_
        refine lv_iload hx hb dL_law_840 (lv_at hl 0 rfl) ?_
        refine lv_iconst (v := 1) hx hb dL_law_842 (by decide) ?_
        refine lv_iadd hx hb dL_law_843 ?_
        refine lv_topi (fun z_225 ez_225 => ?_)
        obtain rfl : z_225 = 1 := ez_225.trans (by decide)
        refine va_sld hx hb hX hbl hbA hS (vp_in_nI (n := 1) (by decide) (by decide)) dL_law_844 ?_
        refine lv_aload_n hx hb dL_law_845 rfl (lv_at hl 4 rfl) ?_
        refine lv_iload hx hb dL_law_846 (lv_at hl 0 rfl) ?_
        refine lv_iconst (v := 2) hx hb dL_law_848 (by decide) ?_
        refine lv_iadd hx hb dL_law_849 ?_
        refine lv_topi (fun z_226 ez_226 => ?_)
        obtain rfl : z_226 = 2 := ez_226.trans (by decide)
        refine va_sld hx hb hX hbl hbA hS (vp_in_nI (n := 2) (by decide) (by decide)) dL_law_850 ?_
        refine lv_aload_n hx hb dL_law_851 rfl (lv_at hl 4 rfl) ?_
        refine lv_iload hx hb dL_law_852 (lv_at hl 0 rfl) ?_
        refine lv_iconst (v := 3) hx hb dL_law_854 (by decide) ?_
        refine lv_iadd hx hb dL_law_855 ?_
        refine lv_topi (fun z_227 ez_227 => ?_)
        obtain rfl : z_227 = 3 := ez_227.trans (by decide)
        refine va_sld hx hb hX hbl hbA hS (vp_in_nI (n := 3) (by decide) (by decide)) dL_law_856 ?_
        refine lv_if_eq (tgt := 864) hx hb dL_law_857 (by decide) (fun c_228 => ?_) (fun c_228 => ?_)
        · exact absurd c_228 c_211
        · refine lv_iconst (v := 1) hx hb dL_law_860 (by decide) ?_
          refine lv_goto (tgt := 865) hx hb dL_law_861 (by decide) ?_
          have hPc := hP.sub (ws' := [(mm, .inr (11, fs_mm))]) [1] rfl
          have hDc := hD.sub (ws' := [(mm, .inr (11, fs_mm))]) [1] (by decide) rfl
          have hKc := hK.sub (tys' := []) [] rfl
          have hFc := va_free (wc := [(mm, .inr (11, fs_mm))]) hD hS hA [1] rfl
          refine va_calll (va_runV (As := [.int (xs (1 : Int32).toNatClampNeg), .int (xs (2 : Int32).toNatClampNeg), .int 1]) (rest := [.long (-1)]) ⟨hx, hb, hml, hown, hts⟩ (k_X12_coupon l dC dI H.size mm fs_mm (xs (1 : Int32).toNatClampNeg) (xs (2 : Int32).toNatClampNeg) 1 hn_mm hf_mm_20) (cwV 3 hts gL0_X12_coupon rfl rfl rfl (by decide +kernel) ⟨Nat.le_of_ble_eq_true rfl, Nat.le_of_ble_eq_true rfl⟩) ⟨fun a U g mk q => by obtain ⟨q0, q1, qP, qK, qD⟩ := q; exact ⟨q0, q1, qP, va_K.moved (u := U) (U := U.calling g mk a) (Vm.Alike.refl U.vm) qK, qD⟩, va_recv hKc hPc (ci := 11) (q0 := 0) rfl rfl, fun U hU hW => ⟨rfl, by rw [hU], by rw [hU]; exact hPc, va_K.moved hW.alike hKc, hDc.weaken (fun _ _ _ _ => trivial)⟩⟩ rfl rfl hl.1 rfl (lv_room (Nat.le_of_ble_eq_true rfl)) dL_law_865 ⟨Nat.le_of_ble_eq_true rfl, Nat.le_of_ble_eq_true rfl⟩) hS (fun q _ h => hFc q h) hFc (fun r_229 u t H1 locs ht hvm hw hB hz1 hk1 hS => ?_)
          obtain ⟨hP1, hK1, hD1⟩ := hB
          rw [ht] at hP1
          have hK1 := va_K.moved hvm.symm hK1
          obtain ⟨hP, hD⟩ := va_join (wr := [(ba, .inl (cB, 900, .inl fb)), (mb, .inl (cM, 900, .inl fM))]) (w1 := []) hP hD [1] [0, 2] rfl rfl (by decide) (by decide) hk1 hFc hP1 hD1
          generalize H1 = H at hP hS ⊢
          have hP : va_P (dC, dI) vwCl [(ba, .inl (cB, 900, .inl fb)), (mb, .inl (cM, 900, .inl fM))] H := hP
          have hD : va_D A [(ba, .inl (cB, 900, .inl fb)), (mb, .inl (cM, 900, .inl fM))] := hD
          have er_229 : r_229 = (-1) := hw
          subst er_229
          refine W.lcmp hx hb dL_law_868 ?_
          refine lv_topi (fun z_230 ez_230 => ?_)
          obtain rfl : z_230 = 0 := ez_230.trans (by decide)
          refine lv_if_eq (tgt := 1893) hx hb dL_law_869 (by decide) (fun c_231 => ?_) (fun c_231 => ?_)
          · refine lv_iinc (v := 6) (lv' := [(4, .int 6), (3, .ref lo), (2, .ref mm), (1, .ref x), (0, .ref b)]) hx hb dL_law_1893 hl (k := 0) rfl (by decide) (by decide) rfl (fun ls hl => ?_)
            refine lv_goto (tgt := 23) hx hb dL_law_1896 (by decide) ?_
            refine lv_iload hx hb dL_law_23 (lv_at hl 0 rfl) ?_
            refine lv_aload_n hx hb dL_law_25 rfl (lv_at hl 4 rfl) ?_
            refine va_slen hx hb hX hbl hbA hS dL_law_26 ?_
            refine lv_topi (fun z_233 ez_233 => ?_)
            obtain rfl : z_233 = 6 := ez_233.trans rfl
            refine lv_bipush (v := 6) hx hb dL_law_27 (by decide) ?_
            refine lv_isub hx hb dL_law_29 ?_
            refine lv_topi (fun z_234 ez_234 => ?_)
            obtain rfl : z_234 = 0 := ez_234.trans (by decide)
            refine lv_icmp_gt (tgt := 1899) hx hb dL_law_30 (by decide) (fun c_235 => ?_) (fun c_235 => ?_)
            · refine lv_iconst (v := 1) hx hb dL_law_1899 (by decide) ?_
              refine va_forget (fun q hq => by have h9 := hS.2.2 q hq; rw [← hAe] at h9; exact h9) ?_
              refine W.widen (k := 600002) (n := 7302232) (Nat.le_of_ble_eq_true rfl) (Nat.le_of_ble_eq_true rfl) ?_
              exact lw_ret hd0 hx hb hr hlocks dL_law_1900
            · exact absurd (by decide) c_235
          · exact absurd (by decide) c_231
    by_cases c_236 : ((xs (0 : Int32).toNatClampNeg) &&& 63) = 15
    · refine lv_tableIn (tgt := 874) hx hb dL_law_40 (by rw [c_236]; decide) (by rw [c_236]; decide) (by rw [c_236]; rfl) (by decide) ?_
      refine lv_aload_n hx hb dL_law_874 rfl (lv_at hl 3 rfl) ?_
      refine lv_aload_n hx hb dL_law_875 rfl (lv_at hl 4 rfl) ?_
      refine lv_iload hx hb dL_law_876 (lv_at hl 0 rfl) ?_
      refine lv_iconst (v := 1) hx hb dL_law_878 (by decide) ?_
      refine lv_iadd hx hb dL_law_879 ?_
      refine lv_topi (fun z_237 ez_237 => ?_)
      obtain rfl : z_237 = 1 := ez_237.trans (by decide)
      refine va_sld hx hb hX hbl hbA hS (vp_in_nI (n := 1) (by decide) (by decide)) dL_law_880 ?_
      refine lv_aload_n hx hb dL_law_881 rfl (lv_at hl 4 rfl) ?_
      refine lv_iload hx hb dL_law_882 (lv_at hl 0 rfl) ?_
      refine lv_iconst (v := 2) hx hb dL_law_884 (by decide) ?_
      refine lv_iadd hx hb dL_law_885 ?_
      refine lv_topi (fun z_238 ez_238 => ?_)
      obtain rfl : z_238 = 2 := ez_238.trans (by decide)
      refine va_sld hx hb hX hbl hbA hS (vp_in_nI (n := 2) (by decide) (by decide)) dL_law_886 ?_
      have hPc := hP.sub (ws' := [(x, .inr (10, fs_x)), (rd, .inr (6, fs_rd)), (tp, .inr (9, fs_tp)), (ra, .inr (5, [.long u0, .long w0])), (li, .inr (3, fs_li)), (ho, .inr (4, fs_ho)), (dr, .inr (3, fs_dr)), (hd, .inr (4, fs_hd))]) [0, 1, 2, 4, 5, 6, 7, 8] rfl
      have hDc := hD.sub (ws' := [(x, .inr (10, fs_x)), (rd, .inr (6, fs_rd)), (tp, .inr (9, fs_tp)), (ra, .inr (5, [.long u0, .long w0])), (li, .inr (3, fs_li)), (ho, .inr (4, fs_ho)), (dr, .inr (3, fs_dr)), (hd, .inr (4, fs_hd))]) [0, 1, 2, 4, 5, 6, 7, 8] (by decide) rfl
      have hKc := hK.sub (tys' := []) [] rfl
      have hFc := va_free (wc := [(x, .inr (10, fs_x)), (rd, .inr (6, fs_rd)), (tp, .inr (9, fs_tp)), (ra, .inr (5, [.long u0, .long w0])), (li, .inr (3, fs_li)), (ho, .inr (4, fs_ho)), (dr, .inr (3, fs_dr)), (hd, .inr (4, fs_hd))]) hD hS hA [0, 1, 2, 4, 5, 6, 7, 8] rfl
      refine va_calli (va_runV (As := [.int (xs (1 : Int32).toNatClampNeg), .int (xs (2 : Int32).toNatClampNeg)]) (rest := []) ⟨hx, hb, hml, hown, hts⟩ (k_X11_line l dC dI H.size x fs_x rd fs_rd tp fs_tp ra [.long u0, .long w0] li fs_li ho fs_ho dr fs_dr hd fs_hd (xs (1 : Int32).toNatClampNeg) (xs (2 : Int32).toNatClampNeg) hn_x hf_x_0 hf_x_3 hf_x_8 hf_x_9 hf_x_10 hn_rd hf_rd_0 hn_tp rfl hn_li hf_li_2 hn_ho hn_dr hf_dr_2 hn_hd) (cwV 2 hts gL0_X11_line rfl rfl rfl (by decide +kernel) ⟨Nat.le_of_ble_eq_true rfl, Nat.le_of_ble_eq_true rfl⟩) ⟨fun a U g mk q => by obtain ⟨q0, q1, qP, qK, qD⟩ := q; exact ⟨q0, q1, qP, va_K.moved (u := U) (U := U.calling g mk a) (Vm.Alike.refl U.vm) qK, qD⟩, va_recv hKc hPc (ci := 10) (q0 := 0) rfl rfl, fun U hU hW => ⟨rfl, by rw [hU], by rw [hU]; exact hPc, va_K.moved hW.alike hKc, hDc.weaken (fun _ _ _ _ => trivial)⟩⟩ rfl rfl hl.1 rfl (lv_room (Nat.le_of_ble_eq_true rfl)) dL_law_887 ⟨Nat.le_of_ble_eq_true rfl, Nat.le_of_ble_eq_true rfl⟩) hS (fun q _ h => hFc q h) hFc (fun r_239 u t H1 locs ht hvm hw hB hz1 hk1 hS => ?_)
      obtain ⟨hP1, hK1, hD1⟩ := hB
      rw [ht] at hP1
      have hK1 := va_K.moved hvm.symm hK1
      obtain ⟨hP, hD⟩ := va_join (wr := [(ba, .inl (cB, 900, .inl fb)), (mm, .inr (11, fs_mm)), (mb, .inl (cM, 900, .inl fM))]) (w1 := []) hP hD [0, 1, 2, 4, 5, 6, 7, 8] [3, 9, 10] rfl rfl (by decide) (by decide) hk1 hFc hP1 hD1
      generalize H1 = H at hP hS ⊢
      have hP : va_P (dC, dI) vwCl [(ba, .inl (cB, 900, .inl fb)), (mm, .inr (11, fs_mm)), (mb, .inl (cM, 900, .inl fM))] H := hP
      have hD : va_D A [(ba, .inl (cB, 900, .inl fb)), (mm, .inr (11, fs_mm)), (mb, .inl (cM, 900, .inl fM))] := hD
      have er_239 : r_239 = (-1) := hw
      subst er_239
      refine lv_aload_n hx hb dL_law_890 rfl (lv_at hl 2 rfl) ?_
      refine lv_aload_n hx hb dL_law_891 rfl (lv_at hl 4 rfl) ?_
      refine lv_iload hx hb dL_law_892 (lv_at hl 0 rfl) ?_
      refine lv_iconst (v := 1) hx hb dL_law_894 (by decide) ?_
      refine lv_iadd hx hb dL_law_895 ?_
      refine lv_topi (fun z_240 ez_240 => ?_)
      obtain rfl : z_240 = 1 := ez_240.trans (by decide)
      refine va_sld hx hb hX hbl hbA hS (vp_in_nI (n := 1) (by decide) (by decide)) dL_law_896 ?_
      refine lv_aload_n hx hb dL_law_897 rfl (lv_at hl 4 rfl) ?_
      refine lv_iload hx hb dL_law_898 (lv_at hl 0 rfl) ?_
      refine lv_iconst (v := 2) hx hb dL_law_900 (by decide) ?_
      refine lv_iadd hx hb dL_law_901 ?_
      refine lv_topi (fun z_241 ez_241 => ?_)
      obtain rfl : z_241 = 2 := ez_241.trans (by decide)
      refine va_sld hx hb hX hbl hbA hS (vp_in_nI (n := 2) (by decide) (by decide)) dL_law_902 ?_
      have hPc := hP.sub (ws' := [(mm, .inr (11, fs_mm))]) [1] rfl
      have hDc := hD.sub (ws' := [(mm, .inr (11, fs_mm))]) [1] (by decide) rfl
      have hKc := hK.sub (tys' := []) [] rfl
      have hFc := va_free (wc := [(mm, .inr (11, fs_mm))]) hD hS hA [1] rfl
      refine va_calli (va_runV (As := [.int (xs (1 : Int32).toNatClampNeg), .int (xs (2 : Int32).toNatClampNeg)]) (rest := [.int (-1)]) ⟨hx, hb, hml, hown, hts⟩ (k_X12_line l dC dI H.size mm fs_mm (xs (1 : Int32).toNatClampNeg) (xs (2 : Int32).toNatClampNeg) hn_mm hf_mm_20) (cwV 2 hts gL0_X12_line rfl rfl rfl (by decide +kernel) ⟨Nat.le_of_ble_eq_true rfl, Nat.le_of_ble_eq_true rfl⟩) ⟨fun a U g mk q => by obtain ⟨q0, q1, qP, qK, qD⟩ := q; exact ⟨q0, q1, qP, va_K.moved (u := U) (U := U.calling g mk a) (Vm.Alike.refl U.vm) qK, qD⟩, va_recv hKc hPc (ci := 11) (q0 := 0) rfl rfl, fun U hU hW => ⟨rfl, by rw [hU], by rw [hU]; exact hPc, va_K.moved hW.alike hKc, hDc.weaken (fun _ _ _ _ => trivial)⟩⟩ rfl rfl hl.1 rfl (lv_room (Nat.le_of_ble_eq_true rfl)) dL_law_903 ⟨Nat.le_of_ble_eq_true rfl, Nat.le_of_ble_eq_true rfl⟩) hS (fun q _ h => hFc q h) hFc (fun r_242 u t H1 locs ht hvm hw hB hz1 hk1 hS => ?_)
      obtain ⟨hP1, hK1, hD1⟩ := hB
      rw [ht] at hP1
      have hK1 := va_K.moved hvm.symm hK1
      obtain ⟨hP, hD⟩ := va_join (wr := [(ba, .inl (cB, 900, .inl fb)), (mb, .inl (cM, 900, .inl fM))]) (w1 := []) hP hD [1] [0, 2] rfl rfl (by decide) (by decide) hk1 hFc hP1 hD1
      generalize H1 = H at hP hS ⊢
      have hP : va_P (dC, dI) vwCl [(ba, .inl (cB, 900, .inl fb)), (mb, .inl (cM, 900, .inl fM))] H := hP
      have hD : va_D A [(ba, .inl (cB, 900, .inl fb)), (mb, .inl (cM, 900, .inl fM))] := hD
      have er_242 : r_242 = (-1) := hw
      subst er_242
      refine lv_icmp_eq (tgt := 1893) hx hb dL_law_906 (by decide) (fun c_243 => ?_) (fun c_243 => ?_)
      · refine lv_iinc (v := 6) (lv' := [(4, .int 6), (3, .ref lo), (2, .ref mm), (1, .ref x), (0, .ref b)]) hx hb dL_law_1893 hl (k := 0) rfl (by decide) (by decide) rfl (fun ls hl => ?_)
        refine lv_goto (tgt := 23) hx hb dL_law_1896 (by decide) ?_
        refine lv_iload hx hb dL_law_23 (lv_at hl 0 rfl) ?_
        refine lv_aload_n hx hb dL_law_25 rfl (lv_at hl 4 rfl) ?_
        refine va_slen hx hb hX hbl hbA hS dL_law_26 ?_
        refine lv_topi (fun z_245 ez_245 => ?_)
        obtain rfl : z_245 = 6 := ez_245.trans rfl
        refine lv_bipush (v := 6) hx hb dL_law_27 (by decide) ?_
        refine lv_isub hx hb dL_law_29 ?_
        refine lv_topi (fun z_246 ez_246 => ?_)
        obtain rfl : z_246 = 0 := ez_246.trans (by decide)
        refine lv_icmp_gt (tgt := 1899) hx hb dL_law_30 (by decide) (fun c_247 => ?_) (fun c_247 => ?_)
        · refine lv_iconst (v := 1) hx hb dL_law_1899 (by decide) ?_
          refine va_forget (fun q hq => by have h9 := hS.2.2 q hq; rw [← hAe] at h9; exact h9) ?_
          refine W.widen (k := 600002) (n := 7302232) (Nat.le_of_ble_eq_true rfl) (Nat.le_of_ble_eq_true rfl) ?_
          exact lw_ret hd0 hx hb hr hlocks dL_law_1900
        · exact absurd (by decide) c_247
      · exact absurd (by decide) c_243
    by_cases c_248 : ((xs (0 : Int32).toNatClampNeg) &&& 63) = 16
    · refine lv_tableIn (tgt := 911) hx hb dL_law_40 (by rw [c_248]; decide) (by rw [c_248]; decide) (by rw [c_248]; rfl) (by decide) ?_
      refine lv_aload_n hx hb dL_law_911 rfl (lv_at hl 3 rfl) ?_
      refine lv_aload_n hx hb dL_law_912 rfl (lv_at hl 4 rfl) ?_
      refine lv_iload hx hb dL_law_913 (lv_at hl 0 rfl) ?_
      refine lv_iconst (v := 1) hx hb dL_law_915 (by decide) ?_
      refine lv_iadd hx hb dL_law_916 ?_
      refine lv_topi (fun z_249 ez_249 => ?_)
      obtain rfl : z_249 = 1 := ez_249.trans (by decide)
      refine va_sld hx hb hX hbl hbA hS (vp_in_nI (n := 1) (by decide) (by decide)) dL_law_917 ?_
      refine lv_aload_n hx hb dL_law_918 rfl (lv_at hl 4 rfl) ?_
      refine lv_iload hx hb dL_law_919 (lv_at hl 0 rfl) ?_
      refine lv_iconst (v := 2) hx hb dL_law_921 (by decide) ?_
      refine lv_iadd hx hb dL_law_922 ?_
      refine lv_topi (fun z_250 ez_250 => ?_)
      obtain rfl : z_250 = 2 := ez_250.trans (by decide)
      refine va_sld hx hb hX hbl hbA hS (vp_in_nI (n := 2) (by decide) (by decide)) dL_law_923 ?_
      refine lv_aload_n hx hb dL_law_924 rfl (lv_at hl 4 rfl) ?_
      refine lv_iload hx hb dL_law_925 (lv_at hl 0 rfl) ?_
      refine lv_iconst (v := 3) hx hb dL_law_927 (by decide) ?_
      refine lv_iadd hx hb dL_law_928 ?_
      refine lv_topi (fun z_251 ez_251 => ?_)
      obtain rfl : z_251 = 3 := ez_251.trans (by decide)
      refine va_sld hx hb hX hbl hbA hS (vp_in_nI (n := 3) (by decide) (by decide)) dL_law_929 ?_
      have hPc := hP.sub (ws' := [(x, .inr (10, fs_x)), (rd, .inr (6, fs_rd)), (tp, .inr (9, fs_tp)), (ra, .inr (5, [.long u0, .long w0])), (li, .inr (3, fs_li)), (ho, .inr (4, fs_ho)), (dr, .inr (3, fs_dr)), (hd, .inr (4, fs_hd))]) [0, 1, 2, 4, 5, 6, 7, 8] rfl
      have hDc := hD.sub (ws' := [(x, .inr (10, fs_x)), (rd, .inr (6, fs_rd)), (tp, .inr (9, fs_tp)), (ra, .inr (5, [.long u0, .long w0])), (li, .inr (3, fs_li)), (ho, .inr (4, fs_ho)), (dr, .inr (3, fs_dr)), (hd, .inr (4, fs_hd))]) [0, 1, 2, 4, 5, 6, 7, 8] (by decide) rfl
      have hKc := hK.sub (tys' := []) [] rfl
      have hFc := va_free (wc := [(x, .inr (10, fs_x)), (rd, .inr (6, fs_rd)), (tp, .inr (9, fs_tp)), (ra, .inr (5, [.long u0, .long w0])), (li, .inr (3, fs_li)), (ho, .inr (4, fs_ho)), (dr, .inr (3, fs_dr)), (hd, .inr (4, fs_hd))]) hD hS hA [0, 1, 2, 4, 5, 6, 7, 8] rfl
      refine va_calli (va_runV (As := [.int (xs (1 : Int32).toNatClampNeg), .int (xs (2 : Int32).toNatClampNeg), .int (xs (3 : Int32).toNatClampNeg)]) (rest := []) ⟨hx, hb, hml, hown, hts⟩ (k_X11_sign l dC dI H.size x fs_x rd fs_rd tp fs_tp ra [.long u0, .long w0] li fs_li ho fs_ho dr fs_dr hd fs_hd (xs (1 : Int32).toNatClampNeg) (xs (2 : Int32).toNatClampNeg) (xs (3 : Int32).toNatClampNeg) hn_x hf_x_0 hf_x_3 hf_x_8 hf_x_9 hf_x_10 hn_rd hf_rd_0 hn_tp rfl hn_li hf_li_2 hn_ho hn_dr hf_dr_2 hn_hd) (cwV 3 hts gL0_X11_sign rfl rfl rfl (by decide +kernel) ⟨Nat.le_of_ble_eq_true rfl, Nat.le_of_ble_eq_true rfl⟩) ⟨fun a U g mk q => by obtain ⟨q0, q1, qP, qK, qD⟩ := q; exact ⟨q0, q1, qP, va_K.moved (u := U) (U := U.calling g mk a) (Vm.Alike.refl U.vm) qK, qD⟩, va_recv hKc hPc (ci := 10) (q0 := 0) rfl rfl, fun U hU hW => ⟨rfl, by rw [hU], by rw [hU]; exact hPc, va_K.moved hW.alike hKc, hDc.weaken (fun _ _ _ _ => trivial)⟩⟩ rfl rfl hl.1 rfl (lv_room (Nat.le_of_ble_eq_true rfl)) dL_law_930 ⟨Nat.le_of_ble_eq_true rfl, Nat.le_of_ble_eq_true rfl⟩) hS (fun q _ h => hFc q h) hFc (fun r_252 u t H1 locs ht hvm hw hB hz1 hk1 hS => ?_)
      obtain ⟨hP1, hK1, hD1⟩ := hB
      rw [ht] at hP1
      have hK1 := va_K.moved hvm.symm hK1
      obtain ⟨hP, hD⟩ := va_join (wr := [(ba, .inl (cB, 900, .inl fb)), (mm, .inr (11, fs_mm)), (mb, .inl (cM, 900, .inl fM))]) (w1 := []) hP hD [0, 1, 2, 4, 5, 6, 7, 8] [3, 9, 10] rfl rfl (by decide) (by decide) hk1 hFc hP1 hD1
      generalize H1 = H at hP hS ⊢
      have hP : va_P (dC, dI) vwCl [(ba, .inl (cB, 900, .inl fb)), (mm, .inr (11, fs_mm)), (mb, .inl (cM, 900, .inl fM))] H := hP
      have hD : va_D A [(ba, .inl (cB, 900, .inl fb)), (mm, .inr (11, fs_mm)), (mb, .inl (cM, 900, .inl fM))] := hD
      have er_252 : r_252 = (-1) := hw
      subst er_252
      refine lv_aload_n hx hb dL_law_933 rfl (lv_at hl 2 rfl) ?_
      refine lv_aload_n hx hb dL_law_934 rfl (lv_at hl 4 rfl) ?_
      refine lv_iload hx hb dL_law_935 (lv_at hl 0 rfl) ?_
      refine lv_iconst (v := 1) hx hb dL_law_937 (by decide) ?_
      refine lv_iadd hx hb dL_law_938 ?_
      refine lv_topi (fun z_253 ez_253 => ?_)
      obtain rfl : z_253 = 1 := ez_253.trans (by decide)
      refine va_sld hx hb hX hbl hbA hS (vp_in_nI (n := 1) (by decide) (by decide)) dL_law_939 ?_
      refine lv_aload_n hx hb dL_law_940 rfl (lv_at hl 4 rfl) ?_
      refine lv_iload hx hb dL_law_941 (lv_at hl 0 rfl) ?_
      refine lv_iconst (v := 2) hx hb dL_law_943 (by decide) ?_
      refine lv_iadd hx hb dL_law_944 ?_
      refine lv_topi (fun z_254 ez_254 => ?_)
      obtain rfl : z_254 = 2 := ez_254.trans (by decide)
      refine va_sld hx hb hX hbl hbA hS (vp_in_nI (n := 2) (by decide) (by decide)) dL_law_945 ?_
      refine lv_aload_n hx hb dL_law_946 rfl (lv_at hl 4 rfl) ?_
      refine lv_iload hx hb dL_law_947 (lv_at hl 0 rfl) ?_
      refine lv_iconst (v := 3) hx hb dL_law_949 (by decide) ?_
      refine lv_iadd hx hb dL_law_950 ?_
      refine lv_topi (fun z_255 ez_255 => ?_)
      obtain rfl : z_255 = 3 := ez_255.trans (by decide)
      refine va_sld hx hb hX hbl hbA hS (vp_in_nI (n := 3) (by decide) (by decide)) dL_law_951 ?_
      have hPc := hP.sub (ws' := [(mm, .inr (11, fs_mm))]) [1] rfl
      have hDc := hD.sub (ws' := [(mm, .inr (11, fs_mm))]) [1] (by decide) rfl
      have hKc := hK.sub (tys' := []) [] rfl
      have hFc := va_free (wc := [(mm, .inr (11, fs_mm))]) hD hS hA [1] rfl
      refine va_calli (va_runV (As := [.int (xs (1 : Int32).toNatClampNeg), .int (xs (2 : Int32).toNatClampNeg), .int (xs (3 : Int32).toNatClampNeg)]) (rest := [.int (-1)]) ⟨hx, hb, hml, hown, hts⟩ (k_X12_sign l dC dI H.size mm fs_mm (xs (1 : Int32).toNatClampNeg) (xs (2 : Int32).toNatClampNeg) (xs (3 : Int32).toNatClampNeg) hn_mm hf_mm_20) (cwV 3 hts gL0_X12_sign rfl rfl rfl (by decide +kernel) ⟨Nat.le_of_ble_eq_true rfl, Nat.le_of_ble_eq_true rfl⟩) ⟨fun a U g mk q => by obtain ⟨q0, q1, qP, qK, qD⟩ := q; exact ⟨q0, q1, qP, va_K.moved (u := U) (U := U.calling g mk a) (Vm.Alike.refl U.vm) qK, qD⟩, va_recv hKc hPc (ci := 11) (q0 := 0) rfl rfl, fun U hU hW => ⟨rfl, by rw [hU], by rw [hU]; exact hPc, va_K.moved hW.alike hKc, hDc.weaken (fun _ _ _ _ => trivial)⟩⟩ rfl rfl hl.1 rfl (lv_room (Nat.le_of_ble_eq_true rfl)) dL_law_952 ⟨Nat.le_of_ble_eq_true rfl, Nat.le_of_ble_eq_true rfl⟩) hS (fun q _ h => hFc q h) hFc (fun r_256 u t H1 locs ht hvm hw hB hz1 hk1 hS => ?_)
      obtain ⟨hP1, hK1, hD1⟩ := hB
      rw [ht] at hP1
      have hK1 := va_K.moved hvm.symm hK1
      obtain ⟨hP, hD⟩ := va_join (wr := [(ba, .inl (cB, 900, .inl fb)), (mb, .inl (cM, 900, .inl fM))]) (w1 := []) hP hD [1] [0, 2] rfl rfl (by decide) (by decide) hk1 hFc hP1 hD1
      generalize H1 = H at hP hS ⊢
      have hP : va_P (dC, dI) vwCl [(ba, .inl (cB, 900, .inl fb)), (mb, .inl (cM, 900, .inl fM))] H := hP
      have hD : va_D A [(ba, .inl (cB, 900, .inl fb)), (mb, .inl (cM, 900, .inl fM))] := hD
      have er_256 : r_256 = (-1) := hw
      subst er_256
      refine lv_icmp_eq (tgt := 1893) hx hb dL_law_955 (by decide) (fun c_257 => ?_) (fun c_257 => ?_)
      · refine lv_iinc (v := 6) (lv' := [(4, .int 6), (3, .ref lo), (2, .ref mm), (1, .ref x), (0, .ref b)]) hx hb dL_law_1893 hl (k := 0) rfl (by decide) (by decide) rfl (fun ls hl => ?_)
        refine lv_goto (tgt := 23) hx hb dL_law_1896 (by decide) ?_
        refine lv_iload hx hb dL_law_23 (lv_at hl 0 rfl) ?_
        refine lv_aload_n hx hb dL_law_25 rfl (lv_at hl 4 rfl) ?_
        refine va_slen hx hb hX hbl hbA hS dL_law_26 ?_
        refine lv_topi (fun z_259 ez_259 => ?_)
        obtain rfl : z_259 = 6 := ez_259.trans rfl
        refine lv_bipush (v := 6) hx hb dL_law_27 (by decide) ?_
        refine lv_isub hx hb dL_law_29 ?_
        refine lv_topi (fun z_260 ez_260 => ?_)
        obtain rfl : z_260 = 0 := ez_260.trans (by decide)
        refine lv_icmp_gt (tgt := 1899) hx hb dL_law_30 (by decide) (fun c_261 => ?_) (fun c_261 => ?_)
        · refine lv_iconst (v := 1) hx hb dL_law_1899 (by decide) ?_
          refine va_forget (fun q hq => by have h9 := hS.2.2 q hq; rw [← hAe] at h9; exact h9) ?_
          refine W.widen (k := 600002) (n := 7302232) (Nat.le_of_ble_eq_true rfl) (Nat.le_of_ble_eq_true rfl) ?_
          exact lw_ret hd0 hx hb hr hlocks dL_law_1900
        · exact absurd (by decide) c_261
      · exact absurd (by decide) c_257
    by_cases c_262 : ((xs (0 : Int32).toNatClampNeg) &&& 63) = 17
    · refine lv_tableIn (tgt := 960) hx hb dL_law_40 (by rw [c_262]; decide) (by rw [c_262]; decide) (by rw [c_262]; rfl) (by decide) ?_
      refine lv_aload_n hx hb dL_law_960 rfl (lv_at hl 3 rfl) ?_
      refine lv_aload_n hx hb dL_law_961 rfl (lv_at hl 4 rfl) ?_
      refine lv_iload hx hb dL_law_962 (lv_at hl 0 rfl) ?_
      refine lv_iconst (v := 1) hx hb dL_law_964 (by decide) ?_
      refine lv_iadd hx hb dL_law_965 ?_
      refine lv_topi (fun z_263 ez_263 => ?_)
      obtain rfl : z_263 = 1 := ez_263.trans (by decide)
      refine va_sld hx hb hX hbl hbA hS (vp_in_nI (n := 1) (by decide) (by decide)) dL_law_966 ?_
      refine lv_aload_n hx hb dL_law_967 rfl (lv_at hl 4 rfl) ?_
      refine lv_iload hx hb dL_law_968 (lv_at hl 0 rfl) ?_
      refine lv_iconst (v := 2) hx hb dL_law_970 (by decide) ?_
      refine lv_iadd hx hb dL_law_971 ?_
      refine lv_topi (fun z_264 ez_264 => ?_)
      obtain rfl : z_264 = 2 := ez_264.trans (by decide)
      refine va_sld hx hb hX hbl hbA hS (vp_in_nI (n := 2) (by decide) (by decide)) dL_law_972 ?_
      have hPc := hP.sub (ws' := [(x, .inr (10, fs_x)), (rd, .inr (6, fs_rd)), (tp, .inr (9, fs_tp)), (ra, .inr (5, [.long u0, .long w0])), (li, .inr (3, fs_li)), (ho, .inr (4, fs_ho)), (dr, .inr (3, fs_dr)), (hd, .inr (4, fs_hd))]) [0, 1, 2, 4, 5, 6, 7, 8] rfl
      have hDc := hD.sub (ws' := [(x, .inr (10, fs_x)), (rd, .inr (6, fs_rd)), (tp, .inr (9, fs_tp)), (ra, .inr (5, [.long u0, .long w0])), (li, .inr (3, fs_li)), (ho, .inr (4, fs_ho)), (dr, .inr (3, fs_dr)), (hd, .inr (4, fs_hd))]) [0, 1, 2, 4, 5, 6, 7, 8] (by decide) rfl
      have hKc := hK.sub (tys' := []) [] rfl
      have hFc := va_free (wc := [(x, .inr (10, fs_x)), (rd, .inr (6, fs_rd)), (tp, .inr (9, fs_tp)), (ra, .inr (5, [.long u0, .long w0])), (li, .inr (3, fs_li)), (ho, .inr (4, fs_ho)), (dr, .inr (3, fs_dr)), (hd, .inr (4, fs_hd))]) hD hS hA [0, 1, 2, 4, 5, 6, 7, 8] rfl
      refine va_calli (va_runV (As := [.int (xs (1 : Int32).toNatClampNeg), .int (xs (2 : Int32).toNatClampNeg)]) (rest := []) ⟨hx, hb, hml, hown, hts⟩ (k_X11_current l dC dI H.size x fs_x rd fs_rd tp fs_tp ra [.long u0, .long w0] li fs_li ho fs_ho dr fs_dr hd fs_hd (xs (1 : Int32).toNatClampNeg) (xs (2 : Int32).toNatClampNeg) hn_x hf_x_0 hf_x_3 hf_x_8 hf_x_9 hf_x_10 hn_rd hf_rd_0 hn_tp rfl hn_li hf_li_2 hn_ho hn_dr hf_dr_2 hn_hd) (cwV 2 hts gL0_X11_current rfl rfl rfl (by decide +kernel) ⟨Nat.le_of_ble_eq_true rfl, Nat.le_of_ble_eq_true rfl⟩) ⟨fun a U g mk q => by obtain ⟨q0, q1, qP, qK, qD⟩ := q; exact ⟨q0, q1, qP, va_K.moved (u := U) (U := U.calling g mk a) (Vm.Alike.refl U.vm) qK, qD⟩, va_recv hKc hPc (ci := 10) (q0 := 0) rfl rfl, fun U hU hW => ⟨rfl, by rw [hU], by rw [hU]; exact hPc, va_K.moved hW.alike hKc, hDc.weaken (fun _ _ _ _ => trivial)⟩⟩ rfl rfl hl.1 rfl (lv_room (Nat.le_of_ble_eq_true rfl)) dL_law_973 ⟨Nat.le_of_ble_eq_true rfl, Nat.le_of_ble_eq_true rfl⟩) hS (fun q _ h => hFc q h) hFc (fun r_265 u t H1 locs ht hvm hw hB hz1 hk1 hS => ?_)
      obtain ⟨hP1, hK1, hD1⟩ := hB
      rw [ht] at hP1
      have hK1 := va_K.moved hvm.symm hK1
      obtain ⟨hP, hD⟩ := va_join (wr := [(ba, .inl (cB, 900, .inl fb)), (mm, .inr (11, fs_mm)), (mb, .inl (cM, 900, .inl fM))]) (w1 := []) hP hD [0, 1, 2, 4, 5, 6, 7, 8] [3, 9, 10] rfl rfl (by decide) (by decide) hk1 hFc hP1 hD1
      generalize H1 = H at hP hS ⊢
      have hP : va_P (dC, dI) vwCl [(ba, .inl (cB, 900, .inl fb)), (mm, .inr (11, fs_mm)), (mb, .inl (cM, 900, .inl fM))] H := hP
      have hD : va_D A [(ba, .inl (cB, 900, .inl fb)), (mm, .inr (11, fs_mm)), (mb, .inl (cM, 900, .inl fM))] := hD
      have er_265 : r_265 = (-1) := hw
      subst er_265
      refine lv_aload_n hx hb dL_law_976 rfl (lv_at hl 2 rfl) ?_
      refine lv_aload_n hx hb dL_law_977 rfl (lv_at hl 4 rfl) ?_
      refine lv_iload hx hb dL_law_978 (lv_at hl 0 rfl) ?_
      refine lv_iconst (v := 1) hx hb dL_law_980 (by decide) ?_
      refine lv_iadd hx hb dL_law_981 ?_
      refine lv_topi (fun z_266 ez_266 => ?_)
      obtain rfl : z_266 = 1 := ez_266.trans (by decide)
      refine va_sld hx hb hX hbl hbA hS (vp_in_nI (n := 1) (by decide) (by decide)) dL_law_982 ?_
      refine lv_aload_n hx hb dL_law_983 rfl (lv_at hl 4 rfl) ?_
      refine lv_iload hx hb dL_law_984 (lv_at hl 0 rfl) ?_
      refine lv_iconst (v := 2) hx hb dL_law_986 (by decide) ?_
      refine lv_iadd hx hb dL_law_987 ?_
      refine lv_topi (fun z_267 ez_267 => ?_)
      obtain rfl : z_267 = 2 := ez_267.trans (by decide)
      refine va_sld hx hb hX hbl hbA hS (vp_in_nI (n := 2) (by decide) (by decide)) dL_law_988 ?_
      have hPc := hP.sub (ws' := [(mm, .inr (11, fs_mm))]) [1] rfl
      have hDc := hD.sub (ws' := [(mm, .inr (11, fs_mm))]) [1] (by decide) rfl
      have hKc := hK.sub (tys' := []) [] rfl
      have hFc := va_free (wc := [(mm, .inr (11, fs_mm))]) hD hS hA [1] rfl
      refine va_calli (va_runV (As := [.int (xs (1 : Int32).toNatClampNeg), .int (xs (2 : Int32).toNatClampNeg)]) (rest := [.int (-1)]) ⟨hx, hb, hml, hown, hts⟩ (k_X12_current l dC dI H.size mm fs_mm (xs (1 : Int32).toNatClampNeg) (xs (2 : Int32).toNatClampNeg) hn_mm hf_mm_20) (cwV 2 hts gL0_X12_current rfl rfl rfl (by decide +kernel) ⟨Nat.le_of_ble_eq_true rfl, Nat.le_of_ble_eq_true rfl⟩) ⟨fun a U g mk q => by obtain ⟨q0, q1, qP, qK, qD⟩ := q; exact ⟨q0, q1, qP, va_K.moved (u := U) (U := U.calling g mk a) (Vm.Alike.refl U.vm) qK, qD⟩, va_recv hKc hPc (ci := 11) (q0 := 0) rfl rfl, fun U hU hW => ⟨rfl, by rw [hU], by rw [hU]; exact hPc, va_K.moved hW.alike hKc, hDc.weaken (fun _ _ _ _ => trivial)⟩⟩ rfl rfl hl.1 rfl (lv_room (Nat.le_of_ble_eq_true rfl)) dL_law_989 ⟨Nat.le_of_ble_eq_true rfl, Nat.le_of_ble_eq_true rfl⟩) hS (fun q _ h => hFc q h) hFc (fun r_268 u t H1 locs ht hvm hw hB hz1 hk1 hS => ?_)
      obtain ⟨hP1, hK1, hD1⟩ := hB
      rw [ht] at hP1
      have hK1 := va_K.moved hvm.symm hK1
      obtain ⟨hP, hD⟩ := va_join (wr := [(ba, .inl (cB, 900, .inl fb)), (mb, .inl (cM, 900, .inl fM))]) (w1 := []) hP hD [1] [0, 2] rfl rfl (by decide) (by decide) hk1 hFc hP1 hD1
      generalize H1 = H at hP hS ⊢
      have hP : va_P (dC, dI) vwCl [(ba, .inl (cB, 900, .inl fb)), (mb, .inl (cM, 900, .inl fM))] H := hP
      have hD : va_D A [(ba, .inl (cB, 900, .inl fb)), (mb, .inl (cM, 900, .inl fM))] := hD
      have er_268 : r_268 = (-1) := hw
      subst er_268
      refine lv_icmp_eq (tgt := 1893) hx hb dL_law_992 (by decide) (fun c_269 => ?_) (fun c_269 => ?_)
      · refine lv_iinc (v := 6) (lv' := [(4, .int 6), (3, .ref lo), (2, .ref mm), (1, .ref x), (0, .ref b)]) hx hb dL_law_1893 hl (k := 0) rfl (by decide) (by decide) rfl (fun ls hl => ?_)
        refine lv_goto (tgt := 23) hx hb dL_law_1896 (by decide) ?_
        refine lv_iload hx hb dL_law_23 (lv_at hl 0 rfl) ?_
        refine lv_aload_n hx hb dL_law_25 rfl (lv_at hl 4 rfl) ?_
        refine va_slen hx hb hX hbl hbA hS dL_law_26 ?_
        refine lv_topi (fun z_271 ez_271 => ?_)
        obtain rfl : z_271 = 6 := ez_271.trans rfl
        refine lv_bipush (v := 6) hx hb dL_law_27 (by decide) ?_
        refine lv_isub hx hb dL_law_29 ?_
        refine lv_topi (fun z_272 ez_272 => ?_)
        obtain rfl : z_272 = 0 := ez_272.trans (by decide)
        refine lv_icmp_gt (tgt := 1899) hx hb dL_law_30 (by decide) (fun c_273 => ?_) (fun c_273 => ?_)
        · refine lv_iconst (v := 1) hx hb dL_law_1899 (by decide) ?_
          refine va_forget (fun q hq => by have h9 := hS.2.2 q hq; rw [← hAe] at h9; exact h9) ?_
          refine W.widen (k := 600002) (n := 7302232) (Nat.le_of_ble_eq_true rfl) (Nat.le_of_ble_eq_true rfl) ?_
          exact lw_ret hd0 hx hb hr hlocks dL_law_1900
        · exact absurd (by decide) c_273
      · exact absurd (by decide) c_269
    by_cases c_274 : ((xs (0 : Int32).toNatClampNeg) &&& 63) = 18
    · refine lv_tableIn (tgt := 997) hx hb dL_law_40 (by rw [c_274]; decide) (by rw [c_274]; decide) (by rw [c_274]; rfl) (by decide) ?_
      refine lv_aload_n hx hb dL_law_997 rfl (lv_at hl 3 rfl) ?_
      refine lv_aload_n hx hb dL_law_998 rfl (lv_at hl 4 rfl) ?_
      refine lv_iload hx hb dL_law_999 (lv_at hl 0 rfl) ?_
      refine lv_iconst (v := 1) hx hb dL_law_1001 (by decide) ?_
      refine lv_iadd hx hb dL_law_1002 ?_
      refine lv_topi (fun z_275 ez_275 => ?_)
      obtain rfl : z_275 = 1 := ez_275.trans (by decide)
      refine va_sld hx hb hX hbl hbA hS (vp_in_nI (n := 1) (by decide) (by decide)) dL_law_1003 ?_
      refine lv_aload_n hx hb dL_law_1004 rfl (lv_at hl 4 rfl) ?_
      refine lv_iload hx hb dL_law_1005 (lv_at hl 0 rfl) ?_
      refine lv_iconst (v := 2) hx hb dL_law_1007 (by decide) ?_
      refine lv_iadd hx hb dL_law_1008 ?_
      refine lv_topi (fun z_276 ez_276 => ?_)
      obtain rfl : z_276 = 2 := ez_276.trans (by decide)
      refine va_sld hx hb hX hbl hbA hS (vp_in_nI (n := 2) (by decide) (by decide)) dL_law_1009 ?_
      have hPc := hP.sub (ws' := [(x, .inr (10, fs_x)), (rd, .inr (6, fs_rd)), (tp, .inr (9, fs_tp)), (ra, .inr (5, [.long u0, .long w0])), (li, .inr (3, fs_li)), (ho, .inr (4, fs_ho)), (dr, .inr (3, fs_dr)), (hd, .inr (4, fs_hd))]) [0, 1, 2, 4, 5, 6, 7, 8] rfl
      have hDc := hD.sub (ws' := [(x, .inr (10, fs_x)), (rd, .inr (6, fs_rd)), (tp, .inr (9, fs_tp)), (ra, .inr (5, [.long u0, .long w0])), (li, .inr (3, fs_li)), (ho, .inr (4, fs_ho)), (dr, .inr (3, fs_dr)), (hd, .inr (4, fs_hd))]) [0, 1, 2, 4, 5, 6, 7, 8] (by decide) rfl
      have hKc := hK.sub (tys' := []) [] rfl
      have hFc := va_free (wc := [(x, .inr (10, fs_x)), (rd, .inr (6, fs_rd)), (tp, .inr (9, fs_tp)), (ra, .inr (5, [.long u0, .long w0])), (li, .inr (3, fs_li)), (ho, .inr (4, fs_ho)), (dr, .inr (3, fs_dr)), (hd, .inr (4, fs_hd))]) hD hS hA [0, 1, 2, 4, 5, 6, 7, 8] rfl
      refine va_calli (va_runV (As := [.int (xs (1 : Int32).toNatClampNeg), .int (xs (2 : Int32).toNatClampNeg)]) (rest := []) ⟨hx, hb, hml, hown, hts⟩ (k_X11_isEx l dC dI H.size x fs_x rd fs_rd tp fs_tp ra [.long u0, .long w0] li fs_li ho fs_ho dr fs_dr hd fs_hd (xs (1 : Int32).toNatClampNeg) (xs (2 : Int32).toNatClampNeg) hn_x hf_x_0 hf_x_3 hf_x_8 hf_x_9 hf_x_10 hn_rd hf_rd_0 hn_tp rfl hn_li hf_li_2 hn_ho hn_dr hf_dr_2 hn_hd) (cwV 2 hts gL0_X11_isEx rfl rfl rfl (by decide +kernel) ⟨Nat.le_of_ble_eq_true rfl, Nat.le_of_ble_eq_true rfl⟩) ⟨fun a U g mk q => by obtain ⟨q0, q1, qP, qK, qD⟩ := q; exact ⟨q0, q1, qP, va_K.moved (u := U) (U := U.calling g mk a) (Vm.Alike.refl U.vm) qK, qD⟩, va_recv hKc hPc (ci := 10) (q0 := 0) rfl rfl, fun U hU hW => ⟨rfl, by rw [hU], by rw [hU]; exact hPc, va_K.moved hW.alike hKc, hDc.weaken (fun _ _ _ _ => trivial)⟩⟩ rfl rfl hl.1 rfl (lv_room (Nat.le_of_ble_eq_true rfl)) dL_law_1010 ⟨Nat.le_of_ble_eq_true rfl, Nat.le_of_ble_eq_true rfl⟩) hS (fun q _ h => hFc q h) hFc (fun r_277 u t H1 locs ht hvm hw hB hz1 hk1 hS => ?_)
      obtain ⟨hP1, hK1, hD1⟩ := hB
      rw [ht] at hP1
      have hK1 := va_K.moved hvm.symm hK1
      obtain ⟨hP, hD⟩ := va_join (wr := [(ba, .inl (cB, 900, .inl fb)), (mm, .inr (11, fs_mm)), (mb, .inl (cM, 900, .inl fM))]) (w1 := []) hP hD [0, 1, 2, 4, 5, 6, 7, 8] [3, 9, 10] rfl rfl (by decide) (by decide) hk1 hFc hP1 hD1
      generalize H1 = H at hP hS ⊢
      have hP : va_P (dC, dI) vwCl [(ba, .inl (cB, 900, .inl fb)), (mm, .inr (11, fs_mm)), (mb, .inl (cM, 900, .inl fM))] H := hP
      have hD : va_D A [(ba, .inl (cB, 900, .inl fb)), (mm, .inr (11, fs_mm)), (mb, .inl (cM, 900, .inl fM))] := hD
      have er_277 : r_277 = (-1) := hw
      subst er_277
      refine lv_aload_n hx hb dL_law_1013 rfl (lv_at hl 2 rfl) ?_
      refine lv_aload_n hx hb dL_law_1014 rfl (lv_at hl 4 rfl) ?_
      refine lv_iload hx hb dL_law_1015 (lv_at hl 0 rfl) ?_
      refine lv_iconst (v := 1) hx hb dL_law_1017 (by decide) ?_
      refine lv_iadd hx hb dL_law_1018 ?_
      refine lv_topi (fun z_278 ez_278 => ?_)
      obtain rfl : z_278 = 1 := ez_278.trans (by decide)
      refine va_sld hx hb hX hbl hbA hS (vp_in_nI (n := 1) (by decide) (by decide)) dL_law_1019 ?_
      refine lv_aload_n hx hb dL_law_1020 rfl (lv_at hl 4 rfl) ?_
      refine lv_iload hx hb dL_law_1021 (lv_at hl 0 rfl) ?_
      refine lv_iconst (v := 2) hx hb dL_law_1023 (by decide) ?_
      refine lv_iadd hx hb dL_law_1024 ?_
      refine lv_topi (fun z_279 ez_279 => ?_)
      obtain rfl : z_279 = 2 := ez_279.trans (by decide)
      refine va_sld hx hb hX hbl hbA hS (vp_in_nI (n := 2) (by decide) (by decide)) dL_law_1025 ?_
      have hPc := hP.sub (ws' := [(mm, .inr (11, fs_mm))]) [1] rfl
      have hDc := hD.sub (ws' := [(mm, .inr (11, fs_mm))]) [1] (by decide) rfl
      have hKc := hK.sub (tys' := []) [] rfl
      have hFc := va_free (wc := [(mm, .inr (11, fs_mm))]) hD hS hA [1] rfl
      refine va_calli (va_runV (As := [.int (xs (1 : Int32).toNatClampNeg), .int (xs (2 : Int32).toNatClampNeg)]) (rest := [.int (-1)]) ⟨hx, hb, hml, hown, hts⟩ (k_X12_isEx l dC dI H.size mm fs_mm (xs (1 : Int32).toNatClampNeg) (xs (2 : Int32).toNatClampNeg) hn_mm hf_mm_20) (cwV 2 hts gL0_X12_isEx rfl rfl rfl (by decide +kernel) ⟨Nat.le_of_ble_eq_true rfl, Nat.le_of_ble_eq_true rfl⟩) ⟨fun a U g mk q => by obtain ⟨q0, q1, qP, qK, qD⟩ := q; exact ⟨q0, q1, qP, va_K.moved (u := U) (U := U.calling g mk a) (Vm.Alike.refl U.vm) qK, qD⟩, va_recv hKc hPc (ci := 11) (q0 := 0) rfl rfl, fun U hU hW => ⟨rfl, by rw [hU], by rw [hU]; exact hPc, va_K.moved hW.alike hKc, hDc.weaken (fun _ _ _ _ => trivial)⟩⟩ rfl rfl hl.1 rfl (lv_room (Nat.le_of_ble_eq_true rfl)) dL_law_1026 ⟨Nat.le_of_ble_eq_true rfl, Nat.le_of_ble_eq_true rfl⟩) hS (fun q _ h => hFc q h) hFc (fun r_280 u t H1 locs ht hvm hw hB hz1 hk1 hS => ?_)
      obtain ⟨hP1, hK1, hD1⟩ := hB
      rw [ht] at hP1
      have hK1 := va_K.moved hvm.symm hK1
      obtain ⟨hP, hD⟩ := va_join (wr := [(ba, .inl (cB, 900, .inl fb)), (mb, .inl (cM, 900, .inl fM))]) (w1 := []) hP hD [1] [0, 2] rfl rfl (by decide) (by decide) hk1 hFc hP1 hD1
      generalize H1 = H at hP hS ⊢
      have hP : va_P (dC, dI) vwCl [(ba, .inl (cB, 900, .inl fb)), (mb, .inl (cM, 900, .inl fM))] H := hP
      have hD : va_D A [(ba, .inl (cB, 900, .inl fb)), (mb, .inl (cM, 900, .inl fM))] := hD
      have er_280 : r_280 = (-1) := hw
      subst er_280
      refine lv_icmp_eq (tgt := 1893) hx hb dL_law_1029 (by decide) (fun c_281 => ?_) (fun c_281 => ?_)
      · refine lv_iinc (v := 6) (lv' := [(4, .int 6), (3, .ref lo), (2, .ref mm), (1, .ref x), (0, .ref b)]) hx hb dL_law_1893 hl (k := 0) rfl (by decide) (by decide) rfl (fun ls hl => ?_)
        refine lv_goto (tgt := 23) hx hb dL_law_1896 (by decide) ?_
        refine lv_iload hx hb dL_law_23 (lv_at hl 0 rfl) ?_
        refine lv_aload_n hx hb dL_law_25 rfl (lv_at hl 4 rfl) ?_
        refine va_slen hx hb hX hbl hbA hS dL_law_26 ?_
        refine lv_topi (fun z_283 ez_283 => ?_)
        obtain rfl : z_283 = 6 := ez_283.trans rfl
        refine lv_bipush (v := 6) hx hb dL_law_27 (by decide) ?_
        refine lv_isub hx hb dL_law_29 ?_
        refine lv_topi (fun z_284 ez_284 => ?_)
        obtain rfl : z_284 = 0 := ez_284.trans (by decide)
        refine lv_icmp_gt (tgt := 1899) hx hb dL_law_30 (by decide) (fun c_285 => ?_) (fun c_285 => ?_)
        · refine lv_iconst (v := 1) hx hb dL_law_1899 (by decide) ?_
          refine va_forget (fun q hq => by have h9 := hS.2.2 q hq; rw [← hAe] at h9; exact h9) ?_
          refine W.widen (k := 600002) (n := 7302232) (Nat.le_of_ble_eq_true rfl) (Nat.le_of_ble_eq_true rfl) ?_
          exact lw_ret hd0 hx hb hr hlocks dL_law_1900
        · exact absurd (by decide) c_285
      · exact absurd (by decide) c_281
    by_cases c_286 : ((xs (0 : Int32).toNatClampNeg) &&& 63) = 19
    · refine lv_tableIn (tgt := 1034) hx hb dL_law_40 (by rw [c_286]; decide) (by rw [c_286]; decide) (by rw [c_286]; rfl) (by decide) ?_
      refine lv_aload_n hx hb dL_law_1034 rfl (lv_at hl 3 rfl) ?_
      refine lv_aload_n hx hb dL_law_1035 rfl (lv_at hl 4 rfl) ?_
      refine lv_iload hx hb dL_law_1036 (lv_at hl 0 rfl) ?_
      refine lv_iconst (v := 1) hx hb dL_law_1038 (by decide) ?_
      refine lv_iadd hx hb dL_law_1039 ?_
      refine lv_topi (fun z_287 ez_287 => ?_)
      obtain rfl : z_287 = 1 := ez_287.trans (by decide)
      refine va_sld hx hb hX hbl hbA hS (vp_in_nI (n := 1) (by decide) (by decide)) dL_law_1040 ?_
      refine lv_aload_n hx hb dL_law_1041 rfl (lv_at hl 4 rfl) ?_
      refine lv_iload hx hb dL_law_1042 (lv_at hl 0 rfl) ?_
      refine lv_iconst (v := 2) hx hb dL_law_1044 (by decide) ?_
      refine lv_iadd hx hb dL_law_1045 ?_
      refine lv_topi (fun z_288 ez_288 => ?_)
      obtain rfl : z_288 = 2 := ez_288.trans (by decide)
      refine va_sld hx hb hX hbl hbA hS (vp_in_nI (n := 2) (by decide) (by decide)) dL_law_1046 ?_
      refine lv_aload_n hx hb dL_law_1047 rfl (lv_at hl 4 rfl) ?_
      refine lv_iload hx hb dL_law_1048 (lv_at hl 0 rfl) ?_
      refine lv_iconst (v := 3) hx hb dL_law_1050 (by decide) ?_
      refine lv_iadd hx hb dL_law_1051 ?_
      refine lv_topi (fun z_289 ez_289 => ?_)
      obtain rfl : z_289 = 3 := ez_289.trans (by decide)
      refine va_sld hx hb hX hbl hbA hS (vp_in_nI (n := 3) (by decide) (by decide)) dL_law_1052 ?_
      refine lv_if_eq (tgt := 1060) hx hb dL_law_1053 (by decide) (fun c_290 => ?_) (fun c_290 => ?_)
      · refine lv_iconst (v := 0) hx hb dL_law_1060 (by decide) ?_
        have hPc := hP.sub (ws' := [(x, .inr (10, fs_x)), (rd, .inr (6, fs_rd)), (tp, .inr (9, fs_tp)), (ra, .inr (5, [.long u0, .long w0])), (li, .inr (3, fs_li)), (ho, .inr (4, fs_ho)), (dr, .inr (3, fs_dr)), (hd, .inr (4, fs_hd))]) [0, 1, 2, 4, 5, 6, 7, 8] rfl
        have hDc := hD.sub (ws' := [(x, .inr (10, fs_x)), (rd, .inr (6, fs_rd)), (tp, .inr (9, fs_tp)), (ra, .inr (5, [.long u0, .long w0])), (li, .inr (3, fs_li)), (ho, .inr (4, fs_ho)), (dr, .inr (3, fs_dr)), (hd, .inr (4, fs_hd))]) [0, 1, 2, 4, 5, 6, 7, 8] (by decide) rfl
        have hKc := hK.sub (tys' := []) [] rfl
        have hFc := va_free (wc := [(x, .inr (10, fs_x)), (rd, .inr (6, fs_rd)), (tp, .inr (9, fs_tp)), (ra, .inr (5, [.long u0, .long w0])), (li, .inr (3, fs_li)), (ho, .inr (4, fs_ho)), (dr, .inr (3, fs_dr)), (hd, .inr (4, fs_hd))]) hD hS hA [0, 1, 2, 4, 5, 6, 7, 8] rfl
        refine va_calll (va_runV (As := [.int (xs (1 : Int32).toNatClampNeg), .int (xs (2 : Int32).toNatClampNeg), .int 0]) (rest := []) ⟨hx, hb, hml, hown, hts⟩ (k_X11_accrued l dC dI H.size x fs_x rd fs_rd tp fs_tp ra [.long u0, .long w0] li fs_li ho fs_ho dr fs_dr hd fs_hd (xs (1 : Int32).toNatClampNeg) (xs (2 : Int32).toNatClampNeg) 0 hn_x hf_x_0 hf_x_3 hf_x_8 hf_x_9 hf_x_10 hn_rd hf_rd_0 hn_tp rfl hn_li hf_li_2 hn_ho hn_dr hf_dr_2 hn_hd) (cwV 3 hts gL0_X11_accrued rfl rfl rfl (by decide +kernel) ⟨Nat.le_of_ble_eq_true rfl, Nat.le_of_ble_eq_true rfl⟩) ⟨fun a U g mk q => by obtain ⟨q0, q1, qP, qK, qD⟩ := q; exact ⟨q0, q1, qP, va_K.moved (u := U) (U := U.calling g mk a) (Vm.Alike.refl U.vm) qK, qD⟩, va_recv hKc hPc (ci := 10) (q0 := 0) rfl rfl, fun U hU hW => ⟨rfl, by rw [hU], by rw [hU]; exact hPc, va_K.moved hW.alike hKc, hDc.weaken (fun _ _ _ _ => trivial)⟩⟩ rfl rfl hl.1 rfl (lv_room (Nat.le_of_ble_eq_true rfl)) dL_law_1061 ⟨Nat.le_of_ble_eq_true rfl, Nat.le_of_ble_eq_true rfl⟩) hS (fun q _ h => hFc q h) hFc (fun r_291 u t H1 locs ht hvm hw hB hz1 hk1 hS => ?_)
        obtain ⟨hP1, hK1, hD1⟩ := hB
        rw [ht] at hP1
        have hK1 := va_K.moved hvm.symm hK1
        obtain ⟨hP, hD⟩ := va_join (wr := [(ba, .inl (cB, 900, .inl fb)), (mm, .inr (11, fs_mm)), (mb, .inl (cM, 900, .inl fM))]) (w1 := []) hP hD [0, 1, 2, 4, 5, 6, 7, 8] [3, 9, 10] rfl rfl (by decide) (by decide) hk1 hFc hP1 hD1
        generalize H1 = H at hP hS ⊢
        have hP : va_P (dC, dI) vwCl [(ba, .inl (cB, 900, .inl fb)), (mm, .inr (11, fs_mm)), (mb, .inl (cM, 900, .inl fM))] H := hP
        have hD : va_D A [(ba, .inl (cB, 900, .inl fb)), (mm, .inr (11, fs_mm)), (mb, .inl (cM, 900, .inl fM))] := hD
        have er_291 : r_291 = (-9223372036854775808) := hw
        subst er_291
        refine lv_aload_n hx hb dL_law_1064 rfl (lv_at hl 2 rfl) ?_
        refine lv_aload_n hx hb dL_law_1065 rfl (lv_at hl 4 rfl) ?_
        refine lv_iload hx hb dL_law_1066 (lv_at hl 0 rfl) ?_
        refine lv_iconst (v := 1) hx hb dL_law_1068 (by decide) ?_
        refine lv_iadd hx hb dL_law_1069 ?_
        refine lv_topi (fun z_292 ez_292 => ?_)
        obtain rfl : z_292 = 1 := ez_292.trans (by decide)
        refine va_sld hx hb hX hbl hbA hS (vp_in_nI (n := 1) (by decide) (by decide)) dL_law_1070 ?_
        refine lv_aload_n hx hb dL_law_1071 rfl (lv_at hl 4 rfl) ?_
        refine lv_iload hx hb dL_law_1072 (lv_at hl 0 rfl) ?_
        refine lv_iconst (v := 2) hx hb dL_law_1074 (by decide) ?_
        refine lv_iadd hx hb dL_law_1075 ?_
        refine lv_topi (fun z_293 ez_293 => ?_)
        obtain rfl : z_293 = 2 := ez_293.trans (by decide)
        refine va_sld hx hb hX hbl hbA hS (vp_in_nI (n := 2) (by decide) (by decide)) dL_law_1076 ?_
        refine lv_aload_n hx hb dL_law_1077 rfl (lv_at hl 4 rfl) ?_
        refine lv_iload hx hb dL_law_1078 (lv_at hl 0 rfl) ?_
        refine lv_iconst (v := 3) hx hb dL_law_1080 (by decide) ?_
        refine lv_iadd hx hb dL_law_1081 ?_
        refine lv_topi (fun z_294 ez_294 => ?_)
        obtain rfl : z_294 = 3 := ez_294.trans (by decide)
        refine va_sld hx hb hX hbl hbA hS (vp_in_nI (n := 3) (by decide) (by decide)) dL_law_1082 ?_
        refine lv_if_eq (tgt := 1090) hx hb dL_law_1083 (by decide) (fun c_295 => ?_) (fun c_295 => ?_)
        · refine lv_iconst (v := 0) hx hb dL_law_1090 (by decide) ?_
          have hPc := hP.sub (ws' := [(mm, .inr (11, fs_mm))]) [1] rfl
          have hDc := hD.sub (ws' := [(mm, .inr (11, fs_mm))]) [1] (by decide) rfl
          have hKc := hK.sub (tys' := []) [] rfl
          have hFc := va_free (wc := [(mm, .inr (11, fs_mm))]) hD hS hA [1] rfl
          refine va_calll (va_runV (As := [.int (xs (1 : Int32).toNatClampNeg), .int (xs (2 : Int32).toNatClampNeg), .int 0]) (rest := [.long (-9223372036854775808)]) ⟨hx, hb, hml, hown, hts⟩ (k_X12_accrued l dC dI H.size mm fs_mm (xs (1 : Int32).toNatClampNeg) (xs (2 : Int32).toNatClampNeg) 0 hn_mm hf_mm_20) (cwV 3 hts gL0_X12_accrued rfl rfl rfl (by decide +kernel) ⟨Nat.le_of_ble_eq_true rfl, Nat.le_of_ble_eq_true rfl⟩) ⟨fun a U g mk q => by obtain ⟨q0, q1, qP, qK, qD⟩ := q; exact ⟨q0, q1, qP, va_K.moved (u := U) (U := U.calling g mk a) (Vm.Alike.refl U.vm) qK, qD⟩, va_recv hKc hPc (ci := 11) (q0 := 0) rfl rfl, fun U hU hW => ⟨rfl, by rw [hU], by rw [hU]; exact hPc, va_K.moved hW.alike hKc, hDc.weaken (fun _ _ _ _ => trivial)⟩⟩ rfl rfl hl.1 rfl (lv_room (Nat.le_of_ble_eq_true rfl)) dL_law_1091 ⟨Nat.le_of_ble_eq_true rfl, Nat.le_of_ble_eq_true rfl⟩) hS (fun q _ h => hFc q h) hFc (fun r_296 u t H1 locs ht hvm hw hB hz1 hk1 hS => ?_)
          obtain ⟨hP1, hK1, hD1⟩ := hB
          rw [ht] at hP1
          have hK1 := va_K.moved hvm.symm hK1
          obtain ⟨hP, hD⟩ := va_join (wr := [(ba, .inl (cB, 900, .inl fb)), (mb, .inl (cM, 900, .inl fM))]) (w1 := []) hP hD [1] [0, 2] rfl rfl (by decide) (by decide) hk1 hFc hP1 hD1
          generalize H1 = H at hP hS ⊢
          have hP : va_P (dC, dI) vwCl [(ba, .inl (cB, 900, .inl fb)), (mb, .inl (cM, 900, .inl fM))] H := hP
          have hD : va_D A [(ba, .inl (cB, 900, .inl fb)), (mb, .inl (cM, 900, .inl fM))] := hD
          have er_296 : r_296 = (-9223372036854775808) := hw
          subst er_296
          refine W.lcmp hx hb dL_law_1094 ?_
          refine lv_topi (fun z_297 ez_297 => ?_)
          obtain rfl : z_297 = 0 := ez_297.trans (by decide)
          refine lv_if_eq (tgt := 1893) hx hb dL_law_1095 (by decide) (fun c_298 => ?_) (fun c_298 => ?_)
          · refine lv_iinc (v := 6) (lv' := [(4, .int 6), (3, .ref lo), (2, .ref mm), (1, .ref x), (0, .ref b)]) hx hb dL_law_1893 hl (k := 0) rfl (by decide) (by decide) rfl (fun ls hl => ?_)
            refine lv_goto (tgt := 23) hx hb dL_law_1896 (by decide) ?_
            refine lv_iload hx hb dL_law_23 (lv_at hl 0 rfl) ?_
            refine lv_aload_n hx hb dL_law_25 rfl (lv_at hl 4 rfl) ?_
            refine va_slen hx hb hX hbl hbA hS dL_law_26 ?_
            refine lv_topi (fun z_300 ez_300 => ?_)
            obtain rfl : z_300 = 6 := ez_300.trans rfl
            refine lv_bipush (v := 6) hx hb dL_law_27 (by decide) ?_
            refine lv_isub hx hb dL_law_29 ?_
            refine lv_topi (fun z_301 ez_301 => ?_)
            obtain rfl : z_301 = 0 := ez_301.trans (by decide)
            refine lv_icmp_gt (tgt := 1899) hx hb dL_law_30 (by decide) (fun c_302 => ?_) (fun c_302 => ?_)
            · refine lv_iconst (v := 1) hx hb dL_law_1899 (by decide) ?_
              refine va_forget (fun q hq => by have h9 := hS.2.2 q hq; rw [← hAe] at h9; exact h9) ?_
              refine W.widen (k := 600002) (n := 7302232) (Nat.le_of_ble_eq_true rfl) (Nat.le_of_ble_eq_true rfl) ?_
              exact lw_ret hd0 hx hb hr hlocks dL_law_1900
            · exact absurd (by decide) c_302
          · exact absurd (by decide) c_298
        · exact absurd c_290 c_295
      · refine lv_iconst (v := 1) hx hb dL_law_1056 (by decide) ?_
        refine lv_goto (tgt := 1061) hx hb dL_law_1057 (by decide) ?_
        have hPc := hP.sub (ws' := [(x, .inr (10, fs_x)), (rd, .inr (6, fs_rd)), (tp, .inr (9, fs_tp)), (ra, .inr (5, [.long u0, .long w0])), (li, .inr (3, fs_li)), (ho, .inr (4, fs_ho)), (dr, .inr (3, fs_dr)), (hd, .inr (4, fs_hd))]) [0, 1, 2, 4, 5, 6, 7, 8] rfl
        have hDc := hD.sub (ws' := [(x, .inr (10, fs_x)), (rd, .inr (6, fs_rd)), (tp, .inr (9, fs_tp)), (ra, .inr (5, [.long u0, .long w0])), (li, .inr (3, fs_li)), (ho, .inr (4, fs_ho)), (dr, .inr (3, fs_dr)), (hd, .inr (4, fs_hd))]) [0, 1, 2, 4, 5, 6, 7, 8] (by decide) rfl
        have hKc := hK.sub (tys' := []) [] rfl
        have hFc := va_free (wc := [(x, .inr (10, fs_x)), (rd, .inr (6, fs_rd)), (tp, .inr (9, fs_tp)), (ra, .inr (5, [.long u0, .long w0])), (li, .inr (3, fs_li)), (ho, .inr (4, fs_ho)), (dr, .inr (3, fs_dr)), (hd, .inr (4, fs_hd))]) hD hS hA [0, 1, 2, 4, 5, 6, 7, 8] rfl
        refine va_calll (va_runV (As := [.int (xs (1 : Int32).toNatClampNeg), .int (xs (2 : Int32).toNatClampNeg), .int 1]) (rest := []) ⟨hx, hb, hml, hown, hts⟩ (k_X11_accrued l dC dI H.size x fs_x rd fs_rd tp fs_tp ra [.long u0, .long w0] li fs_li ho fs_ho dr fs_dr hd fs_hd (xs (1 : Int32).toNatClampNeg) (xs (2 : Int32).toNatClampNeg) 1 hn_x hf_x_0 hf_x_3 hf_x_8 hf_x_9 hf_x_10 hn_rd hf_rd_0 hn_tp rfl hn_li hf_li_2 hn_ho hn_dr hf_dr_2 hn_hd) (cwV 3 hts gL0_X11_accrued rfl rfl rfl (by decide +kernel) ⟨Nat.le_of_ble_eq_true rfl, Nat.le_of_ble_eq_true rfl⟩) ⟨fun a U g mk q => by obtain ⟨q0, q1, qP, qK, qD⟩ := q; exact ⟨q0, q1, qP, va_K.moved (u := U) (U := U.calling g mk a) (Vm.Alike.refl U.vm) qK, qD⟩, va_recv hKc hPc (ci := 10) (q0 := 0) rfl rfl, fun U hU hW => ⟨rfl, by rw [hU], by rw [hU]; exact hPc, va_K.moved hW.alike hKc, hDc.weaken (fun _ _ _ _ => trivial)⟩⟩ rfl rfl hl.1 rfl (lv_room (Nat.le_of_ble_eq_true rfl)) dL_law_1061 ⟨Nat.le_of_ble_eq_true rfl, Nat.le_of_ble_eq_true rfl⟩) hS (fun q _ h => hFc q h) hFc (fun r_303 u t H1 locs ht hvm hw hB hz1 hk1 hS => ?_)
        obtain ⟨hP1, hK1, hD1⟩ := hB
        rw [ht] at hP1
        have hK1 := va_K.moved hvm.symm hK1
        obtain ⟨hP, hD⟩ := va_join (wr := [(ba, .inl (cB, 900, .inl fb)), (mm, .inr (11, fs_mm)), (mb, .inl (cM, 900, .inl fM))]) (w1 := []) hP hD [0, 1, 2, 4, 5, 6, 7, 8] [3, 9, 10] rfl rfl (by decide) (by decide) hk1 hFc hP1 hD1
        generalize H1 = H at hP hS ⊢
        have hP : va_P (dC, dI) vwCl [(ba, .inl (cB, 900, .inl fb)), (mm, .inr (11, fs_mm)), (mb, .inl (cM, 900, .inl fM))] H := hP
        have hD : va_D A [(ba, .inl (cB, 900, .inl fb)), (mm, .inr (11, fs_mm)), (mb, .inl (cM, 900, .inl fM))] := hD
        have er_303 : r_303 = (-9223372036854775808) := hw
        subst er_303
        refine lv_aload_n hx hb dL_law_1064 rfl (lv_at hl 2 rfl) ?_
        refine lv_aload_n hx hb dL_law_1065 rfl (lv_at hl 4 rfl) ?_
        refine lv_iload hx hb dL_law_1066 (lv_at hl 0 rfl) ?_
        refine lv_iconst (v := 1) hx hb dL_law_1068 (by decide) ?_
        refine lv_iadd hx hb dL_law_1069 ?_
        refine lv_topi (fun z_304 ez_304 => ?_)
        obtain rfl : z_304 = 1 := ez_304.trans (by decide)
        refine va_sld hx hb hX hbl hbA hS (vp_in_nI (n := 1) (by decide) (by decide)) dL_law_1070 ?_
        refine lv_aload_n hx hb dL_law_1071 rfl (lv_at hl 4 rfl) ?_
        refine lv_iload hx hb dL_law_1072 (lv_at hl 0 rfl) ?_
        refine lv_iconst (v := 2) hx hb dL_law_1074 (by decide) ?_
        refine lv_iadd hx hb dL_law_1075 ?_
        refine lv_topi (fun z_305 ez_305 => ?_)
        obtain rfl : z_305 = 2 := ez_305.trans (by decide)
        refine va_sld hx hb hX hbl hbA hS (vp_in_nI (n := 2) (by decide) (by decide)) dL_law_1076 ?_
        refine lv_aload_n hx hb dL_law_1077 rfl (lv_at hl 4 rfl) ?_
        refine lv_iload hx hb dL_law_1078 (lv_at hl 0 rfl) ?_
        refine lv_iconst (v := 3) hx hb dL_law_1080 (by decide) ?_
        refine lv_iadd hx hb dL_law_1081 ?_
        refine lv_topi (fun z_306 ez_306 => ?_)
        obtain rfl : z_306 = 3 := ez_306.trans (by decide)
        refine va_sld hx hb hX hbl hbA hS (vp_in_nI (n := 3) (by decide) (by decide)) dL_law_1082 ?_
        refine lv_if_eq (tgt := 1090) hx hb dL_law_1083 (by decide) (fun c_307 => ?_) (fun c_307 => ?_)
        · exact absurd c_307 c_290
        · refine lv_iconst (v := 1) hx hb dL_law_1086 (by decide) ?_
          refine lv_goto (tgt := 1091) hx hb dL_law_1087 (by decide) ?_
          have hPc := hP.sub (ws' := [(mm, .inr (11, fs_mm))]) [1] rfl
          have hDc := hD.sub (ws' := [(mm, .inr (11, fs_mm))]) [1] (by decide) rfl
          have hKc := hK.sub (tys' := []) [] rfl
          have hFc := va_free (wc := [(mm, .inr (11, fs_mm))]) hD hS hA [1] rfl
          refine va_calll (va_runV (As := [.int (xs (1 : Int32).toNatClampNeg), .int (xs (2 : Int32).toNatClampNeg), .int 1]) (rest := [.long (-9223372036854775808)]) ⟨hx, hb, hml, hown, hts⟩ (k_X12_accrued l dC dI H.size mm fs_mm (xs (1 : Int32).toNatClampNeg) (xs (2 : Int32).toNatClampNeg) 1 hn_mm hf_mm_20) (cwV 3 hts gL0_X12_accrued rfl rfl rfl (by decide +kernel) ⟨Nat.le_of_ble_eq_true rfl, Nat.le_of_ble_eq_true rfl⟩) ⟨fun a U g mk q => by obtain ⟨q0, q1, qP, qK, qD⟩ := q; exact ⟨q0, q1, qP, va_K.moved (u := U) (U := U.calling g mk a) (Vm.Alike.refl U.vm) qK, qD⟩, va_recv hKc hPc (ci := 11) (q0 := 0) rfl rfl, fun U hU hW => ⟨rfl, by rw [hU], by rw [hU]; exact hPc, va_K.moved hW.alike hKc, hDc.weaken (fun _ _ _ _ => trivial)⟩⟩ rfl rfl hl.1 rfl (lv_room (Nat.le_of_ble_eq_true rfl)) dL_law_1091 ⟨Nat.le_of_ble_eq_true rfl, Nat.le_of_ble_eq_true rfl⟩) hS (fun q _ h => hFc q h) hFc (fun r_308 u t H1 locs ht hvm hw hB hz1 hk1 hS => ?_)
          obtain ⟨hP1, hK1, hD1⟩ := hB
          rw [ht] at hP1
          have hK1 := va_K.moved hvm.symm hK1
          obtain ⟨hP, hD⟩ := va_join (wr := [(ba, .inl (cB, 900, .inl fb)), (mb, .inl (cM, 900, .inl fM))]) (w1 := []) hP hD [1] [0, 2] rfl rfl (by decide) (by decide) hk1 hFc hP1 hD1
          generalize H1 = H at hP hS ⊢
          have hP : va_P (dC, dI) vwCl [(ba, .inl (cB, 900, .inl fb)), (mb, .inl (cM, 900, .inl fM))] H := hP
          have hD : va_D A [(ba, .inl (cB, 900, .inl fb)), (mb, .inl (cM, 900, .inl fM))] := hD
          have er_308 : r_308 = (-9223372036854775808) := hw
          subst er_308
          refine W.lcmp hx hb dL_law_1094 ?_
          refine lv_topi (fun z_309 ez_309 => ?_)
          obtain rfl : z_309 = 0 := ez_309.trans (by decide)
          refine lv_if_eq (tgt := 1893) hx hb dL_law_1095 (by decide) (fun c_310 => ?_) (fun c_310 => ?_)
          · refine lv_iinc (v := 6) (lv' := [(4, .int 6), (3, .ref lo), (2, .ref mm), (1, .ref x), (0, .ref b)]) hx hb dL_law_1893 hl (k := 0) rfl (by decide) (by decide) rfl (fun ls hl => ?_)
            refine lv_goto (tgt := 23) hx hb dL_law_1896 (by decide) ?_
            refine lv_iload hx hb dL_law_23 (lv_at hl 0 rfl) ?_
            refine lv_aload_n hx hb dL_law_25 rfl (lv_at hl 4 rfl) ?_
            refine va_slen hx hb hX hbl hbA hS dL_law_26 ?_
            refine lv_topi (fun z_312 ez_312 => ?_)
            obtain rfl : z_312 = 6 := ez_312.trans rfl
            refine lv_bipush (v := 6) hx hb dL_law_27 (by decide) ?_
            refine lv_isub hx hb dL_law_29 ?_
            refine lv_topi (fun z_313 ez_313 => ?_)
            obtain rfl : z_313 = 0 := ez_313.trans (by decide)
            refine lv_icmp_gt (tgt := 1899) hx hb dL_law_30 (by decide) (fun c_314 => ?_) (fun c_314 => ?_)
            · refine lv_iconst (v := 1) hx hb dL_law_1899 (by decide) ?_
              refine va_forget (fun q hq => by have h9 := hS.2.2 q hq; rw [← hAe] at h9; exact h9) ?_
              refine W.widen (k := 600002) (n := 7302232) (Nat.le_of_ble_eq_true rfl) (Nat.le_of_ble_eq_true rfl) ?_
              exact lw_ret hd0 hx hb hr hlocks dL_law_1900
            · exact absurd (by decide) c_314
          · exact absurd (by decide) c_310
    by_cases c_315 : ((xs (0 : Int32).toNatClampNeg) &&& 63) = 20
    · refine lv_tableIn (tgt := 1100) hx hb dL_law_40 (by rw [c_315]; decide) (by rw [c_315]; decide) (by rw [c_315]; rfl) (by decide) ?_
      refine lv_aload_n hx hb dL_law_1100 rfl (lv_at hl 3 rfl) ?_
      refine lv_aload_n hx hb dL_law_1101 rfl (lv_at hl 4 rfl) ?_
      refine lv_iload hx hb dL_law_1102 (lv_at hl 0 rfl) ?_
      refine lv_iconst (v := 1) hx hb dL_law_1104 (by decide) ?_
      refine lv_iadd hx hb dL_law_1105 ?_
      refine lv_topi (fun z_316 ez_316 => ?_)
      obtain rfl : z_316 = 1 := ez_316.trans (by decide)
      refine va_sld hx hb hX hbl hbA hS (vp_in_nI (n := 1) (by decide) (by decide)) dL_law_1106 ?_
      refine lv_aload_n hx hb dL_law_1107 rfl (lv_at hl 4 rfl) ?_
      refine lv_iload hx hb dL_law_1108 (lv_at hl 0 rfl) ?_
      refine lv_iconst (v := 2) hx hb dL_law_1110 (by decide) ?_
      refine lv_iadd hx hb dL_law_1111 ?_
      refine lv_topi (fun z_317 ez_317 => ?_)
      obtain rfl : z_317 = 2 := ez_317.trans (by decide)
      refine va_sld hx hb hX hbl hbA hS (vp_in_nI (n := 2) (by decide) (by decide)) dL_law_1112 ?_
      refine lv_aload_n hx hb dL_law_1113 rfl (lv_at hl 4 rfl) ?_
      refine lv_iload hx hb dL_law_1114 (lv_at hl 0 rfl) ?_
      refine lv_iconst (v := 3) hx hb dL_law_1116 (by decide) ?_
      refine lv_iadd hx hb dL_law_1117 ?_
      refine lv_topi (fun z_318 ez_318 => ?_)
      obtain rfl : z_318 = 3 := ez_318.trans (by decide)
      refine va_sld hx hb hX hbl hbA hS (vp_in_nI (n := 3) (by decide) (by decide)) dL_law_1118 ?_
      refine lv_if_eq (tgt := 1126) hx hb dL_law_1119 (by decide) (fun c_319 => ?_) (fun c_319 => ?_)
      · refine lv_iconst (v := 0) hx hb dL_law_1126 (by decide) ?_
        have hPc := hP.sub (ws' := [(x, .inr (10, fs_x)), (rd, .inr (6, fs_rd)), (tp, .inr (9, fs_tp)), (ra, .inr (5, [.long u0, .long w0])), (li, .inr (3, fs_li)), (ho, .inr (4, fs_ho)), (dr, .inr (3, fs_dr)), (hd, .inr (4, fs_hd))]) [0, 1, 2, 4, 5, 6, 7, 8] rfl
        have hDc := hD.sub (ws' := [(x, .inr (10, fs_x)), (rd, .inr (6, fs_rd)), (tp, .inr (9, fs_tp)), (ra, .inr (5, [.long u0, .long w0])), (li, .inr (3, fs_li)), (ho, .inr (4, fs_ho)), (dr, .inr (3, fs_dr)), (hd, .inr (4, fs_hd))]) [0, 1, 2, 4, 5, 6, 7, 8] (by decide) rfl
        have hKc := hK.sub (tys' := []) [] rfl
        have hFc := va_free (wc := [(x, .inr (10, fs_x)), (rd, .inr (6, fs_rd)), (tp, .inr (9, fs_tp)), (ra, .inr (5, [.long u0, .long w0])), (li, .inr (3, fs_li)), (ho, .inr (4, fs_ho)), (dr, .inr (3, fs_dr)), (hd, .inr (4, fs_hd))]) hD hS hA [0, 1, 2, 4, 5, 6, 7, 8] rfl
        refine va_calll (va_runV (As := [.int (xs (1 : Int32).toNatClampNeg), .int (xs (2 : Int32).toNatClampNeg), .int 0]) (rest := []) ⟨hx, hb, hml, hown, hts⟩ (k_X11_rest l dC dI H.size x fs_x rd fs_rd tp fs_tp ra [.long u0, .long w0] li fs_li ho fs_ho dr fs_dr hd fs_hd (xs (1 : Int32).toNatClampNeg) (xs (2 : Int32).toNatClampNeg) 0 hn_x hf_x_0 hf_x_3 hf_x_8 hf_x_9 hf_x_10 hn_rd hf_rd_0 hn_tp rfl hn_li hf_li_2 hn_ho hn_dr hf_dr_2 hn_hd) (cwV 3 hts gL0_X11_rest rfl rfl rfl (by decide +kernel) ⟨Nat.le_of_ble_eq_true rfl, Nat.le_of_ble_eq_true rfl⟩) ⟨fun a U g mk q => by obtain ⟨q0, q1, qP, qK, qD⟩ := q; exact ⟨q0, q1, qP, va_K.moved (u := U) (U := U.calling g mk a) (Vm.Alike.refl U.vm) qK, qD⟩, va_recv hKc hPc (ci := 10) (q0 := 0) rfl rfl, fun U hU hW => ⟨rfl, by rw [hU], by rw [hU]; exact hPc, va_K.moved hW.alike hKc, hDc.weaken (fun _ _ _ _ => trivial)⟩⟩ rfl rfl hl.1 rfl (lv_room (Nat.le_of_ble_eq_true rfl)) dL_law_1127 ⟨Nat.le_of_ble_eq_true rfl, Nat.le_of_ble_eq_true rfl⟩) hS (fun q _ h => hFc q h) hFc (fun r_320 u t H1 locs ht hvm hw hB hz1 hk1 hS => ?_)
        obtain ⟨hP1, hK1, hD1⟩ := hB
        rw [ht] at hP1
        have hK1 := va_K.moved hvm.symm hK1
        obtain ⟨hP, hD⟩ := va_join (wr := [(ba, .inl (cB, 900, .inl fb)), (mm, .inr (11, fs_mm)), (mb, .inl (cM, 900, .inl fM))]) (w1 := []) hP hD [0, 1, 2, 4, 5, 6, 7, 8] [3, 9, 10] rfl rfl (by decide) (by decide) hk1 hFc hP1 hD1
        generalize H1 = H at hP hS ⊢
        have hP : va_P (dC, dI) vwCl [(ba, .inl (cB, 900, .inl fb)), (mm, .inr (11, fs_mm)), (mb, .inl (cM, 900, .inl fM))] H := hP
        have hD : va_D A [(ba, .inl (cB, 900, .inl fb)), (mm, .inr (11, fs_mm)), (mb, .inl (cM, 900, .inl fM))] := hD
        have er_320 : r_320 = (-1) := hw
        subst er_320
        refine lv_aload_n hx hb dL_law_1130 rfl (lv_at hl 2 rfl) ?_
        refine lv_aload_n hx hb dL_law_1131 rfl (lv_at hl 4 rfl) ?_
        refine lv_iload hx hb dL_law_1132 (lv_at hl 0 rfl) ?_
        refine lv_iconst (v := 1) hx hb dL_law_1134 (by decide) ?_
        refine lv_iadd hx hb dL_law_1135 ?_
        refine lv_topi (fun z_321 ez_321 => ?_)
        obtain rfl : z_321 = 1 := ez_321.trans (by decide)
        refine va_sld hx hb hX hbl hbA hS (vp_in_nI (n := 1) (by decide) (by decide)) dL_law_1136 ?_
        refine lv_aload_n hx hb dL_law_1137 rfl (lv_at hl 4 rfl) ?_
        refine lv_iload hx hb dL_law_1138 (lv_at hl 0 rfl) ?_
        refine lv_iconst (v := 2) hx hb dL_law_1140 (by decide) ?_
        refine lv_iadd hx hb dL_law_1141 ?_
        refine lv_topi (fun z_322 ez_322 => ?_)
        obtain rfl : z_322 = 2 := ez_322.trans (by decide)
        refine va_sld hx hb hX hbl hbA hS (vp_in_nI (n := 2) (by decide) (by decide)) dL_law_1142 ?_
        refine lv_aload_n hx hb dL_law_1143 rfl (lv_at hl 4 rfl) ?_
        refine lv_iload hx hb dL_law_1144 (lv_at hl 0 rfl) ?_
        refine lv_iconst (v := 3) hx hb dL_law_1146 (by decide) ?_
        refine lv_iadd hx hb dL_law_1147 ?_
        refine lv_topi (fun z_323 ez_323 => ?_)
        obtain rfl : z_323 = 3 := ez_323.trans (by decide)
        refine va_sld hx hb hX hbl hbA hS (vp_in_nI (n := 3) (by decide) (by decide)) dL_law_1148 ?_
        refine lv_if_eq (tgt := 1156) hx hb dL_law_1149 (by decide) (fun c_324 => ?_) (fun c_324 => ?_)
        · refine lv_iconst (v := 0) hx hb dL_law_1156 (by decide) ?_
          have hPc := hP.sub (ws' := [(mm, .inr (11, fs_mm))]) [1] rfl
          have hDc := hD.sub (ws' := [(mm, .inr (11, fs_mm))]) [1] (by decide) rfl
          have hKc := hK.sub (tys' := []) [] rfl
          have hFc := va_free (wc := [(mm, .inr (11, fs_mm))]) hD hS hA [1] rfl
          refine va_calll (va_runV (As := [.int (xs (1 : Int32).toNatClampNeg), .int (xs (2 : Int32).toNatClampNeg), .int 0]) (rest := [.long (-1)]) ⟨hx, hb, hml, hown, hts⟩ (k_X12_rest l dC dI H.size mm fs_mm (xs (1 : Int32).toNatClampNeg) (xs (2 : Int32).toNatClampNeg) 0 hn_mm hf_mm_20) (cwV 3 hts gL0_X12_rest rfl rfl rfl (by decide +kernel) ⟨Nat.le_of_ble_eq_true rfl, Nat.le_of_ble_eq_true rfl⟩) ⟨fun a U g mk q => by obtain ⟨q0, q1, qP, qK, qD⟩ := q; exact ⟨q0, q1, qP, va_K.moved (u := U) (U := U.calling g mk a) (Vm.Alike.refl U.vm) qK, qD⟩, va_recv hKc hPc (ci := 11) (q0 := 0) rfl rfl, fun U hU hW => ⟨rfl, by rw [hU], by rw [hU]; exact hPc, va_K.moved hW.alike hKc, hDc.weaken (fun _ _ _ _ => trivial)⟩⟩ rfl rfl hl.1 rfl (lv_room (Nat.le_of_ble_eq_true rfl)) dL_law_1157 ⟨Nat.le_of_ble_eq_true rfl, Nat.le_of_ble_eq_true rfl⟩) hS (fun q _ h => hFc q h) hFc (fun r_325 u t H1 locs ht hvm hw hB hz1 hk1 hS => ?_)
          obtain ⟨hP1, hK1, hD1⟩ := hB
          rw [ht] at hP1
          have hK1 := va_K.moved hvm.symm hK1
          obtain ⟨hP, hD⟩ := va_join (wr := [(ba, .inl (cB, 900, .inl fb)), (mb, .inl (cM, 900, .inl fM))]) (w1 := []) hP hD [1] [0, 2] rfl rfl (by decide) (by decide) hk1 hFc hP1 hD1
          generalize H1 = H at hP hS ⊢
          have hP : va_P (dC, dI) vwCl [(ba, .inl (cB, 900, .inl fb)), (mb, .inl (cM, 900, .inl fM))] H := hP
          have hD : va_D A [(ba, .inl (cB, 900, .inl fb)), (mb, .inl (cM, 900, .inl fM))] := hD
          have er_325 : r_325 = (-1) := hw
          subst er_325
          refine W.lcmp hx hb dL_law_1160 ?_
          refine lv_topi (fun z_326 ez_326 => ?_)
          obtain rfl : z_326 = 0 := ez_326.trans (by decide)
          refine lv_if_eq (tgt := 1893) hx hb dL_law_1161 (by decide) (fun c_327 => ?_) (fun c_327 => ?_)
          · refine lv_iinc (v := 6) (lv' := [(4, .int 6), (3, .ref lo), (2, .ref mm), (1, .ref x), (0, .ref b)]) hx hb dL_law_1893 hl (k := 0) rfl (by decide) (by decide) rfl (fun ls hl => ?_)
            refine lv_goto (tgt := 23) hx hb dL_law_1896 (by decide) ?_
            refine lv_iload hx hb dL_law_23 (lv_at hl 0 rfl) ?_
            refine lv_aload_n hx hb dL_law_25 rfl (lv_at hl 4 rfl) ?_
            refine va_slen hx hb hX hbl hbA hS dL_law_26 ?_
            refine lv_topi (fun z_329 ez_329 => ?_)
            obtain rfl : z_329 = 6 := ez_329.trans rfl
            refine lv_bipush (v := 6) hx hb dL_law_27 (by decide) ?_
            refine lv_isub hx hb dL_law_29 ?_
            refine lv_topi (fun z_330 ez_330 => ?_)
            obtain rfl : z_330 = 0 := ez_330.trans (by decide)
            refine lv_icmp_gt (tgt := 1899) hx hb dL_law_30 (by decide) (fun c_331 => ?_) (fun c_331 => ?_)
            · refine lv_iconst (v := 1) hx hb dL_law_1899 (by decide) ?_
              refine va_forget (fun q hq => by have h9 := hS.2.2 q hq; rw [← hAe] at h9; exact h9) ?_
              refine W.widen (k := 600002) (n := 7302232) (Nat.le_of_ble_eq_true rfl) (Nat.le_of_ble_eq_true rfl) ?_
              exact lw_ret hd0 hx hb hr hlocks dL_law_1900
            · exact absurd (by decide) c_331
          · exact absurd (by decide) c_327
        · exact absurd c_319 c_324
      · refine lv_iconst (v := 1) hx hb dL_law_1122 (by decide) ?_
        refine lv_goto (tgt := 1127) hx hb dL_law_1123 (by decide) ?_
        have hPc := hP.sub (ws' := [(x, .inr (10, fs_x)), (rd, .inr (6, fs_rd)), (tp, .inr (9, fs_tp)), (ra, .inr (5, [.long u0, .long w0])), (li, .inr (3, fs_li)), (ho, .inr (4, fs_ho)), (dr, .inr (3, fs_dr)), (hd, .inr (4, fs_hd))]) [0, 1, 2, 4, 5, 6, 7, 8] rfl
        have hDc := hD.sub (ws' := [(x, .inr (10, fs_x)), (rd, .inr (6, fs_rd)), (tp, .inr (9, fs_tp)), (ra, .inr (5, [.long u0, .long w0])), (li, .inr (3, fs_li)), (ho, .inr (4, fs_ho)), (dr, .inr (3, fs_dr)), (hd, .inr (4, fs_hd))]) [0, 1, 2, 4, 5, 6, 7, 8] (by decide) rfl
        have hKc := hK.sub (tys' := []) [] rfl
        have hFc := va_free (wc := [(x, .inr (10, fs_x)), (rd, .inr (6, fs_rd)), (tp, .inr (9, fs_tp)), (ra, .inr (5, [.long u0, .long w0])), (li, .inr (3, fs_li)), (ho, .inr (4, fs_ho)), (dr, .inr (3, fs_dr)), (hd, .inr (4, fs_hd))]) hD hS hA [0, 1, 2, 4, 5, 6, 7, 8] rfl
        refine va_calll (va_runV (As := [.int (xs (1 : Int32).toNatClampNeg), .int (xs (2 : Int32).toNatClampNeg), .int 1]) (rest := []) ⟨hx, hb, hml, hown, hts⟩ (k_X11_rest l dC dI H.size x fs_x rd fs_rd tp fs_tp ra [.long u0, .long w0] li fs_li ho fs_ho dr fs_dr hd fs_hd (xs (1 : Int32).toNatClampNeg) (xs (2 : Int32).toNatClampNeg) 1 hn_x hf_x_0 hf_x_3 hf_x_8 hf_x_9 hf_x_10 hn_rd hf_rd_0 hn_tp rfl hn_li hf_li_2 hn_ho hn_dr hf_dr_2 hn_hd) (cwV 3 hts gL0_X11_rest rfl rfl rfl (by decide +kernel) ⟨Nat.le_of_ble_eq_true rfl, Nat.le_of_ble_eq_true rfl⟩) ⟨fun a U g mk q => by obtain ⟨q0, q1, qP, qK, qD⟩ := q; exact ⟨q0, q1, qP, va_K.moved (u := U) (U := U.calling g mk a) (Vm.Alike.refl U.vm) qK, qD⟩, va_recv hKc hPc (ci := 10) (q0 := 0) rfl rfl, fun U hU hW => ⟨rfl, by rw [hU], by rw [hU]; exact hPc, va_K.moved hW.alike hKc, hDc.weaken (fun _ _ _ _ => trivial)⟩⟩ rfl rfl hl.1 rfl (lv_room (Nat.le_of_ble_eq_true rfl)) dL_law_1127 ⟨Nat.le_of_ble_eq_true rfl, Nat.le_of_ble_eq_true rfl⟩) hS (fun q _ h => hFc q h) hFc (fun r_332 u t H1 locs ht hvm hw hB hz1 hk1 hS => ?_)
        obtain ⟨hP1, hK1, hD1⟩ := hB
        rw [ht] at hP1
        have hK1 := va_K.moved hvm.symm hK1
        obtain ⟨hP, hD⟩ := va_join (wr := [(ba, .inl (cB, 900, .inl fb)), (mm, .inr (11, fs_mm)), (mb, .inl (cM, 900, .inl fM))]) (w1 := []) hP hD [0, 1, 2, 4, 5, 6, 7, 8] [3, 9, 10] rfl rfl (by decide) (by decide) hk1 hFc hP1 hD1
        generalize H1 = H at hP hS ⊢
        have hP : va_P (dC, dI) vwCl [(ba, .inl (cB, 900, .inl fb)), (mm, .inr (11, fs_mm)), (mb, .inl (cM, 900, .inl fM))] H := hP
        have hD : va_D A [(ba, .inl (cB, 900, .inl fb)), (mm, .inr (11, fs_mm)), (mb, .inl (cM, 900, .inl fM))] := hD
        have er_332 : r_332 = (-1) := hw
        subst er_332
        refine lv_aload_n hx hb dL_law_1130 rfl (lv_at hl 2 rfl) ?_
        refine lv_aload_n hx hb dL_law_1131 rfl (lv_at hl 4 rfl) ?_
        refine lv_iload hx hb dL_law_1132 (lv_at hl 0 rfl) ?_
        refine lv_iconst (v := 1) hx hb dL_law_1134 (by decide) ?_
        refine lv_iadd hx hb dL_law_1135 ?_
        refine lv_topi (fun z_333 ez_333 => ?_)
        obtain rfl : z_333 = 1 := ez_333.trans (by decide)
        refine va_sld hx hb hX hbl hbA hS (vp_in_nI (n := 1) (by decide) (by decide)) dL_law_1136 ?_
        refine lv_aload_n hx hb dL_law_1137 rfl (lv_at hl 4 rfl) ?_
        refine lv_iload hx hb dL_law_1138 (lv_at hl 0 rfl) ?_
        refine lv_iconst (v := 2) hx hb dL_law_1140 (by decide) ?_
        refine lv_iadd hx hb dL_law_1141 ?_
        refine lv_topi (fun z_334 ez_334 => ?_)
        obtain rfl : z_334 = 2 := ez_334.trans (by decide)
        refine va_sld hx hb hX hbl hbA hS (vp_in_nI (n := 2) (by decide) (by decide)) dL_law_1142 ?_
        refine lv_aload_n hx hb dL_law_1143 rfl (lv_at hl 4 rfl) ?_
        refine lv_iload hx hb dL_law_1144 (lv_at hl 0 rfl) ?_
        refine lv_iconst (v := 3) hx hb dL_law_1146 (by decide) ?_
        refine lv_iadd hx hb dL_law_1147 ?_
        refine lv_topi (fun z_335 ez_335 => ?_)
        obtain rfl : z_335 = 3 := ez_335.trans (by decide)
        refine va_sld hx hb hX hbl hbA hS (vp_in_nI (n := 3) (by decide) (by decide)) dL_law_1148 ?_
        refine lv_if_eq (tgt := 1156) hx hb dL_law_1149 (by decide) (fun c_336 => ?_) (fun c_336 => ?_)
        · exact absurd c_336 c_319
        · refine lv_iconst (v := 1) hx hb dL_law_1152 (by decide) ?_
          refine lv_goto (tgt := 1157) hx hb dL_law_1153 (by decide) ?_
          have hPc := hP.sub (ws' := [(mm, .inr (11, fs_mm))]) [1] rfl
          have hDc := hD.sub (ws' := [(mm, .inr (11, fs_mm))]) [1] (by decide) rfl
          have hKc := hK.sub (tys' := []) [] rfl
          have hFc := va_free (wc := [(mm, .inr (11, fs_mm))]) hD hS hA [1] rfl
          refine va_calll (va_runV (As := [.int (xs (1 : Int32).toNatClampNeg), .int (xs (2 : Int32).toNatClampNeg), .int 1]) (rest := [.long (-1)]) ⟨hx, hb, hml, hown, hts⟩ (k_X12_rest l dC dI H.size mm fs_mm (xs (1 : Int32).toNatClampNeg) (xs (2 : Int32).toNatClampNeg) 1 hn_mm hf_mm_20) (cwV 3 hts gL0_X12_rest rfl rfl rfl (by decide +kernel) ⟨Nat.le_of_ble_eq_true rfl, Nat.le_of_ble_eq_true rfl⟩) ⟨fun a U g mk q => by obtain ⟨q0, q1, qP, qK, qD⟩ := q; exact ⟨q0, q1, qP, va_K.moved (u := U) (U := U.calling g mk a) (Vm.Alike.refl U.vm) qK, qD⟩, va_recv hKc hPc (ci := 11) (q0 := 0) rfl rfl, fun U hU hW => ⟨rfl, by rw [hU], by rw [hU]; exact hPc, va_K.moved hW.alike hKc, hDc.weaken (fun _ _ _ _ => trivial)⟩⟩ rfl rfl hl.1 rfl (lv_room (Nat.le_of_ble_eq_true rfl)) dL_law_1157 ⟨Nat.le_of_ble_eq_true rfl, Nat.le_of_ble_eq_true rfl⟩) hS (fun q _ h => hFc q h) hFc (fun r_337 u t H1 locs ht hvm hw hB hz1 hk1 hS => ?_)
          obtain ⟨hP1, hK1, hD1⟩ := hB
          rw [ht] at hP1
          have hK1 := va_K.moved hvm.symm hK1
          obtain ⟨hP, hD⟩ := va_join (wr := [(ba, .inl (cB, 900, .inl fb)), (mb, .inl (cM, 900, .inl fM))]) (w1 := []) hP hD [1] [0, 2] rfl rfl (by decide) (by decide) hk1 hFc hP1 hD1
          generalize H1 = H at hP hS ⊢
          have hP : va_P (dC, dI) vwCl [(ba, .inl (cB, 900, .inl fb)), (mb, .inl (cM, 900, .inl fM))] H := hP
          have hD : va_D A [(ba, .inl (cB, 900, .inl fb)), (mb, .inl (cM, 900, .inl fM))] := hD
          have er_337 : r_337 = (-1) := hw
          subst er_337
          refine W.lcmp hx hb dL_law_1160 ?_
          refine lv_topi (fun z_338 ez_338 => ?_)
          obtain rfl : z_338 = 0 := ez_338.trans (by decide)
          refine lv_if_eq (tgt := 1893) hx hb dL_law_1161 (by decide) (fun c_339 => ?_) (fun c_339 => ?_)
          · refine lv_iinc (v := 6) (lv' := [(4, .int 6), (3, .ref lo), (2, .ref mm), (1, .ref x), (0, .ref b)]) hx hb dL_law_1893 hl (k := 0) rfl (by decide) (by decide) rfl (fun ls hl => ?_)
            refine lv_goto (tgt := 23) hx hb dL_law_1896 (by decide) ?_
            refine lv_iload hx hb dL_law_23 (lv_at hl 0 rfl) ?_
            refine lv_aload_n hx hb dL_law_25 rfl (lv_at hl 4 rfl) ?_
            refine va_slen hx hb hX hbl hbA hS dL_law_26 ?_
            refine lv_topi (fun z_341 ez_341 => ?_)
            obtain rfl : z_341 = 6 := ez_341.trans rfl
            refine lv_bipush (v := 6) hx hb dL_law_27 (by decide) ?_
            refine lv_isub hx hb dL_law_29 ?_
            refine lv_topi (fun z_342 ez_342 => ?_)
            obtain rfl : z_342 = 0 := ez_342.trans (by decide)
            refine lv_icmp_gt (tgt := 1899) hx hb dL_law_30 (by decide) (fun c_343 => ?_) (fun c_343 => ?_)
            · refine lv_iconst (v := 1) hx hb dL_law_1899 (by decide) ?_
              refine va_forget (fun q hq => by have h9 := hS.2.2 q hq; rw [← hAe] at h9; exact h9) ?_
              refine W.widen (k := 600002) (n := 7302232) (Nat.le_of_ble_eq_true rfl) (Nat.le_of_ble_eq_true rfl) ?_
              exact lw_ret hd0 hx hb hr hlocks dL_law_1900
            · exact absurd (by decide) c_343
          · exact absurd (by decide) c_339
    by_cases c_344 : ((xs (0 : Int32).toNatClampNeg) &&& 63) = 21
    · refine lv_tableIn (tgt := 1166) hx hb dL_law_40 (by rw [c_344]; decide) (by rw [c_344]; decide) (by rw [c_344]; rfl) (by decide) ?_
      refine lv_aload_n hx hb dL_law_1166 rfl (lv_at hl 3 rfl) ?_
      refine lv_aload_n hx hb dL_law_1167 rfl (lv_at hl 4 rfl) ?_
      refine lv_iload hx hb dL_law_1168 (lv_at hl 0 rfl) ?_
      refine lv_iconst (v := 1) hx hb dL_law_1170 (by decide) ?_
      refine lv_iadd hx hb dL_law_1171 ?_
      refine lv_topi (fun z_345 ez_345 => ?_)
      obtain rfl : z_345 = 1 := ez_345.trans (by decide)
      refine va_sld hx hb hX hbl hbA hS (vp_in_nI (n := 1) (by decide) (by decide)) dL_law_1172 ?_
      refine lv_aload_n hx hb dL_law_1173 rfl (lv_at hl 4 rfl) ?_
      refine lv_iload hx hb dL_law_1174 (lv_at hl 0 rfl) ?_
      refine lv_iconst (v := 2) hx hb dL_law_1176 (by decide) ?_
      refine lv_iadd hx hb dL_law_1177 ?_
      refine lv_topi (fun z_346 ez_346 => ?_)
      obtain rfl : z_346 = 2 := ez_346.trans (by decide)
      refine va_sld hx hb hX hbl hbA hS (vp_in_nI (n := 2) (by decide) (by decide)) dL_law_1178 ?_
      refine lv_aload_n hx hb dL_law_1179 rfl (lv_at hl 4 rfl) ?_
      refine lv_iload hx hb dL_law_1180 (lv_at hl 0 rfl) ?_
      refine lv_iconst (v := 3) hx hb dL_law_1182 (by decide) ?_
      refine lv_iadd hx hb dL_law_1183 ?_
      refine lv_topi (fun z_347 ez_347 => ?_)
      obtain rfl : z_347 = 3 := ez_347.trans (by decide)
      refine va_sld hx hb hX hbl hbA hS (vp_in_nI (n := 3) (by decide) (by decide)) dL_law_1184 ?_
      have hPc := hP.sub (ws' := [(x, .inr (10, fs_x)), (rd, .inr (6, fs_rd)), (tp, .inr (9, fs_tp)), (ra, .inr (5, [.long u0, .long w0])), (li, .inr (3, fs_li)), (ho, .inr (4, fs_ho)), (dr, .inr (3, fs_dr)), (hd, .inr (4, fs_hd))]) [0, 1, 2, 4, 5, 6, 7, 8] rfl
      have hDc := hD.sub (ws' := [(x, .inr (10, fs_x)), (rd, .inr (6, fs_rd)), (tp, .inr (9, fs_tp)), (ra, .inr (5, [.long u0, .long w0])), (li, .inr (3, fs_li)), (ho, .inr (4, fs_ho)), (dr, .inr (3, fs_dr)), (hd, .inr (4, fs_hd))]) [0, 1, 2, 4, 5, 6, 7, 8] (by decide) rfl
      have hKc := hK.sub (tys' := []) [] rfl
      have hFc := va_free (wc := [(x, .inr (10, fs_x)), (rd, .inr (6, fs_rd)), (tp, .inr (9, fs_tp)), (ra, .inr (5, [.long u0, .long w0])), (li, .inr (3, fs_li)), (ho, .inr (4, fs_ho)), (dr, .inr (3, fs_dr)), (hd, .inr (4, fs_hd))]) hD hS hA [0, 1, 2, 4, 5, 6, 7, 8] rfl
      refine va_calll (va_runV (As := [.int (xs (1 : Int32).toNatClampNeg), .int (xs (2 : Int32).toNatClampNeg), .int (xs (3 : Int32).toNatClampNeg)]) (rest := []) ⟨hx, hb, hml, hown, hts⟩ (k_X11_dirty l dC dI H.size x fs_x rd fs_rd tp fs_tp ra [.long u0, .long w0] li fs_li ho fs_ho dr fs_dr hd fs_hd (xs (1 : Int32).toNatClampNeg) (xs (2 : Int32).toNatClampNeg) (xs (3 : Int32).toNatClampNeg) hn_x hf_x_0 hf_x_3 hf_x_8 hf_x_9 hf_x_10 hn_rd hf_rd_0 hn_tp rfl hn_li hf_li_2 hn_ho hn_dr hf_dr_2 hn_hd) (cwV 3 hts gL0_X11_dirty rfl rfl rfl (by decide +kernel) ⟨Nat.le_of_ble_eq_true rfl, Nat.le_of_ble_eq_true rfl⟩) ⟨fun a U g mk q => by obtain ⟨q0, q1, qP, qK, qD⟩ := q; exact ⟨q0, q1, qP, va_K.moved (u := U) (U := U.calling g mk a) (Vm.Alike.refl U.vm) qK, qD⟩, va_recv hKc hPc (ci := 10) (q0 := 0) rfl rfl, fun U hU hW => ⟨rfl, by rw [hU], by rw [hU]; exact hPc, va_K.moved hW.alike hKc, hDc.weaken (fun _ _ _ _ => trivial)⟩⟩ rfl rfl hl.1 rfl (lv_room (Nat.le_of_ble_eq_true rfl)) dL_law_1185 ⟨Nat.le_of_ble_eq_true rfl, Nat.le_of_ble_eq_true rfl⟩) hS (fun q _ h => hFc q h) hFc (fun r_348 u t H1 locs ht hvm hw hB hz1 hk1 hS => ?_)
      obtain ⟨hP1, hK1, hD1⟩ := hB
      rw [ht] at hP1
      have hK1 := va_K.moved hvm.symm hK1
      obtain ⟨hP, hD⟩ := va_join (wr := [(ba, .inl (cB, 900, .inl fb)), (mm, .inr (11, fs_mm)), (mb, .inl (cM, 900, .inl fM))]) (w1 := []) hP hD [0, 1, 2, 4, 5, 6, 7, 8] [3, 9, 10] rfl rfl (by decide) (by decide) hk1 hFc hP1 hD1
      generalize H1 = H at hP hS ⊢
      have hP : va_P (dC, dI) vwCl [(ba, .inl (cB, 900, .inl fb)), (mm, .inr (11, fs_mm)), (mb, .inl (cM, 900, .inl fM))] H := hP
      have hD : va_D A [(ba, .inl (cB, 900, .inl fb)), (mm, .inr (11, fs_mm)), (mb, .inl (cM, 900, .inl fM))] := hD
      have er_348 : r_348 = (-9223372036854775808) := hw
      subst er_348
      refine lv_aload_n hx hb dL_law_1188 rfl (lv_at hl 2 rfl) ?_
      refine lv_aload_n hx hb dL_law_1189 rfl (lv_at hl 4 rfl) ?_
      refine lv_iload hx hb dL_law_1190 (lv_at hl 0 rfl) ?_
      refine lv_iconst (v := 1) hx hb dL_law_1192 (by decide) ?_
      refine lv_iadd hx hb dL_law_1193 ?_
      refine lv_topi (fun z_349 ez_349 => ?_)
      obtain rfl : z_349 = 1 := ez_349.trans (by decide)
      refine va_sld hx hb hX hbl hbA hS (vp_in_nI (n := 1) (by decide) (by decide)) dL_law_1194 ?_
      refine lv_aload_n hx hb dL_law_1195 rfl (lv_at hl 4 rfl) ?_
      refine lv_iload hx hb dL_law_1196 (lv_at hl 0 rfl) ?_
      refine lv_iconst (v := 2) hx hb dL_law_1198 (by decide) ?_
      refine lv_iadd hx hb dL_law_1199 ?_
      refine lv_topi (fun z_350 ez_350 => ?_)
      obtain rfl : z_350 = 2 := ez_350.trans (by decide)
      refine va_sld hx hb hX hbl hbA hS (vp_in_nI (n := 2) (by decide) (by decide)) dL_law_1200 ?_
      refine lv_aload_n hx hb dL_law_1201 rfl (lv_at hl 4 rfl) ?_
      refine lv_iload hx hb dL_law_1202 (lv_at hl 0 rfl) ?_
      refine lv_iconst (v := 3) hx hb dL_law_1204 (by decide) ?_
      refine lv_iadd hx hb dL_law_1205 ?_
      refine lv_topi (fun z_351 ez_351 => ?_)
      obtain rfl : z_351 = 3 := ez_351.trans (by decide)
      refine va_sld hx hb hX hbl hbA hS (vp_in_nI (n := 3) (by decide) (by decide)) dL_law_1206 ?_
      have hPc := hP.sub (ws' := [(mm, .inr (11, fs_mm))]) [1] rfl
      have hDc := hD.sub (ws' := [(mm, .inr (11, fs_mm))]) [1] (by decide) rfl
      have hKc := hK.sub (tys' := []) [] rfl
      have hFc := va_free (wc := [(mm, .inr (11, fs_mm))]) hD hS hA [1] rfl
      refine va_calll (va_runV (As := [.int (xs (1 : Int32).toNatClampNeg), .int (xs (2 : Int32).toNatClampNeg), .int (xs (3 : Int32).toNatClampNeg)]) (rest := [.long (-9223372036854775808)]) ⟨hx, hb, hml, hown, hts⟩ (k_X12_dirty l dC dI H.size mm fs_mm (xs (1 : Int32).toNatClampNeg) (xs (2 : Int32).toNatClampNeg) (xs (3 : Int32).toNatClampNeg) hn_mm hf_mm_20) (cwV 3 hts gL0_X12_dirty rfl rfl rfl (by decide +kernel) ⟨Nat.le_of_ble_eq_true rfl, Nat.le_of_ble_eq_true rfl⟩) ⟨fun a U g mk q => by obtain ⟨q0, q1, qP, qK, qD⟩ := q; exact ⟨q0, q1, qP, va_K.moved (u := U) (U := U.calling g mk a) (Vm.Alike.refl U.vm) qK, qD⟩, va_recv hKc hPc (ci := 11) (q0 := 0) rfl rfl, fun U hU hW => ⟨rfl, by rw [hU], by rw [hU]; exact hPc, va_K.moved hW.alike hKc, hDc.weaken (fun _ _ _ _ => trivial)⟩⟩ rfl rfl hl.1 rfl (lv_room (Nat.le_of_ble_eq_true rfl)) dL_law_1207 ⟨Nat.le_of_ble_eq_true rfl, Nat.le_of_ble_eq_true rfl⟩) hS (fun q _ h => hFc q h) hFc (fun r_352 u t H1 locs ht hvm hw hB hz1 hk1 hS => ?_)
      obtain ⟨hP1, hK1, hD1⟩ := hB
      rw [ht] at hP1
      have hK1 := va_K.moved hvm.symm hK1
      obtain ⟨hP, hD⟩ := va_join (wr := [(ba, .inl (cB, 900, .inl fb)), (mb, .inl (cM, 900, .inl fM))]) (w1 := []) hP hD [1] [0, 2] rfl rfl (by decide) (by decide) hk1 hFc hP1 hD1
      generalize H1 = H at hP hS ⊢
      have hP : va_P (dC, dI) vwCl [(ba, .inl (cB, 900, .inl fb)), (mb, .inl (cM, 900, .inl fM))] H := hP
      have hD : va_D A [(ba, .inl (cB, 900, .inl fb)), (mb, .inl (cM, 900, .inl fM))] := hD
      have er_352 : r_352 = (-9223372036854775808) := hw
      subst er_352
      refine W.lcmp hx hb dL_law_1210 ?_
      refine lv_topi (fun z_353 ez_353 => ?_)
      obtain rfl : z_353 = 0 := ez_353.trans (by decide)
      refine lv_if_eq (tgt := 1893) hx hb dL_law_1211 (by decide) (fun c_354 => ?_) (fun c_354 => ?_)
      · refine lv_iinc (v := 6) (lv' := [(4, .int 6), (3, .ref lo), (2, .ref mm), (1, .ref x), (0, .ref b)]) hx hb dL_law_1893 hl (k := 0) rfl (by decide) (by decide) rfl (fun ls hl => ?_)
        refine lv_goto (tgt := 23) hx hb dL_law_1896 (by decide) ?_
        refine lv_iload hx hb dL_law_23 (lv_at hl 0 rfl) ?_
        refine lv_aload_n hx hb dL_law_25 rfl (lv_at hl 4 rfl) ?_
        refine va_slen hx hb hX hbl hbA hS dL_law_26 ?_
        refine lv_topi (fun z_356 ez_356 => ?_)
        obtain rfl : z_356 = 6 := ez_356.trans rfl
        refine lv_bipush (v := 6) hx hb dL_law_27 (by decide) ?_
        refine lv_isub hx hb dL_law_29 ?_
        refine lv_topi (fun z_357 ez_357 => ?_)
        obtain rfl : z_357 = 0 := ez_357.trans (by decide)
        refine lv_icmp_gt (tgt := 1899) hx hb dL_law_30 (by decide) (fun c_358 => ?_) (fun c_358 => ?_)
        · refine lv_iconst (v := 1) hx hb dL_law_1899 (by decide) ?_
          refine va_forget (fun q hq => by have h9 := hS.2.2 q hq; rw [← hAe] at h9; exact h9) ?_
          refine W.widen (k := 600002) (n := 7302232) (Nat.le_of_ble_eq_true rfl) (Nat.le_of_ble_eq_true rfl) ?_
          exact lw_ret hd0 hx hb hr hlocks dL_law_1900
        · exact absurd (by decide) c_358
      · exact absurd (by decide) c_354
    by_cases c_359 : ((xs (0 : Int32).toNatClampNeg) &&& 63) = 22
    · refine lv_tableIn (tgt := 1216) hx hb dL_law_40 (by rw [c_359]; decide) (by rw [c_359]; decide) (by rw [c_359]; rfl) (by decide) ?_
      refine lv_aload_n hx hb dL_law_1216 rfl (lv_at hl 3 rfl) ?_
      refine lv_aload_n hx hb dL_law_1217 rfl (lv_at hl 4 rfl) ?_
      refine lv_iload hx hb dL_law_1218 (lv_at hl 0 rfl) ?_
      refine lv_iconst (v := 1) hx hb dL_law_1220 (by decide) ?_
      refine lv_iadd hx hb dL_law_1221 ?_
      refine lv_topi (fun z_360 ez_360 => ?_)
      obtain rfl : z_360 = 1 := ez_360.trans (by decide)
      refine va_sld hx hb hX hbl hbA hS (vp_in_nI (n := 1) (by decide) (by decide)) dL_law_1222 ?_
      refine lv_aload_n hx hb dL_law_1223 rfl (lv_at hl 4 rfl) ?_
      refine lv_iload hx hb dL_law_1224 (lv_at hl 0 rfl) ?_
      refine lv_iconst (v := 2) hx hb dL_law_1226 (by decide) ?_
      refine lv_iadd hx hb dL_law_1227 ?_
      refine lv_topi (fun z_361 ez_361 => ?_)
      obtain rfl : z_361 = 2 := ez_361.trans (by decide)
      refine va_sld hx hb hX hbl hbA hS (vp_in_nI (n := 2) (by decide) (by decide)) dL_law_1228 ?_
      refine lv_aload_n hx hb dL_law_1229 rfl (lv_at hl 4 rfl) ?_
      refine lv_iload hx hb dL_law_1230 (lv_at hl 0 rfl) ?_
      refine lv_iconst (v := 3) hx hb dL_law_1232 (by decide) ?_
      refine lv_iadd hx hb dL_law_1233 ?_
      refine lv_topi (fun z_362 ez_362 => ?_)
      obtain rfl : z_362 = 3 := ez_362.trans (by decide)
      refine va_sld hx hb hX hbl hbA hS (vp_in_nI (n := 3) (by decide) (by decide)) dL_law_1234 ?_
      have hPc := hP.sub (ws' := [(x, .inr (10, fs_x)), (rd, .inr (6, fs_rd)), (tp, .inr (9, fs_tp)), (ra, .inr (5, [.long u0, .long w0])), (li, .inr (3, fs_li)), (ho, .inr (4, fs_ho)), (dr, .inr (3, fs_dr)), (hd, .inr (4, fs_hd))]) [0, 1, 2, 4, 5, 6, 7, 8] rfl
      have hDc := hD.sub (ws' := [(x, .inr (10, fs_x)), (rd, .inr (6, fs_rd)), (tp, .inr (9, fs_tp)), (ra, .inr (5, [.long u0, .long w0])), (li, .inr (3, fs_li)), (ho, .inr (4, fs_ho)), (dr, .inr (3, fs_dr)), (hd, .inr (4, fs_hd))]) [0, 1, 2, 4, 5, 6, 7, 8] (by decide) rfl
      have hKc := hK.sub (tys' := []) [] rfl
      have hFc := va_free (wc := [(x, .inr (10, fs_x)), (rd, .inr (6, fs_rd)), (tp, .inr (9, fs_tp)), (ra, .inr (5, [.long u0, .long w0])), (li, .inr (3, fs_li)), (ho, .inr (4, fs_ho)), (dr, .inr (3, fs_dr)), (hd, .inr (4, fs_hd))]) hD hS hA [0, 1, 2, 4, 5, 6, 7, 8] rfl
      refine va_calll (va_runV (As := [.int (xs (1 : Int32).toNatClampNeg), .int (xs (2 : Int32).toNatClampNeg), .int (xs (3 : Int32).toNatClampNeg)]) (rest := []) ⟨hx, hb, hml, hown, hts⟩ (k_X11_clean l dC dI H.size x fs_x rd fs_rd tp fs_tp ra [.long u0, .long w0] li fs_li ho fs_ho dr fs_dr hd fs_hd (xs (1 : Int32).toNatClampNeg) (xs (2 : Int32).toNatClampNeg) (xs (3 : Int32).toNatClampNeg) hn_x hf_x_0 hf_x_3 hf_x_8 hf_x_9 hf_x_10 hn_rd hf_rd_0 hn_tp rfl hn_li hf_li_2 hn_ho hn_dr hf_dr_2 hn_hd) (cwV 3 hts gL0_X11_clean rfl rfl rfl (by decide +kernel) ⟨Nat.le_of_ble_eq_true rfl, Nat.le_of_ble_eq_true rfl⟩) ⟨fun a U g mk q => by obtain ⟨q0, q1, qP, qK, qD⟩ := q; exact ⟨q0, q1, qP, va_K.moved (u := U) (U := U.calling g mk a) (Vm.Alike.refl U.vm) qK, qD⟩, va_recv hKc hPc (ci := 10) (q0 := 0) rfl rfl, fun U hU hW => ⟨rfl, by rw [hU], by rw [hU]; exact hPc, va_K.moved hW.alike hKc, hDc.weaken (fun _ _ _ _ => trivial)⟩⟩ rfl rfl hl.1 rfl (lv_room (Nat.le_of_ble_eq_true rfl)) dL_law_1235 ⟨Nat.le_of_ble_eq_true rfl, Nat.le_of_ble_eq_true rfl⟩) hS (fun q _ h => hFc q h) hFc (fun r_363 u t H1 locs ht hvm hw hB hz1 hk1 hS => ?_)
      obtain ⟨hP1, hK1, hD1⟩ := hB
      rw [ht] at hP1
      have hK1 := va_K.moved hvm.symm hK1
      obtain ⟨hP, hD⟩ := va_join (wr := [(ba, .inl (cB, 900, .inl fb)), (mm, .inr (11, fs_mm)), (mb, .inl (cM, 900, .inl fM))]) (w1 := []) hP hD [0, 1, 2, 4, 5, 6, 7, 8] [3, 9, 10] rfl rfl (by decide) (by decide) hk1 hFc hP1 hD1
      generalize H1 = H at hP hS ⊢
      have hP : va_P (dC, dI) vwCl [(ba, .inl (cB, 900, .inl fb)), (mm, .inr (11, fs_mm)), (mb, .inl (cM, 900, .inl fM))] H := hP
      have hD : va_D A [(ba, .inl (cB, 900, .inl fb)), (mm, .inr (11, fs_mm)), (mb, .inl (cM, 900, .inl fM))] := hD
      have er_363 : r_363 = (-9223372036854775808) := hw
      subst er_363
      refine lv_aload_n hx hb dL_law_1238 rfl (lv_at hl 2 rfl) ?_
      refine lv_aload_n hx hb dL_law_1239 rfl (lv_at hl 4 rfl) ?_
      refine lv_iload hx hb dL_law_1240 (lv_at hl 0 rfl) ?_
      refine lv_iconst (v := 1) hx hb dL_law_1242 (by decide) ?_
      refine lv_iadd hx hb dL_law_1243 ?_
      refine lv_topi (fun z_364 ez_364 => ?_)
      obtain rfl : z_364 = 1 := ez_364.trans (by decide)
      refine va_sld hx hb hX hbl hbA hS (vp_in_nI (n := 1) (by decide) (by decide)) dL_law_1244 ?_
      refine lv_aload_n hx hb dL_law_1245 rfl (lv_at hl 4 rfl) ?_
      refine lv_iload hx hb dL_law_1246 (lv_at hl 0 rfl) ?_
      refine lv_iconst (v := 2) hx hb dL_law_1248 (by decide) ?_
      refine lv_iadd hx hb dL_law_1249 ?_
      refine lv_topi (fun z_365 ez_365 => ?_)
      obtain rfl : z_365 = 2 := ez_365.trans (by decide)
      refine va_sld hx hb hX hbl hbA hS (vp_in_nI (n := 2) (by decide) (by decide)) dL_law_1250 ?_
      refine lv_aload_n hx hb dL_law_1251 rfl (lv_at hl 4 rfl) ?_
      refine lv_iload hx hb dL_law_1252 (lv_at hl 0 rfl) ?_
      refine lv_iconst (v := 3) hx hb dL_law_1254 (by decide) ?_
      refine lv_iadd hx hb dL_law_1255 ?_
      refine lv_topi (fun z_366 ez_366 => ?_)
      obtain rfl : z_366 = 3 := ez_366.trans (by decide)
      refine va_sld hx hb hX hbl hbA hS (vp_in_nI (n := 3) (by decide) (by decide)) dL_law_1256 ?_
      have hPc := hP.sub (ws' := [(mm, .inr (11, fs_mm))]) [1] rfl
      have hDc := hD.sub (ws' := [(mm, .inr (11, fs_mm))]) [1] (by decide) rfl
      have hKc := hK.sub (tys' := []) [] rfl
      have hFc := va_free (wc := [(mm, .inr (11, fs_mm))]) hD hS hA [1] rfl
      refine va_calll (va_runV (As := [.int (xs (1 : Int32).toNatClampNeg), .int (xs (2 : Int32).toNatClampNeg), .int (xs (3 : Int32).toNatClampNeg)]) (rest := [.long (-9223372036854775808)]) ⟨hx, hb, hml, hown, hts⟩ (k_X12_clean l dC dI H.size mm fs_mm (xs (1 : Int32).toNatClampNeg) (xs (2 : Int32).toNatClampNeg) (xs (3 : Int32).toNatClampNeg) hn_mm hf_mm_20) (cwV 3 hts gL0_X12_clean rfl rfl rfl (by decide +kernel) ⟨Nat.le_of_ble_eq_true rfl, Nat.le_of_ble_eq_true rfl⟩) ⟨fun a U g mk q => by obtain ⟨q0, q1, qP, qK, qD⟩ := q; exact ⟨q0, q1, qP, va_K.moved (u := U) (U := U.calling g mk a) (Vm.Alike.refl U.vm) qK, qD⟩, va_recv hKc hPc (ci := 11) (q0 := 0) rfl rfl, fun U hU hW => ⟨rfl, by rw [hU], by rw [hU]; exact hPc, va_K.moved hW.alike hKc, hDc.weaken (fun _ _ _ _ => trivial)⟩⟩ rfl rfl hl.1 rfl (lv_room (Nat.le_of_ble_eq_true rfl)) dL_law_1257 ⟨Nat.le_of_ble_eq_true rfl, Nat.le_of_ble_eq_true rfl⟩) hS (fun q _ h => hFc q h) hFc (fun r_367 u t H1 locs ht hvm hw hB hz1 hk1 hS => ?_)
      obtain ⟨hP1, hK1, hD1⟩ := hB
      rw [ht] at hP1
      have hK1 := va_K.moved hvm.symm hK1
      obtain ⟨hP, hD⟩ := va_join (wr := [(ba, .inl (cB, 900, .inl fb)), (mb, .inl (cM, 900, .inl fM))]) (w1 := []) hP hD [1] [0, 2] rfl rfl (by decide) (by decide) hk1 hFc hP1 hD1
      generalize H1 = H at hP hS ⊢
      have hP : va_P (dC, dI) vwCl [(ba, .inl (cB, 900, .inl fb)), (mb, .inl (cM, 900, .inl fM))] H := hP
      have hD : va_D A [(ba, .inl (cB, 900, .inl fb)), (mb, .inl (cM, 900, .inl fM))] := hD
      have er_367 : r_367 = (-9223372036854775808) := hw
      subst er_367
      refine W.lcmp hx hb dL_law_1260 ?_
      refine lv_topi (fun z_368 ez_368 => ?_)
      obtain rfl : z_368 = 0 := ez_368.trans (by decide)
      refine lv_if_eq (tgt := 1893) hx hb dL_law_1261 (by decide) (fun c_369 => ?_) (fun c_369 => ?_)
      · refine lv_iinc (v := 6) (lv' := [(4, .int 6), (3, .ref lo), (2, .ref mm), (1, .ref x), (0, .ref b)]) hx hb dL_law_1893 hl (k := 0) rfl (by decide) (by decide) rfl (fun ls hl => ?_)
        refine lv_goto (tgt := 23) hx hb dL_law_1896 (by decide) ?_
        refine lv_iload hx hb dL_law_23 (lv_at hl 0 rfl) ?_
        refine lv_aload_n hx hb dL_law_25 rfl (lv_at hl 4 rfl) ?_
        refine va_slen hx hb hX hbl hbA hS dL_law_26 ?_
        refine lv_topi (fun z_371 ez_371 => ?_)
        obtain rfl : z_371 = 6 := ez_371.trans rfl
        refine lv_bipush (v := 6) hx hb dL_law_27 (by decide) ?_
        refine lv_isub hx hb dL_law_29 ?_
        refine lv_topi (fun z_372 ez_372 => ?_)
        obtain rfl : z_372 = 0 := ez_372.trans (by decide)
        refine lv_icmp_gt (tgt := 1899) hx hb dL_law_30 (by decide) (fun c_373 => ?_) (fun c_373 => ?_)
        · refine lv_iconst (v := 1) hx hb dL_law_1899 (by decide) ?_
          refine va_forget (fun q hq => by have h9 := hS.2.2 q hq; rw [← hAe] at h9; exact h9) ?_
          refine W.widen (k := 600002) (n := 7302232) (Nat.le_of_ble_eq_true rfl) (Nat.le_of_ble_eq_true rfl) ?_
          exact lw_ret hd0 hx hb hr hlocks dL_law_1900
        · exact absurd (by decide) c_373
      · exact absurd (by decide) c_369
    by_cases c_374 : ((xs (0 : Int32).toNatClampNeg) &&& 63) = 23
    · refine lv_tableIn (tgt := 1266) hx hb dL_law_40 (by rw [c_374]; decide) (by rw [c_374]; decide) (by rw [c_374]; rfl) (by decide) ?_
      refine lv_aload_n hx hb dL_law_1266 rfl (lv_at hl 3 rfl) ?_
      refine lv_aload_n hx hb dL_law_1267 rfl (lv_at hl 4 rfl) ?_
      refine lv_iload hx hb dL_law_1268 (lv_at hl 0 rfl) ?_
      refine lv_iconst (v := 1) hx hb dL_law_1270 (by decide) ?_
      refine lv_iadd hx hb dL_law_1271 ?_
      refine lv_topi (fun z_375 ez_375 => ?_)
      obtain rfl : z_375 = 1 := ez_375.trans (by decide)
      refine va_sld hx hb hX hbl hbA hS (vp_in_nI (n := 1) (by decide) (by decide)) dL_law_1272 ?_
      refine lv_aload_n hx hb dL_law_1273 rfl (lv_at hl 4 rfl) ?_
      refine lv_iload hx hb dL_law_1274 (lv_at hl 0 rfl) ?_
      refine lv_iconst (v := 2) hx hb dL_law_1276 (by decide) ?_
      refine lv_iadd hx hb dL_law_1277 ?_
      refine lv_topi (fun z_376 ez_376 => ?_)
      obtain rfl : z_376 = 2 := ez_376.trans (by decide)
      refine va_sld hx hb hX hbl hbA hS (vp_in_nI (n := 2) (by decide) (by decide)) dL_law_1278 ?_
      refine lv_aload_n hx hb dL_law_1279 rfl (lv_at hl 4 rfl) ?_
      refine lv_iload hx hb dL_law_1280 (lv_at hl 0 rfl) ?_
      refine lv_iconst (v := 3) hx hb dL_law_1282 (by decide) ?_
      refine lv_iadd hx hb dL_law_1283 ?_
      refine lv_topi (fun z_377 ez_377 => ?_)
      obtain rfl : z_377 = 3 := ez_377.trans (by decide)
      refine va_sld hx hb hX hbl hbA hS (vp_in_nI (n := 3) (by decide) (by decide)) dL_law_1284 ?_
      have hPc := hP.sub (ws' := [(x, .inr (10, fs_x)), (rd, .inr (6, fs_rd)), (tp, .inr (9, fs_tp)), (ra, .inr (5, [.long u0, .long w0])), (li, .inr (3, fs_li)), (ho, .inr (4, fs_ho)), (dr, .inr (3, fs_dr)), (hd, .inr (4, fs_hd))]) [0, 1, 2, 4, 5, 6, 7, 8] rfl
      have hDc := hD.sub (ws' := [(x, .inr (10, fs_x)), (rd, .inr (6, fs_rd)), (tp, .inr (9, fs_tp)), (ra, .inr (5, [.long u0, .long w0])), (li, .inr (3, fs_li)), (ho, .inr (4, fs_ho)), (dr, .inr (3, fs_dr)), (hd, .inr (4, fs_hd))]) [0, 1, 2, 4, 5, 6, 7, 8] (by decide) rfl
      have hKc := hK.sub (tys' := []) [] rfl
      have hFc := va_free (wc := [(x, .inr (10, fs_x)), (rd, .inr (6, fs_rd)), (tp, .inr (9, fs_tp)), (ra, .inr (5, [.long u0, .long w0])), (li, .inr (3, fs_li)), (ho, .inr (4, fs_ho)), (dr, .inr (3, fs_dr)), (hd, .inr (4, fs_hd))]) hD hS hA [0, 1, 2, 4, 5, 6, 7, 8] rfl
      refine va_calll (va_runV (As := [.int (xs (1 : Int32).toNatClampNeg), .int (xs (2 : Int32).toNatClampNeg), .int (xs (3 : Int32).toNatClampNeg)]) (rest := []) ⟨hx, hb, hml, hown, hts⟩ (k_X11_risk l dC dI H.size x fs_x rd fs_rd tp fs_tp ra [.long u0, .long w0] li fs_li ho fs_ho dr fs_dr hd fs_hd (xs (1 : Int32).toNatClampNeg) (xs (2 : Int32).toNatClampNeg) (xs (3 : Int32).toNatClampNeg) hn_x hf_x_0 hf_x_3 hf_x_8 hf_x_9 hf_x_10 hn_rd hf_rd_0 hn_tp rfl hn_li hf_li_2 hn_ho hn_dr hf_dr_2 hn_hd) (cwV 3 hts gL0_X11_risk rfl rfl rfl (by decide +kernel) ⟨Nat.le_of_ble_eq_true rfl, Nat.le_of_ble_eq_true rfl⟩) ⟨fun a U g mk q => by obtain ⟨q0, q1, qP, qK, qD⟩ := q; exact ⟨q0, q1, qP, va_K.moved (u := U) (U := U.calling g mk a) (Vm.Alike.refl U.vm) qK, qD⟩, va_recv hKc hPc (ci := 10) (q0 := 0) rfl rfl, fun U hU hW => ⟨rfl, by rw [hU], by rw [hU]; exact hPc, va_K.moved hW.alike hKc, hDc.weaken (fun _ _ _ _ => trivial)⟩⟩ rfl rfl hl.1 rfl (lv_room (Nat.le_of_ble_eq_true rfl)) dL_law_1285 ⟨Nat.le_of_ble_eq_true rfl, Nat.le_of_ble_eq_true rfl⟩) hS (fun q _ h => hFc q h) hFc (fun r_378 u t H1 locs ht hvm hw hB hz1 hk1 hS => ?_)
      obtain ⟨hP1, hK1, hD1⟩ := hB
      rw [ht] at hP1
      have hK1 := va_K.moved hvm.symm hK1
      obtain ⟨hP, hD⟩ := va_join (wr := [(ba, .inl (cB, 900, .inl fb)), (mm, .inr (11, fs_mm)), (mb, .inl (cM, 900, .inl fM))]) (w1 := []) hP hD [0, 1, 2, 4, 5, 6, 7, 8] [3, 9, 10] rfl rfl (by decide) (by decide) hk1 hFc hP1 hD1
      generalize H1 = H at hP hS ⊢
      have hP : va_P (dC, dI) vwCl [(ba, .inl (cB, 900, .inl fb)), (mm, .inr (11, fs_mm)), (mb, .inl (cM, 900, .inl fM))] H := hP
      have hD : va_D A [(ba, .inl (cB, 900, .inl fb)), (mm, .inr (11, fs_mm)), (mb, .inl (cM, 900, .inl fM))] := hD
      have er_378 : r_378 = (-9223372036854775808) := hw
      subst er_378
      refine lv_aload_n hx hb dL_law_1288 rfl (lv_at hl 2 rfl) ?_
      refine lv_aload_n hx hb dL_law_1289 rfl (lv_at hl 4 rfl) ?_
      refine lv_iload hx hb dL_law_1290 (lv_at hl 0 rfl) ?_
      refine lv_iconst (v := 1) hx hb dL_law_1292 (by decide) ?_
      refine lv_iadd hx hb dL_law_1293 ?_
      refine lv_topi (fun z_379 ez_379 => ?_)
      obtain rfl : z_379 = 1 := ez_379.trans (by decide)
      refine va_sld hx hb hX hbl hbA hS (vp_in_nI (n := 1) (by decide) (by decide)) dL_law_1294 ?_
      refine lv_aload_n hx hb dL_law_1295 rfl (lv_at hl 4 rfl) ?_
      refine lv_iload hx hb dL_law_1296 (lv_at hl 0 rfl) ?_
      refine lv_iconst (v := 2) hx hb dL_law_1298 (by decide) ?_
      refine lv_iadd hx hb dL_law_1299 ?_
      refine lv_topi (fun z_380 ez_380 => ?_)
      obtain rfl : z_380 = 2 := ez_380.trans (by decide)
      refine va_sld hx hb hX hbl hbA hS (vp_in_nI (n := 2) (by decide) (by decide)) dL_law_1300 ?_
      refine lv_aload_n hx hb dL_law_1301 rfl (lv_at hl 4 rfl) ?_
      refine lv_iload hx hb dL_law_1302 (lv_at hl 0 rfl) ?_
      refine lv_iconst (v := 3) hx hb dL_law_1304 (by decide) ?_
      refine lv_iadd hx hb dL_law_1305 ?_
      refine lv_topi (fun z_381 ez_381 => ?_)
      obtain rfl : z_381 = 3 := ez_381.trans (by decide)
      refine va_sld hx hb hX hbl hbA hS (vp_in_nI (n := 3) (by decide) (by decide)) dL_law_1306 ?_
      have hPc := hP.sub (ws' := [(mm, .inr (11, fs_mm))]) [1] rfl
      have hDc := hD.sub (ws' := [(mm, .inr (11, fs_mm))]) [1] (by decide) rfl
      have hKc := hK.sub (tys' := []) [] rfl
      have hFc := va_free (wc := [(mm, .inr (11, fs_mm))]) hD hS hA [1] rfl
      refine va_calll (va_runV (As := [.int (xs (1 : Int32).toNatClampNeg), .int (xs (2 : Int32).toNatClampNeg), .int (xs (3 : Int32).toNatClampNeg)]) (rest := [.long (-9223372036854775808)]) ⟨hx, hb, hml, hown, hts⟩ (k_X12_risk l dC dI H.size mm fs_mm (xs (1 : Int32).toNatClampNeg) (xs (2 : Int32).toNatClampNeg) (xs (3 : Int32).toNatClampNeg) hn_mm hf_mm_20) (cwV 3 hts gL0_X12_risk rfl rfl rfl (by decide +kernel) ⟨Nat.le_of_ble_eq_true rfl, Nat.le_of_ble_eq_true rfl⟩) ⟨fun a U g mk q => by obtain ⟨q0, q1, qP, qK, qD⟩ := q; exact ⟨q0, q1, qP, va_K.moved (u := U) (U := U.calling g mk a) (Vm.Alike.refl U.vm) qK, qD⟩, va_recv hKc hPc (ci := 11) (q0 := 0) rfl rfl, fun U hU hW => ⟨rfl, by rw [hU], by rw [hU]; exact hPc, va_K.moved hW.alike hKc, hDc.weaken (fun _ _ _ _ => trivial)⟩⟩ rfl rfl hl.1 rfl (lv_room (Nat.le_of_ble_eq_true rfl)) dL_law_1307 ⟨Nat.le_of_ble_eq_true rfl, Nat.le_of_ble_eq_true rfl⟩) hS (fun q _ h => hFc q h) hFc (fun r_382 u t H1 locs ht hvm hw hB hz1 hk1 hS => ?_)
      obtain ⟨hP1, hK1, hD1⟩ := hB
      rw [ht] at hP1
      have hK1 := va_K.moved hvm.symm hK1
      obtain ⟨hP, hD⟩ := va_join (wr := [(ba, .inl (cB, 900, .inl fb)), (mb, .inl (cM, 900, .inl fM))]) (w1 := []) hP hD [1] [0, 2] rfl rfl (by decide) (by decide) hk1 hFc hP1 hD1
      generalize H1 = H at hP hS ⊢
      have hP : va_P (dC, dI) vwCl [(ba, .inl (cB, 900, .inl fb)), (mb, .inl (cM, 900, .inl fM))] H := hP
      have hD : va_D A [(ba, .inl (cB, 900, .inl fb)), (mb, .inl (cM, 900, .inl fM))] := hD
      have er_382 : r_382 = (-9223372036854775808) := hw
      subst er_382
      refine W.lcmp hx hb dL_law_1310 ?_
      refine lv_topi (fun z_383 ez_383 => ?_)
      obtain rfl : z_383 = 0 := ez_383.trans (by decide)
      refine lv_if_eq (tgt := 1893) hx hb dL_law_1311 (by decide) (fun c_384 => ?_) (fun c_384 => ?_)
      · refine lv_iinc (v := 6) (lv' := [(4, .int 6), (3, .ref lo), (2, .ref mm), (1, .ref x), (0, .ref b)]) hx hb dL_law_1893 hl (k := 0) rfl (by decide) (by decide) rfl (fun ls hl => ?_)
        refine lv_goto (tgt := 23) hx hb dL_law_1896 (by decide) ?_
        refine lv_iload hx hb dL_law_23 (lv_at hl 0 rfl) ?_
        refine lv_aload_n hx hb dL_law_25 rfl (lv_at hl 4 rfl) ?_
        refine va_slen hx hb hX hbl hbA hS dL_law_26 ?_
        refine lv_topi (fun z_386 ez_386 => ?_)
        obtain rfl : z_386 = 6 := ez_386.trans rfl
        refine lv_bipush (v := 6) hx hb dL_law_27 (by decide) ?_
        refine lv_isub hx hb dL_law_29 ?_
        refine lv_topi (fun z_387 ez_387 => ?_)
        obtain rfl : z_387 = 0 := ez_387.trans (by decide)
        refine lv_icmp_gt (tgt := 1899) hx hb dL_law_30 (by decide) (fun c_388 => ?_) (fun c_388 => ?_)
        · refine lv_iconst (v := 1) hx hb dL_law_1899 (by decide) ?_
          refine va_forget (fun q hq => by have h9 := hS.2.2 q hq; rw [← hAe] at h9; exact h9) ?_
          refine W.widen (k := 600002) (n := 7302232) (Nat.le_of_ble_eq_true rfl) (Nat.le_of_ble_eq_true rfl) ?_
          exact lw_ret hd0 hx hb hr hlocks dL_law_1900
        · exact absurd (by decide) c_388
      · exact absurd (by decide) c_384
    by_cases c_389 : ((xs (0 : Int32).toNatClampNeg) &&& 63) = 24
    · refine lv_tableIn (tgt := 1316) hx hb dL_law_40 (by rw [c_389]; decide) (by rw [c_389]; decide) (by rw [c_389]; rfl) (by decide) ?_
      refine lv_aload_n hx hb dL_law_1316 rfl (lv_at hl 3 rfl) ?_
      refine lv_aload_n hx hb dL_law_1317 rfl (lv_at hl 4 rfl) ?_
      refine lv_iload hx hb dL_law_1318 (lv_at hl 0 rfl) ?_
      refine lv_iconst (v := 1) hx hb dL_law_1320 (by decide) ?_
      refine lv_iadd hx hb dL_law_1321 ?_
      refine lv_topi (fun z_390 ez_390 => ?_)
      obtain rfl : z_390 = 1 := ez_390.trans (by decide)
      refine va_sld hx hb hX hbl hbA hS (vp_in_nI (n := 1) (by decide) (by decide)) dL_law_1322 ?_
      refine lv_aload_n hx hb dL_law_1323 rfl (lv_at hl 4 rfl) ?_
      refine lv_iload hx hb dL_law_1324 (lv_at hl 0 rfl) ?_
      refine lv_iconst (v := 2) hx hb dL_law_1326 (by decide) ?_
      refine lv_iadd hx hb dL_law_1327 ?_
      refine lv_topi (fun z_391 ez_391 => ?_)
      obtain rfl : z_391 = 2 := ez_391.trans (by decide)
      refine va_sld hx hb hX hbl hbA hS (vp_in_nI (n := 2) (by decide) (by decide)) dL_law_1328 ?_
      refine lv_aload_n hx hb dL_law_1329 rfl (lv_at hl 4 rfl) ?_
      refine lv_iload hx hb dL_law_1330 (lv_at hl 0 rfl) ?_
      refine lv_iconst (v := 3) hx hb dL_law_1332 (by decide) ?_
      refine lv_iadd hx hb dL_law_1333 ?_
      refine lv_topi (fun z_392 ez_392 => ?_)
      obtain rfl : z_392 = 3 := ez_392.trans (by decide)
      refine va_sld hx hb hX hbl hbA hS (vp_in_nI (n := 3) (by decide) (by decide)) dL_law_1334 ?_
      refine lv_aload_n hx hb dL_law_1335 rfl (lv_at hl 4 rfl) ?_
      refine lv_iload hx hb dL_law_1336 (lv_at hl 0 rfl) ?_
      refine lv_iconst (v := 4) hx hb dL_law_1338 (by decide) ?_
      refine lv_iadd hx hb dL_law_1339 ?_
      refine lv_topi (fun z_393 ez_393 => ?_)
      obtain rfl : z_393 = 4 := ez_393.trans (by decide)
      refine va_sld hx hb hX hbl hbA hS (vp_in_nI (n := 4) (by decide) (by decide)) dL_law_1340 ?_
      refine lv_aload_n hx hb dL_law_1341 rfl (lv_at hl 4 rfl) ?_
      refine lv_iload hx hb dL_law_1342 (lv_at hl 0 rfl) ?_
      refine lv_iconst (v := 5) hx hb dL_law_1344 (by decide) ?_
      refine lv_iadd hx hb dL_law_1345 ?_
      refine lv_topi (fun z_394 ez_394 => ?_)
      obtain rfl : z_394 = 5 := ez_394.trans (by decide)
      refine va_sld hx hb hX hbl hbA hS (vp_in_nI (n := 5) (by decide) (by decide)) dL_law_1346 ?_
      refine lv_if_eq (tgt := 1354) hx hb dL_law_1347 (by decide) (fun c_395 => ?_) (fun c_395 => ?_)
      · refine lv_iconst (v := 0) hx hb dL_law_1354 (by decide) ?_
        have hPc := hP.sub (ws' := [(x, .inr (10, fs_x)), (rd, .inr (6, fs_rd)), (tp, .inr (9, fs_tp)), (ra, .inr (5, [.long u0, .long w0])), (li, .inr (3, fs_li)), (ho, .inr (4, fs_ho)), (dr, .inr (3, fs_dr)), (hd, .inr (4, fs_hd))]) [0, 1, 2, 4, 5, 6, 7, 8] rfl
        have hDc := hD.sub (ws' := [(x, .inr (10, fs_x)), (rd, .inr (6, fs_rd)), (tp, .inr (9, fs_tp)), (ra, .inr (5, [.long u0, .long w0])), (li, .inr (3, fs_li)), (ho, .inr (4, fs_ho)), (dr, .inr (3, fs_dr)), (hd, .inr (4, fs_hd))]) [0, 1, 2, 4, 5, 6, 7, 8] (by decide) rfl
        have hKc := hK.sub (tys' := []) [] rfl
        have hFc := va_free (wc := [(x, .inr (10, fs_x)), (rd, .inr (6, fs_rd)), (tp, .inr (9, fs_tp)), (ra, .inr (5, [.long u0, .long w0])), (li, .inr (3, fs_li)), (ho, .inr (4, fs_ho)), (dr, .inr (3, fs_dr)), (hd, .inr (4, fs_hd))]) hD hS hA [0, 1, 2, 4, 5, 6, 7, 8] rfl
        refine va_calll (va_runV (As := [.int (xs (1 : Int32).toNatClampNeg), .int (xs (2 : Int32).toNatClampNeg), .int (xs (3 : Int32).toNatClampNeg), .int (xs (4 : Int32).toNatClampNeg), .int 0]) (rest := []) ⟨hx, hb, hml, hown, hts⟩ (k_X11_bracket l dC dI H.size x fs_x rd fs_rd tp fs_tp ra [.long u0, .long w0] li fs_li ho fs_ho dr fs_dr hd fs_hd (xs (1 : Int32).toNatClampNeg) (xs (2 : Int32).toNatClampNeg) (xs (3 : Int32).toNatClampNeg) (xs (4 : Int32).toNatClampNeg) 0 hn_x hf_x_0 hf_x_3 hf_x_8 hf_x_9 hf_x_10 hn_rd hf_rd_0 hn_tp rfl hn_li hf_li_2 hn_ho hn_dr hf_dr_2 hn_hd) (cwV 5 hts gL0_X11_bracket rfl rfl rfl (by decide +kernel) ⟨Nat.le_of_ble_eq_true rfl, Nat.le_of_ble_eq_true rfl⟩) ⟨fun a U g mk q => by obtain ⟨q0, q1, qP, qK, qD⟩ := q; exact ⟨q0, q1, qP, va_K.moved (u := U) (U := U.calling g mk a) (Vm.Alike.refl U.vm) qK, qD⟩, va_recv hKc hPc (ci := 10) (q0 := 0) rfl rfl, fun U hU hW => ⟨rfl, by rw [hU], by rw [hU]; exact hPc, va_K.moved hW.alike hKc, hDc.weaken (fun _ _ _ _ => trivial)⟩⟩ rfl rfl hl.1 rfl (lv_room (Nat.le_of_ble_eq_true rfl)) dL_law_1355 ⟨Nat.le_of_ble_eq_true rfl, Nat.le_of_ble_eq_true rfl⟩) hS (fun q _ h => hFc q h) hFc (fun r_396 u t H1 locs ht hvm hw hB hz1 hk1 hS => ?_)
        obtain ⟨hP1, hK1, hD1⟩ := hB
        rw [ht] at hP1
        have hK1 := va_K.moved hvm.symm hK1
        obtain ⟨hP, hD⟩ := va_join (wr := [(ba, .inl (cB, 900, .inl fb)), (mm, .inr (11, fs_mm)), (mb, .inl (cM, 900, .inl fM))]) (w1 := []) hP hD [0, 1, 2, 4, 5, 6, 7, 8] [3, 9, 10] rfl rfl (by decide) (by decide) hk1 hFc hP1 hD1
        generalize H1 = H at hP hS ⊢
        have hP : va_P (dC, dI) vwCl [(ba, .inl (cB, 900, .inl fb)), (mm, .inr (11, fs_mm)), (mb, .inl (cM, 900, .inl fM))] H := hP
        have hD : va_D A [(ba, .inl (cB, 900, .inl fb)), (mm, .inr (11, fs_mm)), (mb, .inl (cM, 900, .inl fM))] := hD
        have er_396 : r_396 = (-9223372036854775808) := hw
        subst er_396
        refine lv_aload_n hx hb dL_law_1358 rfl (lv_at hl 2 rfl) ?_
        refine lv_aload_n hx hb dL_law_1359 rfl (lv_at hl 4 rfl) ?_
        refine lv_iload hx hb dL_law_1360 (lv_at hl 0 rfl) ?_
        refine lv_iconst (v := 1) hx hb dL_law_1362 (by decide) ?_
        refine lv_iadd hx hb dL_law_1363 ?_
        refine lv_topi (fun z_397 ez_397 => ?_)
        obtain rfl : z_397 = 1 := ez_397.trans (by decide)
        refine va_sld hx hb hX hbl hbA hS (vp_in_nI (n := 1) (by decide) (by decide)) dL_law_1364 ?_
        refine lv_aload_n hx hb dL_law_1365 rfl (lv_at hl 4 rfl) ?_
        refine lv_iload hx hb dL_law_1366 (lv_at hl 0 rfl) ?_
        refine lv_iconst (v := 2) hx hb dL_law_1368 (by decide) ?_
        refine lv_iadd hx hb dL_law_1369 ?_
        refine lv_topi (fun z_398 ez_398 => ?_)
        obtain rfl : z_398 = 2 := ez_398.trans (by decide)
        refine va_sld hx hb hX hbl hbA hS (vp_in_nI (n := 2) (by decide) (by decide)) dL_law_1370 ?_
        refine lv_aload_n hx hb dL_law_1371 rfl (lv_at hl 4 rfl) ?_
        refine lv_iload hx hb dL_law_1372 (lv_at hl 0 rfl) ?_
        refine lv_iconst (v := 3) hx hb dL_law_1374 (by decide) ?_
        refine lv_iadd hx hb dL_law_1375 ?_
        refine lv_topi (fun z_399 ez_399 => ?_)
        obtain rfl : z_399 = 3 := ez_399.trans (by decide)
        refine va_sld hx hb hX hbl hbA hS (vp_in_nI (n := 3) (by decide) (by decide)) dL_law_1376 ?_
        refine lv_aload_n hx hb dL_law_1377 rfl (lv_at hl 4 rfl) ?_
        refine lv_iload hx hb dL_law_1378 (lv_at hl 0 rfl) ?_
        refine lv_iconst (v := 4) hx hb dL_law_1380 (by decide) ?_
        refine lv_iadd hx hb dL_law_1381 ?_
        refine lv_topi (fun z_400 ez_400 => ?_)
        obtain rfl : z_400 = 4 := ez_400.trans (by decide)
        refine va_sld hx hb hX hbl hbA hS (vp_in_nI (n := 4) (by decide) (by decide)) dL_law_1382 ?_
        refine lv_aload_n hx hb dL_law_1383 rfl (lv_at hl 4 rfl) ?_
        refine lv_iload hx hb dL_law_1384 (lv_at hl 0 rfl) ?_
        refine lv_iconst (v := 5) hx hb dL_law_1386 (by decide) ?_
        refine lv_iadd hx hb dL_law_1387 ?_
        refine lv_topi (fun z_401 ez_401 => ?_)
        obtain rfl : z_401 = 5 := ez_401.trans (by decide)
        refine va_sld hx hb hX hbl hbA hS (vp_in_nI (n := 5) (by decide) (by decide)) dL_law_1388 ?_
        refine lv_if_eq (tgt := 1396) hx hb dL_law_1389 (by decide) (fun c_402 => ?_) (fun c_402 => ?_)
        · refine lv_iconst (v := 0) hx hb dL_law_1396 (by decide) ?_
          have hPc := hP.sub (ws' := [(mm, .inr (11, fs_mm))]) [1] rfl
          have hDc := hD.sub (ws' := [(mm, .inr (11, fs_mm))]) [1] (by decide) rfl
          have hKc := hK.sub (tys' := []) [] rfl
          have hFc := va_free (wc := [(mm, .inr (11, fs_mm))]) hD hS hA [1] rfl
          refine va_calll (va_runV (As := [.int (xs (1 : Int32).toNatClampNeg), .int (xs (2 : Int32).toNatClampNeg), .int (xs (3 : Int32).toNatClampNeg), .int (xs (4 : Int32).toNatClampNeg), .int 0]) (rest := [.long (-9223372036854775808)]) ⟨hx, hb, hml, hown, hts⟩ (k_X12_bracket l dC dI H.size mm fs_mm (xs (1 : Int32).toNatClampNeg) (xs (2 : Int32).toNatClampNeg) (xs (3 : Int32).toNatClampNeg) (xs (4 : Int32).toNatClampNeg) 0 hn_mm hf_mm_20) (cwV 5 hts gL0_X12_bracket rfl rfl rfl (by decide +kernel) ⟨Nat.le_of_ble_eq_true rfl, Nat.le_of_ble_eq_true rfl⟩) ⟨fun a U g mk q => by obtain ⟨q0, q1, qP, qK, qD⟩ := q; exact ⟨q0, q1, qP, va_K.moved (u := U) (U := U.calling g mk a) (Vm.Alike.refl U.vm) qK, qD⟩, va_recv hKc hPc (ci := 11) (q0 := 0) rfl rfl, fun U hU hW => ⟨rfl, by rw [hU], by rw [hU]; exact hPc, va_K.moved hW.alike hKc, hDc.weaken (fun _ _ _ _ => trivial)⟩⟩ rfl rfl hl.1 rfl (lv_room (Nat.le_of_ble_eq_true rfl)) dL_law_1397 ⟨Nat.le_of_ble_eq_true rfl, Nat.le_of_ble_eq_true rfl⟩) hS (fun q _ h => hFc q h) hFc (fun r_403 u t H1 locs ht hvm hw hB hz1 hk1 hS => ?_)
          obtain ⟨hP1, hK1, hD1⟩ := hB
          rw [ht] at hP1
          have hK1 := va_K.moved hvm.symm hK1
          obtain ⟨hP, hD⟩ := va_join (wr := [(ba, .inl (cB, 900, .inl fb)), (mb, .inl (cM, 900, .inl fM))]) (w1 := []) hP hD [1] [0, 2] rfl rfl (by decide) (by decide) hk1 hFc hP1 hD1
          generalize H1 = H at hP hS ⊢
          have hP : va_P (dC, dI) vwCl [(ba, .inl (cB, 900, .inl fb)), (mb, .inl (cM, 900, .inl fM))] H := hP
          have hD : va_D A [(ba, .inl (cB, 900, .inl fb)), (mb, .inl (cM, 900, .inl fM))] := hD
          have er_403 : r_403 = (-9223372036854775808) := hw
          subst er_403
          refine W.lcmp hx hb dL_law_1400 ?_
          refine lv_topi (fun z_404 ez_404 => ?_)
          obtain rfl : z_404 = 0 := ez_404.trans (by decide)
          refine lv_if_eq (tgt := 1893) hx hb dL_law_1401 (by decide) (fun c_405 => ?_) (fun c_405 => ?_)
          · refine lv_iinc (v := 6) (lv' := [(4, .int 6), (3, .ref lo), (2, .ref mm), (1, .ref x), (0, .ref b)]) hx hb dL_law_1893 hl (k := 0) rfl (by decide) (by decide) rfl (fun ls hl => ?_)
            refine lv_goto (tgt := 23) hx hb dL_law_1896 (by decide) ?_
            refine lv_iload hx hb dL_law_23 (lv_at hl 0 rfl) ?_
            refine lv_aload_n hx hb dL_law_25 rfl (lv_at hl 4 rfl) ?_
            refine va_slen hx hb hX hbl hbA hS dL_law_26 ?_
            refine lv_topi (fun z_407 ez_407 => ?_)
            obtain rfl : z_407 = 6 := ez_407.trans rfl
            refine lv_bipush (v := 6) hx hb dL_law_27 (by decide) ?_
            refine lv_isub hx hb dL_law_29 ?_
            refine lv_topi (fun z_408 ez_408 => ?_)
            obtain rfl : z_408 = 0 := ez_408.trans (by decide)
            refine lv_icmp_gt (tgt := 1899) hx hb dL_law_30 (by decide) (fun c_409 => ?_) (fun c_409 => ?_)
            · refine lv_iconst (v := 1) hx hb dL_law_1899 (by decide) ?_
              refine va_forget (fun q hq => by have h9 := hS.2.2 q hq; rw [← hAe] at h9; exact h9) ?_
              refine W.widen (k := 600002) (n := 7302232) (Nat.le_of_ble_eq_true rfl) (Nat.le_of_ble_eq_true rfl) ?_
              exact lw_ret hd0 hx hb hr hlocks dL_law_1900
            · exact absurd (by decide) c_409
          · exact absurd (by decide) c_405
        · exact absurd c_395 c_402
      · refine lv_iconst (v := 1) hx hb dL_law_1350 (by decide) ?_
        refine lv_goto (tgt := 1355) hx hb dL_law_1351 (by decide) ?_
        have hPc := hP.sub (ws' := [(x, .inr (10, fs_x)), (rd, .inr (6, fs_rd)), (tp, .inr (9, fs_tp)), (ra, .inr (5, [.long u0, .long w0])), (li, .inr (3, fs_li)), (ho, .inr (4, fs_ho)), (dr, .inr (3, fs_dr)), (hd, .inr (4, fs_hd))]) [0, 1, 2, 4, 5, 6, 7, 8] rfl
        have hDc := hD.sub (ws' := [(x, .inr (10, fs_x)), (rd, .inr (6, fs_rd)), (tp, .inr (9, fs_tp)), (ra, .inr (5, [.long u0, .long w0])), (li, .inr (3, fs_li)), (ho, .inr (4, fs_ho)), (dr, .inr (3, fs_dr)), (hd, .inr (4, fs_hd))]) [0, 1, 2, 4, 5, 6, 7, 8] (by decide) rfl
        have hKc := hK.sub (tys' := []) [] rfl
        have hFc := va_free (wc := [(x, .inr (10, fs_x)), (rd, .inr (6, fs_rd)), (tp, .inr (9, fs_tp)), (ra, .inr (5, [.long u0, .long w0])), (li, .inr (3, fs_li)), (ho, .inr (4, fs_ho)), (dr, .inr (3, fs_dr)), (hd, .inr (4, fs_hd))]) hD hS hA [0, 1, 2, 4, 5, 6, 7, 8] rfl
        refine va_calll (va_runV (As := [.int (xs (1 : Int32).toNatClampNeg), .int (xs (2 : Int32).toNatClampNeg), .int (xs (3 : Int32).toNatClampNeg), .int (xs (4 : Int32).toNatClampNeg), .int 1]) (rest := []) ⟨hx, hb, hml, hown, hts⟩ (k_X11_bracket l dC dI H.size x fs_x rd fs_rd tp fs_tp ra [.long u0, .long w0] li fs_li ho fs_ho dr fs_dr hd fs_hd (xs (1 : Int32).toNatClampNeg) (xs (2 : Int32).toNatClampNeg) (xs (3 : Int32).toNatClampNeg) (xs (4 : Int32).toNatClampNeg) 1 hn_x hf_x_0 hf_x_3 hf_x_8 hf_x_9 hf_x_10 hn_rd hf_rd_0 hn_tp rfl hn_li hf_li_2 hn_ho hn_dr hf_dr_2 hn_hd) (cwV 5 hts gL0_X11_bracket rfl rfl rfl (by decide +kernel) ⟨Nat.le_of_ble_eq_true rfl, Nat.le_of_ble_eq_true rfl⟩) ⟨fun a U g mk q => by obtain ⟨q0, q1, qP, qK, qD⟩ := q; exact ⟨q0, q1, qP, va_K.moved (u := U) (U := U.calling g mk a) (Vm.Alike.refl U.vm) qK, qD⟩, va_recv hKc hPc (ci := 10) (q0 := 0) rfl rfl, fun U hU hW => ⟨rfl, by rw [hU], by rw [hU]; exact hPc, va_K.moved hW.alike hKc, hDc.weaken (fun _ _ _ _ => trivial)⟩⟩ rfl rfl hl.1 rfl (lv_room (Nat.le_of_ble_eq_true rfl)) dL_law_1355 ⟨Nat.le_of_ble_eq_true rfl, Nat.le_of_ble_eq_true rfl⟩) hS (fun q _ h => hFc q h) hFc (fun r_410 u t H1 locs ht hvm hw hB hz1 hk1 hS => ?_)
        obtain ⟨hP1, hK1, hD1⟩ := hB
        rw [ht] at hP1
        have hK1 := va_K.moved hvm.symm hK1
        obtain ⟨hP, hD⟩ := va_join (wr := [(ba, .inl (cB, 900, .inl fb)), (mm, .inr (11, fs_mm)), (mb, .inl (cM, 900, .inl fM))]) (w1 := []) hP hD [0, 1, 2, 4, 5, 6, 7, 8] [3, 9, 10] rfl rfl (by decide) (by decide) hk1 hFc hP1 hD1
        generalize H1 = H at hP hS ⊢
        have hP : va_P (dC, dI) vwCl [(ba, .inl (cB, 900, .inl fb)), (mm, .inr (11, fs_mm)), (mb, .inl (cM, 900, .inl fM))] H := hP
        have hD : va_D A [(ba, .inl (cB, 900, .inl fb)), (mm, .inr (11, fs_mm)), (mb, .inl (cM, 900, .inl fM))] := hD
        have er_410 : r_410 = (-9223372036854775808) := hw
        subst er_410
        refine lv_aload_n hx hb dL_law_1358 rfl (lv_at hl 2 rfl) ?_
        refine lv_aload_n hx hb dL_law_1359 rfl (lv_at hl 4 rfl) ?_
        refine lv_iload hx hb dL_law_1360 (lv_at hl 0 rfl) ?_
        refine lv_iconst (v := 1) hx hb dL_law_1362 (by decide) ?_
        refine lv_iadd hx hb dL_law_1363 ?_
        refine lv_topi (fun z_411 ez_411 => ?_)
        obtain rfl : z_411 = 1 := ez_411.trans (by decide)
        refine va_sld hx hb hX hbl hbA hS (vp_in_nI (n := 1) (by decide) (by decide)) dL_law_1364 ?_
        refine lv_aload_n hx hb dL_law_1365 rfl (lv_at hl 4 rfl) ?_
        refine lv_iload hx hb dL_law_1366 (lv_at hl 0 rfl) ?_
        refine lv_iconst (v := 2) hx hb dL_law_1368 (by decide) ?_
        refine lv_iadd hx hb dL_law_1369 ?_
        refine lv_topi (fun z_412 ez_412 => ?_)
        obtain rfl : z_412 = 2 := ez_412.trans (by decide)
        refine va_sld hx hb hX hbl hbA hS (vp_in_nI (n := 2) (by decide) (by decide)) dL_law_1370 ?_
        refine lv_aload_n hx hb dL_law_1371 rfl (lv_at hl 4 rfl) ?_
        refine lv_iload hx hb dL_law_1372 (lv_at hl 0 rfl) ?_
        refine lv_iconst (v := 3) hx hb dL_law_1374 (by decide) ?_
        refine lv_iadd hx hb dL_law_1375 ?_
        refine lv_topi (fun z_413 ez_413 => ?_)
        obtain rfl : z_413 = 3 := ez_413.trans (by decide)
        refine va_sld hx hb hX hbl hbA hS (vp_in_nI (n := 3) (by decide) (by decide)) dL_law_1376 ?_
        refine lv_aload_n hx hb dL_law_1377 rfl (lv_at hl 4 rfl) ?_
        refine lv_iload hx hb dL_law_1378 (lv_at hl 0 rfl) ?_
        refine lv_iconst (v := 4) hx hb dL_law_1380 (by decide) ?_
        refine lv_iadd hx hb dL_law_1381 ?_
        refine lv_topi (fun z_414 ez_414 => ?_)
        obtain rfl : z_414 = 4 := ez_414.trans (by decide)
        refine va_sld hx hb hX hbl hbA hS (vp_in_nI (n := 4) (by decide) (by decide)) dL_law_1382 ?_
        refine lv_aload_n hx hb dL_law_1383 rfl (lv_at hl 4 rfl) ?_
        refine lv_iload hx hb dL_law_1384 (lv_at hl 0 rfl) ?_
        refine lv_iconst (v := 5) hx hb dL_law_1386 (by decide) ?_
        refine lv_iadd hx hb dL_law_1387 ?_
        refine lv_topi (fun z_415 ez_415 => ?_)
        obtain rfl : z_415 = 5 := ez_415.trans (by decide)
        refine va_sld hx hb hX hbl hbA hS (vp_in_nI (n := 5) (by decide) (by decide)) dL_law_1388 ?_
        refine lv_if_eq (tgt := 1396) hx hb dL_law_1389 (by decide) (fun c_416 => ?_) (fun c_416 => ?_)
        · exact absurd c_416 c_395
        · refine lv_iconst (v := 1) hx hb dL_law_1392 (by decide) ?_
          refine lv_goto (tgt := 1397) hx hb dL_law_1393 (by decide) ?_
          have hPc := hP.sub (ws' := [(mm, .inr (11, fs_mm))]) [1] rfl
          have hDc := hD.sub (ws' := [(mm, .inr (11, fs_mm))]) [1] (by decide) rfl
          have hKc := hK.sub (tys' := []) [] rfl
          have hFc := va_free (wc := [(mm, .inr (11, fs_mm))]) hD hS hA [1] rfl
          refine va_calll (va_runV (As := [.int (xs (1 : Int32).toNatClampNeg), .int (xs (2 : Int32).toNatClampNeg), .int (xs (3 : Int32).toNatClampNeg), .int (xs (4 : Int32).toNatClampNeg), .int 1]) (rest := [.long (-9223372036854775808)]) ⟨hx, hb, hml, hown, hts⟩ (k_X12_bracket l dC dI H.size mm fs_mm (xs (1 : Int32).toNatClampNeg) (xs (2 : Int32).toNatClampNeg) (xs (3 : Int32).toNatClampNeg) (xs (4 : Int32).toNatClampNeg) 1 hn_mm hf_mm_20) (cwV 5 hts gL0_X12_bracket rfl rfl rfl (by decide +kernel) ⟨Nat.le_of_ble_eq_true rfl, Nat.le_of_ble_eq_true rfl⟩) ⟨fun a U g mk q => by obtain ⟨q0, q1, qP, qK, qD⟩ := q; exact ⟨q0, q1, qP, va_K.moved (u := U) (U := U.calling g mk a) (Vm.Alike.refl U.vm) qK, qD⟩, va_recv hKc hPc (ci := 11) (q0 := 0) rfl rfl, fun U hU hW => ⟨rfl, by rw [hU], by rw [hU]; exact hPc, va_K.moved hW.alike hKc, hDc.weaken (fun _ _ _ _ => trivial)⟩⟩ rfl rfl hl.1 rfl (lv_room (Nat.le_of_ble_eq_true rfl)) dL_law_1397 ⟨Nat.le_of_ble_eq_true rfl, Nat.le_of_ble_eq_true rfl⟩) hS (fun q _ h => hFc q h) hFc (fun r_417 u t H1 locs ht hvm hw hB hz1 hk1 hS => ?_)
          obtain ⟨hP1, hK1, hD1⟩ := hB
          rw [ht] at hP1
          have hK1 := va_K.moved hvm.symm hK1
          obtain ⟨hP, hD⟩ := va_join (wr := [(ba, .inl (cB, 900, .inl fb)), (mb, .inl (cM, 900, .inl fM))]) (w1 := []) hP hD [1] [0, 2] rfl rfl (by decide) (by decide) hk1 hFc hP1 hD1
          generalize H1 = H at hP hS ⊢
          have hP : va_P (dC, dI) vwCl [(ba, .inl (cB, 900, .inl fb)), (mb, .inl (cM, 900, .inl fM))] H := hP
          have hD : va_D A [(ba, .inl (cB, 900, .inl fb)), (mb, .inl (cM, 900, .inl fM))] := hD
          have er_417 : r_417 = (-9223372036854775808) := hw
          subst er_417
          refine W.lcmp hx hb dL_law_1400 ?_
          refine lv_topi (fun z_418 ez_418 => ?_)
          obtain rfl : z_418 = 0 := ez_418.trans (by decide)
          refine lv_if_eq (tgt := 1893) hx hb dL_law_1401 (by decide) (fun c_419 => ?_) (fun c_419 => ?_)
          · refine lv_iinc (v := 6) (lv' := [(4, .int 6), (3, .ref lo), (2, .ref mm), (1, .ref x), (0, .ref b)]) hx hb dL_law_1893 hl (k := 0) rfl (by decide) (by decide) rfl (fun ls hl => ?_)
            refine lv_goto (tgt := 23) hx hb dL_law_1896 (by decide) ?_
            refine lv_iload hx hb dL_law_23 (lv_at hl 0 rfl) ?_
            refine lv_aload_n hx hb dL_law_25 rfl (lv_at hl 4 rfl) ?_
            refine va_slen hx hb hX hbl hbA hS dL_law_26 ?_
            refine lv_topi (fun z_421 ez_421 => ?_)
            obtain rfl : z_421 = 6 := ez_421.trans rfl
            refine lv_bipush (v := 6) hx hb dL_law_27 (by decide) ?_
            refine lv_isub hx hb dL_law_29 ?_
            refine lv_topi (fun z_422 ez_422 => ?_)
            obtain rfl : z_422 = 0 := ez_422.trans (by decide)
            refine lv_icmp_gt (tgt := 1899) hx hb dL_law_30 (by decide) (fun c_423 => ?_) (fun c_423 => ?_)
            · refine lv_iconst (v := 1) hx hb dL_law_1899 (by decide) ?_
              refine va_forget (fun q hq => by have h9 := hS.2.2 q hq; rw [← hAe] at h9; exact h9) ?_
              refine W.widen (k := 600002) (n := 7302232) (Nat.le_of_ble_eq_true rfl) (Nat.le_of_ble_eq_true rfl) ?_
              exact lw_ret hd0 hx hb hr hlocks dL_law_1900
            · exact absurd (by decide) c_423
          · exact absurd (by decide) c_419
    by_cases c_424 : ((xs (0 : Int32).toNatClampNeg) &&& 63) = 25
    · refine lv_tableIn (tgt := 1406) hx hb dL_law_40 (by rw [c_424]; decide) (by rw [c_424]; decide) (by rw [c_424]; rfl) (by decide) ?_
      refine lv_aload_n hx hb dL_law_1406 rfl (lv_at hl 3 rfl) ?_
      refine lv_aload_n hx hb dL_law_1407 rfl (lv_at hl 4 rfl) ?_
      refine lv_iload hx hb dL_law_1408 (lv_at hl 0 rfl) ?_
      refine lv_iconst (v := 1) hx hb dL_law_1410 (by decide) ?_
      refine lv_iadd hx hb dL_law_1411 ?_
      refine lv_topi (fun z_425 ez_425 => ?_)
      obtain rfl : z_425 = 1 := ez_425.trans (by decide)
      refine va_sld hx hb hX hbl hbA hS (vp_in_nI (n := 1) (by decide) (by decide)) dL_law_1412 ?_
      refine lv_aload_n hx hb dL_law_1413 rfl (lv_at hl 4 rfl) ?_
      refine lv_iload hx hb dL_law_1414 (lv_at hl 0 rfl) ?_
      refine lv_iconst (v := 2) hx hb dL_law_1416 (by decide) ?_
      refine lv_iadd hx hb dL_law_1417 ?_
      refine lv_topi (fun z_426 ez_426 => ?_)
      obtain rfl : z_426 = 2 := ez_426.trans (by decide)
      refine va_sld hx hb hX hbl hbA hS (vp_in_nI (n := 2) (by decide) (by decide)) dL_law_1418 ?_
      refine lv_aload_n hx hb dL_law_1419 rfl (lv_at hl 4 rfl) ?_
      refine lv_iload hx hb dL_law_1420 (lv_at hl 0 rfl) ?_
      refine lv_iconst (v := 3) hx hb dL_law_1422 (by decide) ?_
      refine lv_iadd hx hb dL_law_1423 ?_
      refine lv_topi (fun z_427 ez_427 => ?_)
      obtain rfl : z_427 = 3 := ez_427.trans (by decide)
      refine va_sld hx hb hX hbl hbA hS (vp_in_nI (n := 3) (by decide) (by decide)) dL_law_1424 ?_
      have hPc := hP.sub (ws' := [(x, .inr (10, fs_x)), (rd, .inr (6, fs_rd)), (tp, .inr (9, fs_tp)), (ra, .inr (5, [.long u0, .long w0])), (li, .inr (3, fs_li)), (ho, .inr (4, fs_ho)), (dr, .inr (3, fs_dr)), (hd, .inr (4, fs_hd))]) [0, 1, 2, 4, 5, 6, 7, 8] rfl
      have hDc := hD.sub (ws' := [(x, .inr (10, fs_x)), (rd, .inr (6, fs_rd)), (tp, .inr (9, fs_tp)), (ra, .inr (5, [.long u0, .long w0])), (li, .inr (3, fs_li)), (ho, .inr (4, fs_ho)), (dr, .inr (3, fs_dr)), (hd, .inr (4, fs_hd))]) [0, 1, 2, 4, 5, 6, 7, 8] (by decide) rfl
      have hKc := hK.sub (tys' := []) [] rfl
      have hFc := va_free (wc := [(x, .inr (10, fs_x)), (rd, .inr (6, fs_rd)), (tp, .inr (9, fs_tp)), (ra, .inr (5, [.long u0, .long w0])), (li, .inr (3, fs_li)), (ho, .inr (4, fs_ho)), (dr, .inr (3, fs_dr)), (hd, .inr (4, fs_hd))]) hD hS hA [0, 1, 2, 4, 5, 6, 7, 8] rfl
      refine va_calli (va_runV (As := [.int (xs (1 : Int32).toNatClampNeg), .int (xs (2 : Int32).toNatClampNeg), .int (xs (3 : Int32).toNatClampNeg)]) (rest := []) ⟨hx, hb, hml, hown, hts⟩ (k_X11_narrows l dC dI H.size x fs_x rd fs_rd tp fs_tp ra [.long u0, .long w0] li fs_li ho fs_ho dr fs_dr hd fs_hd (xs (1 : Int32).toNatClampNeg) (xs (2 : Int32).toNatClampNeg) (xs (3 : Int32).toNatClampNeg) hn_x hf_x_0 hf_x_3 hf_x_8 hf_x_9 hf_x_10 hn_rd hf_rd_0 hn_tp rfl hn_li hf_li_2 hn_ho hn_dr hf_dr_2 hn_hd) (cwV 3 hts gL0_X11_narrows rfl rfl rfl (by decide +kernel) ⟨Nat.le_of_ble_eq_true rfl, Nat.le_of_ble_eq_true rfl⟩) ⟨fun a U g mk q => by obtain ⟨q0, q1, qP, qK, qD⟩ := q; exact ⟨q0, q1, qP, va_K.moved (u := U) (U := U.calling g mk a) (Vm.Alike.refl U.vm) qK, qD⟩, va_recv hKc hPc (ci := 10) (q0 := 0) rfl rfl, fun U hU hW => ⟨rfl, by rw [hU], by rw [hU]; exact hPc, va_K.moved hW.alike hKc, hDc.weaken (fun _ _ _ _ => trivial)⟩⟩ rfl rfl hl.1 rfl (lv_room (Nat.le_of_ble_eq_true rfl)) dL_law_1425 ⟨Nat.le_of_ble_eq_true rfl, Nat.le_of_ble_eq_true rfl⟩) hS (fun q _ h => hFc q h) hFc (fun r_428 u t H1 locs ht hvm hw hB hz1 hk1 hS => ?_)
      obtain ⟨hP1, hK1, hD1⟩ := hB
      rw [ht] at hP1
      have hK1 := va_K.moved hvm.symm hK1
      obtain ⟨hP, hD⟩ := va_join (wr := [(ba, .inl (cB, 900, .inl fb)), (mm, .inr (11, fs_mm)), (mb, .inl (cM, 900, .inl fM))]) (w1 := []) hP hD [0, 1, 2, 4, 5, 6, 7, 8] [3, 9, 10] rfl rfl (by decide) (by decide) hk1 hFc hP1 hD1
      generalize H1 = H at hP hS ⊢
      have hP : va_P (dC, dI) vwCl [(ba, .inl (cB, 900, .inl fb)), (mm, .inr (11, fs_mm)), (mb, .inl (cM, 900, .inl fM))] H := hP
      have hD : va_D A [(ba, .inl (cB, 900, .inl fb)), (mm, .inr (11, fs_mm)), (mb, .inl (cM, 900, .inl fM))] := hD
      have er_428 : r_428 = (-1) := hw
      subst er_428
      refine lv_aload_n hx hb dL_law_1428 rfl (lv_at hl 2 rfl) ?_
      refine lv_aload_n hx hb dL_law_1429 rfl (lv_at hl 4 rfl) ?_
      refine lv_iload hx hb dL_law_1430 (lv_at hl 0 rfl) ?_
      refine lv_iconst (v := 1) hx hb dL_law_1432 (by decide) ?_
      refine lv_iadd hx hb dL_law_1433 ?_
      refine lv_topi (fun z_429 ez_429 => ?_)
      obtain rfl : z_429 = 1 := ez_429.trans (by decide)
      refine va_sld hx hb hX hbl hbA hS (vp_in_nI (n := 1) (by decide) (by decide)) dL_law_1434 ?_
      refine lv_aload_n hx hb dL_law_1435 rfl (lv_at hl 4 rfl) ?_
      refine lv_iload hx hb dL_law_1436 (lv_at hl 0 rfl) ?_
      refine lv_iconst (v := 2) hx hb dL_law_1438 (by decide) ?_
      refine lv_iadd hx hb dL_law_1439 ?_
      refine lv_topi (fun z_430 ez_430 => ?_)
      obtain rfl : z_430 = 2 := ez_430.trans (by decide)
      refine va_sld hx hb hX hbl hbA hS (vp_in_nI (n := 2) (by decide) (by decide)) dL_law_1440 ?_
      refine lv_aload_n hx hb dL_law_1441 rfl (lv_at hl 4 rfl) ?_
      refine lv_iload hx hb dL_law_1442 (lv_at hl 0 rfl) ?_
      refine lv_iconst (v := 3) hx hb dL_law_1444 (by decide) ?_
      refine lv_iadd hx hb dL_law_1445 ?_
      refine lv_topi (fun z_431 ez_431 => ?_)
      obtain rfl : z_431 = 3 := ez_431.trans (by decide)
      refine va_sld hx hb hX hbl hbA hS (vp_in_nI (n := 3) (by decide) (by decide)) dL_law_1446 ?_
      have hPc := hP.sub (ws' := [(mm, .inr (11, fs_mm))]) [1] rfl
      have hDc := hD.sub (ws' := [(mm, .inr (11, fs_mm))]) [1] (by decide) rfl
      have hKc := hK.sub (tys' := []) [] rfl
      have hFc := va_free (wc := [(mm, .inr (11, fs_mm))]) hD hS hA [1] rfl
      refine va_calli (va_runV (As := [.int (xs (1 : Int32).toNatClampNeg), .int (xs (2 : Int32).toNatClampNeg), .int (xs (3 : Int32).toNatClampNeg)]) (rest := [.int (-1)]) ⟨hx, hb, hml, hown, hts⟩ (k_X12_narrows l dC dI H.size mm fs_mm (xs (1 : Int32).toNatClampNeg) (xs (2 : Int32).toNatClampNeg) (xs (3 : Int32).toNatClampNeg) hn_mm hf_mm_20) (cwV 3 hts gL0_X12_narrows rfl rfl rfl (by decide +kernel) ⟨Nat.le_of_ble_eq_true rfl, Nat.le_of_ble_eq_true rfl⟩) ⟨fun a U g mk q => by obtain ⟨q0, q1, qP, qK, qD⟩ := q; exact ⟨q0, q1, qP, va_K.moved (u := U) (U := U.calling g mk a) (Vm.Alike.refl U.vm) qK, qD⟩, va_recv hKc hPc (ci := 11) (q0 := 0) rfl rfl, fun U hU hW => ⟨rfl, by rw [hU], by rw [hU]; exact hPc, va_K.moved hW.alike hKc, hDc.weaken (fun _ _ _ _ => trivial)⟩⟩ rfl rfl hl.1 rfl (lv_room (Nat.le_of_ble_eq_true rfl)) dL_law_1447 ⟨Nat.le_of_ble_eq_true rfl, Nat.le_of_ble_eq_true rfl⟩) hS (fun q _ h => hFc q h) hFc (fun r_432 u t H1 locs ht hvm hw hB hz1 hk1 hS => ?_)
      obtain ⟨hP1, hK1, hD1⟩ := hB
      rw [ht] at hP1
      have hK1 := va_K.moved hvm.symm hK1
      obtain ⟨hP, hD⟩ := va_join (wr := [(ba, .inl (cB, 900, .inl fb)), (mb, .inl (cM, 900, .inl fM))]) (w1 := []) hP hD [1] [0, 2] rfl rfl (by decide) (by decide) hk1 hFc hP1 hD1
      generalize H1 = H at hP hS ⊢
      have hP : va_P (dC, dI) vwCl [(ba, .inl (cB, 900, .inl fb)), (mb, .inl (cM, 900, .inl fM))] H := hP
      have hD : va_D A [(ba, .inl (cB, 900, .inl fb)), (mb, .inl (cM, 900, .inl fM))] := hD
      have er_432 : r_432 = (-1) := hw
      subst er_432
      refine lv_icmp_eq (tgt := 1893) hx hb dL_law_1450 (by decide) (fun c_433 => ?_) (fun c_433 => ?_)
      · refine lv_iinc (v := 6) (lv' := [(4, .int 6), (3, .ref lo), (2, .ref mm), (1, .ref x), (0, .ref b)]) hx hb dL_law_1893 hl (k := 0) rfl (by decide) (by decide) rfl (fun ls hl => ?_)
        refine lv_goto (tgt := 23) hx hb dL_law_1896 (by decide) ?_
        refine lv_iload hx hb dL_law_23 (lv_at hl 0 rfl) ?_
        refine lv_aload_n hx hb dL_law_25 rfl (lv_at hl 4 rfl) ?_
        refine va_slen hx hb hX hbl hbA hS dL_law_26 ?_
        refine lv_topi (fun z_435 ez_435 => ?_)
        obtain rfl : z_435 = 6 := ez_435.trans rfl
        refine lv_bipush (v := 6) hx hb dL_law_27 (by decide) ?_
        refine lv_isub hx hb dL_law_29 ?_
        refine lv_topi (fun z_436 ez_436 => ?_)
        obtain rfl : z_436 = 0 := ez_436.trans (by decide)
        refine lv_icmp_gt (tgt := 1899) hx hb dL_law_30 (by decide) (fun c_437 => ?_) (fun c_437 => ?_)
        · refine lv_iconst (v := 1) hx hb dL_law_1899 (by decide) ?_
          refine va_forget (fun q hq => by have h9 := hS.2.2 q hq; rw [← hAe] at h9; exact h9) ?_
          refine W.widen (k := 600002) (n := 7302232) (Nat.le_of_ble_eq_true rfl) (Nat.le_of_ble_eq_true rfl) ?_
          exact lw_ret hd0 hx hb hr hlocks dL_law_1900
        · exact absurd (by decide) c_437
      · exact absurd (by decide) c_433
    by_cases c_438 : ((xs (0 : Int32).toNatClampNeg) &&& 63) = 26
    · refine lv_tableIn (tgt := 1455) hx hb dL_law_40 (by rw [c_438]; decide) (by rw [c_438]; decide) (by rw [c_438]; rfl) (by decide) ?_
      refine lv_aload_n hx hb dL_law_1455 rfl (lv_at hl 3 rfl) ?_
      refine lv_aload_n hx hb dL_law_1456 rfl (lv_at hl 4 rfl) ?_
      refine lv_iload hx hb dL_law_1457 (lv_at hl 0 rfl) ?_
      refine lv_iconst (v := 1) hx hb dL_law_1459 (by decide) ?_
      refine lv_iadd hx hb dL_law_1460 ?_
      refine lv_topi (fun z_439 ez_439 => ?_)
      obtain rfl : z_439 = 1 := ez_439.trans (by decide)
      refine va_sld hx hb hX hbl hbA hS (vp_in_nI (n := 1) (by decide) (by decide)) dL_law_1461 ?_
      refine lv_aload_n hx hb dL_law_1462 rfl (lv_at hl 4 rfl) ?_
      refine lv_iload hx hb dL_law_1463 (lv_at hl 0 rfl) ?_
      refine lv_iconst (v := 2) hx hb dL_law_1465 (by decide) ?_
      refine lv_iadd hx hb dL_law_1466 ?_
      refine lv_topi (fun z_440 ez_440 => ?_)
      obtain rfl : z_440 = 2 := ez_440.trans (by decide)
      refine va_sld hx hb hX hbl hbA hS (vp_in_nI (n := 2) (by decide) (by decide)) dL_law_1467 ?_
      refine lv_aload_n hx hb dL_law_1468 rfl (lv_at hl 4 rfl) ?_
      refine lv_iload hx hb dL_law_1469 (lv_at hl 0 rfl) ?_
      refine lv_iconst (v := 3) hx hb dL_law_1471 (by decide) ?_
      refine lv_iadd hx hb dL_law_1472 ?_
      refine lv_topi (fun z_441 ez_441 => ?_)
      obtain rfl : z_441 = 3 := ez_441.trans (by decide)
      refine va_sld hx hb hX hbl hbA hS (vp_in_nI (n := 3) (by decide) (by decide)) dL_law_1473 ?_
      have hPc := hP.sub (ws' := [(x, .inr (10, fs_x)), (rd, .inr (6, fs_rd)), (tp, .inr (9, fs_tp)), (ra, .inr (5, [.long u0, .long w0])), (li, .inr (3, fs_li)), (ho, .inr (4, fs_ho)), (dr, .inr (3, fs_dr)), (hd, .inr (4, fs_hd))]) [0, 1, 2, 4, 5, 6, 7, 8] rfl
      have hDc := hD.sub (ws' := [(x, .inr (10, fs_x)), (rd, .inr (6, fs_rd)), (tp, .inr (9, fs_tp)), (ra, .inr (5, [.long u0, .long w0])), (li, .inr (3, fs_li)), (ho, .inr (4, fs_ho)), (dr, .inr (3, fs_dr)), (hd, .inr (4, fs_hd))]) [0, 1, 2, 4, 5, 6, 7, 8] (by decide) rfl
      have hKc := hK.sub (tys' := []) [] rfl
      have hFc := va_free (wc := [(x, .inr (10, fs_x)), (rd, .inr (6, fs_rd)), (tp, .inr (9, fs_tp)), (ra, .inr (5, [.long u0, .long w0])), (li, .inr (3, fs_li)), (ho, .inr (4, fs_ho)), (dr, .inr (3, fs_dr)), (hd, .inr (4, fs_hd))]) hD hS hA [0, 1, 2, 4, 5, 6, 7, 8] rfl
      refine va_calli (va_runV (As := [.int (xs (1 : Int32).toNatClampNeg), .int (xs (2 : Int32).toNatClampNeg), .int (xs (3 : Int32).toNatClampNeg)]) (rest := []) ⟨hx, hb, hml, hown, hts⟩ (k_X11_pointsAt l dC dI H.size x fs_x rd fs_rd tp fs_tp ra [.long u0, .long w0] li fs_li ho fs_ho dr fs_dr hd fs_hd (xs (1 : Int32).toNatClampNeg) (xs (2 : Int32).toNatClampNeg) (xs (3 : Int32).toNatClampNeg) hn_x hf_x_0 hf_x_3 hf_x_8 hf_x_9 hf_x_10 hn_rd hf_rd_0 hn_tp rfl hn_li hf_li_2 hn_ho hn_dr hf_dr_2 hn_hd) (cwV 3 hts gL0_X11_pointsAt rfl rfl rfl (by decide +kernel) ⟨Nat.le_of_ble_eq_true rfl, Nat.le_of_ble_eq_true rfl⟩) ⟨fun a U g mk q => by obtain ⟨q0, q1, qP, qK, qD⟩ := q; exact ⟨q0, q1, qP, va_K.moved (u := U) (U := U.calling g mk a) (Vm.Alike.refl U.vm) qK, qD⟩, va_recv hKc hPc (ci := 10) (q0 := 0) rfl rfl, fun U hU hW => ⟨rfl, by rw [hU], by rw [hU]; exact hPc, va_K.moved hW.alike hKc, hDc.weaken (fun _ _ _ _ => trivial)⟩⟩ rfl rfl hl.1 rfl (lv_room (Nat.le_of_ble_eq_true rfl)) dL_law_1474 ⟨Nat.le_of_ble_eq_true rfl, Nat.le_of_ble_eq_true rfl⟩) hS (fun q _ h => hFc q h) hFc (fun r_442 u t H1 locs ht hvm hw hB hz1 hk1 hS => ?_)
      obtain ⟨hP1, hK1, hD1⟩ := hB
      rw [ht] at hP1
      have hK1 := va_K.moved hvm.symm hK1
      obtain ⟨hP, hD⟩ := va_join (wr := [(ba, .inl (cB, 900, .inl fb)), (mm, .inr (11, fs_mm)), (mb, .inl (cM, 900, .inl fM))]) (w1 := []) hP hD [0, 1, 2, 4, 5, 6, 7, 8] [3, 9, 10] rfl rfl (by decide) (by decide) hk1 hFc hP1 hD1
      generalize H1 = H at hP hS ⊢
      have hP : va_P (dC, dI) vwCl [(ba, .inl (cB, 900, .inl fb)), (mm, .inr (11, fs_mm)), (mb, .inl (cM, 900, .inl fM))] H := hP
      have hD : va_D A [(ba, .inl (cB, 900, .inl fb)), (mm, .inr (11, fs_mm)), (mb, .inl (cM, 900, .inl fM))] := hD
      have er_442 : r_442 = (-2147483648) := hw
      subst er_442
      refine lv_aload_n hx hb dL_law_1477 rfl (lv_at hl 2 rfl) ?_
      refine lv_aload_n hx hb dL_law_1478 rfl (lv_at hl 4 rfl) ?_
      refine lv_iload hx hb dL_law_1479 (lv_at hl 0 rfl) ?_
      refine lv_iconst (v := 1) hx hb dL_law_1481 (by decide) ?_
      refine lv_iadd hx hb dL_law_1482 ?_
      refine lv_topi (fun z_443 ez_443 => ?_)
      obtain rfl : z_443 = 1 := ez_443.trans (by decide)
      refine va_sld hx hb hX hbl hbA hS (vp_in_nI (n := 1) (by decide) (by decide)) dL_law_1483 ?_
      refine lv_aload_n hx hb dL_law_1484 rfl (lv_at hl 4 rfl) ?_
      refine lv_iload hx hb dL_law_1485 (lv_at hl 0 rfl) ?_
      refine lv_iconst (v := 2) hx hb dL_law_1487 (by decide) ?_
      refine lv_iadd hx hb dL_law_1488 ?_
      refine lv_topi (fun z_444 ez_444 => ?_)
      obtain rfl : z_444 = 2 := ez_444.trans (by decide)
      refine va_sld hx hb hX hbl hbA hS (vp_in_nI (n := 2) (by decide) (by decide)) dL_law_1489 ?_
      refine lv_aload_n hx hb dL_law_1490 rfl (lv_at hl 4 rfl) ?_
      refine lv_iload hx hb dL_law_1491 (lv_at hl 0 rfl) ?_
      refine lv_iconst (v := 3) hx hb dL_law_1493 (by decide) ?_
      refine lv_iadd hx hb dL_law_1494 ?_
      refine lv_topi (fun z_445 ez_445 => ?_)
      obtain rfl : z_445 = 3 := ez_445.trans (by decide)
      refine va_sld hx hb hX hbl hbA hS (vp_in_nI (n := 3) (by decide) (by decide)) dL_law_1495 ?_
      have hPc := hP.sub (ws' := [(mm, .inr (11, fs_mm))]) [1] rfl
      have hDc := hD.sub (ws' := [(mm, .inr (11, fs_mm))]) [1] (by decide) rfl
      have hKc := hK.sub (tys' := []) [] rfl
      have hFc := va_free (wc := [(mm, .inr (11, fs_mm))]) hD hS hA [1] rfl
      refine va_calli (va_runV (As := [.int (xs (1 : Int32).toNatClampNeg), .int (xs (2 : Int32).toNatClampNeg), .int (xs (3 : Int32).toNatClampNeg)]) (rest := [.int (-2147483648)]) ⟨hx, hb, hml, hown, hts⟩ (k_X12_pointsAt l dC dI H.size mm fs_mm (xs (1 : Int32).toNatClampNeg) (xs (2 : Int32).toNatClampNeg) (xs (3 : Int32).toNatClampNeg) hn_mm hf_mm_20) (cwV 3 hts gL0_X12_pointsAt rfl rfl rfl (by decide +kernel) ⟨Nat.le_of_ble_eq_true rfl, Nat.le_of_ble_eq_true rfl⟩) ⟨fun a U g mk q => by obtain ⟨q0, q1, qP, qK, qD⟩ := q; exact ⟨q0, q1, qP, va_K.moved (u := U) (U := U.calling g mk a) (Vm.Alike.refl U.vm) qK, qD⟩, va_recv hKc hPc (ci := 11) (q0 := 0) rfl rfl, fun U hU hW => ⟨rfl, by rw [hU], by rw [hU]; exact hPc, va_K.moved hW.alike hKc, hDc.weaken (fun _ _ _ _ => trivial)⟩⟩ rfl rfl hl.1 rfl (lv_room (Nat.le_of_ble_eq_true rfl)) dL_law_1496 ⟨Nat.le_of_ble_eq_true rfl, Nat.le_of_ble_eq_true rfl⟩) hS (fun q _ h => hFc q h) hFc (fun r_446 u t H1 locs ht hvm hw hB hz1 hk1 hS => ?_)
      obtain ⟨hP1, hK1, hD1⟩ := hB
      rw [ht] at hP1
      have hK1 := va_K.moved hvm.symm hK1
      obtain ⟨hP, hD⟩ := va_join (wr := [(ba, .inl (cB, 900, .inl fb)), (mb, .inl (cM, 900, .inl fM))]) (w1 := []) hP hD [1] [0, 2] rfl rfl (by decide) (by decide) hk1 hFc hP1 hD1
      generalize H1 = H at hP hS ⊢
      have hP : va_P (dC, dI) vwCl [(ba, .inl (cB, 900, .inl fb)), (mb, .inl (cM, 900, .inl fM))] H := hP
      have hD : va_D A [(ba, .inl (cB, 900, .inl fb)), (mb, .inl (cM, 900, .inl fM))] := hD
      have er_446 : r_446 = (-2147483648) := hw
      subst er_446
      refine lv_icmp_eq (tgt := 1893) hx hb dL_law_1499 (by decide) (fun c_447 => ?_) (fun c_447 => ?_)
      · refine lv_iinc (v := 6) (lv' := [(4, .int 6), (3, .ref lo), (2, .ref mm), (1, .ref x), (0, .ref b)]) hx hb dL_law_1893 hl (k := 0) rfl (by decide) (by decide) rfl (fun ls hl => ?_)
        refine lv_goto (tgt := 23) hx hb dL_law_1896 (by decide) ?_
        refine lv_iload hx hb dL_law_23 (lv_at hl 0 rfl) ?_
        refine lv_aload_n hx hb dL_law_25 rfl (lv_at hl 4 rfl) ?_
        refine va_slen hx hb hX hbl hbA hS dL_law_26 ?_
        refine lv_topi (fun z_449 ez_449 => ?_)
        obtain rfl : z_449 = 6 := ez_449.trans rfl
        refine lv_bipush (v := 6) hx hb dL_law_27 (by decide) ?_
        refine lv_isub hx hb dL_law_29 ?_
        refine lv_topi (fun z_450 ez_450 => ?_)
        obtain rfl : z_450 = 0 := ez_450.trans (by decide)
        refine lv_icmp_gt (tgt := 1899) hx hb dL_law_30 (by decide) (fun c_451 => ?_) (fun c_451 => ?_)
        · refine lv_iconst (v := 1) hx hb dL_law_1899 (by decide) ?_
          refine va_forget (fun q hq => by have h9 := hS.2.2 q hq; rw [← hAe] at h9; exact h9) ?_
          refine W.widen (k := 600002) (n := 7302232) (Nat.le_of_ble_eq_true rfl) (Nat.le_of_ble_eq_true rfl) ?_
          exact lw_ret hd0 hx hb hr hlocks dL_law_1900
        · exact absurd (by decide) c_451
      · exact absurd (by decide) c_447
    by_cases c_452 : ((xs (0 : Int32).toNatClampNeg) &&& 63) = 27
    · refine lv_tableIn (tgt := 1504) hx hb dL_law_40 (by rw [c_452]; decide) (by rw [c_452]; decide) (by rw [c_452]; rfl) (by decide) ?_
      refine lv_aload_n hx hb dL_law_1504 rfl (lv_at hl 3 rfl) ?_
      refine lv_aload_n hx hb dL_law_1505 rfl (lv_at hl 4 rfl) ?_
      refine lv_iload hx hb dL_law_1506 (lv_at hl 0 rfl) ?_
      refine lv_iconst (v := 1) hx hb dL_law_1508 (by decide) ?_
      refine lv_iadd hx hb dL_law_1509 ?_
      refine lv_topi (fun z_453 ez_453 => ?_)
      obtain rfl : z_453 = 1 := ez_453.trans (by decide)
      refine va_sld hx hb hX hbl hbA hS (vp_in_nI (n := 1) (by decide) (by decide)) dL_law_1510 ?_
      refine lv_aload_n hx hb dL_law_1511 rfl (lv_at hl 4 rfl) ?_
      refine lv_iload hx hb dL_law_1512 (lv_at hl 0 rfl) ?_
      refine lv_iconst (v := 2) hx hb dL_law_1514 (by decide) ?_
      refine lv_iadd hx hb dL_law_1515 ?_
      refine lv_topi (fun z_454 ez_454 => ?_)
      obtain rfl : z_454 = 2 := ez_454.trans (by decide)
      refine va_sld hx hb hX hbl hbA hS (vp_in_nI (n := 2) (by decide) (by decide)) dL_law_1516 ?_
      have hPc := hP.sub (ws' := [(x, .inr (10, fs_x))]) [0] rfl
      have hDc := hD.sub (ws' := [(x, .inr (10, fs_x))]) [0] (by decide) rfl
      have hKc := hK.sub (tys' := []) [] rfl
      have hFc := va_free (wc := [(x, .inr (10, fs_x))]) hD hS hA [0] rfl
      refine va_calli (va_runV (As := [.int (xs (1 : Int32).toNatClampNeg), .int (xs (2 : Int32).toNatClampNeg)]) (rest := []) ⟨hx, hb, hml, hown, hts⟩ (k_X11_quote l dC dI H.size x fs_x (xs (1 : Int32).toNatClampNeg) (xs (2 : Int32).toNatClampNeg) hn_x hf_x_10) (cwV 2 hts gL0_X11_quote rfl rfl rfl (by decide +kernel) ⟨Nat.le_of_ble_eq_true rfl, Nat.le_of_ble_eq_true rfl⟩) ⟨fun a U g mk q => by obtain ⟨q0, q1, qP, qK, qD⟩ := q; exact ⟨q0, q1, qP, va_K.moved (u := U) (U := U.calling g mk a) (Vm.Alike.refl U.vm) qK, qD⟩, va_recv hKc hPc (ci := 10) (q0 := 0) rfl rfl, fun U hU hW => ⟨rfl, by rw [hU], by rw [hU]; exact hPc, va_K.moved hW.alike hKc, hDc.weaken (fun _ _ _ _ => trivial)⟩⟩ rfl rfl hl.1 rfl (lv_room (Nat.le_of_ble_eq_true rfl)) dL_law_1517 ⟨Nat.le_of_ble_eq_true rfl, Nat.le_of_ble_eq_true rfl⟩) hS (fun q _ h => hFc q h) hFc (fun r_455 u t H1 locs ht hvm hw hB hz1 hk1 hS => ?_)
      obtain ⟨hP1, hK1, hD1⟩ := hB
      rw [ht] at hP1
      have hK1 := va_K.moved hvm.symm hK1
      obtain ⟨hP, hD⟩ := va_join (wr := [(rd, .inr (6, fs_rd)), (tp, .inr (9, fs_tp)), (ba, .inl (cB, 900, .inl fb)), (ra, .inr (5, [.long u0, .long w0])), (li, .inr (3, fs_li)), (ho, .inr (4, fs_ho)), (dr, .inr (3, fs_dr)), (hd, .inr (4, fs_hd)), (mm, .inr (11, fs_mm)), (mb, .inl (cM, 900, .inl fM))]) (w1 := []) hP hD [0] [1, 2, 3, 4, 5, 6, 7, 8, 9, 10] rfl rfl (by decide) (by decide) hk1 hFc hP1 hD1
      generalize H1 = H at hP hS ⊢
      have hP : va_P (dC, dI) vwCl [(rd, .inr (6, fs_rd)), (tp, .inr (9, fs_tp)), (ba, .inl (cB, 900, .inl fb)), (ra, .inr (5, [.long u0, .long w0])), (li, .inr (3, fs_li)), (ho, .inr (4, fs_ho)), (dr, .inr (3, fs_dr)), (hd, .inr (4, fs_hd)), (mm, .inr (11, fs_mm)), (mb, .inl (cM, 900, .inl fM))] H := hP
      have hD : va_D A [(rd, .inr (6, fs_rd)), (tp, .inr (9, fs_tp)), (ba, .inl (cB, 900, .inl fb)), (ra, .inr (5, [.long u0, .long w0])), (li, .inr (3, fs_li)), (ho, .inr (4, fs_ho)), (dr, .inr (3, fs_dr)), (hd, .inr (4, fs_hd)), (mm, .inr (11, fs_mm)), (mb, .inl (cM, 900, .inl fM))] := hD
      have er_455 : r_455 = (-1) := hw
      subst er_455
      refine lv_aload_n hx hb dL_law_1520 rfl (lv_at hl 2 rfl) ?_
      refine lv_aload_n hx hb dL_law_1521 rfl (lv_at hl 4 rfl) ?_
      refine lv_iload hx hb dL_law_1522 (lv_at hl 0 rfl) ?_
      refine lv_iconst (v := 1) hx hb dL_law_1524 (by decide) ?_
      refine lv_iadd hx hb dL_law_1525 ?_
      refine lv_topi (fun z_456 ez_456 => ?_)
      obtain rfl : z_456 = 1 := ez_456.trans (by decide)
      refine va_sld hx hb hX hbl hbA hS (vp_in_nI (n := 1) (by decide) (by decide)) dL_law_1526 ?_
      refine lv_aload_n hx hb dL_law_1527 rfl (lv_at hl 4 rfl) ?_
      refine lv_iload hx hb dL_law_1528 (lv_at hl 0 rfl) ?_
      refine lv_iconst (v := 2) hx hb dL_law_1530 (by decide) ?_
      refine lv_iadd hx hb dL_law_1531 ?_
      refine lv_topi (fun z_457 ez_457 => ?_)
      obtain rfl : z_457 = 2 := ez_457.trans (by decide)
      refine va_sld hx hb hX hbl hbA hS (vp_in_nI (n := 2) (by decide) (by decide)) dL_law_1532 ?_
      have hPc := hP.sub (ws' := [(mm, .inr (11, fs_mm))]) [8] rfl
      have hDc := hD.sub (ws' := [(mm, .inr (11, fs_mm))]) [8] (by decide) rfl
      have hKc := hK.sub (tys' := []) [] rfl
      have hFc := va_free (wc := [(mm, .inr (11, fs_mm))]) hD hS hA [8] rfl
      refine va_calli (va_runV (As := [.int (xs (1 : Int32).toNatClampNeg), .int (xs (2 : Int32).toNatClampNeg)]) (rest := [.int (-1)]) ⟨hx, hb, hml, hown, hts⟩ (k_X12_quote l dC dI H.size mm fs_mm (xs (1 : Int32).toNatClampNeg) (xs (2 : Int32).toNatClampNeg) hn_mm hf_mm_21) (cwV 2 hts gL0_X12_quote rfl rfl rfl (by decide +kernel) ⟨Nat.le_of_ble_eq_true rfl, Nat.le_of_ble_eq_true rfl⟩) ⟨fun a U g mk q => by obtain ⟨q0, q1, qP, qK, qD⟩ := q; exact ⟨q0, q1, qP, va_K.moved (u := U) (U := U.calling g mk a) (Vm.Alike.refl U.vm) qK, qD⟩, va_recv hKc hPc (ci := 11) (q0 := 0) rfl rfl, fun U hU hW => ⟨rfl, by rw [hU], by rw [hU]; exact hPc, va_K.moved hW.alike hKc, hDc.weaken (fun _ _ _ _ => trivial)⟩⟩ rfl rfl hl.1 rfl (lv_room (Nat.le_of_ble_eq_true rfl)) dL_law_1533 ⟨Nat.le_of_ble_eq_true rfl, Nat.le_of_ble_eq_true rfl⟩) hS (fun q _ h => hFc q h) hFc (fun r_458 u t H1 locs ht hvm hw hB hz1 hk1 hS => ?_)
      obtain ⟨hP1, hK1, hD1⟩ := hB
      rw [ht] at hP1
      have hK1 := va_K.moved hvm.symm hK1
      obtain ⟨hP, hD⟩ := va_join (wr := [(rd, .inr (6, fs_rd)), (tp, .inr (9, fs_tp)), (ba, .inl (cB, 900, .inl fb)), (ra, .inr (5, [.long u0, .long w0])), (li, .inr (3, fs_li)), (ho, .inr (4, fs_ho)), (dr, .inr (3, fs_dr)), (hd, .inr (4, fs_hd)), (mb, .inl (cM, 900, .inl fM))]) (w1 := []) hP hD [8] [0, 1, 2, 3, 4, 5, 6, 7, 9] rfl rfl (by decide) (by decide) hk1 hFc hP1 hD1
      generalize H1 = H at hP hS ⊢
      have hP : va_P (dC, dI) vwCl [(rd, .inr (6, fs_rd)), (tp, .inr (9, fs_tp)), (ba, .inl (cB, 900, .inl fb)), (ra, .inr (5, [.long u0, .long w0])), (li, .inr (3, fs_li)), (ho, .inr (4, fs_ho)), (dr, .inr (3, fs_dr)), (hd, .inr (4, fs_hd)), (mb, .inl (cM, 900, .inl fM))] H := hP
      have hD : va_D A [(rd, .inr (6, fs_rd)), (tp, .inr (9, fs_tp)), (ba, .inl (cB, 900, .inl fb)), (ra, .inr (5, [.long u0, .long w0])), (li, .inr (3, fs_li)), (ho, .inr (4, fs_ho)), (dr, .inr (3, fs_dr)), (hd, .inr (4, fs_hd)), (mb, .inl (cM, 900, .inl fM))] := hD
      have er_458 : r_458 = (-1) := hw
      subst er_458
      refine lv_icmp_eq (tgt := 1893) hx hb dL_law_1536 (by decide) (fun c_459 => ?_) (fun c_459 => ?_)
      · refine lv_iinc (v := 6) (lv' := [(4, .int 6), (3, .ref lo), (2, .ref mm), (1, .ref x), (0, .ref b)]) hx hb dL_law_1893 hl (k := 0) rfl (by decide) (by decide) rfl (fun ls hl => ?_)
        refine lv_goto (tgt := 23) hx hb dL_law_1896 (by decide) ?_
        refine lv_iload hx hb dL_law_23 (lv_at hl 0 rfl) ?_
        refine lv_aload_n hx hb dL_law_25 rfl (lv_at hl 4 rfl) ?_
        refine va_slen hx hb hX hbl hbA hS dL_law_26 ?_
        refine lv_topi (fun z_461 ez_461 => ?_)
        obtain rfl : z_461 = 6 := ez_461.trans rfl
        refine lv_bipush (v := 6) hx hb dL_law_27 (by decide) ?_
        refine lv_isub hx hb dL_law_29 ?_
        refine lv_topi (fun z_462 ez_462 => ?_)
        obtain rfl : z_462 = 0 := ez_462.trans (by decide)
        refine lv_icmp_gt (tgt := 1899) hx hb dL_law_30 (by decide) (fun c_463 => ?_) (fun c_463 => ?_)
        · refine lv_iconst (v := 1) hx hb dL_law_1899 (by decide) ?_
          refine va_forget (fun q hq => by have h9 := hS.2.2 q hq; rw [← hAe] at h9; exact h9) ?_
          refine W.widen (k := 600002) (n := 7302232) (Nat.le_of_ble_eq_true rfl) (Nat.le_of_ble_eq_true rfl) ?_
          exact lw_ret hd0 hx hb hr hlocks dL_law_1900
        · exact absurd (by decide) c_463
      · exact absurd (by decide) c_459
    by_cases c_464 : ((xs (0 : Int32).toNatClampNeg) &&& 63) = 28
    · refine lv_tableIn (tgt := 1541) hx hb dL_law_40 (by rw [c_464]; decide) (by rw [c_464]; decide) (by rw [c_464]; rfl) (by decide) ?_
      refine lv_aload_n hx hb dL_law_1541 rfl (lv_at hl 3 rfl) ?_
      refine lv_aload_n hx hb dL_law_1542 rfl (lv_at hl 4 rfl) ?_
      refine lv_iload hx hb dL_law_1543 (lv_at hl 0 rfl) ?_
      refine lv_iconst (v := 1) hx hb dL_law_1545 (by decide) ?_
      refine lv_iadd hx hb dL_law_1546 ?_
      refine lv_topi (fun z_465 ez_465 => ?_)
      obtain rfl : z_465 = 1 := ez_465.trans (by decide)
      refine va_sld hx hb hX hbl hbA hS (vp_in_nI (n := 1) (by decide) (by decide)) dL_law_1547 ?_
      have hPc := hP.sub (ws' := [(x, .inr (10, fs_x))]) [0] rfl
      have hDc := hD.sub (ws' := [(x, .inr (10, fs_x))]) [0] (by decide) rfl
      have hKc := hK.sub (tys' := []) [] rfl
      have hFc := va_free (wc := [(x, .inr (10, fs_x))]) hD hS hA [0] rfl
      refine va_calll (va_runV (As := [.int (xs (1 : Int32).toNatClampNeg)]) (rest := []) ⟨hx, hb, hml, hown, hts⟩ (k_X11_off l dC dI H.size x fs_x (xs (1 : Int32).toNatClampNeg) hn_x hf_x_10) (cwV 1 hts gL0_X11_off rfl rfl rfl (by decide +kernel) ⟨Nat.le_of_ble_eq_true rfl, Nat.le_of_ble_eq_true rfl⟩) ⟨fun a U g mk q => by obtain ⟨q0, q1, qP, qK, qD⟩ := q; exact ⟨q0, q1, qP, va_K.moved (u := U) (U := U.calling g mk a) (Vm.Alike.refl U.vm) qK, qD⟩, va_recv hKc hPc (ci := 10) (q0 := 0) rfl rfl, fun U hU hW => ⟨rfl, by rw [hU], by rw [hU]; exact hPc, va_K.moved hW.alike hKc, hDc.weaken (fun _ _ _ _ => trivial)⟩⟩ rfl rfl hl.1 rfl (lv_room (Nat.le_of_ble_eq_true rfl)) dL_law_1548 ⟨Nat.le_of_ble_eq_true rfl, Nat.le_of_ble_eq_true rfl⟩) hS (fun q _ h => hFc q h) hFc (fun r_466 u t H1 locs ht hvm hw hB hz1 hk1 hS => ?_)
      obtain ⟨hP1, hK1, hD1⟩ := hB
      rw [ht] at hP1
      have hK1 := va_K.moved hvm.symm hK1
      obtain ⟨hP, hD⟩ := va_join (wr := [(rd, .inr (6, fs_rd)), (tp, .inr (9, fs_tp)), (ba, .inl (cB, 900, .inl fb)), (ra, .inr (5, [.long u0, .long w0])), (li, .inr (3, fs_li)), (ho, .inr (4, fs_ho)), (dr, .inr (3, fs_dr)), (hd, .inr (4, fs_hd)), (mm, .inr (11, fs_mm)), (mb, .inl (cM, 900, .inl fM))]) (w1 := []) hP hD [0] [1, 2, 3, 4, 5, 6, 7, 8, 9, 10] rfl rfl (by decide) (by decide) hk1 hFc hP1 hD1
      generalize H1 = H at hP hS ⊢
      have hP : va_P (dC, dI) vwCl [(rd, .inr (6, fs_rd)), (tp, .inr (9, fs_tp)), (ba, .inl (cB, 900, .inl fb)), (ra, .inr (5, [.long u0, .long w0])), (li, .inr (3, fs_li)), (ho, .inr (4, fs_ho)), (dr, .inr (3, fs_dr)), (hd, .inr (4, fs_hd)), (mm, .inr (11, fs_mm)), (mb, .inl (cM, 900, .inl fM))] H := hP
      have hD : va_D A [(rd, .inr (6, fs_rd)), (tp, .inr (9, fs_tp)), (ba, .inl (cB, 900, .inl fb)), (ra, .inr (5, [.long u0, .long w0])), (li, .inr (3, fs_li)), (ho, .inr (4, fs_ho)), (dr, .inr (3, fs_dr)), (hd, .inr (4, fs_hd)), (mm, .inr (11, fs_mm)), (mb, .inl (cM, 900, .inl fM))] := hD
      have er_466 : r_466 = (-9223372036854775808) := hw
      subst er_466
      refine lv_aload_n hx hb dL_law_1551 rfl (lv_at hl 2 rfl) ?_
      refine lv_aload_n hx hb dL_law_1552 rfl (lv_at hl 4 rfl) ?_
      refine lv_iload hx hb dL_law_1553 (lv_at hl 0 rfl) ?_
      refine lv_iconst (v := 1) hx hb dL_law_1555 (by decide) ?_
      refine lv_iadd hx hb dL_law_1556 ?_
      refine lv_topi (fun z_467 ez_467 => ?_)
      obtain rfl : z_467 = 1 := ez_467.trans (by decide)
      refine va_sld hx hb hX hbl hbA hS (vp_in_nI (n := 1) (by decide) (by decide)) dL_law_1557 ?_
      have hPc := hP.sub (ws' := [(mm, .inr (11, fs_mm))]) [8] rfl
      have hDc := hD.sub (ws' := [(mm, .inr (11, fs_mm))]) [8] (by decide) rfl
      have hKc := hK.sub (tys' := []) [] rfl
      have hFc := va_free (wc := [(mm, .inr (11, fs_mm))]) hD hS hA [8] rfl
      refine va_calll (va_runV (As := [.int (xs (1 : Int32).toNatClampNeg)]) (rest := [.long (-9223372036854775808)]) ⟨hx, hb, hml, hown, hts⟩ (k_X12_off l dC dI H.size mm fs_mm (xs (1 : Int32).toNatClampNeg) hn_mm hf_mm_28) (cwV 1 hts gL0_X12_off rfl rfl rfl (by decide +kernel) ⟨Nat.le_of_ble_eq_true rfl, Nat.le_of_ble_eq_true rfl⟩) ⟨fun a U g mk q => by obtain ⟨q0, q1, qP, qK, qD⟩ := q; exact ⟨q0, q1, qP, va_K.moved (u := U) (U := U.calling g mk a) (Vm.Alike.refl U.vm) qK, qD⟩, va_recv hKc hPc (ci := 11) (q0 := 0) rfl rfl, fun U hU hW => ⟨rfl, by rw [hU], by rw [hU]; exact hPc, va_K.moved hW.alike hKc, hDc.weaken (fun _ _ _ _ => trivial)⟩⟩ rfl rfl hl.1 rfl (lv_room (Nat.le_of_ble_eq_true rfl)) dL_law_1558 ⟨Nat.le_of_ble_eq_true rfl, Nat.le_of_ble_eq_true rfl⟩) hS (fun q _ h => hFc q h) hFc (fun r_468 u t H1 locs ht hvm hw hB hz1 hk1 hS => ?_)
      obtain ⟨hP1, hK1, hD1⟩ := hB
      rw [ht] at hP1
      have hK1 := va_K.moved hvm.symm hK1
      obtain ⟨hP, hD⟩ := va_join (wr := [(rd, .inr (6, fs_rd)), (tp, .inr (9, fs_tp)), (ba, .inl (cB, 900, .inl fb)), (ra, .inr (5, [.long u0, .long w0])), (li, .inr (3, fs_li)), (ho, .inr (4, fs_ho)), (dr, .inr (3, fs_dr)), (hd, .inr (4, fs_hd)), (mb, .inl (cM, 900, .inl fM))]) (w1 := []) hP hD [8] [0, 1, 2, 3, 4, 5, 6, 7, 9] rfl rfl (by decide) (by decide) hk1 hFc hP1 hD1
      generalize H1 = H at hP hS ⊢
      have hP : va_P (dC, dI) vwCl [(rd, .inr (6, fs_rd)), (tp, .inr (9, fs_tp)), (ba, .inl (cB, 900, .inl fb)), (ra, .inr (5, [.long u0, .long w0])), (li, .inr (3, fs_li)), (ho, .inr (4, fs_ho)), (dr, .inr (3, fs_dr)), (hd, .inr (4, fs_hd)), (mb, .inl (cM, 900, .inl fM))] H := hP
      have hD : va_D A [(rd, .inr (6, fs_rd)), (tp, .inr (9, fs_tp)), (ba, .inl (cB, 900, .inl fb)), (ra, .inr (5, [.long u0, .long w0])), (li, .inr (3, fs_li)), (ho, .inr (4, fs_ho)), (dr, .inr (3, fs_dr)), (hd, .inr (4, fs_hd)), (mb, .inl (cM, 900, .inl fM))] := hD
      have er_468 : r_468 = (-9223372036854775808) := hw
      subst er_468
      refine W.lcmp hx hb dL_law_1561 ?_
      refine lv_topi (fun z_469 ez_469 => ?_)
      obtain rfl : z_469 = 0 := ez_469.trans (by decide)
      refine lv_if_eq (tgt := 1893) hx hb dL_law_1562 (by decide) (fun c_470 => ?_) (fun c_470 => ?_)
      · refine lv_iinc (v := 6) (lv' := [(4, .int 6), (3, .ref lo), (2, .ref mm), (1, .ref x), (0, .ref b)]) hx hb dL_law_1893 hl (k := 0) rfl (by decide) (by decide) rfl (fun ls hl => ?_)
        refine lv_goto (tgt := 23) hx hb dL_law_1896 (by decide) ?_
        refine lv_iload hx hb dL_law_23 (lv_at hl 0 rfl) ?_
        refine lv_aload_n hx hb dL_law_25 rfl (lv_at hl 4 rfl) ?_
        refine va_slen hx hb hX hbl hbA hS dL_law_26 ?_
        refine lv_topi (fun z_472 ez_472 => ?_)
        obtain rfl : z_472 = 6 := ez_472.trans rfl
        refine lv_bipush (v := 6) hx hb dL_law_27 (by decide) ?_
        refine lv_isub hx hb dL_law_29 ?_
        refine lv_topi (fun z_473 ez_473 => ?_)
        obtain rfl : z_473 = 0 := ez_473.trans (by decide)
        refine lv_icmp_gt (tgt := 1899) hx hb dL_law_30 (by decide) (fun c_474 => ?_) (fun c_474 => ?_)
        · refine lv_iconst (v := 1) hx hb dL_law_1899 (by decide) ?_
          refine va_forget (fun q hq => by have h9 := hS.2.2 q hq; rw [← hAe] at h9; exact h9) ?_
          refine W.widen (k := 600002) (n := 7302232) (Nat.le_of_ble_eq_true rfl) (Nat.le_of_ble_eq_true rfl) ?_
          exact lw_ret hd0 hx hb hr hlocks dL_law_1900
        · exact absurd (by decide) c_474
      · exact absurd (by decide) c_470
    by_cases c_475 : ((xs (0 : Int32).toNatClampNeg) &&& 63) = 29
    · refine lv_tableIn (tgt := 1567) hx hb dL_law_40 (by rw [c_475]; decide) (by rw [c_475]; decide) (by rw [c_475]; rfl) (by decide) ?_
      refine lv_aload_n hx hb dL_law_1567 rfl (lv_at hl 3 rfl) ?_
      have hPc := hP.sub (ws' := [(x, .inr (10, fs_x))]) [0] rfl
      have hDc := hD.sub (ws' := [(x, .inr (10, fs_x))]) [0] (by decide) rfl
      have hKc := hK.sub (tys' := []) [] rfl
      have hFc := va_free (wc := [(x, .inr (10, fs_x))]) hD hS hA [0] rfl
      refine va_calli (va_runV (As := []) (rest := []) ⟨hx, hb, hml, hown, hts⟩ (k_X11_flat l dC dI H.size x fs_x hn_x hf_x_10) (cwV 0 hts gL0_X11_flat rfl rfl rfl (by decide +kernel) ⟨Nat.le_of_ble_eq_true rfl, Nat.le_of_ble_eq_true rfl⟩) ⟨fun a U g mk q => by obtain ⟨q0, q1, qP, qK, qD⟩ := q; exact ⟨q0, q1, qP, va_K.moved (u := U) (U := U.calling g mk a) (Vm.Alike.refl U.vm) qK, qD⟩, va_recv hKc hPc (ci := 10) (q0 := 0) rfl rfl, fun U hU hW => ⟨rfl, by rw [hU], by rw [hU]; exact hPc, va_K.moved hW.alike hKc, hDc.weaken (fun _ _ _ _ => trivial)⟩⟩ rfl rfl hl.1 rfl (lv_room (Nat.le_of_ble_eq_true rfl)) dL_law_1568 ⟨Nat.le_of_ble_eq_true rfl, Nat.le_of_ble_eq_true rfl⟩) hS (fun q _ h => hFc q h) hFc (fun r_476 u t H1 locs ht hvm hw hB hz1 hk1 hS => ?_)
      obtain ⟨hP1, hK1, hD1⟩ := hB
      rw [ht] at hP1
      have hK1 := va_K.moved hvm.symm hK1
      obtain ⟨hP, hD⟩ := va_join (wr := [(rd, .inr (6, fs_rd)), (tp, .inr (9, fs_tp)), (ba, .inl (cB, 900, .inl fb)), (ra, .inr (5, [.long u0, .long w0])), (li, .inr (3, fs_li)), (ho, .inr (4, fs_ho)), (dr, .inr (3, fs_dr)), (hd, .inr (4, fs_hd)), (mm, .inr (11, fs_mm)), (mb, .inl (cM, 900, .inl fM))]) (w1 := []) hP hD [0] [1, 2, 3, 4, 5, 6, 7, 8, 9, 10] rfl rfl (by decide) (by decide) hk1 hFc hP1 hD1
      generalize H1 = H at hP hS ⊢
      have hP : va_P (dC, dI) vwCl [(rd, .inr (6, fs_rd)), (tp, .inr (9, fs_tp)), (ba, .inl (cB, 900, .inl fb)), (ra, .inr (5, [.long u0, .long w0])), (li, .inr (3, fs_li)), (ho, .inr (4, fs_ho)), (dr, .inr (3, fs_dr)), (hd, .inr (4, fs_hd)), (mm, .inr (11, fs_mm)), (mb, .inl (cM, 900, .inl fM))] H := hP
      have hD : va_D A [(rd, .inr (6, fs_rd)), (tp, .inr (9, fs_tp)), (ba, .inl (cB, 900, .inl fb)), (ra, .inr (5, [.long u0, .long w0])), (li, .inr (3, fs_li)), (ho, .inr (4, fs_ho)), (dr, .inr (3, fs_dr)), (hd, .inr (4, fs_hd)), (mm, .inr (11, fs_mm)), (mb, .inl (cM, 900, .inl fM))] := hD
      have er_476 : r_476 = (-1) := hw
      subst er_476
      refine lv_aload_n hx hb dL_law_1571 rfl (lv_at hl 2 rfl) ?_
      have hPc := hP.sub (ws' := [(mm, .inr (11, fs_mm))]) [8] rfl
      have hDc := hD.sub (ws' := [(mm, .inr (11, fs_mm))]) [8] (by decide) rfl
      have hKc := hK.sub (tys' := []) [] rfl
      have hFc := va_free (wc := [(mm, .inr (11, fs_mm))]) hD hS hA [8] rfl
      refine va_calli (va_runV (As := []) (rest := [.int (-1)]) ⟨hx, hb, hml, hown, hts⟩ (k_X12_flat l dC dI H.size mm fs_mm hn_mm hf_mm_28) (cwV 0 hts gL0_X12_flat rfl rfl rfl (by decide +kernel) ⟨Nat.le_of_ble_eq_true rfl, Nat.le_of_ble_eq_true rfl⟩) ⟨fun a U g mk q => by obtain ⟨q0, q1, qP, qK, qD⟩ := q; exact ⟨q0, q1, qP, va_K.moved (u := U) (U := U.calling g mk a) (Vm.Alike.refl U.vm) qK, qD⟩, va_recv hKc hPc (ci := 11) (q0 := 0) rfl rfl, fun U hU hW => ⟨rfl, by rw [hU], by rw [hU]; exact hPc, va_K.moved hW.alike hKc, hDc.weaken (fun _ _ _ _ => trivial)⟩⟩ rfl rfl hl.1 rfl (lv_room (Nat.le_of_ble_eq_true rfl)) dL_law_1572 ⟨Nat.le_of_ble_eq_true rfl, Nat.le_of_ble_eq_true rfl⟩) hS (fun q _ h => hFc q h) hFc (fun r_477 u t H1 locs ht hvm hw hB hz1 hk1 hS => ?_)
      obtain ⟨hP1, hK1, hD1⟩ := hB
      rw [ht] at hP1
      have hK1 := va_K.moved hvm.symm hK1
      obtain ⟨hP, hD⟩ := va_join (wr := [(rd, .inr (6, fs_rd)), (tp, .inr (9, fs_tp)), (ba, .inl (cB, 900, .inl fb)), (ra, .inr (5, [.long u0, .long w0])), (li, .inr (3, fs_li)), (ho, .inr (4, fs_ho)), (dr, .inr (3, fs_dr)), (hd, .inr (4, fs_hd)), (mb, .inl (cM, 900, .inl fM))]) (w1 := []) hP hD [8] [0, 1, 2, 3, 4, 5, 6, 7, 9] rfl rfl (by decide) (by decide) hk1 hFc hP1 hD1
      generalize H1 = H at hP hS ⊢
      have hP : va_P (dC, dI) vwCl [(rd, .inr (6, fs_rd)), (tp, .inr (9, fs_tp)), (ba, .inl (cB, 900, .inl fb)), (ra, .inr (5, [.long u0, .long w0])), (li, .inr (3, fs_li)), (ho, .inr (4, fs_ho)), (dr, .inr (3, fs_dr)), (hd, .inr (4, fs_hd)), (mb, .inl (cM, 900, .inl fM))] H := hP
      have hD : va_D A [(rd, .inr (6, fs_rd)), (tp, .inr (9, fs_tp)), (ba, .inl (cB, 900, .inl fb)), (ra, .inr (5, [.long u0, .long w0])), (li, .inr (3, fs_li)), (ho, .inr (4, fs_ho)), (dr, .inr (3, fs_dr)), (hd, .inr (4, fs_hd)), (mb, .inl (cM, 900, .inl fM))] := hD
      have er_477 : r_477 = (-1) := hw
      subst er_477
      refine lv_icmp_eq (tgt := 1893) hx hb dL_law_1575 (by decide) (fun c_478 => ?_) (fun c_478 => ?_)
      · refine lv_iinc (v := 6) (lv' := [(4, .int 6), (3, .ref lo), (2, .ref mm), (1, .ref x), (0, .ref b)]) hx hb dL_law_1893 hl (k := 0) rfl (by decide) (by decide) rfl (fun ls hl => ?_)
        refine lv_goto (tgt := 23) hx hb dL_law_1896 (by decide) ?_
        refine lv_iload hx hb dL_law_23 (lv_at hl 0 rfl) ?_
        refine lv_aload_n hx hb dL_law_25 rfl (lv_at hl 4 rfl) ?_
        refine va_slen hx hb hX hbl hbA hS dL_law_26 ?_
        refine lv_topi (fun z_480 ez_480 => ?_)
        obtain rfl : z_480 = 6 := ez_480.trans rfl
        refine lv_bipush (v := 6) hx hb dL_law_27 (by decide) ?_
        refine lv_isub hx hb dL_law_29 ?_
        refine lv_topi (fun z_481 ez_481 => ?_)
        obtain rfl : z_481 = 0 := ez_481.trans (by decide)
        refine lv_icmp_gt (tgt := 1899) hx hb dL_law_30 (by decide) (fun c_482 => ?_) (fun c_482 => ?_)
        · refine lv_iconst (v := 1) hx hb dL_law_1899 (by decide) ?_
          refine va_forget (fun q hq => by have h9 := hS.2.2 q hq; rw [← hAe] at h9; exact h9) ?_
          refine W.widen (k := 600002) (n := 7302232) (Nat.le_of_ble_eq_true rfl) (Nat.le_of_ble_eq_true rfl) ?_
          exact lw_ret hd0 hx hb hr hlocks dL_law_1900
        · exact absurd (by decide) c_482
      · exact absurd (by decide) c_478
    by_cases c_483 : ((xs (0 : Int32).toNatClampNeg) &&& 63) = 30
    · refine lv_tableIn (tgt := 1580) hx hb dL_law_40 (by rw [c_483]; decide) (by rw [c_483]; decide) (by rw [c_483]; rfl) (by decide) ?_
      refine lv_aload_n hx hb dL_law_1580 rfl (lv_at hl 3 rfl) ?_
      have hPc := hP.sub (ws' := [(x, .inr (10, fs_x))]) [0] rfl
      have hDc := hD.sub (ws' := [(x, .inr (10, fs_x))]) [0] (by decide) rfl
      have hKc := hK.sub (tys' := []) [] rfl
      have hFc := va_free (wc := [(x, .inr (10, fs_x))]) hD hS hA [0] rfl
      refine va_calli (va_runV (As := []) (rest := []) ⟨hx, hb, hml, hown, hts⟩ (k_X11_cheapest l dC dI H.size x fs_x hn_x hf_x_10) (cwV 0 hts gL0_X11_cheapest rfl rfl rfl (by decide +kernel) ⟨Nat.le_of_ble_eq_true rfl, Nat.le_of_ble_eq_true rfl⟩) ⟨fun a U g mk q => by obtain ⟨q0, q1, qP, qK, qD⟩ := q; exact ⟨q0, q1, qP, va_K.moved (u := U) (U := U.calling g mk a) (Vm.Alike.refl U.vm) qK, qD⟩, va_recv hKc hPc (ci := 10) (q0 := 0) rfl rfl, fun U hU hW => ⟨rfl, by rw [hU], by rw [hU]; exact hPc, va_K.moved hW.alike hKc, hDc.weaken (fun _ _ _ _ => trivial)⟩⟩ rfl rfl hl.1 rfl (lv_room (Nat.le_of_ble_eq_true rfl)) dL_law_1581 ⟨Nat.le_of_ble_eq_true rfl, Nat.le_of_ble_eq_true rfl⟩) hS (fun q _ h => hFc q h) hFc (fun r_484 u t H1 locs ht hvm hw hB hz1 hk1 hS => ?_)
      obtain ⟨hP1, hK1, hD1⟩ := hB
      rw [ht] at hP1
      have hK1 := va_K.moved hvm.symm hK1
      obtain ⟨hP, hD⟩ := va_join (wr := [(rd, .inr (6, fs_rd)), (tp, .inr (9, fs_tp)), (ba, .inl (cB, 900, .inl fb)), (ra, .inr (5, [.long u0, .long w0])), (li, .inr (3, fs_li)), (ho, .inr (4, fs_ho)), (dr, .inr (3, fs_dr)), (hd, .inr (4, fs_hd)), (mm, .inr (11, fs_mm)), (mb, .inl (cM, 900, .inl fM))]) (w1 := []) hP hD [0] [1, 2, 3, 4, 5, 6, 7, 8, 9, 10] rfl rfl (by decide) (by decide) hk1 hFc hP1 hD1
      generalize H1 = H at hP hS ⊢
      have hP : va_P (dC, dI) vwCl [(rd, .inr (6, fs_rd)), (tp, .inr (9, fs_tp)), (ba, .inl (cB, 900, .inl fb)), (ra, .inr (5, [.long u0, .long w0])), (li, .inr (3, fs_li)), (ho, .inr (4, fs_ho)), (dr, .inr (3, fs_dr)), (hd, .inr (4, fs_hd)), (mm, .inr (11, fs_mm)), (mb, .inl (cM, 900, .inl fM))] H := hP
      have hD : va_D A [(rd, .inr (6, fs_rd)), (tp, .inr (9, fs_tp)), (ba, .inl (cB, 900, .inl fb)), (ra, .inr (5, [.long u0, .long w0])), (li, .inr (3, fs_li)), (ho, .inr (4, fs_ho)), (dr, .inr (3, fs_dr)), (hd, .inr (4, fs_hd)), (mm, .inr (11, fs_mm)), (mb, .inl (cM, 900, .inl fM))] := hD
      have er_484 : r_484 = (-1) := hw
      subst er_484
      refine lv_aload_n hx hb dL_law_1584 rfl (lv_at hl 2 rfl) ?_
      have hPc := hP.sub (ws' := [(mm, .inr (11, fs_mm))]) [8] rfl
      have hDc := hD.sub (ws' := [(mm, .inr (11, fs_mm))]) [8] (by decide) rfl
      have hKc := hK.sub (tys' := []) [] rfl
      have hFc := va_free (wc := [(mm, .inr (11, fs_mm))]) hD hS hA [8] rfl
      refine va_calli (va_runV (As := []) (rest := [.int (-1)]) ⟨hx, hb, hml, hown, hts⟩ (k_X12_cheapest l dC dI H.size mm fs_mm hn_mm hf_mm_28) (cwV 0 hts gL0_X12_cheapest rfl rfl rfl (by decide +kernel) ⟨Nat.le_of_ble_eq_true rfl, Nat.le_of_ble_eq_true rfl⟩) ⟨fun a U g mk q => by obtain ⟨q0, q1, qP, qK, qD⟩ := q; exact ⟨q0, q1, qP, va_K.moved (u := U) (U := U.calling g mk a) (Vm.Alike.refl U.vm) qK, qD⟩, va_recv hKc hPc (ci := 11) (q0 := 0) rfl rfl, fun U hU hW => ⟨rfl, by rw [hU], by rw [hU]; exact hPc, va_K.moved hW.alike hKc, hDc.weaken (fun _ _ _ _ => trivial)⟩⟩ rfl rfl hl.1 rfl (lv_room (Nat.le_of_ble_eq_true rfl)) dL_law_1585 ⟨Nat.le_of_ble_eq_true rfl, Nat.le_of_ble_eq_true rfl⟩) hS (fun q _ h => hFc q h) hFc (fun r_485 u t H1 locs ht hvm hw hB hz1 hk1 hS => ?_)
      obtain ⟨hP1, hK1, hD1⟩ := hB
      rw [ht] at hP1
      have hK1 := va_K.moved hvm.symm hK1
      obtain ⟨hP, hD⟩ := va_join (wr := [(rd, .inr (6, fs_rd)), (tp, .inr (9, fs_tp)), (ba, .inl (cB, 900, .inl fb)), (ra, .inr (5, [.long u0, .long w0])), (li, .inr (3, fs_li)), (ho, .inr (4, fs_ho)), (dr, .inr (3, fs_dr)), (hd, .inr (4, fs_hd)), (mb, .inl (cM, 900, .inl fM))]) (w1 := []) hP hD [8] [0, 1, 2, 3, 4, 5, 6, 7, 9] rfl rfl (by decide) (by decide) hk1 hFc hP1 hD1
      generalize H1 = H at hP hS ⊢
      have hP : va_P (dC, dI) vwCl [(rd, .inr (6, fs_rd)), (tp, .inr (9, fs_tp)), (ba, .inl (cB, 900, .inl fb)), (ra, .inr (5, [.long u0, .long w0])), (li, .inr (3, fs_li)), (ho, .inr (4, fs_ho)), (dr, .inr (3, fs_dr)), (hd, .inr (4, fs_hd)), (mb, .inl (cM, 900, .inl fM))] H := hP
      have hD : va_D A [(rd, .inr (6, fs_rd)), (tp, .inr (9, fs_tp)), (ba, .inl (cB, 900, .inl fb)), (ra, .inr (5, [.long u0, .long w0])), (li, .inr (3, fs_li)), (ho, .inr (4, fs_ho)), (dr, .inr (3, fs_dr)), (hd, .inr (4, fs_hd)), (mb, .inl (cM, 900, .inl fM))] := hD
      have er_485 : r_485 = (-1) := hw
      subst er_485
      refine lv_icmp_eq (tgt := 1893) hx hb dL_law_1588 (by decide) (fun c_486 => ?_) (fun c_486 => ?_)
      · refine lv_iinc (v := 6) (lv' := [(4, .int 6), (3, .ref lo), (2, .ref mm), (1, .ref x), (0, .ref b)]) hx hb dL_law_1893 hl (k := 0) rfl (by decide) (by decide) rfl (fun ls hl => ?_)
        refine lv_goto (tgt := 23) hx hb dL_law_1896 (by decide) ?_
        refine lv_iload hx hb dL_law_23 (lv_at hl 0 rfl) ?_
        refine lv_aload_n hx hb dL_law_25 rfl (lv_at hl 4 rfl) ?_
        refine va_slen hx hb hX hbl hbA hS dL_law_26 ?_
        refine lv_topi (fun z_488 ez_488 => ?_)
        obtain rfl : z_488 = 6 := ez_488.trans rfl
        refine lv_bipush (v := 6) hx hb dL_law_27 (by decide) ?_
        refine lv_isub hx hb dL_law_29 ?_
        refine lv_topi (fun z_489 ez_489 => ?_)
        obtain rfl : z_489 = 0 := ez_489.trans (by decide)
        refine lv_icmp_gt (tgt := 1899) hx hb dL_law_30 (by decide) (fun c_490 => ?_) (fun c_490 => ?_)
        · refine lv_iconst (v := 1) hx hb dL_law_1899 (by decide) ?_
          refine va_forget (fun q hq => by have h9 := hS.2.2 q hq; rw [← hAe] at h9; exact h9) ?_
          refine W.widen (k := 600002) (n := 7302232) (Nat.le_of_ble_eq_true rfl) (Nat.le_of_ble_eq_true rfl) ?_
          exact lw_ret hd0 hx hb hr hlocks dL_law_1900
        · exact absurd (by decide) c_490
      · exact absurd (by decide) c_486
    by_cases c_491 : ((xs (0 : Int32).toNatClampNeg) &&& 63) = 31
    · refine lv_tableIn (tgt := 1593) hx hb dL_law_40 (by rw [c_491]; decide) (by rw [c_491]; decide) (by rw [c_491]; rfl) (by decide) ?_
      refine lv_aload_n hx hb dL_law_1593 rfl (lv_at hl 3 rfl) ?_
      have hPc := hP.sub (ws' := [(x, .inr (10, fs_x))]) [0] rfl
      have hDc := hD.sub (ws' := [(x, .inr (10, fs_x))]) [0] (by decide) rfl
      have hKc := hK.sub (tys' := []) [] rfl
      have hFc := va_free (wc := [(x, .inr (10, fs_x))]) hD hS hA [0] rfl
      refine va_calli (va_runV (As := []) (rest := []) ⟨hx, hb, hml, hown, hts⟩ (k_X11_now l dC dI H.size x fs_x hn_x hf_x_10) (cwV 0 hts gL0_X11_now rfl rfl rfl (by decide +kernel) ⟨Nat.le_of_ble_eq_true rfl, Nat.le_of_ble_eq_true rfl⟩) ⟨fun a U g mk q => by obtain ⟨q0, q1, qP, qK, qD⟩ := q; exact ⟨q0, q1, qP, va_K.moved (u := U) (U := U.calling g mk a) (Vm.Alike.refl U.vm) qK, qD⟩, va_recv hKc hPc (ci := 10) (q0 := 0) rfl rfl, fun U hU hW => ⟨rfl, by rw [hU], by rw [hU]; exact hPc, va_K.moved hW.alike hKc, hDc.weaken (fun _ _ _ _ => trivial)⟩⟩ rfl rfl hl.1 rfl (lv_room (Nat.le_of_ble_eq_true rfl)) dL_law_1594 ⟨Nat.le_of_ble_eq_true rfl, Nat.le_of_ble_eq_true rfl⟩) hS (fun q _ h => hFc q h) hFc (fun r_492 u t H1 locs ht hvm hw hB hz1 hk1 hS => ?_)
      obtain ⟨hP1, hK1, hD1⟩ := hB
      rw [ht] at hP1
      have hK1 := va_K.moved hvm.symm hK1
      obtain ⟨hP, hD⟩ := va_join (wr := [(rd, .inr (6, fs_rd)), (tp, .inr (9, fs_tp)), (ba, .inl (cB, 900, .inl fb)), (ra, .inr (5, [.long u0, .long w0])), (li, .inr (3, fs_li)), (ho, .inr (4, fs_ho)), (dr, .inr (3, fs_dr)), (hd, .inr (4, fs_hd)), (mm, .inr (11, fs_mm)), (mb, .inl (cM, 900, .inl fM))]) (w1 := []) hP hD [0] [1, 2, 3, 4, 5, 6, 7, 8, 9, 10] rfl rfl (by decide) (by decide) hk1 hFc hP1 hD1
      generalize H1 = H at hP hS ⊢
      have hP : va_P (dC, dI) vwCl [(rd, .inr (6, fs_rd)), (tp, .inr (9, fs_tp)), (ba, .inl (cB, 900, .inl fb)), (ra, .inr (5, [.long u0, .long w0])), (li, .inr (3, fs_li)), (ho, .inr (4, fs_ho)), (dr, .inr (3, fs_dr)), (hd, .inr (4, fs_hd)), (mm, .inr (11, fs_mm)), (mb, .inl (cM, 900, .inl fM))] H := hP
      have hD : va_D A [(rd, .inr (6, fs_rd)), (tp, .inr (9, fs_tp)), (ba, .inl (cB, 900, .inl fb)), (ra, .inr (5, [.long u0, .long w0])), (li, .inr (3, fs_li)), (ho, .inr (4, fs_ho)), (dr, .inr (3, fs_dr)), (hd, .inr (4, fs_hd)), (mm, .inr (11, fs_mm)), (mb, .inl (cM, 900, .inl fM))] := hD
      have er_492 : r_492 = (-1) := hw
      subst er_492
      refine lv_aload_n hx hb dL_law_1597 rfl (lv_at hl 2 rfl) ?_
      have hPc := hP.sub (ws' := [(mm, .inr (11, fs_mm))]) [8] rfl
      have hDc := hD.sub (ws' := [(mm, .inr (11, fs_mm))]) [8] (by decide) rfl
      have hKc := hK.sub (tys' := []) [] rfl
      have hFc := va_free (wc := [(mm, .inr (11, fs_mm))]) hD hS hA [8] rfl
      refine va_calli (va_runV (As := []) (rest := [.int (-1)]) ⟨hx, hb, hml, hown, hts⟩ (k_X12_now l dC dI H.size mm fs_mm hn_mm hf_mm_28) (cwV 0 hts gL0_X12_now rfl rfl rfl (by decide +kernel) ⟨Nat.le_of_ble_eq_true rfl, Nat.le_of_ble_eq_true rfl⟩) ⟨fun a U g mk q => by obtain ⟨q0, q1, qP, qK, qD⟩ := q; exact ⟨q0, q1, qP, va_K.moved (u := U) (U := U.calling g mk a) (Vm.Alike.refl U.vm) qK, qD⟩, va_recv hKc hPc (ci := 11) (q0 := 0) rfl rfl, fun U hU hW => ⟨rfl, by rw [hU], by rw [hU]; exact hPc, va_K.moved hW.alike hKc, hDc.weaken (fun _ _ _ _ => trivial)⟩⟩ rfl rfl hl.1 rfl (lv_room (Nat.le_of_ble_eq_true rfl)) dL_law_1598 ⟨Nat.le_of_ble_eq_true rfl, Nat.le_of_ble_eq_true rfl⟩) hS (fun q _ h => hFc q h) hFc (fun r_493 u t H1 locs ht hvm hw hB hz1 hk1 hS => ?_)
      obtain ⟨hP1, hK1, hD1⟩ := hB
      rw [ht] at hP1
      have hK1 := va_K.moved hvm.symm hK1
      obtain ⟨hP, hD⟩ := va_join (wr := [(rd, .inr (6, fs_rd)), (tp, .inr (9, fs_tp)), (ba, .inl (cB, 900, .inl fb)), (ra, .inr (5, [.long u0, .long w0])), (li, .inr (3, fs_li)), (ho, .inr (4, fs_ho)), (dr, .inr (3, fs_dr)), (hd, .inr (4, fs_hd)), (mb, .inl (cM, 900, .inl fM))]) (w1 := []) hP hD [8] [0, 1, 2, 3, 4, 5, 6, 7, 9] rfl rfl (by decide) (by decide) hk1 hFc hP1 hD1
      generalize H1 = H at hP hS ⊢
      have hP : va_P (dC, dI) vwCl [(rd, .inr (6, fs_rd)), (tp, .inr (9, fs_tp)), (ba, .inl (cB, 900, .inl fb)), (ra, .inr (5, [.long u0, .long w0])), (li, .inr (3, fs_li)), (ho, .inr (4, fs_ho)), (dr, .inr (3, fs_dr)), (hd, .inr (4, fs_hd)), (mb, .inl (cM, 900, .inl fM))] H := hP
      have hD : va_D A [(rd, .inr (6, fs_rd)), (tp, .inr (9, fs_tp)), (ba, .inl (cB, 900, .inl fb)), (ra, .inr (5, [.long u0, .long w0])), (li, .inr (3, fs_li)), (ho, .inr (4, fs_ho)), (dr, .inr (3, fs_dr)), (hd, .inr (4, fs_hd)), (mb, .inl (cM, 900, .inl fM))] := hD
      have er_493 : r_493 = (-1) := hw
      subst er_493
      refine lv_icmp_eq (tgt := 1893) hx hb dL_law_1601 (by decide) (fun c_494 => ?_) (fun c_494 => ?_)
      · refine lv_iinc (v := 6) (lv' := [(4, .int 6), (3, .ref lo), (2, .ref mm), (1, .ref x), (0, .ref b)]) hx hb dL_law_1893 hl (k := 0) rfl (by decide) (by decide) rfl (fun ls hl => ?_)
        refine lv_goto (tgt := 23) hx hb dL_law_1896 (by decide) ?_
        refine lv_iload hx hb dL_law_23 (lv_at hl 0 rfl) ?_
        refine lv_aload_n hx hb dL_law_25 rfl (lv_at hl 4 rfl) ?_
        refine va_slen hx hb hX hbl hbA hS dL_law_26 ?_
        refine lv_topi (fun z_496 ez_496 => ?_)
        obtain rfl : z_496 = 6 := ez_496.trans rfl
        refine lv_bipush (v := 6) hx hb dL_law_27 (by decide) ?_
        refine lv_isub hx hb dL_law_29 ?_
        refine lv_topi (fun z_497 ez_497 => ?_)
        obtain rfl : z_497 = 0 := ez_497.trans (by decide)
        refine lv_icmp_gt (tgt := 1899) hx hb dL_law_30 (by decide) (fun c_498 => ?_) (fun c_498 => ?_)
        · refine lv_iconst (v := 1) hx hb dL_law_1899 (by decide) ?_
          refine va_forget (fun q hq => by have h9 := hS.2.2 q hq; rw [← hAe] at h9; exact h9) ?_
          refine W.widen (k := 600002) (n := 7302232) (Nat.le_of_ble_eq_true rfl) (Nat.le_of_ble_eq_true rfl) ?_
          exact lw_ret hd0 hx hb hr hlocks dL_law_1900
        · exact absurd (by decide) c_498
      · exact absurd (by decide) c_494
    by_cases c_499 : ((xs (0 : Int32).toNatClampNeg) &&& 63) = 32
    · refine lv_tableIn (tgt := 1606) hx hb dL_law_40 (by rw [c_499]; decide) (by rw [c_499]; decide) (by rw [c_499]; rfl) (by decide) ?_
      refine lv_aload_n hx hb dL_law_1606 rfl (lv_at hl 3 rfl) ?_
      have hPc := hP.sub (ws' := [(x, .inr (10, fs_x))]) [0] rfl
      have hDc := hD.sub (ws' := [(x, .inr (10, fs_x))]) [0] (by decide) rfl
      have hKc := hK.sub (tys' := []) [] rfl
      have hFc := va_free (wc := [(x, .inr (10, fs_x))]) hD hS hA [0] rfl
      refine va_calll (va_runV (As := []) (rest := []) ⟨hx, hb, hml, hown, hts⟩ (k_X11_cash l dC dI H.size x fs_x hn_x hf_x_10) (cwV 0 hts gL0_X11_cash rfl rfl rfl (by decide +kernel) ⟨Nat.le_of_ble_eq_true rfl, Nat.le_of_ble_eq_true rfl⟩) ⟨fun a U g mk q => by obtain ⟨q0, q1, qP, qK, qD⟩ := q; exact ⟨q0, q1, qP, va_K.moved (u := U) (U := U.calling g mk a) (Vm.Alike.refl U.vm) qK, qD⟩, va_recv hKc hPc (ci := 10) (q0 := 0) rfl rfl, fun U hU hW => ⟨rfl, by rw [hU], by rw [hU]; exact hPc, va_K.moved hW.alike hKc, hDc.weaken (fun _ _ _ _ => trivial)⟩⟩ rfl rfl hl.1 rfl (lv_room (Nat.le_of_ble_eq_true rfl)) dL_law_1607 ⟨Nat.le_of_ble_eq_true rfl, Nat.le_of_ble_eq_true rfl⟩) hS (fun q _ h => hFc q h) hFc (fun r_500 u t H1 locs ht hvm hw hB hz1 hk1 hS => ?_)
      obtain ⟨hP1, hK1, hD1⟩ := hB
      rw [ht] at hP1
      have hK1 := va_K.moved hvm.symm hK1
      obtain ⟨hP, hD⟩ := va_join (wr := [(rd, .inr (6, fs_rd)), (tp, .inr (9, fs_tp)), (ba, .inl (cB, 900, .inl fb)), (ra, .inr (5, [.long u0, .long w0])), (li, .inr (3, fs_li)), (ho, .inr (4, fs_ho)), (dr, .inr (3, fs_dr)), (hd, .inr (4, fs_hd)), (mm, .inr (11, fs_mm)), (mb, .inl (cM, 900, .inl fM))]) (w1 := []) hP hD [0] [1, 2, 3, 4, 5, 6, 7, 8, 9, 10] rfl rfl (by decide) (by decide) hk1 hFc hP1 hD1
      generalize H1 = H at hP hS ⊢
      have hP : va_P (dC, dI) vwCl [(rd, .inr (6, fs_rd)), (tp, .inr (9, fs_tp)), (ba, .inl (cB, 900, .inl fb)), (ra, .inr (5, [.long u0, .long w0])), (li, .inr (3, fs_li)), (ho, .inr (4, fs_ho)), (dr, .inr (3, fs_dr)), (hd, .inr (4, fs_hd)), (mm, .inr (11, fs_mm)), (mb, .inl (cM, 900, .inl fM))] H := hP
      have hD : va_D A [(rd, .inr (6, fs_rd)), (tp, .inr (9, fs_tp)), (ba, .inl (cB, 900, .inl fb)), (ra, .inr (5, [.long u0, .long w0])), (li, .inr (3, fs_li)), (ho, .inr (4, fs_ho)), (dr, .inr (3, fs_dr)), (hd, .inr (4, fs_hd)), (mm, .inr (11, fs_mm)), (mb, .inl (cM, 900, .inl fM))] := hD
      have er_500 : r_500 = (-9223372036854775808) := hw
      subst er_500
      refine lv_aload_n hx hb dL_law_1610 rfl (lv_at hl 2 rfl) ?_
      have hPc := hP.sub (ws' := [(mm, .inr (11, fs_mm))]) [8] rfl
      have hDc := hD.sub (ws' := [(mm, .inr (11, fs_mm))]) [8] (by decide) rfl
      have hKc := hK.sub (tys' := []) [] rfl
      have hFc := va_free (wc := [(mm, .inr (11, fs_mm))]) hD hS hA [8] rfl
      refine va_calll (va_runV (As := []) (rest := [.long (-9223372036854775808)]) ⟨hx, hb, hml, hown, hts⟩ (k_X12_cash l dC dI H.size mm fs_mm hn_mm hf_mm_28) (cwV 0 hts gL0_X12_cash rfl rfl rfl (by decide +kernel) ⟨Nat.le_of_ble_eq_true rfl, Nat.le_of_ble_eq_true rfl⟩) ⟨fun a U g mk q => by obtain ⟨q0, q1, qP, qK, qD⟩ := q; exact ⟨q0, q1, qP, va_K.moved (u := U) (U := U.calling g mk a) (Vm.Alike.refl U.vm) qK, qD⟩, va_recv hKc hPc (ci := 11) (q0 := 0) rfl rfl, fun U hU hW => ⟨rfl, by rw [hU], by rw [hU]; exact hPc, va_K.moved hW.alike hKc, hDc.weaken (fun _ _ _ _ => trivial)⟩⟩ rfl rfl hl.1 rfl (lv_room (Nat.le_of_ble_eq_true rfl)) dL_law_1611 ⟨Nat.le_of_ble_eq_true rfl, Nat.le_of_ble_eq_true rfl⟩) hS (fun q _ h => hFc q h) hFc (fun r_501 u t H1 locs ht hvm hw hB hz1 hk1 hS => ?_)
      obtain ⟨hP1, hK1, hD1⟩ := hB
      rw [ht] at hP1
      have hK1 := va_K.moved hvm.symm hK1
      obtain ⟨hP, hD⟩ := va_join (wr := [(rd, .inr (6, fs_rd)), (tp, .inr (9, fs_tp)), (ba, .inl (cB, 900, .inl fb)), (ra, .inr (5, [.long u0, .long w0])), (li, .inr (3, fs_li)), (ho, .inr (4, fs_ho)), (dr, .inr (3, fs_dr)), (hd, .inr (4, fs_hd)), (mb, .inl (cM, 900, .inl fM))]) (w1 := []) hP hD [8] [0, 1, 2, 3, 4, 5, 6, 7, 9] rfl rfl (by decide) (by decide) hk1 hFc hP1 hD1
      generalize H1 = H at hP hS ⊢
      have hP : va_P (dC, dI) vwCl [(rd, .inr (6, fs_rd)), (tp, .inr (9, fs_tp)), (ba, .inl (cB, 900, .inl fb)), (ra, .inr (5, [.long u0, .long w0])), (li, .inr (3, fs_li)), (ho, .inr (4, fs_ho)), (dr, .inr (3, fs_dr)), (hd, .inr (4, fs_hd)), (mb, .inl (cM, 900, .inl fM))] H := hP
      have hD : va_D A [(rd, .inr (6, fs_rd)), (tp, .inr (9, fs_tp)), (ba, .inl (cB, 900, .inl fb)), (ra, .inr (5, [.long u0, .long w0])), (li, .inr (3, fs_li)), (ho, .inr (4, fs_ho)), (dr, .inr (3, fs_dr)), (hd, .inr (4, fs_hd)), (mb, .inl (cM, 900, .inl fM))] := hD
      have er_501 : r_501 = (-9223372036854775808) := hw
      subst er_501
      refine W.lcmp hx hb dL_law_1614 ?_
      refine lv_topi (fun z_502 ez_502 => ?_)
      obtain rfl : z_502 = 0 := ez_502.trans (by decide)
      refine lv_if_eq (tgt := 1893) hx hb dL_law_1615 (by decide) (fun c_503 => ?_) (fun c_503 => ?_)
      · refine lv_iinc (v := 6) (lv' := [(4, .int 6), (3, .ref lo), (2, .ref mm), (1, .ref x), (0, .ref b)]) hx hb dL_law_1893 hl (k := 0) rfl (by decide) (by decide) rfl (fun ls hl => ?_)
        refine lv_goto (tgt := 23) hx hb dL_law_1896 (by decide) ?_
        refine lv_iload hx hb dL_law_23 (lv_at hl 0 rfl) ?_
        refine lv_aload_n hx hb dL_law_25 rfl (lv_at hl 4 rfl) ?_
        refine va_slen hx hb hX hbl hbA hS dL_law_26 ?_
        refine lv_topi (fun z_505 ez_505 => ?_)
        obtain rfl : z_505 = 6 := ez_505.trans rfl
        refine lv_bipush (v := 6) hx hb dL_law_27 (by decide) ?_
        refine lv_isub hx hb dL_law_29 ?_
        refine lv_topi (fun z_506 ez_506 => ?_)
        obtain rfl : z_506 = 0 := ez_506.trans (by decide)
        refine lv_icmp_gt (tgt := 1899) hx hb dL_law_30 (by decide) (fun c_507 => ?_) (fun c_507 => ?_)
        · refine lv_iconst (v := 1) hx hb dL_law_1899 (by decide) ?_
          refine va_forget (fun q hq => by have h9 := hS.2.2 q hq; rw [← hAe] at h9; exact h9) ?_
          refine W.widen (k := 600002) (n := 7302232) (Nat.le_of_ble_eq_true rfl) (Nat.le_of_ble_eq_true rfl) ?_
          exact lw_ret hd0 hx hb hr hlocks dL_law_1900
        · exact absurd (by decide) c_507
      · exact absurd (by decide) c_503
    by_cases c_508 : ((xs (0 : Int32).toNatClampNeg) &&& 63) = 33
    · refine lv_tableIn (tgt := 1620) hx hb dL_law_40 (by rw [c_508]; decide) (by rw [c_508]; decide) (by rw [c_508]; rfl) (by decide) ?_
      refine lv_aload_n hx hb dL_law_1620 rfl (lv_at hl 3 rfl) ?_
      refine lv_aload_n hx hb dL_law_1621 rfl (lv_at hl 4 rfl) ?_
      refine lv_iload hx hb dL_law_1622 (lv_at hl 0 rfl) ?_
      refine lv_iconst (v := 1) hx hb dL_law_1624 (by decide) ?_
      refine lv_iadd hx hb dL_law_1625 ?_
      refine lv_topi (fun z_509 ez_509 => ?_)
      obtain rfl : z_509 = 1 := ez_509.trans (by decide)
      refine va_sld hx hb hX hbl hbA hS (vp_in_nI (n := 1) (by decide) (by decide)) dL_law_1626 ?_
      have hPc := hP.sub (ws' := [(x, .inr (10, fs_x)), (rd, .inr (6, fs_rd)), (tp, .inr (9, fs_tp)), (ra, .inr (5, [.long u0, .long w0])), (li, .inr (3, fs_li)), (ho, .inr (4, fs_ho)), (dr, .inr (3, fs_dr)), (hd, .inr (4, fs_hd))]) [0, 1, 2, 4, 5, 6, 7, 8] rfl
      have hDc := hD.sub (ws' := [(x, .inr (10, fs_x)), (rd, .inr (6, fs_rd)), (tp, .inr (9, fs_tp)), (ra, .inr (5, [.long u0, .long w0])), (li, .inr (3, fs_li)), (ho, .inr (4, fs_ho)), (dr, .inr (3, fs_dr)), (hd, .inr (4, fs_hd))]) [0, 1, 2, 4, 5, 6, 7, 8] (by decide) rfl
      have hKc := hK.sub (tys' := []) [] rfl
      have hFc := va_free (wc := [(x, .inr (10, fs_x)), (rd, .inr (6, fs_rd)), (tp, .inr (9, fs_tp)), (ra, .inr (5, [.long u0, .long w0])), (li, .inr (3, fs_li)), (ho, .inr (4, fs_ho)), (dr, .inr (3, fs_dr)), (hd, .inr (4, fs_hd))]) hD hS hA [0, 1, 2, 4, 5, 6, 7, 8] rfl
      refine va_calli (va_runV (As := [.int (xs (1 : Int32).toNatClampNeg)]) (rest := []) ⟨hx, hb, hml, hown, hts⟩ (k_X11_holding l dC dI H.size x fs_x rd fs_rd tp fs_tp ra [.long u0, .long w0] li fs_li ho fs_ho dr fs_dr hd fs_hd (xs (1 : Int32).toNatClampNeg) hn_x hf_x_0 hf_x_3 hf_x_8 hf_x_9 hf_x_10 hn_rd hf_rd_0 hn_tp rfl hn_li hf_li_2 hn_ho hn_dr hf_dr_2 hn_hd) (cwV 1 hts gL0_X11_holding rfl rfl rfl (by decide +kernel) ⟨Nat.le_of_ble_eq_true rfl, Nat.le_of_ble_eq_true rfl⟩) ⟨fun a U g mk q => by obtain ⟨q0, q1, qP, qK, qD⟩ := q; exact ⟨q0, q1, qP, va_K.moved (u := U) (U := U.calling g mk a) (Vm.Alike.refl U.vm) qK, qD⟩, va_recv hKc hPc (ci := 10) (q0 := 0) rfl rfl, fun U hU hW => ⟨rfl, by rw [hU], by rw [hU]; exact hPc, va_K.moved hW.alike hKc, hDc.weaken (fun _ _ _ _ => trivial)⟩⟩ rfl rfl hl.1 rfl (lv_room (Nat.le_of_ble_eq_true rfl)) dL_law_1627 ⟨Nat.le_of_ble_eq_true rfl, Nat.le_of_ble_eq_true rfl⟩) hS (fun q _ h => hFc q h) hFc (fun r_510 u t H1 locs ht hvm hw hB hz1 hk1 hS => ?_)
      obtain ⟨hP1, hK1, hD1⟩ := hB
      rw [ht] at hP1
      have hK1 := va_K.moved hvm.symm hK1
      obtain ⟨hP, hD⟩ := va_join (wr := [(ba, .inl (cB, 900, .inl fb)), (mm, .inr (11, fs_mm)), (mb, .inl (cM, 900, .inl fM))]) (w1 := []) hP hD [0, 1, 2, 4, 5, 6, 7, 8] [3, 9, 10] rfl rfl (by decide) (by decide) hk1 hFc hP1 hD1
      generalize H1 = H at hP hS ⊢
      have hP : va_P (dC, dI) vwCl [(ba, .inl (cB, 900, .inl fb)), (mm, .inr (11, fs_mm)), (mb, .inl (cM, 900, .inl fM))] H := hP
      have hD : va_D A [(ba, .inl (cB, 900, .inl fb)), (mm, .inr (11, fs_mm)), (mb, .inl (cM, 900, .inl fM))] := hD
      have er_510 : r_510 = (-1) := hw
      subst er_510
      refine lv_aload_n hx hb dL_law_1630 rfl (lv_at hl 2 rfl) ?_
      refine lv_aload_n hx hb dL_law_1631 rfl (lv_at hl 4 rfl) ?_
      refine lv_iload hx hb dL_law_1632 (lv_at hl 0 rfl) ?_
      refine lv_iconst (v := 1) hx hb dL_law_1634 (by decide) ?_
      refine lv_iadd hx hb dL_law_1635 ?_
      refine lv_topi (fun z_511 ez_511 => ?_)
      obtain rfl : z_511 = 1 := ez_511.trans (by decide)
      refine va_sld hx hb hX hbl hbA hS (vp_in_nI (n := 1) (by decide) (by decide)) dL_law_1636 ?_
      have hPc := hP.sub (ws' := [(mm, .inr (11, fs_mm))]) [1] rfl
      have hDc := hD.sub (ws' := [(mm, .inr (11, fs_mm))]) [1] (by decide) rfl
      have hKc := hK.sub (tys' := []) [] rfl
      have hFc := va_free (wc := [(mm, .inr (11, fs_mm))]) hD hS hA [1] rfl
      refine va_calli (va_runV (As := [.int (xs (1 : Int32).toNatClampNeg)]) (rest := [.int (-1)]) ⟨hx, hb, hml, hown, hts⟩ (k_X12_holding l dC dI H.size mm fs_mm (xs (1 : Int32).toNatClampNeg) hn_mm hf_mm_20) (cwV 1 hts gL0_X12_holding rfl rfl rfl (by decide +kernel) ⟨Nat.le_of_ble_eq_true rfl, Nat.le_of_ble_eq_true rfl⟩) ⟨fun a U g mk q => by obtain ⟨q0, q1, qP, qK, qD⟩ := q; exact ⟨q0, q1, qP, va_K.moved (u := U) (U := U.calling g mk a) (Vm.Alike.refl U.vm) qK, qD⟩, va_recv hKc hPc (ci := 11) (q0 := 0) rfl rfl, fun U hU hW => ⟨rfl, by rw [hU], by rw [hU]; exact hPc, va_K.moved hW.alike hKc, hDc.weaken (fun _ _ _ _ => trivial)⟩⟩ rfl rfl hl.1 rfl (lv_room (Nat.le_of_ble_eq_true rfl)) dL_law_1637 ⟨Nat.le_of_ble_eq_true rfl, Nat.le_of_ble_eq_true rfl⟩) hS (fun q _ h => hFc q h) hFc (fun r_512 u t H1 locs ht hvm hw hB hz1 hk1 hS => ?_)
      obtain ⟨hP1, hK1, hD1⟩ := hB
      rw [ht] at hP1
      have hK1 := va_K.moved hvm.symm hK1
      obtain ⟨hP, hD⟩ := va_join (wr := [(ba, .inl (cB, 900, .inl fb)), (mb, .inl (cM, 900, .inl fM))]) (w1 := []) hP hD [1] [0, 2] rfl rfl (by decide) (by decide) hk1 hFc hP1 hD1
      generalize H1 = H at hP hS ⊢
      have hP : va_P (dC, dI) vwCl [(ba, .inl (cB, 900, .inl fb)), (mb, .inl (cM, 900, .inl fM))] H := hP
      have hD : va_D A [(ba, .inl (cB, 900, .inl fb)), (mb, .inl (cM, 900, .inl fM))] := hD
      have er_512 : r_512 = (-1) := hw
      subst er_512
      refine lv_icmp_eq (tgt := 1893) hx hb dL_law_1640 (by decide) (fun c_513 => ?_) (fun c_513 => ?_)
      · refine lv_iinc (v := 6) (lv' := [(4, .int 6), (3, .ref lo), (2, .ref mm), (1, .ref x), (0, .ref b)]) hx hb dL_law_1893 hl (k := 0) rfl (by decide) (by decide) rfl (fun ls hl => ?_)
        refine lv_goto (tgt := 23) hx hb dL_law_1896 (by decide) ?_
        refine lv_iload hx hb dL_law_23 (lv_at hl 0 rfl) ?_
        refine lv_aload_n hx hb dL_law_25 rfl (lv_at hl 4 rfl) ?_
        refine va_slen hx hb hX hbl hbA hS dL_law_26 ?_
        refine lv_topi (fun z_515 ez_515 => ?_)
        obtain rfl : z_515 = 6 := ez_515.trans rfl
        refine lv_bipush (v := 6) hx hb dL_law_27 (by decide) ?_
        refine lv_isub hx hb dL_law_29 ?_
        refine lv_topi (fun z_516 ez_516 => ?_)
        obtain rfl : z_516 = 0 := ez_516.trans (by decide)
        refine lv_icmp_gt (tgt := 1899) hx hb dL_law_30 (by decide) (fun c_517 => ?_) (fun c_517 => ?_)
        · refine lv_iconst (v := 1) hx hb dL_law_1899 (by decide) ?_
          refine va_forget (fun q hq => by have h9 := hS.2.2 q hq; rw [← hAe] at h9; exact h9) ?_
          refine W.widen (k := 600002) (n := 7302232) (Nat.le_of_ble_eq_true rfl) (Nat.le_of_ble_eq_true rfl) ?_
          exact lw_ret hd0 hx hb hr hlocks dL_law_1900
        · exact absurd (by decide) c_517
      · exact absurd (by decide) c_513
    by_cases c_518 : ((xs (0 : Int32).toNatClampNeg) &&& 63) = 34
    · refine lv_tableIn (tgt := 1645) hx hb dL_law_40 (by rw [c_518]; decide) (by rw [c_518]; decide) (by rw [c_518]; rfl) (by decide) ?_
      refine lv_aload_n hx hb dL_law_1645 rfl (lv_at hl 3 rfl) ?_
      refine lv_aload_n hx hb dL_law_1646 rfl (lv_at hl 4 rfl) ?_
      refine lv_iload hx hb dL_law_1647 (lv_at hl 0 rfl) ?_
      refine lv_iconst (v := 1) hx hb dL_law_1649 (by decide) ?_
      refine lv_iadd hx hb dL_law_1650 ?_
      refine lv_topi (fun z_519 ez_519 => ?_)
      obtain rfl : z_519 = 1 := ez_519.trans (by decide)
      refine va_sld hx hb hX hbl hbA hS (vp_in_nI (n := 1) (by decide) (by decide)) dL_law_1651 ?_
      have hPc := hP.sub (ws' := [(x, .inr (10, fs_x))]) [0] rfl
      have hDc := hD.sub (ws' := [(x, .inr (10, fs_x))]) [0] (by decide) rfl
      have hKc := hK.sub (tys' := []) [] rfl
      have hFc := va_free (wc := [(x, .inr (10, fs_x))]) hD hS hA [0] rfl
      refine va_calll (va_runV (As := [.int (xs (1 : Int32).toNatClampNeg)]) (rest := []) ⟨hx, hb, hml, hown, hts⟩ (k_X11_worth l dC dI H.size x fs_x (xs (1 : Int32).toNatClampNeg) hn_x hf_x_10) (cwV 1 hts gL0_X11_worth rfl rfl rfl (by decide +kernel) ⟨Nat.le_of_ble_eq_true rfl, Nat.le_of_ble_eq_true rfl⟩) ⟨fun a U g mk q => by obtain ⟨q0, q1, qP, qK, qD⟩ := q; exact ⟨q0, q1, qP, va_K.moved (u := U) (U := U.calling g mk a) (Vm.Alike.refl U.vm) qK, qD⟩, va_recv hKc hPc (ci := 10) (q0 := 0) rfl rfl, fun U hU hW => ⟨rfl, by rw [hU], by rw [hU]; exact hPc, va_K.moved hW.alike hKc, hDc.weaken (fun _ _ _ _ => trivial)⟩⟩ rfl rfl hl.1 rfl (lv_room (Nat.le_of_ble_eq_true rfl)) dL_law_1652 ⟨Nat.le_of_ble_eq_true rfl, Nat.le_of_ble_eq_true rfl⟩) hS (fun q _ h => hFc q h) hFc (fun r_520 u t H1 locs ht hvm hw hB hz1 hk1 hS => ?_)
      obtain ⟨hP1, hK1, hD1⟩ := hB
      rw [ht] at hP1
      have hK1 := va_K.moved hvm.symm hK1
      obtain ⟨hP, hD⟩ := va_join (wr := [(rd, .inr (6, fs_rd)), (tp, .inr (9, fs_tp)), (ba, .inl (cB, 900, .inl fb)), (ra, .inr (5, [.long u0, .long w0])), (li, .inr (3, fs_li)), (ho, .inr (4, fs_ho)), (dr, .inr (3, fs_dr)), (hd, .inr (4, fs_hd)), (mm, .inr (11, fs_mm)), (mb, .inl (cM, 900, .inl fM))]) (w1 := []) hP hD [0] [1, 2, 3, 4, 5, 6, 7, 8, 9, 10] rfl rfl (by decide) (by decide) hk1 hFc hP1 hD1
      generalize H1 = H at hP hS ⊢
      have hP : va_P (dC, dI) vwCl [(rd, .inr (6, fs_rd)), (tp, .inr (9, fs_tp)), (ba, .inl (cB, 900, .inl fb)), (ra, .inr (5, [.long u0, .long w0])), (li, .inr (3, fs_li)), (ho, .inr (4, fs_ho)), (dr, .inr (3, fs_dr)), (hd, .inr (4, fs_hd)), (mm, .inr (11, fs_mm)), (mb, .inl (cM, 900, .inl fM))] H := hP
      have hD : va_D A [(rd, .inr (6, fs_rd)), (tp, .inr (9, fs_tp)), (ba, .inl (cB, 900, .inl fb)), (ra, .inr (5, [.long u0, .long w0])), (li, .inr (3, fs_li)), (ho, .inr (4, fs_ho)), (dr, .inr (3, fs_dr)), (hd, .inr (4, fs_hd)), (mm, .inr (11, fs_mm)), (mb, .inl (cM, 900, .inl fM))] := hD
      have er_520 : r_520 = (-9223372036854775808) := hw
      subst er_520
      refine lv_aload_n hx hb dL_law_1655 rfl (lv_at hl 2 rfl) ?_
      refine lv_aload_n hx hb dL_law_1656 rfl (lv_at hl 4 rfl) ?_
      refine lv_iload hx hb dL_law_1657 (lv_at hl 0 rfl) ?_
      refine lv_iconst (v := 1) hx hb dL_law_1659 (by decide) ?_
      refine lv_iadd hx hb dL_law_1660 ?_
      refine lv_topi (fun z_521 ez_521 => ?_)
      obtain rfl : z_521 = 1 := ez_521.trans (by decide)
      refine va_sld hx hb hX hbl hbA hS (vp_in_nI (n := 1) (by decide) (by decide)) dL_law_1661 ?_
      have hPc := hP.sub (ws' := [(mm, .inr (11, fs_mm))]) [8] rfl
      have hDc := hD.sub (ws' := [(mm, .inr (11, fs_mm))]) [8] (by decide) rfl
      have hKc := hK.sub (tys' := []) [] rfl
      have hFc := va_free (wc := [(mm, .inr (11, fs_mm))]) hD hS hA [8] rfl
      refine va_calll (va_runV (As := [.int (xs (1 : Int32).toNatClampNeg)]) (rest := [.long (-9223372036854775808)]) ⟨hx, hb, hml, hown, hts⟩ (k_X12_worth l dC dI H.size mm fs_mm (xs (1 : Int32).toNatClampNeg) hn_mm hf_mm_28) (cwV 1 hts gL0_X12_worth rfl rfl rfl (by decide +kernel) ⟨Nat.le_of_ble_eq_true rfl, Nat.le_of_ble_eq_true rfl⟩) ⟨fun a U g mk q => by obtain ⟨q0, q1, qP, qK, qD⟩ := q; exact ⟨q0, q1, qP, va_K.moved (u := U) (U := U.calling g mk a) (Vm.Alike.refl U.vm) qK, qD⟩, va_recv hKc hPc (ci := 11) (q0 := 0) rfl rfl, fun U hU hW => ⟨rfl, by rw [hU], by rw [hU]; exact hPc, va_K.moved hW.alike hKc, hDc.weaken (fun _ _ _ _ => trivial)⟩⟩ rfl rfl hl.1 rfl (lv_room (Nat.le_of_ble_eq_true rfl)) dL_law_1662 ⟨Nat.le_of_ble_eq_true rfl, Nat.le_of_ble_eq_true rfl⟩) hS (fun q _ h => hFc q h) hFc (fun r_522 u t H1 locs ht hvm hw hB hz1 hk1 hS => ?_)
      obtain ⟨hP1, hK1, hD1⟩ := hB
      rw [ht] at hP1
      have hK1 := va_K.moved hvm.symm hK1
      obtain ⟨hP, hD⟩ := va_join (wr := [(rd, .inr (6, fs_rd)), (tp, .inr (9, fs_tp)), (ba, .inl (cB, 900, .inl fb)), (ra, .inr (5, [.long u0, .long w0])), (li, .inr (3, fs_li)), (ho, .inr (4, fs_ho)), (dr, .inr (3, fs_dr)), (hd, .inr (4, fs_hd)), (mb, .inl (cM, 900, .inl fM))]) (w1 := []) hP hD [8] [0, 1, 2, 3, 4, 5, 6, 7, 9] rfl rfl (by decide) (by decide) hk1 hFc hP1 hD1
      generalize H1 = H at hP hS ⊢
      have hP : va_P (dC, dI) vwCl [(rd, .inr (6, fs_rd)), (tp, .inr (9, fs_tp)), (ba, .inl (cB, 900, .inl fb)), (ra, .inr (5, [.long u0, .long w0])), (li, .inr (3, fs_li)), (ho, .inr (4, fs_ho)), (dr, .inr (3, fs_dr)), (hd, .inr (4, fs_hd)), (mb, .inl (cM, 900, .inl fM))] H := hP
      have hD : va_D A [(rd, .inr (6, fs_rd)), (tp, .inr (9, fs_tp)), (ba, .inl (cB, 900, .inl fb)), (ra, .inr (5, [.long u0, .long w0])), (li, .inr (3, fs_li)), (ho, .inr (4, fs_ho)), (dr, .inr (3, fs_dr)), (hd, .inr (4, fs_hd)), (mb, .inl (cM, 900, .inl fM))] := hD
      have er_522 : r_522 = (-9223372036854775808) := hw
      subst er_522
      refine W.lcmp hx hb dL_law_1665 ?_
      refine lv_topi (fun z_523 ez_523 => ?_)
      obtain rfl : z_523 = 0 := ez_523.trans (by decide)
      refine lv_if_eq (tgt := 1893) hx hb dL_law_1666 (by decide) (fun c_524 => ?_) (fun c_524 => ?_)
      · refine lv_iinc (v := 6) (lv' := [(4, .int 6), (3, .ref lo), (2, .ref mm), (1, .ref x), (0, .ref b)]) hx hb dL_law_1893 hl (k := 0) rfl (by decide) (by decide) rfl (fun ls hl => ?_)
        refine lv_goto (tgt := 23) hx hb dL_law_1896 (by decide) ?_
        refine lv_iload hx hb dL_law_23 (lv_at hl 0 rfl) ?_
        refine lv_aload_n hx hb dL_law_25 rfl (lv_at hl 4 rfl) ?_
        refine va_slen hx hb hX hbl hbA hS dL_law_26 ?_
        refine lv_topi (fun z_526 ez_526 => ?_)
        obtain rfl : z_526 = 6 := ez_526.trans rfl
        refine lv_bipush (v := 6) hx hb dL_law_27 (by decide) ?_
        refine lv_isub hx hb dL_law_29 ?_
        refine lv_topi (fun z_527 ez_527 => ?_)
        obtain rfl : z_527 = 0 := ez_527.trans (by decide)
        refine lv_icmp_gt (tgt := 1899) hx hb dL_law_30 (by decide) (fun c_528 => ?_) (fun c_528 => ?_)
        · refine lv_iconst (v := 1) hx hb dL_law_1899 (by decide) ?_
          refine va_forget (fun q hq => by have h9 := hS.2.2 q hq; rw [← hAe] at h9; exact h9) ?_
          refine W.widen (k := 600002) (n := 7302232) (Nat.le_of_ble_eq_true rfl) (Nat.le_of_ble_eq_true rfl) ?_
          exact lw_ret hd0 hx hb hr hlocks dL_law_1900
        · exact absurd (by decide) c_528
      · exact absurd (by decide) c_524
    by_cases c_529 : ((xs (0 : Int32).toNatClampNeg) &&& 63) = 35
    · refine lv_tableIn (tgt := 1671) hx hb dL_law_40 (by rw [c_529]; decide) (by rw [c_529]; decide) (by rw [c_529]; rfl) (by decide) ?_
      refine lv_aload_n hx hb dL_law_1671 rfl (lv_at hl 3 rfl) ?_
      refine lv_aload_n hx hb dL_law_1672 rfl (lv_at hl 4 rfl) ?_
      refine lv_iload hx hb dL_law_1673 (lv_at hl 0 rfl) ?_
      refine lv_iconst (v := 1) hx hb dL_law_1675 (by decide) ?_
      refine lv_iadd hx hb dL_law_1676 ?_
      refine lv_topi (fun z_530 ez_530 => ?_)
      obtain rfl : z_530 = 1 := ez_530.trans (by decide)
      refine va_sld hx hb hX hbl hbA hS (vp_in_nI (n := 1) (by decide) (by decide)) dL_law_1677 ?_
      refine lv_aload_n hx hb dL_law_1678 rfl (lv_at hl 4 rfl) ?_
      refine lv_iload hx hb dL_law_1679 (lv_at hl 0 rfl) ?_
      refine lv_iconst (v := 2) hx hb dL_law_1681 (by decide) ?_
      refine lv_iadd hx hb dL_law_1682 ?_
      refine lv_topi (fun z_531 ez_531 => ?_)
      obtain rfl : z_531 = 2 := ez_531.trans (by decide)
      refine va_sld hx hb hX hbl hbA hS (vp_in_nI (n := 2) (by decide) (by decide)) dL_law_1683 ?_
      refine lv_aload_n hx hb dL_law_1684 rfl (lv_at hl 4 rfl) ?_
      refine lv_iload hx hb dL_law_1685 (lv_at hl 0 rfl) ?_
      refine lv_iconst (v := 3) hx hb dL_law_1687 (by decide) ?_
      refine lv_iadd hx hb dL_law_1688 ?_
      refine lv_topi (fun z_532 ez_532 => ?_)
      obtain rfl : z_532 = 3 := ez_532.trans (by decide)
      refine va_sld hx hb hX hbl hbA hS (vp_in_nI (n := 3) (by decide) (by decide)) dL_law_1689 ?_
      have hPc := hP.sub (ws' := [(x, .inr (10, fs_x)), (rd, .inr (6, fs_rd)), (tp, .inr (9, fs_tp)), (ra, .inr (5, [.long u0, .long w0])), (li, .inr (3, fs_li)), (ho, .inr (4, fs_ho)), (dr, .inr (3, fs_dr)), (hd, .inr (4, fs_hd))]) [0, 1, 2, 4, 5, 6, 7, 8] rfl
      have hDc := hD.sub (ws' := [(x, .inr (10, fs_x)), (rd, .inr (6, fs_rd)), (tp, .inr (9, fs_tp)), (ra, .inr (5, [.long u0, .long w0])), (li, .inr (3, fs_li)), (ho, .inr (4, fs_ho)), (dr, .inr (3, fs_dr)), (hd, .inr (4, fs_hd))]) [0, 1, 2, 4, 5, 6, 7, 8] (by decide) rfl
      have hKc := hK.sub (tys' := []) [] rfl
      have hFc := va_free (wc := [(x, .inr (10, fs_x)), (rd, .inr (6, fs_rd)), (tp, .inr (9, fs_tp)), (ra, .inr (5, [.long u0, .long w0])), (li, .inr (3, fs_li)), (ho, .inr (4, fs_ho)), (dr, .inr (3, fs_dr)), (hd, .inr (4, fs_hd))]) hD hS hA [0, 1, 2, 4, 5, 6, 7, 8] rfl
      refine va_calll (va_runV (As := [.int (xs (1 : Int32).toNatClampNeg), .int (xs (2 : Int32).toNatClampNeg), .int (xs (3 : Int32).toNatClampNeg)]) (rest := []) ⟨hx, hb, hml, hown, hts⟩ (k_X11_deal l dC dI H.size x fs_x rd fs_rd tp fs_tp ra [.long u0, .long w0] li fs_li ho fs_ho dr fs_dr hd fs_hd (xs (1 : Int32).toNatClampNeg) (xs (2 : Int32).toNatClampNeg) (xs (3 : Int32).toNatClampNeg) hn_x hf_x_0 hf_x_3 hf_x_8 hf_x_9 hf_x_10 hn_rd hf_rd_0 hn_tp rfl hn_li hf_li_2 hn_ho hn_dr hf_dr_2 hn_hd) (cwV 3 hts gL0_X11_deal rfl rfl rfl (by decide +kernel) ⟨Nat.le_of_ble_eq_true rfl, Nat.le_of_ble_eq_true rfl⟩) ⟨fun a U g mk q => by obtain ⟨q0, q1, qP, qK, qD⟩ := q; exact ⟨q0, q1, qP, va_K.moved (u := U) (U := U.calling g mk a) (Vm.Alike.refl U.vm) qK, qD⟩, va_recv hKc hPc (ci := 10) (q0 := 0) rfl rfl, fun U hU hW => ⟨rfl, by rw [hU], by rw [hU]; exact hPc, va_K.moved hW.alike hKc, hDc.weaken (fun _ _ _ _ => trivial)⟩⟩ rfl rfl hl.1 rfl (lv_room (Nat.le_of_ble_eq_true rfl)) dL_law_1690 ⟨Nat.le_of_ble_eq_true rfl, Nat.le_of_ble_eq_true rfl⟩) hS (fun q _ h => hFc q h) hFc (fun r_533 u t H1 locs ht hvm hw hB hz1 hk1 hS => ?_)
      obtain ⟨hP1, hK1, hD1⟩ := hB
      rw [ht] at hP1
      have hK1 := va_K.moved hvm.symm hK1
      obtain ⟨hP, hD⟩ := va_join (wr := [(ba, .inl (cB, 900, .inl fb)), (mm, .inr (11, fs_mm)), (mb, .inl (cM, 900, .inl fM))]) (w1 := []) hP hD [0, 1, 2, 4, 5, 6, 7, 8] [3, 9, 10] rfl rfl (by decide) (by decide) hk1 hFc hP1 hD1
      generalize H1 = H at hP hS ⊢
      have hP : va_P (dC, dI) vwCl [(ba, .inl (cB, 900, .inl fb)), (mm, .inr (11, fs_mm)), (mb, .inl (cM, 900, .inl fM))] H := hP
      have hD : va_D A [(ba, .inl (cB, 900, .inl fb)), (mm, .inr (11, fs_mm)), (mb, .inl (cM, 900, .inl fM))] := hD
      have er_533 : r_533 = (-9223372036854775808) := hw
      subst er_533
      refine lv_aload_n hx hb dL_law_1693 rfl (lv_at hl 2 rfl) ?_
      refine lv_aload_n hx hb dL_law_1694 rfl (lv_at hl 4 rfl) ?_
      refine lv_iload hx hb dL_law_1695 (lv_at hl 0 rfl) ?_
      refine lv_iconst (v := 1) hx hb dL_law_1697 (by decide) ?_
      refine lv_iadd hx hb dL_law_1698 ?_
      refine lv_topi (fun z_534 ez_534 => ?_)
      obtain rfl : z_534 = 1 := ez_534.trans (by decide)
      refine va_sld hx hb hX hbl hbA hS (vp_in_nI (n := 1) (by decide) (by decide)) dL_law_1699 ?_
      refine lv_aload_n hx hb dL_law_1700 rfl (lv_at hl 4 rfl) ?_
      refine lv_iload hx hb dL_law_1701 (lv_at hl 0 rfl) ?_
      refine lv_iconst (v := 2) hx hb dL_law_1703 (by decide) ?_
      refine lv_iadd hx hb dL_law_1704 ?_
      refine lv_topi (fun z_535 ez_535 => ?_)
      obtain rfl : z_535 = 2 := ez_535.trans (by decide)
      refine va_sld hx hb hX hbl hbA hS (vp_in_nI (n := 2) (by decide) (by decide)) dL_law_1705 ?_
      refine lv_aload_n hx hb dL_law_1706 rfl (lv_at hl 4 rfl) ?_
      refine lv_iload hx hb dL_law_1707 (lv_at hl 0 rfl) ?_
      refine lv_iconst (v := 3) hx hb dL_law_1709 (by decide) ?_
      refine lv_iadd hx hb dL_law_1710 ?_
      refine lv_topi (fun z_536 ez_536 => ?_)
      obtain rfl : z_536 = 3 := ez_536.trans (by decide)
      refine va_sld hx hb hX hbl hbA hS (vp_in_nI (n := 3) (by decide) (by decide)) dL_law_1711 ?_
      have hPc := hP.sub (ws' := [(mm, .inr (11, fs_mm))]) [1] rfl
      have hDc := hD.sub (ws' := [(mm, .inr (11, fs_mm))]) [1] (by decide) rfl
      have hKc := hK.sub (tys' := []) [] rfl
      have hFc := va_free (wc := [(mm, .inr (11, fs_mm))]) hD hS hA [1] rfl
      refine va_calll (va_runV (As := [.int (xs (1 : Int32).toNatClampNeg), .int (xs (2 : Int32).toNatClampNeg), .int (xs (3 : Int32).toNatClampNeg)]) (rest := [.long (-9223372036854775808)]) ⟨hx, hb, hml, hown, hts⟩ (k_X12_deal l dC dI H.size mm fs_mm (xs (1 : Int32).toNatClampNeg) (xs (2 : Int32).toNatClampNeg) (xs (3 : Int32).toNatClampNeg) hn_mm hf_mm_20) (cwV 3 hts gL0_X12_deal rfl rfl rfl (by decide +kernel) ⟨Nat.le_of_ble_eq_true rfl, Nat.le_of_ble_eq_true rfl⟩) ⟨fun a U g mk q => by obtain ⟨q0, q1, qP, qK, qD⟩ := q; exact ⟨q0, q1, qP, va_K.moved (u := U) (U := U.calling g mk a) (Vm.Alike.refl U.vm) qK, qD⟩, va_recv hKc hPc (ci := 11) (q0 := 0) rfl rfl, fun U hU hW => ⟨rfl, by rw [hU], by rw [hU]; exact hPc, va_K.moved hW.alike hKc, hDc.weaken (fun _ _ _ _ => trivial)⟩⟩ rfl rfl hl.1 rfl (lv_room (Nat.le_of_ble_eq_true rfl)) dL_law_1712 ⟨Nat.le_of_ble_eq_true rfl, Nat.le_of_ble_eq_true rfl⟩) hS (fun q _ h => hFc q h) hFc (fun r_537 u t H1 locs ht hvm hw hB hz1 hk1 hS => ?_)
      obtain ⟨hP1, hK1, hD1⟩ := hB
      rw [ht] at hP1
      have hK1 := va_K.moved hvm.symm hK1
      obtain ⟨hP, hD⟩ := va_join (wr := [(ba, .inl (cB, 900, .inl fb)), (mb, .inl (cM, 900, .inl fM))]) (w1 := []) hP hD [1] [0, 2] rfl rfl (by decide) (by decide) hk1 hFc hP1 hD1
      generalize H1 = H at hP hS ⊢
      have hP : va_P (dC, dI) vwCl [(ba, .inl (cB, 900, .inl fb)), (mb, .inl (cM, 900, .inl fM))] H := hP
      have hD : va_D A [(ba, .inl (cB, 900, .inl fb)), (mb, .inl (cM, 900, .inl fM))] := hD
      have er_537 : r_537 = (-9223372036854775808) := hw
      subst er_537
      refine W.lcmp hx hb dL_law_1715 ?_
      refine lv_topi (fun z_538 ez_538 => ?_)
      obtain rfl : z_538 = 0 := ez_538.trans (by decide)
      refine lv_if_eq (tgt := 1893) hx hb dL_law_1716 (by decide) (fun c_539 => ?_) (fun c_539 => ?_)
      · refine lv_iinc (v := 6) (lv' := [(4, .int 6), (3, .ref lo), (2, .ref mm), (1, .ref x), (0, .ref b)]) hx hb dL_law_1893 hl (k := 0) rfl (by decide) (by decide) rfl (fun ls hl => ?_)
        refine lv_goto (tgt := 23) hx hb dL_law_1896 (by decide) ?_
        refine lv_iload hx hb dL_law_23 (lv_at hl 0 rfl) ?_
        refine lv_aload_n hx hb dL_law_25 rfl (lv_at hl 4 rfl) ?_
        refine va_slen hx hb hX hbl hbA hS dL_law_26 ?_
        refine lv_topi (fun z_541 ez_541 => ?_)
        obtain rfl : z_541 = 6 := ez_541.trans rfl
        refine lv_bipush (v := 6) hx hb dL_law_27 (by decide) ?_
        refine lv_isub hx hb dL_law_29 ?_
        refine lv_topi (fun z_542 ez_542 => ?_)
        obtain rfl : z_542 = 0 := ez_542.trans (by decide)
        refine lv_icmp_gt (tgt := 1899) hx hb dL_law_30 (by decide) (fun c_543 => ?_) (fun c_543 => ?_)
        · refine lv_iconst (v := 1) hx hb dL_law_1899 (by decide) ?_
          refine va_forget (fun q hq => by have h9 := hS.2.2 q hq; rw [← hAe] at h9; exact h9) ?_
          refine W.widen (k := 600002) (n := 7302232) (Nat.le_of_ble_eq_true rfl) (Nat.le_of_ble_eq_true rfl) ?_
          exact lw_ret hd0 hx hb hr hlocks dL_law_1900
        · exact absurd (by decide) c_543
      · exact absurd (by decide) c_539
    by_cases c_544 : ((xs (0 : Int32).toNatClampNeg) &&& 63) = 36
    · refine lv_tableIn (tgt := 1721) hx hb dL_law_40 (by rw [c_544]; decide) (by rw [c_544]; decide) (by rw [c_544]; rfl) (by decide) ?_
      refine lv_aload_n hx hb dL_law_1721 rfl (lv_at hl 3 rfl) ?_
      refine lv_aload_n hx hb dL_law_1722 rfl (lv_at hl 4 rfl) ?_
      refine lv_iload hx hb dL_law_1723 (lv_at hl 0 rfl) ?_
      refine lv_iconst (v := 1) hx hb dL_law_1725 (by decide) ?_
      refine lv_iadd hx hb dL_law_1726 ?_
      refine lv_topi (fun z_545 ez_545 => ?_)
      obtain rfl : z_545 = 1 := ez_545.trans (by decide)
      refine va_sld hx hb hX hbl hbA hS (vp_in_nI (n := 1) (by decide) (by decide)) dL_law_1727 ?_
      have hPc := hP.sub (ws' := [(x, .inr (10, fs_x))]) [0] rfl
      have hDc := hD.sub (ws' := [(x, .inr (10, fs_x))]) [0] (by decide) rfl
      have hKc := hK.sub (tys' := []) [] rfl
      have hFc := va_free (wc := [(x, .inr (10, fs_x))]) hD hS hA [0] rfl
      refine va_calll (va_runV (As := [.int (xs (1 : Int32).toNatClampNeg)]) (rest := []) ⟨hx, hb, hml, hown, hts⟩ (k_X11_go l dC dI H.size x fs_x (xs (1 : Int32).toNatClampNeg) hn_x hf_x_10) (cwV 1 hts gL0_X11_go rfl rfl rfl (by decide +kernel) ⟨Nat.le_of_ble_eq_true rfl, Nat.le_of_ble_eq_true rfl⟩) ⟨fun a U g mk q => by obtain ⟨q0, q1, qP, qK, qD⟩ := q; exact ⟨q0, q1, qP, va_K.moved (u := U) (U := U.calling g mk a) (Vm.Alike.refl U.vm) qK, qD⟩, va_recv hKc hPc (ci := 10) (q0 := 0) rfl rfl, fun U hU hW => ⟨rfl, by rw [hU], by rw [hU]; exact hPc, va_K.moved hW.alike hKc, hDc.weaken (fun _ _ _ _ => trivial)⟩⟩ rfl rfl hl.1 rfl (lv_room (Nat.le_of_ble_eq_true rfl)) dL_law_1728 ⟨Nat.le_of_ble_eq_true rfl, Nat.le_of_ble_eq_true rfl⟩) hS (fun q _ h => hFc q h) hFc (fun r_546 u t H1 locs ht hvm hw hB hz1 hk1 hS => ?_)
      obtain ⟨hP1, hK1, hD1⟩ := hB
      rw [ht] at hP1
      have hK1 := va_K.moved hvm.symm hK1
      obtain ⟨hP, hD⟩ := va_join (wr := [(rd, .inr (6, fs_rd)), (tp, .inr (9, fs_tp)), (ba, .inl (cB, 900, .inl fb)), (ra, .inr (5, [.long u0, .long w0])), (li, .inr (3, fs_li)), (ho, .inr (4, fs_ho)), (dr, .inr (3, fs_dr)), (hd, .inr (4, fs_hd)), (mm, .inr (11, fs_mm)), (mb, .inl (cM, 900, .inl fM))]) (w1 := []) hP hD [0] [1, 2, 3, 4, 5, 6, 7, 8, 9, 10] rfl rfl (by decide) (by decide) hk1 hFc hP1 hD1
      generalize H1 = H at hP hS ⊢
      have hP : va_P (dC, dI) vwCl [(rd, .inr (6, fs_rd)), (tp, .inr (9, fs_tp)), (ba, .inl (cB, 900, .inl fb)), (ra, .inr (5, [.long u0, .long w0])), (li, .inr (3, fs_li)), (ho, .inr (4, fs_ho)), (dr, .inr (3, fs_dr)), (hd, .inr (4, fs_hd)), (mm, .inr (11, fs_mm)), (mb, .inl (cM, 900, .inl fM))] H := hP
      have hD : va_D A [(rd, .inr (6, fs_rd)), (tp, .inr (9, fs_tp)), (ba, .inl (cB, 900, .inl fb)), (ra, .inr (5, [.long u0, .long w0])), (li, .inr (3, fs_li)), (ho, .inr (4, fs_ho)), (dr, .inr (3, fs_dr)), (hd, .inr (4, fs_hd)), (mm, .inr (11, fs_mm)), (mb, .inl (cM, 900, .inl fM))] := hD
      have er_546 : r_546 = (-9223372036854775808) := hw
      subst er_546
      refine lv_aload_n hx hb dL_law_1731 rfl (lv_at hl 2 rfl) ?_
      refine lv_aload_n hx hb dL_law_1732 rfl (lv_at hl 4 rfl) ?_
      refine lv_iload hx hb dL_law_1733 (lv_at hl 0 rfl) ?_
      refine lv_iconst (v := 1) hx hb dL_law_1735 (by decide) ?_
      refine lv_iadd hx hb dL_law_1736 ?_
      refine lv_topi (fun z_547 ez_547 => ?_)
      obtain rfl : z_547 = 1 := ez_547.trans (by decide)
      refine va_sld hx hb hX hbl hbA hS (vp_in_nI (n := 1) (by decide) (by decide)) dL_law_1737 ?_
      have hPc := hP.sub (ws' := [(mm, .inr (11, fs_mm))]) [8] rfl
      have hDc := hD.sub (ws' := [(mm, .inr (11, fs_mm))]) [8] (by decide) rfl
      have hKc := hK.sub (tys' := []) [] rfl
      have hFc := va_free (wc := [(mm, .inr (11, fs_mm))]) hD hS hA [8] rfl
      refine va_calll (va_runV (As := [.int (xs (1 : Int32).toNatClampNeg)]) (rest := [.long (-9223372036854775808)]) ⟨hx, hb, hml, hown, hts⟩ (k_X12_go l dC dI H.size mm fs_mm (xs (1 : Int32).toNatClampNeg) hn_mm hf_mm_28) (cwV 1 hts gL0_X12_go rfl rfl rfl (by decide +kernel) ⟨Nat.le_of_ble_eq_true rfl, Nat.le_of_ble_eq_true rfl⟩) ⟨fun a U g mk q => by obtain ⟨q0, q1, qP, qK, qD⟩ := q; exact ⟨q0, q1, qP, va_K.moved (u := U) (U := U.calling g mk a) (Vm.Alike.refl U.vm) qK, qD⟩, va_recv hKc hPc (ci := 11) (q0 := 0) rfl rfl, fun U hU hW => ⟨rfl, by rw [hU], by rw [hU]; exact hPc, va_K.moved hW.alike hKc, hDc.weaken (fun _ _ _ _ => trivial)⟩⟩ rfl rfl hl.1 rfl (lv_room (Nat.le_of_ble_eq_true rfl)) dL_law_1738 ⟨Nat.le_of_ble_eq_true rfl, Nat.le_of_ble_eq_true rfl⟩) hS (fun q _ h => hFc q h) hFc (fun r_548 u t H1 locs ht hvm hw hB hz1 hk1 hS => ?_)
      obtain ⟨hP1, hK1, hD1⟩ := hB
      rw [ht] at hP1
      have hK1 := va_K.moved hvm.symm hK1
      obtain ⟨hP, hD⟩ := va_join (wr := [(rd, .inr (6, fs_rd)), (tp, .inr (9, fs_tp)), (ba, .inl (cB, 900, .inl fb)), (ra, .inr (5, [.long u0, .long w0])), (li, .inr (3, fs_li)), (ho, .inr (4, fs_ho)), (dr, .inr (3, fs_dr)), (hd, .inr (4, fs_hd)), (mb, .inl (cM, 900, .inl fM))]) (w1 := []) hP hD [8] [0, 1, 2, 3, 4, 5, 6, 7, 9] rfl rfl (by decide) (by decide) hk1 hFc hP1 hD1
      generalize H1 = H at hP hS ⊢
      have hP : va_P (dC, dI) vwCl [(rd, .inr (6, fs_rd)), (tp, .inr (9, fs_tp)), (ba, .inl (cB, 900, .inl fb)), (ra, .inr (5, [.long u0, .long w0])), (li, .inr (3, fs_li)), (ho, .inr (4, fs_ho)), (dr, .inr (3, fs_dr)), (hd, .inr (4, fs_hd)), (mb, .inl (cM, 900, .inl fM))] H := hP
      have hD : va_D A [(rd, .inr (6, fs_rd)), (tp, .inr (9, fs_tp)), (ba, .inl (cB, 900, .inl fb)), (ra, .inr (5, [.long u0, .long w0])), (li, .inr (3, fs_li)), (ho, .inr (4, fs_ho)), (dr, .inr (3, fs_dr)), (hd, .inr (4, fs_hd)), (mb, .inl (cM, 900, .inl fM))] := hD
      have er_548 : r_548 = (-9223372036854775808) := hw
      subst er_548
      refine W.lcmp hx hb dL_law_1741 ?_
      refine lv_topi (fun z_549 ez_549 => ?_)
      obtain rfl : z_549 = 0 := ez_549.trans (by decide)
      refine lv_if_eq (tgt := 1893) hx hb dL_law_1742 (by decide) (fun c_550 => ?_) (fun c_550 => ?_)
      · refine lv_iinc (v := 6) (lv' := [(4, .int 6), (3, .ref lo), (2, .ref mm), (1, .ref x), (0, .ref b)]) hx hb dL_law_1893 hl (k := 0) rfl (by decide) (by decide) rfl (fun ls hl => ?_)
        refine lv_goto (tgt := 23) hx hb dL_law_1896 (by decide) ?_
        refine lv_iload hx hb dL_law_23 (lv_at hl 0 rfl) ?_
        refine lv_aload_n hx hb dL_law_25 rfl (lv_at hl 4 rfl) ?_
        refine va_slen hx hb hX hbl hbA hS dL_law_26 ?_
        refine lv_topi (fun z_552 ez_552 => ?_)
        obtain rfl : z_552 = 6 := ez_552.trans rfl
        refine lv_bipush (v := 6) hx hb dL_law_27 (by decide) ?_
        refine lv_isub hx hb dL_law_29 ?_
        refine lv_topi (fun z_553 ez_553 => ?_)
        obtain rfl : z_553 = 0 := ez_553.trans (by decide)
        refine lv_icmp_gt (tgt := 1899) hx hb dL_law_30 (by decide) (fun c_554 => ?_) (fun c_554 => ?_)
        · refine lv_iconst (v := 1) hx hb dL_law_1899 (by decide) ?_
          refine va_forget (fun q hq => by have h9 := hS.2.2 q hq; rw [← hAe] at h9; exact h9) ?_
          refine W.widen (k := 600002) (n := 7302232) (Nat.le_of_ble_eq_true rfl) (Nat.le_of_ble_eq_true rfl) ?_
          exact lw_ret hd0 hx hb hr hlocks dL_law_1900
        · exact absurd (by decide) c_554
      · exact absurd (by decide) c_550
    by_cases c_555 : ((xs (0 : Int32).toNatClampNeg) &&& 63) = 37
    · refine lv_tableIn (tgt := 1747) hx hb dL_law_40 (by rw [c_555]; decide) (by rw [c_555]; decide) (by rw [c_555]; rfl) (by decide) ?_
      refine lv_aload_n hx hb dL_law_1747 rfl (lv_at hl 3 rfl) ?_
      refine lv_aload_n hx hb dL_law_1748 rfl (lv_at hl 4 rfl) ?_
      refine lv_iload hx hb dL_law_1749 (lv_at hl 0 rfl) ?_
      refine lv_iconst (v := 1) hx hb dL_law_1751 (by decide) ?_
      refine lv_iadd hx hb dL_law_1752 ?_
      refine lv_topi (fun z_556 ez_556 => ?_)
      obtain rfl : z_556 = 1 := ez_556.trans (by decide)
      refine va_sld hx hb hX hbl hbA hS (vp_in_nI (n := 1) (by decide) (by decide)) dL_law_1753 ?_
      have hPc := hP.sub (ws' := [(x, .inr (10, fs_x))]) [0] rfl
      have hDc := hD.sub (ws' := [(x, .inr (10, fs_x))]) [0] (by decide) rfl
      have hKc := hK.sub (tys' := []) [] rfl
      have hFc := va_free (wc := [(x, .inr (10, fs_x))]) hD hS hA [0] rfl
      refine va_calll (va_runV (As := [.int (xs (1 : Int32).toNatClampNeg)]) (rest := []) ⟨hx, hb, hml, hown, hts⟩ (k_X11_income l dC dI H.size x fs_x (xs (1 : Int32).toNatClampNeg) hn_x hf_x_10) (cwV 1 hts gL0_X11_income rfl rfl rfl (by decide +kernel) ⟨Nat.le_of_ble_eq_true rfl, Nat.le_of_ble_eq_true rfl⟩) ⟨fun a U g mk q => by obtain ⟨q0, q1, qP, qK, qD⟩ := q; exact ⟨q0, q1, qP, va_K.moved (u := U) (U := U.calling g mk a) (Vm.Alike.refl U.vm) qK, qD⟩, va_recv hKc hPc (ci := 10) (q0 := 0) rfl rfl, fun U hU hW => ⟨rfl, by rw [hU], by rw [hU]; exact hPc, va_K.moved hW.alike hKc, hDc.weaken (fun _ _ _ _ => trivial)⟩⟩ rfl rfl hl.1 rfl (lv_room (Nat.le_of_ble_eq_true rfl)) dL_law_1754 ⟨Nat.le_of_ble_eq_true rfl, Nat.le_of_ble_eq_true rfl⟩) hS (fun q _ h => hFc q h) hFc (fun r_557 u t H1 locs ht hvm hw hB hz1 hk1 hS => ?_)
      obtain ⟨hP1, hK1, hD1⟩ := hB
      rw [ht] at hP1
      have hK1 := va_K.moved hvm.symm hK1
      obtain ⟨hP, hD⟩ := va_join (wr := [(rd, .inr (6, fs_rd)), (tp, .inr (9, fs_tp)), (ba, .inl (cB, 900, .inl fb)), (ra, .inr (5, [.long u0, .long w0])), (li, .inr (3, fs_li)), (ho, .inr (4, fs_ho)), (dr, .inr (3, fs_dr)), (hd, .inr (4, fs_hd)), (mm, .inr (11, fs_mm)), (mb, .inl (cM, 900, .inl fM))]) (w1 := []) hP hD [0] [1, 2, 3, 4, 5, 6, 7, 8, 9, 10] rfl rfl (by decide) (by decide) hk1 hFc hP1 hD1
      generalize H1 = H at hP hS ⊢
      have hP : va_P (dC, dI) vwCl [(rd, .inr (6, fs_rd)), (tp, .inr (9, fs_tp)), (ba, .inl (cB, 900, .inl fb)), (ra, .inr (5, [.long u0, .long w0])), (li, .inr (3, fs_li)), (ho, .inr (4, fs_ho)), (dr, .inr (3, fs_dr)), (hd, .inr (4, fs_hd)), (mm, .inr (11, fs_mm)), (mb, .inl (cM, 900, .inl fM))] H := hP
      have hD : va_D A [(rd, .inr (6, fs_rd)), (tp, .inr (9, fs_tp)), (ba, .inl (cB, 900, .inl fb)), (ra, .inr (5, [.long u0, .long w0])), (li, .inr (3, fs_li)), (ho, .inr (4, fs_ho)), (dr, .inr (3, fs_dr)), (hd, .inr (4, fs_hd)), (mm, .inr (11, fs_mm)), (mb, .inl (cM, 900, .inl fM))] := hD
      have er_557 : r_557 = (-9223372036854775808) := hw
      subst er_557
      refine lv_aload_n hx hb dL_law_1757 rfl (lv_at hl 2 rfl) ?_
      refine lv_aload_n hx hb dL_law_1758 rfl (lv_at hl 4 rfl) ?_
      refine lv_iload hx hb dL_law_1759 (lv_at hl 0 rfl) ?_
      refine lv_iconst (v := 1) hx hb dL_law_1761 (by decide) ?_
      refine lv_iadd hx hb dL_law_1762 ?_
      refine lv_topi (fun z_558 ez_558 => ?_)
      obtain rfl : z_558 = 1 := ez_558.trans (by decide)
      refine va_sld hx hb hX hbl hbA hS (vp_in_nI (n := 1) (by decide) (by decide)) dL_law_1763 ?_
      have hPc := hP.sub (ws' := [(mm, .inr (11, fs_mm))]) [8] rfl
      have hDc := hD.sub (ws' := [(mm, .inr (11, fs_mm))]) [8] (by decide) rfl
      have hKc := hK.sub (tys' := []) [] rfl
      have hFc := va_free (wc := [(mm, .inr (11, fs_mm))]) hD hS hA [8] rfl
      refine va_calll (va_runV (As := [.int (xs (1 : Int32).toNatClampNeg)]) (rest := [.long (-9223372036854775808)]) ⟨hx, hb, hml, hown, hts⟩ (k_X12_income l dC dI H.size mm fs_mm (xs (1 : Int32).toNatClampNeg) hn_mm hf_mm_28) (cwV 1 hts gL0_X12_income rfl rfl rfl (by decide +kernel) ⟨Nat.le_of_ble_eq_true rfl, Nat.le_of_ble_eq_true rfl⟩) ⟨fun a U g mk q => by obtain ⟨q0, q1, qP, qK, qD⟩ := q; exact ⟨q0, q1, qP, va_K.moved (u := U) (U := U.calling g mk a) (Vm.Alike.refl U.vm) qK, qD⟩, va_recv hKc hPc (ci := 11) (q0 := 0) rfl rfl, fun U hU hW => ⟨rfl, by rw [hU], by rw [hU]; exact hPc, va_K.moved hW.alike hKc, hDc.weaken (fun _ _ _ _ => trivial)⟩⟩ rfl rfl hl.1 rfl (lv_room (Nat.le_of_ble_eq_true rfl)) dL_law_1764 ⟨Nat.le_of_ble_eq_true rfl, Nat.le_of_ble_eq_true rfl⟩) hS (fun q _ h => hFc q h) hFc (fun r_559 u t H1 locs ht hvm hw hB hz1 hk1 hS => ?_)
      obtain ⟨hP1, hK1, hD1⟩ := hB
      rw [ht] at hP1
      have hK1 := va_K.moved hvm.symm hK1
      obtain ⟨hP, hD⟩ := va_join (wr := [(rd, .inr (6, fs_rd)), (tp, .inr (9, fs_tp)), (ba, .inl (cB, 900, .inl fb)), (ra, .inr (5, [.long u0, .long w0])), (li, .inr (3, fs_li)), (ho, .inr (4, fs_ho)), (dr, .inr (3, fs_dr)), (hd, .inr (4, fs_hd)), (mb, .inl (cM, 900, .inl fM))]) (w1 := []) hP hD [8] [0, 1, 2, 3, 4, 5, 6, 7, 9] rfl rfl (by decide) (by decide) hk1 hFc hP1 hD1
      generalize H1 = H at hP hS ⊢
      have hP : va_P (dC, dI) vwCl [(rd, .inr (6, fs_rd)), (tp, .inr (9, fs_tp)), (ba, .inl (cB, 900, .inl fb)), (ra, .inr (5, [.long u0, .long w0])), (li, .inr (3, fs_li)), (ho, .inr (4, fs_ho)), (dr, .inr (3, fs_dr)), (hd, .inr (4, fs_hd)), (mb, .inl (cM, 900, .inl fM))] H := hP
      have hD : va_D A [(rd, .inr (6, fs_rd)), (tp, .inr (9, fs_tp)), (ba, .inl (cB, 900, .inl fb)), (ra, .inr (5, [.long u0, .long w0])), (li, .inr (3, fs_li)), (ho, .inr (4, fs_ho)), (dr, .inr (3, fs_dr)), (hd, .inr (4, fs_hd)), (mb, .inl (cM, 900, .inl fM))] := hD
      have er_559 : r_559 = (-9223372036854775808) := hw
      subst er_559
      refine W.lcmp hx hb dL_law_1767 ?_
      refine lv_topi (fun z_560 ez_560 => ?_)
      obtain rfl : z_560 = 0 := ez_560.trans (by decide)
      refine lv_if_eq (tgt := 1893) hx hb dL_law_1768 (by decide) (fun c_561 => ?_) (fun c_561 => ?_)
      · refine lv_iinc (v := 6) (lv' := [(4, .int 6), (3, .ref lo), (2, .ref mm), (1, .ref x), (0, .ref b)]) hx hb dL_law_1893 hl (k := 0) rfl (by decide) (by decide) rfl (fun ls hl => ?_)
        refine lv_goto (tgt := 23) hx hb dL_law_1896 (by decide) ?_
        refine lv_iload hx hb dL_law_23 (lv_at hl 0 rfl) ?_
        refine lv_aload_n hx hb dL_law_25 rfl (lv_at hl 4 rfl) ?_
        refine va_slen hx hb hX hbl hbA hS dL_law_26 ?_
        refine lv_topi (fun z_563 ez_563 => ?_)
        obtain rfl : z_563 = 6 := ez_563.trans rfl
        refine lv_bipush (v := 6) hx hb dL_law_27 (by decide) ?_
        refine lv_isub hx hb dL_law_29 ?_
        refine lv_topi (fun z_564 ez_564 => ?_)
        obtain rfl : z_564 = 0 := ez_564.trans (by decide)
        refine lv_icmp_gt (tgt := 1899) hx hb dL_law_30 (by decide) (fun c_565 => ?_) (fun c_565 => ?_)
        · refine lv_iconst (v := 1) hx hb dL_law_1899 (by decide) ?_
          refine va_forget (fun q hq => by have h9 := hS.2.2 q hq; rw [← hAe] at h9; exact h9) ?_
          refine W.widen (k := 600002) (n := 7302232) (Nat.le_of_ble_eq_true rfl) (Nat.le_of_ble_eq_true rfl) ?_
          exact lw_ret hd0 hx hb hr hlocks dL_law_1900
        · exact absurd (by decide) c_565
      · exact absurd (by decide) c_561
    by_cases c_566 : ((xs (0 : Int32).toNatClampNeg) &&& 63) = 38
    · refine lv_tableIn (tgt := 1773) hx hb dL_law_40 (by rw [c_566]; decide) (by rw [c_566]; decide) (by rw [c_566]; rfl) (by decide) ?_
      refine lv_aload_n hx hb dL_law_1773 rfl (lv_at hl 3 rfl) ?_
      have hPc := hP.sub (ws' := [(x, .inr (10, fs_x))]) [0] rfl
      have hDc := hD.sub (ws' := [(x, .inr (10, fs_x))]) [0] (by decide) rfl
      have hKc := hK.sub (tys' := []) [] rfl
      have hFc := va_free (wc := [(x, .inr (10, fs_x))]) hD hS hA [0] rfl
      refine va_calli (va_runV (As := []) (rest := []) ⟨hx, hb, hml, hown, hts⟩ (k_X11_keep l dC dI H.size x fs_x hn_x hf_x_10) (cwV 0 hts gL0_X11_keep rfl rfl rfl (by decide +kernel) ⟨Nat.le_of_ble_eq_true rfl, Nat.le_of_ble_eq_true rfl⟩) ⟨fun a U g mk q => by obtain ⟨q0, q1, qP, qK, qD⟩ := q; exact ⟨q0, q1, qP, va_K.moved (u := U) (U := U.calling g mk a) (Vm.Alike.refl U.vm) qK, qD⟩, va_recv hKc hPc (ci := 10) (q0 := 0) rfl rfl, fun U hU hW => ⟨rfl, by rw [hU], by rw [hU]; exact hPc, va_K.moved hW.alike hKc, hDc.weaken (fun _ _ _ _ => trivial)⟩⟩ rfl rfl hl.1 rfl (lv_room (Nat.le_of_ble_eq_true rfl)) dL_law_1774 ⟨Nat.le_of_ble_eq_true rfl, Nat.le_of_ble_eq_true rfl⟩) hS (fun q _ h => hFc q h) hFc (fun r_567 u t H1 locs ht hvm hw hB hz1 hk1 hS => ?_)
      obtain ⟨hP1, hK1, hD1⟩ := hB
      rw [ht] at hP1
      have hK1 := va_K.moved hvm.symm hK1
      obtain ⟨hP, hD⟩ := va_join (wr := [(rd, .inr (6, fs_rd)), (tp, .inr (9, fs_tp)), (ba, .inl (cB, 900, .inl fb)), (ra, .inr (5, [.long u0, .long w0])), (li, .inr (3, fs_li)), (ho, .inr (4, fs_ho)), (dr, .inr (3, fs_dr)), (hd, .inr (4, fs_hd)), (mm, .inr (11, fs_mm)), (mb, .inl (cM, 900, .inl fM))]) (w1 := []) hP hD [0] [1, 2, 3, 4, 5, 6, 7, 8, 9, 10] rfl rfl (by decide) (by decide) hk1 hFc hP1 hD1
      generalize H1 = H at hP hS ⊢
      have hP : va_P (dC, dI) vwCl [(rd, .inr (6, fs_rd)), (tp, .inr (9, fs_tp)), (ba, .inl (cB, 900, .inl fb)), (ra, .inr (5, [.long u0, .long w0])), (li, .inr (3, fs_li)), (ho, .inr (4, fs_ho)), (dr, .inr (3, fs_dr)), (hd, .inr (4, fs_hd)), (mm, .inr (11, fs_mm)), (mb, .inl (cM, 900, .inl fM))] H := hP
      have hD : va_D A [(rd, .inr (6, fs_rd)), (tp, .inr (9, fs_tp)), (ba, .inl (cB, 900, .inl fb)), (ra, .inr (5, [.long u0, .long w0])), (li, .inr (3, fs_li)), (ho, .inr (4, fs_ho)), (dr, .inr (3, fs_dr)), (hd, .inr (4, fs_hd)), (mm, .inr (11, fs_mm)), (mb, .inl (cM, 900, .inl fM))] := hD
      have er_567 : r_567 = 0 := hw
      subst er_567
      refine lv_aload_n hx hb dL_law_1777 rfl (lv_at hl 2 rfl) ?_
      have hPc := hP.sub (ws' := [(mm, .inr (11, fs_mm))]) [8] rfl
      have hDc := hD.sub (ws' := [(mm, .inr (11, fs_mm))]) [8] (by decide) rfl
      have hKc := hK.sub (tys' := []) [] rfl
      have hFc := va_free (wc := [(mm, .inr (11, fs_mm))]) hD hS hA [8] rfl
      refine va_calli (va_runV (As := []) (rest := [.int 0]) ⟨hx, hb, hml, hown, hts⟩ (k_X12_keep l dC dI H.size mm fs_mm hn_mm hf_mm_28) (cwV 0 hts gL0_X12_keep rfl rfl rfl (by decide +kernel) ⟨Nat.le_of_ble_eq_true rfl, Nat.le_of_ble_eq_true rfl⟩) ⟨fun a U g mk q => by obtain ⟨q0, q1, qP, qK, qD⟩ := q; exact ⟨q0, q1, qP, va_K.moved (u := U) (U := U.calling g mk a) (Vm.Alike.refl U.vm) qK, qD⟩, va_recv hKc hPc (ci := 11) (q0 := 0) rfl rfl, fun U hU hW => ⟨rfl, by rw [hU], by rw [hU]; exact hPc, va_K.moved hW.alike hKc, hDc.weaken (fun _ _ _ _ => trivial)⟩⟩ rfl rfl hl.1 rfl (lv_room (Nat.le_of_ble_eq_true rfl)) dL_law_1778 ⟨Nat.le_of_ble_eq_true rfl, Nat.le_of_ble_eq_true rfl⟩) hS (fun q _ h => hFc q h) hFc (fun r_568 u t H1 locs ht hvm hw hB hz1 hk1 hS => ?_)
      obtain ⟨hP1, hK1, hD1⟩ := hB
      rw [ht] at hP1
      have hK1 := va_K.moved hvm.symm hK1
      obtain ⟨hP, hD⟩ := va_join (wr := [(rd, .inr (6, fs_rd)), (tp, .inr (9, fs_tp)), (ba, .inl (cB, 900, .inl fb)), (ra, .inr (5, [.long u0, .long w0])), (li, .inr (3, fs_li)), (ho, .inr (4, fs_ho)), (dr, .inr (3, fs_dr)), (hd, .inr (4, fs_hd)), (mb, .inl (cM, 900, .inl fM))]) (w1 := []) hP hD [8] [0, 1, 2, 3, 4, 5, 6, 7, 9] rfl rfl (by decide) (by decide) hk1 hFc hP1 hD1
      generalize H1 = H at hP hS ⊢
      have hP : va_P (dC, dI) vwCl [(rd, .inr (6, fs_rd)), (tp, .inr (9, fs_tp)), (ba, .inl (cB, 900, .inl fb)), (ra, .inr (5, [.long u0, .long w0])), (li, .inr (3, fs_li)), (ho, .inr (4, fs_ho)), (dr, .inr (3, fs_dr)), (hd, .inr (4, fs_hd)), (mb, .inl (cM, 900, .inl fM))] H := hP
      have hD : va_D A [(rd, .inr (6, fs_rd)), (tp, .inr (9, fs_tp)), (ba, .inl (cB, 900, .inl fb)), (ra, .inr (5, [.long u0, .long w0])), (li, .inr (3, fs_li)), (ho, .inr (4, fs_ho)), (dr, .inr (3, fs_dr)), (hd, .inr (4, fs_hd)), (mb, .inl (cM, 900, .inl fM))] := hD
      have er_568 : r_568 = 0 := hw
      subst er_568
      refine lv_icmp_eq (tgt := 1893) hx hb dL_law_1781 (by decide) (fun c_569 => ?_) (fun c_569 => ?_)
      · refine lv_iinc (v := 6) (lv' := [(4, .int 6), (3, .ref lo), (2, .ref mm), (1, .ref x), (0, .ref b)]) hx hb dL_law_1893 hl (k := 0) rfl (by decide) (by decide) rfl (fun ls hl => ?_)
        refine lv_goto (tgt := 23) hx hb dL_law_1896 (by decide) ?_
        refine lv_iload hx hb dL_law_23 (lv_at hl 0 rfl) ?_
        refine lv_aload_n hx hb dL_law_25 rfl (lv_at hl 4 rfl) ?_
        refine va_slen hx hb hX hbl hbA hS dL_law_26 ?_
        refine lv_topi (fun z_571 ez_571 => ?_)
        obtain rfl : z_571 = 6 := ez_571.trans rfl
        refine lv_bipush (v := 6) hx hb dL_law_27 (by decide) ?_
        refine lv_isub hx hb dL_law_29 ?_
        refine lv_topi (fun z_572 ez_572 => ?_)
        obtain rfl : z_572 = 0 := ez_572.trans (by decide)
        refine lv_icmp_gt (tgt := 1899) hx hb dL_law_30 (by decide) (fun c_573 => ?_) (fun c_573 => ?_)
        · refine lv_iconst (v := 1) hx hb dL_law_1899 (by decide) ?_
          refine va_forget (fun q hq => by have h9 := hS.2.2 q hq; rw [← hAe] at h9; exact h9) ?_
          refine W.widen (k := 600002) (n := 7302232) (Nat.le_of_ble_eq_true rfl) (Nat.le_of_ble_eq_true rfl) ?_
          exact lw_ret hd0 hx hb hr hlocks dL_law_1900
        · exact absurd (by decide) c_573
      · exact absurd (by decide) c_569
    by_cases c_574 : ((xs (0 : Int32).toNatClampNeg) &&& 63) = 39
    · refine lv_tableIn (tgt := 1786) hx hb dL_law_40 (by rw [c_574]; decide) (by rw [c_574]; decide) (by rw [c_574]; rfl) (by decide) ?_
      refine lv_aload_n hx hb dL_law_1786 rfl (lv_at hl 3 rfl) ?_
      have hPc := hP.sub (ws' := [(x, .inr (10, fs_x))]) [0] rfl
      have hDc := hD.sub (ws' := [(x, .inr (10, fs_x))]) [0] (by decide) rfl
      have hKc := hK.sub (tys' := []) [] rfl
      have hFc := va_free (wc := [(x, .inr (10, fs_x))]) hD hS hA [0] rfl
      refine va_calli (va_runV (As := []) (rest := []) ⟨hx, hb, hml, hown, hts⟩ (k_X11_back l dC dI H.size x fs_x hn_x hf_x_10) (cwV 0 hts gL0_X11_back rfl rfl rfl (by decide +kernel) ⟨Nat.le_of_ble_eq_true rfl, Nat.le_of_ble_eq_true rfl⟩) ⟨fun a U g mk q => by obtain ⟨q0, q1, qP, qK, qD⟩ := q; exact ⟨q0, q1, qP, va_K.moved (u := U) (U := U.calling g mk a) (Vm.Alike.refl U.vm) qK, qD⟩, va_recv hKc hPc (ci := 10) (q0 := 0) rfl rfl, fun U hU hW => ⟨rfl, by rw [hU], by rw [hU]; exact hPc, va_K.moved hW.alike hKc, hDc.weaken (fun _ _ _ _ => trivial)⟩⟩ rfl rfl hl.1 rfl (lv_room (Nat.le_of_ble_eq_true rfl)) dL_law_1787 ⟨Nat.le_of_ble_eq_true rfl, Nat.le_of_ble_eq_true rfl⟩) hS (fun q _ h => hFc q h) hFc (fun r_575 u t H1 locs ht hvm hw hB hz1 hk1 hS => ?_)
      obtain ⟨hP1, hK1, hD1⟩ := hB
      rw [ht] at hP1
      have hK1 := va_K.moved hvm.symm hK1
      obtain ⟨hP, hD⟩ := va_join (wr := [(rd, .inr (6, fs_rd)), (tp, .inr (9, fs_tp)), (ba, .inl (cB, 900, .inl fb)), (ra, .inr (5, [.long u0, .long w0])), (li, .inr (3, fs_li)), (ho, .inr (4, fs_ho)), (dr, .inr (3, fs_dr)), (hd, .inr (4, fs_hd)), (mm, .inr (11, fs_mm)), (mb, .inl (cM, 900, .inl fM))]) (w1 := []) hP hD [0] [1, 2, 3, 4, 5, 6, 7, 8, 9, 10] rfl rfl (by decide) (by decide) hk1 hFc hP1 hD1
      generalize H1 = H at hP hS ⊢
      have hP : va_P (dC, dI) vwCl [(rd, .inr (6, fs_rd)), (tp, .inr (9, fs_tp)), (ba, .inl (cB, 900, .inl fb)), (ra, .inr (5, [.long u0, .long w0])), (li, .inr (3, fs_li)), (ho, .inr (4, fs_ho)), (dr, .inr (3, fs_dr)), (hd, .inr (4, fs_hd)), (mm, .inr (11, fs_mm)), (mb, .inl (cM, 900, .inl fM))] H := hP
      have hD : va_D A [(rd, .inr (6, fs_rd)), (tp, .inr (9, fs_tp)), (ba, .inl (cB, 900, .inl fb)), (ra, .inr (5, [.long u0, .long w0])), (li, .inr (3, fs_li)), (ho, .inr (4, fs_ho)), (dr, .inr (3, fs_dr)), (hd, .inr (4, fs_hd)), (mm, .inr (11, fs_mm)), (mb, .inl (cM, 900, .inl fM))] := hD
      have er_575 : r_575 = 0 := hw
      subst er_575
      refine lv_aload_n hx hb dL_law_1790 rfl (lv_at hl 2 rfl) ?_
      have hPc := hP.sub (ws' := [(mm, .inr (11, fs_mm))]) [8] rfl
      have hDc := hD.sub (ws' := [(mm, .inr (11, fs_mm))]) [8] (by decide) rfl
      have hKc := hK.sub (tys' := []) [] rfl
      have hFc := va_free (wc := [(mm, .inr (11, fs_mm))]) hD hS hA [8] rfl
      refine va_calli (va_runV (As := []) (rest := [.int 0]) ⟨hx, hb, hml, hown, hts⟩ (k_X12_back l dC dI H.size mm fs_mm hn_mm hf_mm_68) (cwV 0 hts gL0_X12_back rfl rfl rfl (by decide +kernel) ⟨Nat.le_of_ble_eq_true rfl, Nat.le_of_ble_eq_true rfl⟩) ⟨fun a U g mk q => by obtain ⟨q0, q1, qP, qK, qD⟩ := q; exact ⟨q0, q1, qP, va_K.moved (u := U) (U := U.calling g mk a) (Vm.Alike.refl U.vm) qK, qD⟩, va_recv hKc hPc (ci := 11) (q0 := 0) rfl rfl, fun U hU hW => ⟨rfl, by rw [hU], by rw [hU]; exact hPc, va_K.moved hW.alike hKc, hDc.weaken (fun _ _ _ _ => trivial)⟩⟩ rfl rfl hl.1 rfl (lv_room (Nat.le_of_ble_eq_true rfl)) dL_law_1791 ⟨Nat.le_of_ble_eq_true rfl, Nat.le_of_ble_eq_true rfl⟩) hS (fun q _ h => hFc q h) hFc (fun r_576 u t H1 locs ht hvm hw hB hz1 hk1 hS => ?_)
      obtain ⟨hP1, hK1, hD1⟩ := hB
      rw [ht] at hP1
      have hK1 := va_K.moved hvm.symm hK1
      obtain ⟨hP, hD⟩ := va_join (wr := [(rd, .inr (6, fs_rd)), (tp, .inr (9, fs_tp)), (ba, .inl (cB, 900, .inl fb)), (ra, .inr (5, [.long u0, .long w0])), (li, .inr (3, fs_li)), (ho, .inr (4, fs_ho)), (dr, .inr (3, fs_dr)), (hd, .inr (4, fs_hd)), (mb, .inl (cM, 900, .inl fM))]) (w1 := []) hP hD [8] [0, 1, 2, 3, 4, 5, 6, 7, 9] rfl rfl (by decide) (by decide) hk1 hFc hP1 hD1
      generalize H1 = H at hP hS ⊢
      have hP : va_P (dC, dI) vwCl [(rd, .inr (6, fs_rd)), (tp, .inr (9, fs_tp)), (ba, .inl (cB, 900, .inl fb)), (ra, .inr (5, [.long u0, .long w0])), (li, .inr (3, fs_li)), (ho, .inr (4, fs_ho)), (dr, .inr (3, fs_dr)), (hd, .inr (4, fs_hd)), (mb, .inl (cM, 900, .inl fM))] H := hP
      have hD : va_D A [(rd, .inr (6, fs_rd)), (tp, .inr (9, fs_tp)), (ba, .inl (cB, 900, .inl fb)), (ra, .inr (5, [.long u0, .long w0])), (li, .inr (3, fs_li)), (ho, .inr (4, fs_ho)), (dr, .inr (3, fs_dr)), (hd, .inr (4, fs_hd)), (mb, .inl (cM, 900, .inl fM))] := hD
      have er_576 : r_576 = 0 := hw
      subst er_576
      refine lv_icmp_eq (tgt := 1893) hx hb dL_law_1794 (by decide) (fun c_577 => ?_) (fun c_577 => ?_)
      · refine lv_iinc (v := 6) (lv' := [(4, .int 6), (3, .ref lo), (2, .ref mm), (1, .ref x), (0, .ref b)]) hx hb dL_law_1893 hl (k := 0) rfl (by decide) (by decide) rfl (fun ls hl => ?_)
        refine lv_goto (tgt := 23) hx hb dL_law_1896 (by decide) ?_
        refine lv_iload hx hb dL_law_23 (lv_at hl 0 rfl) ?_
        refine lv_aload_n hx hb dL_law_25 rfl (lv_at hl 4 rfl) ?_
        refine va_slen hx hb hX hbl hbA hS dL_law_26 ?_
        refine lv_topi (fun z_579 ez_579 => ?_)
        obtain rfl : z_579 = 6 := ez_579.trans rfl
        refine lv_bipush (v := 6) hx hb dL_law_27 (by decide) ?_
        refine lv_isub hx hb dL_law_29 ?_
        refine lv_topi (fun z_580 ez_580 => ?_)
        obtain rfl : z_580 = 0 := ez_580.trans (by decide)
        refine lv_icmp_gt (tgt := 1899) hx hb dL_law_30 (by decide) (fun c_581 => ?_) (fun c_581 => ?_)
        · refine lv_iconst (v := 1) hx hb dL_law_1899 (by decide) ?_
          refine va_forget (fun q hq => by have h9 := hS.2.2 q hq; rw [← hAe] at h9; exact h9) ?_
          refine W.widen (k := 600002) (n := 7302232) (Nat.le_of_ble_eq_true rfl) (Nat.le_of_ble_eq_true rfl) ?_
          exact lw_ret hd0 hx hb hr hlocks dL_law_1900
        · exact absurd (by decide) c_581
      · exact absurd (by decide) c_577
    by_cases c_582 : ((xs (0 : Int32).toNatClampNeg) &&& 63) = 40
    · refine lv_tableIn (tgt := 1799) hx hb dL_law_40 (by rw [c_582]; decide) (by rw [c_582]; decide) (by rw [c_582]; rfl) (by decide) ?_
      sorry
    by_cases c_583 : ((xs (0 : Int32).toNatClampNeg) &&& 63) = 41
    · refine lv_tableIn (tgt := 1855) hx hb dL_law_40 (by rw [c_583]; decide) (by rw [c_583]; decide) (by rw [c_583]; rfl) (by decide) ?_
      refine lv_aload_n hx hb dL_law_1855 rfl (lv_at hl 3 rfl) ?_
      refine lv_aload_n hx hb dL_law_1856 rfl (lv_at hl 4 rfl) ?_
      refine lv_iload hx hb dL_law_1857 (lv_at hl 0 rfl) ?_
      refine lv_iconst (v := 1) hx hb dL_law_1859 (by decide) ?_
      refine lv_iadd hx hb dL_law_1860 ?_
      refine lv_topi (fun z_584 ez_584 => ?_)
      obtain rfl : z_584 = 1 := ez_584.trans (by decide)
      refine va_sld hx hb hX hbl hbA hS (vp_in_nI (n := 1) (by decide) (by decide)) dL_law_1861 ?_
      have hPc := hP.sub (ws' := [(x, .inr (10, fs_x)), (rd, .inr (6, fs_rd)), (tp, .inr (9, fs_tp)), (li, .inr (3, fs_li)), (ho, .inr (4, fs_ho))]) [0, 1, 2, 5, 6] rfl
      have hDc := hD.sub (ws' := [(x, .inr (10, fs_x)), (rd, .inr (6, fs_rd)), (tp, .inr (9, fs_tp)), (li, .inr (3, fs_li)), (ho, .inr (4, fs_ho))]) [0, 1, 2, 5, 6] (by decide) rfl
      have hKc := hK.sub (tys' := []) [] rfl
      have hFc := va_free (wc := [(x, .inr (10, fs_x)), (rd, .inr (6, fs_rd)), (tp, .inr (9, fs_tp)), (li, .inr (3, fs_li)), (ho, .inr (4, fs_ho))]) hD hS hA [0, 1, 2, 5, 6] rfl
      refine va_calli (va_runV (As := [.int (xs (1 : Int32).toNatClampNeg)]) (rest := []) ⟨hx, hb, hml, hown, hts⟩ (k_X11_size l dC dI H.size x fs_x rd fs_rd tp fs_tp li fs_li ho fs_ho (xs (1 : Int32).toNatClampNeg) hn_x hf_x_0 hf_x_8 hf_x_11 hn_rd hf_rd_0 hn_tp hf_tp_1 hn_li hf_li_2 hf_li_4 hf_li_9 hn_ho hf_ho_1) (cwV 1 hts gL0_X11_size rfl rfl rfl (by decide +kernel) ⟨Nat.le_of_ble_eq_true rfl, Nat.le_of_ble_eq_true rfl⟩) ⟨fun a U g mk q => by obtain ⟨q0, q1, qP, qK, qD⟩ := q; exact ⟨q0, q1, qP, va_K.moved (u := U) (U := U.calling g mk a) (Vm.Alike.refl U.vm) qK, qD⟩, va_recv hKc hPc (ci := 10) (q0 := 0) rfl rfl, fun U hU hW => ⟨rfl, by rw [hU], by rw [hU]; exact hPc, va_K.moved hW.alike hKc, hDc.weaken (fun _ _ _ _ => trivial)⟩⟩ rfl rfl hl.1 rfl (lv_room (Nat.le_of_ble_eq_true rfl)) dL_law_1862 ⟨Nat.le_of_ble_eq_true rfl, Nat.le_of_ble_eq_true rfl⟩) hS (fun q _ h => hFc q h) hFc (fun r_585 u t H1 locs ht hvm hw hB hz1 hk1 hS => ?_)
      obtain ⟨hP1, hK1, hD1⟩ := hB
      rw [ht] at hP1
      have hK1 := va_K.moved hvm.symm hK1
      obtain ⟨hP, hD⟩ := va_join (wr := [(ba, .inl (cB, 900, .inl fb)), (ra, .inr (5, [.long u0, .long w0])), (dr, .inr (3, fs_dr)), (hd, .inr (4, fs_hd)), (mm, .inr (11, fs_mm)), (mb, .inl (cM, 900, .inl fM))]) (w1 := []) hP hD [0, 1, 2, 5, 6] [3, 4, 7, 8, 9, 10] rfl rfl (by decide) (by decide) hk1 hFc hP1 hD1
      generalize H1 = H at hP hS ⊢
      have hP : va_P (dC, dI) vwCl [(ba, .inl (cB, 900, .inl fb)), (ra, .inr (5, [.long u0, .long w0])), (dr, .inr (3, fs_dr)), (hd, .inr (4, fs_hd)), (mm, .inr (11, fs_mm)), (mb, .inl (cM, 900, .inl fM))] H := hP
      have hD : va_D A [(ba, .inl (cB, 900, .inl fb)), (ra, .inr (5, [.long u0, .long w0])), (dr, .inr (3, fs_dr)), (hd, .inr (4, fs_hd)), (mm, .inr (11, fs_mm)), (mb, .inl (cM, 900, .inl fM))] := hD
      have er_585 : r_585 = f_X11_size (xs (1 : Int32).toNatClampNeg) := hw
      refine lv_aload_n hx hb dL_law_1865 rfl (lv_at hl 2 rfl) ?_
      refine lv_aload_n hx hb dL_law_1866 rfl (lv_at hl 4 rfl) ?_
      refine lv_iload hx hb dL_law_1867 (lv_at hl 0 rfl) ?_
      refine lv_iconst (v := 1) hx hb dL_law_1869 (by decide) ?_
      refine lv_iadd hx hb dL_law_1870 ?_
      refine lv_topi (fun z_586 ez_586 => ?_)
      obtain rfl : z_586 = 1 := ez_586.trans (by decide)
      refine va_sld hx hb hX hbl hbA hS (vp_in_nI (n := 1) (by decide) (by decide)) dL_law_1871 ?_
      have hPc := hP.sub (ws' := [(mm, .inr (11, fs_mm))]) [4] rfl
      have hDc := hD.sub (ws' := [(mm, .inr (11, fs_mm))]) [4] (by decide) rfl
      have hKc := hK.sub (tys' := []) [] rfl
      have hFc := va_free (wc := [(mm, .inr (11, fs_mm))]) hD hS hA [4] rfl
      refine va_calli (va_runV (As := [.int (xs (1 : Int32).toNatClampNeg)]) (rest := [.int r_585]) ⟨hx, hb, hml, hown, hts⟩ (k_X12_size l dC dI H.size mm fs_mm (xs (1 : Int32).toNatClampNeg) hn_mm hf_mm_20 hf_mm_21 hf_mm_22 hf_mm_31 hf_mm_68) (cwV 1 hts gL0_X12_size rfl rfl rfl (by decide +kernel) ⟨Nat.le_of_ble_eq_true rfl, Nat.le_of_ble_eq_true rfl⟩) ⟨fun a U g mk q => by obtain ⟨q0, q1, qP, qK, qD⟩ := q; exact ⟨q0, q1, qP, va_K.moved (u := U) (U := U.calling g mk a) (Vm.Alike.refl U.vm) qK, qD⟩, va_recv hKc hPc (ci := 11) (q0 := 0) rfl rfl, fun U hU hW => ⟨rfl, by rw [hU], by rw [hU]; exact hPc, va_K.moved hW.alike hKc, hDc.weaken (fun _ _ _ _ => trivial)⟩⟩ rfl rfl hl.1 rfl (lv_room (Nat.le_of_ble_eq_true rfl)) dL_law_1872 ⟨Nat.le_of_ble_eq_true rfl, Nat.le_of_ble_eq_true rfl⟩) hS (fun q _ h => hFc q h) hFc (fun r_587 u t H1 locs ht hvm hw hB hz1 hk1 hS => ?_)
      obtain ⟨hP1, hK1, hD1⟩ := hB
      rw [ht] at hP1
      have hK1 := va_K.moved hvm.symm hK1
      obtain ⟨hP, hD⟩ := va_join (wr := [(ba, .inl (cB, 900, .inl fb)), (ra, .inr (5, [.long u0, .long w0])), (dr, .inr (3, fs_dr)), (hd, .inr (4, fs_hd)), (mb, .inl (cM, 900, .inl fM))]) (w1 := []) hP hD [4] [0, 1, 2, 3, 5] rfl rfl (by decide) (by decide) hk1 hFc hP1 hD1
      generalize H1 = H at hP hS ⊢
      have hP : va_P (dC, dI) vwCl [(ba, .inl (cB, 900, .inl fb)), (ra, .inr (5, [.long u0, .long w0])), (dr, .inr (3, fs_dr)), (hd, .inr (4, fs_hd)), (mb, .inl (cM, 900, .inl fM))] H := hP
      have hD : va_D A [(ba, .inl (cB, 900, .inl fb)), (ra, .inr (5, [.long u0, .long w0])), (dr, .inr (3, fs_dr)), (hd, .inr (4, fs_hd)), (mb, .inl (cM, 900, .inl fM))] := hD
      have er_587 : r_587 = f_X12_size (xs (1 : Int32).toNatClampNeg) := hw
      refine lv_icmp_eq (tgt := 1893) hx hb dL_law_1875 (by decide) (fun c_588 => ?_) (fun c_588 => ?_)
      · refine lv_iinc (v := 6) (lv' := [(4, .int 6), (3, .ref lo), (2, .ref mm), (1, .ref x), (0, .ref b)]) hx hb dL_law_1893 hl (k := 0) rfl (by decide) (by decide) rfl (fun ls hl => ?_)
        refine lv_goto (tgt := 23) hx hb dL_law_1896 (by decide) ?_
        refine lv_iload hx hb dL_law_23 (lv_at hl 0 rfl) ?_
        refine lv_aload_n hx hb dL_law_25 rfl (lv_at hl 4 rfl) ?_
        refine va_slen hx hb hX hbl hbA hS dL_law_26 ?_
        refine lv_topi (fun z_590 ez_590 => ?_)
        obtain rfl : z_590 = 6 := ez_590.trans rfl
        refine lv_bipush (v := 6) hx hb dL_law_27 (by decide) ?_
        refine lv_isub hx hb dL_law_29 ?_
        refine lv_topi (fun z_591 ez_591 => ?_)
        obtain rfl : z_591 = 0 := ez_591.trans (by decide)
        refine lv_icmp_gt (tgt := 1899) hx hb dL_law_30 (by decide) (fun c_592 => ?_) (fun c_592 => ?_)
        · refine lv_iconst (v := 1) hx hb dL_law_1899 (by decide) ?_
          refine va_forget (fun q hq => by have h9 := hS.2.2 q hq; rw [← hAe] at h9; exact h9) ?_
          refine W.widen (k := 600002) (n := 7302232) (Nat.le_of_ble_eq_true rfl) (Nat.le_of_ble_eq_true rfl) ?_
          exact lw_ret hd0 hx hb hr hlocks dL_law_1900
        · exact absurd (by decide) c_592
      · exact absurd (er_585.trans ((q_size _).trans er_587.symm)) c_588
    by_cases c_593 : ((xs (0 : Int32).toNatClampNeg) &&& 63) = 42
    · refine lv_tableIn (tgt := 1880) hx hb dL_law_40 (by rw [c_593]; decide) (by rw [c_593]; decide) (by rw [c_593]; rfl) (by decide) ?_
      refine lv_aload_n hx hb dL_law_1880 rfl (lv_at hl 3 rfl) ?_
      have hPc := hP.sub (ws' := [(x, .inr (10, fs_x))]) [0] rfl
      have hDc := hD.sub (ws' := [(x, .inr (10, fs_x))]) [0] (by decide) rfl
      have hKc := hK.sub (tys' := []) [] rfl
      have hFc := va_free (wc := [(x, .inr (10, fs_x))]) hD hS hA [0] rfl
      refine va_calli (va_runV (As := []) (rest := []) ⟨hx, hb, hml, hown, hts⟩ (k_X11_trouble l dC dI H.size x fs_x hn_x hf_x_12) (cwV 0 hts gL0_X11_trouble rfl rfl rfl (by decide +kernel) ⟨Nat.le_of_ble_eq_true rfl, Nat.le_of_ble_eq_true rfl⟩) ⟨fun a U g mk q => by obtain ⟨q0, q1, qP, qK, qD⟩ := q; exact ⟨q0, q1, qP, va_K.moved (u := U) (U := U.calling g mk a) (Vm.Alike.refl U.vm) qK, qD⟩, va_recv hKc hPc (ci := 10) (q0 := 0) rfl rfl, fun U hU hW => ⟨rfl, by rw [hU], by rw [hU]; exact hPc, va_K.moved hW.alike hKc, hDc.weaken (fun _ _ _ _ => trivial)⟩⟩ rfl rfl hl.1 rfl (lv_room (Nat.le_of_ble_eq_true rfl)) dL_law_1881 ⟨Nat.le_of_ble_eq_true rfl, Nat.le_of_ble_eq_true rfl⟩) hS (fun q _ h => hFc q h) hFc (fun r_594 u t H1 locs ht hvm hw hB hz1 hk1 hS => ?_)
      obtain ⟨hP1, hK1, hD1⟩ := hB
      rw [ht] at hP1
      have hK1 := va_K.moved hvm.symm hK1
      obtain ⟨hP, hD⟩ := va_join (wr := [(rd, .inr (6, fs_rd)), (tp, .inr (9, fs_tp)), (ba, .inl (cB, 900, .inl fb)), (ra, .inr (5, [.long u0, .long w0])), (li, .inr (3, fs_li)), (ho, .inr (4, fs_ho)), (dr, .inr (3, fs_dr)), (hd, .inr (4, fs_hd)), (mm, .inr (11, fs_mm)), (mb, .inl (cM, 900, .inl fM))]) (w1 := []) hP hD [0] [1, 2, 3, 4, 5, 6, 7, 8, 9, 10] rfl rfl (by decide) (by decide) hk1 hFc hP1 hD1
      generalize H1 = H at hP hS ⊢
      have hP : va_P (dC, dI) vwCl [(rd, .inr (6, fs_rd)), (tp, .inr (9, fs_tp)), (ba, .inl (cB, 900, .inl fb)), (ra, .inr (5, [.long u0, .long w0])), (li, .inr (3, fs_li)), (ho, .inr (4, fs_ho)), (dr, .inr (3, fs_dr)), (hd, .inr (4, fs_hd)), (mm, .inr (11, fs_mm)), (mb, .inl (cM, 900, .inl fM))] H := hP
      have hD : va_D A [(rd, .inr (6, fs_rd)), (tp, .inr (9, fs_tp)), (ba, .inl (cB, 900, .inl fb)), (ra, .inr (5, [.long u0, .long w0])), (li, .inr (3, fs_li)), (ho, .inr (4, fs_ho)), (dr, .inr (3, fs_dr)), (hd, .inr (4, fs_hd)), (mm, .inr (11, fs_mm)), (mb, .inl (cM, 900, .inl fM))] := hD
      have er_594 : r_594 = 0 := hw
      subst er_594
      refine lv_aload_n hx hb dL_law_1884 rfl (lv_at hl 2 rfl) ?_
      have hPc := hP.sub (ws' := [(mm, .inr (11, fs_mm))]) [8] rfl
      have hDc := hD.sub (ws' := [(mm, .inr (11, fs_mm))]) [8] (by decide) rfl
      have hKc := hK.sub (tys' := []) [] rfl
      have hFc := va_free (wc := [(mm, .inr (11, fs_mm))]) hD hS hA [8] rfl
      refine va_calli (va_runV (As := []) (rest := [.int 0]) ⟨hx, hb, hml, hown, hts⟩ (k_X12_trouble l dC dI H.size mm fs_mm hn_mm hf_mm_1) (cwV 0 hts gL0_X12_trouble rfl rfl rfl (by decide +kernel) ⟨Nat.le_of_ble_eq_true rfl, Nat.le_of_ble_eq_true rfl⟩) ⟨fun a U g mk q => by obtain ⟨q0, q1, qP, qK, qD⟩ := q; exact ⟨q0, q1, qP, va_K.moved (u := U) (U := U.calling g mk a) (Vm.Alike.refl U.vm) qK, qD⟩, va_recv hKc hPc (ci := 11) (q0 := 0) rfl rfl, fun U hU hW => ⟨rfl, by rw [hU], by rw [hU]; exact hPc, va_K.moved hW.alike hKc, hDc.weaken (fun _ _ _ _ => trivial)⟩⟩ rfl rfl hl.1 rfl (lv_room (Nat.le_of_ble_eq_true rfl)) dL_law_1885 ⟨Nat.le_of_ble_eq_true rfl, Nat.le_of_ble_eq_true rfl⟩) hS (fun q _ h => hFc q h) hFc (fun r_595 u t H1 locs ht hvm hw hB hz1 hk1 hS => ?_)
      obtain ⟨hP1, hK1, hD1⟩ := hB
      rw [ht] at hP1
      have hK1 := va_K.moved hvm.symm hK1
      obtain ⟨hP, hD⟩ := va_join (wr := [(rd, .inr (6, fs_rd)), (tp, .inr (9, fs_tp)), (ba, .inl (cB, 900, .inl fb)), (ra, .inr (5, [.long u0, .long w0])), (li, .inr (3, fs_li)), (ho, .inr (4, fs_ho)), (dr, .inr (3, fs_dr)), (hd, .inr (4, fs_hd)), (mb, .inl (cM, 900, .inl fM))]) (w1 := []) hP hD [8] [0, 1, 2, 3, 4, 5, 6, 7, 9] rfl rfl (by decide) (by decide) hk1 hFc hP1 hD1
      generalize H1 = H at hP hS ⊢
      have hP : va_P (dC, dI) vwCl [(rd, .inr (6, fs_rd)), (tp, .inr (9, fs_tp)), (ba, .inl (cB, 900, .inl fb)), (ra, .inr (5, [.long u0, .long w0])), (li, .inr (3, fs_li)), (ho, .inr (4, fs_ho)), (dr, .inr (3, fs_dr)), (hd, .inr (4, fs_hd)), (mb, .inl (cM, 900, .inl fM))] H := hP
      have hD : va_D A [(rd, .inr (6, fs_rd)), (tp, .inr (9, fs_tp)), (ba, .inl (cB, 900, .inl fb)), (ra, .inr (5, [.long u0, .long w0])), (li, .inr (3, fs_li)), (ho, .inr (4, fs_ho)), (dr, .inr (3, fs_dr)), (hd, .inr (4, fs_hd)), (mb, .inl (cM, 900, .inl fM))] := hD
      have er_595 : r_595 = 0 := hw
      subst er_595
      refine lv_icmp_eq (tgt := 1893) hx hb dL_law_1888 (by decide) (fun c_596 => ?_) (fun c_596 => ?_)
      · refine lv_iinc (v := 6) (lv' := [(4, .int 6), (3, .ref lo), (2, .ref mm), (1, .ref x), (0, .ref b)]) hx hb dL_law_1893 hl (k := 0) rfl (by decide) (by decide) rfl (fun ls hl => ?_)
        refine lv_goto (tgt := 23) hx hb dL_law_1896 (by decide) ?_
        refine lv_iload hx hb dL_law_23 (lv_at hl 0 rfl) ?_
        refine lv_aload_n hx hb dL_law_25 rfl (lv_at hl 4 rfl) ?_
        refine va_slen hx hb hX hbl hbA hS dL_law_26 ?_
        refine lv_topi (fun z_598 ez_598 => ?_)
        obtain rfl : z_598 = 6 := ez_598.trans rfl
        refine lv_bipush (v := 6) hx hb dL_law_27 (by decide) ?_
        refine lv_isub hx hb dL_law_29 ?_
        refine lv_topi (fun z_599 ez_599 => ?_)
        obtain rfl : z_599 = 0 := ez_599.trans (by decide)
        refine lv_icmp_gt (tgt := 1899) hx hb dL_law_30 (by decide) (fun c_600 => ?_) (fun c_600 => ?_)
        · refine lv_iconst (v := 1) hx hb dL_law_1899 (by decide) ?_
          refine va_forget (fun q hq => by have h9 := hS.2.2 q hq; rw [← hAe] at h9; exact h9) ?_
          refine W.widen (k := 600002) (n := 7302232) (Nat.le_of_ble_eq_true rfl) (Nat.le_of_ble_eq_true rfl) ?_
          exact lw_ret hd0 hx hb hr hlocks dL_law_1900
        · exact absurd (by decide) c_600
      · exact absurd (by decide) c_596
    refine lv_tableOut (tgt := 1893) hx hb dL_law_40 (by have q0 := lv_neT (a := 0) c_4 rfl; have q1 := lv_neT (a := 1) c_22 rfl; have q2 := lv_neT (a := 2) c_23 rfl; have q3 := lv_neT (a := 3) c_31 rfl; have q4 := lv_neT (a := 4) c_39 rfl; have q5 := lv_neT (a := 5) c_51 rfl; have q6 := lv_neT (a := 6) c_61 rfl; have q7 := lv_neT (a := 7) c_88 rfl; have q8 := lv_neT (a := 8) c_98 rfl; have q9 := lv_neT (a := 9) c_110 rfl; have q10 := lv_neT (a := 10) c_140 rfl; have q11 := lv_neT (a := 11) c_152 rfl; have q12 := lv_neT (a := 12) c_164 rfl; have q13 := lv_neT (a := 13) c_178 rfl; have q14 := lv_neT (a := 14) c_207 rfl; have q15 := lv_neT (a := 15) c_236 rfl; have q16 := lv_neT (a := 16) c_248 rfl; have q17 := lv_neT (a := 17) c_262 rfl; have q18 := lv_neT (a := 18) c_274 rfl; have q19 := lv_neT (a := 19) c_286 rfl; have q20 := lv_neT (a := 20) c_315 rfl; have q21 := lv_neT (a := 21) c_344 rfl; have q22 := lv_neT (a := 22) c_359 rfl; have q23 := lv_neT (a := 23) c_374 rfl; have q24 := lv_neT (a := 24) c_389 rfl; have q25 := lv_neT (a := 25) c_424 rfl; have q26 := lv_neT (a := 26) c_438 rfl; have q27 := lv_neT (a := 27) c_452 rfl; have q28 := lv_neT (a := 28) c_464 rfl; have q29 := lv_neT (a := 29) c_475 rfl; have q30 := lv_neT (a := 30) c_483 rfl; have q31 := lv_neT (a := 31) c_491 rfl; have q32 := lv_neT (a := 32) c_499 rfl; have q33 := lv_neT (a := 33) c_508 rfl; have q34 := lv_neT (a := 34) c_518 rfl; have q35 := lv_neT (a := 35) c_529 rfl; have q36 := lv_neT (a := 36) c_544 rfl; have q37 := lv_neT (a := 37) c_555 rfl; have q38 := lv_neT (a := 38) c_566 rfl; have q39 := lv_neT (a := 39) c_574 rfl; have q40 := lv_neT (a := 40) c_582 rfl; have q41 := lv_neT (a := 41) c_583 rfl; have q42 := lv_neT (a := 42) c_593 rfl; omega) (by decide) ?_
    refine lv_iinc (v := 6) (lv' := [(4, .int 6), (3, .ref lo), (2, .ref mm), (1, .ref x), (0, .ref b)]) hx hb dL_law_1893 hl (k := 0) rfl (by decide) (by decide) rfl (fun ls hl => ?_)
    refine lv_goto (tgt := 23) hx hb dL_law_1896 (by decide) ?_
    refine lv_iload hx hb dL_law_23 (lv_at hl 0 rfl) ?_
    refine lv_aload_n hx hb dL_law_25 rfl (lv_at hl 4 rfl) ?_
    refine va_slen hx hb hX hbl hbA hS dL_law_26 ?_
    refine lv_topi (fun z_602 ez_602 => ?_)
    obtain rfl : z_602 = 6 := ez_602.trans rfl
    refine lv_bipush (v := 6) hx hb dL_law_27 (by decide) ?_
    refine lv_isub hx hb dL_law_29 ?_
    refine lv_topi (fun z_603 ez_603 => ?_)
    obtain rfl : z_603 = 0 := ez_603.trans (by decide)
    refine lv_icmp_gt (tgt := 1899) hx hb dL_law_30 (by decide) (fun c_604 => ?_) (fun c_604 => ?_)
    · refine lv_iconst (v := 1) hx hb dL_law_1899 (by decide) ?_
      refine va_forget (fun q hq => by have h9 := hS.2.2 q hq; rw [← hAe] at h9; exact h9) ?_
      refine W.widen (k := 600002) (n := 7302232) (Nat.le_of_ble_eq_true rfl) (Nat.le_of_ble_eq_true rfl) ?_
      exact lw_ret hd0 hx hb hr hlocks dL_law_1900
    · exact absurd (by decide) c_604
