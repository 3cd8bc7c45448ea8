/-! THE CLAIM OUT OF ONE WALK OF THE LAW'S BODY. Your part is whole_start (and what it stands on); all else here is the same for every law, but numbers. -/
def R_law : String := "BondCalendarsLaw"
def lw_P (b : Addr) (xs : List Int32) (args : Array Value) (s : State) : Prop := args = #[.ref b] ∧ s.IntsAt b xs ∧ xs.length ≤ 6 ∧ (Jvm.Cond.and given_1 narrow_1).before args s = true
/-- what a walk over the start with the record d0 says of its end, said of the start itself -/
theorem lw_closed {s t : State} {o : Outcome} {d0 : Drawn} {L : List Loc} {k n : Nat} (hd0 : s.drawn.sameBut d0 lw_cs) (hv : ∃ v, o = .returned v) (hW : (s.setDrawn d0).WarmedH t.vm) (hs : (s.setDrawn d0).sameButNew ({ t with vm := s.vm } : State) L k n) : State.butDraws s t lw_cs (fun t1 => Framed s o t1 L k n) := by
  have h2 : t.drawn = d0 := congrArg State.drawn hs.1
  refine ⟨⟨hv, hW, State.sameButNew.setDrawn hs s.drawn⟩, ?_, by decide⟩
  rw [h2]
  exact hd0
def lw_Q (_ : Array Value) (s : State) (o : Outcome) (t : State) : Prop := o = .returned (some (.int 1)) ∧ State.butDraws s t lw_cs (fun t1 => Framed s o t1 [] 600002 7302232)
def lw_Z (below : List Frame) (a : Array Value) (s : State) : State → Prop := fun t => ∃ o, t.status = .running ∧ Ended t below o ∧ lw_Q a s o t
/-- the law's own end, with 1 on the stack, nothing written that was there before, its room as the claim has it; d0: the record of draws at this point (at the entry s.drawn: begin with 'refine W.base ?_' and 'have hd0 := Drawn.sameBut.refl s.drawn lw_cs') -/
theorem lw_ret {p : Program} {l : Launch} {e : Env} {s : State} {m : MethodId} {below : List Frame} {meth : Method} {c : Code} {b : Nat} {d0 : Drawn} (hd0 : s.drawn.sameBut d0 lw_cs) (hx : p.tables.exec = Jvm.exec) (hb : c.code = code) (hr : meth.sig.returnType = ret) (hlocks : meth.locks = false) {pc : Nat} {H : Heap} {ls : Array Slot} (hdg : decode code pc = .ok (.ireturn, 1)) : W p l e room_1 (s.setDrawn d0) m #[Value.ref b] below meth c H [] 600002 7302232 (lw_Z below #[Value.ref b] s) (F0 m pc ls [.int 1]) := by
  intro T hT X
  obtain ⟨fs, hret, hrun, hended, hW, hframe⟩ := X.leave (v := some (.int 1)) (hlocks := hlocks) (fun h => by rw [hr] at h; cases h)
  have hmeth' : T.vm.method? m = some meth := X.method'
  refine ⟨T.setFrames fs, ?_, .returned (some (.int 1)), hrun, hended, rfl, lw_closed hd0 ⟨_, rfl⟩ hW hframe⟩
  jvm_step X.here [X.here.top, hx, hb, hdg, hmeth', hr, ret, narrow_b1]
  (try refine ⟨rfl, ?_⟩); (try refine ⟨rfl, ?_⟩)
  first | (intro acts; rw [hret _ acts rfl rfl rfl]) | rw [hret _ _ rfl rfl rfl]
  exact Steps.refl _
/-- what holds at the law's entry: the machine, the code, the tables' words (any of lw_tbl by 'hts w (by decide +kernel)'), the script of L ints xs at the cell b, what the Statement gives of the start (any of its parts by flat_of_before) -/
def lw_At (p : Program) (s : State) (m : MethodId) (meth : Method) (c : Code) (b L : Nat) (xs : Nat → Int32) : Prop :=
  p.tables.exec = Jvm.exec ∧ c.code = code ∧ meth.sig.returnType = ret ∧ c.maxLocals = 7 ∧ s.vm.findClass R_law = some m.cls ∧ (∀ w ∈ lw_tbl, w.before #[Value.ref b] s = true) ∧ va_X b L xs s s.heap ∧ b < s.heap.size ∧ meth.locks = false ∧ (Jvm.Cond.and given_1 narrow_1).before #[Value.ref b] s = true
/-- what is told of the new objects' fields -/
def law_F (fs_x : List Value) (rd : Nat) (fs_rd : List Value) (tp : Nat) (fs_tp : List Value) (ba : Nat) (ra : Nat) (li : Nat) (fs_li : List Value) (ho : Nat) (fs_ho : List Value) (dr : Nat) (fs_dr : List Value) (hd : Nat) (fs_hd : List Value) (fs_mm : List Value) (mb : Nat) : Prop :=
  fs_x.length = 15 ∧ fs_x[0]? = some (Value.ref rd) ∧ fs_x[3]? = some (Value.ref ra) ∧ fs_x[8]? = some (Value.ref li) ∧ fs_x[9]? = some (Value.ref dr) ∧ fs_x[10]? = some (Value.int 0) ∧ fs_x[11]? = some (Value.int 0) ∧ fs_x[12]? = some (Value.int 0) ∧ fs_x[13]? = some (Value.int 0) ∧ fs_x[14]? = some (Value.int (-1)) ∧ fs_rd.length = 5 ∧ fs_rd[0]? = some (Value.ref tp) ∧ fs_rd[1]? = some (Value.int 0) ∧ fs_rd[2]? = some (Value.int (-1)) ∧ fs_rd[3]? = some (Value.int 0) ∧ fs_rd[4]? = some (Value.int 0) ∧ fs_tp.length = 7 ∧ fs_tp[0]? = some (Value.ref ba) ∧ fs_tp[1]? = some (Value.int 0) ∧ fs_tp[2]? = some (Value.int 0) ∧ fs_tp[3]? = some (Value.int 0) ∧ fs_tp[4]? = some (Value.int 0) ∧ fs_tp[5]? = some (Value.int 0) ∧ fs_tp[6]? = some (Value.int 0) ∧ fs_li.length = 12 ∧ fs_li[0]? = some (Value.int 0) ∧ fs_li[1]? = some (Value.int 0) ∧ fs_li[2]? = some (Value.ref ho) ∧ fs_li[4]? = some (Value.int 0) ∧ fs_li[9]? = some (Value.int 0) ∧ fs_li[10]? = some (Value.int (-1)) ∧ fs_ho.length = 2 ∧ fs_ho[1]? = some (Value.int 0) ∧ fs_dr.length = 12 ∧ fs_dr[2]? = some (Value.ref hd) ∧ fs_hd.length = 2 ∧ fs_mm.length = 69 ∧ fs_mm[0]? = some (Value.int 0) ∧ fs_mm[1]? = some (Value.int 0) ∧ fs_mm[2]? = some (Value.int (-1)) ∧ fs_mm[3]? = some (Value.long 0) ∧ fs_mm[4]? = some (Value.long 0) ∧ fs_mm[20]? = some (Value.int 0) ∧ fs_mm[21]? = some (Value.int 0) ∧ fs_mm[22]? = some (Value.int 0) ∧ fs_mm[23]? = some (Value.int 0) ∧ fs_mm[24]? = some (Value.int 0) ∧ fs_mm[25]? = some (Value.int 0) ∧ fs_mm[26]? = some (Value.int 0) ∧ fs_mm[27]? = some (Value.int 0) ∧ fs_mm[28]? = some (Value.int 0) ∧ fs_mm[29]? = some (Value.int 0) ∧ fs_mm[30]? = some (Value.ref mb) ∧ fs_mm[31]? = some (Value.int 0) ∧ fs_mm[32]? = some (Value.int 0) ∧ fs_mm[33]? = some (Value.int 0) ∧ fs_mm[34]? = some (Value.int 0) ∧ fs_mm[35]? = some (Value.int 0) ∧ fs_mm[36]? = some (Value.int 0) ∧ fs_mm[37]? = some (Value.int 0) ∧ fs_mm[38]? = some (Value.long 0) ∧ fs_mm[46]? = some (Value.int 0) ∧ fs_mm[47]? = some (Value.int 0) ∧ fs_mm[48]? = some (Value.int 0) ∧ fs_mm[49]? = some (Value.int 0) ∧ fs_mm[64]? = some (Value.int 0) ∧ fs_mm[65]? = some (Value.int 0) ∧ fs_mm[66]? = some (Value.long 0) ∧ fs_mm[67]? = some (Value.long 0) ∧ fs_mm[68]? = some (Value.int 0)
set_option maxHeartbeats 40000000 in
set_option maxRecDepth 100000 in
/-- the law's body on a script of six ints, with both objects new -/
theorem law_cases {p : Program} {e : Env} {s : State} {m : MethodId} {below : List Frame} {meth : Method} {c : Code} (l : Launch) (hflags : l.flags = flags0) {b : Nat} {xs : Nat → Int32} (C0 : lw_At p s m meth c b 6 xs) {d0 : Drawn} (hd0 : s.drawn.sameBut d0 lw_cs) (dC : Nat → ClassId) (dI : Nat → Nat → Nat) (x : Nat) (fs_x : List Value) (rd : Nat) (fs_rd : List Value) (tp : Nat) (fs_tp : List Value) (ba : Nat) (cB : ClassId) (fb : Nat → Int32) (ra : Nat) (li : Nat) (fs_li : List Value) (ho : Nat) (fs_ho : List Value) (dr : Nat) (fs_dr : List Value) (hd : Nat) (fs_hd : List Value) (mm : Nat) (fs_mm : List Value) (mb : Nat) (cM : ClassId) (fM : Nat → Int32) (u0 : Int64) (w0 : Int64) (lo : Nat) (cL : ClassId) (hF : law_F fs_x rd fs_rd tp fs_tp ba ra li fs_li ho fs_ho dr fs_dr hd fs_hd fs_mm mb) (q7_62 : Nat) (q7_71 : Nat) (q7_73 : Nat) (q7_75 : Nat) (q11_386 : Nat) (adK adV : Nat → Nat) (fo : Nat) (hN0 : vk_R RX7 62 "desk" q7_62 (s.setDrawn d0)) (hN1 : vk_R RX7 71 "holiday" q7_71 (s.setDrawn d0)) (hN2 : vk_R RX7 73 "bond" q7_73 (s.setDrawn d0)) (hN3 : vk_R RX7 75 "quote" q7_75 (s.setDrawn d0)) (hN4 : vk_R RX12 272 "desk" (adK 0) (s.setDrawn d0)) (hN5 : vk_R RX12 277 "holiday" (adK 1) (s.setDrawn d0)) (hN6 : vk_R RX12 282 "bond" (adK 2) (s.setDrawn d0)) (hN7 : vk_R RX12 287 "quote" (adK 3) (s.setDrawn d0)) (hN8 : vk_R RX11 386 "no such holiday" q11_386 (s.setDrawn d0)) (hT : sk_F adK adV fo (fun q : Nat => s.heap.size ≤ q) (s.setDrawn d0) s.heap) (hZ : hx_Z (fun q : Nat => s.heap.size ≤ q) (s.setDrawn d0) s.heap) (H : Heap) (locs : List Loc) (ls : Array Slot) (hK : va_K (dC, dI) vwCl [(cB, .byte), (cM, .byte), (cL, .long)] s) (hP : va_P (dC, dI) vwCl [(x, .inr (10, fs_x)), (rd, .inr (6, fs_rd)), (tp, .inr (9, fs_tp)), (ba, .inl (cB, 900, .inl fb)), (ra, .inr (5, [.long u0, .long w0])), (li, .inr (3, fs_li)), (ho, .inr (4, fs_ho)), (dr, .inr (3, fs_dr)), (hd, .inr (4, fs_hd)), (mm, .inr (11, fs_mm)), (mb, .inl (cM, 900, .inl fM))] H) (hD : va_D (fun q : Nat => s.heap.size ≤ q) [(x, .inr (10, fs_x)), (rd, .inr (6, fs_rd)), (tp, .inr (9, fs_tp)), (ba, .inl (cB, 900, .inl fb)), (ra, .inr (5, [.long u0, .long w0])), (li, .inr (3, fs_li)), (ho, .inr (4, fs_ho)), (dr, .inr (3, fs_dr)), (hd, .inr (4, fs_hd)), (mm, .inr (11, fs_mm)), (mb, .inl (cM, 900, .inl fM))]) (hS : va_S (fun q : Nat => s.heap.size ≤ q) s.heap H locs) (hl : lv_has ls 7 [(4, .int 0), (3, .ref lo), (2, .ref mm), (1, .ref x), (0, .ref b)]) : W p l e room_1 (s.setDrawn d0) m #[Value.ref b] below meth c H locs 187 12986 (lw_Z below #[Value.ref b] s) (F0 m 23 ls []) := by
  unfold law_F at hF
  obtain ⟨hn_x, hf_x_0, hf_x_3, hf_x_8, hf_x_9, hf_x_10, hf_x_11, hf_x_12, hf_x_13, hf_x_14, hn_rd, hf_rd_0, hf_rd_1, hf_rd_2, hf_rd_3, hf_rd_4, hn_tp, hf_tp_0, hf_tp_1, hf_tp_2, hf_tp_3, hf_tp_4, hf_tp_5, hf_tp_6, hn_li, hf_li_0, hf_li_1, hf_li_2, hf_li_4, hf_li_9, hf_li_10, hn_ho, hf_ho_1, hn_dr, hf_dr_2, hn_hd, hn_mm, hf_mm_0, hf_mm_1, hf_mm_2, hf_mm_3, hf_mm_4, hf_mm_20, hf_mm_21, hf_mm_22, hf_mm_23, hf_mm_24, hf_mm_25, hf_mm_26, hf_mm_27, hf_mm_28, hf_mm_29, hf_mm_30, hf_mm_31, hf_mm_32, hf_mm_33, hf_mm_34, hf_mm_35, hf_mm_36, hf_mm_37, hf_mm_38, hf_mm_46, hf_mm_47, hf_mm_48, hf_mm_49, hf_mm_64, hf_mm_65, hf_mm_66, hf_mm_67, hf_mm_68⟩ := hF
  obtain ⟨hx, hb, hr, hml, hown, hts, hX, hbl, hlocks, hgv⟩ := id C0
  have hown : s.vm.findClass RL = some m.cls := hown
  have hl0 : l.stackTraces = false := hx_fl hflags
  have htsT : ∀ w ∈ hx_T, w.before #[Value.ref b] (s.setDrawn d0) = true := dr_words (fun w h => hts w (hx_T_in w h)) d0
  have hts : ∀ w ∈ wsL_law0, w.before #[Value.ref b] (s.setDrawn d0) = true := dr_words (fun w h => hts w (wsL_law_in0 w h)) d0
  have hX : va_X b 6 xs (s.setDrawn d0) s.heap := hX
  have hA : ∀ q : Nat, s.heap.size ≤ q → (fun q : Nat => s.heap.size ≤ q) q := fun _ h => h
  have hbA : ¬ (fun q : Nat => s.heap.size ≤ q) b := Nat.not_le.mpr hbl
  generalize hAe : (fun q : Nat => s.heap.size ≤ q) = A at hD hS hA hbA hT hZ
  have hfg : ∀ q ∈ locs, s.heap.size ≤ q.base := fun q hq => by have := hS.2.2 q hq; rw [← hAe] at this; exact this
  refine lv_iload hx hb dL_law_23 (lv_at hl 0 rfl) ?_
  refine lv_aload_n hx hb dL_law_25 rfl (lv_at hl 4 rfl) ?_
  refine va_slen hx hb hX hbl hbA hS dL_law_26 ?_
  refine lv_topi (fun z_1 ez_1 => ?_)
  obtain rfl : z_1 = 6 := ez_1.trans rfl
  refine lv_bipush (v := 6) hx hb dL_law_27 (by decide) ?_
  refine lv_isub hx hb dL_law_29 ?_
  refine lv_topi (fun z_2 ez_2 => ?_)
  obtain rfl : z_2 = 0 := ez_2.trans (by decide)
  refine lv_icmp_gt (tgt := 1899) hx hb dL_law_30 (by decide) (fun c_3 => ?_) (fun c_3 => ?_)
  · exact absurd c_3 (by decide)
  · refine lv_aload_n hx hb dL_law_33 rfl (lv_at hl 4 rfl) ?_
    refine lv_iload hx hb dL_law_34 (lv_at hl 0 rfl) ?_
    refine va_sld hx hb hX hbl hbA hS (vp_in_nI (n := 0) (by decide) (by decide)) dL_law_36 ?_
    refine lv_bipush (v := 63) hx hb dL_law_37 (by decide) ?_
    refine lv_iand hx hb dL_law_39 ?_
    by_cases c_4 : ((xs (0 : Int32).toNatClampNeg) &&& 63) = 0
    · refine lv_tableIn (tgt := 228) hx hb dL_law_40 (by rw [c_4]; decide) (by rw [c_4]; decide) (by rw [c_4]; rfl) (by decide) ?_
      refine lv_aload_n hx hb dL_law_228 rfl (lv_at hl 3 rfl) ?_
      refine lv_aload_n hx hb dL_law_229 rfl (lv_at hl 4 rfl) ?_
      refine lv_iload hx hb dL_law_230 (lv_at hl 0 rfl) ?_
      refine lv_iconst (v := 1) hx hb dL_law_232 (by decide) ?_
      refine lv_iadd hx hb dL_law_233 ?_
      refine lv_topi (fun z_5 ez_5 => ?_)
      obtain rfl : z_5 = 1 := ez_5.trans (by decide)
      refine va_sld hx hb hX hbl hbA hS (vp_in_nI (n := 1) (by decide) (by decide)) dL_law_234 ?_
      refine lv_aload_n hx hb dL_law_235 rfl (lv_at hl 4 rfl) ?_
      refine lv_iload hx hb dL_law_236 (lv_at hl 0 rfl) ?_
      refine lv_iconst (v := 2) hx hb dL_law_238 (by decide) ?_
      refine lv_iadd hx hb dL_law_239 ?_
      refine lv_topi (fun z_6 ez_6 => ?_)
      obtain rfl : z_6 = 2 := ez_6.trans (by decide)
      refine va_sld hx hb hX hbl hbA hS (vp_in_nI (n := 2) (by decide) (by decide)) dL_law_240 ?_
      refine lv_aload_n hx hb dL_law_241 rfl (lv_at hl 4 rfl) ?_
      refine lv_iload hx hb dL_law_242 (lv_at hl 0 rfl) ?_
      refine lv_iconst (v := 3) hx hb dL_law_244 (by decide) ?_
      refine lv_iadd hx hb dL_law_245 ?_
      refine lv_topi (fun z_7 ez_7 => ?_)
      obtain rfl : z_7 = 3 := ez_7.trans (by decide)
      refine va_sld hx hb hX hbl hbA hS (vp_in_nI (n := 3) (by decide) (by decide)) dL_law_246 ?_
      refine lv_aload_n hx hb dL_law_247 rfl (lv_at hl 4 rfl) ?_
      refine lv_iload hx hb dL_law_248 (lv_at hl 0 rfl) ?_
      refine lv_iconst (v := 4) hx hb dL_law_250 (by decide) ?_
      refine lv_iadd hx hb dL_law_251 ?_
      refine lv_topi (fun z_8 ez_8 => ?_)
      obtain rfl : z_8 = 4 := ez_8.trans (by decide)
      refine va_sld hx hb hX hbl hbA hS (vp_in_nI (n := 4) (by decide) (by decide)) dL_law_252 ?_
      refine lv_aload_n hx hb dL_law_253 rfl (lv_at hl 4 rfl) ?_
      refine lv_iload hx hb dL_law_254 (lv_at hl 0 rfl) ?_
      refine lv_iconst (v := 5) hx hb dL_law_256 (by decide) ?_
      refine lv_iadd hx hb dL_law_257 ?_
      refine lv_topi (fun z_9 ez_9 => ?_)
      obtain rfl : z_9 = 5 := ez_9.trans (by decide)
      refine va_sld hx hb hX hbl hbA hS (vp_in_nI (n := 5) (by decide) (by decide)) dL_law_258 ?_
      have hPc := hP.sub (ws' := [(x, .inr (10, fs_x)), (rd, .inr (6, fs_rd)), (tp, .inr (9, fs_tp)), (ba, .inl (cB, 900, .inl fb))]) [0, 1, 2, 3] rfl
      have hDc := hD.sub (ws' := [(x, .inr (10, fs_x)), (rd, .inr (6, fs_rd)), (tp, .inr (9, fs_tp)), (ba, .inl (cB, 900, .inl fb))]) [0, 1, 2, 3] (by decide) rfl
      have hKc := hK.sub (tys' := [(cB, .byte)]) [0] rfl
      have hFc := va_free (wc := [(x, .inr (10, fs_x)), (rd, .inr (6, fs_rd)), (tp, .inr (9, fs_tp)), (ba, .inl (cB, 900, .inl fb))]) hD hS hA [0, 1, 2, 3] rfl
      refine va_calli (va_runV (As := [.int (xs (1 : Int32).toNatClampNeg), .int (xs (2 : Int32).toNatClampNeg), .int (xs (3 : Int32).toNatClampNeg), .int (xs (4 : Int32).toNatClampNeg), .int (xs (5 : Int32).toNatClampNeg)]) (rest := []) ⟨hx, hb, hml, hown, hts⟩ (k_X11_feed l dC dI H.size x fs_x rd fs_rd tp fs_tp ba cB fb (xs (1 : Int32).toNatClampNeg) (xs (2 : Int32).toNatClampNeg) (xs (3 : Int32).toNatClampNeg) (xs (4 : Int32).toNatClampNeg) (xs (5 : Int32).toNatClampNeg) hn_x hf_x_0 hn_rd hf_rd_0 hn_tp hf_tp_0 hf_tp_1) (cwV 5 hts gL0_X11_feed rfl rfl rfl (by decide +kernel) ⟨Nat.le_of_ble_eq_true rfl, Nat.le_of_ble_eq_true rfl⟩) ⟨fun a U g mk q => by obtain ⟨q0, q1, qP, qK, qD⟩ := q; exact ⟨q0, q1, qP, va_K.moved (u := U) (U := U.calling g mk a) (Vm.Alike.refl U.vm) qK, qD⟩, va_recv hKc hPc (ci := 10) (q0 := 0) rfl rfl, fun U hU hW => ⟨rfl, by rw [hU], by rw [hU]; exact hPc, va_K.moved hW.alike hKc, hDc.weaken (fun _ _ _ _ => trivial)⟩⟩ rfl rfl hl.1 rfl (lv_room (Nat.le_of_ble_eq_true rfl)) dL_law_259 ⟨Nat.le_of_ble_eq_true rfl, Nat.le_of_ble_eq_true rfl⟩) hS (fun q _ h => hFc q h) hFc (fun r_10 u t H1 locs ht hvm hw hB hz1 hk1 hS => ?_)
      obtain ⟨hP1, hK1, hD1⟩ := hB
      rw [ht] at hP1
      have hK1 := va_K.moved hvm.symm hK1
      obtain ⟨hP, hD⟩ := va_join (wr := [(ra, .inr (5, [.long u0, .long w0])), (li, .inr (3, fs_li)), (ho, .inr (4, fs_ho)), (dr, .inr (3, fs_dr)), (hd, .inr (4, fs_hd)), (mm, .inr (11, fs_mm)), (mb, .inl (cM, 900, .inl fM))]) (w1 := []) hP hD [0, 1, 2, 3] [4, 5, 6, 7, 8, 9, 10] rfl rfl (by decide) (by decide) hk1 hFc hP1 hD1
      generalize H1 = H at hP hS ⊢
      have hP : va_P (dC, dI) vwCl [(ra, .inr (5, [.long u0, .long w0])), (li, .inr (3, fs_li)), (ho, .inr (4, fs_ho)), (dr, .inr (3, fs_dr)), (hd, .inr (4, fs_hd)), (mm, .inr (11, fs_mm)), (mb, .inl (cM, 900, .inl fM))] H := hP
      have hD : va_D A [(ra, .inr (5, [.long u0, .long w0])), (li, .inr (3, fs_li)), (ho, .inr (4, fs_ho)), (dr, .inr (3, fs_dr)), (hd, .inr (4, fs_hd)), (mm, .inr (11, fs_mm)), (mb, .inl (cM, 900, .inl fM))] := hD
      have er_10 : r_10 = 20 := hw
      subst er_10
      refine lv_aload_n hx hb dL_law_262 rfl (lv_at hl 2 rfl) ?_
      refine lv_aload_n hx hb dL_law_263 rfl (lv_at hl 4 rfl) ?_
      refine lv_iload hx hb dL_law_264 (lv_at hl 0 rfl) ?_
      refine lv_iconst (v := 1) hx hb dL_law_266 (by decide) ?_
      refine lv_iadd hx hb dL_law_267 ?_
      refine lv_topi (fun z_11 ez_11 => ?_)
      obtain rfl : z_11 = 1 := ez_11.trans (by decide)
      refine va_sld hx hb hX hbl hbA hS (vp_in_nI (n := 1) (by decide) (by decide)) dL_law_268 ?_
      refine lv_aload_n hx hb dL_law_269 rfl (lv_at hl 4 rfl) ?_
      refine lv_iload hx hb dL_law_270 (lv_at hl 0 rfl) ?_
      refine lv_iconst (v := 2) hx hb dL_law_272 (by decide) ?_
      refine lv_iadd hx hb dL_law_273 ?_
      refine lv_topi (fun z_12 ez_12 => ?_)
      obtain rfl : z_12 = 2 := ez_12.trans (by decide)
      refine va_sld hx hb hX hbl hbA hS (vp_in_nI (n := 2) (by decide) (by decide)) dL_law_274 ?_
      refine lv_aload_n hx hb dL_law_275 rfl (lv_at hl 4 rfl) ?_
      refine lv_iload hx hb dL_law_276 (lv_at hl 0 rfl) ?_
      refine lv_iconst (v := 3) hx hb dL_law_278 (by decide) ?_
      refine lv_iadd hx hb dL_law_279 ?_
      refine lv_topi (fun z_13 ez_13 => ?_)
      obtain rfl : z_13 = 3 := ez_13.trans (by decide)
      refine va_sld hx hb hX hbl hbA hS (vp_in_nI (n := 3) (by decide) (by decide)) dL_law_280 ?_
      refine lv_aload_n hx hb dL_law_281 rfl (lv_at hl 4 rfl) ?_
      refine lv_iload hx hb dL_law_282 (lv_at hl 0 rfl) ?_
      refine lv_iconst (v := 4) hx hb dL_law_284 (by decide) ?_
      refine lv_iadd hx hb dL_law_285 ?_
      refine lv_topi (fun z_14 ez_14 => ?_)
      obtain rfl : z_14 = 4 := ez_14.trans (by decide)
      refine va_sld hx hb hX hbl hbA hS (vp_in_nI (n := 4) (by decide) (by decide)) dL_law_286 ?_
      refine lv_aload_n hx hb dL_law_287 rfl (lv_at hl 4 rfl) ?_
      refine lv_iload hx hb dL_law_288 (lv_at hl 0 rfl) ?_
      refine lv_iconst (v := 5) hx hb dL_law_290 (by decide) ?_
      refine lv_iadd hx hb dL_law_291 ?_
      refine lv_topi (fun z_15 ez_15 => ?_)
      obtain rfl : z_15 = 5 := ez_15.trans (by decide)
      refine va_sld hx hb hX hbl hbA hS (vp_in_nI (n := 5) (by decide) (by decide)) dL_law_292 ?_
      have hPc := hP.sub (ws' := [(mm, .inr (11, fs_mm)), (mb, .inl (cM, 900, .inl fM))]) [5, 6] rfl
      have hDc := hD.sub (ws' := [(mm, .inr (11, fs_mm)), (mb, .inl (cM, 900, .inl fM))]) [5, 6] (by decide) rfl
      have hKc := hK.sub (tys' := [(cM, .byte)]) [1] rfl
      have hFc := va_free (wc := [(mm, .inr (11, fs_mm)), (mb, .inl (cM, 900, .inl fM))]) hD hS hA [5, 6] rfl
      refine va_calli (va_runV (As := [.int (xs (1 : Int32).toNatClampNeg), .int (xs (2 : Int32).toNatClampNeg), .int (xs (3 : Int32).toNatClampNeg), .int (xs (4 : Int32).toNatClampNeg), .int (xs (5 : Int32).toNatClampNeg)]) (rest := [.int 20]) ⟨hx, hb, hml, hown, hts⟩ (k_X12_feed l dC dI H.size mm fs_mm mb cM fM (xs (1 : Int32).toNatClampNeg) (xs (2 : Int32).toNatClampNeg) (xs (3 : Int32).toNatClampNeg) (xs (4 : Int32).toNatClampNeg) (xs (5 : Int32).toNatClampNeg) hn_mm hf_mm_30 hf_mm_31) (cwV 5 hts gL0_X12_feed rfl rfl rfl (by decide +kernel) ⟨Nat.le_of_ble_eq_true rfl, Nat.le_of_ble_eq_true rfl⟩) ⟨fun a U g mk q => by obtain ⟨q0, q1, qP, qK, qD⟩ := q; exact ⟨q0, q1, qP, va_K.moved (u := U) (U := U.calling g mk a) (Vm.Alike.refl U.vm) qK, qD⟩, va_recv hKc hPc (ci := 11) (q0 := 0) rfl rfl, fun U hU hW => ⟨rfl, by rw [hU], by rw [hU]; exact hPc, va_K.moved hW.alike hKc, hDc.weaken (fun _ _ _ _ => trivial)⟩⟩ rfl rfl hl.1 rfl (lv_room (Nat.le_of_ble_eq_true rfl)) dL_law_293 ⟨Nat.le_of_ble_eq_true rfl, Nat.le_of_ble_eq_true rfl⟩) hS (fun q _ h => hFc q h) hFc (fun r_16 u t H1 locs ht hvm hw hB hz1 hk1 hS => ?_)
      obtain ⟨hP1, hK1, hD1⟩ := hB
      rw [ht] at hP1
      have hK1 := va_K.moved hvm.symm hK1
      obtain ⟨hP, hD⟩ := va_join (wr := [(ra, .inr (5, [.long u0, .long w0])), (li, .inr (3, fs_li)), (ho, .inr (4, fs_ho)), (dr, .inr (3, fs_dr)), (hd, .inr (4, fs_hd))]) (w1 := []) hP hD [5, 6] [0, 1, 2, 3, 4] rfl rfl (by decide) (by decide) hk1 hFc hP1 hD1
      generalize H1 = H at hP hS ⊢
      have hP : va_P (dC, dI) vwCl [(ra, .inr (5, [.long u0, .long w0])), (li, .inr (3, fs_li)), (ho, .inr (4, fs_ho)), (dr, .inr (3, fs_dr)), (hd, .inr (4, fs_hd))] H := hP
      have hD : va_D A [(ra, .inr (5, [.long u0, .long w0])), (li, .inr (3, fs_li)), (ho, .inr (4, fs_ho)), (dr, .inr (3, fs_dr)), (hd, .inr (4, fs_hd))] := hD
      have er_16 : r_16 = 20 := hw
      subst er_16
      refine lv_icmp_eq (tgt := 1893) hx hb dL_law_296 (by decide) (fun c_17 => ?_) (fun c_17 => ?_)
      · refine lv_iinc (v := 6) (lv' := [(4, .int 6), (3, .ref lo), (2, .ref mm), (1, .ref x), (0, .ref b)]) hx hb dL_law_1893 hl (k := 0) rfl (by decide) (by decide) rfl (fun ls hl => ?_)
        refine lv_goto (tgt := 23) hx hb dL_law_1896 (by decide) ?_
        refine lv_iload hx hb dL_law_23 (lv_at hl 0 rfl) ?_
        refine lv_aload_n hx hb dL_law_25 rfl (lv_at hl 4 rfl) ?_
        refine va_slen hx hb hX hbl hbA hS dL_law_26 ?_
        refine lv_topi (fun z_19 ez_19 => ?_)
        obtain rfl : z_19 = 6 := ez_19.trans rfl
        refine lv_bipush (v := 6) hx hb dL_law_27 (by decide) ?_
        refine lv_isub hx hb dL_law_29 ?_
        refine lv_topi (fun z_20 ez_20 => ?_)
        obtain rfl : z_20 = 0 := ez_20.trans (by decide)
        refine lv_icmp_gt (tgt := 1899) hx hb dL_law_30 (by decide) (fun c_21 => ?_) (fun c_21 => ?_)
        · refine lv_iconst (v := 1) hx hb dL_law_1899 (by decide) ?_
          refine va_forget (fun q hq => by have h9 := hS.2.2 q hq; rw [← hAe] at h9; exact h9) ?_
          refine W.widen (k := 600002) (n := 7302232) (Nat.le_of_ble_eq_true rfl) (Nat.le_of_ble_eq_true rfl) ?_
          exact lw_ret hd0 hx hb hr hlocks dL_law_1900
        · exact absurd (by decide) c_21
      · exact absurd (by decide) c_17
    by_cases c_22 : ((xs (0 : Int32).toNatClampNeg) &&& 63) = 1
    · refine lv_tableIn (tgt := 301) hx hb dL_law_40 (by rw [c_22]; decide) (by rw [c_22]; decide) (by rw [c_22]; rfl) (by decide) ?_
      refine lv_aload_n hx hb dL_law_301 rfl (lv_at hl 3 rfl) ?_
      refine lv_aload_n hx hb dL_law_302 rfl (lv_at hl 4 rfl) ?_
      refine lv_iload hx hb dL_law_303 (lv_at hl 0 rfl) ?_
      refine lv_iconst (v := 1) hx hb dL_law_305 (by decide) ?_
      refine lv_iadd hx hb dL_law_306 ?_
      refine lv_topi (fun z_23 ez_23 => ?_)
      obtain rfl : z_23 = 1 := ez_23.trans (by decide)
      refine va_sld hx hb hX hbl hbA hS (vp_in_nI (n := 1) (by decide) (by decide)) dL_law_307 ?_
      have hPc := hP.sub (ws' := [(x, .inr (10, fs_x)), (rd, .inr (6, fs_rd)), (tp, .inr (9, fs_tp)), (ba, .inl (cB, 900, .inl fb)), (dr, .inr (3, fs_dr)), (hd, .inr (4, fs_hd))]) [0, 1, 2, 3, 7, 8] rfl
      have hDc := hD.sub (ws' := [(x, .inr (10, fs_x)), (rd, .inr (6, fs_rd)), (tp, .inr (9, fs_tp)), (ba, .inl (cB, 900, .inl fb)), (dr, .inr (3, fs_dr)), (hd, .inr (4, fs_hd))]) [0, 1, 2, 3, 7, 8] (by decide) rfl
      have hKc := hK.sub (tys' := [(cB, .byte)]) [0] rfl
      have hFc := va_free (wc := [(x, .inr (10, fs_x)), (rd, .inr (6, fs_rd)), (tp, .inr (9, fs_tp)), (ba, .inl (cB, 900, .inl fb)), (dr, .inr (3, fs_dr)), (hd, .inr (4, fs_hd))]) hD hS hA [0, 1, 2, 3, 7, 8] rfl
      refine va_calli (va_runV (As := [.int (xs (1 : Int32).toNatClampNeg)]) (rest := []) ⟨hx, hb, hml, hown, hts⟩ (k_X11_desk l dC dI H.size x fs_x rd fs_rd tp fs_tp ba cB fb dr fs_dr hd fs_hd (xs (1 : Int32).toNatClampNeg) q7_62 q7_71 q7_73 q7_75 hn_x hf_x_0 hf_x_9 hn_rd hf_rd_0 hn_tp hf_tp_0 hf_tp_1 hf_tp_2 hf_tp_3 hf_tp_4 hf_tp_5 hf_tp_6 hn_dr hf_dr_2 hn_hd) (cwV 1 hts gL0_X11_desk rfl rfl rfl (by decide +kernel) ⟨Nat.le_of_ble_eq_true rfl, Nat.le_of_ble_eq_true rfl⟩) ⟨fun a U g mk q => by obtain ⟨q0, q1, qP, qK, qD, n0, n1, n2, n3⟩ := q; exact ⟨q0, q1, qP, va_K.moved (u := U) (U := U.calling g mk a) (Vm.Alike.refl U.vm) qK, qD, (vk_R.same rfl n0), (vk_R.same rfl n1), (vk_R.same rfl n2), (vk_R.same rfl n3)⟩, va_recv hKc hPc (ci := 10) (q0 := 0) rfl rfl, fun U hU hW => ⟨rfl, by rw [hU], by rw [hU]; exact hPc, va_K.moved hW.alike hKc, hDc.weaken (fun _ _ _ _ => trivial), (vk_R.warm hW hN0), (vk_R.warm hW hN1), (vk_R.warm hW hN2), (vk_R.warm hW hN3)⟩⟩ rfl rfl hl.1 rfl (lv_room (Nat.le_of_ble_eq_true rfl)) dL_law_308 ⟨Nat.le_of_ble_eq_true rfl, Nat.le_of_ble_eq_true rfl⟩) hS (fun q _ h => hFc q h) hFc (fun r_24 u t H1 locs ht hvm hw hB hz1 hk1 hS => ?_)
      obtain ⟨hP1, hK1, hD1⟩ := hB
      rw [ht] at hP1
      have hK1 := va_K.moved hvm.symm hK1
      obtain ⟨hP, hD⟩ := va_join (wr := [(ra, .inr (5, [.long u0, .long w0])), (li, .inr (3, fs_li)), (ho, .inr (4, fs_ho)), (mm, .inr (11, fs_mm)), (mb, .inl (cM, 900, .inl fM))]) (w1 := []) hP hD [0, 1, 2, 3, 7, 8] [4, 5, 6, 9, 10] rfl rfl (by decide) (by decide) hk1 hFc hP1 hD1
      generalize H1 = H at hP hS ⊢
      have hP : va_P (dC, dI) vwCl [(ra, .inr (5, [.long u0, .long w0])), (li, .inr (3, fs_li)), (ho, .inr (4, fs_ho)), (mm, .inr (11, fs_mm)), (mb, .inl (cM, 900, .inl fM))] H := hP
      have hD : va_D A [(ra, .inr (5, [.long u0, .long w0])), (li, .inr (3, fs_li)), (ho, .inr (4, fs_ho)), (mm, .inr (11, fs_mm)), (mb, .inl (cM, 900, .inl fM))] := hD
      have er_24 : r_24 = (-1) := hw
      subst er_24
      refine lv_aload_n hx hb dL_law_311 rfl (lv_at hl 2 rfl) ?_
      refine lv_aload_n hx hb dL_law_312 rfl (lv_at hl 4 rfl) ?_
      refine lv_iload hx hb dL_law_313 (lv_at hl 0 rfl) ?_
      refine lv_iconst (v := 1) hx hb dL_law_315 (by decide) ?_
      refine lv_iadd hx hb dL_law_316 ?_
      refine lv_topi (fun z_25 ez_25 => ?_)
      obtain rfl : z_25 = 1 := ez_25.trans (by decide)
      refine va_sld hx hb hX hbl hbA hS (vp_in_nI (n := 1) (by decide) (by decide)) dL_law_317 ?_
      have hPc := hP.sub (ws' := [(mm, .inr (11, fs_mm))]) [3] rfl
      have hDc := hD.sub (ws' := [(mm, .inr (11, fs_mm))]) [3] (by decide) rfl
      have hKc := hK.sub (tys' := []) [] rfl
      have hFc := va_free (wc := [(mm, .inr (11, fs_mm))]) hD hS hA [3] rfl
      refine va_calli (va_runV (As := [.int (xs (1 : Int32).toNatClampNeg)]) (rest := [.int (-1)]) ⟨hx, hb, hml, hown, hts⟩ (k_X12_desk l dC dI H.size mm fs_mm adK adV fo (xs (1 : Int32).toNatClampNeg) hn_mm hf_mm_31 hf_mm_32 hf_mm_33 hf_mm_34 hf_mm_35 hf_mm_37) (cwV 1 hts gL0_X12_desk rfl rfl rfl (by decide +kernel) ⟨Nat.le_of_ble_eq_true rfl, Nat.le_of_ble_eq_true rfl⟩) ⟨fun a U g mk q => by obtain ⟨q0, q1, qP, qK, qD, n0, n1, n2, n3, qT⟩ := q; exact ⟨q0, q1, qP, va_K.moved (u := U) (U := U.calling g mk a) (Vm.Alike.refl U.vm) qK, qD, (vk_R.same rfl n0), (vk_R.same rfl n1), (vk_R.same rfl n2), (vk_R.same rfl n3), sk_F.moved (u := U) (U := U.calling g mk a) (Vm.Alike.refl U.vm) qT⟩, va_recv hKc hPc (ci := 11) (q0 := 0) rfl rfl, fun U hU hW => ⟨rfl, by rw [hU], by rw [hU]; exact hPc, va_K.moved hW.alike hKc, hDc.weaken (fun _ _ _ _ => trivial), (vk_R.warm hW hN4), (vk_R.warm hW hN5), (vk_R.warm hW hN6), (vk_R.warm hW hN7), by rw [hU]; exact sk_F.moved hW.alike ((hT.kept hS.2.1).narrow hFc)⟩⟩ rfl rfl hl.1 rfl (lv_room (Nat.le_of_ble_eq_true rfl)) dL_law_318 ⟨Nat.le_of_ble_eq_true rfl, Nat.le_of_ble_eq_true rfl⟩) hS (fun q _ h => hFc q h) hFc (fun r_26 u t H1 locs ht hvm hw hB hz1 hk1 hS => ?_)
      obtain ⟨hP1, hK1, hD1⟩ := hB
      rw [ht] at hP1
      have hK1 := va_K.moved hvm.symm hK1
      obtain ⟨hP, hD⟩ := va_join (wr := [(ra, .inr (5, [.long u0, .long w0])), (li, .inr (3, fs_li)), (ho, .inr (4, fs_ho)), (mb, .inl (cM, 900, .inl fM))]) (w1 := []) hP hD [3] [0, 1, 2, 4] rfl rfl (by decide) (by decide) hk1 hFc hP1 hD1
      generalize H1 = H at hP hS ⊢
      have hP : va_P (dC, dI) vwCl [(ra, .inr (5, [.long u0, .long w0])), (li, .inr (3, fs_li)), (ho, .inr (4, fs_ho)), (mb, .inl (cM, 900, .inl fM))] H := hP
      have hD : va_D A [(ra, .inr (5, [.long u0, .long w0])), (li, .inr (3, fs_li)), (ho, .inr (4, fs_ho)), (mb, .inl (cM, 900, .inl fM))] := hD
      have er_26 : r_26 = (-1) := hw
      subst er_26
      refine lv_icmp_eq (tgt := 1893) hx hb dL_law_321 (by decide) (fun c_27 => ?_) (fun c_27 => ?_)
      · refine lv_iinc (v := 6) (lv' := [(4, .int 6), (3, .ref lo), (2, .ref mm), (1, .ref x), (0, .ref b)]) hx hb dL_law_1893 hl (k := 0) rfl (by decide) (by decide) rfl (fun ls hl => ?_)
        refine lv_goto (tgt := 23) hx hb dL_law_1896 (by decide) ?_
        refine lv_iload hx hb dL_law_23 (lv_at hl 0 rfl) ?_
        refine lv_aload_n hx hb dL_law_25 rfl (lv_at hl 4 rfl) ?_
        refine va_slen hx hb hX hbl hbA hS dL_law_26 ?_
        refine lv_topi (fun z_29 ez_29 => ?_)
        obtain rfl : z_29 = 6 := ez_29.trans rfl
        refine lv_bipush (v := 6) hx hb dL_law_27 (by decide) ?_
        refine lv_isub hx hb dL_law_29 ?_
        refine lv_topi (fun z_30 ez_30 => ?_)
        obtain rfl : z_30 = 0 := ez_30.trans (by decide)
        refine lv_icmp_gt (tgt := 1899) hx hb dL_law_30 (by decide) (fun c_31 => ?_) (fun c_31 => ?_)
        · refine lv_iconst (v := 1) hx hb dL_law_1899 (by decide) ?_
          refine va_forget (fun q hq => by have h9 := hS.2.2 q hq; rw [← hAe] at h9; exact h9) ?_
          refine W.widen (k := 600002) (n := 7302232) (Nat.le_of_ble_eq_true rfl) (Nat.le_of_ble_eq_true rfl) ?_
          exact lw_ret hd0 hx hb hr hlocks dL_law_1900
        · exact absurd (by decide) c_31
      · exact absurd (by decide) c_27
    by_cases c_32 : ((xs (0 : Int32).toNatClampNeg) &&& 63) = 2
    · refine lv_tableIn (tgt := 326) hx hb dL_law_40 (by rw [c_32]; decide) (by rw [c_32]; decide) (by rw [c_32]; rfl) (by decide) ?_
      refine lv_aload_n hx hb dL_law_326 rfl (lv_at hl 3 rfl) ?_
      have hPc := hP.sub (ws' := [(x, .inr (10, fs_x))]) [0] rfl
      have hDc := hD.sub (ws' := [(x, .inr (10, fs_x))]) [0] (by decide) rfl
      have hKc := hK.sub (tys' := []) [] rfl
      have hFc := va_free (wc := [(x, .inr (10, fs_x))]) hD hS hA [0] rfl
      refine va_calli (va_runV (As := []) (rest := []) ⟨hx, hb, hml, hown, hts⟩ (k_X11_fault l dC dI H.size x fs_x hn_x hf_x_13) (cwV 0 hts gL0_X11_fault rfl rfl rfl (by decide +kernel) ⟨Nat.le_of_ble_eq_true rfl, Nat.le_of_ble_eq_true rfl⟩) ⟨fun a U g mk q => by obtain ⟨q0, q1, qP, qK, qD⟩ := q; exact ⟨q0, q1, qP, va_K.moved (u := U) (U := U.calling g mk a) (Vm.Alike.refl U.vm) qK, qD⟩, va_recv hKc hPc (ci := 10) (q0 := 0) rfl rfl, fun U hU hW => ⟨rfl, by rw [hU], by rw [hU]; exact hPc, va_K.moved hW.alike hKc, hDc.weaken (fun _ _ _ _ => trivial)⟩⟩ rfl rfl hl.1 rfl (lv_room (Nat.le_of_ble_eq_true rfl)) dL_law_327 ⟨Nat.le_of_ble_eq_true rfl, Nat.le_of_ble_eq_true rfl⟩) hS (fun q _ h => hFc q h) hFc (fun r_33 u t H1 locs ht hvm hw hB hz1 hk1 hS => ?_)
      obtain ⟨hP1, hK1, hD1⟩ := hB
      rw [ht] at hP1
      have hK1 := va_K.moved hvm.symm hK1
      obtain ⟨hP, hD⟩ := va_join (wr := [(rd, .inr (6, fs_rd)), (tp, .inr (9, fs_tp)), (ba, .inl (cB, 900, .inl fb)), (ra, .inr (5, [.long u0, .long w0])), (li, .inr (3, fs_li)), (ho, .inr (4, fs_ho)), (dr, .inr (3, fs_dr)), (hd, .inr (4, fs_hd)), (mm, .inr (11, fs_mm)), (mb, .inl (cM, 900, .inl fM))]) (w1 := []) hP hD [0] [1, 2, 3, 4, 5, 6, 7, 8, 9, 10] rfl rfl (by decide) (by decide) hk1 hFc hP1 hD1
      generalize H1 = H at hP hS ⊢
      have hP : va_P (dC, dI) vwCl [(rd, .inr (6, fs_rd)), (tp, .inr (9, fs_tp)), (ba, .inl (cB, 900, .inl fb)), (ra, .inr (5, [.long u0, .long w0])), (li, .inr (3, fs_li)), (ho, .inr (4, fs_ho)), (dr, .inr (3, fs_dr)), (hd, .inr (4, fs_hd)), (mm, .inr (11, fs_mm)), (mb, .inl (cM, 900, .inl fM))] H := hP
      have hD : va_D A [(rd, .inr (6, fs_rd)), (tp, .inr (9, fs_tp)), (ba, .inl (cB, 900, .inl fb)), (ra, .inr (5, [.long u0, .long w0])), (li, .inr (3, fs_li)), (ho, .inr (4, fs_ho)), (dr, .inr (3, fs_dr)), (hd, .inr (4, fs_hd)), (mm, .inr (11, fs_mm)), (mb, .inl (cM, 900, .inl fM))] := hD
      have er_33 : r_33 = 0 := hw
      subst er_33
      refine lv_aload_n hx hb dL_law_330 rfl (lv_at hl 2 rfl) ?_
      have hPc := hP.sub (ws' := [(mm, .inr (11, fs_mm))]) [8] rfl
      have hDc := hD.sub (ws' := [(mm, .inr (11, fs_mm))]) [8] (by decide) rfl
      have hKc := hK.sub (tys' := []) [] rfl
      have hFc := va_free (wc := [(mm, .inr (11, fs_mm))]) hD hS hA [8] rfl
      refine va_calli (va_runV (As := []) (rest := [.int 0]) ⟨hx, hb, hml, hown, hts⟩ (k_X12_fault l dC dI H.size mm fs_mm hn_mm hf_mm_37) (cwV 0 hts gL0_X12_fault rfl rfl rfl (by decide +kernel) ⟨Nat.le_of_ble_eq_true rfl, Nat.le_of_ble_eq_true rfl⟩) ⟨fun a U g mk q => by obtain ⟨q0, q1, qP, qK, qD⟩ := q; exact ⟨q0, q1, qP, va_K.moved (u := U) (U := U.calling g mk a) (Vm.Alike.refl U.vm) qK, qD⟩, va_recv hKc hPc (ci := 11) (q0 := 0) rfl rfl, fun U hU hW => ⟨rfl, by rw [hU], by rw [hU]; exact hPc, va_K.moved hW.alike hKc, hDc.weaken (fun _ _ _ _ => trivial)⟩⟩ rfl rfl hl.1 rfl (lv_room (Nat.le_of_ble_eq_true rfl)) dL_law_331 ⟨Nat.le_of_ble_eq_true rfl, Nat.le_of_ble_eq_true rfl⟩) hS (fun q _ h => hFc q h) hFc (fun r_34 u t H1 locs ht hvm hw hB hz1 hk1 hS => ?_)
      obtain ⟨hP1, hK1, hD1⟩ := hB
      rw [ht] at hP1
      have hK1 := va_K.moved hvm.symm hK1
      obtain ⟨hP, hD⟩ := va_join (wr := [(rd, .inr (6, fs_rd)), (tp, .inr (9, fs_tp)), (ba, .inl (cB, 900, .inl fb)), (ra, .inr (5, [.long u0, .long w0])), (li, .inr (3, fs_li)), (ho, .inr (4, fs_ho)), (dr, .inr (3, fs_dr)), (hd, .inr (4, fs_hd)), (mb, .inl (cM, 900, .inl fM))]) (w1 := []) hP hD [8] [0, 1, 2, 3, 4, 5, 6, 7, 9] rfl rfl (by decide) (by decide) hk1 hFc hP1 hD1
      generalize H1 = H at hP hS ⊢
      have hP : va_P (dC, dI) vwCl [(rd, .inr (6, fs_rd)), (tp, .inr (9, fs_tp)), (ba, .inl (cB, 900, .inl fb)), (ra, .inr (5, [.long u0, .long w0])), (li, .inr (3, fs_li)), (ho, .inr (4, fs_ho)), (dr, .inr (3, fs_dr)), (hd, .inr (4, fs_hd)), (mb, .inl (cM, 900, .inl fM))] H := hP
      have hD : va_D A [(rd, .inr (6, fs_rd)), (tp, .inr (9, fs_tp)), (ba, .inl (cB, 900, .inl fb)), (ra, .inr (5, [.long u0, .long w0])), (li, .inr (3, fs_li)), (ho, .inr (4, fs_ho)), (dr, .inr (3, fs_dr)), (hd, .inr (4, fs_hd)), (mb, .inl (cM, 900, .inl fM))] := hD
      have er_34 : r_34 = 0 := hw
      subst er_34
      refine lv_icmp_eq (tgt := 1893) hx hb dL_law_334 (by decide) (fun c_35 => ?_) (fun c_35 => ?_)
      · refine lv_iinc (v := 6) (lv' := [(4, .int 6), (3, .ref lo), (2, .ref mm), (1, .ref x), (0, .ref b)]) hx hb dL_law_1893 hl (k := 0) rfl (by decide) (by decide) rfl (fun ls hl => ?_)
        refine lv_goto (tgt := 23) hx hb dL_law_1896 (by decide) ?_
        refine lv_iload hx hb dL_law_23 (lv_at hl 0 rfl) ?_
        refine lv_aload_n hx hb dL_law_25 rfl (lv_at hl 4 rfl) ?_
        refine va_slen hx hb hX hbl hbA hS dL_law_26 ?_
        refine lv_topi (fun z_37 ez_37 => ?_)
        obtain rfl : z_37 = 6 := ez_37.trans rfl
        refine lv_bipush (v := 6) hx hb dL_law_27 (by decide) ?_
        refine lv_isub hx hb dL_law_29 ?_
        refine lv_topi (fun z_38 ez_38 => ?_)
        obtain rfl : z_38 = 0 := ez_38.trans (by decide)
        refine lv_icmp_gt (tgt := 1899) hx hb dL_law_30 (by decide) (fun c_39 => ?_) (fun c_39 => ?_)
        · refine lv_iconst (v := 1) hx hb dL_law_1899 (by decide) ?_
          refine va_forget (fun q hq => by have h9 := hS.2.2 q hq; rw [← hAe] at h9; exact h9) ?_
          refine W.widen (k := 600002) (n := 7302232) (Nat.le_of_ble_eq_true rfl) (Nat.le_of_ble_eq_true rfl) ?_
          exact lw_ret hd0 hx hb hr hlocks dL_law_1900
        · exact absurd (by decide) c_39
      · exact absurd (by decide) c_35
    by_cases c_40 : ((xs (0 : Int32).toNatClampNeg) &&& 63) = 3
    · refine lv_tableIn (tgt := 339) hx hb dL_law_40 (by rw [c_40]; decide) (by rw [c_40]; decide) (by rw [c_40]; rfl) (by decide) ?_
      refine lv_aload_n hx hb dL_law_339 rfl (lv_at hl 3 rfl) ?_
      have hPc := hP.sub (ws' := [(x, .inr (10, fs_x))]) [0] rfl
      have hDc := hD.sub (ws' := [(x, .inr (10, fs_x))]) [0] (by decide) rfl
      have hKc := hK.sub (tys' := []) [] rfl
      have hFc := va_free (wc := [(x, .inr (10, fs_x))]) hD hS hA [0] rfl
      refine va_calli (va_runV (As := []) (rest := []) ⟨hx, hb, hml, hown, hts⟩ (k_X11_where l dC dI H.size x fs_x hn_x hf_x_12) (cwV 0 hts gL0_X11_where rfl rfl rfl (by decide +kernel) ⟨Nat.le_of_ble_eq_true rfl, Nat.le_of_ble_eq_true rfl⟩) ⟨fun a U g mk q => by obtain ⟨q0, q1, qP, qK, qD⟩ := q; exact ⟨q0, q1, qP, va_K.moved (u := U) (U := U.calling g mk a) (Vm.Alike.refl U.vm) qK, qD⟩, va_recv hKc hPc (ci := 10) (q0 := 0) rfl rfl, fun U hU hW => ⟨rfl, by rw [hU], by rw [hU]; exact hPc, va_K.moved hW.alike hKc, hDc.weaken (fun _ _ _ _ => trivial)⟩⟩ rfl rfl hl.1 rfl (lv_room (Nat.le_of_ble_eq_true rfl)) dL_law_340 ⟨Nat.le_of_ble_eq_true rfl, Nat.le_of_ble_eq_true rfl⟩) hS (fun q _ h => hFc q h) hFc (fun r_41 u t H1 locs ht hvm hw hB hz1 hk1 hS => ?_)
      obtain ⟨hP1, hK1, hD1⟩ := hB
      rw [ht] at hP1
      have hK1 := va_K.moved hvm.symm hK1
      obtain ⟨hP, hD⟩ := va_join (wr := [(rd, .inr (6, fs_rd)), (tp, .inr (9, fs_tp)), (ba, .inl (cB, 900, .inl fb)), (ra, .inr (5, [.long u0, .long w0])), (li, .inr (3, fs_li)), (ho, .inr (4, fs_ho)), (dr, .inr (3, fs_dr)), (hd, .inr (4, fs_hd)), (mm, .inr (11, fs_mm)), (mb, .inl (cM, 900, .inl fM))]) (w1 := []) hP hD [0] [1, 2, 3, 4, 5, 6, 7, 8, 9, 10] rfl rfl (by decide) (by decide) hk1 hFc hP1 hD1
      generalize H1 = H at hP hS ⊢
      have hP : va_P (dC, dI) vwCl [(rd, .inr (6, fs_rd)), (tp, .inr (9, fs_tp)), (ba, .inl (cB, 900, .inl fb)), (ra, .inr (5, [.long u0, .long w0])), (li, .inr (3, fs_li)), (ho, .inr (4, fs_ho)), (dr, .inr (3, fs_dr)), (hd, .inr (4, fs_hd)), (mm, .inr (11, fs_mm)), (mb, .inl (cM, 900, .inl fM))] H := hP
      have hD : va_D A [(rd, .inr (6, fs_rd)), (tp, .inr (9, fs_tp)), (ba, .inl (cB, 900, .inl fb)), (ra, .inr (5, [.long u0, .long w0])), (li, .inr (3, fs_li)), (ho, .inr (4, fs_ho)), (dr, .inr (3, fs_dr)), (hd, .inr (4, fs_hd)), (mm, .inr (11, fs_mm)), (mb, .inl (cM, 900, .inl fM))] := hD
      have er_41 : r_41 = (-1) := hw
      subst er_41
      refine lv_aload_n hx hb dL_law_343 rfl (lv_at hl 2 rfl) ?_
      have hPc := hP.sub (ws' := [(mm, .inr (11, fs_mm))]) [8] rfl
      have hDc := hD.sub (ws' := [(mm, .inr (11, fs_mm))]) [8] (by decide) rfl
      have hKc := hK.sub (tys' := []) [] rfl
      have hFc := va_free (wc := [(mm, .inr (11, fs_mm))]) hD hS hA [8] rfl
      refine va_calli (va_runV (As := []) (rest := [.int (-1)]) ⟨hx, hb, hml, hown, hts⟩ (k_X12_where l dC dI H.size mm fs_mm hn_mm hf_mm_2) (cwV 0 hts gL0_X12_where rfl rfl rfl (by decide +kernel) ⟨Nat.le_of_ble_eq_true rfl, Nat.le_of_ble_eq_true rfl⟩) ⟨fun a U g mk q => by obtain ⟨q0, q1, qP, qK, qD⟩ := q; exact ⟨q0, q1, qP, va_K.moved (u := U) (U := U.calling g mk a) (Vm.Alike.refl U.vm) qK, qD⟩, va_recv hKc hPc (ci := 11) (q0 := 0) rfl rfl, fun U hU hW => ⟨rfl, by rw [hU], by rw [hU]; exact hPc, va_K.moved hW.alike hKc, hDc.weaken (fun _ _ _ _ => trivial)⟩⟩ rfl rfl hl.1 rfl (lv_room (Nat.le_of_ble_eq_true rfl)) dL_law_344 ⟨Nat.le_of_ble_eq_true rfl, Nat.le_of_ble_eq_true rfl⟩) hS (fun q _ h => hFc q h) hFc (fun r_42 u t H1 locs ht hvm hw hB hz1 hk1 hS => ?_)
      obtain ⟨hP1, hK1, hD1⟩ := hB
      rw [ht] at hP1
      have hK1 := va_K.moved hvm.symm hK1
      obtain ⟨hP, hD⟩ := va_join (wr := [(rd, .inr (6, fs_rd)), (tp, .inr (9, fs_tp)), (ba, .inl (cB, 900, .inl fb)), (ra, .inr (5, [.long u0, .long w0])), (li, .inr (3, fs_li)), (ho, .inr (4, fs_ho)), (dr, .inr (3, fs_dr)), (hd, .inr (4, fs_hd)), (mb, .inl (cM, 900, .inl fM))]) (w1 := []) hP hD [8] [0, 1, 2, 3, 4, 5, 6, 7, 9] rfl rfl (by decide) (by decide) hk1 hFc hP1 hD1
      generalize H1 = H at hP hS ⊢
      have hP : va_P (dC, dI) vwCl [(rd, .inr (6, fs_rd)), (tp, .inr (9, fs_tp)), (ba, .inl (cB, 900, .inl fb)), (ra, .inr (5, [.long u0, .long w0])), (li, .inr (3, fs_li)), (ho, .inr (4, fs_ho)), (dr, .inr (3, fs_dr)), (hd, .inr (4, fs_hd)), (mb, .inl (cM, 900, .inl fM))] H := hP
      have hD : va_D A [(rd, .inr (6, fs_rd)), (tp, .inr (9, fs_tp)), (ba, .inl (cB, 900, .inl fb)), (ra, .inr (5, [.long u0, .long w0])), (li, .inr (3, fs_li)), (ho, .inr (4, fs_ho)), (dr, .inr (3, fs_dr)), (hd, .inr (4, fs_hd)), (mb, .inl (cM, 900, .inl fM))] := hD
      have er_42 : r_42 = (-1) := hw
      subst er_42
      refine lv_icmp_eq (tgt := 1893) hx hb dL_law_347 (by decide) (fun c_43 => ?_) (fun c_43 => ?_)
      · refine lv_iinc (v := 6) (lv' := [(4, .int 6), (3, .ref lo), (2, .ref mm), (1, .ref x), (0, .ref b)]) hx hb dL_law_1893 hl (k := 0) rfl (by decide) (by decide) rfl (fun ls hl => ?_)
        refine lv_goto (tgt := 23) hx hb dL_law_1896 (by decide) ?_
        refine lv_iload hx hb dL_law_23 (lv_at hl 0 rfl) ?_
        refine lv_aload_n hx hb dL_law_25 rfl (lv_at hl 4 rfl) ?_
        refine va_slen hx hb hX hbl hbA hS dL_law_26 ?_
        refine lv_topi (fun z_45 ez_45 => ?_)
        obtain rfl : z_45 = 6 := ez_45.trans rfl
        refine lv_bipush (v := 6) hx hb dL_law_27 (by decide) ?_
        refine lv_isub hx hb dL_law_29 ?_
        refine lv_topi (fun z_46 ez_46 => ?_)
        obtain rfl : z_46 = 0 := ez_46.trans (by decide)
        refine lv_icmp_gt (tgt := 1899) hx hb dL_law_30 (by decide) (fun c_47 => ?_) (fun c_47 => ?_)
        · refine lv_iconst (v := 1) hx hb dL_law_1899 (by decide) ?_
          refine va_forget (fun q hq => by have h9 := hS.2.2 q hq; rw [← hAe] at h9; exact h9) ?_
          refine W.widen (k := 600002) (n := 7302232) (Nat.le_of_ble_eq_true rfl) (Nat.le_of_ble_eq_true rfl) ?_
          exact lw_ret hd0 hx hb hr hlocks dL_law_1900
        · exact absurd (by decide) c_47
      · exact absurd (by decide) c_43
    by_cases c_48 : ((xs (0 : Int32).toNatClampNeg) &&& 63) = 4
    · refine lv_tableIn (tgt := 352) hx hb dL_law_40 (by rw [c_48]; decide) (by rw [c_48]; decide) (by rw [c_48]; rfl) (by decide) ?_
      refine lv_aload_n hx hb dL_law_352 rfl (lv_at hl 3 rfl) ?_
      refine lv_aload_n hx hb dL_law_353 rfl (lv_at hl 4 rfl) ?_
      refine lv_iload hx hb dL_law_354 (lv_at hl 0 rfl) ?_
      refine lv_iconst (v := 1) hx hb dL_law_356 (by decide) ?_
      refine lv_iadd hx hb dL_law_357 ?_
      refine lv_topi (fun z_49 ez_49 => ?_)
      obtain rfl : z_49 = 1 := ez_49.trans (by decide)
      refine va_sld hx hb hX hbl hbA hS (vp_in_nI (n := 1) (by decide) (by decide)) dL_law_358 ?_
      refine lv_aload_n hx hb dL_law_359 rfl (lv_at hl 4 rfl) ?_
      refine lv_iload hx hb dL_law_360 (lv_at hl 0 rfl) ?_
      refine lv_iconst (v := 2) hx hb dL_law_362 (by decide) ?_
      refine lv_iadd hx hb dL_law_363 ?_
      refine lv_topi (fun z_50 ez_50 => ?_)
      obtain rfl : z_50 = 2 := ez_50.trans (by decide)
      refine va_sld hx hb hX hbl hbA hS (vp_in_nI (n := 2) (by decide) (by decide)) dL_law_364 ?_
      have hPc := hP.sub (ws' := [(x, .inr (10, fs_x))]) [0] rfl
      have hDc := hD.sub (ws' := [(x, .inr (10, fs_x))]) [0] (by decide) rfl
      have hKc := hK.sub (tys' := []) [] rfl
      have hFc := va_free (wc := [(x, .inr (10, fs_x))]) hD hS hA [0] rfl
      refine va_calli (va_runV (As := [.int (xs (1 : Int32).toNatClampNeg), .int (xs (2 : Int32).toNatClampNeg)]) (rest := []) ⟨hx, hb, hml, hown, hts⟩ (k_X11_days l dC dI H.size x fs_x (xs (1 : Int32).toNatClampNeg) (xs (2 : Int32).toNatClampNeg) hn_x) (cwV 2 hts gL0_X11_days rfl rfl rfl (by decide +kernel) ⟨Nat.le_of_ble_eq_true rfl, Nat.le_of_ble_eq_true rfl⟩) ⟨fun a U g mk q => by obtain ⟨q0, q1, qP, qK, qD⟩ := q; exact ⟨q0, q1, qP, va_K.moved (u := U) (U := U.calling g mk a) (Vm.Alike.refl U.vm) qK, qD⟩, va_recv hKc hPc (ci := 10) (q0 := 0) rfl rfl, fun U hU hW => ⟨rfl, by rw [hU], by rw [hU]; exact hPc, va_K.moved hW.alike hKc, hDc.weaken (fun _ _ _ _ => trivial)⟩⟩ rfl rfl hl.1 rfl (lv_room (Nat.le_of_ble_eq_true rfl)) dL_law_365 ⟨Nat.le_of_ble_eq_true rfl, Nat.le_of_ble_eq_true rfl⟩) hS (fun q _ h => hFc q h) hFc (fun r_51 u t H1 locs ht hvm hw hB hz1 hk1 hS => ?_)
      obtain ⟨hP1, hK1, hD1⟩ := hB
      rw [ht] at hP1
      have hK1 := va_K.moved hvm.symm hK1
      obtain ⟨hP, hD⟩ := va_join (wr := [(rd, .inr (6, fs_rd)), (tp, .inr (9, fs_tp)), (ba, .inl (cB, 900, .inl fb)), (ra, .inr (5, [.long u0, .long w0])), (li, .inr (3, fs_li)), (ho, .inr (4, fs_ho)), (dr, .inr (3, fs_dr)), (hd, .inr (4, fs_hd)), (mm, .inr (11, fs_mm)), (mb, .inl (cM, 900, .inl fM))]) (w1 := []) hP hD [0] [1, 2, 3, 4, 5, 6, 7, 8, 9, 10] rfl rfl (by decide) (by decide) hk1 hFc hP1 hD1
      generalize H1 = H at hP hS ⊢
      have hP : va_P (dC, dI) vwCl [(rd, .inr (6, fs_rd)), (tp, .inr (9, fs_tp)), (ba, .inl (cB, 900, .inl fb)), (ra, .inr (5, [.long u0, .long w0])), (li, .inr (3, fs_li)), (ho, .inr (4, fs_ho)), (dr, .inr (3, fs_dr)), (hd, .inr (4, fs_hd)), (mm, .inr (11, fs_mm)), (mb, .inl (cM, 900, .inl fM))] H := hP
      have hD : va_D A [(rd, .inr (6, fs_rd)), (tp, .inr (9, fs_tp)), (ba, .inl (cB, 900, .inl fb)), (ra, .inr (5, [.long u0, .long w0])), (li, .inr (3, fs_li)), (ho, .inr (4, fs_ho)), (dr, .inr (3, fs_dr)), (hd, .inr (4, fs_hd)), (mm, .inr (11, fs_mm)), (mb, .inl (cM, 900, .inl fM))] := hD
      have er_51 : r_51 = f_X11_days (xs (1 : Int32).toNatClampNeg) (xs (2 : Int32).toNatClampNeg) := hw
      refine lv_aload_n hx hb dL_law_368 rfl (lv_at hl 2 rfl) ?_
      refine lv_aload_n hx hb dL_law_369 rfl (lv_at hl 4 rfl) ?_
      refine lv_iload hx hb dL_law_370 (lv_at hl 0 rfl) ?_
      refine lv_iconst (v := 1) hx hb dL_law_372 (by decide) ?_
      refine lv_iadd hx hb dL_law_373 ?_
      refine lv_topi (fun z_52 ez_52 => ?_)
      obtain rfl : z_52 = 1 := ez_52.trans (by decide)
      refine va_sld hx hb hX hbl hbA hS (vp_in_nI (n := 1) (by decide) (by decide)) dL_law_374 ?_
      refine lv_aload_n hx hb dL_law_375 rfl (lv_at hl 4 rfl) ?_
      refine lv_iload hx hb dL_law_376 (lv_at hl 0 rfl) ?_
      refine lv_iconst (v := 2) hx hb dL_law_378 (by decide) ?_
      refine lv_iadd hx hb dL_law_379 ?_
      refine lv_topi (fun z_53 ez_53 => ?_)
      obtain rfl : z_53 = 2 := ez_53.trans (by decide)
      refine va_sld hx hb hX hbl hbA hS (vp_in_nI (n := 2) (by decide) (by decide)) dL_law_380 ?_
      have hPc := hP.sub (ws' := [(mm, .inr (11, fs_mm))]) [8] rfl
      have hDc := hD.sub (ws' := [(mm, .inr (11, fs_mm))]) [8] (by decide) rfl
      have hKc := hK.sub (tys' := []) [] rfl
      have hFc := va_free (wc := [(mm, .inr (11, fs_mm))]) hD hS hA [8] rfl
      refine va_calli (va_runV (As := [.int (xs (1 : Int32).toNatClampNeg), .int (xs (2 : Int32).toNatClampNeg)]) (rest := [.int r_51]) ⟨hx, hb, hml, hown, hts⟩ (k_X12_days l dC dI H.size mm fs_mm (xs (1 : Int32).toNatClampNeg) (xs (2 : Int32).toNatClampNeg) hn_mm) (cwV 2 hts gL0_X12_days rfl rfl rfl (by decide +kernel) ⟨Nat.le_of_ble_eq_true rfl, Nat.le_of_ble_eq_true rfl⟩) ⟨fun a U g mk q => by obtain ⟨q0, q1, qP, qK, qD⟩ := q; exact ⟨q0, q1, qP, va_K.moved (u := U) (U := U.calling g mk a) (Vm.Alike.refl U.vm) qK, qD⟩, va_recv hKc hPc (ci := 11) (q0 := 0) rfl rfl, fun U hU hW => ⟨rfl, by rw [hU], by rw [hU]; exact hPc, va_K.moved hW.alike hKc, hDc.weaken (fun _ _ _ _ => trivial)⟩⟩ rfl rfl hl.1 rfl (lv_room (Nat.le_of_ble_eq_true rfl)) dL_law_381 ⟨Nat.le_of_ble_eq_true rfl, Nat.le_of_ble_eq_true rfl⟩) hS (fun q _ h => hFc q h) hFc (fun r_54 u t H1 locs ht hvm hw hB hz1 hk1 hS => ?_)
      obtain ⟨hP1, hK1, hD1⟩ := hB
      rw [ht] at hP1
      have hK1 := va_K.moved hvm.symm hK1
      obtain ⟨hP, hD⟩ := va_join (wr := [(rd, .inr (6, fs_rd)), (tp, .inr (9, fs_tp)), (ba, .inl (cB, 900, .inl fb)), (ra, .inr (5, [.long u0, .long w0])), (li, .inr (3, fs_li)), (ho, .inr (4, fs_ho)), (dr, .inr (3, fs_dr)), (hd, .inr (4, fs_hd)), (mb, .inl (cM, 900, .inl fM))]) (w1 := []) hP hD [8] [0, 1, 2, 3, 4, 5, 6, 7, 9] rfl rfl (by decide) (by decide) hk1 hFc hP1 hD1
      generalize H1 = H at hP hS ⊢
      have hP : va_P (dC, dI) vwCl [(rd, .inr (6, fs_rd)), (tp, .inr (9, fs_tp)), (ba, .inl (cB, 900, .inl fb)), (ra, .inr (5, [.long u0, .long w0])), (li, .inr (3, fs_li)), (ho, .inr (4, fs_ho)), (dr, .inr (3, fs_dr)), (hd, .inr (4, fs_hd)), (mb, .inl (cM, 900, .inl fM))] H := hP
      have hD : va_D A [(rd, .inr (6, fs_rd)), (tp, .inr (9, fs_tp)), (ba, .inl (cB, 900, .inl fb)), (ra, .inr (5, [.long u0, .long w0])), (li, .inr (3, fs_li)), (ho, .inr (4, fs_ho)), (dr, .inr (3, fs_dr)), (hd, .inr (4, fs_hd)), (mb, .inl (cM, 900, .inl fM))] := hD
      have er_54 : r_54 = f_X12_days (xs (1 : Int32).toNatClampNeg) (xs (2 : Int32).toNatClampNeg) := hw
      refine lv_icmp_eq (tgt := 1893) hx hb dL_law_384 (by decide) (fun c_55 => ?_) (fun c_55 => ?_)
      · refine lv_iinc (v := 6) (lv' := [(4, .int 6), (3, .ref lo), (2, .ref mm), (1, .ref x), (0, .ref b)]) hx hb dL_law_1893 hl (k := 0) rfl (by decide) (by decide) rfl (fun ls hl => ?_)
        refine lv_goto (tgt := 23) hx hb dL_law_1896 (by decide) ?_
        refine lv_iload hx hb dL_law_23 (lv_at hl 0 rfl) ?_
        refine lv_aload_n hx hb dL_law_25 rfl (lv_at hl 4 rfl) ?_
        refine va_slen hx hb hX hbl hbA hS dL_law_26 ?_
        refine lv_topi (fun z_57 ez_57 => ?_)
        obtain rfl : z_57 = 6 := ez_57.trans rfl
        refine lv_bipush (v := 6) hx hb dL_law_27 (by decide) ?_
        refine lv_isub hx hb dL_law_29 ?_
        refine lv_topi (fun z_58 ez_58 => ?_)
        obtain rfl : z_58 = 0 := ez_58.trans (by decide)
        refine lv_icmp_gt (tgt := 1899) hx hb dL_law_30 (by decide) (fun c_59 => ?_) (fun c_59 => ?_)
        · refine lv_iconst (v := 1) hx hb dL_law_1899 (by decide) ?_
          refine va_forget (fun q hq => by have h9 := hS.2.2 q hq; rw [← hAe] at h9; exact h9) ?_
          refine W.widen (k := 600002) (n := 7302232) (Nat.le_of_ble_eq_true rfl) (Nat.le_of_ble_eq_true rfl) ?_
          exact lw_ret hd0 hx hb hr hlocks dL_law_1900
        · exact absurd (by decide) c_59
      · exact absurd (er_51.trans ((q_days _ _).trans er_54.symm)) c_55
    by_cases c_60 : ((xs (0 : Int32).toNatClampNeg) &&& 63) = 5
    · refine lv_tableIn (tgt := 389) hx hb dL_law_40 (by rw [c_60]; decide) (by rw [c_60]; decide) (by rw [c_60]; rfl) (by decide) ?_
      refine lv_aload_n hx hb dL_law_389 rfl (lv_at hl 3 rfl) ?_
      refine lv_aload_n hx hb dL_law_390 rfl (lv_at hl 4 rfl) ?_
      refine lv_iload hx hb dL_law_391 (lv_at hl 0 rfl) ?_
      refine lv_iconst (v := 1) hx hb dL_law_393 (by decide) ?_
      refine lv_iadd hx hb dL_law_394 ?_
      refine lv_topi (fun z_61 ez_61 => ?_)
      obtain rfl : z_61 = 1 := ez_61.trans (by decide)
      refine va_sld hx hb hX hbl hbA hS (vp_in_nI (n := 1) (by decide) (by decide)) dL_law_395 ?_
      have hPc := hP.sub (ws' := [(x, .inr (10, fs_x))]) [0] rfl
      have hDc := hD.sub (ws' := [(x, .inr (10, fs_x))]) [0] (by decide) rfl
      have hKc := hK.sub (tys' := []) [] rfl
      have hFc := va_free (wc := [(x, .inr (10, fs_x))]) hD hS hA [0] rfl
      refine va_calli (va_runV (As := [.int (xs (1 : Int32).toNatClampNeg)]) (rest := []) ⟨hx, hb, hml, hown, hts⟩ (k_X11_weekday l dC dI H.size x fs_x (xs (1 : Int32).toNatClampNeg) hn_x) (cwV 1 hts gL0_X11_weekday rfl rfl rfl (by decide +kernel) ⟨Nat.le_of_ble_eq_true rfl, Nat.le_of_ble_eq_true rfl⟩) ⟨fun a U g mk q => by obtain ⟨q0, q1, qP, qK, qD⟩ := q; exact ⟨q0, q1, qP, va_K.moved (u := U) (U := U.calling g mk a) (Vm.Alike.refl U.vm) qK, qD⟩, va_recv hKc hPc (ci := 10) (q0 := 0) rfl rfl, fun U hU hW => ⟨rfl, by rw [hU], by rw [hU]; exact hPc, va_K.moved hW.alike hKc, hDc.weaken (fun _ _ _ _ => trivial)⟩⟩ rfl rfl hl.1 rfl (lv_room (Nat.le_of_ble_eq_true rfl)) dL_law_396 ⟨Nat.le_of_ble_eq_true rfl, Nat.le_of_ble_eq_true rfl⟩) hS (fun q _ h => hFc q h) hFc (fun r_62 u t H1 locs ht hvm hw hB hz1 hk1 hS => ?_)
      obtain ⟨hP1, hK1, hD1⟩ := hB
      rw [ht] at hP1
      have hK1 := va_K.moved hvm.symm hK1
      obtain ⟨hP, hD⟩ := va_join (wr := [(rd, .inr (6, fs_rd)), (tp, .inr (9, fs_tp)), (ba, .inl (cB, 900, .inl fb)), (ra, .inr (5, [.long u0, .long w0])), (li, .inr (3, fs_li)), (ho, .inr (4, fs_ho)), (dr, .inr (3, fs_dr)), (hd, .inr (4, fs_hd)), (mm, .inr (11, fs_mm)), (mb, .inl (cM, 900, .inl fM))]) (w1 := []) hP hD [0] [1, 2, 3, 4, 5, 6, 7, 8, 9, 10] rfl rfl (by decide) (by decide) hk1 hFc hP1 hD1
      generalize H1 = H at hP hS ⊢
      have hP : va_P (dC, dI) vwCl [(rd, .inr (6, fs_rd)), (tp, .inr (9, fs_tp)), (ba, .inl (cB, 900, .inl fb)), (ra, .inr (5, [.long u0, .long w0])), (li, .inr (3, fs_li)), (ho, .inr (4, fs_ho)), (dr, .inr (3, fs_dr)), (hd, .inr (4, fs_hd)), (mm, .inr (11, fs_mm)), (mb, .inl (cM, 900, .inl fM))] H := hP
      have hD : va_D A [(rd, .inr (6, fs_rd)), (tp, .inr (9, fs_tp)), (ba, .inl (cB, 900, .inl fb)), (ra, .inr (5, [.long u0, .long w0])), (li, .inr (3, fs_li)), (ho, .inr (4, fs_ho)), (dr, .inr (3, fs_dr)), (hd, .inr (4, fs_hd)), (mm, .inr (11, fs_mm)), (mb, .inl (cM, 900, .inl fM))] := hD
      have er_62 : r_62 = f_X11_weekday (xs (1 : Int32).toNatClampNeg) := hw
      refine lv_aload_n hx hb dL_law_399 rfl (lv_at hl 2 rfl) ?_
      refine lv_aload_n hx hb dL_law_400 rfl (lv_at hl 4 rfl) ?_
      refine lv_iload hx hb dL_law_401 (lv_at hl 0 rfl) ?_
      refine lv_iconst (v := 1) hx hb dL_law_403 (by decide) ?_
      refine lv_iadd hx hb dL_law_404 ?_
      refine lv_topi (fun z_63 ez_63 => ?_)
      obtain rfl : z_63 = 1 := ez_63.trans (by decide)
      refine va_sld hx hb hX hbl hbA hS (vp_in_nI (n := 1) (by decide) (by decide)) dL_law_405 ?_
      have hPc := hP.sub (ws' := [(mm, .inr (11, fs_mm))]) [8] rfl
      have hDc := hD.sub (ws' := [(mm, .inr (11, fs_mm))]) [8] (by decide) rfl
      have hKc := hK.sub (tys' := []) [] rfl
      have hFc := va_free (wc := [(mm, .inr (11, fs_mm))]) hD hS hA [8] rfl
      refine va_calli (va_runV (As := [.int (xs (1 : Int32).toNatClampNeg)]) (rest := [.int r_62]) ⟨hx, hb, hml, hown, hts⟩ (k_X12_weekday l dC dI H.size mm fs_mm (xs (1 : Int32).toNatClampNeg) hn_mm) (cwV 1 hts gL0_X12_weekday rfl rfl rfl (by decide +kernel) ⟨Nat.le_of_ble_eq_true rfl, Nat.le_of_ble_eq_true rfl⟩) ⟨fun a U g mk q => by obtain ⟨q0, q1, qP, qK, qD⟩ := q; exact ⟨q0, q1, qP, va_K.moved (u := U) (U := U.calling g mk a) (Vm.Alike.refl U.vm) qK, qD⟩, va_recv hKc hPc (ci := 11) (q0 := 0) rfl rfl, fun U hU hW => ⟨rfl, by rw [hU], by rw [hU]; exact hPc, va_K.moved hW.alike hKc, hDc.weaken (fun _ _ _ _ => trivial)⟩⟩ rfl rfl hl.1 rfl (lv_room (Nat.le_of_ble_eq_true rfl)) dL_law_406 ⟨Nat.le_of_ble_eq_true rfl, Nat.le_of_ble_eq_true rfl⟩) hS (fun q _ h => hFc q h) hFc (fun r_64 u t H1 locs ht hvm hw hB hz1 hk1 hS => ?_)
      obtain ⟨hP1, hK1, hD1⟩ := hB
      rw [ht] at hP1
      have hK1 := va_K.moved hvm.symm hK1
      obtain ⟨hP, hD⟩ := va_join (wr := [(rd, .inr (6, fs_rd)), (tp, .inr (9, fs_tp)), (ba, .inl (cB, 900, .inl fb)), (ra, .inr (5, [.long u0, .long w0])), (li, .inr (3, fs_li)), (ho, .inr (4, fs_ho)), (dr, .inr (3, fs_dr)), (hd, .inr (4, fs_hd)), (mb, .inl (cM, 900, .inl fM))]) (w1 := []) hP hD [8] [0, 1, 2, 3, 4, 5, 6, 7, 9] rfl rfl (by decide) (by decide) hk1 hFc hP1 hD1
      generalize H1 = H at hP hS ⊢
      have hP : va_P (dC, dI) vwCl [(rd, .inr (6, fs_rd)), (tp, .inr (9, fs_tp)), (ba, .inl (cB, 900, .inl fb)), (ra, .inr (5, [.long u0, .long w0])), (li, .inr (3, fs_li)), (ho, .inr (4, fs_ho)), (dr, .inr (3, fs_dr)), (hd, .inr (4, fs_hd)), (mb, .inl (cM, 900, .inl fM))] H := hP
      have hD : va_D A [(rd, .inr (6, fs_rd)), (tp, .inr (9, fs_tp)), (ba, .inl (cB, 900, .inl fb)), (ra, .inr (5, [.long u0, .long w0])), (li, .inr (3, fs_li)), (ho, .inr (4, fs_ho)), (dr, .inr (3, fs_dr)), (hd, .inr (4, fs_hd)), (mb, .inl (cM, 900, .inl fM))] := hD
      have er_64 : r_64 = f_X12_weekday (xs (1 : Int32).toNatClampNeg) := hw
      refine lv_icmp_eq (tgt := 1893) hx hb dL_law_409 (by decide) (fun c_65 => ?_) (fun c_65 => ?_)
      · refine lv_iinc (v := 6) (lv' := [(4, .int 6), (3, .ref lo), (2, .ref mm), (1, .ref x), (0, .ref b)]) hx hb dL_law_1893 hl (k := 0) rfl (by decide) (by decide) rfl (fun ls hl => ?_)
        refine lv_goto (tgt := 23) hx hb dL_law_1896 (by decide) ?_
        refine lv_iload hx hb dL_law_23 (lv_at hl 0 rfl) ?_
        refine lv_aload_n hx hb dL_law_25 rfl (lv_at hl 4 rfl) ?_
        refine va_slen hx hb hX hbl hbA hS dL_law_26 ?_
        refine lv_topi (fun z_67 ez_67 => ?_)
        obtain rfl : z_67 = 6 := ez_67.trans rfl
        refine lv_bipush (v := 6) hx hb dL_law_27 (by decide) ?_
        refine lv_isub hx hb dL_law_29 ?_
        refine lv_topi (fun z_68 ez_68 => ?_)
        obtain rfl : z_68 = 0 := ez_68.trans (by decide)
        refine lv_icmp_gt (tgt := 1899) hx hb dL_law_30 (by decide) (fun c_69 => ?_) (fun c_69 => ?_)
        · refine lv_iconst (v := 1) hx hb dL_law_1899 (by decide) ?_
          refine va_forget (fun q hq => by have h9 := hS.2.2 q hq; rw [← hAe] at h9; exact h9) ?_
          refine W.widen (k := 600002) (n := 7302232) (Nat.le_of_ble_eq_true rfl) (Nat.le_of_ble_eq_true rfl) ?_
          exact lw_ret hd0 hx hb hr hlocks dL_law_1900
        · exact absurd (by decide) c_69
      · exact absurd (er_62.trans ((q_weekday _).trans er_64.symm)) c_65
    by_cases c_70 : ((xs (0 : Int32).toNatClampNeg) &&& 63) = 6
    · refine lv_tableIn (tgt := 414) hx hb dL_law_40 (by rw [c_70]; decide) (by rw [c_70]; decide) (by rw [c_70]; rfl) (by decide) ?_
      refine lv_aload_n hx hb dL_law_414 rfl (lv_at hl 3 rfl) ?_
      refine lv_aload_n hx hb dL_law_415 rfl (lv_at hl 4 rfl) ?_
      refine lv_iload hx hb dL_law_416 (lv_at hl 0 rfl) ?_
      refine lv_iconst (v := 1) hx hb dL_law_418 (by decide) ?_
      refine lv_iadd hx hb dL_law_419 ?_
      refine lv_topi (fun z_71 ez_71 => ?_)
      obtain rfl : z_71 = 1 := ez_71.trans (by decide)
      refine va_sld hx hb hX hbl hbA hS (vp_in_nI (n := 1) (by decide) (by decide)) dL_law_420 ?_
      refine lv_aload_n hx hb dL_law_421 rfl (lv_at hl 4 rfl) ?_
      refine lv_iload hx hb dL_law_422 (lv_at hl 0 rfl) ?_
      refine lv_iconst (v := 2) hx hb dL_law_424 (by decide) ?_
      refine lv_iadd hx hb dL_law_425 ?_
      refine lv_topi (fun z_72 ez_72 => ?_)
      obtain rfl : z_72 = 2 := ez_72.trans (by decide)
      refine va_sld hx hb hX hbl hbA hS (vp_in_nI (n := 2) (by decide) (by decide)) dL_law_426 ?_
      refine lv_aload_n hx hb dL_law_427 rfl (lv_at hl 4 rfl) ?_
      refine lv_iload hx hb dL_law_428 (lv_at hl 0 rfl) ?_
      refine lv_iconst (v := 3) hx hb dL_law_430 (by decide) ?_
      refine lv_iadd hx hb dL_law_431 ?_
      refine lv_topi (fun z_73 ez_73 => ?_)
      obtain rfl : z_73 = 3 := ez_73.trans (by decide)
      refine va_sld hx hb hX hbl hbA hS (vp_in_nI (n := 3) (by decide) (by decide)) dL_law_432 ?_
      refine lv_if_eq (tgt := 440) hx hb dL_law_433 (by decide) (fun c_74 => ?_) (fun c_74 => ?_)
      · refine lv_iconst (v := 0) hx hb dL_law_440 (by decide) ?_
        have hPc := hP.sub (ws' := [(x, .inr (10, fs_x))]) [0] rfl
        have hDc := hD.sub (ws' := [(x, .inr (10, fs_x))]) [0] (by decide) rfl
        have hKc := hK.sub (tys' := []) [] rfl
        have hFc := va_free (wc := [(x, .inr (10, fs_x))]) hD hS hA [0] rfl
        refine va_calli (va_runV (As := [.int (xs (1 : Int32).toNatClampNeg), .int (xs (2 : Int32).toNatClampNeg), .int 0]) (rest := []) ⟨hx, hb, hml, hown, hts⟩ (k_X11_months l dC dI H.size x fs_x (xs (1 : Int32).toNatClampNeg) (xs (2 : Int32).toNatClampNeg) 0 hn_x) (cwV 3 hts gL0_X11_months rfl rfl rfl (by decide +kernel) ⟨Nat.le_of_ble_eq_true rfl, Nat.le_of_ble_eq_true rfl⟩) ⟨fun a U g mk q => by obtain ⟨q0, q1, qP, qK, qD⟩ := q; exact ⟨q0, q1, qP, va_K.moved (u := U) (U := U.calling g mk a) (Vm.Alike.refl U.vm) qK, qD⟩, va_recv hKc hPc (ci := 10) (q0 := 0) rfl rfl, fun U hU hW => ⟨rfl, by rw [hU], by rw [hU]; exact hPc, va_K.moved hW.alike hKc, hDc.weaken (fun _ _ _ _ => trivial)⟩⟩ rfl rfl hl.1 rfl (lv_room (Nat.le_of_ble_eq_true rfl)) dL_law_441 ⟨Nat.le_of_ble_eq_true rfl, Nat.le_of_ble_eq_true rfl⟩) hS (fun q _ h => hFc q h) hFc (fun r_75 u t H1 locs ht hvm hw hB hz1 hk1 hS => ?_)
        obtain ⟨hP1, hK1, hD1⟩ := hB
        rw [ht] at hP1
        have hK1 := va_K.moved hvm.symm hK1
        obtain ⟨hP, hD⟩ := va_join (wr := [(rd, .inr (6, fs_rd)), (tp, .inr (9, fs_tp)), (ba, .inl (cB, 900, .inl fb)), (ra, .inr (5, [.long u0, .long w0])), (li, .inr (3, fs_li)), (ho, .inr (4, fs_ho)), (dr, .inr (3, fs_dr)), (hd, .inr (4, fs_hd)), (mm, .inr (11, fs_mm)), (mb, .inl (cM, 900, .inl fM))]) (w1 := []) hP hD [0] [1, 2, 3, 4, 5, 6, 7, 8, 9, 10] rfl rfl (by decide) (by decide) hk1 hFc hP1 hD1
        generalize H1 = H at hP hS ⊢
        have hP : va_P (dC, dI) vwCl [(rd, .inr (6, fs_rd)), (tp, .inr (9, fs_tp)), (ba, .inl (cB, 900, .inl fb)), (ra, .inr (5, [.long u0, .long w0])), (li, .inr (3, fs_li)), (ho, .inr (4, fs_ho)), (dr, .inr (3, fs_dr)), (hd, .inr (4, fs_hd)), (mm, .inr (11, fs_mm)), (mb, .inl (cM, 900, .inl fM))] H := hP
        have hD : va_D A [(rd, .inr (6, fs_rd)), (tp, .inr (9, fs_tp)), (ba, .inl (cB, 900, .inl fb)), (ra, .inr (5, [.long u0, .long w0])), (li, .inr (3, fs_li)), (ho, .inr (4, fs_ho)), (dr, .inr (3, fs_dr)), (hd, .inr (4, fs_hd)), (mm, .inr (11, fs_mm)), (mb, .inl (cM, 900, .inl fM))] := hD
        have er_75 : r_75 = f_X11_months (xs (1 : Int32).toNatClampNeg) (xs (2 : Int32).toNatClampNeg) 0 := hw
        refine lv_aload_n hx hb dL_law_444 rfl (lv_at hl 2 rfl) ?_
        refine lv_aload_n hx hb dL_law_445 rfl (lv_at hl 4 rfl) ?_
        refine lv_iload hx hb dL_law_446 (lv_at hl 0 rfl) ?_
        refine lv_iconst (v := 1) hx hb dL_law_448 (by decide) ?_
        refine lv_iadd hx hb dL_law_449 ?_
        refine lv_topi (fun z_76 ez_76 => ?_)
        obtain rfl : z_76 = 1 := ez_76.trans (by decide)
        refine va_sld hx hb hX hbl hbA hS (vp_in_nI (n := 1) (by decide) (by decide)) dL_law_450 ?_
        refine lv_aload_n hx hb dL_law_451 rfl (lv_at hl 4 rfl) ?_
        refine lv_iload hx hb dL_law_452 (lv_at hl 0 rfl) ?_
        refine lv_iconst (v := 2) hx hb dL_law_454 (by decide) ?_
        refine lv_iadd hx hb dL_law_455 ?_
        refine lv_topi (fun z_77 ez_77 => ?_)
        obtain rfl : z_77 = 2 := ez_77.trans (by decide)
        refine va_sld hx hb hX hbl hbA hS (vp_in_nI (n := 2) (by decide) (by decide)) dL_law_456 ?_
        refine lv_aload_n hx hb dL_law_457 rfl (lv_at hl 4 rfl) ?_
        refine lv_iload hx hb dL_law_458 (lv_at hl 0 rfl) ?_
        refine lv_iconst (v := 3) hx hb dL_law_460 (by decide) ?_
        refine lv_iadd hx hb dL_law_461 ?_
        refine lv_topi (fun z_78 ez_78 => ?_)
        obtain rfl : z_78 = 3 := ez_78.trans (by decide)
        refine va_sld hx hb hX hbl hbA hS (vp_in_nI (n := 3) (by decide) (by decide)) dL_law_462 ?_
        refine lv_if_eq (tgt := 470) hx hb dL_law_463 (by decide) (fun c_79 => ?_) (fun c_79 => ?_)
        · refine lv_iconst (v := 0) hx hb dL_law_470 (by decide) ?_
          have hPc := hP.sub (ws' := [(mm, .inr (11, fs_mm))]) [8] rfl
          have hDc := hD.sub (ws' := [(mm, .inr (11, fs_mm))]) [8] (by decide) rfl
          have hKc := hK.sub (tys' := []) [] rfl
          have hFc := va_free (wc := [(mm, .inr (11, fs_mm))]) hD hS hA [8] rfl
          refine va_calli (va_runV (As := [.int (xs (1 : Int32).toNatClampNeg), .int (xs (2 : Int32).toNatClampNeg), .int 0]) (rest := [.int r_75]) ⟨hx, hb, hml, hown, hts⟩ (k_X12_months l dC dI H.size mm fs_mm (xs (1 : Int32).toNatClampNeg) (xs (2 : Int32).toNatClampNeg) 0 hn_mm) (cwV 3 hts gL0_X12_months rfl rfl rfl (by decide +kernel) ⟨Nat.le_of_ble_eq_true rfl, Nat.le_of_ble_eq_true rfl⟩) ⟨fun a U g mk q => by obtain ⟨q0, q1, qP, qK, qD⟩ := q; exact ⟨q0, q1, qP, va_K.moved (u := U) (U := U.calling g mk a) (Vm.Alike.refl U.vm) qK, qD⟩, va_recv hKc hPc (ci := 11) (q0 := 0) rfl rfl, fun U hU hW => ⟨rfl, by rw [hU], by rw [hU]; exact hPc, va_K.moved hW.alike hKc, hDc.weaken (fun _ _ _ _ => trivial)⟩⟩ rfl rfl hl.1 rfl (lv_room (Nat.le_of_ble_eq_true rfl)) dL_law_471 ⟨Nat.le_of_ble_eq_true rfl, Nat.le_of_ble_eq_true rfl⟩) hS (fun q _ h => hFc q h) hFc (fun r_80 u t H1 locs ht hvm hw hB hz1 hk1 hS => ?_)
          obtain ⟨hP1, hK1, hD1⟩ := hB
          rw [ht] at hP1
          have hK1 := va_K.moved hvm.symm hK1
          obtain ⟨hP, hD⟩ := va_join (wr := [(rd, .inr (6, fs_rd)), (tp, .inr (9, fs_tp)), (ba, .inl (cB, 900, .inl fb)), (ra, .inr (5, [.long u0, .long w0])), (li, .inr (3, fs_li)), (ho, .inr (4, fs_ho)), (dr, .inr (3, fs_dr)), (hd, .inr (4, fs_hd)), (mb, .inl (cM, 900, .inl fM))]) (w1 := []) hP hD [8] [0, 1, 2, 3, 4, 5, 6, 7, 9] rfl rfl (by decide) (by decide) hk1 hFc hP1 hD1
          generalize H1 = H at hP hS ⊢
          have hP : va_P (dC, dI) vwCl [(rd, .inr (6, fs_rd)), (tp, .inr (9, fs_tp)), (ba, .inl (cB, 900, .inl fb)), (ra, .inr (5, [.long u0, .long w0])), (li, .inr (3, fs_li)), (ho, .inr (4, fs_ho)), (dr, .inr (3, fs_dr)), (hd, .inr (4, fs_hd)), (mb, .inl (cM, 900, .inl fM))] H := hP
          have hD : va_D A [(rd, .inr (6, fs_rd)), (tp, .inr (9, fs_tp)), (ba, .inl (cB, 900, .inl fb)), (ra, .inr (5, [.long u0, .long w0])), (li, .inr (3, fs_li)), (ho, .inr (4, fs_ho)), (dr, .inr (3, fs_dr)), (hd, .inr (4, fs_hd)), (mb, .inl (cM, 900, .inl fM))] := hD
          have er_80 : r_80 = f_X12_months (xs (1 : Int32).toNatClampNeg) (xs (2 : Int32).toNatClampNeg) 0 := hw
          refine lv_icmp_eq (tgt := 1893) hx hb dL_law_474 (by decide) (fun c_81 => ?_) (fun c_81 => ?_)
          · refine lv_iinc (v := 6) (lv' := [(4, .int 6), (3, .ref lo), (2, .ref mm), (1, .ref x), (0, .ref b)]) hx hb dL_law_1893 hl (k := 0) rfl (by decide) (by decide) rfl (fun ls hl => ?_)
            refine lv_goto (tgt := 23) hx hb dL_law_1896 (by decide) ?_
            refine lv_iload hx hb dL_law_23 (lv_at hl 0 rfl) ?_
            refine lv_aload_n hx hb dL_law_25 rfl (lv_at hl 4 rfl) ?_
            refine va_slen hx hb hX hbl hbA hS dL_law_26 ?_
            refine lv_topi (fun z_83 ez_83 => ?_)
            obtain rfl : z_83 = 6 := ez_83.trans rfl
            refine lv_bipush (v := 6) hx hb dL_law_27 (by decide) ?_
            refine lv_isub hx hb dL_law_29 ?_
            refine lv_topi (fun z_84 ez_84 => ?_)
            obtain rfl : z_84 = 0 := ez_84.trans (by decide)
            refine lv_icmp_gt (tgt := 1899) hx hb dL_law_30 (by decide) (fun c_85 => ?_) (fun c_85 => ?_)
            · refine lv_iconst (v := 1) hx hb dL_law_1899 (by decide) ?_
              refine va_forget (fun q hq => by have h9 := hS.2.2 q hq; rw [← hAe] at h9; exact h9) ?_
              refine W.widen (k := 600002) (n := 7302232) (Nat.le_of_ble_eq_true rfl) (Nat.le_of_ble_eq_true rfl) ?_
              exact lw_ret hd0 hx hb hr hlocks dL_law_1900
            · exact absurd (by decide) c_85
          · exact absurd (er_75.trans ((q_months _ _ _).trans er_80.symm)) c_81
        · exact absurd c_74 c_79
      · refine lv_iconst (v := 1) hx hb dL_law_436 (by decide) ?_
        refine lv_goto (tgt := 441) hx hb dL_law_437 (by decide) ?_
        have hPc := hP.sub (ws' := [(x, .inr (10, fs_x))]) [0] rfl
        have hDc := hD.sub (ws' := [(x, .inr (10, fs_x))]) [0] (by decide) rfl
        have hKc := hK.sub (tys' := []) [] rfl
        have hFc := va_free (wc := [(x, .inr (10, fs_x))]) hD hS hA [0] rfl
        refine va_calli (va_runV (As := [.int (xs (1 : Int32).toNatClampNeg), .int (xs (2 : Int32).toNatClampNeg), .int 1]) (rest := []) ⟨hx, hb, hml, hown, hts⟩ (k_X11_months l dC dI H.size x fs_x (xs (1 : Int32).toNatClampNeg) (xs (2 : Int32).toNatClampNeg) 1 hn_x) (cwV 3 hts gL0_X11_months rfl rfl rfl (by decide +kernel) ⟨Nat.le_of_ble_eq_true rfl, Nat.le_of_ble_eq_true rfl⟩) ⟨fun a U g mk q => by obtain ⟨q0, q1, qP, qK, qD⟩ := q; exact ⟨q0, q1, qP, va_K.moved (u := U) (U := U.calling g mk a) (Vm.Alike.refl U.vm) qK, qD⟩, va_recv hKc hPc (ci := 10) (q0 := 0) rfl rfl, fun U hU hW => ⟨rfl, by rw [hU], by rw [hU]; exact hPc, va_K.moved hW.alike hKc, hDc.weaken (fun _ _ _ _ => trivial)⟩⟩ rfl rfl hl.1 rfl (lv_room (Nat.le_of_ble_eq_true rfl)) dL_law_441 ⟨Nat.le_of_ble_eq_true rfl, Nat.le_of_ble_eq_true rfl⟩) hS (fun q _ h => hFc q h) hFc (fun r_86 u t H1 locs ht hvm hw hB hz1 hk1 hS => ?_)
        obtain ⟨hP1, hK1, hD1⟩ := hB
        rw [ht] at hP1
        have hK1 := va_K.moved hvm.symm hK1
        obtain ⟨hP, hD⟩ := va_join (wr := [(rd, .inr (6, fs_rd)), (tp, .inr (9, fs_tp)), (ba, .inl (cB, 900, .inl fb)), (ra, .inr (5, [.long u0, .long w0])), (li, .inr (3, fs_li)), (ho, .inr (4, fs_ho)), (dr, .inr (3, fs_dr)), (hd, .inr (4, fs_hd)), (mm, .inr (11, fs_mm)), (mb, .inl (cM, 900, .inl fM))]) (w1 := []) hP hD [0] [1, 2, 3, 4, 5, 6, 7, 8, 9, 10] rfl rfl (by decide) (by decide) hk1 hFc hP1 hD1
        generalize H1 = H at hP hS ⊢
        have hP : va_P (dC, dI) vwCl [(rd, .inr (6, fs_rd)), (tp, .inr (9, fs_tp)), (ba, .inl (cB, 900, .inl fb)), (ra, .inr (5, [.long u0, .long w0])), (li, .inr (3, fs_li)), (ho, .inr (4, fs_ho)), (dr, .inr (3, fs_dr)), (hd, .inr (4, fs_hd)), (mm, .inr (11, fs_mm)), (mb, .inl (cM, 900, .inl fM))] H := hP
        have hD : va_D A [(rd, .inr (6, fs_rd)), (tp, .inr (9, fs_tp)), (ba, .inl (cB, 900, .inl fb)), (ra, .inr (5, [.long u0, .long w0])), (li, .inr (3, fs_li)), (ho, .inr (4, fs_ho)), (dr, .inr (3, fs_dr)), (hd, .inr (4, fs_hd)), (mm, .inr (11, fs_mm)), (mb, .inl (cM, 900, .inl fM))] := hD
        have er_86 : r_86 = f_X11_months (xs (1 : Int32).toNatClampNeg) (xs (2 : Int32).toNatClampNeg) 1 := hw
        refine lv_aload_n hx hb dL_law_444 rfl (lv_at hl 2 rfl) ?_
        refine lv_aload_n hx hb dL_law_445 rfl (lv_at hl 4 rfl) ?_
        refine lv_iload hx hb dL_law_446 (lv_at hl 0 rfl) ?_
        refine lv_iconst (v := 1) hx hb dL_law_448 (by decide) ?_
        refine lv_iadd hx hb dL_law_449 ?_
        refine lv_topi (fun z_87 ez_87 => ?_)
        obtain rfl : z_87 = 1 := ez_87.trans (by decide)
        refine va_sld hx hb hX hbl hbA hS (vp_in_nI (n := 1) (by decide) (by decide)) dL_law_450 ?_
        refine lv_aload_n hx hb dL_law_451 rfl (lv_at hl 4 rfl) ?_
        refine lv_iload hx hb dL_law_452 (lv_at hl 0 rfl) ?_
        refine lv_iconst (v := 2) hx hb dL_law_454 (by decide) ?_
        refine lv_iadd hx hb dL_law_455 ?_
        refine lv_topi (fun z_88 ez_88 => ?_)
        obtain rfl : z_88 = 2 := ez_88.trans (by decide)
        refine va_sld hx hb hX hbl hbA hS (vp_in_nI (n := 2) (by decide) (by decide)) dL_law_456 ?_
        refine lv_aload_n hx hb dL_law_457 rfl (lv_at hl 4 rfl) ?_
        refine lv_iload hx hb dL_law_458 (lv_at hl 0 rfl) ?_
        refine lv_iconst (v := 3) hx hb dL_law_460 (by decide) ?_
        refine lv_iadd hx hb dL_law_461 ?_
        refine lv_topi (fun z_89 ez_89 => ?_)
        obtain rfl : z_89 = 3 := ez_89.trans (by decide)
        refine va_sld hx hb hX hbl hbA hS (vp_in_nI (n := 3) (by decide) (by decide)) dL_law_462 ?_
        refine lv_if_eq (tgt := 470) hx hb dL_law_463 (by decide) (fun c_90 => ?_) (fun c_90 => ?_)
        · exact absurd c_90 c_74
        · refine lv_iconst (v := 1) hx hb dL_law_466 (by decide) ?_
          refine lv_goto (tgt := 471) hx hb dL_law_467 (by decide) ?_
          have hPc := hP.sub (ws' := [(mm, .inr (11, fs_mm))]) [8] rfl
          have hDc := hD.sub (ws' := [(mm, .inr (11, fs_mm))]) [8] (by decide) rfl
          have hKc := hK.sub (tys' := []) [] rfl
          have hFc := va_free (wc := [(mm, .inr (11, fs_mm))]) hD hS hA [8] rfl
          refine va_calli (va_runV (As := [.int (xs (1 : Int32).toNatClampNeg), .int (xs (2 : Int32).toNatClampNeg), .int 1]) (rest := [.int r_86]) ⟨hx, hb, hml, hown, hts⟩ (k_X12_months l dC dI H.size mm fs_mm (xs (1 : Int32).toNatClampNeg) (xs (2 : Int32).toNatClampNeg) 1 hn_mm) (cwV 3 hts gL0_X12_months rfl rfl rfl (by decide +kernel) ⟨Nat.le_of_ble_eq_true rfl, Nat.le_of_ble_eq_true rfl⟩) ⟨fun a U g mk q => by obtain ⟨q0, q1, qP, qK, qD⟩ := q; exact ⟨q0, q1, qP, va_K.moved (u := U) (U := U.calling g mk a) (Vm.Alike.refl U.vm) qK, qD⟩, va_recv hKc hPc (ci := 11) (q0 := 0) rfl rfl, fun U hU hW => ⟨rfl, by rw [hU], by rw [hU]; exact hPc, va_K.moved hW.alike hKc, hDc.weaken (fun _ _ _ _ => trivial)⟩⟩ rfl rfl hl.1 rfl (lv_room (Nat.le_of_ble_eq_true rfl)) dL_law_471 ⟨Nat.le_of_ble_eq_true rfl, Nat.le_of_ble_eq_true rfl⟩) hS (fun q _ h => hFc q h) hFc (fun r_91 u t H1 locs ht hvm hw hB hz1 hk1 hS => ?_)
          obtain ⟨hP1, hK1, hD1⟩ := hB
          rw [ht] at hP1
          have hK1 := va_K.moved hvm.symm hK1
          obtain ⟨hP, hD⟩ := va_join (wr := [(rd, .inr (6, fs_rd)), (tp, .inr (9, fs_tp)), (ba, .inl (cB, 900, .inl fb)), (ra, .inr (5, [.long u0, .long w0])), (li, .inr (3, fs_li)), (ho, .inr (4, fs_ho)), (dr, .inr (3, fs_dr)), (hd, .inr (4, fs_hd)), (mb, .inl (cM, 900, .inl fM))]) (w1 := []) hP hD [8] [0, 1, 2, 3, 4, 5, 6, 7, 9] rfl rfl (by decide) (by decide) hk1 hFc hP1 hD1
          generalize H1 = H at hP hS ⊢
          have hP : va_P (dC, dI) vwCl [(rd, .inr (6, fs_rd)), (tp, .inr (9, fs_tp)), (ba, .inl (cB, 900, .inl fb)), (ra, .inr (5, [.long u0, .long w0])), (li, .inr (3, fs_li)), (ho, .inr (4, fs_ho)), (dr, .inr (3, fs_dr)), (hd, .inr (4, fs_hd)), (mb, .inl (cM, 900, .inl fM))] H := hP
          have hD : va_D A [(rd, .inr (6, fs_rd)), (tp, .inr (9, fs_tp)), (ba, .inl (cB, 900, .inl fb)), (ra, .inr (5, [.long u0, .long w0])), (li, .inr (3, fs_li)), (ho, .inr (4, fs_ho)), (dr, .inr (3, fs_dr)), (hd, .inr (4, fs_hd)), (mb, .inl (cM, 900, .inl fM))] := hD
          have er_91 : r_91 = f_X12_months (xs (1 : Int32).toNatClampNeg) (xs (2 : Int32).toNatClampNeg) 1 := hw
          refine lv_icmp_eq (tgt := 1893) hx hb dL_law_474 (by decide) (fun c_92 => ?_) (fun c_92 => ?_)
          · refine lv_iinc (v := 6) (lv' := [(4, .int 6), (3, .ref lo), (2, .ref mm), (1, .ref x), (0, .ref b)]) hx hb dL_law_1893 hl (k := 0) rfl (by decide) (by decide) rfl (fun ls hl => ?_)
            refine lv_goto (tgt := 23) hx hb dL_law_1896 (by decide) ?_
            refine lv_iload hx hb dL_law_23 (lv_at hl 0 rfl) ?_
            refine lv_aload_n hx hb dL_law_25 rfl (lv_at hl 4 rfl) ?_
            refine va_slen hx hb hX hbl hbA hS dL_law_26 ?_
            refine lv_topi (fun z_94 ez_94 => ?_)
            obtain rfl : z_94 = 6 := ez_94.trans rfl
            refine lv_bipush (v := 6) hx hb dL_law_27 (by decide) ?_
            refine lv_isub hx hb dL_law_29 ?_
            refine lv_topi (fun z_95 ez_95 => ?_)
            obtain rfl : z_95 = 0 := ez_95.trans (by decide)
            refine lv_icmp_gt (tgt := 1899) hx hb dL_law_30 (by decide) (fun c_96 => ?_) (fun c_96 => ?_)
            · refine lv_iconst (v := 1) hx hb dL_law_1899 (by decide) ?_
              refine va_forget (fun q hq => by have h9 := hS.2.2 q hq; rw [← hAe] at h9; exact h9) ?_
              refine W.widen (k := 600002) (n := 7302232) (Nat.le_of_ble_eq_true rfl) (Nat.le_of_ble_eq_true rfl) ?_
              exact lw_ret hd0 hx hb hr hlocks dL_law_1900
            · exact absurd (by decide) c_96
          · exact absurd (er_86.trans ((q_months _ _ _).trans er_91.symm)) c_92
    by_cases c_97 : ((xs (0 : Int32).toNatClampNeg) &&& 63) = 7
    · refine lv_tableIn (tgt := 479) hx hb dL_law_40 (by rw [c_97]; decide) (by rw [c_97]; decide) (by rw [c_97]; rfl) (by decide) ?_
      refine lv_aload_n hx hb dL_law_479 rfl (lv_at hl 3 rfl) ?_
      refine lv_aload_n hx hb dL_law_480 rfl (lv_at hl 4 rfl) ?_
      refine lv_iload hx hb dL_law_481 (lv_at hl 0 rfl) ?_
      refine lv_iconst (v := 1) hx hb dL_law_483 (by decide) ?_
      refine lv_iadd hx hb dL_law_484 ?_
      refine lv_topi (fun z_98 ez_98 => ?_)
      obtain rfl : z_98 = 1 := ez_98.trans (by decide)
      refine va_sld hx hb hX hbl hbA hS (vp_in_nI (n := 1) (by decide) (by decide)) dL_law_485 ?_
      have hPc := hP.sub (ws' := [(x, .inr (10, fs_x)), (li, .inr (3, fs_li)), (ho, .inr (4, fs_ho))]) [0, 5, 6] rfl
      have hDc := hD.sub (ws' := [(x, .inr (10, fs_x)), (li, .inr (3, fs_li)), (ho, .inr (4, fs_ho))]) [0, 5, 6] (by decide) rfl
      have hKc := hK.sub (tys' := []) [] rfl
      have hFc := va_free (wc := [(x, .inr (10, fs_x)), (li, .inr (3, fs_li)), (ho, .inr (4, fs_ho))]) hD hS hA [0, 5, 6] rfl
      refine va_calli (va_runV (As := [.int (xs (1 : Int32).toNatClampNeg)]) (rest := []) ⟨hx, hb, hml, hown, hts⟩ (k_X11_business l dC dI H.size x fs_x li fs_li ho fs_ho (xs (1 : Int32).toNatClampNeg) hn_x hf_x_8 hn_li hf_li_2 hn_ho hf_ho_1) (cwV 1 hts gL0_X11_business rfl rfl rfl (by decide +kernel) ⟨Nat.le_of_ble_eq_true rfl, Nat.le_of_ble_eq_true rfl⟩) ⟨fun a U g mk q => by obtain ⟨q0, q1, qP, qK, qD⟩ := q; exact ⟨q0, q1, qP, va_K.moved (u := U) (U := U.calling g mk a) (Vm.Alike.refl U.vm) qK, qD⟩, va_recv hKc hPc (ci := 10) (q0 := 0) rfl rfl, fun U hU hW => ⟨rfl, by rw [hU], by rw [hU]; exact hPc, va_K.moved hW.alike hKc, hDc.weaken (fun _ _ _ _ => trivial)⟩⟩ rfl rfl hl.1 rfl (lv_room (Nat.le_of_ble_eq_true rfl)) dL_law_486 ⟨Nat.le_of_ble_eq_true rfl, Nat.le_of_ble_eq_true rfl⟩) hS (fun q _ h => hFc q h) hFc (fun r_99 u t H1 locs ht hvm hw hB hz1 hk1 hS => ?_)
      obtain ⟨hP1, hK1, hD1⟩ := hB
      rw [ht] at hP1
      have hK1 := va_K.moved hvm.symm hK1
      obtain ⟨hP, hD⟩ := va_join (wr := [(rd, .inr (6, fs_rd)), (tp, .inr (9, fs_tp)), (ba, .inl (cB, 900, .inl fb)), (ra, .inr (5, [.long u0, .long w0])), (dr, .inr (3, fs_dr)), (hd, .inr (4, fs_hd)), (mm, .inr (11, fs_mm)), (mb, .inl (cM, 900, .inl fM))]) (w1 := []) hP hD [0, 5, 6] [1, 2, 3, 4, 7, 8, 9, 10] rfl rfl (by decide) (by decide) hk1 hFc hP1 hD1
      generalize H1 = H at hP hS ⊢
      have hP : va_P (dC, dI) vwCl [(rd, .inr (6, fs_rd)), (tp, .inr (9, fs_tp)), (ba, .inl (cB, 900, .inl fb)), (ra, .inr (5, [.long u0, .long w0])), (dr, .inr (3, fs_dr)), (hd, .inr (4, fs_hd)), (mm, .inr (11, fs_mm)), (mb, .inl (cM, 900, .inl fM))] H := hP
      have hD : va_D A [(rd, .inr (6, fs_rd)), (tp, .inr (9, fs_tp)), (ba, .inl (cB, 900, .inl fb)), (ra, .inr (5, [.long u0, .long w0])), (dr, .inr (3, fs_dr)), (hd, .inr (4, fs_hd)), (mm, .inr (11, fs_mm)), (mb, .inl (cM, 900, .inl fM))] := hD
      have er_99 : r_99 = f_X11_business (xs (1 : Int32).toNatClampNeg) := hw
      refine lv_aload_n hx hb dL_law_489 rfl (lv_at hl 2 rfl) ?_
      refine lv_aload_n hx hb dL_law_490 rfl (lv_at hl 4 rfl) ?_
      refine lv_iload hx hb dL_law_491 (lv_at hl 0 rfl) ?_
      refine lv_iconst (v := 1) hx hb dL_law_493 (by decide) ?_
      refine lv_iadd hx hb dL_law_494 ?_
      refine lv_topi (fun z_100 ez_100 => ?_)
      obtain rfl : z_100 = 1 := ez_100.trans (by decide)
      refine va_sld hx hb hX hbl hbA hS (vp_in_nI (n := 1) (by decide) (by decide)) dL_law_495 ?_
      have hPc := hP.sub (ws' := [(mm, .inr (11, fs_mm))]) [6] rfl
      have hDc := hD.sub (ws' := [(mm, .inr (11, fs_mm))]) [6] (by decide) rfl
      have hKc := hK.sub (tys' := []) [] rfl
      have hFc := va_free (wc := [(mm, .inr (11, fs_mm))]) hD hS hA [6] rfl
      refine va_calli (va_runV (As := [.int (xs (1 : Int32).toNatClampNeg)]) (rest := [.int r_99]) ⟨hx, hb, hml, hown, hts⟩ (k_X12_business l dC dI H.size mm fs_mm (xs (1 : Int32).toNatClampNeg) hn_mm hf_mm_22) (cwV 1 hts gL0_X12_business rfl rfl rfl (by decide +kernel) ⟨Nat.le_of_ble_eq_true rfl, Nat.le_of_ble_eq_true rfl⟩) ⟨fun a U g mk q => by obtain ⟨q0, q1, qP, qK, qD⟩ := q; exact ⟨q0, q1, qP, va_K.moved (u := U) (U := U.calling g mk a) (Vm.Alike.refl U.vm) qK, qD⟩, va_recv hKc hPc (ci := 11) (q0 := 0) rfl rfl, fun U hU hW => ⟨rfl, by rw [hU], by rw [hU]; exact hPc, va_K.moved hW.alike hKc, hDc.weaken (fun _ _ _ _ => trivial)⟩⟩ rfl rfl hl.1 rfl (lv_room (Nat.le_of_ble_eq_true rfl)) dL_law_496 ⟨Nat.le_of_ble_eq_true rfl, Nat.le_of_ble_eq_true rfl⟩) hS (fun q _ h => hFc q h) hFc (fun r_101 u t H1 locs ht hvm hw hB hz1 hk1 hS => ?_)
      obtain ⟨hP1, hK1, hD1⟩ := hB
      rw [ht] at hP1
      have hK1 := va_K.moved hvm.symm hK1
      obtain ⟨hP, hD⟩ := va_join (wr := [(rd, .inr (6, fs_rd)), (tp, .inr (9, fs_tp)), (ba, .inl (cB, 900, .inl fb)), (ra, .inr (5, [.long u0, .long w0])), (dr, .inr (3, fs_dr)), (hd, .inr (4, fs_hd)), (mb, .inl (cM, 900, .inl fM))]) (w1 := []) hP hD [6] [0, 1, 2, 3, 4, 5, 7] rfl rfl (by decide) (by decide) hk1 hFc hP1 hD1
      generalize H1 = H at hP hS ⊢
      have hP : va_P (dC, dI) vwCl [(rd, .inr (6, fs_rd)), (tp, .inr (9, fs_tp)), (ba, .inl (cB, 900, .inl fb)), (ra, .inr (5, [.long u0, .long w0])), (dr, .inr (3, fs_dr)), (hd, .inr (4, fs_hd)), (mb, .inl (cM, 900, .inl fM))] H := hP
      have hD : va_D A [(rd, .inr (6, fs_rd)), (tp, .inr (9, fs_tp)), (ba, .inl (cB, 900, .inl fb)), (ra, .inr (5, [.long u0, .long w0])), (dr, .inr (3, fs_dr)), (hd, .inr (4, fs_hd)), (mb, .inl (cM, 900, .inl fM))] := hD
      have er_101 : r_101 = f_X12_business (xs (1 : Int32).toNatClampNeg) := hw
      refine lv_icmp_eq (tgt := 1893) hx hb dL_law_499 (by decide) (fun c_102 => ?_) (fun c_102 => ?_)
      · refine lv_iinc (v := 6) (lv' := [(4, .int 6), (3, .ref lo), (2, .ref mm), (1, .ref x), (0, .ref b)]) hx hb dL_law_1893 hl (k := 0) rfl (by decide) (by decide) rfl (fun ls hl => ?_)
        refine lv_goto (tgt := 23) hx hb dL_law_1896 (by decide) ?_
        refine lv_iload hx hb dL_law_23 (lv_at hl 0 rfl) ?_
        refine lv_aload_n hx hb dL_law_25 rfl (lv_at hl 4 rfl) ?_
        refine va_slen hx hb hX hbl hbA hS dL_law_26 ?_
        refine lv_topi (fun z_104 ez_104 => ?_)
        obtain rfl : z_104 = 6 := ez_104.trans rfl
        refine lv_bipush (v := 6) hx hb dL_law_27 (by decide) ?_
        refine lv_isub hx hb dL_law_29 ?_
        refine lv_topi (fun z_105 ez_105 => ?_)
        obtain rfl : z_105 = 0 := ez_105.trans (by decide)
        refine lv_icmp_gt (tgt := 1899) hx hb dL_law_30 (by decide) (fun c_106 => ?_) (fun c_106 => ?_)
        · refine lv_iconst (v := 1) hx hb dL_law_1899 (by decide) ?_
          refine va_forget (fun q hq => by have h9 := hS.2.2 q hq; rw [← hAe] at h9; exact h9) ?_
          refine W.widen (k := 600002) (n := 7302232) (Nat.le_of_ble_eq_true rfl) (Nat.le_of_ble_eq_true rfl) ?_
          exact lw_ret hd0 hx hb hr hlocks dL_law_1900
        · exact absurd (by decide) c_106
      · exact absurd (er_99.trans ((q_business _).trans er_101.symm)) c_102
    by_cases c_107 : ((xs (0 : Int32).toNatClampNeg) &&& 63) = 8
    · refine lv_tableIn (tgt := 504) hx hb dL_law_40 (by rw [c_107]; decide) (by rw [c_107]; decide) (by rw [c_107]; rfl) (by decide) ?_
      refine lv_aload_n hx hb dL_law_504 rfl (lv_at hl 3 rfl) ?_
      refine lv_aload_n hx hb dL_law_505 rfl (lv_at hl 4 rfl) ?_
      refine lv_iload hx hb dL_law_506 (lv_at hl 0 rfl) ?_
      refine lv_iconst (v := 1) hx hb dL_law_508 (by decide) ?_
      refine lv_iadd hx hb dL_law_509 ?_
      refine lv_topi (fun z_108 ez_108 => ?_)
      obtain rfl : z_108 = 1 := ez_108.trans (by decide)
      refine va_sld hx hb hX hbl hbA hS (vp_in_nI (n := 1) (by decide) (by decide)) dL_law_510 ?_
      refine lv_aload_n hx hb dL_law_511 rfl (lv_at hl 4 rfl) ?_
      refine lv_iload hx hb dL_law_512 (lv_at hl 0 rfl) ?_
      refine lv_iconst (v := 2) hx hb dL_law_514 (by decide) ?_
      refine lv_iadd hx hb dL_law_515 ?_
      refine lv_topi (fun z_109 ez_109 => ?_)
      obtain rfl : z_109 = 2 := ez_109.trans (by decide)
      refine va_sld hx hb hX hbl hbA hS (vp_in_nI (n := 2) (by decide) (by decide)) dL_law_516 ?_
      have hPc := hP.sub (ws' := [(x, .inr (10, fs_x)), (li, .inr (3, fs_li)), (ho, .inr (4, fs_ho))]) [0, 5, 6] rfl
      have hDc := hD.sub (ws' := [(x, .inr (10, fs_x)), (li, .inr (3, fs_li)), (ho, .inr (4, fs_ho))]) [0, 5, 6] (by decide) rfl
      have hKc := hK.sub (tys' := []) [] rfl
      have hFc := va_free (wc := [(x, .inr (10, fs_x)), (li, .inr (3, fs_li)), (ho, .inr (4, fs_ho))]) hD hS hA [0, 5, 6] rfl
      refine va_calli (va_runV (As := [.int (xs (1 : Int32).toNatClampNeg), .int (xs (2 : Int32).toNatClampNeg)]) (rest := []) ⟨hx, hb, hml, hown, hts⟩ (k_X11_businessFrom l dC dI H.size x fs_x li fs_li ho fs_ho (xs (1 : Int32).toNatClampNeg) (xs (2 : Int32).toNatClampNeg) hn_x hf_x_8 hn_li hf_li_2 hn_ho hf_ho_1) (cwV 2 hts gL0_X11_businessFrom rfl rfl rfl (by decide +kernel) ⟨Nat.le_of_ble_eq_true rfl, Nat.le_of_ble_eq_true rfl⟩) ⟨fun a U g mk q => by obtain ⟨q0, q1, qP, qK, qD⟩ := q; exact ⟨q0, q1, qP, va_K.moved (u := U) (U := U.calling g mk a) (Vm.Alike.refl U.vm) qK, qD⟩, va_recv hKc hPc (ci := 10) (q0 := 0) rfl rfl, fun U hU hW => ⟨rfl, by rw [hU], by rw [hU]; exact hPc, va_K.moved hW.alike hKc, hDc.weaken (fun _ _ _ _ => trivial)⟩⟩ rfl rfl hl.1 rfl (lv_room (Nat.le_of_ble_eq_true rfl)) dL_law_517 ⟨Nat.le_of_ble_eq_true rfl, Nat.le_of_ble_eq_true rfl⟩) hS (fun q _ h => hFc q h) hFc (fun r_110 u t H1 locs ht hvm hw hB hz1 hk1 hS => ?_)
      obtain ⟨hP1, hK1, hD1⟩ := hB
      rw [ht] at hP1
      have hK1 := va_K.moved hvm.symm hK1
      obtain ⟨hP, hD⟩ := va_join (wr := [(rd, .inr (6, fs_rd)), (tp, .inr (9, fs_tp)), (ba, .inl (cB, 900, .inl fb)), (ra, .inr (5, [.long u0, .long w0])), (dr, .inr (3, fs_dr)), (hd, .inr (4, fs_hd)), (mm, .inr (11, fs_mm)), (mb, .inl (cM, 900, .inl fM))]) (w1 := []) hP hD [0, 5, 6] [1, 2, 3, 4, 7, 8, 9, 10] rfl rfl (by decide) (by decide) hk1 hFc hP1 hD1
      generalize H1 = H at hP hS ⊢
      have hP : va_P (dC, dI) vwCl [(rd, .inr (6, fs_rd)), (tp, .inr (9, fs_tp)), (ba, .inl (cB, 900, .inl fb)), (ra, .inr (5, [.long u0, .long w0])), (dr, .inr (3, fs_dr)), (hd, .inr (4, fs_hd)), (mm, .inr (11, fs_mm)), (mb, .inl (cM, 900, .inl fM))] H := hP
      have hD : va_D A [(rd, .inr (6, fs_rd)), (tp, .inr (9, fs_tp)), (ba, .inl (cB, 900, .inl fb)), (ra, .inr (5, [.long u0, .long w0])), (dr, .inr (3, fs_dr)), (hd, .inr (4, fs_hd)), (mm, .inr (11, fs_mm)), (mb, .inl (cM, 900, .inl fM))] := hD
      have er_110 : r_110 = f_X11_businessFrom (xs (1 : Int32).toNatClampNeg) (xs (2 : Int32).toNatClampNeg) := hw
      refine lv_aload_n hx hb dL_law_520 rfl (lv_at hl 2 rfl) ?_
      refine lv_aload_n hx hb dL_law_521 rfl (lv_at hl 4 rfl) ?_
      refine lv_iload hx hb dL_law_522 (lv_at hl 0 rfl) ?_
      refine lv_iconst (v := 1) hx hb dL_law_524 (by decide) ?_
      refine lv_iadd hx hb dL_law_525 ?_
      refine lv_topi (fun z_111 ez_111 => ?_)
      obtain rfl : z_111 = 1 := ez_111.trans (by decide)
      refine va_sld hx hb hX hbl hbA hS (vp_in_nI (n := 1) (by decide) (by decide)) dL_law_526 ?_
      refine lv_aload_n hx hb dL_law_527 rfl (lv_at hl 4 rfl) ?_
      refine lv_iload hx hb dL_law_528 (lv_at hl 0 rfl) ?_
      refine lv_iconst (v := 2) hx hb dL_law_530 (by decide) ?_
      refine lv_iadd hx hb dL_law_531 ?_
      refine lv_topi (fun z_112 ez_112 => ?_)
      obtain rfl : z_112 = 2 := ez_112.trans (by decide)
      refine va_sld hx hb hX hbl hbA hS (vp_in_nI (n := 2) (by decide) (by decide)) dL_law_532 ?_
      have hPc := hP.sub (ws' := [(mm, .inr (11, fs_mm))]) [6] rfl
      have hDc := hD.sub (ws' := [(mm, .inr (11, fs_mm))]) [6] (by decide) rfl
      have hKc := hK.sub (tys' := []) [] rfl
      have hFc := va_free (wc := [(mm, .inr (11, fs_mm))]) hD hS hA [6] rfl
      refine va_calli (va_runV (As := [.int (xs (1 : Int32).toNatClampNeg), .int (xs (2 : Int32).toNatClampNeg)]) (rest := [.int r_110]) ⟨hx, hb, hml, hown, hts⟩ (k_X12_businessFrom l dC dI H.size mm fs_mm (xs (1 : Int32).toNatClampNeg) (xs (2 : Int32).toNatClampNeg) hn_mm hf_mm_22) (cwV 2 hts gL0_X12_businessFrom rfl rfl rfl (by decide +kernel) ⟨Nat.le_of_ble_eq_true rfl, Nat.le_of_ble_eq_true rfl⟩) ⟨fun a U g mk q => by obtain ⟨q0, q1, qP, qK, qD⟩ := q; exact ⟨q0, q1, qP, va_K.moved (u := U) (U := U.calling g mk a) (Vm.Alike.refl U.vm) qK, qD⟩, va_recv hKc hPc (ci := 11) (q0 := 0) rfl rfl, fun U hU hW => ⟨rfl, by rw [hU], by rw [hU]; exact hPc, va_K.moved hW.alike hKc, hDc.weaken (fun _ _ _ _ => trivial)⟩⟩ rfl rfl hl.1 rfl (lv_room (Nat.le_of_ble_eq_true rfl)) dL_law_533 ⟨Nat.le_of_ble_eq_true rfl, Nat.le_of_ble_eq_true rfl⟩) hS (fun q _ h => hFc q h) hFc (fun r_113 u t H1 locs ht hvm hw hB hz1 hk1 hS => ?_)
      obtain ⟨hP1, hK1, hD1⟩ := hB
      rw [ht] at hP1
      have hK1 := va_K.moved hvm.symm hK1
      obtain ⟨hP, hD⟩ := va_join (wr := [(rd, .inr (6, fs_rd)), (tp, .inr (9, fs_tp)), (ba, .inl (cB, 900, .inl fb)), (ra, .inr (5, [.long u0, .long w0])), (dr, .inr (3, fs_dr)), (hd, .inr (4, fs_hd)), (mb, .inl (cM, 900, .inl fM))]) (w1 := []) hP hD [6] [0, 1, 2, 3, 4, 5, 7] rfl rfl (by decide) (by decide) hk1 hFc hP1 hD1
      generalize H1 = H at hP hS ⊢
      have hP : va_P (dC, dI) vwCl [(rd, .inr (6, fs_rd)), (tp, .inr (9, fs_tp)), (ba, .inl (cB, 900, .inl fb)), (ra, .inr (5, [.long u0, .long w0])), (dr, .inr (3, fs_dr)), (hd, .inr (4, fs_hd)), (mb, .inl (cM, 900, .inl fM))] H := hP
      have hD : va_D A [(rd, .inr (6, fs_rd)), (tp, .inr (9, fs_tp)), (ba, .inl (cB, 900, .inl fb)), (ra, .inr (5, [.long u0, .long w0])), (dr, .inr (3, fs_dr)), (hd, .inr (4, fs_hd)), (mb, .inl (cM, 900, .inl fM))] := hD
      have er_113 : r_113 = f_X12_businessFrom (xs (1 : Int32).toNatClampNeg) (xs (2 : Int32).toNatClampNeg) := hw
      refine lv_icmp_eq (tgt := 1893) hx hb dL_law_536 (by decide) (fun c_114 => ?_) (fun c_114 => ?_)
      · refine lv_iinc (v := 6) (lv' := [(4, .int 6), (3, .ref lo), (2, .ref mm), (1, .ref x), (0, .ref b)]) hx hb dL_law_1893 hl (k := 0) rfl (by decide) (by decide) rfl (fun ls hl => ?_)
        refine lv_goto (tgt := 23) hx hb dL_law_1896 (by decide) ?_
        refine lv_iload hx hb dL_law_23 (lv_at hl 0 rfl) ?_
        refine lv_aload_n hx hb dL_law_25 rfl (lv_at hl 4 rfl) ?_
        refine va_slen hx hb hX hbl hbA hS dL_law_26 ?_
        refine lv_topi (fun z_116 ez_116 => ?_)
        obtain rfl : z_116 = 6 := ez_116.trans rfl
        refine lv_bipush (v := 6) hx hb dL_law_27 (by decide) ?_
        refine lv_isub hx hb dL_law_29 ?_
        refine lv_topi (fun z_117 ez_117 => ?_)
        obtain rfl : z_117 = 0 := ez_117.trans (by decide)
        refine lv_icmp_gt (tgt := 1899) hx hb dL_law_30 (by decide) (fun c_118 => ?_) (fun c_118 => ?_)
        · refine lv_iconst (v := 1) hx hb dL_law_1899 (by decide) ?_
          refine va_forget (fun q hq => by have h9 := hS.2.2 q hq; rw [← hAe] at h9; exact h9) ?_
          refine W.widen (k := 600002) (n := 7302232) (Nat.le_of_ble_eq_true rfl) (Nat.le_of_ble_eq_true rfl) ?_
          exact lw_ret hd0 hx hb hr hlocks dL_law_1900
        · exact absurd (by decide) c_118
      · exact absurd (er_110.trans ((q_businessFrom _ _).trans er_113.symm)) c_114
    by_cases c_119 : ((xs (0 : Int32).toNatClampNeg) &&& 63) = 9
    · refine lv_tableIn (tgt := 541) hx hb dL_law_40 (by rw [c_119]; decide) (by rw [c_119]; decide) (by rw [c_119]; rfl) (by decide) ?_
      refine lv_aload_n hx hb dL_law_541 rfl (lv_at hl 3 rfl) ?_
      refine lv_aload_n hx hb dL_law_542 rfl (lv_at hl 4 rfl) ?_
      refine lv_iload hx hb dL_law_543 (lv_at hl 0 rfl) ?_
      refine lv_iconst (v := 1) hx hb dL_law_545 (by decide) ?_
      refine lv_iadd hx hb dL_law_546 ?_
      refine lv_topi (fun z_120 ez_120 => ?_)
      obtain rfl : z_120 = 1 := ez_120.trans (by decide)
      refine va_sld hx hb hX hbl hbA hS (vp_in_nI (n := 1) (by decide) (by decide)) dL_law_547 ?_
      refine lv_aload_n hx hb dL_law_548 rfl (lv_at hl 4 rfl) ?_
      refine lv_iload hx hb dL_law_549 (lv_at hl 0 rfl) ?_
      refine lv_iconst (v := 2) hx hb dL_law_551 (by decide) ?_
      refine lv_iadd hx hb dL_law_552 ?_
      refine lv_topi (fun z_121 ez_121 => ?_)
      obtain rfl : z_121 = 2 := ez_121.trans (by decide)
      refine va_sld hx hb hX hbl hbA hS (vp_in_nI (n := 2) (by decide) (by decide)) dL_law_553 ?_
      refine lv_aload_n hx hb dL_law_554 rfl (lv_at hl 4 rfl) ?_
      refine lv_iload hx hb dL_law_555 (lv_at hl 0 rfl) ?_
      refine lv_iconst (v := 3) hx hb dL_law_557 (by decide) ?_
      refine lv_iadd hx hb dL_law_558 ?_
      refine lv_topi (fun z_122 ez_122 => ?_)
      obtain rfl : z_122 = 3 := ez_122.trans (by decide)
      refine va_sld hx hb hX hbl hbA hS (vp_in_nI (n := 3) (by decide) (by decide)) dL_law_559 ?_
      refine lv_aload_n hx hb dL_law_560 rfl (lv_at hl 4 rfl) ?_
      refine lv_iload hx hb dL_law_561 (lv_at hl 0 rfl) ?_
      refine lv_iconst (v := 4) hx hb dL_law_563 (by decide) ?_
      refine lv_iadd hx hb dL_law_564 ?_
      refine lv_topi (fun z_123 ez_123 => ?_)
      obtain rfl : z_123 = 4 := ez_123.trans (by decide)
      refine va_sld hx hb hX hbl hbA hS (vp_in_nI (n := 4) (by decide) (by decide)) dL_law_565 ?_
      refine lv_if_eq (tgt := 573) hx hb dL_law_566 (by decide) (fun c_124 => ?_) (fun c_124 => ?_)
      · refine lv_iconst (v := 0) hx hb dL_law_573 (by decide) ?_
        have hPc := hP.sub (ws' := [(x, .inr (10, fs_x)), (ra, .inr (5, [.long u0, .long w0]))]) [0, 4] rfl
        have hDc := hD.sub (ws' := [(x, .inr (10, fs_x)), (ra, .inr (5, [.long u0, .long w0]))]) [0, 4] (by decide) rfl
        have hKc := hK.sub (tys' := []) [] rfl
        have hFc := va_free (wc := [(x, .inr (10, fs_x)), (ra, .inr (5, [.long u0, .long w0]))]) hD hS hA [0, 4] rfl
        refine va_calll (va_runV (As := [.int (xs (1 : Int32).toNatClampNeg), .int (xs (2 : Int32).toNatClampNeg), .int (xs (3 : Int32).toNatClampNeg), .int 0]) (rest := []) ⟨hx, hb, hml, hown, hts⟩ (k_X11_counted l dC dI H.size x fs_x ra u0 w0 (xs (1 : Int32).toNatClampNeg) (xs (2 : Int32).toNatClampNeg) (xs (3 : Int32).toNatClampNeg) 0 hn_x hf_x_3) (cwV 4 hts gL0_X11_counted rfl rfl rfl (by decide +kernel) ⟨Nat.le_of_ble_eq_true rfl, Nat.le_of_ble_eq_true rfl⟩) ⟨fun a U g mk q => by obtain ⟨q0, q1, qP, qK, qD⟩ := q; exact ⟨q0, q1, qP, va_K.moved (u := U) (U := U.calling g mk a) (Vm.Alike.refl U.vm) qK, qD⟩, va_recv hKc hPc (ci := 10) (q0 := 0) rfl rfl, fun U hU hW => ⟨rfl, by rw [hU], by rw [hU]; exact hPc, va_K.moved hW.alike hKc, hDc.weaken (fun _ _ _ _ => trivial)⟩⟩ rfl rfl hl.1 rfl (lv_room (Nat.le_of_ble_eq_true rfl)) dL_law_574 ⟨Nat.le_of_ble_eq_true rfl, Nat.le_of_ble_eq_true rfl⟩) hS (fun q _ h => hFc q h) hFc (fun r_125 u t H1 locs ht hvm hw hB hz1 hk1 hS => ?_)
        obtain ⟨hP1, hK1, hD1⟩ := hB
        rw [ht] at hP1
        have hK1 := va_K.moved hvm.symm hK1
        obtain ⟨hP, hD⟩ := va_join (wr := [(rd, .inr (6, fs_rd)), (tp, .inr (9, fs_tp)), (ba, .inl (cB, 900, .inl fb)), (li, .inr (3, fs_li)), (ho, .inr (4, fs_ho)), (dr, .inr (3, fs_dr)), (hd, .inr (4, fs_hd)), (mm, .inr (11, fs_mm)), (mb, .inl (cM, 900, .inl fM))]) (w1 := []) hP hD [0, 4] [1, 2, 3, 5, 6, 7, 8, 9, 10] rfl rfl (by decide) (by decide) hk1 hFc hP1 hD1
        generalize H1 = H at hP hS ⊢
        have hP : va_P (dC, dI) vwCl [(rd, .inr (6, fs_rd)), (tp, .inr (9, fs_tp)), (ba, .inl (cB, 900, .inl fb)), (li, .inr (3, fs_li)), (ho, .inr (4, fs_ho)), (dr, .inr (3, fs_dr)), (hd, .inr (4, fs_hd)), (mm, .inr (11, fs_mm)), (mb, .inl (cM, 900, .inl fM))] H := hP
        have hD : va_D A [(rd, .inr (6, fs_rd)), (tp, .inr (9, fs_tp)), (ba, .inl (cB, 900, .inl fb)), (li, .inr (3, fs_li)), (ho, .inr (4, fs_ho)), (dr, .inr (3, fs_dr)), (hd, .inr (4, fs_hd)), (mm, .inr (11, fs_mm)), (mb, .inl (cM, 900, .inl fM))] := hD
        have er_125 : r_125 = f_X11_counted u0 w0 (xs (1 : Int32).toNatClampNeg) (xs (2 : Int32).toNatClampNeg) (xs (3 : Int32).toNatClampNeg) 0 := hw
        refine lv_aload_n hx hb dL_law_577 rfl (lv_at hl 2 rfl) ?_
        refine lv_aload_n hx hb dL_law_578 rfl (lv_at hl 4 rfl) ?_
        refine lv_iload hx hb dL_law_579 (lv_at hl 0 rfl) ?_
        refine lv_iconst (v := 1) hx hb dL_law_581 (by decide) ?_
        refine lv_iadd hx hb dL_law_582 ?_
        refine lv_topi (fun z_126 ez_126 => ?_)
        obtain rfl : z_126 = 1 := ez_126.trans (by decide)
        refine va_sld hx hb hX hbl hbA hS (vp_in_nI (n := 1) (by decide) (by decide)) dL_law_583 ?_
        refine lv_aload_n hx hb dL_law_584 rfl (lv_at hl 4 rfl) ?_
        refine lv_iload hx hb dL_law_585 (lv_at hl 0 rfl) ?_
        refine lv_iconst (v := 2) hx hb dL_law_587 (by decide) ?_
        refine lv_iadd hx hb dL_law_588 ?_
        refine lv_topi (fun z_127 ez_127 => ?_)
        obtain rfl : z_127 = 2 := ez_127.trans (by decide)
        refine va_sld hx hb hX hbl hbA hS (vp_in_nI (n := 2) (by decide) (by decide)) dL_law_589 ?_
        refine lv_aload_n hx hb dL_law_590 rfl (lv_at hl 4 rfl) ?_
        refine lv_iload hx hb dL_law_591 (lv_at hl 0 rfl) ?_
        refine lv_iconst (v := 3) hx hb dL_law_593 (by decide) ?_
        refine lv_iadd hx hb dL_law_594 ?_
        refine lv_topi (fun z_128 ez_128 => ?_)
        obtain rfl : z_128 = 3 := ez_128.trans (by decide)
        refine va_sld hx hb hX hbl hbA hS (vp_in_nI (n := 3) (by decide) (by decide)) dL_law_595 ?_
        refine lv_aload_n hx hb dL_law_596 rfl (lv_at hl 4 rfl) ?_
        refine lv_iload hx hb dL_law_597 (lv_at hl 0 rfl) ?_
        refine lv_iconst (v := 4) hx hb dL_law_599 (by decide) ?_
        refine lv_iadd hx hb dL_law_600 ?_
        refine lv_topi (fun z_129 ez_129 => ?_)
        obtain rfl : z_129 = 4 := ez_129.trans (by decide)
        refine va_sld hx hb hX hbl hbA hS (vp_in_nI (n := 4) (by decide) (by decide)) dL_law_601 ?_
        refine lv_if_eq (tgt := 609) hx hb dL_law_602 (by decide) (fun c_130 => ?_) (fun c_130 => ?_)
        · refine lv_iconst (v := 0) hx hb dL_law_609 (by decide) ?_
          have hPc := hP.sub (ws' := [(mm, .inr (11, fs_mm))]) [7] rfl
          have hDc := hD.sub (ws' := [(mm, .inr (11, fs_mm))]) [7] (by decide) rfl
          have hKc := hK.sub (tys' := []) [] rfl
          have hFc := va_free (wc := [(mm, .inr (11, fs_mm))]) hD hS hA [7] rfl
          refine va_calll (va_runV (As := [.int (xs (1 : Int32).toNatClampNeg), .int (xs (2 : Int32).toNatClampNeg), .int (xs (3 : Int32).toNatClampNeg), .int 0]) (rest := [.long r_125]) ⟨hx, hb, hml, hown, hts⟩ (k_X12_counted l dC dI H.size mm fs_mm (xs (1 : Int32).toNatClampNeg) (xs (2 : Int32).toNatClampNeg) (xs (3 : Int32).toNatClampNeg) 0 hn_mm) (cwV 4 hts gL0_X12_counted rfl rfl rfl (by decide +kernel) ⟨Nat.le_of_ble_eq_true rfl, Nat.le_of_ble_eq_true rfl⟩) ⟨fun a U g mk q => by obtain ⟨q0, q1, qP, qK, qD⟩ := q; exact ⟨q0, q1, qP, va_K.moved (u := U) (U := U.calling g mk a) (Vm.Alike.refl U.vm) qK, qD⟩, va_recv hKc hPc (ci := 11) (q0 := 0) rfl rfl, fun U hU hW => ⟨rfl, by rw [hU], by rw [hU]; exact hPc, va_K.moved hW.alike hKc, hDc.weaken (fun _ _ _ _ => trivial)⟩⟩ rfl rfl hl.1 rfl (lv_room (Nat.le_of_ble_eq_true rfl)) dL_law_610 ⟨Nat.le_of_ble_eq_true rfl, Nat.le_of_ble_eq_true rfl⟩) hS (fun q _ h => hFc q h) hFc (fun r_131 u t H1 locs ht hvm hw hB hz1 hk1 hS => ?_)
          obtain ⟨hP1, hK1, hD1⟩ := hB
          rw [ht] at hP1
          have hK1 := va_K.moved hvm.symm hK1
          obtain ⟨hP, hD⟩ := va_join (wr := [(rd, .inr (6, fs_rd)), (tp, .inr (9, fs_tp)), (ba, .inl (cB, 900, .inl fb)), (li, .inr (3, fs_li)), (ho, .inr (4, fs_ho)), (dr, .inr (3, fs_dr)), (hd, .inr (4, fs_hd)), (mb, .inl (cM, 900, .inl fM))]) (w1 := []) hP hD [7] [0, 1, 2, 3, 4, 5, 6, 8] rfl rfl (by decide) (by decide) hk1 hFc hP1 hD1
          generalize H1 = H at hP hS ⊢
          have hP : va_P (dC, dI) vwCl [(rd, .inr (6, fs_rd)), (tp, .inr (9, fs_tp)), (ba, .inl (cB, 900, .inl fb)), (li, .inr (3, fs_li)), (ho, .inr (4, fs_ho)), (dr, .inr (3, fs_dr)), (hd, .inr (4, fs_hd)), (mb, .inl (cM, 900, .inl fM))] H := hP
          have hD : va_D A [(rd, .inr (6, fs_rd)), (tp, .inr (9, fs_tp)), (ba, .inl (cB, 900, .inl fb)), (li, .inr (3, fs_li)), (ho, .inr (4, fs_ho)), (dr, .inr (3, fs_dr)), (hd, .inr (4, fs_hd)), (mb, .inl (cM, 900, .inl fM))] := hD
          have er_131 : r_131 = f_X12_counted (xs (1 : Int32).toNatClampNeg) (xs (2 : Int32).toNatClampNeg) (xs (3 : Int32).toNatClampNeg) 0 := hw
          refine W.lcmp hx hb dL_law_613 ?_
          refine lv_if_eq (tgt := 1893) hx hb dL_law_614 (by decide) (fun c_132 => ?_) (fun c_132 => ?_)
          · refine lv_iinc (v := 6) (lv' := [(4, .int 6), (3, .ref lo), (2, .ref mm), (1, .ref x), (0, .ref b)]) hx hb dL_law_1893 hl (k := 0) rfl (by decide) (by decide) rfl (fun ls hl => ?_)
            refine lv_goto (tgt := 23) hx hb dL_law_1896 (by decide) ?_
            refine lv_iload hx hb dL_law_23 (lv_at hl 0 rfl) ?_
            refine lv_aload_n hx hb dL_law_25 rfl (lv_at hl 4 rfl) ?_
            refine va_slen hx hb hX hbl hbA hS dL_law_26 ?_
            refine lv_topi (fun z_134 ez_134 => ?_)
            obtain rfl : z_134 = 6 := ez_134.trans rfl
            refine lv_bipush (v := 6) hx hb dL_law_27 (by decide) ?_
            refine lv_isub hx hb dL_law_29 ?_
            refine lv_topi (fun z_135 ez_135 => ?_)
            obtain rfl : z_135 = 0 := ez_135.trans (by decide)
            refine lv_icmp_gt (tgt := 1899) hx hb dL_law_30 (by decide) (fun c_136 => ?_) (fun c_136 => ?_)
            · refine lv_iconst (v := 1) hx hb dL_law_1899 (by decide) ?_
              refine va_forget (fun q hq => by have h9 := hS.2.2 q hq; rw [← hAe] at h9; exact h9) ?_
              refine W.widen (k := 600002) (n := 7302232) (Nat.le_of_ble_eq_true rfl) (Nat.le_of_ble_eq_true rfl) ?_
              exact lw_ret hd0 hx hb hr hlocks dL_law_1900
            · exact absurd (by decide) c_136
          · exact absurd ((lg_cmp_eq _ _).mpr (er_125.trans ((q_counted _ _ _ _ _ _).trans er_131.symm))) c_132
        · exact absurd c_124 c_130
      · refine lv_iconst (v := 1) hx hb dL_law_569 (by decide) ?_
        refine lv_goto (tgt := 574) hx hb dL_law_570 (by decide) ?_
        have hPc := hP.sub (ws' := [(x, .inr (10, fs_x)), (ra, .inr (5, [.long u0, .long w0]))]) [0, 4] rfl
        have hDc := hD.sub (ws' := [(x, .inr (10, fs_x)), (ra, .inr (5, [.long u0, .long w0]))]) [0, 4] (by decide) rfl
        have hKc := hK.sub (tys' := []) [] rfl
        have hFc := va_free (wc := [(x, .inr (10, fs_x)), (ra, .inr (5, [.long u0, .long w0]))]) hD hS hA [0, 4] rfl
        refine va_calll (va_runV (As := [.int (xs (1 : Int32).toNatClampNeg), .int (xs (2 : Int32).toNatClampNeg), .int (xs (3 : Int32).toNatClampNeg), .int 1]) (rest := []) ⟨hx, hb, hml, hown, hts⟩ (k_X11_counted l dC dI H.size x fs_x ra u0 w0 (xs (1 : Int32).toNatClampNeg) (xs (2 : Int32).toNatClampNeg) (xs (3 : Int32).toNatClampNeg) 1 hn_x hf_x_3) (cwV 4 hts gL0_X11_counted rfl rfl rfl (by decide +kernel) ⟨Nat.le_of_ble_eq_true rfl, Nat.le_of_ble_eq_true rfl⟩) ⟨fun a U g mk q => by obtain ⟨q0, q1, qP, qK, qD⟩ := q; exact ⟨q0, q1, qP, va_K.moved (u := U) (U := U.calling g mk a) (Vm.Alike.refl U.vm) qK, qD⟩, va_recv hKc hPc (ci := 10) (q0 := 0) rfl rfl, fun U hU hW => ⟨rfl, by rw [hU], by rw [hU]; exact hPc, va_K.moved hW.alike hKc, hDc.weaken (fun _ _ _ _ => trivial)⟩⟩ rfl rfl hl.1 rfl (lv_room (Nat.le_of_ble_eq_true rfl)) dL_law_574 ⟨Nat.le_of_ble_eq_true rfl, Nat.le_of_ble_eq_true rfl⟩) hS (fun q _ h => hFc q h) hFc (fun r_137 u t H1 locs ht hvm hw hB hz1 hk1 hS => ?_)
        obtain ⟨hP1, hK1, hD1⟩ := hB
        rw [ht] at hP1
        have hK1 := va_K.moved hvm.symm hK1
        obtain ⟨hP, hD⟩ := va_join (wr := [(rd, .inr (6, fs_rd)), (tp, .inr (9, fs_tp)), (ba, .inl (cB, 900, .inl fb)), (li, .inr (3, fs_li)), (ho, .inr (4, fs_ho)), (dr, .inr (3, fs_dr)), (hd, .inr (4, fs_hd)), (mm, .inr (11, fs_mm)), (mb, .inl (cM, 900, .inl fM))]) (w1 := []) hP hD [0, 4] [1, 2, 3, 5, 6, 7, 8, 9, 10] rfl rfl (by decide) (by decide) hk1 hFc hP1 hD1
        generalize H1 = H at hP hS ⊢
        have hP : va_P (dC, dI) vwCl [(rd, .inr (6, fs_rd)), (tp, .inr (9, fs_tp)), (ba, .inl (cB, 900, .inl fb)), (li, .inr (3, fs_li)), (ho, .inr (4, fs_ho)), (dr, .inr (3, fs_dr)), (hd, .inr (4, fs_hd)), (mm, .inr (11, fs_mm)), (mb, .inl (cM, 900, .inl fM))] H := hP
        have hD : va_D A [(rd, .inr (6, fs_rd)), (tp, .inr (9, fs_tp)), (ba, .inl (cB, 900, .inl fb)), (li, .inr (3, fs_li)), (ho, .inr (4, fs_ho)), (dr, .inr (3, fs_dr)), (hd, .inr (4, fs_hd)), (mm, .inr (11, fs_mm)), (mb, .inl (cM, 900, .inl fM))] := hD
        have er_137 : r_137 = f_X11_counted u0 w0 (xs (1 : Int32).toNatClampNeg) (xs (2 : Int32).toNatClampNeg) (xs (3 : Int32).toNatClampNeg) 1 := hw
        refine lv_aload_n hx hb dL_law_577 rfl (lv_at hl 2 rfl) ?_
        refine lv_aload_n hx hb dL_law_578 rfl (lv_at hl 4 rfl) ?_
        refine lv_iload hx hb dL_law_579 (lv_at hl 0 rfl) ?_
        refine lv_iconst (v := 1) hx hb dL_law_581 (by decide) ?_
        refine lv_iadd hx hb dL_law_582 ?_
        refine lv_topi (fun z_138 ez_138 => ?_)
        obtain rfl : z_138 = 1 := ez_138.trans (by decide)
        refine va_sld hx hb hX hbl hbA hS (vp_in_nI (n := 1) (by decide) (by decide)) dL_law_583 ?_
        refine lv_aload_n hx hb dL_law_584 rfl (lv_at hl 4 rfl) ?_
        refine lv_iload hx hb dL_law_585 (lv_at hl 0 rfl) ?_
        refine lv_iconst (v := 2) hx hb dL_law_587 (by decide) ?_
        refine lv_iadd hx hb dL_law_588 ?_
        refine lv_topi (fun z_139 ez_139 => ?_)
        obtain rfl : z_139 = 2 := ez_139.trans (by decide)
        refine va_sld hx hb hX hbl hbA hS (vp_in_nI (n := 2) (by decide) (by decide)) dL_law_589 ?_
        refine lv_aload_n hx hb dL_law_590 rfl (lv_at hl 4 rfl) ?_
        refine lv_iload hx hb dL_law_591 (lv_at hl 0 rfl) ?_
        refine lv_iconst (v := 3) hx hb dL_law_593 (by decide) ?_
        refine lv_iadd hx hb dL_law_594 ?_
        refine lv_topi (fun z_140 ez_140 => ?_)
        obtain rfl : z_140 = 3 := ez_140.trans (by decide)
        refine va_sld hx hb hX hbl hbA hS (vp_in_nI (n := 3) (by decide) (by decide)) dL_law_595 ?_
        refine lv_aload_n hx hb dL_law_596 rfl (lv_at hl 4 rfl) ?_
        refine lv_iload hx hb dL_law_597 (lv_at hl 0 rfl) ?_
        refine lv_iconst (v := 4) hx hb dL_law_599 (by decide) ?_
        refine lv_iadd hx hb dL_law_600 ?_
        refine lv_topi (fun z_141 ez_141 => ?_)
        obtain rfl : z_141 = 4 := ez_141.trans (by decide)
        refine va_sld hx hb hX hbl hbA hS (vp_in_nI (n := 4) (by decide) (by decide)) dL_law_601 ?_
        refine lv_if_eq (tgt := 609) hx hb dL_law_602 (by decide) (fun c_142 => ?_) (fun c_142 => ?_)
        · exact absurd c_142 c_124
        · refine lv_iconst (v := 1) hx hb dL_law_605 (by decide) ?_
          refine lv_goto (tgt := 610) hx hb dL_law_606 (by decide) ?_
          have hPc := hP.sub (ws' := [(mm, .inr (11, fs_mm))]) [7] rfl
          have hDc := hD.sub (ws' := [(mm, .inr (11, fs_mm))]) [7] (by decide) rfl
          have hKc := hK.sub (tys' := []) [] rfl
          have hFc := va_free (wc := [(mm, .inr (11, fs_mm))]) hD hS hA [7] rfl
          refine va_calll (va_runV (As := [.int (xs (1 : Int32).toNatClampNeg), .int (xs (2 : Int32).toNatClampNeg), .int (xs (3 : Int32).toNatClampNeg), .int 1]) (rest := [.long r_137]) ⟨hx, hb, hml, hown, hts⟩ (k_X12_counted l dC dI H.size mm fs_mm (xs (1 : Int32).toNatClampNeg) (xs (2 : Int32).toNatClampNeg) (xs (3 : Int32).toNatClampNeg) 1 hn_mm) (cwV 4 hts gL0_X12_counted rfl rfl rfl (by decide +kernel) ⟨Nat.le_of_ble_eq_true rfl, Nat.le_of_ble_eq_true rfl⟩) ⟨fun a U g mk q => by obtain ⟨q0, q1, qP, qK, qD⟩ := q; exact ⟨q0, q1, qP, va_K.moved (u := U) (U := U.calling g mk a) (Vm.Alike.refl U.vm) qK, qD⟩, va_recv hKc hPc (ci := 11) (q0 := 0) rfl rfl, fun U hU hW => ⟨rfl, by rw [hU], by rw [hU]; exact hPc, va_K.moved hW.alike hKc, hDc.weaken (fun _ _ _ _ => trivial)⟩⟩ rfl rfl hl.1 rfl (lv_room (Nat.le_of_ble_eq_true rfl)) dL_law_610 ⟨Nat.le_of_ble_eq_true rfl, Nat.le_of_ble_eq_true rfl⟩) hS (fun q _ h => hFc q h) hFc (fun r_143 u t H1 locs ht hvm hw hB hz1 hk1 hS => ?_)
          obtain ⟨hP1, hK1, hD1⟩ := hB
          rw [ht] at hP1
          have hK1 := va_K.moved hvm.symm hK1
          obtain ⟨hP, hD⟩ := va_join (wr := [(rd, .inr (6, fs_rd)), (tp, .inr (9, fs_tp)), (ba, .inl (cB, 900, .inl fb)), (li, .inr (3, fs_li)), (ho, .inr (4, fs_ho)), (dr, .inr (3, fs_dr)), (hd, .inr (4, fs_hd)), (mb, .inl (cM, 900, .inl fM))]) (w1 := []) hP hD [7] [0, 1, 2, 3, 4, 5, 6, 8] rfl rfl (by decide) (by decide) hk1 hFc hP1 hD1
          generalize H1 = H at hP hS ⊢
          have hP : va_P (dC, dI) vwCl [(rd, .inr (6, fs_rd)), (tp, .inr (9, fs_tp)), (ba, .inl (cB, 900, .inl fb)), (li, .inr (3, fs_li)), (ho, .inr (4, fs_ho)), (dr, .inr (3, fs_dr)), (hd, .inr (4, fs_hd)), (mb, .inl (cM, 900, .inl fM))] H := hP
          have hD : va_D A [(rd, .inr (6, fs_rd)), (tp, .inr (9, fs_tp)), (ba, .inl (cB, 900, .inl fb)), (li, .inr (3, fs_li)), (ho, .inr (4, fs_ho)), (dr, .inr (3, fs_dr)), (hd, .inr (4, fs_hd)), (mb, .inl (cM, 900, .inl fM))] := hD
          have er_143 : r_143 = f_X12_counted (xs (1 : Int32).toNatClampNeg) (xs (2 : Int32).toNatClampNeg) (xs (3 : Int32).toNatClampNeg) 1 := hw
          refine W.lcmp hx hb dL_law_613 ?_
          refine lv_if_eq (tgt := 1893) hx hb dL_law_614 (by decide) (fun c_144 => ?_) (fun c_144 => ?_)
          · refine lv_iinc (v := 6) (lv' := [(4, .int 6), (3, .ref lo), (2, .ref mm), (1, .ref x), (0, .ref b)]) hx hb dL_law_1893 hl (k := 0) rfl (by decide) (by decide) rfl (fun ls hl => ?_)
            refine lv_goto (tgt := 23) hx hb dL_law_1896 (by decide) ?_
            refine lv_iload hx hb dL_law_23 (lv_at hl 0 rfl) ?_
            refine lv_aload_n hx hb dL_law_25 rfl (lv_at hl 4 rfl) ?_
            refine va_slen hx hb hX hbl hbA hS dL_law_26 ?_
            refine lv_topi (fun z_146 ez_146 => ?_)
            obtain rfl : z_146 = 6 := ez_146.trans rfl
            refine lv_bipush (v := 6) hx hb dL_law_27 (by decide) ?_
            refine lv_isub hx hb dL_law_29 ?_
            refine lv_topi (fun z_147 ez_147 => ?_)
            obtain rfl : z_147 = 0 := ez_147.trans (by decide)
            refine lv_icmp_gt (tgt := 1899) hx hb dL_law_30 (by decide) (fun c_148 => ?_) (fun c_148 => ?_)
            · refine lv_iconst (v := 1) hx hb dL_law_1899 (by decide) ?_
              refine va_forget (fun q hq => by have h9 := hS.2.2 q hq; rw [← hAe] at h9; exact h9) ?_
              refine W.widen (k := 600002) (n := 7302232) (Nat.le_of_ble_eq_true rfl) (Nat.le_of_ble_eq_true rfl) ?_
              exact lw_ret hd0 hx hb hr hlocks dL_law_1900
            · exact absurd (by decide) c_148
          · exact absurd ((lg_cmp_eq _ _).mpr (er_137.trans ((q_counted _ _ _ _ _ _).trans er_143.symm))) c_144
    by_cases c_149 : ((xs (0 : Int32).toNatClampNeg) &&& 63) = 10
    · refine lv_tableIn (tgt := 619) hx hb dL_law_40 (by rw [c_149]; decide) (by rw [c_149]; decide) (by rw [c_149]; rfl) (by decide) ?_
      refine lv_aload_n hx hb dL_law_619 rfl (lv_at hl 3 rfl) ?_
      refine lv_aload_n hx hb dL_law_620 rfl (lv_at hl 4 rfl) ?_
      refine lv_iload hx hb dL_law_621 (lv_at hl 0 rfl) ?_
      refine lv_iconst (v := 1) hx hb dL_law_623 (by decide) ?_
      refine lv_iadd hx hb dL_law_624 ?_
      refine lv_topi (fun z_150 ez_150 => ?_)
      obtain rfl : z_150 = 1 := ez_150.trans (by decide)
      refine va_sld hx hb hX hbl hbA hS (vp_in_nI (n := 1) (by decide) (by decide)) dL_law_625 ?_
      refine lv_aload_n hx hb dL_law_626 rfl (lv_at hl 4 rfl) ?_
      refine lv_iload hx hb dL_law_627 (lv_at hl 0 rfl) ?_
      refine lv_iconst (v := 2) hx hb dL_law_629 (by decide) ?_
      refine lv_iadd hx hb dL_law_630 ?_
      refine lv_topi (fun z_151 ez_151 => ?_)
      obtain rfl : z_151 = 2 := ez_151.trans (by decide)
      refine va_sld hx hb hX hbl hbA hS (vp_in_nI (n := 2) (by decide) (by decide)) dL_law_631 ?_
      have hPc := hP.sub (ws' := [(x, .inr (10, fs_x)), (rd, .inr (6, fs_rd)), (tp, .inr (9, fs_tp)), (ra, .inr (5, [.long u0, .long w0])), (li, .inr (3, fs_li)), (ho, .inr (4, fs_ho)), (dr, .inr (3, fs_dr)), (hd, .inr (4, fs_hd))]) [0, 1, 2, 4, 5, 6, 7, 8] rfl
      have hDc := hD.sub (ws' := [(x, .inr (10, fs_x)), (rd, .inr (6, fs_rd)), (tp, .inr (9, fs_tp)), (ra, .inr (5, [.long u0, .long w0])), (li, .inr (3, fs_li)), (ho, .inr (4, fs_ho)), (dr, .inr (3, fs_dr)), (hd, .inr (4, fs_hd))]) [0, 1, 2, 4, 5, 6, 7, 8] (by decide) rfl
      have hKc := hK.sub (tys' := []) [] rfl
      have hFc := va_free (wc := [(x, .inr (10, fs_x)), (rd, .inr (6, fs_rd)), (tp, .inr (9, fs_tp)), (ra, .inr (5, [.long u0, .long w0])), (li, .inr (3, fs_li)), (ho, .inr (4, fs_ho)), (dr, .inr (3, fs_dr)), (hd, .inr (4, fs_hd))]) hD hS hA [0, 1, 2, 4, 5, 6, 7, 8] rfl
      refine va_calli (va_runV (As := [.int (xs (1 : Int32).toNatClampNeg), .int (xs (2 : Int32).toNatClampNeg)]) (rest := []) ⟨hx, hb, hml, hown, hts⟩ (k_X11_bond l dC dI H.size x fs_x rd fs_rd tp fs_tp ra [.long u0, .long w0] li fs_li ho fs_ho dr fs_dr hd fs_hd (xs (1 : Int32).toNatClampNeg) (xs (2 : Int32).toNatClampNeg) hn_x hf_x_0 hf_x_3 hf_x_8 hf_x_9 hf_x_10 hn_rd hf_rd_0 hn_tp rfl hn_li hf_li_2 hn_ho hn_dr hf_dr_2 hn_hd) (cwV 2 hts gL0_X11_bond rfl rfl rfl (by decide +kernel) ⟨Nat.le_of_ble_eq_true rfl, Nat.le_of_ble_eq_true rfl⟩) ⟨fun a U g mk q => by obtain ⟨q0, q1, qP, qK, qD⟩ := q; exact ⟨q0, q1, qP, va_K.moved (u := U) (U := U.calling g mk a) (Vm.Alike.refl U.vm) qK, qD⟩, va_recv hKc hPc (ci := 10) (q0 := 0) rfl rfl, fun U hU hW => ⟨rfl, by rw [hU], by rw [hU]; exact hPc, va_K.moved hW.alike hKc, hDc.weaken (fun _ _ _ _ => trivial)⟩⟩ rfl rfl hl.1 rfl (lv_room (Nat.le_of_ble_eq_true rfl)) dL_law_632 ⟨Nat.le_of_ble_eq_true rfl, Nat.le_of_ble_eq_true rfl⟩) hS (fun q _ h => hFc q h) hFc (fun r_152 u t H1 locs ht hvm hw hB hz1 hk1 hS => ?_)
      obtain ⟨hP1, hK1, hD1⟩ := hB
      rw [ht] at hP1
      have hK1 := va_K.moved hvm.symm hK1
      obtain ⟨hP, hD⟩ := va_join (wr := [(ba, .inl (cB, 900, .inl fb)), (mm, .inr (11, fs_mm)), (mb, .inl (cM, 900, .inl fM))]) (w1 := []) hP hD [0, 1, 2, 4, 5, 6, 7, 8] [3, 9, 10] rfl rfl (by decide) (by decide) hk1 hFc hP1 hD1
      generalize H1 = H at hP hS ⊢
      have hP : va_P (dC, dI) vwCl [(ba, .inl (cB, 900, .inl fb)), (mm, .inr (11, fs_mm)), (mb, .inl (cM, 900, .inl fM))] H := hP
      have hD : va_D A [(ba, .inl (cB, 900, .inl fb)), (mm, .inr (11, fs_mm)), (mb, .inl (cM, 900, .inl fM))] := hD
      have er_152 : r_152 = (-1) := hw
      subst er_152
      refine lv_aload_n hx hb dL_law_635 rfl (lv_at hl 2 rfl) ?_
      refine lv_aload_n hx hb dL_law_636 rfl (lv_at hl 4 rfl) ?_
      refine lv_iload hx hb dL_law_637 (lv_at hl 0 rfl) ?_
      refine lv_iconst (v := 1) hx hb dL_law_639 (by decide) ?_
      refine lv_iadd hx hb dL_law_640 ?_
      refine lv_topi (fun z_153 ez_153 => ?_)
      obtain rfl : z_153 = 1 := ez_153.trans (by decide)
      refine va_sld hx hb hX hbl hbA hS (vp_in_nI (n := 1) (by decide) (by decide)) dL_law_641 ?_
      refine lv_aload_n hx hb dL_law_642 rfl (lv_at hl 4 rfl) ?_
      refine lv_iload hx hb dL_law_643 (lv_at hl 0 rfl) ?_
      refine lv_iconst (v := 2) hx hb dL_law_645 (by decide) ?_
      refine lv_iadd hx hb dL_law_646 ?_
      refine lv_topi (fun z_154 ez_154 => ?_)
      obtain rfl : z_154 = 2 := ez_154.trans (by decide)
      refine va_sld hx hb hX hbl hbA hS (vp_in_nI (n := 2) (by decide) (by decide)) dL_law_647 ?_
      have hPc := hP.sub (ws' := [(mm, .inr (11, fs_mm))]) [1] rfl
      have hDc := hD.sub (ws' := [(mm, .inr (11, fs_mm))]) [1] (by decide) rfl
      have hKc := hK.sub (tys' := []) [] rfl
      have hFc := va_free (wc := [(mm, .inr (11, fs_mm))]) hD hS hA [1] rfl
      refine va_calli (va_runV (As := [.int (xs (1 : Int32).toNatClampNeg), .int (xs (2 : Int32).toNatClampNeg)]) (rest := [.int (-1)]) ⟨hx, hb, hml, hown, hts⟩ (k_X12_bond l dC dI H.size mm fs_mm (xs (1 : Int32).toNatClampNeg) (xs (2 : Int32).toNatClampNeg) hn_mm hf_mm_20) (cwV 2 hts gL0_X12_bond rfl rfl rfl (by decide +kernel) ⟨Nat.le_of_ble_eq_true rfl, Nat.le_of_ble_eq_true rfl⟩) ⟨fun a U g mk q => by obtain ⟨q0, q1, qP, qK, qD⟩ := q; exact ⟨q0, q1, qP, va_K.moved (u := U) (U := U.calling g mk a) (Vm.Alike.refl U.vm) qK, qD⟩, va_recv hKc hPc (ci := 11) (q0 := 0) rfl rfl, fun U hU hW => ⟨rfl, by rw [hU], by rw [hU]; exact hPc, va_K.moved hW.alike hKc, hDc.weaken (fun _ _ _ _ => trivial)⟩⟩ rfl rfl hl.1 rfl (lv_room (Nat.le_of_ble_eq_true rfl)) dL_law_648 ⟨Nat.le_of_ble_eq_true rfl, Nat.le_of_ble_eq_true rfl⟩) hS (fun q _ h => hFc q h) hFc (fun r_155 u t H1 locs ht hvm hw hB hz1 hk1 hS => ?_)
      obtain ⟨hP1, hK1, hD1⟩ := hB
      rw [ht] at hP1
      have hK1 := va_K.moved hvm.symm hK1
      obtain ⟨hP, hD⟩ := va_join (wr := [(ba, .inl (cB, 900, .inl fb)), (mb, .inl (cM, 900, .inl fM))]) (w1 := []) hP hD [1] [0, 2] rfl rfl (by decide) (by decide) hk1 hFc hP1 hD1
      generalize H1 = H at hP hS ⊢
      have hP : va_P (dC, dI) vwCl [(ba, .inl (cB, 900, .inl fb)), (mb, .inl (cM, 900, .inl fM))] H := hP
      have hD : va_D A [(ba, .inl (cB, 900, .inl fb)), (mb, .inl (cM, 900, .inl fM))] := hD
      have er_155 : r_155 = (-1) := hw
      subst er_155
      refine lv_icmp_eq (tgt := 1893) hx hb dL_law_651 (by decide) (fun c_156 => ?_) (fun c_156 => ?_)
      · refine lv_iinc (v := 6) (lv' := [(4, .int 6), (3, .ref lo), (2, .ref mm), (1, .ref x), (0, .ref b)]) hx hb dL_law_1893 hl (k := 0) rfl (by decide) (by decide) rfl (fun ls hl => ?_)
        refine lv_goto (tgt := 23) hx hb dL_law_1896 (by decide) ?_
        refine lv_iload hx hb dL_law_23 (lv_at hl 0 rfl) ?_
        refine lv_aload_n hx hb dL_law_25 rfl (lv_at hl 4 rfl) ?_
        refine va_slen hx hb hX hbl hbA hS dL_law_26 ?_
        refine lv_topi (fun z_158 ez_158 => ?_)
        obtain rfl : z_158 = 6 := ez_158.trans rfl
        refine lv_bipush (v := 6) hx hb dL_law_27 (by decide) ?_
        refine lv_isub hx hb dL_law_29 ?_
        refine lv_topi (fun z_159 ez_159 => ?_)
        obtain rfl : z_159 = 0 := ez_159.trans (by decide)
        refine lv_icmp_gt (tgt := 1899) hx hb dL_law_30 (by decide) (fun c_160 => ?_) (fun c_160 => ?_)
        · refine lv_iconst (v := 1) hx hb dL_law_1899 (by decide) ?_
          refine va_forget (fun q hq => by have h9 := hS.2.2 q hq; rw [← hAe] at h9; exact h9) ?_
          refine W.widen (k := 600002) (n := 7302232) (Nat.le_of_ble_eq_true rfl) (Nat.le_of_ble_eq_true rfl) ?_
          exact lw_ret hd0 hx hb hr hlocks dL_law_1900
        · exact absurd (by decide) c_160
      · exact absurd (by decide) c_156
    by_cases c_161 : ((xs (0 : Int32).toNatClampNeg) &&& 63) = 11
    · refine lv_tableIn (tgt := 656) hx hb dL_law_40 (by rw [c_161]; decide) (by rw [c_161]; decide) (by rw [c_161]; rfl) (by decide) ?_
      refine lv_aload_n hx hb dL_law_656 rfl (lv_at hl 3 rfl) ?_
      refine lv_aload_n hx hb dL_law_657 rfl (lv_at hl 4 rfl) ?_
      refine lv_iload hx hb dL_law_658 (lv_at hl 0 rfl) ?_
      refine lv_iconst (v := 1) hx hb dL_law_660 (by decide) ?_
      refine lv_iadd hx hb dL_law_661 ?_
      refine lv_topi (fun z_162 ez_162 => ?_)
      obtain rfl : z_162 = 1 := ez_162.trans (by decide)
      refine va_sld hx hb hX hbl hbA hS (vp_in_nI (n := 1) (by decide) (by decide)) dL_law_662 ?_
      refine lv_aload_n hx hb dL_law_663 rfl (lv_at hl 4 rfl) ?_
      refine lv_iload hx hb dL_law_664 (lv_at hl 0 rfl) ?_
      refine lv_iconst (v := 2) hx hb dL_law_666 (by decide) ?_
      refine lv_iadd hx hb dL_law_667 ?_
      refine lv_topi (fun z_163 ez_163 => ?_)
      obtain rfl : z_163 = 2 := ez_163.trans (by decide)
      refine va_sld hx hb hX hbl hbA hS (vp_in_nI (n := 2) (by decide) (by decide)) dL_law_668 ?_
      have hPc := hP.sub (ws' := [(x, .inr (10, fs_x)), (rd, .inr (6, fs_rd)), (tp, .inr (9, fs_tp)), (ra, .inr (5, [.long u0, .long w0])), (li, .inr (3, fs_li)), (ho, .inr (4, fs_ho)), (dr, .inr (3, fs_dr)), (hd, .inr (4, fs_hd))]) [0, 1, 2, 4, 5, 6, 7, 8] rfl
      have hDc := hD.sub (ws' := [(x, .inr (10, fs_x)), (rd, .inr (6, fs_rd)), (tp, .inr (9, fs_tp)), (ra, .inr (5, [.long u0, .long w0])), (li, .inr (3, fs_li)), (ho, .inr (4, fs_ho)), (dr, .inr (3, fs_dr)), (hd, .inr (4, fs_hd))]) [0, 1, 2, 4, 5, 6, 7, 8] (by decide) rfl
      have hKc := hK.sub (tys' := []) [] rfl
      have hFc := va_free (wc := [(x, .inr (10, fs_x)), (rd, .inr (6, fs_rd)), (tp, .inr (9, fs_tp)), (ra, .inr (5, [.long u0, .long w0])), (li, .inr (3, fs_li)), (ho, .inr (4, fs_ho)), (dr, .inr (3, fs_dr)), (hd, .inr (4, fs_hd))]) hD hS hA [0, 1, 2, 4, 5, 6, 7, 8] rfl
      refine va_calli (va_runV (As := [.int (xs (1 : Int32).toNatClampNeg), .int (xs (2 : Int32).toNatClampNeg)]) (rest := []) ⟨hx, hb, hml, hown, hts⟩ (k_X11_grid l dC dI H.size x fs_x rd fs_rd tp fs_tp ra [.long u0, .long w0] li fs_li ho fs_ho dr fs_dr hd fs_hd (xs (1 : Int32).toNatClampNeg) (xs (2 : Int32).toNatClampNeg) hn_x hf_x_0 hf_x_3 hf_x_8 hf_x_9 hf_x_10 hn_rd hf_rd_0 hn_tp rfl hn_li hf_li_2 hn_ho hn_dr hf_dr_2 hn_hd) (cwV 2 hts gL0_X11_grid rfl rfl rfl (by decide +kernel) ⟨Nat.le_of_ble_eq_true rfl, Nat.le_of_ble_eq_true rfl⟩) ⟨fun a U g mk q => by obtain ⟨q0, q1, qP, qK, qD⟩ := q; exact ⟨q0, q1, qP, va_K.moved (u := U) (U := U.calling g mk a) (Vm.Alike.refl U.vm) qK, qD⟩, va_recv hKc hPc (ci := 10) (q0 := 0) rfl rfl, fun U hU hW => ⟨rfl, by rw [hU], by rw [hU]; exact hPc, va_K.moved hW.alike hKc, hDc.weaken (fun _ _ _ _ => trivial)⟩⟩ rfl rfl hl.1 rfl (lv_room (Nat.le_of_ble_eq_true rfl)) dL_law_669 ⟨Nat.le_of_ble_eq_true rfl, Nat.le_of_ble_eq_true rfl⟩) hS (fun q _ h => hFc q h) hFc (fun r_164 u t H1 locs ht hvm hw hB hz1 hk1 hS => ?_)
      obtain ⟨hP1, hK1, hD1⟩ := hB
      rw [ht] at hP1
      have hK1 := va_K.moved hvm.symm hK1
      obtain ⟨hP, hD⟩ := va_join (wr := [(ba, .inl (cB, 900, .inl fb)), (mm, .inr (11, fs_mm)), (mb, .inl (cM, 900, .inl fM))]) (w1 := []) hP hD [0, 1, 2, 4, 5, 6, 7, 8] [3, 9, 10] rfl rfl (by decide) (by decide) hk1 hFc hP1 hD1
      generalize H1 = H at hP hS ⊢
      have hP : va_P (dC, dI) vwCl [(ba, .inl (cB, 900, .inl fb)), (mm, .inr (11, fs_mm)), (mb, .inl (cM, 900, .inl fM))] H := hP
      have hD : va_D A [(ba, .inl (cB, 900, .inl fb)), (mm, .inr (11, fs_mm)), (mb, .inl (cM, 900, .inl fM))] := hD
      have er_164 : r_164 = (-1) := hw
      subst er_164
      refine lv_aload_n hx hb dL_law_672 rfl (lv_at hl 2 rfl) ?_
      refine lv_aload_n hx hb dL_law_673 rfl (lv_at hl 4 rfl) ?_
      refine lv_iload hx hb dL_law_674 (lv_at hl 0 rfl) ?_
      refine lv_iconst (v := 1) hx hb dL_law_676 (by decide) ?_
      refine lv_iadd hx hb dL_law_677 ?_
      refine lv_topi (fun z_165 ez_165 => ?_)
      obtain rfl : z_165 = 1 := ez_165.trans (by decide)
      refine va_sld hx hb hX hbl hbA hS (vp_in_nI (n := 1) (by decide) (by decide)) dL_law_678 ?_
      refine lv_aload_n hx hb dL_law_679 rfl (lv_at hl 4 rfl) ?_
      refine lv_iload hx hb dL_law_680 (lv_at hl 0 rfl) ?_
      refine lv_iconst (v := 2) hx hb dL_law_682 (by decide) ?_
      refine lv_iadd hx hb dL_law_683 ?_
      refine lv_topi (fun z_166 ez_166 => ?_)
      obtain rfl : z_166 = 2 := ez_166.trans (by decide)
      refine va_sld hx hb hX hbl hbA hS (vp_in_nI (n := 2) (by decide) (by decide)) dL_law_684 ?_
      have hPc := hP.sub (ws' := [(mm, .inr (11, fs_mm))]) [1] rfl
      have hDc := hD.sub (ws' := [(mm, .inr (11, fs_mm))]) [1] (by decide) rfl
      have hKc := hK.sub (tys' := []) [] rfl
      have hFc := va_free (wc := [(mm, .inr (11, fs_mm))]) hD hS hA [1] rfl
      refine va_calli (va_runV (As := [.int (xs (1 : Int32).toNatClampNeg), .int (xs (2 : Int32).toNatClampNeg)]) (rest := [.int (-1)]) ⟨hx, hb, hml, hown, hts⟩ (k_X12_grid l dC dI H.size mm fs_mm (xs (1 : Int32).toNatClampNeg) (xs (2 : Int32).toNatClampNeg) hn_mm hf_mm_20) (cwV 2 hts gL0_X12_grid rfl rfl rfl (by decide +kernel) ⟨Nat.le_of_ble_eq_true rfl, Nat.le_of_ble_eq_true rfl⟩) ⟨fun a U g mk q => by obtain ⟨q0, q1, qP, qK, qD⟩ := q; exact ⟨q0, q1, qP, va_K.moved (u := U) (U := U.calling g mk a) (Vm.Alike.refl U.vm) qK, qD⟩, va_recv hKc hPc (ci := 11) (q0 := 0) rfl rfl, fun U hU hW => ⟨rfl, by rw [hU], by rw [hU]; exact hPc, va_K.moved hW.alike hKc, hDc.weaken (fun _ _ _ _ => trivial)⟩⟩ rfl rfl hl.1 rfl (lv_room (Nat.le_of_ble_eq_true rfl)) dL_law_685 ⟨Nat.le_of_ble_eq_true rfl, Nat.le_of_ble_eq_true rfl⟩) hS (fun q _ h => hFc q h) hFc (fun r_167 u t H1 locs ht hvm hw hB hz1 hk1 hS => ?_)
      obtain ⟨hP1, hK1, hD1⟩ := hB
      rw [ht] at hP1
      have hK1 := va_K.moved hvm.symm hK1
      obtain ⟨hP, hD⟩ := va_join (wr := [(ba, .inl (cB, 900, .inl fb)), (mb, .inl (cM, 900, .inl fM))]) (w1 := []) hP hD [1] [0, 2] rfl rfl (by decide) (by decide) hk1 hFc hP1 hD1
      generalize H1 = H at hP hS ⊢
      have hP : va_P (dC, dI) vwCl [(ba, .inl (cB, 900, .inl fb)), (mb, .inl (cM, 900, .inl fM))] H := hP
      have hD : va_D A [(ba, .inl (cB, 900, .inl fb)), (mb, .inl (cM, 900, .inl fM))] := hD
      have er_167 : r_167 = (-1) := hw
      subst er_167
      refine lv_icmp_eq (tgt := 1893) hx hb dL_law_688 (by decide) (fun c_168 => ?_) (fun c_168 => ?_)
      · refine lv_iinc (v := 6) (lv' := [(4, .int 6), (3, .ref lo), (2, .ref mm), (1, .ref x), (0, .ref b)]) hx hb dL_law_1893 hl (k := 0) rfl (by decide) (by decide) rfl (fun ls hl => ?_)
        refine lv_goto (tgt := 23) hx hb dL_law_1896 (by decide) ?_
        refine lv_iload hx hb dL_law_23 (lv_at hl 0 rfl) ?_
        refine lv_aload_n hx hb dL_law_25 rfl (lv_at hl 4 rfl) ?_
        refine va_slen hx hb hX hbl hbA hS dL_law_26 ?_
        refine lv_topi (fun z_170 ez_170 => ?_)
        obtain rfl : z_170 = 6 := ez_170.trans rfl
        refine lv_bipush (v := 6) hx hb dL_law_27 (by decide) ?_
        refine lv_isub hx hb dL_law_29 ?_
        refine lv_topi (fun z_171 ez_171 => ?_)
        obtain rfl : z_171 = 0 := ez_171.trans (by decide)
        refine lv_icmp_gt (tgt := 1899) hx hb dL_law_30 (by decide) (fun c_172 => ?_) (fun c_172 => ?_)
        · refine lv_iconst (v := 1) hx hb dL_law_1899 (by decide) ?_
          refine va_forget (fun q hq => by have h9 := hS.2.2 q hq; rw [← hAe] at h9; exact h9) ?_
          refine W.widen (k := 600002) (n := 7302232) (Nat.le_of_ble_eq_true rfl) (Nat.le_of_ble_eq_true rfl) ?_
          exact lw_ret hd0 hx hb hr hlocks dL_law_1900
        · exact absurd (by decide) c_172
      · exact absurd (by decide) c_168
    by_cases c_173 : ((xs (0 : Int32).toNatClampNeg) &&& 63) = 12
    · refine lv_tableIn (tgt := 693) hx hb dL_law_40 (by rw [c_173]; decide) (by rw [c_173]; decide) (by rw [c_173]; rfl) (by decide) ?_
      refine lv_aload_n hx hb dL_law_693 rfl (lv_at hl 3 rfl) ?_
      refine lv_aload_n hx hb dL_law_694 rfl (lv_at hl 4 rfl) ?_
      refine lv_iload hx hb dL_law_695 (lv_at hl 0 rfl) ?_
      refine lv_iconst (v := 1) hx hb dL_law_697 (by decide) ?_
      refine lv_iadd hx hb dL_law_698 ?_
      refine lv_topi (fun z_174 ez_174 => ?_)
      obtain rfl : z_174 = 1 := ez_174.trans (by decide)
      refine va_sld hx hb hX hbl hbA hS (vp_in_nI (n := 1) (by decide) (by decide)) dL_law_699 ?_
      refine lv_aload_n hx hb dL_law_700 rfl (lv_at hl 4 rfl) ?_
      refine lv_iload hx hb dL_law_701 (lv_at hl 0 rfl) ?_
      refine lv_iconst (v := 2) hx hb dL_law_703 (by decide) ?_
      refine lv_iadd hx hb dL_law_704 ?_
      refine lv_topi (fun z_175 ez_175 => ?_)
      obtain rfl : z_175 = 2 := ez_175.trans (by decide)
      refine va_sld hx hb hX hbl hbA hS (vp_in_nI (n := 2) (by decide) (by decide)) dL_law_705 ?_
      refine lv_aload_n hx hb dL_law_706 rfl (lv_at hl 4 rfl) ?_
      refine lv_iload hx hb dL_law_707 (lv_at hl 0 rfl) ?_
      refine lv_iconst (v := 3) hx hb dL_law_709 (by decide) ?_
      refine lv_iadd hx hb dL_law_710 ?_
      refine lv_topi (fun z_176 ez_176 => ?_)
      obtain rfl : z_176 = 3 := ez_176.trans (by decide)
      refine va_sld hx hb hX hbl hbA hS (vp_in_nI (n := 3) (by decide) (by decide)) dL_law_711 ?_
      have hPc := hP.sub (ws' := [(x, .inr (10, fs_x)), (rd, .inr (6, fs_rd)), (tp, .inr (9, fs_tp)), (ra, .inr (5, [.long u0, .long w0])), (li, .inr (3, fs_li)), (ho, .inr (4, fs_ho)), (dr, .inr (3, fs_dr)), (hd, .inr (4, fs_hd))]) [0, 1, 2, 4, 5, 6, 7, 8] rfl
      have hDc := hD.sub (ws' := [(x, .inr (10, fs_x)), (rd, .inr (6, fs_rd)), (tp, .inr (9, fs_tp)), (ra, .inr (5, [.long u0, .long w0])), (li, .inr (3, fs_li)), (ho, .inr (4, fs_ho)), (dr, .inr (3, fs_dr)), (hd, .inr (4, fs_hd))]) [0, 1, 2, 4, 5, 6, 7, 8] (by decide) rfl
      have hKc := hK.sub (tys' := []) [] rfl
      have hFc := va_free (wc := [(x, .inr (10, fs_x)), (rd, .inr (6, fs_rd)), (tp, .inr (9, fs_tp)), (ra, .inr (5, [.long u0, .long w0])), (li, .inr (3, fs_li)), (ho, .inr (4, fs_ho)), (dr, .inr (3, fs_dr)), (hd, .inr (4, fs_hd))]) hD hS hA [0, 1, 2, 4, 5, 6, 7, 8] rfl
      refine va_calli (va_runV (As := [.int (xs (1 : Int32).toNatClampNeg), .int (xs (2 : Int32).toNatClampNeg), .int (xs (3 : Int32).toNatClampNeg)]) (rest := []) ⟨hx, hb, hml, hown, hts⟩ (k_X11_period l dC dI H.size x fs_x rd fs_rd tp fs_tp ra [.long u0, .long w0] li fs_li ho fs_ho dr fs_dr hd fs_hd (xs (1 : Int32).toNatClampNeg) (xs (2 : Int32).toNatClampNeg) (xs (3 : Int32).toNatClampNeg) hn_x hf_x_0 hf_x_3 hf_x_8 hf_x_9 hf_x_10 hn_rd hf_rd_0 hn_tp rfl hn_li hf_li_2 hn_ho hn_dr hf_dr_2 hn_hd) (cwV 3 hts gL0_X11_period rfl rfl rfl (by decide +kernel) ⟨Nat.le_of_ble_eq_true rfl, Nat.le_of_ble_eq_true rfl⟩) ⟨fun a U g mk q => by obtain ⟨q0, q1, qP, qK, qD⟩ := q; exact ⟨q0, q1, qP, va_K.moved (u := U) (U := U.calling g mk a) (Vm.Alike.refl U.vm) qK, qD⟩, va_recv hKc hPc (ci := 10) (q0 := 0) rfl rfl, fun U hU hW => ⟨rfl, by rw [hU], by rw [hU]; exact hPc, va_K.moved hW.alike hKc, hDc.weaken (fun _ _ _ _ => trivial)⟩⟩ rfl rfl hl.1 rfl (lv_room (Nat.le_of_ble_eq_true rfl)) dL_law_712 ⟨Nat.le_of_ble_eq_true rfl, Nat.le_of_ble_eq_true rfl⟩) hS (fun q _ h => hFc q h) hFc (fun r_177 u t H1 locs ht hvm hw hB hz1 hk1 hS => ?_)
      obtain ⟨hP1, hK1, hD1⟩ := hB
      rw [ht] at hP1
      have hK1 := va_K.moved hvm.symm hK1
      obtain ⟨hP, hD⟩ := va_join (wr := [(ba, .inl (cB, 900, .inl fb)), (mm, .inr (11, fs_mm)), (mb, .inl (cM, 900, .inl fM))]) (w1 := []) hP hD [0, 1, 2, 4, 5, 6, 7, 8] [3, 9, 10] rfl rfl (by decide) (by decide) hk1 hFc hP1 hD1
      generalize H1 = H at hP hS ⊢
      have hP : va_P (dC, dI) vwCl [(ba, .inl (cB, 900, .inl fb)), (mm, .inr (11, fs_mm)), (mb, .inl (cM, 900, .inl fM))] H := hP
      have hD : va_D A [(ba, .inl (cB, 900, .inl fb)), (mm, .inr (11, fs_mm)), (mb, .inl (cM, 900, .inl fM))] := hD
      have er_177 : r_177 = (-1) := hw
      subst er_177
      refine lv_aload_n hx hb dL_law_715 rfl (lv_at hl 2 rfl) ?_
      refine lv_aload_n hx hb dL_law_716 rfl (lv_at hl 4 rfl) ?_
      refine lv_iload hx hb dL_law_717 (lv_at hl 0 rfl) ?_
      refine lv_iconst (v := 1) hx hb dL_law_719 (by decide) ?_
      refine lv_iadd hx hb dL_law_720 ?_
      refine lv_topi (fun z_178 ez_178 => ?_)
      obtain rfl : z_178 = 1 := ez_178.trans (by decide)
      refine va_sld hx hb hX hbl hbA hS (vp_in_nI (n := 1) (by decide) (by decide)) dL_law_721 ?_
      refine lv_aload_n hx hb dL_law_722 rfl (lv_at hl 4 rfl) ?_
      refine lv_iload hx hb dL_law_723 (lv_at hl 0 rfl) ?_
      refine lv_iconst (v := 2) hx hb dL_law_725 (by decide) ?_
      refine lv_iadd hx hb dL_law_726 ?_
      refine lv_topi (fun z_179 ez_179 => ?_)
      obtain rfl : z_179 = 2 := ez_179.trans (by decide)
      refine va_sld hx hb hX hbl hbA hS (vp_in_nI (n := 2) (by decide) (by decide)) dL_law_727 ?_
      refine lv_aload_n hx hb dL_law_728 rfl (lv_at hl 4 rfl) ?_
      refine lv_iload hx hb dL_law_729 (lv_at hl 0 rfl) ?_
      refine lv_iconst (v := 3) hx hb dL_law_731 (by decide) ?_
      refine lv_iadd hx hb dL_law_732 ?_
      refine lv_topi (fun z_180 ez_180 => ?_)
      obtain rfl : z_180 = 3 := ez_180.trans (by decide)
      refine va_sld hx hb hX hbl hbA hS (vp_in_nI (n := 3) (by decide) (by decide)) dL_law_733 ?_
      have hPc := hP.sub (ws' := [(mm, .inr (11, fs_mm))]) [1] rfl
      have hDc := hD.sub (ws' := [(mm, .inr (11, fs_mm))]) [1] (by decide) rfl
      have hKc := hK.sub (tys' := []) [] rfl
      have hFc := va_free (wc := [(mm, .inr (11, fs_mm))]) hD hS hA [1] rfl
      refine va_calli (va_runV (As := [.int (xs (1 : Int32).toNatClampNeg), .int (xs (2 : Int32).toNatClampNeg), .int (xs (3 : Int32).toNatClampNeg)]) (rest := [.int (-1)]) ⟨hx, hb, hml, hown, hts⟩ (k_X12_period l dC dI H.size mm fs_mm (xs (1 : Int32).toNatClampNeg) (xs (2 : Int32).toNatClampNeg) (xs (3 : Int32).toNatClampNeg) hn_mm hf_mm_20) (cwV 3 hts gL0_X12_period rfl rfl rfl (by decide +kernel) ⟨Nat.le_of_ble_eq_true rfl, Nat.le_of_ble_eq_true rfl⟩) ⟨fun a U g mk q => by obtain ⟨q0, q1, qP, qK, qD⟩ := q; exact ⟨q0, q1, qP, va_K.moved (u := U) (U := U.calling g mk a) (Vm.Alike.refl U.vm) qK, qD⟩, va_recv hKc hPc (ci := 11) (q0 := 0) rfl rfl, fun U hU hW => ⟨rfl, by rw [hU], by rw [hU]; exact hPc, va_K.moved hW.alike hKc, hDc.weaken (fun _ _ _ _ => trivial)⟩⟩ rfl rfl hl.1 rfl (lv_room (Nat.le_of_ble_eq_true rfl)) dL_law_734 ⟨Nat.le_of_ble_eq_true rfl, Nat.le_of_ble_eq_true rfl⟩) hS (fun q _ h => hFc q h) hFc (fun r_181 u t H1 locs ht hvm hw hB hz1 hk1 hS => ?_)
      obtain ⟨hP1, hK1, hD1⟩ := hB
      rw [ht] at hP1
      have hK1 := va_K.moved hvm.symm hK1
      obtain ⟨hP, hD⟩ := va_join (wr := [(ba, .inl (cB, 900, .inl fb)), (mb, .inl (cM, 900, .inl fM))]) (w1 := []) hP hD [1] [0, 2] rfl rfl (by decide) (by decide) hk1 hFc hP1 hD1
      generalize H1 = H at hP hS ⊢
      have hP : va_P (dC, dI) vwCl [(ba, .inl (cB, 900, .inl fb)), (mb, .inl (cM, 900, .inl fM))] H := hP
      have hD : va_D A [(ba, .inl (cB, 900, .inl fb)), (mb, .inl (cM, 900, .inl fM))] := hD
      have er_181 : r_181 = (-1) := hw
      subst er_181
      refine lv_icmp_eq (tgt := 1893) hx hb dL_law_737 (by decide) (fun c_182 => ?_) (fun c_182 => ?_)
      · refine lv_iinc (v := 6) (lv' := [(4, .int 6), (3, .ref lo), (2, .ref mm), (1, .ref x), (0, .ref b)]) hx hb dL_law_1893 hl (k := 0) rfl (by decide) (by decide) rfl (fun ls hl => ?_)
        refine lv_goto (tgt := 23) hx hb dL_law_1896 (by decide) ?_
        refine lv_iload hx hb dL_law_23 (lv_at hl 0 rfl) ?_
        refine lv_aload_n hx hb dL_law_25 rfl (lv_at hl 4 rfl) ?_
        refine va_slen hx hb hX hbl hbA hS dL_law_26 ?_
        refine lv_topi (fun z_184 ez_184 => ?_)
        obtain rfl : z_184 = 6 := ez_184.trans rfl
        refine lv_bipush (v := 6) hx hb dL_law_27 (by decide) ?_
        refine lv_isub hx hb dL_law_29 ?_
        refine lv_topi (fun z_185 ez_185 => ?_)
        obtain rfl : z_185 = 0 := ez_185.trans (by decide)
        refine lv_icmp_gt (tgt := 1899) hx hb dL_law_30 (by decide) (fun c_186 => ?_) (fun c_186 => ?_)
        · refine lv_iconst (v := 1) hx hb dL_law_1899 (by decide) ?_
          refine va_forget (fun q hq => by have h9 := hS.2.2 q hq; rw [← hAe] at h9; exact h9) ?_
          refine W.widen (k := 600002) (n := 7302232) (Nat.le_of_ble_eq_true rfl) (Nat.le_of_ble_eq_true rfl) ?_
          exact lw_ret hd0 hx hb hr hlocks dL_law_1900
        · exact absurd (by decide) c_186
      · exact absurd (by decide) c_182
    by_cases c_187 : ((xs (0 : Int32).toNatClampNeg) &&& 63) = 13
    · refine lv_tableIn (tgt := 742) hx hb dL_law_40 (by rw [c_187]; decide) (by rw [c_187]; decide) (by rw [c_187]; rfl) (by decide) ?_
      refine lv_aload_n hx hb dL_law_742 rfl (lv_at hl 3 rfl) ?_
      refine lv_aload_n hx hb dL_law_743 rfl (lv_at hl 4 rfl) ?_
      refine lv_iload hx hb dL_law_744 (lv_at hl 0 rfl) ?_
      refine lv_iconst (v := 1) hx hb dL_law_746 (by decide) ?_
      refine lv_iadd hx hb dL_law_747 ?_
      refine lv_topi (fun z_188 ez_188 => ?_)
      obtain rfl : z_188 = 1 := ez_188.trans (by decide)
      refine va_sld hx hb hX hbl hbA hS (vp_in_nI (n := 1) (by decide) (by decide)) dL_law_748 ?_
      refine lv_aload_n hx hb dL_law_749 rfl (lv_at hl 4 rfl) ?_
      refine lv_iload hx hb dL_law_750 (lv_at hl 0 rfl) ?_
      refine lv_iconst (v := 2) hx hb dL_law_752 (by decide) ?_
      refine lv_iadd hx hb dL_law_753 ?_
      refine lv_topi (fun z_189 ez_189 => ?_)
      obtain rfl : z_189 = 2 := ez_189.trans (by decide)
      refine va_sld hx hb hX hbl hbA hS (vp_in_nI (n := 2) (by decide) (by decide)) dL_law_754 ?_
      refine lv_aload_n hx hb dL_law_755 rfl (lv_at hl 4 rfl) ?_
      refine lv_iload hx hb dL_law_756 (lv_at hl 0 rfl) ?_
      refine lv_iconst (v := 3) hx hb dL_law_758 (by decide) ?_
      refine lv_iadd hx hb dL_law_759 ?_
      refine lv_topi (fun z_190 ez_190 => ?_)
      obtain rfl : z_190 = 3 := ez_190.trans (by decide)
      refine va_sld hx hb hX hbl hbA hS (vp_in_nI (n := 3) (by decide) (by decide)) dL_law_760 ?_
      refine lv_if_eq (tgt := 768) hx hb dL_law_761 (by decide) (fun c_191 => ?_) (fun c_191 => ?_)
      · refine lv_iconst (v := 0) hx hb dL_law_768 (by decide) ?_
        have hPc := hP.sub (ws' := [(x, .inr (10, fs_x)), (rd, .inr (6, fs_rd)), (tp, .inr (9, fs_tp)), (ra, .inr (5, [.long u0, .long w0])), (li, .inr (3, fs_li)), (ho, .inr (4, fs_ho)), (dr, .inr (3, fs_dr)), (hd, .inr (4, fs_hd))]) [0, 1, 2, 4, 5, 6, 7, 8] rfl
        have hDc := hD.sub (ws' := [(x, .inr (10, fs_x)), (rd, .inr (6, fs_rd)), (tp, .inr (9, fs_tp)), (ra, .inr (5, [.long u0, .long w0])), (li, .inr (3, fs_li)), (ho, .inr (4, fs_ho)), (dr, .inr (3, fs_dr)), (hd, .inr (4, fs_hd))]) [0, 1, 2, 4, 5, 6, 7, 8] (by decide) rfl
        have hKc := hK.sub (tys' := []) [] rfl
        have hFc := va_free (wc := [(x, .inr (10, fs_x)), (rd, .inr (6, fs_rd)), (tp, .inr (9, fs_tp)), (ra, .inr (5, [.long u0, .long w0])), (li, .inr (3, fs_li)), (ho, .inr (4, fs_ho)), (dr, .inr (3, fs_dr)), (hd, .inr (4, fs_hd))]) hD hS hA [0, 1, 2, 4, 5, 6, 7, 8] rfl
        refine va_calll (va_runV (As := [.int (xs (1 : Int32).toNatClampNeg), .int (xs (2 : Int32).toNatClampNeg), .int 0]) (rest := []) ⟨hx, hb, hml, hown, hts⟩ (k_X11_fraction l dC dI H.size x fs_x rd fs_rd tp fs_tp ra [.long u0, .long w0] li fs_li ho fs_ho dr fs_dr hd fs_hd (xs (1 : Int32).toNatClampNeg) (xs (2 : Int32).toNatClampNeg) 0 hn_x hf_x_0 hf_x_3 hf_x_8 hf_x_9 hf_x_10 hn_rd hf_rd_0 hn_tp rfl hn_li hf_li_2 hn_ho hn_dr hf_dr_2 hn_hd) (cwV 3 hts gL0_X11_fraction rfl rfl rfl (by decide +kernel) ⟨Nat.le_of_ble_eq_true rfl, Nat.le_of_ble_eq_true rfl⟩) ⟨fun a U g mk q => by obtain ⟨q0, q1, qP, qK, qD⟩ := q; exact ⟨q0, q1, qP, va_K.moved (u := U) (U := U.calling g mk a) (Vm.Alike.refl U.vm) qK, qD⟩, va_recv hKc hPc (ci := 10) (q0 := 0) rfl rfl, fun U hU hW => ⟨rfl, by rw [hU], by rw [hU]; exact hPc, va_K.moved hW.alike hKc, hDc.weaken (fun _ _ _ _ => trivial)⟩⟩ rfl rfl hl.1 rfl (lv_room (Nat.le_of_ble_eq_true rfl)) dL_law_769 ⟨Nat.le_of_ble_eq_true rfl, Nat.le_of_ble_eq_true rfl⟩) hS (fun q _ h => hFc q h) hFc (fun r_192 u t H1 locs ht hvm hw hB hz1 hk1 hS => ?_)
        obtain ⟨hP1, hK1, hD1⟩ := hB
        rw [ht] at hP1
        have hK1 := va_K.moved hvm.symm hK1
        obtain ⟨hP, hD⟩ := va_join (wr := [(ba, .inl (cB, 900, .inl fb)), (mm, .inr (11, fs_mm)), (mb, .inl (cM, 900, .inl fM))]) (w1 := []) hP hD [0, 1, 2, 4, 5, 6, 7, 8] [3, 9, 10] rfl rfl (by decide) (by decide) hk1 hFc hP1 hD1
        generalize H1 = H at hP hS ⊢
        have hP : va_P (dC, dI) vwCl [(ba, .inl (cB, 900, .inl fb)), (mm, .inr (11, fs_mm)), (mb, .inl (cM, 900, .inl fM))] H := hP
        have hD : va_D A [(ba, .inl (cB, 900, .inl fb)), (mm, .inr (11, fs_mm)), (mb, .inl (cM, 900, .inl fM))] := hD
        have er_192 : r_192 = (-1) := hw
        subst er_192
        refine lv_aload_n hx hb dL_law_772 rfl (lv_at hl 2 rfl) ?_
        refine lv_aload_n hx hb dL_law_773 rfl (lv_at hl 4 rfl) ?_
        refine lv_iload hx hb dL_law_774 (lv_at hl 0 rfl) ?_
        refine lv_iconst (v := 1) hx hb dL_law_776 (by decide) ?_
        refine lv_iadd hx hb dL_law_777 ?_
        refine lv_topi (fun z_193 ez_193 => ?_)
        obtain rfl : z_193 = 1 := ez_193.trans (by decide)
        refine va_sld hx hb hX hbl hbA hS (vp_in_nI (n := 1) (by decide) (by decide)) dL_law_778 ?_
        refine lv_aload_n hx hb dL_law_779 rfl (lv_at hl 4 rfl) ?_
        refine lv_iload hx hb dL_law_780 (lv_at hl 0 rfl) ?_
        refine lv_iconst (v := 2) hx hb dL_law_782 (by decide) ?_
        refine lv_iadd hx hb dL_law_783 ?_
        refine lv_topi (fun z_194 ez_194 => ?_)
        obtain rfl : z_194 = 2 := ez_194.trans (by decide)
        refine va_sld hx hb hX hbl hbA hS (vp_in_nI (n := 2) (by decide) (by decide)) dL_law_784 ?_
        refine lv_aload_n hx hb dL_law_785 rfl (lv_at hl 4 rfl) ?_
        refine lv_iload hx hb dL_law_786 (lv_at hl 0 rfl) ?_
        refine lv_iconst (v := 3) hx hb dL_law_788 (by decide) ?_
        refine lv_iadd hx hb dL_law_789 ?_
        refine lv_topi (fun z_195 ez_195 => ?_)
        obtain rfl : z_195 = 3 := ez_195.trans (by decide)
        refine va_sld hx hb hX hbl hbA hS (vp_in_nI (n := 3) (by decide) (by decide)) dL_law_790 ?_
        refine lv_if_eq (tgt := 798) hx hb dL_law_791 (by decide) (fun c_196 => ?_) (fun c_196 => ?_)
        · refine lv_iconst (v := 0) hx hb dL_law_798 (by decide) ?_
          have hPc := hP.sub (ws' := [(mm, .inr (11, fs_mm))]) [1] rfl
          have hDc := hD.sub (ws' := [(mm, .inr (11, fs_mm))]) [1] (by decide) rfl
          have hKc := hK.sub (tys' := []) [] rfl
          have hFc := va_free (wc := [(mm, .inr (11, fs_mm))]) hD hS hA [1] rfl
          refine va_calll (va_runV (As := [.int (xs (1 : Int32).toNatClampNeg), .int (xs (2 : Int32).toNatClampNeg), .int 0]) (rest := [.long (-1)]) ⟨hx, hb, hml, hown, hts⟩ (k_X12_fraction l dC dI H.size mm fs_mm (xs (1 : Int32).toNatClampNeg) (xs (2 : Int32).toNatClampNeg) 0 hn_mm hf_mm_20) (cwV 3 hts gL0_X12_fraction rfl rfl rfl (by decide +kernel) ⟨Nat.le_of_ble_eq_true rfl, Nat.le_of_ble_eq_true rfl⟩) ⟨fun a U g mk q => by obtain ⟨q0, q1, qP, qK, qD⟩ := q; exact ⟨q0, q1, qP, va_K.moved (u := U) (U := U.calling g mk a) (Vm.Alike.refl U.vm) qK, qD⟩, va_recv hKc hPc (ci := 11) (q0 := 0) rfl rfl, fun U hU hW => ⟨rfl, by rw [hU], by rw [hU]; exact hPc, va_K.moved hW.alike hKc, hDc.weaken (fun _ _ _ _ => trivial)⟩⟩ rfl rfl hl.1 rfl (lv_room (Nat.le_of_ble_eq_true rfl)) dL_law_799 ⟨Nat.le_of_ble_eq_true rfl, Nat.le_of_ble_eq_true rfl⟩) hS (fun q _ h => hFc q h) hFc (fun r_197 u t H1 locs ht hvm hw hB hz1 hk1 hS => ?_)
          obtain ⟨hP1, hK1, hD1⟩ := hB
          rw [ht] at hP1
          have hK1 := va_K.moved hvm.symm hK1
          obtain ⟨hP, hD⟩ := va_join (wr := [(ba, .inl (cB, 900, .inl fb)), (mb, .inl (cM, 900, .inl fM))]) (w1 := []) hP hD [1] [0, 2] rfl rfl (by decide) (by decide) hk1 hFc hP1 hD1
          generalize H1 = H at hP hS ⊢
          have hP : va_P (dC, dI) vwCl [(ba, .inl (cB, 900, .inl fb)), (mb, .inl (cM, 900, .inl fM))] H := hP
          have hD : va_D A [(ba, .inl (cB, 900, .inl fb)), (mb, .inl (cM, 900, .inl fM))] := hD
          have er_197 : r_197 = (-1) := hw
          subst er_197
          refine W.lcmp hx hb dL_law_802 ?_
          refine lv_topi (fun z_198 ez_198 => ?_)
          obtain rfl : z_198 = 0 := ez_198.trans (by decide)
          refine lv_if_eq (tgt := 1893) hx hb dL_law_803 (by decide) (fun c_199 => ?_) (fun c_199 => ?_)
          · refine lv_iinc (v := 6) (lv' := [(4, .int 6), (3, .ref lo), (2, .ref mm), (1, .ref x), (0, .ref b)]) hx hb dL_law_1893 hl (k := 0) rfl (by decide) (by decide) rfl (fun ls hl => ?_)
            refine lv_goto (tgt := 23) hx hb dL_law_1896 (by decide) ?_
            refine lv_iload hx hb dL_law_23 (lv_at hl 0 rfl) ?_
            refine lv_aload_n hx hb dL_law_25 rfl (lv_at hl 4 rfl) ?_
            refine va_slen hx hb hX hbl hbA hS dL_law_26 ?_
            refine lv_topi (fun z_201 ez_201 => ?_)
            obtain rfl : z_201 = 6 := ez_201.trans rfl
            refine lv_bipush (v := 6) hx hb dL_law_27 (by decide) ?_
            refine lv_isub hx hb dL_law_29 ?_
            refine lv_topi (fun z_202 ez_202 => ?_)
            obtain rfl : z_202 = 0 := ez_202.trans (by decide)
            refine lv_icmp_gt (tgt := 1899) hx hb dL_law_30 (by decide) (fun c_203 => ?_) (fun c_203 => ?_)
            · refine lv_iconst (v := 1) hx hb dL_law_1899 (by decide) ?_
              refine va_forget (fun q hq => by have h9 := hS.2.2 q hq; rw [← hAe] at h9; exact h9) ?_
              refine W.widen (k := 600002) (n := 7302232) (Nat.le_of_ble_eq_true rfl) (Nat.le_of_ble_eq_true rfl) ?_
              exact lw_ret hd0 hx hb hr hlocks dL_law_1900
            · exact absurd (by decide) c_203
          · exact absurd (by decide) c_199
        · exact absurd c_191 c_196
      · refine lv_iconst (v := 1) hx hb dL_law_764 (by decide) ?_
        refine lv_goto (tgt := 769) hx hb dL_law_765 (by decide) ?_
        have hPc := hP.sub (ws' := [(x, .inr (10, fs_x)), (rd, .inr (6, fs_rd)), (tp, .inr (9, fs_tp)), (ra, .inr (5, [.long u0, .long w0])), (li, .inr (3, fs_li)), (ho, .inr (4, fs_ho)), (dr, .inr (3, fs_dr)), (hd, .inr (4, fs_hd))]) [0, 1, 2, 4, 5, 6, 7, 8] rfl
        have hDc := hD.sub (ws' := [(x, .inr (10, fs_x)), (rd, .inr (6, fs_rd)), (tp, .inr (9, fs_tp)), (ra, .inr (5, [.long u0, .long w0])), (li, .inr (3, fs_li)), (ho, .inr (4, fs_ho)), (dr, .inr (3, fs_dr)), (hd, .inr (4, fs_hd))]) [0, 1, 2, 4, 5, 6, 7, 8] (by decide) rfl
        have hKc := hK.sub (tys' := []) [] rfl
        have hFc := va_free (wc := [(x, .inr (10, fs_x)), (rd, .inr (6, fs_rd)), (tp, .inr (9, fs_tp)), (ra, .inr (5, [.long u0, .long w0])), (li, .inr (3, fs_li)), (ho, .inr (4, fs_ho)), (dr, .inr (3, fs_dr)), (hd, .inr (4, fs_hd))]) hD hS hA [0, 1, 2, 4, 5, 6, 7, 8] rfl
        refine va_calll (va_runV (As := [.int (xs (1 : Int32).toNatClampNeg), .int (xs (2 : Int32).toNatClampNeg), .int 1]) (rest := []) ⟨hx, hb, hml, hown, hts⟩ (k_X11_fraction l dC dI H.size x fs_x rd fs_rd tp fs_tp ra [.long u0, .long w0] li fs_li ho fs_ho dr fs_dr hd fs_hd (xs (1 : Int32).toNatClampNeg) (xs (2 : Int32).toNatClampNeg) 1 hn_x hf_x_0 hf_x_3 hf_x_8 hf_x_9 hf_x_10 hn_rd hf_rd_0 hn_tp rfl hn_li hf_li_2 hn_ho hn_dr hf_dr_2 hn_hd) (cwV 3 hts gL0_X11_fraction rfl rfl rfl (by decide +kernel) ⟨Nat.le_of_ble_eq_true rfl, Nat.le_of_ble_eq_true rfl⟩) ⟨fun a U g mk q => by obtain ⟨q0, q1, qP, qK, qD⟩ := q; exact ⟨q0, q1, qP, va_K.moved (u := U) (U := U.calling g mk a) (Vm.Alike.refl U.vm) qK, qD⟩, va_recv hKc hPc (ci := 10) (q0 := 0) rfl rfl, fun U hU hW => ⟨rfl, by rw [hU], by rw [hU]; exact hPc, va_K.moved hW.alike hKc, hDc.weaken (fun _ _ _ _ => trivial)⟩⟩ rfl rfl hl.1 rfl (lv_room (Nat.le_of_ble_eq_true rfl)) dL_law_769 ⟨Nat.le_of_ble_eq_true rfl, Nat.le_of_ble_eq_true rfl⟩) hS (fun q _ h => hFc q h) hFc (fun r_204 u t H1 locs ht hvm hw hB hz1 hk1 hS => ?_)
        obtain ⟨hP1, hK1, hD1⟩ := hB
        rw [ht] at hP1
        have hK1 := va_K.moved hvm.symm hK1
        obtain ⟨hP, hD⟩ := va_join (wr := [(ba, .inl (cB, 900, .inl fb)), (mm, .inr (11, fs_mm)), (mb, .inl (cM, 900, .inl fM))]) (w1 := []) hP hD [0, 1, 2, 4, 5, 6, 7, 8] [3, 9, 10] rfl rfl (by decide) (by decide) hk1 hFc hP1 hD1
        generalize H1 = H at hP hS ⊢
        have hP : va_P (dC, dI) vwCl [(ba, .inl (cB, 900, .inl fb)), (mm, .inr (11, fs_mm)), (mb, .inl (cM, 900, .inl fM))] H := hP
        have hD : va_D A [(ba, .inl (cB, 900, .inl fb)), (mm, .inr (11, fs_mm)), (mb, .inl (cM, 900, .inl fM))] := hD
        have er_204 : r_204 = (-1) := hw
        subst er_204
        refine lv_aload_n hx hb dL_law_772 rfl (lv_at hl 2 rfl) ?_
        refine lv_aload_n hx hb dL_law_773 rfl (lv_at hl 4 rfl) ?_
        refine lv_iload hx hb dL_law_774 (lv_at hl 0 rfl) ?_
        refine lv_iconst (v := 1) hx hb dL_law_776 (by decide) ?_
        refine lv_iadd hx hb dL_law_777 ?_
        refine lv_topi (fun z_205 ez_205 => ?_)
        obtain rfl : z_205 = 1 := ez_205.trans (by decide)
        refine va_sld hx hb hX hbl hbA hS (vp_in_nI (n := 1) (by decide) (by decide)) dL_law_778 ?_
        refine lv_aload_n hx hb dL_law_779 rfl (lv_at hl 4 rfl) ?_
        refine lv_iload hx hb dL_law_780 (lv_at hl 0 rfl) ?_
        refine lv_iconst (v := 2) hx hb dL_law_782 (by decide) ?_
        refine lv_iadd hx hb dL_law_783 ?_
        refine lv_topi (fun z_206 ez_206 => ?_)
        obtain rfl : z_206 = 2 := ez_206.trans (by decide)
        refine va_sld hx hb hX hbl hbA hS (vp_in_nI (n := 2) (by decide) (by decide)) dL_law_784 ?_
        refine lv_aload_n hx hb dL_law_785 rfl (lv_at hl 4 rfl) ?_
        refine lv_iload hx hb dL_law_786 (lv_at hl 0 rfl) ?_
        refine lv_iconst (v := 3) hx hb dL_law_788 (by decide) ?_
        refine lv_iadd hx hb dL_law_789 ?_
        refine lv_topi (fun z_207 ez_207 => ?_)
        obtain rfl : z_207 = 3 := ez_207.trans (by decide)
        refine va_sld hx hb hX hbl hbA hS (vp_in_nI (n := 3) (by decide) (by decide)) dL_law_790 ?_
        refine lv_if_eq (tgt := 798) hx hb dL_law_791 (by decide) (fun c_208 => ?_) (fun c_208 => ?_)
        · exact absurd c_208 c_191
        · refine lv_iconst (v := 1) hx hb dL_law_794 (by decide) ?_
          refine lv_goto (tgt := 799) hx hb dL_law_795 (by decide) ?_
          have hPc := hP.sub (ws' := [(mm, .inr (11, fs_mm))]) [1] rfl
          have hDc := hD.sub (ws' := [(mm, .inr (11, fs_mm))]) [1] (by decide) rfl
          have hKc := hK.sub (tys' := []) [] rfl
          have hFc := va_free (wc := [(mm, .inr (11, fs_mm))]) hD hS hA [1] rfl
          refine va_calll (va_runV (As := [.int (xs (1 : Int32).toNatClampNeg), .int (xs (2 : Int32).toNatClampNeg), .int 1]) (rest := [.long (-1)]) ⟨hx, hb, hml, hown, hts⟩ (k_X12_fraction l dC dI H.size mm fs_mm (xs (1 : Int32).toNatClampNeg) (xs (2 : Int32).toNatClampNeg) 1 hn_mm hf_mm_20) (cwV 3 hts gL0_X12_fraction rfl rfl rfl (by decide +kernel) ⟨Nat.le_of_ble_eq_true rfl, Nat.le_of_ble_eq_true rfl⟩) ⟨fun a U g mk q => by obtain ⟨q0, q1, qP, qK, qD⟩ := q; exact ⟨q0, q1, qP, va_K.moved (u := U) (U := U.calling g mk a) (Vm.Alike.refl U.vm) qK, qD⟩, va_recv hKc hPc (ci := 11) (q0 := 0) rfl rfl, fun U hU hW => ⟨rfl, by rw [hU], by rw [hU]; exact hPc, va_K.moved hW.alike hKc, hDc.weaken (fun _ _ _ _ => trivial)⟩⟩ rfl rfl hl.1 rfl (lv_room (Nat.le_of_ble_eq_true rfl)) dL_law_799 ⟨Nat.le_of_ble_eq_true rfl, Nat.le_of_ble_eq_true rfl⟩) hS (fun q _ h => hFc q h) hFc (fun r_209 u t H1 locs ht hvm hw hB hz1 hk1 hS => ?_)
          obtain ⟨hP1, hK1, hD1⟩ := hB
          rw [ht] at hP1
          have hK1 := va_K.moved hvm.symm hK1
          obtain ⟨hP, hD⟩ := va_join (wr := [(ba, .inl (cB, 900, .inl fb)), (mb, .inl (cM, 900, .inl fM))]) (w1 := []) hP hD [1] [0, 2] rfl rfl (by decide) (by decide) hk1 hFc hP1 hD1
          generalize H1 = H at hP hS ⊢
          have hP : va_P (dC, dI) vwCl [(ba, .inl (cB, 900, .inl fb)), (mb, .inl (cM, 900, .inl fM))] H := hP
          have hD : va_D A [(ba, .inl (cB, 900, .inl fb)), (mb, .inl (cM, 900, .inl fM))] := hD
          have er_209 : r_209 = (-1) := hw
          subst er_209
          refine W.lcmp hx hb dL_law_802 ?_
          refine lv_topi (fun z_210 ez_210 => ?_)
          obtain rfl : z_210 = 0 := ez_210.trans (by decide)
          refine lv_if_eq (tgt := 1893) hx hb dL_law_803 (by decide) (fun c_211 => ?_) (fun c_211 => ?_)
          · refine lv_iinc (v := 6) (lv' := [(4, .int 6), (3, .ref lo), (2, .ref mm), (1, .ref x), (0, .ref b)]) hx hb dL_law_1893 hl (k := 0) rfl (by decide) (by decide) rfl (fun ls hl => ?_)
            refine lv_goto (tgt := 23) hx hb dL_law_1896 (by decide) ?_
            refine lv_iload hx hb dL_law_23 (lv_at hl 0 rfl) ?_
            refine lv_aload_n hx hb dL_law_25 rfl (lv_at hl 4 rfl) ?_
            refine va_slen hx hb hX hbl hbA hS dL_law_26 ?_
            refine lv_topi (fun z_213 ez_213 => ?_)
            obtain rfl : z_213 = 6 := ez_213.trans rfl
            refine lv_bipush (v := 6) hx hb dL_law_27 (by decide) ?_
            refine lv_isub hx hb dL_law_29 ?_
            refine lv_topi (fun z_214 ez_214 => ?_)
            obtain rfl : z_214 = 0 := ez_214.trans (by decide)
            refine lv_icmp_gt (tgt := 1899) hx hb dL_law_30 (by decide) (fun c_215 => ?_) (fun c_215 => ?_)
            · refine lv_iconst (v := 1) hx hb dL_law_1899 (by decide) ?_
              refine va_forget (fun q hq => by have h9 := hS.2.2 q hq; rw [← hAe] at h9; exact h9) ?_
              refine W.widen (k := 600002) (n := 7302232) (Nat.le_of_ble_eq_true rfl) (Nat.le_of_ble_eq_true rfl) ?_
              exact lw_ret hd0 hx hb hr hlocks dL_law_1900
            · exact absurd (by decide) c_215
          · exact absurd (by decide) c_211
    by_cases c_216 : ((xs (0 : Int32).toNatClampNeg) &&& 63) = 14
    · refine lv_tableIn (tgt := 808) hx hb dL_law_40 (by rw [c_216]; decide) (by rw [c_216]; decide) (by rw [c_216]; rfl) (by decide) ?_
      refine lv_aload_n hx hb dL_law_808 rfl (lv_at hl 3 rfl) ?_
      refine lv_aload_n hx hb dL_law_809 rfl (lv_at hl 4 rfl) ?_
      refine lv_iload hx hb dL_law_810 (lv_at hl 0 rfl) ?_
      refine lv_iconst (v := 1) hx hb dL_law_812 (by decide) ?_
      refine lv_iadd hx hb dL_law_813 ?_
      refine lv_topi (fun z_217 ez_217 => ?_)
      obtain rfl : z_217 = 1 := ez_217.trans (by decide)
      refine va_sld hx hb hX hbl hbA hS (vp_in_nI (n := 1) (by decide) (by decide)) dL_law_814 ?_
      refine lv_aload_n hx hb dL_law_815 rfl (lv_at hl 4 rfl) ?_
      refine lv_iload hx hb dL_law_816 (lv_at hl 0 rfl) ?_
      refine lv_iconst (v := 2) hx hb dL_law_818 (by decide) ?_
      refine lv_iadd hx hb dL_law_819 ?_
      refine lv_topi (fun z_218 ez_218 => ?_)
      obtain rfl : z_218 = 2 := ez_218.trans (by decide)
      refine va_sld hx hb hX hbl hbA hS (vp_in_nI (n := 2) (by decide) (by decide)) dL_law_820 ?_
      refine lv_aload_n hx hb dL_law_821 rfl (lv_at hl 4 rfl) ?_
      refine lv_iload hx hb dL_law_822 (lv_at hl 0 rfl) ?_
      refine lv_iconst (v := 3) hx hb dL_law_824 (by decide) ?_
      refine lv_iadd hx hb dL_law_825 ?_
      refine lv_topi (fun z_219 ez_219 => ?_)
      obtain rfl : z_219 = 3 := ez_219.trans (by decide)
      refine va_sld hx hb hX hbl hbA hS (vp_in_nI (n := 3) (by decide) (by decide)) dL_law_826 ?_
      refine lv_if_eq (tgt := 834) hx hb dL_law_827 (by decide) (fun c_220 => ?_) (fun c_220 => ?_)
      · refine lv_iconst (v := 0) hx hb dL_law_834 (by decide) ?_
        have hPc := hP.sub (ws' := [(x, .inr (10, fs_x)), (rd, .inr (6, fs_rd)), (tp, .inr (9, fs_tp)), (ra, .inr (5, [.long u0, .long w0])), (li, .inr (3, fs_li)), (ho, .inr (4, fs_ho)), (dr, .inr (3, fs_dr)), (hd, .inr (4, fs_hd))]) [0, 1, 2, 4, 5, 6, 7, 8] rfl
        have hDc := hD.sub (ws' := [(x, .inr (10, fs_x)), (rd, .inr (6, fs_rd)), (tp, .inr (9, fs_tp)), (ra, .inr (5, [.long u0, .long w0])), (li, .inr (3, fs_li)), (ho, .inr (4, fs_ho)), (dr, .inr (3, fs_dr)), (hd, .inr (4, fs_hd))]) [0, 1, 2, 4, 5, 6, 7, 8] (by decide) rfl
        have hKc := hK.sub (tys' := []) [] rfl
        have hFc := va_free (wc := [(x, .inr (10, fs_x)), (rd, .inr (6, fs_rd)), (tp, .inr (9, fs_tp)), (ra, .inr (5, [.long u0, .long w0])), (li, .inr (3, fs_li)), (ho, .inr (4, fs_ho)), (dr, .inr (3, fs_dr)), (hd, .inr (4, fs_hd))]) hD hS hA [0, 1, 2, 4, 5, 6, 7, 8] rfl
        refine va_calll (va_runV (As := [.int (xs (1 : Int32).toNatClampNeg), .int (xs (2 : Int32).toNatClampNeg), .int 0]) (rest := []) ⟨hx, hb, hml, hown, hts⟩ (k_X11_coupon l dC dI H.size x fs_x rd fs_rd tp fs_tp ra [.long u0, .long w0] li fs_li ho fs_ho dr fs_dr hd fs_hd (xs (1 : Int32).toNatClampNeg) (xs (2 : Int32).toNatClampNeg) 0 hn_x hf_x_0 hf_x_3 hf_x_8 hf_x_9 hf_x_10 hn_rd hf_rd_0 hn_tp rfl hn_li hf_li_2 hn_ho hn_dr hf_dr_2 hn_hd) (cwV 3 hts gL0_X11_coupon rfl rfl rfl (by decide +kernel) ⟨Nat.le_of_ble_eq_true rfl, Nat.le_of_ble_eq_true rfl⟩) ⟨fun a U g mk q => by obtain ⟨q0, q1, qP, qK, qD⟩ := q; exact ⟨q0, q1, qP, va_K.moved (u := U) (U := U.calling g mk a) (Vm.Alike.refl U.vm) qK, qD⟩, va_recv hKc hPc (ci := 10) (q0 := 0) rfl rfl, fun U hU hW => ⟨rfl, by rw [hU], by rw [hU]; exact hPc, va_K.moved hW.alike hKc, hDc.weaken (fun _ _ _ _ => trivial)⟩⟩ rfl rfl hl.1 rfl (lv_room (Nat.le_of_ble_eq_true rfl)) dL_law_835 ⟨Nat.le_of_ble_eq_true rfl, Nat.le_of_ble_eq_true rfl⟩) hS (fun q _ h => hFc q h) hFc (fun r_221 u t H1 locs ht hvm hw hB hz1 hk1 hS => ?_)
        obtain ⟨hP1, hK1, hD1⟩ := hB
        rw [ht] at hP1
        have hK1 := va_K.moved hvm.symm hK1
        obtain ⟨hP, hD⟩ := va_join (wr := [(ba, .inl (cB, 900, .inl fb)), (mm, .inr (11, fs_mm)), (mb, .inl (cM, 900, .inl fM))]) (w1 := []) hP hD [0, 1, 2, 4, 5, 6, 7, 8] [3, 9, 10] rfl rfl (by decide) (by decide) hk1 hFc hP1 hD1
        generalize H1 = H at hP hS ⊢
        have hP : va_P (dC, dI) vwCl [(ba, .inl (cB, 900, .inl fb)), (mm, .inr (11, fs_mm)), (mb, .inl (cM, 900, .inl fM))] H := hP
        have hD : va_D A [(ba, .inl (cB, 900, .inl fb)), (mm, .inr (11, fs_mm)), (mb, .inl (cM, 900, .inl fM))] := hD
        have er_221 : r_221 = (-1) := hw
        subst er_221
        refine lv_aload_n hx hb dL_law_838 rfl (lv_at hl 2 rfl) ?_
        refine lv_aload_n hx hb dL_law_839 rfl (lv_at hl 4 rfl) ?_
        refine lv_iload hx hb dL_law_840 (lv_at hl 0 rfl) ?_
        refine lv_iconst (v := 1) hx hb dL_law_842 (by decide) ?_
        refine lv_iadd hx hb dL_law_843 ?_
        refine lv_topi (fun z_222 ez_222 => ?_)
        obtain rfl : z_222 = 1 := ez_222.trans (by decide)
        refine va_sld hx hb hX hbl hbA hS (vp_in_nI (n := 1) (by decide) (by decide)) dL_law_844 ?_
        refine lv_aload_n hx hb dL_law_845 rfl (lv_at hl 4 rfl) ?_
        refine lv_iload hx hb dL_law_846 (lv_at hl 0 rfl) ?_
        refine lv_iconst (v := 2) hx hb dL_law_848 (by decide) ?_
        refine lv_iadd hx hb dL_law_849 ?_
        refine lv_topi (fun z_223 ez_223 => ?_)
        obtain rfl : z_223 = 2 := ez_223.trans (by decide)
        refine va_sld hx hb hX hbl hbA hS (vp_in_nI (n := 2) (by decide) (by decide)) dL_law_850 ?_
        refine lv_aload_n hx hb dL_law_851 rfl (lv_at hl 4 rfl) ?_
        refine lv_iload hx hb dL_law_852 (lv_at hl 0 rfl) ?_
        refine lv_iconst (v := 3) hx hb dL_law_854 (by decide) ?_
        refine lv_iadd hx hb dL_law_855 ?_
        refine lv_topi (fun z_224 ez_224 => ?_)
        obtain rfl : z_224 = 3 := ez_224.trans (by decide)
        refine va_sld hx hb hX hbl hbA hS (vp_in_nI (n := 3) (by decide) (by decide)) dL_law_856 ?_
        refine lv_if_eq (tgt := 864) hx hb dL_law_857 (by decide) (fun c_225 => ?_) (fun c_225 => ?_)
        · refine lv_iconst (v := 0) hx hb dL_law_864 (by decide) ?_
          have hPc := hP.sub (ws' := [(mm, .inr (11, fs_mm))]) [1] rfl
          have hDc := hD.sub (ws' := [(mm, .inr (11, fs_mm))]) [1] (by decide) rfl
          have hKc := hK.sub (tys' := []) [] rfl
          have hFc := va_free (wc := [(mm, .inr (11, fs_mm))]) hD hS hA [1] rfl
          refine va_calll (va_runV (As := [.int (xs (1 : Int32).toNatClampNeg), .int (xs (2 : Int32).toNatClampNeg), .int 0]) (rest := [.long (-1)]) ⟨hx, hb, hml, hown, hts⟩ (k_X12_coupon l dC dI H.size mm fs_mm (xs (1 : Int32).toNatClampNeg) (xs (2 : Int32).toNatClampNeg) 0 hn_mm hf_mm_20) (cwV 3 hts gL0_X12_coupon rfl rfl rfl (by decide +kernel) ⟨Nat.le_of_ble_eq_true rfl, Nat.le_of_ble_eq_true rfl⟩) ⟨fun a U g mk q => by obtain ⟨q0, q1, qP, qK, qD⟩ := q; exact ⟨q0, q1, qP, va_K.moved (u := U) (U := U.calling g mk a) (Vm.Alike.refl U.vm) qK, qD⟩, va_recv hKc hPc (ci := 11) (q0 := 0) rfl rfl, fun U hU hW => ⟨rfl, by rw [hU], by rw [hU]; exact hPc, va_K.moved hW.alike hKc, hDc.weaken (fun _ _ _ _ => trivial)⟩⟩ rfl rfl hl.1 rfl (lv_room (Nat.le_of_ble_eq_true rfl)) dL_law_865 ⟨Nat.le_of_ble_eq_true rfl, Nat.le_of_ble_eq_true rfl⟩) hS (fun q _ h => hFc q h) hFc (fun r_226 u t H1 locs ht hvm hw hB hz1 hk1 hS => ?_)
          obtain ⟨hP1, hK1, hD1⟩ := hB
          rw [ht] at hP1
          have hK1 := va_K.moved hvm.symm hK1
          obtain ⟨hP, hD⟩ := va_join (wr := [(ba, .inl (cB, 900, .inl fb)), (mb, .inl (cM, 900, .inl fM))]) (w1 := []) hP hD [1] [0, 2] rfl rfl (by decide) (by decide) hk1 hFc hP1 hD1
          generalize H1 = H at hP hS ⊢
          have hP : va_P (dC, dI) vwCl [(ba, .inl (cB, 900, .inl fb)), (mb, .inl (cM, 900, .inl fM))] H := hP
          have hD : va_D A [(ba, .inl (cB, 900, .inl fb)), (mb, .inl (cM, 900, .inl fM))] := hD
          have er_226 : r_226 = (-1) := hw
          subst er_226
          refine W.lcmp hx hb dL_law_868 ?_
          refine lv_topi (fun z_227 ez_227 => ?_)
          obtain rfl : z_227 = 0 := ez_227.trans (by decide)
          refine lv_if_eq (tgt := 1893) hx hb dL_law_869 (by decide) (fun c_228 => ?_) (fun c_228 => ?_)
          · refine lv_iinc (v := 6) (lv' := [(4, .int 6), (3, .ref lo), (2, .ref mm), (1, .ref x), (0, .ref b)]) hx hb dL_law_1893 hl (k := 0) rfl (by decide) (by decide) rfl (fun ls hl => ?_)
            refine lv_goto (tgt := 23) hx hb dL_law_1896 (by decide) ?_
            refine lv_iload hx hb dL_law_23 (lv_at hl 0 rfl) ?_
            refine lv_aload_n hx hb dL_law_25 rfl (lv_at hl 4 rfl) ?_
            refine va_slen hx hb hX hbl hbA hS dL_law_26 ?_
            refine lv_topi (fun z_230 ez_230 => ?_)
            obtain rfl : z_230 = 6 := ez_230.trans rfl
            refine lv_bipush (v := 6) hx hb dL_law_27 (by decide) ?_
            refine lv_isub hx hb dL_law_29 ?_
            refine lv_topi (fun z_231 ez_231 => ?_)
            obtain rfl : z_231 = 0 := ez_231.trans (by decide)
            refine lv_icmp_gt (tgt := 1899) hx hb dL_law_30 (by decide) (fun c_232 => ?_) (fun c_232 => ?_)
            · refine lv_iconst (v := 1) hx hb dL_law_1899 (by decide) ?_
              refine va_forget (fun q hq => by have h9 := hS.2.2 q hq; rw [← hAe] at h9; exact h9) ?_
              refine W.widen (k := 600002) (n := 7302232) (Nat.le_of_ble_eq_true rfl) (Nat.le_of_ble_eq_true rfl) ?_
              exact lw_ret hd0 hx hb hr hlocks dL_law_1900
            · exact absurd (by decide) c_232
          · exact absurd (by decide) c_228
        · exact absurd c_220 c_225
      · refine lv_iconst (v := 1) hx hb dL_law_830 (by decide) ?_
        refine lv_goto (tgt := 835) hx hb dL_law_831 (by decide) ?_
        have hPc := hP.sub (ws' := [(x, .inr (10, fs_x)), (rd, .inr (6, fs_rd)), (tp, .inr (9, fs_tp)), (ra, .inr (5, [.long u0, .long w0])), (li, .inr (3, fs_li)), (ho, .inr (4, fs_ho)), (dr, .inr (3, fs_dr)), (hd, .inr (4, fs_hd))]) [0, 1, 2, 4, 5, 6, 7, 8] rfl
        have hDc := hD.sub (ws' := [(x, .inr (10, fs_x)), (rd, .inr (6, fs_rd)), (tp, .inr (9, fs_tp)), (ra, .inr (5, [.long u0, .long w0])), (li, .inr (3, fs_li)), (ho, .inr (4, fs_ho)), (dr, .inr (3, fs_dr)), (hd, .inr (4, fs_hd))]) [0, 1, 2, 4, 5, 6, 7, 8] (by decide) rfl
        have hKc := hK.sub (tys' := []) [] rfl
        have hFc := va_free (wc := [(x, .inr (10, fs_x)), (rd, .inr (6, fs_rd)), (tp, .inr (9, fs_tp)), (ra, .inr (5, [.long u0, .long w0])), (li, .inr (3, fs_li)), (ho, .inr (4, fs_ho)), (dr, .inr (3, fs_dr)), (hd, .inr (4, fs_hd))]) hD hS hA [0, 1, 2, 4, 5, 6, 7, 8] rfl
        refine va_calll (va_runV (As := [.int (xs (1 : Int32).toNatClampNeg), .int (xs (2 : Int32).toNatClampNeg), .int 1]) (rest := []) ⟨hx, hb, hml, hown, hts⟩ (k_X11_coupon l dC dI H.size x fs_x rd fs_rd tp fs_tp ra [.long u0, .long w0] li fs_li ho fs_ho dr fs_dr hd fs_hd (xs (1 : Int32).toNatClampNeg) (xs (2 : Int32).toNatClampNeg) 1 hn_x hf_x_0 hf_x_3 hf_x_8 hf_x_9 hf_x_10 hn_rd hf_rd_0 hn_tp rfl hn_li hf_li_2 hn_ho hn_dr hf_dr_2 hn_hd) (cwV 3 hts gL0_X11_coupon rfl rfl rfl (by decide +kernel) ⟨Nat.le_of_ble_eq_true rfl, Nat.le_of_ble_eq_true rfl⟩) ⟨fun a U g mk q => by obtain ⟨q0, q1, qP, qK, qD⟩ := q; exact ⟨q0, q1, qP, va_K.moved (u := U) (U := U.calling g mk a) (Vm.Alike.refl U.vm) qK, qD⟩, va_recv hKc hPc (ci := 10) (q0 := 0) rfl rfl, fun U hU hW => ⟨rfl, by rw [hU], by rw [hU]; exact hPc, va_K.moved hW.alike hKc, hDc.weaken (fun _ _ _ _ => trivial)⟩⟩ rfl rfl hl.1 rfl (lv_room (Nat.le_of_ble_eq_true rfl)) dL_law_835 ⟨Nat.le_of_ble_eq_true rfl, Nat.le_of_ble_eq_true rfl⟩) hS (fun q _ h => hFc q h) hFc (fun r_233 u t H1 locs ht hvm hw hB hz1 hk1 hS => ?_)
        obtain ⟨hP1, hK1, hD1⟩ := hB
        rw [ht] at hP1
        have hK1 := va_K.moved hvm.symm hK1
        obtain ⟨hP, hD⟩ := va_join (wr := [(ba, .inl (cB, 900, .inl fb)), (mm, .inr (11, fs_mm)), (mb, .inl (cM, 900, .inl fM))]) (w1 := []) hP hD [0, 1, 2, 4, 5, 6, 7, 8] [3, 9, 10] rfl rfl (by decide) (by decide) hk1 hFc hP1 hD1
        generalize H1 = H at hP hS ⊢
        have hP : va_P (dC, dI) vwCl [(ba, .inl (cB, 900, .inl fb)), (mm, .inr (11, fs_mm)), (mb, .inl (cM, 900, .inl fM))] H := hP
        have hD : va_D A [(ba, .inl (cB, 900, .inl fb)), (mm, .inr (11, fs_mm)), (mb, .inl (cM, 900, .inl fM))] := hD
        have er_233 : r_233 = (-1) := hw
        subst er_233
        refine lv_aload_n hx hb dL_law_838 rfl (lv_at hl 2 rfl) ?_
        refine lv_aload_n hx hb dL_law_839 rfl (lv_at hl 4 rfl) ?_
        refine lv_iload hx hb dL_law_840 (lv_at hl 0 rfl) ?_
        refine lv_iconst (v := 1) hx hb dL_law_842 (by decide) ?_
        refine lv_iadd hx hb dL_law_843 ?_
        refine lv_topi (fun z_234 ez_234 => ?_)
        obtain rfl : z_234 = 1 := ez_234.trans (by decide)
        refine va_sld hx hb hX hbl hbA hS (vp_in_nI (n := 1) (by decide) (by decide)) dL_law_844 ?_
        refine lv_aload_n hx hb dL_law_845 rfl (lv_at hl 4 rfl) ?_
        refine lv_iload hx hb dL_law_846 (lv_at hl 0 rfl) ?_
        refine lv_iconst (v := 2) hx hb dL_law_848 (by decide) ?_
        refine lv_iadd hx hb dL_law_849 ?_
        refine lv_topi (fun z_235 ez_235 => ?_)
        obtain rfl : z_235 = 2 := ez_235.trans (by decide)
        refine va_sld hx hb hX hbl hbA hS (vp_in_nI (n := 2) (by decide) (by decide)) dL_law_850 ?_
        refine lv_aload_n hx hb dL_law_851 rfl (lv_at hl 4 rfl) ?_
        refine lv_iload hx hb dL_law_852 (lv_at hl 0 rfl) ?_
        refine lv_iconst (v := 3) hx hb dL_law_854 (by decide) ?_
        refine lv_iadd hx hb dL_law_855 ?_
        refine lv_topi (fun z_236 ez_236 => ?_)
        obtain rfl : z_236 = 3 := ez_236.trans (by decide)
        refine va_sld hx hb hX hbl hbA hS (vp_in_nI (n := 3) (by decide) (by decide)) dL_law_856 ?_
        refine lv_if_eq (tgt := 864) hx hb dL_law_857 (by decide) (fun c_237 => ?_) (fun c_237 => ?_)
        · exact absurd c_237 c_220
        · refine lv_iconst (v := 1) hx hb dL_law_860 (by decide) ?_
          refine lv_goto (tgt := 865) hx hb dL_law_861 (by decide) ?_
          have hPc := hP.sub (ws' := [(mm, .inr (11, fs_mm))]) [1] rfl
          have hDc := hD.sub (ws' := [(mm, .inr (11, fs_mm))]) [1] (by decide) rfl
          have hKc := hK.sub (tys' := []) [] rfl
          have hFc := va_free (wc := [(mm, .inr (11, fs_mm))]) hD hS hA [1] rfl
          refine va_calll (va_runV (As := [.int (xs (1 : Int32).toNatClampNeg), .int (xs (2 : Int32).toNatClampNeg), .int 1]) (rest := [.long (-1)]) ⟨hx, hb, hml, hown, hts⟩ (k_X12_coupon l dC dI H.size mm fs_mm (xs (1 : Int32).toNatClampNeg) (xs (2 : Int32).toNatClampNeg) 1 hn_mm hf_mm_20) (cwV 3 hts gL0_X12_coupon rfl rfl rfl (by decide +kernel) ⟨Nat.le_of_ble_eq_true rfl, Nat.le_of_ble_eq_true rfl⟩) ⟨fun a U g mk q => by obtain ⟨q0, q1, qP, qK, qD⟩ := q; exact ⟨q0, q1, qP, va_K.moved (u := U) (U := U.calling g mk a) (Vm.Alike.refl U.vm) qK, qD⟩, va_recv hKc hPc (ci := 11) (q0 := 0) rfl rfl, fun U hU hW => ⟨rfl, by rw [hU], by rw [hU]; exact hPc, va_K.moved hW.alike hKc, hDc.weaken (fun _ _ _ _ => trivial)⟩⟩ rfl rfl hl.1 rfl (lv_room (Nat.le_of_ble_eq_true rfl)) dL_law_865 ⟨Nat.le_of_ble_eq_true rfl, Nat.le_of_ble_eq_true rfl⟩) hS (fun q _ h => hFc q h) hFc (fun r_238 u t H1 locs ht hvm hw hB hz1 hk1 hS => ?_)
          obtain ⟨hP1, hK1, hD1⟩ := hB
          rw [ht] at hP1
          have hK1 := va_K.moved hvm.symm hK1
          obtain ⟨hP, hD⟩ := va_join (wr := [(ba, .inl (cB, 900, .inl fb)), (mb, .inl (cM, 900, .inl fM))]) (w1 := []) hP hD [1] [0, 2] rfl rfl (by decide) (by decide) hk1 hFc hP1 hD1
          generalize H1 = H at hP hS ⊢
          have hP : va_P (dC, dI) vwCl [(ba, .inl (cB, 900, .inl fb)), (mb, .inl (cM, 900, .inl fM))] H := hP
          have hD : va_D A [(ba, .inl (cB, 900, .inl fb)), (mb, .inl (cM, 900, .inl fM))] := hD
          have er_238 : r_238 = (-1) := hw
          subst er_238
          refine W.lcmp hx hb dL_law_868 ?_
          refine lv_topi (fun z_239 ez_239 => ?_)
          obtain rfl : z_239 = 0 := ez_239.trans (by decide)
          refine lv_if_eq (tgt := 1893) hx hb dL_law_869 (by decide) (fun c_240 => ?_) (fun c_240 => ?_)
          · refine lv_iinc (v := 6) (lv' := [(4, .int 6), (3, .ref lo), (2, .ref mm), (1, .ref x), (0, .ref b)]) hx hb dL_law_1893 hl (k := 0) rfl (by decide) (by decide) rfl (fun ls hl => ?_)
            refine lv_goto (tgt := 23) hx hb dL_law_1896 (by decide) ?_
            refine lv_iload hx hb dL_law_23 (lv_at hl 0 rfl) ?_
            refine lv_aload_n hx hb dL_law_25 rfl (lv_at hl 4 rfl) ?_
            refine va_slen hx hb hX hbl hbA hS dL_law_26 ?_
            refine lv_topi (fun z_242 ez_242 => ?_)
            obtain rfl : z_242 = 6 := ez_242.trans rfl
            refine lv_bipush (v := 6) hx hb dL_law_27 (by decide) ?_
            refine lv_isub hx hb dL_law_29 ?_
            refine lv_topi (fun z_243 ez_243 => ?_)
            obtain rfl : z_243 = 0 := ez_243.trans (by decide)
            refine lv_icmp_gt (tgt := 1899) hx hb dL_law_30 (by decide) (fun c_244 => ?_) (fun c_244 => ?_)
            · refine lv_iconst (v := 1) hx hb dL_law_1899 (by decide) ?_
              refine va_forget (fun q hq => by have h9 := hS.2.2 q hq; rw [← hAe] at h9; exact h9) ?_
              refine W.widen (k := 600002) (n := 7302232) (Nat.le_of_ble_eq_true rfl) (Nat.le_of_ble_eq_true rfl) ?_
              exact lw_ret hd0 hx hb hr hlocks dL_law_1900
            · exact absurd (by decide) c_244
          · exact absurd (by decide) c_240
    by_cases c_245 : ((xs (0 : Int32).toNatClampNeg) &&& 63) = 15
    · refine lv_tableIn (tgt := 874) hx hb dL_law_40 (by rw [c_245]; decide) (by rw [c_245]; decide) (by rw [c_245]; rfl) (by decide) ?_
      refine lv_aload_n hx hb dL_law_874 rfl (lv_at hl 3 rfl) ?_
      refine lv_aload_n hx hb dL_law_875 rfl (lv_at hl 4 rfl) ?_
      refine lv_iload hx hb dL_law_876 (lv_at hl 0 rfl) ?_
      refine lv_iconst (v := 1) hx hb dL_law_878 (by decide) ?_
      refine lv_iadd hx hb dL_law_879 ?_
      refine lv_topi (fun z_246 ez_246 => ?_)
      obtain rfl : z_246 = 1 := ez_246.trans (by decide)
      refine va_sld hx hb hX hbl hbA hS (vp_in_nI (n := 1) (by decide) (by decide)) dL_law_880 ?_
      refine lv_aload_n hx hb dL_law_881 rfl (lv_at hl 4 rfl) ?_
      refine lv_iload hx hb dL_law_882 (lv_at hl 0 rfl) ?_
      refine lv_iconst (v := 2) hx hb dL_law_884 (by decide) ?_
      refine lv_iadd hx hb dL_law_885 ?_
      refine lv_topi (fun z_247 ez_247 => ?_)
      obtain rfl : z_247 = 2 := ez_247.trans (by decide)
      refine va_sld hx hb hX hbl hbA hS (vp_in_nI (n := 2) (by decide) (by decide)) dL_law_886 ?_
      have hPc := hP.sub (ws' := [(x, .inr (10, fs_x)), (rd, .inr (6, fs_rd)), (tp, .inr (9, fs_tp)), (ra, .inr (5, [.long u0, .long w0])), (li, .inr (3, fs_li)), (ho, .inr (4, fs_ho)), (dr, .inr (3, fs_dr)), (hd, .inr (4, fs_hd))]) [0, 1, 2, 4, 5, 6, 7, 8] rfl
      have hDc := hD.sub (ws' := [(x, .inr (10, fs_x)), (rd, .inr (6, fs_rd)), (tp, .inr (9, fs_tp)), (ra, .inr (5, [.long u0, .long w0])), (li, .inr (3, fs_li)), (ho, .inr (4, fs_ho)), (dr, .inr (3, fs_dr)), (hd, .inr (4, fs_hd))]) [0, 1, 2, 4, 5, 6, 7, 8] (by decide) rfl
      have hKc := hK.sub (tys' := []) [] rfl
      have hFc := va_free (wc := [(x, .inr (10, fs_x)), (rd, .inr (6, fs_rd)), (tp, .inr (9, fs_tp)), (ra, .inr (5, [.long u0, .long w0])), (li, .inr (3, fs_li)), (ho, .inr (4, fs_ho)), (dr, .inr (3, fs_dr)), (hd, .inr (4, fs_hd))]) hD hS hA [0, 1, 2, 4, 5, 6, 7, 8] rfl
      refine va_calli (va_runV (As := [.int (xs (1 : Int32).toNatClampNeg), .int (xs (2 : Int32).toNatClampNeg)]) (rest := []) ⟨hx, hb, hml, hown, hts⟩ (k_X11_line l dC dI H.size x fs_x rd fs_rd tp fs_tp ra [.long u0, .long w0] li fs_li ho fs_ho dr fs_dr hd fs_hd (xs (1 : Int32).toNatClampNeg) (xs (2 : Int32).toNatClampNeg) hn_x hf_x_0 hf_x_3 hf_x_8 hf_x_9 hf_x_10 hn_rd hf_rd_0 hn_tp rfl hn_li hf_li_2 hn_ho hn_dr hf_dr_2 hn_hd) (cwV 2 hts gL0_X11_line rfl rfl rfl (by decide +kernel) ⟨Nat.le_of_ble_eq_true rfl, Nat.le_of_ble_eq_true rfl⟩) ⟨fun a U g mk q => by obtain ⟨q0, q1, qP, qK, qD⟩ := q; exact ⟨q0, q1, qP, va_K.moved (u := U) (U := U.calling g mk a) (Vm.Alike.refl U.vm) qK, qD⟩, va_recv hKc hPc (ci := 10) (q0 := 0) rfl rfl, fun U hU hW => ⟨rfl, by rw [hU], by rw [hU]; exact hPc, va_K.moved hW.alike hKc, hDc.weaken (fun _ _ _ _ => trivial)⟩⟩ rfl rfl hl.1 rfl (lv_room (Nat.le_of_ble_eq_true rfl)) dL_law_887 ⟨Nat.le_of_ble_eq_true rfl, Nat.le_of_ble_eq_true rfl⟩) hS (fun q _ h => hFc q h) hFc (fun r_248 u t H1 locs ht hvm hw hB hz1 hk1 hS => ?_)
      obtain ⟨hP1, hK1, hD1⟩ := hB
      rw [ht] at hP1
      have hK1 := va_K.moved hvm.symm hK1
      obtain ⟨hP, hD⟩ := va_join (wr := [(ba, .inl (cB, 900, .inl fb)), (mm, .inr (11, fs_mm)), (mb, .inl (cM, 900, .inl fM))]) (w1 := []) hP hD [0, 1, 2, 4, 5, 6, 7, 8] [3, 9, 10] rfl rfl (by decide) (by decide) hk1 hFc hP1 hD1
      generalize H1 = H at hP hS ⊢
      have hP : va_P (dC, dI) vwCl [(ba, .inl (cB, 900, .inl fb)), (mm, .inr (11, fs_mm)), (mb, .inl (cM, 900, .inl fM))] H := hP
      have hD : va_D A [(ba, .inl (cB, 900, .inl fb)), (mm, .inr (11, fs_mm)), (mb, .inl (cM, 900, .inl fM))] := hD
      have er_248 : r_248 = (-1) := hw
      subst er_248
      refine lv_aload_n hx hb dL_law_890 rfl (lv_at hl 2 rfl) ?_
      refine lv_aload_n hx hb dL_law_891 rfl (lv_at hl 4 rfl) ?_
      refine lv_iload hx hb dL_law_892 (lv_at hl 0 rfl) ?_
      refine lv_iconst (v := 1) hx hb dL_law_894 (by decide) ?_
      refine lv_iadd hx hb dL_law_895 ?_
      refine lv_topi (fun z_249 ez_249 => ?_)
      obtain rfl : z_249 = 1 := ez_249.trans (by decide)
      refine va_sld hx hb hX hbl hbA hS (vp_in_nI (n := 1) (by decide) (by decide)) dL_law_896 ?_
      refine lv_aload_n hx hb dL_law_897 rfl (lv_at hl 4 rfl) ?_
      refine lv_iload hx hb dL_law_898 (lv_at hl 0 rfl) ?_
      refine lv_iconst (v := 2) hx hb dL_law_900 (by decide) ?_
      refine lv_iadd hx hb dL_law_901 ?_
      refine lv_topi (fun z_250 ez_250 => ?_)
      obtain rfl : z_250 = 2 := ez_250.trans (by decide)
      refine va_sld hx hb hX hbl hbA hS (vp_in_nI (n := 2) (by decide) (by decide)) dL_law_902 ?_
      have hPc := hP.sub (ws' := [(mm, .inr (11, fs_mm))]) [1] rfl
      have hDc := hD.sub (ws' := [(mm, .inr (11, fs_mm))]) [1] (by decide) rfl
      have hKc := hK.sub (tys' := []) [] rfl
      have hFc := va_free (wc := [(mm, .inr (11, fs_mm))]) hD hS hA [1] rfl
      refine va_calli (va_runV (As := [.int (xs (1 : Int32).toNatClampNeg), .int (xs (2 : Int32).toNatClampNeg)]) (rest := [.int (-1)]) ⟨hx, hb, hml, hown, hts⟩ (k_X12_line l dC dI H.size mm fs_mm (xs (1 : Int32).toNatClampNeg) (xs (2 : Int32).toNatClampNeg) hn_mm hf_mm_20) (cwV 2 hts gL0_X12_line rfl rfl rfl (by decide +kernel) ⟨Nat.le_of_ble_eq_true rfl, Nat.le_of_ble_eq_true rfl⟩) ⟨fun a U g mk q => by obtain ⟨q0, q1, qP, qK, qD⟩ := q; exact ⟨q0, q1, qP, va_K.moved (u := U) (U := U.calling g mk a) (Vm.Alike.refl U.vm) qK, qD⟩, va_recv hKc hPc (ci := 11) (q0 := 0) rfl rfl, fun U hU hW => ⟨rfl, by rw [hU], by rw [hU]; exact hPc, va_K.moved hW.alike hKc, hDc.weaken (fun _ _ _ _ => trivial)⟩⟩ rfl rfl hl.1 rfl (lv_room (Nat.le_of_ble_eq_true rfl)) dL_law_903 ⟨Nat.le_of_ble_eq_true rfl, Nat.le_of_ble_eq_true rfl⟩) hS (fun q _ h => hFc q h) hFc (fun r_251 u t H1 locs ht hvm hw hB hz1 hk1 hS => ?_)
      obtain ⟨hP1, hK1, hD1⟩ := hB
      rw [ht] at hP1
      have hK1 := va_K.moved hvm.symm hK1
      obtain ⟨hP, hD⟩ := va_join (wr := [(ba, .inl (cB, 900, .inl fb)), (mb, .inl (cM, 900, .inl fM))]) (w1 := []) hP hD [1] [0, 2] rfl rfl (by decide) (by decide) hk1 hFc hP1 hD1
      generalize H1 = H at hP hS ⊢
      have hP : va_P (dC, dI) vwCl [(ba, .inl (cB, 900, .inl fb)), (mb, .inl (cM, 900, .inl fM))] H := hP
      have hD : va_D A [(ba, .inl (cB, 900, .inl fb)), (mb, .inl (cM, 900, .inl fM))] := hD
      have er_251 : r_251 = (-1) := hw
      subst er_251
      refine lv_icmp_eq (tgt := 1893) hx hb dL_law_906 (by decide) (fun c_252 => ?_) (fun c_252 => ?_)
      · refine lv_iinc (v := 6) (lv' := [(4, .int 6), (3, .ref lo), (2, .ref mm), (1, .ref x), (0, .ref b)]) hx hb dL_law_1893 hl (k := 0) rfl (by decide) (by decide) rfl (fun ls hl => ?_)
        refine lv_goto (tgt := 23) hx hb dL_law_1896 (by decide) ?_
        refine lv_iload hx hb dL_law_23 (lv_at hl 0 rfl) ?_
        refine lv_aload_n hx hb dL_law_25 rfl (lv_at hl 4 rfl) ?_
        refine va_slen hx hb hX hbl hbA hS dL_law_26 ?_
        refine lv_topi (fun z_254 ez_254 => ?_)
        obtain rfl : z_254 = 6 := ez_254.trans rfl
        refine lv_bipush (v := 6) hx hb dL_law_27 (by decide) ?_
        refine lv_isub hx hb dL_law_29 ?_
        refine lv_topi (fun z_255 ez_255 => ?_)
        obtain rfl : z_255 = 0 := ez_255.trans (by decide)
        refine lv_icmp_gt (tgt := 1899) hx hb dL_law_30 (by decide) (fun c_256 => ?_) (fun c_256 => ?_)
        · refine lv_iconst (v := 1) hx hb dL_law_1899 (by decide) ?_
          refine va_forget (fun q hq => by have h9 := hS.2.2 q hq; rw [← hAe] at h9; exact h9) ?_
          refine W.widen (k := 600002) (n := 7302232) (Nat.le_of_ble_eq_true rfl) (Nat.le_of_ble_eq_true rfl) ?_
          exact lw_ret hd0 hx hb hr hlocks dL_law_1900
        · exact absurd (by decide) c_256
      · exact absurd (by decide) c_252
    by_cases c_257 : ((xs (0 : Int32).toNatClampNeg) &&& 63) = 16
    · refine lv_tableIn (tgt := 911) hx hb dL_law_40 (by rw [c_257]; decide) (by rw [c_257]; decide) (by rw [c_257]; rfl) (by decide) ?_
      refine lv_aload_n hx hb dL_law_911 rfl (lv_at hl 3 rfl) ?_
      refine lv_aload_n hx hb dL_law_912 rfl (lv_at hl 4 rfl) ?_
      refine lv_iload hx hb dL_law_913 (lv_at hl 0 rfl) ?_
      refine lv_iconst (v := 1) hx hb dL_law_915 (by decide) ?_
      refine lv_iadd hx hb dL_law_916 ?_
      refine lv_topi (fun z_258 ez_258 => ?_)
      obtain rfl : z_258 = 1 := ez_258.trans (by decide)
      refine va_sld hx hb hX hbl hbA hS (vp_in_nI (n := 1) (by decide) (by decide)) dL_law_917 ?_
      refine lv_aload_n hx hb dL_law_918 rfl (lv_at hl 4 rfl) ?_
      refine lv_iload hx hb dL_law_919 (lv_at hl 0 rfl) ?_
      refine lv_iconst (v := 2) hx hb dL_law_921 (by decide) ?_
      refine lv_iadd hx hb dL_law_922 ?_
      refine lv_topi (fun z_259 ez_259 => ?_)
      obtain rfl : z_259 = 2 := ez_259.trans (by decide)
      refine va_sld hx hb hX hbl hbA hS (vp_in_nI (n := 2) (by decide) (by decide)) dL_law_923 ?_
      refine lv_aload_n hx hb dL_law_924 rfl (lv_at hl 4 rfl) ?_
      refine lv_iload hx hb dL_law_925 (lv_at hl 0 rfl) ?_
      refine lv_iconst (v := 3) hx hb dL_law_927 (by decide) ?_
      refine lv_iadd hx hb dL_law_928 ?_
      refine lv_topi (fun z_260 ez_260 => ?_)
      obtain rfl : z_260 = 3 := ez_260.trans (by decide)
      refine va_sld hx hb hX hbl hbA hS (vp_in_nI (n := 3) (by decide) (by decide)) dL_law_929 ?_
      have hPc := hP.sub (ws' := [(x, .inr (10, fs_x)), (rd, .inr (6, fs_rd)), (tp, .inr (9, fs_tp)), (ra, .inr (5, [.long u0, .long w0])), (li, .inr (3, fs_li)), (ho, .inr (4, fs_ho)), (dr, .inr (3, fs_dr)), (hd, .inr (4, fs_hd))]) [0, 1, 2, 4, 5, 6, 7, 8] rfl
      have hDc := hD.sub (ws' := [(x, .inr (10, fs_x)), (rd, .inr (6, fs_rd)), (tp, .inr (9, fs_tp)), (ra, .inr (5, [.long u0, .long w0])), (li, .inr (3, fs_li)), (ho, .inr (4, fs_ho)), (dr, .inr (3, fs_dr)), (hd, .inr (4, fs_hd))]) [0, 1, 2, 4, 5, 6, 7, 8] (by decide) rfl
      have hKc := hK.sub (tys' := []) [] rfl
      have hFc := va_free (wc := [(x, .inr (10, fs_x)), (rd, .inr (6, fs_rd)), (tp, .inr (9, fs_tp)), (ra, .inr (5, [.long u0, .long w0])), (li, .inr (3, fs_li)), (ho, .inr (4, fs_ho)), (dr, .inr (3, fs_dr)), (hd, .inr (4, fs_hd))]) hD hS hA [0, 1, 2, 4, 5, 6, 7, 8] rfl
      refine va_calli (va_runV (As := [.int (xs (1 : Int32).toNatClampNeg), .int (xs (2 : Int32).toNatClampNeg), .int (xs (3 : Int32).toNatClampNeg)]) (rest := []) ⟨hx, hb, hml, hown, hts⟩ (k_X11_sign l dC dI H.size x fs_x rd fs_rd tp fs_tp ra [.long u0, .long w0] li fs_li ho fs_ho dr fs_dr hd fs_hd (xs (1 : Int32).toNatClampNeg) (xs (2 : Int32).toNatClampNeg) (xs (3 : Int32).toNatClampNeg) hn_x hf_x_0 hf_x_3 hf_x_8 hf_x_9 hf_x_10 hn_rd hf_rd_0 hn_tp rfl hn_li hf_li_2 hn_ho hn_dr hf_dr_2 hn_hd) (cwV 3 hts gL0_X11_sign rfl rfl rfl (by decide +kernel) ⟨Nat.le_of_ble_eq_true rfl, Nat.le_of_ble_eq_true rfl⟩) ⟨fun a U g mk q => by obtain ⟨q0, q1, qP, qK, qD⟩ := q; exact ⟨q0, q1, qP, va_K.moved (u := U) (U := U.calling g mk a) (Vm.Alike.refl U.vm) qK, qD⟩, va_recv hKc hPc (ci := 10) (q0 := 0) rfl rfl, fun U hU hW => ⟨rfl, by rw [hU], by rw [hU]; exact hPc, va_K.moved hW.alike hKc, hDc.weaken (fun _ _ _ _ => trivial)⟩⟩ rfl rfl hl.1 rfl (lv_room (Nat.le_of_ble_eq_true rfl)) dL_law_930 ⟨Nat.le_of_ble_eq_true rfl, Nat.le_of_ble_eq_true rfl⟩) hS (fun q _ h => hFc q h) hFc (fun r_261 u t H1 locs ht hvm hw hB hz1 hk1 hS => ?_)
      obtain ⟨hP1, hK1, hD1⟩ := hB
      rw [ht] at hP1
      have hK1 := va_K.moved hvm.symm hK1
      obtain ⟨hP, hD⟩ := va_join (wr := [(ba, .inl (cB, 900, .inl fb)), (mm, .inr (11, fs_mm)), (mb, .inl (cM, 900, .inl fM))]) (w1 := []) hP hD [0, 1, 2, 4, 5, 6, 7, 8] [3, 9, 10] rfl rfl (by decide) (by decide) hk1 hFc hP1 hD1
      generalize H1 = H at hP hS ⊢
      have hP : va_P (dC, dI) vwCl [(ba, .inl (cB, 900, .inl fb)), (mm, .inr (11, fs_mm)), (mb, .inl (cM, 900, .inl fM))] H := hP
      have hD : va_D A [(ba, .inl (cB, 900, .inl fb)), (mm, .inr (11, fs_mm)), (mb, .inl (cM, 900, .inl fM))] := hD
      have er_261 : r_261 = (-1) := hw
      subst er_261
      refine lv_aload_n hx hb dL_law_933 rfl (lv_at hl 2 rfl) ?_
      refine lv_aload_n hx hb dL_law_934 rfl (lv_at hl 4 rfl) ?_
      refine lv_iload hx hb dL_law_935 (lv_at hl 0 rfl) ?_
      refine lv_iconst (v := 1) hx hb dL_law_937 (by decide) ?_
      refine lv_iadd hx hb dL_law_938 ?_
      refine lv_topi (fun z_262 ez_262 => ?_)
      obtain rfl : z_262 = 1 := ez_262.trans (by decide)
      refine va_sld hx hb hX hbl hbA hS (vp_in_nI (n := 1) (by decide) (by decide)) dL_law_939 ?_
      refine lv_aload_n hx hb dL_law_940 rfl (lv_at hl 4 rfl) ?_
      refine lv_iload hx hb dL_law_941 (lv_at hl 0 rfl) ?_
      refine lv_iconst (v := 2) hx hb dL_law_943 (by decide) ?_
      refine lv_iadd hx hb dL_law_944 ?_
      refine lv_topi (fun z_263 ez_263 => ?_)
      obtain rfl : z_263 = 2 := ez_263.trans (by decide)
      refine va_sld hx hb hX hbl hbA hS (vp_in_nI (n := 2) (by decide) (by decide)) dL_law_945 ?_
      refine lv_aload_n hx hb dL_law_946 rfl (lv_at hl 4 rfl) ?_
      refine lv_iload hx hb dL_law_947 (lv_at hl 0 rfl) ?_
      refine lv_iconst (v := 3) hx hb dL_law_949 (by decide) ?_
      refine lv_iadd hx hb dL_law_950 ?_
      refine lv_topi (fun z_264 ez_264 => ?_)
      obtain rfl : z_264 = 3 := ez_264.trans (by decide)
      refine va_sld hx hb hX hbl hbA hS (vp_in_nI (n := 3) (by decide) (by decide)) dL_law_951 ?_
      have hPc := hP.sub (ws' := [(mm, .inr (11, fs_mm))]) [1] rfl
      have hDc := hD.sub (ws' := [(mm, .inr (11, fs_mm))]) [1] (by decide) rfl
      have hKc := hK.sub (tys' := []) [] rfl
      have hFc := va_free (wc := [(mm, .inr (11, fs_mm))]) hD hS hA [1] rfl
      refine va_calli (va_runV (As := [.int (xs (1 : Int32).toNatClampNeg), .int (xs (2 : Int32).toNatClampNeg), .int (xs (3 : Int32).toNatClampNeg)]) (rest := [.int (-1)]) ⟨hx, hb, hml, hown, hts⟩ (k_X12_sign l dC dI H.size mm fs_mm (xs (1 : Int32).toNatClampNeg) (xs (2 : Int32).toNatClampNeg) (xs (3 : Int32).toNatClampNeg) hn_mm hf_mm_20) (cwV 3 hts gL0_X12_sign rfl rfl rfl (by decide +kernel) ⟨Nat.le_of_ble_eq_true rfl, Nat.le_of_ble_eq_true rfl⟩) ⟨fun a U g mk q => by obtain ⟨q0, q1, qP, qK, qD⟩ := q; exact ⟨q0, q1, qP, va_K.moved (u := U) (U := U.calling g mk a) (Vm.Alike.refl U.vm) qK, qD⟩, va_recv hKc hPc (ci := 11) (q0 := 0) rfl rfl, fun U hU hW => ⟨rfl, by rw [hU], by rw [hU]; exact hPc, va_K.moved hW.alike hKc, hDc.weaken (fun _ _ _ _ => trivial)⟩⟩ rfl rfl hl.1 rfl (lv_room (Nat.le_of_ble_eq_true rfl)) dL_law_952 ⟨Nat.le_of_ble_eq_true rfl, Nat.le_of_ble_eq_true rfl⟩) hS (fun q _ h => hFc q h) hFc (fun r_265 u t H1 locs ht hvm hw hB hz1 hk1 hS => ?_)
      obtain ⟨hP1, hK1, hD1⟩ := hB
      rw [ht] at hP1
      have hK1 := va_K.moved hvm.symm hK1
      obtain ⟨hP, hD⟩ := va_join (wr := [(ba, .inl (cB, 900, .inl fb)), (mb, .inl (cM, 900, .inl fM))]) (w1 := []) hP hD [1] [0, 2] rfl rfl (by decide) (by decide) hk1 hFc hP1 hD1
      generalize H1 = H at hP hS ⊢
      have hP : va_P (dC, dI) vwCl [(ba, .inl (cB, 900, .inl fb)), (mb, .inl (cM, 900, .inl fM))] H := hP
      have hD : va_D A [(ba, .inl (cB, 900, .inl fb)), (mb, .inl (cM, 900, .inl fM))] := hD
      have er_265 : r_265 = (-1) := hw
      subst er_265
      refine lv_icmp_eq (tgt := 1893) hx hb dL_law_955 (by decide) (fun c_266 => ?_) (fun c_266 => ?_)
      · refine lv_iinc (v := 6) (lv' := [(4, .int 6), (3, .ref lo), (2, .ref mm), (1, .ref x), (0, .ref b)]) hx hb dL_law_1893 hl (k := 0) rfl (by decide) (by decide) rfl (fun ls hl => ?_)
        refine lv_goto (tgt := 23) hx hb dL_law_1896 (by decide) ?_
        refine lv_iload hx hb dL_law_23 (lv_at hl 0 rfl) ?_
        refine lv_aload_n hx hb dL_law_25 rfl (lv_at hl 4 rfl) ?_
        refine va_slen hx hb hX hbl hbA hS dL_law_26 ?_
        refine lv_topi (fun z_268 ez_268 => ?_)
        obtain rfl : z_268 = 6 := ez_268.trans rfl
        refine lv_bipush (v := 6) hx hb dL_law_27 (by decide) ?_
        refine lv_isub hx hb dL_law_29 ?_
        refine lv_topi (fun z_269 ez_269 => ?_)
        obtain rfl : z_269 = 0 := ez_269.trans (by decide)
        refine lv_icmp_gt (tgt := 1899) hx hb dL_law_30 (by decide) (fun c_270 => ?_) (fun c_270 => ?_)
        · refine lv_iconst (v := 1) hx hb dL_law_1899 (by decide) ?_
          refine va_forget (fun q hq => by have h9 := hS.2.2 q hq; rw [← hAe] at h9; exact h9) ?_
          refine W.widen (k := 600002) (n := 7302232) (Nat.le_of_ble_eq_true rfl) (Nat.le_of_ble_eq_true rfl) ?_
          exact lw_ret hd0 hx hb hr hlocks dL_law_1900
        · exact absurd (by decide) c_270
      · exact absurd (by decide) c_266
    by_cases c_271 : ((xs (0 : Int32).toNatClampNeg) &&& 63) = 17
    · refine lv_tableIn (tgt := 960) hx hb dL_law_40 (by rw [c_271]; decide) (by rw [c_271]; decide) (by rw [c_271]; rfl) (by decide) ?_
      refine lv_aload_n hx hb dL_law_960 rfl (lv_at hl 3 rfl) ?_
      refine lv_aload_n hx hb dL_law_961 rfl (lv_at hl 4 rfl) ?_
      refine lv_iload hx hb dL_law_962 (lv_at hl 0 rfl) ?_
      refine lv_iconst (v := 1) hx hb dL_law_964 (by decide) ?_
      refine lv_iadd hx hb dL_law_965 ?_
      refine lv_topi (fun z_272 ez_272 => ?_)
      obtain rfl : z_272 = 1 := ez_272.trans (by decide)
      refine va_sld hx hb hX hbl hbA hS (vp_in_nI (n := 1) (by decide) (by decide)) dL_law_966 ?_
      refine lv_aload_n hx hb dL_law_967 rfl (lv_at hl 4 rfl) ?_
      refine lv_iload hx hb dL_law_968 (lv_at hl 0 rfl) ?_
      refine lv_iconst (v := 2) hx hb dL_law_970 (by decide) ?_
      refine lv_iadd hx hb dL_law_971 ?_
      refine lv_topi (fun z_273 ez_273 => ?_)
      obtain rfl : z_273 = 2 := ez_273.trans (by decide)
      refine va_sld hx hb hX hbl hbA hS (vp_in_nI (n := 2) (by decide) (by decide)) dL_law_972 ?_
      have hPc := hP.sub (ws' := [(x, .inr (10, fs_x)), (rd, .inr (6, fs_rd)), (tp, .inr (9, fs_tp)), (ra, .inr (5, [.long u0, .long w0])), (li, .inr (3, fs_li)), (ho, .inr (4, fs_ho)), (dr, .inr (3, fs_dr)), (hd, .inr (4, fs_hd))]) [0, 1, 2, 4, 5, 6, 7, 8] rfl
      have hDc := hD.sub (ws' := [(x, .inr (10, fs_x)), (rd, .inr (6, fs_rd)), (tp, .inr (9, fs_tp)), (ra, .inr (5, [.long u0, .long w0])), (li, .inr (3, fs_li)), (ho, .inr (4, fs_ho)), (dr, .inr (3, fs_dr)), (hd, .inr (4, fs_hd))]) [0, 1, 2, 4, 5, 6, 7, 8] (by decide) rfl
      have hKc := hK.sub (tys' := []) [] rfl
      have hFc := va_free (wc := [(x, .inr (10, fs_x)), (rd, .inr (6, fs_rd)), (tp, .inr (9, fs_tp)), (ra, .inr (5, [.long u0, .long w0])), (li, .inr (3, fs_li)), (ho, .inr (4, fs_ho)), (dr, .inr (3, fs_dr)), (hd, .inr (4, fs_hd))]) hD hS hA [0, 1, 2, 4, 5, 6, 7, 8] rfl
      refine va_calli (va_runV (As := [.int (xs (1 : Int32).toNatClampNeg), .int (xs (2 : Int32).toNatClampNeg)]) (rest := []) ⟨hx, hb, hml, hown, hts⟩ (k_X11_current l dC dI H.size x fs_x rd fs_rd tp fs_tp ra [.long u0, .long w0] li fs_li ho fs_ho dr fs_dr hd fs_hd (xs (1 : Int32).toNatClampNeg) (xs (2 : Int32).toNatClampNeg) hn_x hf_x_0 hf_x_3 hf_x_8 hf_x_9 hf_x_10 hn_rd hf_rd_0 hn_tp rfl hn_li hf_li_2 hn_ho hn_dr hf_dr_2 hn_hd) (cwV 2 hts gL0_X11_current rfl rfl rfl (by decide +kernel) ⟨Nat.le_of_ble_eq_true rfl, Nat.le_of_ble_eq_true rfl⟩) ⟨fun a U g mk q => by obtain ⟨q0, q1, qP, qK, qD⟩ := q; exact ⟨q0, q1, qP, va_K.moved (u := U) (U := U.calling g mk a) (Vm.Alike.refl U.vm) qK, qD⟩, va_recv hKc hPc (ci := 10) (q0 := 0) rfl rfl, fun U hU hW => ⟨rfl, by rw [hU], by rw [hU]; exact hPc, va_K.moved hW.alike hKc, hDc.weaken (fun _ _ _ _ => trivial)⟩⟩ rfl rfl hl.1 rfl (lv_room (Nat.le_of_ble_eq_true rfl)) dL_law_973 ⟨Nat.le_of_ble_eq_true rfl, Nat.le_of_ble_eq_true rfl⟩) hS (fun q _ h => hFc q h) hFc (fun r_274 u t H1 locs ht hvm hw hB hz1 hk1 hS => ?_)
      obtain ⟨hP1, hK1, hD1⟩ := hB
      rw [ht] at hP1
      have hK1 := va_K.moved hvm.symm hK1
      obtain ⟨hP, hD⟩ := va_join (wr := [(ba, .inl (cB, 900, .inl fb)), (mm, .inr (11, fs_mm)), (mb, .inl (cM, 900, .inl fM))]) (w1 := []) hP hD [0, 1, 2, 4, 5, 6, 7, 8] [3, 9, 10] rfl rfl (by decide) (by decide) hk1 hFc hP1 hD1
      generalize H1 = H at hP hS ⊢
      have hP : va_P (dC, dI) vwCl [(ba, .inl (cB, 900, .inl fb)), (mm, .inr (11, fs_mm)), (mb, .inl (cM, 900, .inl fM))] H := hP
      have hD : va_D A [(ba, .inl (cB, 900, .inl fb)), (mm, .inr (11, fs_mm)), (mb, .inl (cM, 900, .inl fM))] := hD
      have er_274 : r_274 = (-1) := hw
      subst er_274
      refine lv_aload_n hx hb dL_law_976 rfl (lv_at hl 2 rfl) ?_
      refine lv_aload_n hx hb dL_law_977 rfl (lv_at hl 4 rfl) ?_
      refine lv_iload hx hb dL_law_978 (lv_at hl 0 rfl) ?_
      refine lv_iconst (v := 1) hx hb dL_law_980 (by decide) ?_
      refine lv_iadd hx hb dL_law_981 ?_
      refine lv_topi (fun z_275 ez_275 => ?_)
      obtain rfl : z_275 = 1 := ez_275.trans (by decide)
      refine va_sld hx hb hX hbl hbA hS (vp_in_nI (n := 1) (by decide) (by decide)) dL_law_982 ?_
      refine lv_aload_n hx hb dL_law_983 rfl (lv_at hl 4 rfl) ?_
      refine lv_iload hx hb dL_law_984 (lv_at hl 0 rfl) ?_
      refine lv_iconst (v := 2) hx hb dL_law_986 (by decide) ?_
      refine lv_iadd hx hb dL_law_987 ?_
      refine lv_topi (fun z_276 ez_276 => ?_)
      obtain rfl : z_276 = 2 := ez_276.trans (by decide)
      refine va_sld hx hb hX hbl hbA hS (vp_in_nI (n := 2) (by decide) (by decide)) dL_law_988 ?_
      have hPc := hP.sub (ws' := [(mm, .inr (11, fs_mm))]) [1] rfl
      have hDc := hD.sub (ws' := [(mm, .inr (11, fs_mm))]) [1] (by decide) rfl
      have hKc := hK.sub (tys' := []) [] rfl
      have hFc := va_free (wc := [(mm, .inr (11, fs_mm))]) hD hS hA [1] rfl
      refine va_calli (va_runV (As := [.int (xs (1 : Int32).toNatClampNeg), .int (xs (2 : Int32).toNatClampNeg)]) (rest := [.int (-1)]) ⟨hx, hb, hml, hown, hts⟩ (k_X12_current l dC dI H.size mm fs_mm (xs (1 : Int32).toNatClampNeg) (xs (2 : Int32).toNatClampNeg) hn_mm hf_mm_20) (cwV 2 hts gL0_X12_current rfl rfl rfl (by decide +kernel) ⟨Nat.le_of_ble_eq_true rfl, Nat.le_of_ble_eq_true rfl⟩) ⟨fun a U g mk q => by obtain ⟨q0, q1, qP, qK, qD⟩ := q; exact ⟨q0, q1, qP, va_K.moved (u := U) (U := U.calling g mk a) (Vm.Alike.refl U.vm) qK, qD⟩, va_recv hKc hPc (ci := 11) (q0 := 0) rfl rfl, fun U hU hW => ⟨rfl, by rw [hU], by rw [hU]; exact hPc, va_K.moved hW.alike hKc, hDc.weaken (fun _ _ _ _ => trivial)⟩⟩ rfl rfl hl.1 rfl (lv_room (Nat.le_of_ble_eq_true rfl)) dL_law_989 ⟨Nat.le_of_ble_eq_true rfl, Nat.le_of_ble_eq_true rfl⟩) hS (fun q _ h => hFc q h) hFc (fun r_277 u t H1 locs ht hvm hw hB hz1 hk1 hS => ?_)
      obtain ⟨hP1, hK1, hD1⟩ := hB
      rw [ht] at hP1
      have hK1 := va_K.moved hvm.symm hK1
      obtain ⟨hP, hD⟩ := va_join (wr := [(ba, .inl (cB, 900, .inl fb)), (mb, .inl (cM, 900, .inl fM))]) (w1 := []) hP hD [1] [0, 2] rfl rfl (by decide) (by decide) hk1 hFc hP1 hD1
      generalize H1 = H at hP hS ⊢
      have hP : va_P (dC, dI) vwCl [(ba, .inl (cB, 900, .inl fb)), (mb, .inl (cM, 900, .inl fM))] H := hP
      have hD : va_D A [(ba, .inl (cB, 900, .inl fb)), (mb, .inl (cM, 900, .inl fM))] := hD
      have er_277 : r_277 = (-1) := hw
      subst er_277
      refine lv_icmp_eq (tgt := 1893) hx hb dL_law_992 (by decide) (fun c_278 => ?_) (fun c_278 => ?_)
      · refine lv_iinc (v := 6) (lv' := [(4, .int 6), (3, .ref lo), (2, .ref mm), (1, .ref x), (0, .ref b)]) hx hb dL_law_1893 hl (k := 0) rfl (by decide) (by decide) rfl (fun ls hl => ?_)
        refine lv_goto (tgt := 23) hx hb dL_law_1896 (by decide) ?_
        refine lv_iload hx hb dL_law_23 (lv_at hl 0 rfl) ?_
        refine lv_aload_n hx hb dL_law_25 rfl (lv_at hl 4 rfl) ?_
        refine va_slen hx hb hX hbl hbA hS dL_law_26 ?_
        refine lv_topi (fun z_280 ez_280 => ?_)
        obtain rfl : z_280 = 6 := ez_280.trans rfl
        refine lv_bipush (v := 6) hx hb dL_law_27 (by decide) ?_
        refine lv_isub hx hb dL_law_29 ?_
        refine lv_topi (fun z_281 ez_281 => ?_)
        obtain rfl : z_281 = 0 := ez_281.trans (by decide)
        refine lv_icmp_gt (tgt := 1899) hx hb dL_law_30 (by decide) (fun c_282 => ?_) (fun c_282 => ?_)
        · refine lv_iconst (v := 1) hx hb dL_law_1899 (by decide) ?_
          refine va_forget (fun q hq => by have h9 := hS.2.2 q hq; rw [← hAe] at h9; exact h9) ?_
          refine W.widen (k := 600002) (n := 7302232) (Nat.le_of_ble_eq_true rfl) (Nat.le_of_ble_eq_true rfl) ?_
          exact lw_ret hd0 hx hb hr hlocks dL_law_1900
        · exact absurd (by decide) c_282
      · exact absurd (by decide) c_278
    by_cases c_283 : ((xs (0 : Int32).toNatClampNeg) &&& 63) = 18
    · refine lv_tableIn (tgt := 997) hx hb dL_law_40 (by rw [c_283]; decide) (by rw [c_283]; decide) (by rw [c_283]; rfl) (by decide) ?_
      refine lv_aload_n hx hb dL_law_997 rfl (lv_at hl 3 rfl) ?_
      refine lv_aload_n hx hb dL_law_998 rfl (lv_at hl 4 rfl) ?_
      refine lv_iload hx hb dL_law_999 (lv_at hl 0 rfl) ?_
      refine lv_iconst (v := 1) hx hb dL_law_1001 (by decide) ?_
      refine lv_iadd hx hb dL_law_1002 ?_
      refine lv_topi (fun z_284 ez_284 => ?_)
      obtain rfl : z_284 = 1 := ez_284.trans (by decide)
      refine va_sld hx hb hX hbl hbA hS (vp_in_nI (n := 1) (by decide) (by decide)) dL_law_1003 ?_
      refine lv_aload_n hx hb dL_law_1004 rfl (lv_at hl 4 rfl) ?_
      refine lv_iload hx hb dL_law_1005 (lv_at hl 0 rfl) ?_
      refine lv_iconst (v := 2) hx hb dL_law_1007 (by decide) ?_
      refine lv_iadd hx hb dL_law_1008 ?_
      refine lv_topi (fun z_285 ez_285 => ?_)
      obtain rfl : z_285 = 2 := ez_285.trans (by decide)
      refine va_sld hx hb hX hbl hbA hS (vp_in_nI (n := 2) (by decide) (by decide)) dL_law_1009 ?_
      have hPc := hP.sub (ws' := [(x, .inr (10, fs_x)), (rd, .inr (6, fs_rd)), (tp, .inr (9, fs_tp)), (ra, .inr (5, [.long u0, .long w0])), (li, .inr (3, fs_li)), (ho, .inr (4, fs_ho)), (dr, .inr (3, fs_dr)), (hd, .inr (4, fs_hd))]) [0, 1, 2, 4, 5, 6, 7, 8] rfl
      have hDc := hD.sub (ws' := [(x, .inr (10, fs_x)), (rd, .inr (6, fs_rd)), (tp, .inr (9, fs_tp)), (ra, .inr (5, [.long u0, .long w0])), (li, .inr (3, fs_li)), (ho, .inr (4, fs_ho)), (dr, .inr (3, fs_dr)), (hd, .inr (4, fs_hd))]) [0, 1, 2, 4, 5, 6, 7, 8] (by decide) rfl
      have hKc := hK.sub (tys' := []) [] rfl
      have hFc := va_free (wc := [(x, .inr (10, fs_x)), (rd, .inr (6, fs_rd)), (tp, .inr (9, fs_tp)), (ra, .inr (5, [.long u0, .long w0])), (li, .inr (3, fs_li)), (ho, .inr (4, fs_ho)), (dr, .inr (3, fs_dr)), (hd, .inr (4, fs_hd))]) hD hS hA [0, 1, 2, 4, 5, 6, 7, 8] rfl
      refine va_calli (va_runV (As := [.int (xs (1 : Int32).toNatClampNeg), .int (xs (2 : Int32).toNatClampNeg)]) (rest := []) ⟨hx, hb, hml, hown, hts⟩ (k_X11_isEx l dC dI H.size x fs_x rd fs_rd tp fs_tp ra [.long u0, .long w0] li fs_li ho fs_ho dr fs_dr hd fs_hd (xs (1 : Int32).toNatClampNeg) (xs (2 : Int32).toNatClampNeg) hn_x hf_x_0 hf_x_3 hf_x_8 hf_x_9 hf_x_10 hn_rd hf_rd_0 hn_tp rfl hn_li hf_li_2 hn_ho hn_dr hf_dr_2 hn_hd) (cwV 2 hts gL0_X11_isEx rfl rfl rfl (by decide +kernel) ⟨Nat.le_of_ble_eq_true rfl, Nat.le_of_ble_eq_true rfl⟩) ⟨fun a U g mk q => by obtain ⟨q0, q1, qP, qK, qD⟩ := q; exact ⟨q0, q1, qP, va_K.moved (u := U) (U := U.calling g mk a) (Vm.Alike.refl U.vm) qK, qD⟩, va_recv hKc hPc (ci := 10) (q0 := 0) rfl rfl, fun U hU hW => ⟨rfl, by rw [hU], by rw [hU]; exact hPc, va_K.moved hW.alike hKc, hDc.weaken (fun _ _ _ _ => trivial)⟩⟩ rfl rfl hl.1 rfl (lv_room (Nat.le_of_ble_eq_true rfl)) dL_law_1010 ⟨Nat.le_of_ble_eq_true rfl, Nat.le_of_ble_eq_true rfl⟩) hS (fun q _ h => hFc q h) hFc (fun r_286 u t H1 locs ht hvm hw hB hz1 hk1 hS => ?_)
      obtain ⟨hP1, hK1, hD1⟩ := hB
      rw [ht] at hP1
      have hK1 := va_K.moved hvm.symm hK1
      obtain ⟨hP, hD⟩ := va_join (wr := [(ba, .inl (cB, 900, .inl fb)), (mm, .inr (11, fs_mm)), (mb, .inl (cM, 900, .inl fM))]) (w1 := []) hP hD [0, 1, 2, 4, 5, 6, 7, 8] [3, 9, 10] rfl rfl (by decide) (by decide) hk1 hFc hP1 hD1
      generalize H1 = H at hP hS ⊢
      have hP : va_P (dC, dI) vwCl [(ba, .inl (cB, 900, .inl fb)), (mm, .inr (11, fs_mm)), (mb, .inl (cM, 900, .inl fM))] H := hP
      have hD : va_D A [(ba, .inl (cB, 900, .inl fb)), (mm, .inr (11, fs_mm)), (mb, .inl (cM, 900, .inl fM))] := hD
      have er_286 : r_286 = (-1) := hw
      subst er_286
      refine lv_aload_n hx hb dL_law_1013 rfl (lv_at hl 2 rfl) ?_
      refine lv_aload_n hx hb dL_law_1014 rfl (lv_at hl 4 rfl) ?_
      refine lv_iload hx hb dL_law_1015 (lv_at hl 0 rfl) ?_
      refine lv_iconst (v := 1) hx hb dL_law_1017 (by decide) ?_
      refine lv_iadd hx hb dL_law_1018 ?_
      refine lv_topi (fun z_287 ez_287 => ?_)
      obtain rfl : z_287 = 1 := ez_287.trans (by decide)
      refine va_sld hx hb hX hbl hbA hS (vp_in_nI (n := 1) (by decide) (by decide)) dL_law_1019 ?_
      refine lv_aload_n hx hb dL_law_1020 rfl (lv_at hl 4 rfl) ?_
      refine lv_iload hx hb dL_law_1021 (lv_at hl 0 rfl) ?_
      refine lv_iconst (v := 2) hx hb dL_law_1023 (by decide) ?_
      refine lv_iadd hx hb dL_law_1024 ?_
      refine lv_topi (fun z_288 ez_288 => ?_)
      obtain rfl : z_288 = 2 := ez_288.trans (by decide)
      refine va_sld hx hb hX hbl hbA hS (vp_in_nI (n := 2) (by decide) (by decide)) dL_law_1025 ?_
      have hPc := hP.sub (ws' := [(mm, .inr (11, fs_mm))]) [1] rfl
      have hDc := hD.sub (ws' := [(mm, .inr (11, fs_mm))]) [1] (by decide) rfl
      have hKc := hK.sub (tys' := []) [] rfl
      have hFc := va_free (wc := [(mm, .inr (11, fs_mm))]) hD hS hA [1] rfl
      refine va_calli (va_runV (As := [.int (xs (1 : Int32).toNatClampNeg), .int (xs (2 : Int32).toNatClampNeg)]) (rest := [.int (-1)]) ⟨hx, hb, hml, hown, hts⟩ (k_X12_isEx l dC dI H.size mm fs_mm (xs (1 : Int32).toNatClampNeg) (xs (2 : Int32).toNatClampNeg) hn_mm hf_mm_20) (cwV 2 hts gL0_X12_isEx rfl rfl rfl (by decide +kernel) ⟨Nat.le_of_ble_eq_true rfl, Nat.le_of_ble_eq_true rfl⟩) ⟨fun a U g mk q => by obtain ⟨q0, q1, qP, qK, qD⟩ := q; exact ⟨q0, q1, qP, va_K.moved (u := U) (U := U.calling g mk a) (Vm.Alike.refl U.vm) qK, qD⟩, va_recv hKc hPc (ci := 11) (q0 := 0) rfl rfl, fun U hU hW => ⟨rfl, by rw [hU], by rw [hU]; exact hPc, va_K.moved hW.alike hKc, hDc.weaken (fun _ _ _ _ => trivial)⟩⟩ rfl rfl hl.1 rfl (lv_room (Nat.le_of_ble_eq_true rfl)) dL_law_1026 ⟨Nat.le_of_ble_eq_true rfl, Nat.le_of_ble_eq_true rfl⟩) hS (fun q _ h => hFc q h) hFc (fun r_289 u t H1 locs ht hvm hw hB hz1 hk1 hS => ?_)
      obtain ⟨hP1, hK1, hD1⟩ := hB
      rw [ht] at hP1
      have hK1 := va_K.moved hvm.symm hK1
      obtain ⟨hP, hD⟩ := va_join (wr := [(ba, .inl (cB, 900, .inl fb)), (mb, .inl (cM, 900, .inl fM))]) (w1 := []) hP hD [1] [0, 2] rfl rfl (by decide) (by decide) hk1 hFc hP1 hD1
      generalize H1 = H at hP hS ⊢
      have hP : va_P (dC, dI) vwCl [(ba, .inl (cB, 900, .inl fb)), (mb, .inl (cM, 900, .inl fM))] H := hP
      have hD : va_D A [(ba, .inl (cB, 900, .inl fb)), (mb, .inl (cM, 900, .inl fM))] := hD
      have er_289 : r_289 = (-1) := hw
      subst er_289
      refine lv_icmp_eq (tgt := 1893) hx hb dL_law_1029 (by decide) (fun c_290 => ?_) (fun c_290 => ?_)
      · refine lv_iinc (v := 6) (lv' := [(4, .int 6), (3, .ref lo), (2, .ref mm), (1, .ref x), (0, .ref b)]) hx hb dL_law_1893 hl (k := 0) rfl (by decide) (by decide) rfl (fun ls hl => ?_)
        refine lv_goto (tgt := 23) hx hb dL_law_1896 (by decide) ?_
        refine lv_iload hx hb dL_law_23 (lv_at hl 0 rfl) ?_
        refine lv_aload_n hx hb dL_law_25 rfl (lv_at hl 4 rfl) ?_
        refine va_slen hx hb hX hbl hbA hS dL_law_26 ?_
        refine lv_topi (fun z_292 ez_292 => ?_)
        obtain rfl : z_292 = 6 := ez_292.trans rfl
        refine lv_bipush (v := 6) hx hb dL_law_27 (by decide) ?_
        refine lv_isub hx hb dL_law_29 ?_
        refine lv_topi (fun z_293 ez_293 => ?_)
        obtain rfl : z_293 = 0 := ez_293.trans (by decide)
        refine lv_icmp_gt (tgt := 1899) hx hb dL_law_30 (by decide) (fun c_294 => ?_) (fun c_294 => ?_)
        · refine lv_iconst (v := 1) hx hb dL_law_1899 (by decide) ?_
          refine va_forget (fun q hq => by have h9 := hS.2.2 q hq; rw [← hAe] at h9; exact h9) ?_
          refine W.widen (k := 600002) (n := 7302232) (Nat.le_of_ble_eq_true rfl) (Nat.le_of_ble_eq_true rfl) ?_
          exact lw_ret hd0 hx hb hr hlocks dL_law_1900
        · exact absurd (by decide) c_294
      · exact absurd (by decide) c_290
    by_cases c_295 : ((xs (0 : Int32).toNatClampNeg) &&& 63) = 19
    · refine lv_tableIn (tgt := 1034) hx hb dL_law_40 (by rw [c_295]; decide) (by rw [c_295]; decide) (by rw [c_295]; rfl) (by decide) ?_
      refine lv_aload_n hx hb dL_law_1034 rfl (lv_at hl 3 rfl) ?_
      refine lv_aload_n hx hb dL_law_1035 rfl (lv_at hl 4 rfl) ?_
      refine lv_iload hx hb dL_law_1036 (lv_at hl 0 rfl) ?_
      refine lv_iconst (v := 1) hx hb dL_law_1038 (by decide) ?_
      refine lv_iadd hx hb dL_law_1039 ?_
      refine lv_topi (fun z_296 ez_296 => ?_)
      obtain rfl : z_296 = 1 := ez_296.trans (by decide)
      refine va_sld hx hb hX hbl hbA hS (vp_in_nI (n := 1) (by decide) (by decide)) dL_law_1040 ?_
      refine lv_aload_n hx hb dL_law_1041 rfl (lv_at hl 4 rfl) ?_
      refine lv_iload hx hb dL_law_1042 (lv_at hl 0 rfl) ?_
      refine lv_iconst (v := 2) hx hb dL_law_1044 (by decide) ?_
      refine lv_iadd hx hb dL_law_1045 ?_
      refine lv_topi (fun z_297 ez_297 => ?_)
      obtain rfl : z_297 = 2 := ez_297.trans (by decide)
      refine va_sld hx hb hX hbl hbA hS (vp_in_nI (n := 2) (by decide) (by decide)) dL_law_1046 ?_
      refine lv_aload_n hx hb dL_law_1047 rfl (lv_at hl 4 rfl) ?_
      refine lv_iload hx hb dL_law_1048 (lv_at hl 0 rfl) ?_
      refine lv_iconst (v := 3) hx hb dL_law_1050 (by decide) ?_
      refine lv_iadd hx hb dL_law_1051 ?_
      refine lv_topi (fun z_298 ez_298 => ?_)
      obtain rfl : z_298 = 3 := ez_298.trans (by decide)
      refine va_sld hx hb hX hbl hbA hS (vp_in_nI (n := 3) (by decide) (by decide)) dL_law_1052 ?_
      refine lv_if_eq (tgt := 1060) hx hb dL_law_1053 (by decide) (fun c_299 => ?_) (fun c_299 => ?_)
      · refine lv_iconst (v := 0) hx hb dL_law_1060 (by decide) ?_
        have hPc := hP.sub (ws' := [(x, .inr (10, fs_x)), (rd, .inr (6, fs_rd)), (tp, .inr (9, fs_tp)), (ra, .inr (5, [.long u0, .long w0])), (li, .inr (3, fs_li)), (ho, .inr (4, fs_ho)), (dr, .inr (3, fs_dr)), (hd, .inr (4, fs_hd))]) [0, 1, 2, 4, 5, 6, 7, 8] rfl
        have hDc := hD.sub (ws' := [(x, .inr (10, fs_x)), (rd, .inr (6, fs_rd)), (tp, .inr (9, fs_tp)), (ra, .inr (5, [.long u0, .long w0])), (li, .inr (3, fs_li)), (ho, .inr (4, fs_ho)), (dr, .inr (3, fs_dr)), (hd, .inr (4, fs_hd))]) [0, 1, 2, 4, 5, 6, 7, 8] (by decide) rfl
        have hKc := hK.sub (tys' := []) [] rfl
        have hFc := va_free (wc := [(x, .inr (10, fs_x)), (rd, .inr (6, fs_rd)), (tp, .inr (9, fs_tp)), (ra, .inr (5, [.long u0, .long w0])), (li, .inr (3, fs_li)), (ho, .inr (4, fs_ho)), (dr, .inr (3, fs_dr)), (hd, .inr (4, fs_hd))]) hD hS hA [0, 1, 2, 4, 5, 6, 7, 8] rfl
        refine va_calll (va_runV (As := [.int (xs (1 : Int32).toNatClampNeg), .int (xs (2 : Int32).toNatClampNeg), .int 0]) (rest := []) ⟨hx, hb, hml, hown, hts⟩ (k_X11_accrued l dC dI H.size x fs_x rd fs_rd tp fs_tp ra [.long u0, .long w0] li fs_li ho fs_ho dr fs_dr hd fs_hd (xs (1 : Int32).toNatClampNeg) (xs (2 : Int32).toNatClampNeg) 0 hn_x hf_x_0 hf_x_3 hf_x_8 hf_x_9 hf_x_10 hn_rd hf_rd_0 hn_tp rfl hn_li hf_li_2 hn_ho hn_dr hf_dr_2 hn_hd) (cwV 3 hts gL0_X11_accrued rfl rfl rfl (by decide +kernel) ⟨Nat.le_of_ble_eq_true rfl, Nat.le_of_ble_eq_true rfl⟩) ⟨fun a U g mk q => by obtain ⟨q0, q1, qP, qK, qD⟩ := q; exact ⟨q0, q1, qP, va_K.moved (u := U) (U := U.calling g mk a) (Vm.Alike.refl U.vm) qK, qD⟩, va_recv hKc hPc (ci := 10) (q0 := 0) rfl rfl, fun U hU hW => ⟨rfl, by rw [hU], by rw [hU]; exact hPc, va_K.moved hW.alike hKc, hDc.weaken (fun _ _ _ _ => trivial)⟩⟩ rfl rfl hl.1 rfl (lv_room (Nat.le_of_ble_eq_true rfl)) dL_law_1061 ⟨Nat.le_of_ble_eq_true rfl, Nat.le_of_ble_eq_true rfl⟩) hS (fun q _ h => hFc q h) hFc (fun r_300 u t H1 locs ht hvm hw hB hz1 hk1 hS => ?_)
        obtain ⟨hP1, hK1, hD1⟩ := hB
        rw [ht] at hP1
        have hK1 := va_K.moved hvm.symm hK1
        obtain ⟨hP, hD⟩ := va_join (wr := [(ba, .inl (cB, 900, .inl fb)), (mm, .inr (11, fs_mm)), (mb, .inl (cM, 900, .inl fM))]) (w1 := []) hP hD [0, 1, 2, 4, 5, 6, 7, 8] [3, 9, 10] rfl rfl (by decide) (by decide) hk1 hFc hP1 hD1
        generalize H1 = H at hP hS ⊢
        have hP : va_P (dC, dI) vwCl [(ba, .inl (cB, 900, .inl fb)), (mm, .inr (11, fs_mm)), (mb, .inl (cM, 900, .inl fM))] H := hP
        have hD : va_D A [(ba, .inl (cB, 900, .inl fb)), (mm, .inr (11, fs_mm)), (mb, .inl (cM, 900, .inl fM))] := hD
        have er_300 : r_300 = (-9223372036854775808) := hw
        subst er_300
        refine lv_aload_n hx hb dL_law_1064 rfl (lv_at hl 2 rfl) ?_
        refine lv_aload_n hx hb dL_law_1065 rfl (lv_at hl 4 rfl) ?_
        refine lv_iload hx hb dL_law_1066 (lv_at hl 0 rfl) ?_
        refine lv_iconst (v := 1) hx hb dL_law_1068 (by decide) ?_
        refine lv_iadd hx hb dL_law_1069 ?_
        refine lv_topi (fun z_301 ez_301 => ?_)
        obtain rfl : z_301 = 1 := ez_301.trans (by decide)
        refine va_sld hx hb hX hbl hbA hS (vp_in_nI (n := 1) (by decide) (by decide)) dL_law_1070 ?_
        refine lv_aload_n hx hb dL_law_1071 rfl (lv_at hl 4 rfl) ?_
        refine lv_iload hx hb dL_law_1072 (lv_at hl 0 rfl) ?_
        refine lv_iconst (v := 2) hx hb dL_law_1074 (by decide) ?_
        refine lv_iadd hx hb dL_law_1075 ?_
        refine lv_topi (fun z_302 ez_302 => ?_)
        obtain rfl : z_302 = 2 := ez_302.trans (by decide)
        refine va_sld hx hb hX hbl hbA hS (vp_in_nI (n := 2) (by decide) (by decide)) dL_law_1076 ?_
        refine lv_aload_n hx hb dL_law_1077 rfl (lv_at hl 4 rfl) ?_
        refine lv_iload hx hb dL_law_1078 (lv_at hl 0 rfl) ?_
        refine lv_iconst (v := 3) hx hb dL_law_1080 (by decide) ?_
        refine lv_iadd hx hb dL_law_1081 ?_
        refine lv_topi (fun z_303 ez_303 => ?_)
        obtain rfl : z_303 = 3 := ez_303.trans (by decide)
        refine va_sld hx hb hX hbl hbA hS (vp_in_nI (n := 3) (by decide) (by decide)) dL_law_1082 ?_
        refine lv_if_eq (tgt := 1090) hx hb dL_law_1083 (by decide) (fun c_304 => ?_) (fun c_304 => ?_)
        · refine lv_iconst (v := 0) hx hb dL_law_1090 (by decide) ?_
          have hPc := hP.sub (ws' := [(mm, .inr (11, fs_mm))]) [1] rfl
          have hDc := hD.sub (ws' := [(mm, .inr (11, fs_mm))]) [1] (by decide) rfl
          have hKc := hK.sub (tys' := []) [] rfl
          have hFc := va_free (wc := [(mm, .inr (11, fs_mm))]) hD hS hA [1] rfl
          refine va_calll (va_runV (As := [.int (xs (1 : Int32).toNatClampNeg), .int (xs (2 : Int32).toNatClampNeg), .int 0]) (rest := [.long (-9223372036854775808)]) ⟨hx, hb, hml, hown, hts⟩ (k_X12_accrued l dC dI H.size mm fs_mm (xs (1 : Int32).toNatClampNeg) (xs (2 : Int32).toNatClampNeg) 0 hn_mm hf_mm_20) (cwV 3 hts gL0_X12_accrued rfl rfl rfl (by decide +kernel) ⟨Nat.le_of_ble_eq_true rfl, Nat.le_of_ble_eq_true rfl⟩) ⟨fun a U g mk q => by obtain ⟨q0, q1, qP, qK, qD⟩ := q; exact ⟨q0, q1, qP, va_K.moved (u := U) (U := U.calling g mk a) (Vm.Alike.refl U.vm) qK, qD⟩, va_recv hKc hPc (ci := 11) (q0 := 0) rfl rfl, fun U hU hW => ⟨rfl, by rw [hU], by rw [hU]; exact hPc, va_K.moved hW.alike hKc, hDc.weaken (fun _ _ _ _ => trivial)⟩⟩ rfl rfl hl.1 rfl (lv_room (Nat.le_of_ble_eq_true rfl)) dL_law_1091 ⟨Nat.le_of_ble_eq_true rfl, Nat.le_of_ble_eq_true rfl⟩) hS (fun q _ h => hFc q h) hFc (fun r_305 u t H1 locs ht hvm hw hB hz1 hk1 hS => ?_)
          obtain ⟨hP1, hK1, hD1⟩ := hB
          rw [ht] at hP1
          have hK1 := va_K.moved hvm.symm hK1
          obtain ⟨hP, hD⟩ := va_join (wr := [(ba, .inl (cB, 900, .inl fb)), (mb, .inl (cM, 900, .inl fM))]) (w1 := []) hP hD [1] [0, 2] rfl rfl (by decide) (by decide) hk1 hFc hP1 hD1
          generalize H1 = H at hP hS ⊢
          have hP : va_P (dC, dI) vwCl [(ba, .inl (cB, 900, .inl fb)), (mb, .inl (cM, 900, .inl fM))] H := hP
          have hD : va_D A [(ba, .inl (cB, 900, .inl fb)), (mb, .inl (cM, 900, .inl fM))] := hD
          have er_305 : r_305 = (-9223372036854775808) := hw
          subst er_305
          refine W.lcmp hx hb dL_law_1094 ?_
          refine lv_topi (fun z_306 ez_306 => ?_)
          obtain rfl : z_306 = 0 := ez_306.trans (by decide)
          refine lv_if_eq (tgt := 1893) hx hb dL_law_1095 (by decide) (fun c_307 => ?_) (fun c_307 => ?_)
          · refine lv_iinc (v := 6) (lv' := [(4, .int 6), (3, .ref lo), (2, .ref mm), (1, .ref x), (0, .ref b)]) hx hb dL_law_1893 hl (k := 0) rfl (by decide) (by decide) rfl (fun ls hl => ?_)
            refine lv_goto (tgt := 23) hx hb dL_law_1896 (by decide) ?_
            refine lv_iload hx hb dL_law_23 (lv_at hl 0 rfl) ?_
            refine lv_aload_n hx hb dL_law_25 rfl (lv_at hl 4 rfl) ?_
            refine va_slen hx hb hX hbl hbA hS dL_law_26 ?_
            refine lv_topi (fun z_309 ez_309 => ?_)
            obtain rfl : z_309 = 6 := ez_309.trans rfl
            refine lv_bipush (v := 6) hx hb dL_law_27 (by decide) ?_
            refine lv_isub hx hb dL_law_29 ?_
            refine lv_topi (fun z_310 ez_310 => ?_)
            obtain rfl : z_310 = 0 := ez_310.trans (by decide)
            refine lv_icmp_gt (tgt := 1899) hx hb dL_law_30 (by decide) (fun c_311 => ?_) (fun c_311 => ?_)
            · refine lv_iconst (v := 1) hx hb dL_law_1899 (by decide) ?_
              refine va_forget (fun q hq => by have h9 := hS.2.2 q hq; rw [← hAe] at h9; exact h9) ?_
              refine W.widen (k := 600002) (n := 7302232) (Nat.le_of_ble_eq_true rfl) (Nat.le_of_ble_eq_true rfl) ?_
              exact lw_ret hd0 hx hb hr hlocks dL_law_1900
            · exact absurd (by decide) c_311
          · exact absurd (by decide) c_307
        · exact absurd c_299 c_304
      · refine lv_iconst (v := 1) hx hb dL_law_1056 (by decide) ?_
        refine lv_goto (tgt := 1061) hx hb dL_law_1057 (by decide) ?_
        have hPc := hP.sub (ws' := [(x, .inr (10, fs_x)), (rd, .inr (6, fs_rd)), (tp, .inr (9, fs_tp)), (ra, .inr (5, [.long u0, .long w0])), (li, .inr (3, fs_li)), (ho, .inr (4, fs_ho)), (dr, .inr (3, fs_dr)), (hd, .inr (4, fs_hd))]) [0, 1, 2, 4, 5, 6, 7, 8] rfl
        have hDc := hD.sub (ws' := [(x, .inr (10, fs_x)), (rd, .inr (6, fs_rd)), (tp, .inr (9, fs_tp)), (ra, .inr (5, [.long u0, .long w0])), (li, .inr (3, fs_li)), (ho, .inr (4, fs_ho)), (dr, .inr (3, fs_dr)), (hd, .inr (4, fs_hd))]) [0, 1, 2, 4, 5, 6, 7, 8] (by decide) rfl
        have hKc := hK.sub (tys' := []) [] rfl
        have hFc := va_free (wc := [(x, .inr (10, fs_x)), (rd, .inr (6, fs_rd)), (tp, .inr (9, fs_tp)), (ra, .inr (5, [.long u0, .long w0])), (li, .inr (3, fs_li)), (ho, .inr (4, fs_ho)), (dr, .inr (3, fs_dr)), (hd, .inr (4, fs_hd))]) hD hS hA [0, 1, 2, 4, 5, 6, 7, 8] rfl
        refine va_calll (va_runV (As := [.int (xs (1 : Int32).toNatClampNeg), .int (xs (2 : Int32).toNatClampNeg), .int 1]) (rest := []) ⟨hx, hb, hml, hown, hts⟩ (k_X11_accrued l dC dI H.size x fs_x rd fs_rd tp fs_tp ra [.long u0, .long w0] li fs_li ho fs_ho dr fs_dr hd fs_hd (xs (1 : Int32).toNatClampNeg) (xs (2 : Int32).toNatClampNeg) 1 hn_x hf_x_0 hf_x_3 hf_x_8 hf_x_9 hf_x_10 hn_rd hf_rd_0 hn_tp rfl hn_li hf_li_2 hn_ho hn_dr hf_dr_2 hn_hd) (cwV 3 hts gL0_X11_accrued rfl rfl rfl (by decide +kernel) ⟨Nat.le_of_ble_eq_true rfl, Nat.le_of_ble_eq_true rfl⟩) ⟨fun a U g mk q => by obtain ⟨q0, q1, qP, qK, qD⟩ := q; exact ⟨q0, q1, qP, va_K.moved (u := U) (U := U.calling g mk a) (Vm.Alike.refl U.vm) qK, qD⟩, va_recv hKc hPc (ci := 10) (q0 := 0) rfl rfl, fun U hU hW => ⟨rfl, by rw [hU], by rw [hU]; exact hPc, va_K.moved hW.alike hKc, hDc.weaken (fun _ _ _ _ => trivial)⟩⟩ rfl rfl hl.1 rfl (lv_room (Nat.le_of_ble_eq_true rfl)) dL_law_1061 ⟨Nat.le_of_ble_eq_true rfl, Nat.le_of_ble_eq_true rfl⟩) hS (fun q _ h => hFc q h) hFc (fun r_312 u t H1 locs ht hvm hw hB hz1 hk1 hS => ?_)
        obtain ⟨hP1, hK1, hD1⟩ := hB
        rw [ht] at hP1
        have hK1 := va_K.moved hvm.symm hK1
        obtain ⟨hP, hD⟩ := va_join (wr := [(ba, .inl (cB, 900, .inl fb)), (mm, .inr (11, fs_mm)), (mb, .inl (cM, 900, .inl fM))]) (w1 := []) hP hD [0, 1, 2, 4, 5, 6, 7, 8] [3, 9, 10] rfl rfl (by decide) (by decide) hk1 hFc hP1 hD1
        generalize H1 = H at hP hS ⊢
        have hP : va_P (dC, dI) vwCl [(ba, .inl (cB, 900, .inl fb)), (mm, .inr (11, fs_mm)), (mb, .inl (cM, 900, .inl fM))] H := hP
        have hD : va_D A [(ba, .inl (cB, 900, .inl fb)), (mm, .inr (11, fs_mm)), (mb, .inl (cM, 900, .inl fM))] := hD
        have er_312 : r_312 = (-9223372036854775808) := hw
        subst er_312
        refine lv_aload_n hx hb dL_law_1064 rfl (lv_at hl 2 rfl) ?_
        refine lv_aload_n hx hb dL_law_1065 rfl (lv_at hl 4 rfl) ?_
        refine lv_iload hx hb dL_law_1066 (lv_at hl 0 rfl) ?_
        refine lv_iconst (v := 1) hx hb dL_law_1068 (by decide) ?_
        refine lv_iadd hx hb dL_law_1069 ?_
        refine lv_topi (fun z_313 ez_313 => ?_)
        obtain rfl : z_313 = 1 := ez_313.trans (by decide)
        refine va_sld hx hb hX hbl hbA hS (vp_in_nI (n := 1) (by decide) (by decide)) dL_law_1070 ?_
        refine lv_aload_n hx hb dL_law_1071 rfl (lv_at hl 4 rfl) ?_
        refine lv_iload hx hb dL_law_1072 (lv_at hl 0 rfl) ?_
        refine lv_iconst (v := 2) hx hb dL_law_1074 (by decide) ?_
        refine lv_iadd hx hb dL_law_1075 ?_
        refine lv_topi (fun z_314 ez_314 => ?_)
        obtain rfl : z_314 = 2 := ez_314.trans (by decide)
        refine va_sld hx hb hX hbl hbA hS (vp_in_nI (n := 2) (by decide) (by decide)) dL_law_1076 ?_
        refine lv_aload_n hx hb dL_law_1077 rfl (lv_at hl 4 rfl) ?_
        refine lv_iload hx hb dL_law_1078 (lv_at hl 0 rfl) ?_
        refine lv_iconst (v := 3) hx hb dL_law_1080 (by decide) ?_
        refine lv_iadd hx hb dL_law_1081 ?_
        refine lv_topi (fun z_315 ez_315 => ?_)
        obtain rfl : z_315 = 3 := ez_315.trans (by decide)
        refine va_sld hx hb hX hbl hbA hS (vp_in_nI (n := 3) (by decide) (by decide)) dL_law_1082 ?_
        refine lv_if_eq (tgt := 1090) hx hb dL_law_1083 (by decide) (fun c_316 => ?_) (fun c_316 => ?_)
        · exact absurd c_316 c_299
        · refine lv_iconst (v := 1) hx hb dL_law_1086 (by decide) ?_
          refine lv_goto (tgt := 1091) hx hb dL_law_1087 (by decide) ?_
          have hPc := hP.sub (ws' := [(mm, .inr (11, fs_mm))]) [1] rfl
          have hDc := hD.sub (ws' := [(mm, .inr (11, fs_mm))]) [1] (by decide) rfl
          have hKc := hK.sub (tys' := []) [] rfl
          have hFc := va_free (wc := [(mm, .inr (11, fs_mm))]) hD hS hA [1] rfl
          refine va_calll (va_runV (As := [.int (xs (1 : Int32).toNatClampNeg), .int (xs (2 : Int32).toNatClampNeg), .int 1]) (rest := [.long (-9223372036854775808)]) ⟨hx, hb, hml, hown, hts⟩ (k_X12_accrued l dC dI H.size mm fs_mm (xs (1 : Int32).toNatClampNeg) (xs (2 : Int32).toNatClampNeg) 1 hn_mm hf_mm_20) (cwV 3 hts gL0_X12_accrued rfl rfl rfl (by decide +kernel) ⟨Nat.le_of_ble_eq_true rfl, Nat.le_of_ble_eq_true rfl⟩) ⟨fun a U g mk q => by obtain ⟨q0, q1, qP, qK, qD⟩ := q; exact ⟨q0, q1, qP, va_K.moved (u := U) (U := U.calling g mk a) (Vm.Alike.refl U.vm) qK, qD⟩, va_recv hKc hPc (ci := 11) (q0 := 0) rfl rfl, fun U hU hW => ⟨rfl, by rw [hU], by rw [hU]; exact hPc, va_K.moved hW.alike hKc, hDc.weaken (fun _ _ _ _ => trivial)⟩⟩ rfl rfl hl.1 rfl (lv_room (Nat.le_of_ble_eq_true rfl)) dL_law_1091 ⟨Nat.le_of_ble_eq_true rfl, Nat.le_of_ble_eq_true rfl⟩) hS (fun q _ h => hFc q h) hFc (fun r_317 u t H1 locs ht hvm hw hB hz1 hk1 hS => ?_)
          obtain ⟨hP1, hK1, hD1⟩ := hB
          rw [ht] at hP1
          have hK1 := va_K.moved hvm.symm hK1
          obtain ⟨hP, hD⟩ := va_join (wr := [(ba, .inl (cB, 900, .inl fb)), (mb, .inl (cM, 900, .inl fM))]) (w1 := []) hP hD [1] [0, 2] rfl rfl (by decide) (by decide) hk1 hFc hP1 hD1
          generalize H1 = H at hP hS ⊢
          have hP : va_P (dC, dI) vwCl [(ba, .inl (cB, 900, .inl fb)), (mb, .inl (cM, 900, .inl fM))] H := hP
          have hD : va_D A [(ba, .inl (cB, 900, .inl fb)), (mb, .inl (cM, 900, .inl fM))] := hD
          have er_317 : r_317 = (-9223372036854775808) := hw
          subst er_317
          refine W.lcmp hx hb dL_law_1094 ?_
          refine lv_topi (fun z_318 ez_318 => ?_)
          obtain rfl : z_318 = 0 := ez_318.trans (by decide)
          refine lv_if_eq (tgt := 1893) hx hb dL_law_1095 (by decide) (fun c_319 => ?_) (fun c_319 => ?_)
          · refine lv_iinc (v := 6) (lv' := [(4, .int 6), (3, .ref lo), (2, .ref mm), (1, .ref x), (0, .ref b)]) hx hb dL_law_1893 hl (k := 0) rfl (by decide) (by decide) rfl (fun ls hl => ?_)
            refine lv_goto (tgt := 23) hx hb dL_law_1896 (by decide) ?_
            refine lv_iload hx hb dL_law_23 (lv_at hl 0 rfl) ?_
            refine lv_aload_n hx hb dL_law_25 rfl (lv_at hl 4 rfl) ?_
            refine va_slen hx hb hX hbl hbA hS dL_law_26 ?_
            refine lv_topi (fun z_321 ez_321 => ?_)
            obtain rfl : z_321 = 6 := ez_321.trans rfl
            refine lv_bipush (v := 6) hx hb dL_law_27 (by decide) ?_
            refine lv_isub hx hb dL_law_29 ?_
            refine lv_topi (fun z_322 ez_322 => ?_)
            obtain rfl : z_322 = 0 := ez_322.trans (by decide)
            refine lv_icmp_gt (tgt := 1899) hx hb dL_law_30 (by decide) (fun c_323 => ?_) (fun c_323 => ?_)
            · refine lv_iconst (v := 1) hx hb dL_law_1899 (by decide) ?_
              refine va_forget (fun q hq => by have h9 := hS.2.2 q hq; rw [← hAe] at h9; exact h9) ?_
              refine W.widen (k := 600002) (n := 7302232) (Nat.le_of_ble_eq_true rfl) (Nat.le_of_ble_eq_true rfl) ?_
              exact lw_ret hd0 hx hb hr hlocks dL_law_1900
            · exact absurd (by decide) c_323
          · exact absurd (by decide) c_319
    by_cases c_324 : ((xs (0 : Int32).toNatClampNeg) &&& 63) = 20
    · refine lv_tableIn (tgt := 1100) hx hb dL_law_40 (by rw [c_324]; decide) (by rw [c_324]; decide) (by rw [c_324]; rfl) (by decide) ?_
      refine lv_aload_n hx hb dL_law_1100 rfl (lv_at hl 3 rfl) ?_
      refine lv_aload_n hx hb dL_law_1101 rfl (lv_at hl 4 rfl) ?_
      refine lv_iload hx hb dL_law_1102 (lv_at hl 0 rfl) ?_
      refine lv_iconst (v := 1) hx hb dL_law_1104 (by decide) ?_
      refine lv_iadd hx hb dL_law_1105 ?_
      refine lv_topi (fun z_325 ez_325 => ?_)
      obtain rfl : z_325 = 1 := ez_325.trans (by decide)
      refine va_sld hx hb hX hbl hbA hS (vp_in_nI (n := 1) (by decide) (by decide)) dL_law_1106 ?_
      refine lv_aload_n hx hb dL_law_1107 rfl (lv_at hl 4 rfl) ?_
      refine lv_iload hx hb dL_law_1108 (lv_at hl 0 rfl) ?_
      refine lv_iconst (v := 2) hx hb dL_law_1110 (by decide) ?_
      refine lv_iadd hx hb dL_law_1111 ?_
      refine lv_topi (fun z_326 ez_326 => ?_)
      obtain rfl : z_326 = 2 := ez_326.trans (by decide)
      refine va_sld hx hb hX hbl hbA hS (vp_in_nI (n := 2) (by decide) (by decide)) dL_law_1112 ?_
      refine lv_aload_n hx hb dL_law_1113 rfl (lv_at hl 4 rfl) ?_
      refine lv_iload hx hb dL_law_1114 (lv_at hl 0 rfl) ?_
      refine lv_iconst (v := 3) hx hb dL_law_1116 (by decide) ?_
      refine lv_iadd hx hb dL_law_1117 ?_
      refine lv_topi (fun z_327 ez_327 => ?_)
      obtain rfl : z_327 = 3 := ez_327.trans (by decide)
      refine va_sld hx hb hX hbl hbA hS (vp_in_nI (n := 3) (by decide) (by decide)) dL_law_1118 ?_
      refine lv_if_eq (tgt := 1126) hx hb dL_law_1119 (by decide) (fun c_328 => ?_) (fun c_328 => ?_)
      · refine lv_iconst (v := 0) hx hb dL_law_1126 (by decide) ?_
        have hPc := hP.sub (ws' := [(x, .inr (10, fs_x)), (rd, .inr (6, fs_rd)), (tp, .inr (9, fs_tp)), (ra, .inr (5, [.long u0, .long w0])), (li, .inr (3, fs_li)), (ho, .inr (4, fs_ho)), (dr, .inr (3, fs_dr)), (hd, .inr (4, fs_hd))]) [0, 1, 2, 4, 5, 6, 7, 8] rfl
        have hDc := hD.sub (ws' := [(x, .inr (10, fs_x)), (rd, .inr (6, fs_rd)), (tp, .inr (9, fs_tp)), (ra, .inr (5, [.long u0, .long w0])), (li, .inr (3, fs_li)), (ho, .inr (4, fs_ho)), (dr, .inr (3, fs_dr)), (hd, .inr (4, fs_hd))]) [0, 1, 2, 4, 5, 6, 7, 8] (by decide) rfl
        have hKc := hK.sub (tys' := []) [] rfl
        have hFc := va_free (wc := [(x, .inr (10, fs_x)), (rd, .inr (6, fs_rd)), (tp, .inr (9, fs_tp)), (ra, .inr (5, [.long u0, .long w0])), (li, .inr (3, fs_li)), (ho, .inr (4, fs_ho)), (dr, .inr (3, fs_dr)), (hd, .inr (4, fs_hd))]) hD hS hA [0, 1, 2, 4, 5, 6, 7, 8] rfl
        refine va_calll (va_runV (As := [.int (xs (1 : Int32).toNatClampNeg), .int (xs (2 : Int32).toNatClampNeg), .int 0]) (rest := []) ⟨hx, hb, hml, hown, hts⟩ (k_X11_rest l dC dI H.size x fs_x rd fs_rd tp fs_tp ra [.long u0, .long w0] li fs_li ho fs_ho dr fs_dr hd fs_hd (xs (1 : Int32).toNatClampNeg) (xs (2 : Int32).toNatClampNeg) 0 hn_x hf_x_0 hf_x_3 hf_x_8 hf_x_9 hf_x_10 hn_rd hf_rd_0 hn_tp rfl hn_li hf_li_2 hn_ho hn_dr hf_dr_2 hn_hd) (cwV 3 hts gL0_X11_rest rfl rfl rfl (by decide +kernel) ⟨Nat.le_of_ble_eq_true rfl, Nat.le_of_ble_eq_true rfl⟩) ⟨fun a U g mk q => by obtain ⟨q0, q1, qP, qK, qD⟩ := q; exact ⟨q0, q1, qP, va_K.moved (u := U) (U := U.calling g mk a) (Vm.Alike.refl U.vm) qK, qD⟩, va_recv hKc hPc (ci := 10) (q0 := 0) rfl rfl, fun U hU hW => ⟨rfl, by rw [hU], by rw [hU]; exact hPc, va_K.moved hW.alike hKc, hDc.weaken (fun _ _ _ _ => trivial)⟩⟩ rfl rfl hl.1 rfl (lv_room (Nat.le_of_ble_eq_true rfl)) dL_law_1127 ⟨Nat.le_of_ble_eq_true rfl, Nat.le_of_ble_eq_true rfl⟩) hS (fun q _ h => hFc q h) hFc (fun r_329 u t H1 locs ht hvm hw hB hz1 hk1 hS => ?_)
        obtain ⟨hP1, hK1, hD1⟩ := hB
        rw [ht] at hP1
        have hK1 := va_K.moved hvm.symm hK1
        obtain ⟨hP, hD⟩ := va_join (wr := [(ba, .inl (cB, 900, .inl fb)), (mm, .inr (11, fs_mm)), (mb, .inl (cM, 900, .inl fM))]) (w1 := []) hP hD [0, 1, 2, 4, 5, 6, 7, 8] [3, 9, 10] rfl rfl (by decide) (by decide) hk1 hFc hP1 hD1
        generalize H1 = H at hP hS ⊢
        have hP : va_P (dC, dI) vwCl [(ba, .inl (cB, 900, .inl fb)), (mm, .inr (11, fs_mm)), (mb, .inl (cM, 900, .inl fM))] H := hP
        have hD : va_D A [(ba, .inl (cB, 900, .inl fb)), (mm, .inr (11, fs_mm)), (mb, .inl (cM, 900, .inl fM))] := hD
        have er_329 : r_329 = (-1) := hw
        subst er_329
        refine lv_aload_n hx hb dL_law_1130 rfl (lv_at hl 2 rfl) ?_
        refine lv_aload_n hx hb dL_law_1131 rfl (lv_at hl 4 rfl) ?_
        refine lv_iload hx hb dL_law_1132 (lv_at hl 0 rfl) ?_
        refine lv_iconst (v := 1) hx hb dL_law_1134 (by decide) ?_
        refine lv_iadd hx hb dL_law_1135 ?_
        refine lv_topi (fun z_330 ez_330 => ?_)
        obtain rfl : z_330 = 1 := ez_330.trans (by decide)
        refine va_sld hx hb hX hbl hbA hS (vp_in_nI (n := 1) (by decide) (by decide)) dL_law_1136 ?_
        refine lv_aload_n hx hb dL_law_1137 rfl (lv_at hl 4 rfl) ?_
        refine lv_iload hx hb dL_law_1138 (lv_at hl 0 rfl) ?_
        refine lv_iconst (v := 2) hx hb dL_law_1140 (by decide) ?_
        refine lv_iadd hx hb dL_law_1141 ?_
        refine lv_topi (fun z_331 ez_331 => ?_)
        obtain rfl : z_331 = 2 := ez_331.trans (by decide)
        refine va_sld hx hb hX hbl hbA hS (vp_in_nI (n := 2) (by decide) (by decide)) dL_law_1142 ?_
        refine lv_aload_n hx hb dL_law_1143 rfl (lv_at hl 4 rfl) ?_
        refine lv_iload hx hb dL_law_1144 (lv_at hl 0 rfl) ?_
        refine lv_iconst (v := 3) hx hb dL_law_1146 (by decide) ?_
        refine lv_iadd hx hb dL_law_1147 ?_
        refine lv_topi (fun z_332 ez_332 => ?_)
        obtain rfl : z_332 = 3 := ez_332.trans (by decide)
        refine va_sld hx hb hX hbl hbA hS (vp_in_nI (n := 3) (by decide) (by decide)) dL_law_1148 ?_
        refine lv_if_eq (tgt := 1156) hx hb dL_law_1149 (by decide) (fun c_333 => ?_) (fun c_333 => ?_)
        · refine lv_iconst (v := 0) hx hb dL_law_1156 (by decide) ?_
          have hPc := hP.sub (ws' := [(mm, .inr (11, fs_mm))]) [1] rfl
          have hDc := hD.sub (ws' := [(mm, .inr (11, fs_mm))]) [1] (by decide) rfl
          have hKc := hK.sub (tys' := []) [] rfl
          have hFc := va_free (wc := [(mm, .inr (11, fs_mm))]) hD hS hA [1] rfl
          refine va_calll (va_runV (As := [.int (xs (1 : Int32).toNatClampNeg), .int (xs (2 : Int32).toNatClampNeg), .int 0]) (rest := [.long (-1)]) ⟨hx, hb, hml, hown, hts⟩ (k_X12_rest l dC dI H.size mm fs_mm (xs (1 : Int32).toNatClampNeg) (xs (2 : Int32).toNatClampNeg) 0 hn_mm hf_mm_20) (cwV 3 hts gL0_X12_rest rfl rfl rfl (by decide +kernel) ⟨Nat.le_of_ble_eq_true rfl, Nat.le_of_ble_eq_true rfl⟩) ⟨fun a U g mk q => by obtain ⟨q0, q1, qP, qK, qD⟩ := q; exact ⟨q0, q1, qP, va_K.moved (u := U) (U := U.calling g mk a) (Vm.Alike.refl U.vm) qK, qD⟩, va_recv hKc hPc (ci := 11) (q0 := 0) rfl rfl, fun U hU hW => ⟨rfl, by rw [hU], by rw [hU]; exact hPc, va_K.moved hW.alike hKc, hDc.weaken (fun _ _ _ _ => trivial)⟩⟩ rfl rfl hl.1 rfl (lv_room (Nat.le_of_ble_eq_true rfl)) dL_law_1157 ⟨Nat.le_of_ble_eq_true rfl, Nat.le_of_ble_eq_true rfl⟩) hS (fun q _ h => hFc q h) hFc (fun r_334 u t H1 locs ht hvm hw hB hz1 hk1 hS => ?_)
          obtain ⟨hP1, hK1, hD1⟩ := hB
          rw [ht] at hP1
          have hK1 := va_K.moved hvm.symm hK1
          obtain ⟨hP, hD⟩ := va_join (wr := [(ba, .inl (cB, 900, .inl fb)), (mb, .inl (cM, 900, .inl fM))]) (w1 := []) hP hD [1] [0, 2] rfl rfl (by decide) (by decide) hk1 hFc hP1 hD1
          generalize H1 = H at hP hS ⊢
          have hP : va_P (dC, dI) vwCl [(ba, .inl (cB, 900, .inl fb)), (mb, .inl (cM, 900, .inl fM))] H := hP
          have hD : va_D A [(ba, .inl (cB, 900, .inl fb)), (mb, .inl (cM, 900, .inl fM))] := hD
          have er_334 : r_334 = (-1) := hw
          subst er_334
          refine W.lcmp hx hb dL_law_1160 ?_
          refine lv_topi (fun z_335 ez_335 => ?_)
          obtain rfl : z_335 = 0 := ez_335.trans (by decide)
          refine lv_if_eq (tgt := 1893) hx hb dL_law_1161 (by decide) (fun c_336 => ?_) (fun c_336 => ?_)
          · refine lv_iinc (v := 6) (lv' := [(4, .int 6), (3, .ref lo), (2, .ref mm), (1, .ref x), (0, .ref b)]) hx hb dL_law_1893 hl (k := 0) rfl (by decide) (by decide) rfl (fun ls hl => ?_)
            refine lv_goto (tgt := 23) hx hb dL_law_1896 (by decide) ?_
            refine lv_iload hx hb dL_law_23 (lv_at hl 0 rfl) ?_
            refine lv_aload_n hx hb dL_law_25 rfl (lv_at hl 4 rfl) ?_
            refine va_slen hx hb hX hbl hbA hS dL_law_26 ?_
            refine lv_topi (fun z_338 ez_338 => ?_)
            obtain rfl : z_338 = 6 := ez_338.trans rfl
            refine lv_bipush (v := 6) hx hb dL_law_27 (by decide) ?_
            refine lv_isub hx hb dL_law_29 ?_
            refine lv_topi (fun z_339 ez_339 => ?_)
            obtain rfl : z_339 = 0 := ez_339.trans (by decide)
            refine lv_icmp_gt (tgt := 1899) hx hb dL_law_30 (by decide) (fun c_340 => ?_) (fun c_340 => ?_)
            · refine lv_iconst (v := 1) hx hb dL_law_1899 (by decide) ?_
              refine va_forget (fun q hq => by have h9 := hS.2.2 q hq; rw [← hAe] at h9; exact h9) ?_
              refine W.widen (k := 600002) (n := 7302232) (Nat.le_of_ble_eq_true rfl) (Nat.le_of_ble_eq_true rfl) ?_
              exact lw_ret hd0 hx hb hr hlocks dL_law_1900
            · exact absurd (by decide) c_340
          · exact absurd (by decide) c_336
        · exact absurd c_328 c_333
      · refine lv_iconst (v := 1) hx hb dL_law_1122 (by decide) ?_
        refine lv_goto (tgt := 1127) hx hb dL_law_1123 (by decide) ?_
        have hPc := hP.sub (ws' := [(x, .inr (10, fs_x)), (rd, .inr (6, fs_rd)), (tp, .inr (9, fs_tp)), (ra, .inr (5, [.long u0, .long w0])), (li, .inr (3, fs_li)), (ho, .inr (4, fs_ho)), (dr, .inr (3, fs_dr)), (hd, .inr (4, fs_hd))]) [0, 1, 2, 4, 5, 6, 7, 8] rfl
        have hDc := hD.sub (ws' := [(x, .inr (10, fs_x)), (rd, .inr (6, fs_rd)), (tp, .inr (9, fs_tp)), (ra, .inr (5, [.long u0, .long w0])), (li, .inr (3, fs_li)), (ho, .inr (4, fs_ho)), (dr, .inr (3, fs_dr)), (hd, .inr (4, fs_hd))]) [0, 1, 2, 4, 5, 6, 7, 8] (by decide) rfl
        have hKc := hK.sub (tys' := []) [] rfl
        have hFc := va_free (wc := [(x, .inr (10, fs_x)), (rd, .inr (6, fs_rd)), (tp, .inr (9, fs_tp)), (ra, .inr (5, [.long u0, .long w0])), (li, .inr (3, fs_li)), (ho, .inr (4, fs_ho)), (dr, .inr (3, fs_dr)), (hd, .inr (4, fs_hd))]) hD hS hA [0, 1, 2, 4, 5, 6, 7, 8] rfl
        refine va_calll (va_runV (As := [.int (xs (1 : Int32).toNatClampNeg), .int (xs (2 : Int32).toNatClampNeg), .int 1]) (rest := []) ⟨hx, hb, hml, hown, hts⟩ (k_X11_rest l dC dI H.size x fs_x rd fs_rd tp fs_tp ra [.long u0, .long w0] li fs_li ho fs_ho dr fs_dr hd fs_hd (xs (1 : Int32).toNatClampNeg) (xs (2 : Int32).toNatClampNeg) 1 hn_x hf_x_0 hf_x_3 hf_x_8 hf_x_9 hf_x_10 hn_rd hf_rd_0 hn_tp rfl hn_li hf_li_2 hn_ho hn_dr hf_dr_2 hn_hd) (cwV 3 hts gL0_X11_rest rfl rfl rfl (by decide +kernel) ⟨Nat.le_of_ble_eq_true rfl, Nat.le_of_ble_eq_true rfl⟩) ⟨fun a U g mk q => by obtain ⟨q0, q1, qP, qK, qD⟩ := q; exact ⟨q0, q1, qP, va_K.moved (u := U) (U := U.calling g mk a) (Vm.Alike.refl U.vm) qK, qD⟩, va_recv hKc hPc (ci := 10) (q0 := 0) rfl rfl, fun U hU hW => ⟨rfl, by rw [hU], by rw [hU]; exact hPc, va_K.moved hW.alike hKc, hDc.weaken (fun _ _ _ _ => trivial)⟩⟩ rfl rfl hl.1 rfl (lv_room (Nat.le_of_ble_eq_true rfl)) dL_law_1127 ⟨Nat.le_of_ble_eq_true rfl, Nat.le_of_ble_eq_true rfl⟩) hS (fun q _ h => hFc q h) hFc (fun r_341 u t H1 locs ht hvm hw hB hz1 hk1 hS => ?_)
        obtain ⟨hP1, hK1, hD1⟩ := hB
        rw [ht] at hP1
        have hK1 := va_K.moved hvm.symm hK1
        obtain ⟨hP, hD⟩ := va_join (wr := [(ba, .inl (cB, 900, .inl fb)), (mm, .inr (11, fs_mm)), (mb, .inl (cM, 900, .inl fM))]) (w1 := []) hP hD [0, 1, 2, 4, 5, 6, 7, 8] [3, 9, 10] rfl rfl (by decide) (by decide) hk1 hFc hP1 hD1
        generalize H1 = H at hP hS ⊢
        have hP : va_P (dC, dI) vwCl [(ba, .inl (cB, 900, .inl fb)), (mm, .inr (11, fs_mm)), (mb, .inl (cM, 900, .inl fM))] H := hP
        have hD : va_D A [(ba, .inl (cB, 900, .inl fb)), (mm, .inr (11, fs_mm)), (mb, .inl (cM, 900, .inl fM))] := hD
        have er_341 : r_341 = (-1) := hw
        subst er_341
        refine lv_aload_n hx hb dL_law_1130 rfl (lv_at hl 2 rfl) ?_
        refine lv_aload_n hx hb dL_law_1131 rfl (lv_at hl 4 rfl) ?_
        refine lv_iload hx hb dL_law_1132 (lv_at hl 0 rfl) ?_
        refine lv_iconst (v := 1) hx hb dL_law_1134 (by decide) ?_
        refine lv_iadd hx hb dL_law_1135 ?_
        refine lv_topi (fun z_342 ez_342 => ?_)
        obtain rfl : z_342 = 1 := ez_342.trans (by decide)
        refine va_sld hx hb hX hbl hbA hS (vp_in_nI (n := 1) (by decide) (by decide)) dL_law_1136 ?_
        refine lv_aload_n hx hb dL_law_1137 rfl (lv_at hl 4 rfl) ?_
        refine lv_iload hx hb dL_law_1138 (lv_at hl 0 rfl) ?_
        refine lv_iconst (v := 2) hx hb dL_law_1140 (by decide) ?_
        refine lv_iadd hx hb dL_law_1141 ?_
        refine lv_topi (fun z_343 ez_343 => ?_)
        obtain rfl : z_343 = 2 := ez_343.trans (by decide)
        refine va_sld hx hb hX hbl hbA hS (vp_in_nI (n := 2) (by decide) (by decide)) dL_law_1142 ?_
        refine lv_aload_n hx hb dL_law_1143 rfl (lv_at hl 4 rfl) ?_
        refine lv_iload hx hb dL_law_1144 (lv_at hl 0 rfl) ?_
        refine lv_iconst (v := 3) hx hb dL_law_1146 (by decide) ?_
        refine lv_iadd hx hb dL_law_1147 ?_
        refine lv_topi (fun z_344 ez_344 => ?_)
        obtain rfl : z_344 = 3 := ez_344.trans (by decide)
        refine va_sld hx hb hX hbl hbA hS (vp_in_nI (n := 3) (by decide) (by decide)) dL_law_1148 ?_
        refine lv_if_eq (tgt := 1156) hx hb dL_law_1149 (by decide) (fun c_345 => ?_) (fun c_345 => ?_)
        · exact absurd c_345 c_328
        · refine lv_iconst (v := 1) hx hb dL_law_1152 (by decide) ?_
          refine lv_goto (tgt := 1157) hx hb dL_law_1153 (by decide) ?_
          have hPc := hP.sub (ws' := [(mm, .inr (11, fs_mm))]) [1] rfl
          have hDc := hD.sub (ws' := [(mm, .inr (11, fs_mm))]) [1] (by decide) rfl
          have hKc := hK.sub (tys' := []) [] rfl
          have hFc := va_free (wc := [(mm, .inr (11, fs_mm))]) hD hS hA [1] rfl
          refine va_calll (va_runV (As := [.int (xs (1 : Int32).toNatClampNeg), .int (xs (2 : Int32).toNatClampNeg), .int 1]) (rest := [.long (-1)]) ⟨hx, hb, hml, hown, hts⟩ (k_X12_rest l dC dI H.size mm fs_mm (xs (1 : Int32).toNatClampNeg) (xs (2 : Int32).toNatClampNeg) 1 hn_mm hf_mm_20) (cwV 3 hts gL0_X12_rest rfl rfl rfl (by decide +kernel) ⟨Nat.le_of_ble_eq_true rfl, Nat.le_of_ble_eq_true rfl⟩) ⟨fun a U g mk q => by obtain ⟨q0, q1, qP, qK, qD⟩ := q; exact ⟨q0, q1, qP, va_K.moved (u := U) (U := U.calling g mk a) (Vm.Alike.refl U.vm) qK, qD⟩, va_recv hKc hPc (ci := 11) (q0 := 0) rfl rfl, fun U hU hW => ⟨rfl, by rw [hU], by rw [hU]; exact hPc, va_K.moved hW.alike hKc, hDc.weaken (fun _ _ _ _ => trivial)⟩⟩ rfl rfl hl.1 rfl (lv_room (Nat.le_of_ble_eq_true rfl)) dL_law_1157 ⟨Nat.le_of_ble_eq_true rfl, Nat.le_of_ble_eq_true rfl⟩) hS (fun q _ h => hFc q h) hFc (fun r_346 u t H1 locs ht hvm hw hB hz1 hk1 hS => ?_)
          obtain ⟨hP1, hK1, hD1⟩ := hB
          rw [ht] at hP1
          have hK1 := va_K.moved hvm.symm hK1
          obtain ⟨hP, hD⟩ := va_join (wr := [(ba, .inl (cB, 900, .inl fb)), (mb, .inl (cM, 900, .inl fM))]) (w1 := []) hP hD [1] [0, 2] rfl rfl (by decide) (by decide) hk1 hFc hP1 hD1
          generalize H1 = H at hP hS ⊢
          have hP : va_P (dC, dI) vwCl [(ba, .inl (cB, 900, .inl fb)), (mb, .inl (cM, 900, .inl fM))] H := hP
          have hD : va_D A [(ba, .inl (cB, 900, .inl fb)), (mb, .inl (cM, 900, .inl fM))] := hD
          have er_346 : r_346 = (-1) := hw
          subst er_346
          refine W.lcmp hx hb dL_law_1160 ?_
          refine lv_topi (fun z_347 ez_347 => ?_)
          obtain rfl : z_347 = 0 := ez_347.trans (by decide)
          refine lv_if_eq (tgt := 1893) hx hb dL_law_1161 (by decide) (fun c_348 => ?_) (fun c_348 => ?_)
          · refine lv_iinc (v := 6) (lv' := [(4, .int 6), (3, .ref lo), (2, .ref mm), (1, .ref x), (0, .ref b)]) hx hb dL_law_1893 hl (k := 0) rfl (by decide) (by decide) rfl (fun ls hl => ?_)
            refine lv_goto (tgt := 23) hx hb dL_law_1896 (by decide) ?_
            refine lv_iload hx hb dL_law_23 (lv_at hl 0 rfl) ?_
            refine lv_aload_n hx hb dL_law_25 rfl (lv_at hl 4 rfl) ?_
            refine va_slen hx hb hX hbl hbA hS dL_law_26 ?_
            refine lv_topi (fun z_350 ez_350 => ?_)
            obtain rfl : z_350 = 6 := ez_350.trans rfl
            refine lv_bipush (v := 6) hx hb dL_law_27 (by decide) ?_
            refine lv_isub hx hb dL_law_29 ?_
            refine lv_topi (fun z_351 ez_351 => ?_)
            obtain rfl : z_351 = 0 := ez_351.trans (by decide)
            refine lv_icmp_gt (tgt := 1899) hx hb dL_law_30 (by decide) (fun c_352 => ?_) (fun c_352 => ?_)
            · refine lv_iconst (v := 1) hx hb dL_law_1899 (by decide) ?_
              refine va_forget (fun q hq => by have h9 := hS.2.2 q hq; rw [← hAe] at h9; exact h9) ?_
              refine W.widen (k := 600002) (n := 7302232) (Nat.le_of_ble_eq_true rfl) (Nat.le_of_ble_eq_true rfl) ?_
              exact lw_ret hd0 hx hb hr hlocks dL_law_1900
            · exact absurd (by decide) c_352
          · exact absurd (by decide) c_348
    by_cases c_353 : ((xs (0 : Int32).toNatClampNeg) &&& 63) = 21
    · refine lv_tableIn (tgt := 1166) hx hb dL_law_40 (by rw [c_353]; decide) (by rw [c_353]; decide) (by rw [c_353]; rfl) (by decide) ?_
      refine lv_aload_n hx hb dL_law_1166 rfl (lv_at hl 3 rfl) ?_
      refine lv_aload_n hx hb dL_law_1167 rfl (lv_at hl 4 rfl) ?_
      refine lv_iload hx hb dL_law_1168 (lv_at hl 0 rfl) ?_
      refine lv_iconst (v := 1) hx hb dL_law_1170 (by decide) ?_
      refine lv_iadd hx hb dL_law_1171 ?_
      refine lv_topi (fun z_354 ez_354 => ?_)
      obtain rfl : z_354 = 1 := ez_354.trans (by decide)
      refine va_sld hx hb hX hbl hbA hS (vp_in_nI (n := 1) (by decide) (by decide)) dL_law_1172 ?_
      refine lv_aload_n hx hb dL_law_1173 rfl (lv_at hl 4 rfl) ?_
      refine lv_iload hx hb dL_law_1174 (lv_at hl 0 rfl) ?_
      refine lv_iconst (v := 2) hx hb dL_law_1176 (by decide) ?_
      refine lv_iadd hx hb dL_law_1177 ?_
      refine lv_topi (fun z_355 ez_355 => ?_)
      obtain rfl : z_355 = 2 := ez_355.trans (by decide)
      refine va_sld hx hb hX hbl hbA hS (vp_in_nI (n := 2) (by decide) (by decide)) dL_law_1178 ?_
      refine lv_aload_n hx hb dL_law_1179 rfl (lv_at hl 4 rfl) ?_
      refine lv_iload hx hb dL_law_1180 (lv_at hl 0 rfl) ?_
      refine lv_iconst (v := 3) hx hb dL_law_1182 (by decide) ?_
      refine lv_iadd hx hb dL_law_1183 ?_
      refine lv_topi (fun z_356 ez_356 => ?_)
      obtain rfl : z_356 = 3 := ez_356.trans (by decide)
      refine va_sld hx hb hX hbl hbA hS (vp_in_nI (n := 3) (by decide) (by decide)) dL_law_1184 ?_
      have hPc := hP.sub (ws' := [(x, .inr (10, fs_x)), (rd, .inr (6, fs_rd)), (tp, .inr (9, fs_tp)), (ra, .inr (5, [.long u0, .long w0])), (li, .inr (3, fs_li)), (ho, .inr (4, fs_ho)), (dr, .inr (3, fs_dr)), (hd, .inr (4, fs_hd))]) [0, 1, 2, 4, 5, 6, 7, 8] rfl
      have hDc := hD.sub (ws' := [(x, .inr (10, fs_x)), (rd, .inr (6, fs_rd)), (tp, .inr (9, fs_tp)), (ra, .inr (5, [.long u0, .long w0])), (li, .inr (3, fs_li)), (ho, .inr (4, fs_ho)), (dr, .inr (3, fs_dr)), (hd, .inr (4, fs_hd))]) [0, 1, 2, 4, 5, 6, 7, 8] (by decide) rfl
      have hKc := hK.sub (tys' := []) [] rfl
      have hFc := va_free (wc := [(x, .inr (10, fs_x)), (rd, .inr (6, fs_rd)), (tp, .inr (9, fs_tp)), (ra, .inr (5, [.long u0, .long w0])), (li, .inr (3, fs_li)), (ho, .inr (4, fs_ho)), (dr, .inr (3, fs_dr)), (hd, .inr (4, fs_hd))]) hD hS hA [0, 1, 2, 4, 5, 6, 7, 8] rfl
      refine va_calll (va_runV (As := [.int (xs (1 : Int32).toNatClampNeg), .int (xs (2 : Int32).toNatClampNeg), .int (xs (3 : Int32).toNatClampNeg)]) (rest := []) ⟨hx, hb, hml, hown, hts⟩ (k_X11_dirty l dC dI H.size x fs_x rd fs_rd tp fs_tp ra [.long u0, .long w0] li fs_li ho fs_ho dr fs_dr hd fs_hd (xs (1 : Int32).toNatClampNeg) (xs (2 : Int32).toNatClampNeg) (xs (3 : Int32).toNatClampNeg) hn_x hf_x_0 hf_x_3 hf_x_8 hf_x_9 hf_x_10 hn_rd hf_rd_0 hn_tp rfl hn_li hf_li_2 hn_ho hn_dr hf_dr_2 hn_hd) (cwV 3 hts gL0_X11_dirty rfl rfl rfl (by decide +kernel) ⟨Nat.le_of_ble_eq_true rfl, Nat.le_of_ble_eq_true rfl⟩) ⟨fun a U g mk q => by obtain ⟨q0, q1, qP, qK, qD⟩ := q; exact ⟨q0, q1, qP, va_K.moved (u := U) (U := U.calling g mk a) (Vm.Alike.refl U.vm) qK, qD⟩, va_recv hKc hPc (ci := 10) (q0 := 0) rfl rfl, fun U hU hW => ⟨rfl, by rw [hU], by rw [hU]; exact hPc, va_K.moved hW.alike hKc, hDc.weaken (fun _ _ _ _ => trivial)⟩⟩ rfl rfl hl.1 rfl (lv_room (Nat.le_of_ble_eq_true rfl)) dL_law_1185 ⟨Nat.le_of_ble_eq_true rfl, Nat.le_of_ble_eq_true rfl⟩) hS (fun q _ h => hFc q h) hFc (fun r_357 u t H1 locs ht hvm hw hB hz1 hk1 hS => ?_)
      obtain ⟨hP1, hK1, hD1⟩ := hB
      rw [ht] at hP1
      have hK1 := va_K.moved hvm.symm hK1
      obtain ⟨hP, hD⟩ := va_join (wr := [(ba, .inl (cB, 900, .inl fb)), (mm, .inr (11, fs_mm)), (mb, .inl (cM, 900, .inl fM))]) (w1 := []) hP hD [0, 1, 2, 4, 5, 6, 7, 8] [3, 9, 10] rfl rfl (by decide) (by decide) hk1 hFc hP1 hD1
      generalize H1 = H at hP hS ⊢
      have hP : va_P (dC, dI) vwCl [(ba, .inl (cB, 900, .inl fb)), (mm, .inr (11, fs_mm)), (mb, .inl (cM, 900, .inl fM))] H := hP
      have hD : va_D A [(ba, .inl (cB, 900, .inl fb)), (mm, .inr (11, fs_mm)), (mb, .inl (cM, 900, .inl fM))] := hD
      have er_357 : r_357 = (-9223372036854775808) := hw
      subst er_357
      refine lv_aload_n hx hb dL_law_1188 rfl (lv_at hl 2 rfl) ?_
      refine lv_aload_n hx hb dL_law_1189 rfl (lv_at hl 4 rfl) ?_
      refine lv_iload hx hb dL_law_1190 (lv_at hl 0 rfl) ?_
      refine lv_iconst (v := 1) hx hb dL_law_1192 (by decide) ?_
      refine lv_iadd hx hb dL_law_1193 ?_
      refine lv_topi (fun z_358 ez_358 => ?_)
      obtain rfl : z_358 = 1 := ez_358.trans (by decide)
      refine va_sld hx hb hX hbl hbA hS (vp_in_nI (n := 1) (by decide) (by decide)) dL_law_1194 ?_
      refine lv_aload_n hx hb dL_law_1195 rfl (lv_at hl 4 rfl) ?_
      refine lv_iload hx hb dL_law_1196 (lv_at hl 0 rfl) ?_
      refine lv_iconst (v := 2) hx hb dL_law_1198 (by decide) ?_
      refine lv_iadd hx hb dL_law_1199 ?_
      refine lv_topi (fun z_359 ez_359 => ?_)
      obtain rfl : z_359 = 2 := ez_359.trans (by decide)
      refine va_sld hx hb hX hbl hbA hS (vp_in_nI (n := 2) (by decide) (by decide)) dL_law_1200 ?_
      refine lv_aload_n hx hb dL_law_1201 rfl (lv_at hl 4 rfl) ?_
      refine lv_iload hx hb dL_law_1202 (lv_at hl 0 rfl) ?_
      refine lv_iconst (v := 3) hx hb dL_law_1204 (by decide) ?_
      refine lv_iadd hx hb dL_law_1205 ?_
      refine lv_topi (fun z_360 ez_360 => ?_)
      obtain rfl : z_360 = 3 := ez_360.trans (by decide)
      refine va_sld hx hb hX hbl hbA hS (vp_in_nI (n := 3) (by decide) (by decide)) dL_law_1206 ?_
      have hPc := hP.sub (ws' := [(mm, .inr (11, fs_mm))]) [1] rfl
      have hDc := hD.sub (ws' := [(mm, .inr (11, fs_mm))]) [1] (by decide) rfl
      have hKc := hK.sub (tys' := []) [] rfl
      have hFc := va_free (wc := [(mm, .inr (11, fs_mm))]) hD hS hA [1] rfl
      refine va_calll (va_runV (As := [.int (xs (1 : Int32).toNatClampNeg), .int (xs (2 : Int32).toNatClampNeg), .int (xs (3 : Int32).toNatClampNeg)]) (rest := [.long (-9223372036854775808)]) ⟨hx, hb, hml, hown, hts⟩ (k_X12_dirty l dC dI H.size mm fs_mm (xs (1 : Int32).toNatClampNeg) (xs (2 : Int32).toNatClampNeg) (xs (3 : Int32).toNatClampNeg) hn_mm hf_mm_20) (cwV 3 hts gL0_X12_dirty rfl rfl rfl (by decide +kernel) ⟨Nat.le_of_ble_eq_true rfl, Nat.le_of_ble_eq_true rfl⟩) ⟨fun a U g mk q => by obtain ⟨q0, q1, qP, qK, qD⟩ := q; exact ⟨q0, q1, qP, va_K.moved (u := U) (U := U.calling g mk a) (Vm.Alike.refl U.vm) qK, qD⟩, va_recv hKc hPc (ci := 11) (q0 := 0) rfl rfl, fun U hU hW => ⟨rfl, by rw [hU], by rw [hU]; exact hPc, va_K.moved hW.alike hKc, hDc.weaken (fun _ _ _ _ => trivial)⟩⟩ rfl rfl hl.1 rfl (lv_room (Nat.le_of_ble_eq_true rfl)) dL_law_1207 ⟨Nat.le_of_ble_eq_true rfl, Nat.le_of_ble_eq_true rfl⟩) hS (fun q _ h => hFc q h) hFc (fun r_361 u t H1 locs ht hvm hw hB hz1 hk1 hS => ?_)
      obtain ⟨hP1, hK1, hD1⟩ := hB
      rw [ht] at hP1
      have hK1 := va_K.moved hvm.symm hK1
      obtain ⟨hP, hD⟩ := va_join (wr := [(ba, .inl (cB, 900, .inl fb)), (mb, .inl (cM, 900, .inl fM))]) (w1 := []) hP hD [1] [0, 2] rfl rfl (by decide) (by decide) hk1 hFc hP1 hD1
      generalize H1 = H at hP hS ⊢
      have hP : va_P (dC, dI) vwCl [(ba, .inl (cB, 900, .inl fb)), (mb, .inl (cM, 900, .inl fM))] H := hP
      have hD : va_D A [(ba, .inl (cB, 900, .inl fb)), (mb, .inl (cM, 900, .inl fM))] := hD
      have er_361 : r_361 = (-9223372036854775808) := hw
      subst er_361
      refine W.lcmp hx hb dL_law_1210 ?_
      refine lv_topi (fun z_362 ez_362 => ?_)
      obtain rfl : z_362 = 0 := ez_362.trans (by decide)
      refine lv_if_eq (tgt := 1893) hx hb dL_law_1211 (by decide) (fun c_363 => ?_) (fun c_363 => ?_)
      · refine lv_iinc (v := 6) (lv' := [(4, .int 6), (3, .ref lo), (2, .ref mm), (1, .ref x), (0, .ref b)]) hx hb dL_law_1893 hl (k := 0) rfl (by decide) (by decide) rfl (fun ls hl => ?_)
        refine lv_goto (tgt := 23) hx hb dL_law_1896 (by decide) ?_
        refine lv_iload hx hb dL_law_23 (lv_at hl 0 rfl) ?_
        refine lv_aload_n hx hb dL_law_25 rfl (lv_at hl 4 rfl) ?_
        refine va_slen hx hb hX hbl hbA hS dL_law_26 ?_
        refine lv_topi (fun z_365 ez_365 => ?_)
        obtain rfl : z_365 = 6 := ez_365.trans rfl
        refine lv_bipush (v := 6) hx hb dL_law_27 (by decide) ?_
        refine lv_isub hx hb dL_law_29 ?_
        refine lv_topi (fun z_366 ez_366 => ?_)
        obtain rfl : z_366 = 0 := ez_366.trans (by decide)
        refine lv_icmp_gt (tgt := 1899) hx hb dL_law_30 (by decide) (fun c_367 => ?_) (fun c_367 => ?_)
        · refine lv_iconst (v := 1) hx hb dL_law_1899 (by decide) ?_
          refine va_forget (fun q hq => by have h9 := hS.2.2 q hq; rw [← hAe] at h9; exact h9) ?_
          refine W.widen (k := 600002) (n := 7302232) (Nat.le_of_ble_eq_true rfl) (Nat.le_of_ble_eq_true rfl) ?_
          exact lw_ret hd0 hx hb hr hlocks dL_law_1900
        · exact absurd (by decide) c_367
      · exact absurd (by decide) c_363
    by_cases c_368 : ((xs (0 : Int32).toNatClampNeg) &&& 63) = 22
    · refine lv_tableIn (tgt := 1216) hx hb dL_law_40 (by rw [c_368]; decide) (by rw [c_368]; decide) (by rw [c_368]; rfl) (by decide) ?_
      refine lv_aload_n hx hb dL_law_1216 rfl (lv_at hl 3 rfl) ?_
      refine lv_aload_n hx hb dL_law_1217 rfl (lv_at hl 4 rfl) ?_
      refine lv_iload hx hb dL_law_1218 (lv_at hl 0 rfl) ?_
      refine lv_iconst (v := 1) hx hb dL_law_1220 (by decide) ?_
      refine lv_iadd hx hb dL_law_1221 ?_
      refine lv_topi (fun z_369 ez_369 => ?_)
      obtain rfl : z_369 = 1 := ez_369.trans (by decide)
      refine va_sld hx hb hX hbl hbA hS (vp_in_nI (n := 1) (by decide) (by decide)) dL_law_1222 ?_
      refine lv_aload_n hx hb dL_law_1223 rfl (lv_at hl 4 rfl) ?_
      refine lv_iload hx hb dL_law_1224 (lv_at hl 0 rfl) ?_
      refine lv_iconst (v := 2) hx hb dL_law_1226 (by decide) ?_
      refine lv_iadd hx hb dL_law_1227 ?_
      refine lv_topi (fun z_370 ez_370 => ?_)
      obtain rfl : z_370 = 2 := ez_370.trans (by decide)
      refine va_sld hx hb hX hbl hbA hS (vp_in_nI (n := 2) (by decide) (by decide)) dL_law_1228 ?_
      refine lv_aload_n hx hb dL_law_1229 rfl (lv_at hl 4 rfl) ?_
      refine lv_iload hx hb dL_law_1230 (lv_at hl 0 rfl) ?_
      refine lv_iconst (v := 3) hx hb dL_law_1232 (by decide) ?_
      refine lv_iadd hx hb dL_law_1233 ?_
      refine lv_topi (fun z_371 ez_371 => ?_)
      obtain rfl : z_371 = 3 := ez_371.trans (by decide)
      refine va_sld hx hb hX hbl hbA hS (vp_in_nI (n := 3) (by decide) (by decide)) dL_law_1234 ?_
      have hPc := hP.sub (ws' := [(x, .inr (10, fs_x)), (rd, .inr (6, fs_rd)), (tp, .inr (9, fs_tp)), (ra, .inr (5, [.long u0, .long w0])), (li, .inr (3, fs_li)), (ho, .inr (4, fs_ho)), (dr, .inr (3, fs_dr)), (hd, .inr (4, fs_hd))]) [0, 1, 2, 4, 5, 6, 7, 8] rfl
      have hDc := hD.sub (ws' := [(x, .inr (10, fs_x)), (rd, .inr (6, fs_rd)), (tp, .inr (9, fs_tp)), (ra, .inr (5, [.long u0, .long w0])), (li, .inr (3, fs_li)), (ho, .inr (4, fs_ho)), (dr, .inr (3, fs_dr)), (hd, .inr (4, fs_hd))]) [0, 1, 2, 4, 5, 6, 7, 8] (by decide) rfl
      have hKc := hK.sub (tys' := []) [] rfl
      have hFc := va_free (wc := [(x, .inr (10, fs_x)), (rd, .inr (6, fs_rd)), (tp, .inr (9, fs_tp)), (ra, .inr (5, [.long u0, .long w0])), (li, .inr (3, fs_li)), (ho, .inr (4, fs_ho)), (dr, .inr (3, fs_dr)), (hd, .inr (4, fs_hd))]) hD hS hA [0, 1, 2, 4, 5, 6, 7, 8] rfl
      refine va_calll (va_runV (As := [.int (xs (1 : Int32).toNatClampNeg), .int (xs (2 : Int32).toNatClampNeg), .int (xs (3 : Int32).toNatClampNeg)]) (rest := []) ⟨hx, hb, hml, hown, hts⟩ (k_X11_clean l dC dI H.size x fs_x rd fs_rd tp fs_tp ra [.long u0, .long w0] li fs_li ho fs_ho dr fs_dr hd fs_hd (xs (1 : Int32).toNatClampNeg) (xs (2 : Int32).toNatClampNeg) (xs (3 : Int32).toNatClampNeg) hn_x hf_x_0 hf_x_3 hf_x_8 hf_x_9 hf_x_10 hn_rd hf_rd_0 hn_tp rfl hn_li hf_li_2 hn_ho hn_dr hf_dr_2 hn_hd) (cwV 3 hts gL0_X11_clean rfl rfl rfl (by decide +kernel) ⟨Nat.le_of_ble_eq_true rfl, Nat.le_of_ble_eq_true rfl⟩) ⟨fun a U g mk q => by obtain ⟨q0, q1, qP, qK, qD⟩ := q; exact ⟨q0, q1, qP, va_K.moved (u := U) (U := U.calling g mk a) (Vm.Alike.refl U.vm) qK, qD⟩, va_recv hKc hPc (ci := 10) (q0 := 0) rfl rfl, fun U hU hW => ⟨rfl, by rw [hU], by rw [hU]; exact hPc, va_K.moved hW.alike hKc, hDc.weaken (fun _ _ _ _ => trivial)⟩⟩ rfl rfl hl.1 rfl (lv_room (Nat.le_of_ble_eq_true rfl)) dL_law_1235 ⟨Nat.le_of_ble_eq_true rfl, Nat.le_of_ble_eq_true rfl⟩) hS (fun q _ h => hFc q h) hFc (fun r_372 u t H1 locs ht hvm hw hB hz1 hk1 hS => ?_)
      obtain ⟨hP1, hK1, hD1⟩ := hB
      rw [ht] at hP1
      have hK1 := va_K.moved hvm.symm hK1
      obtain ⟨hP, hD⟩ := va_join (wr := [(ba, .inl (cB, 900, .inl fb)), (mm, .inr (11, fs_mm)), (mb, .inl (cM, 900, .inl fM))]) (w1 := []) hP hD [0, 1, 2, 4, 5, 6, 7, 8] [3, 9, 10] rfl rfl (by decide) (by decide) hk1 hFc hP1 hD1
      generalize H1 = H at hP hS ⊢
      have hP : va_P (dC, dI) vwCl [(ba, .inl (cB, 900, .inl fb)), (mm, .inr (11, fs_mm)), (mb, .inl (cM, 900, .inl fM))] H := hP
      have hD : va_D A [(ba, .inl (cB, 900, .inl fb)), (mm, .inr (11, fs_mm)), (mb, .inl (cM, 900, .inl fM))] := hD
      have er_372 : r_372 = (-9223372036854775808) := hw
      subst er_372
      refine lv_aload_n hx hb dL_law_1238 rfl (lv_at hl 2 rfl) ?_
      refine lv_aload_n hx hb dL_law_1239 rfl (lv_at hl 4 rfl) ?_
      refine lv_iload hx hb dL_law_1240 (lv_at hl 0 rfl) ?_
      refine lv_iconst (v := 1) hx hb dL_law_1242 (by decide) ?_
      refine lv_iadd hx hb dL_law_1243 ?_
      refine lv_topi (fun z_373 ez_373 => ?_)
      obtain rfl : z_373 = 1 := ez_373.trans (by decide)
      refine va_sld hx hb hX hbl hbA hS (vp_in_nI (n := 1) (by decide) (by decide)) dL_law_1244 ?_
      refine lv_aload_n hx hb dL_law_1245 rfl (lv_at hl 4 rfl) ?_
      refine lv_iload hx hb dL_law_1246 (lv_at hl 0 rfl) ?_
      refine lv_iconst (v := 2) hx hb dL_law_1248 (by decide) ?_
      refine lv_iadd hx hb dL_law_1249 ?_
      refine lv_topi (fun z_374 ez_374 => ?_)
      obtain rfl : z_374 = 2 := ez_374.trans (by decide)
      refine va_sld hx hb hX hbl hbA hS (vp_in_nI (n := 2) (by decide) (by decide)) dL_law_1250 ?_
      refine lv_aload_n hx hb dL_law_1251 rfl (lv_at hl 4 rfl) ?_
      refine lv_iload hx hb dL_law_1252 (lv_at hl 0 rfl) ?_
      refine lv_iconst (v := 3) hx hb dL_law_1254 (by decide) ?_
      refine lv_iadd hx hb dL_law_1255 ?_
      refine lv_topi (fun z_375 ez_375 => ?_)
      obtain rfl : z_375 = 3 := ez_375.trans (by decide)
      refine va_sld hx hb hX hbl hbA hS (vp_in_nI (n := 3) (by decide) (by decide)) dL_law_1256 ?_
      have hPc := hP.sub (ws' := [(mm, .inr (11, fs_mm))]) [1] rfl
      have hDc := hD.sub (ws' := [(mm, .inr (11, fs_mm))]) [1] (by decide) rfl
      have hKc := hK.sub (tys' := []) [] rfl
      have hFc := va_free (wc := [(mm, .inr (11, fs_mm))]) hD hS hA [1] rfl
      refine va_calll (va_runV (As := [.int (xs (1 : Int32).toNatClampNeg), .int (xs (2 : Int32).toNatClampNeg), .int (xs (3 : Int32).toNatClampNeg)]) (rest := [.long (-9223372036854775808)]) ⟨hx, hb, hml, hown, hts⟩ (k_X12_clean l dC dI H.size mm fs_mm (xs (1 : Int32).toNatClampNeg) (xs (2 : Int32).toNatClampNeg) (xs (3 : Int32).toNatClampNeg) hn_mm hf_mm_20) (cwV 3 hts gL0_X12_clean rfl rfl rfl (by decide +kernel) ⟨Nat.le_of_ble_eq_true rfl, Nat.le_of_ble_eq_true rfl⟩) ⟨fun a U g mk q => by obtain ⟨q0, q1, qP, qK, qD⟩ := q; exact ⟨q0, q1, qP, va_K.moved (u := U) (U := U.calling g mk a) (Vm.Alike.refl U.vm) qK, qD⟩, va_recv hKc hPc (ci := 11) (q0 := 0) rfl rfl, fun U hU hW => ⟨rfl, by rw [hU], by rw [hU]; exact hPc, va_K.moved hW.alike hKc, hDc.weaken (fun _ _ _ _ => trivial)⟩⟩ rfl rfl hl.1 rfl (lv_room (Nat.le_of_ble_eq_true rfl)) dL_law_1257 ⟨Nat.le_of_ble_eq_true rfl, Nat.le_of_ble_eq_true rfl⟩) hS (fun q _ h => hFc q h) hFc (fun r_376 u t H1 locs ht hvm hw hB hz1 hk1 hS => ?_)
      obtain ⟨hP1, hK1, hD1⟩ := hB
      rw [ht] at hP1
      have hK1 := va_K.moved hvm.symm hK1
      obtain ⟨hP, hD⟩ := va_join (wr := [(ba, .inl (cB, 900, .inl fb)), (mb, .inl (cM, 900, .inl fM))]) (w1 := []) hP hD [1] [0, 2] rfl rfl (by decide) (by decide) hk1 hFc hP1 hD1
      generalize H1 = H at hP hS ⊢
      have hP : va_P (dC, dI) vwCl [(ba, .inl (cB, 900, .inl fb)), (mb, .inl (cM, 900, .inl fM))] H := hP
      have hD : va_D A [(ba, .inl (cB, 900, .inl fb)), (mb, .inl (cM, 900, .inl fM))] := hD
      have er_376 : r_376 = (-9223372036854775808) := hw
      subst er_376
      refine W.lcmp hx hb dL_law_1260 ?_
      refine lv_topi (fun z_377 ez_377 => ?_)
      obtain rfl : z_377 = 0 := ez_377.trans (by decide)
      refine lv_if_eq (tgt := 1893) hx hb dL_law_1261 (by decide) (fun c_378 => ?_) (fun c_378 => ?_)
      · refine lv_iinc (v := 6) (lv' := [(4, .int 6), (3, .ref lo), (2, .ref mm), (1, .ref x), (0, .ref b)]) hx hb dL_law_1893 hl (k := 0) rfl (by decide) (by decide) rfl (fun ls hl => ?_)
        refine lv_goto (tgt := 23) hx hb dL_law_1896 (by decide) ?_
        refine lv_iload hx hb dL_law_23 (lv_at hl 0 rfl) ?_
        refine lv_aload_n hx hb dL_law_25 rfl (lv_at hl 4 rfl) ?_
        refine va_slen hx hb hX hbl hbA hS dL_law_26 ?_
        refine lv_topi (fun z_380 ez_380 => ?_)
        obtain rfl : z_380 = 6 := ez_380.trans rfl
        refine lv_bipush (v := 6) hx hb dL_law_27 (by decide) ?_
        refine lv_isub hx hb dL_law_29 ?_
        refine lv_topi (fun z_381 ez_381 => ?_)
        obtain rfl : z_381 = 0 := ez_381.trans (by decide)
        refine lv_icmp_gt (tgt := 1899) hx hb dL_law_30 (by decide) (fun c_382 => ?_) (fun c_382 => ?_)
        · refine lv_iconst (v := 1) hx hb dL_law_1899 (by decide) ?_
          refine va_forget (fun q hq => by have h9 := hS.2.2 q hq; rw [← hAe] at h9; exact h9) ?_
          refine W.widen (k := 600002) (n := 7302232) (Nat.le_of_ble_eq_true rfl) (Nat.le_of_ble_eq_true rfl) ?_
          exact lw_ret hd0 hx hb hr hlocks dL_law_1900
        · exact absurd (by decide) c_382
      · exact absurd (by decide) c_378
    by_cases c_383 : ((xs (0 : Int32).toNatClampNeg) &&& 63) = 23
    · refine lv_tableIn (tgt := 1266) hx hb dL_law_40 (by rw [c_383]; decide) (by rw [c_383]; decide) (by rw [c_383]; rfl) (by decide) ?_
      refine lv_aload_n hx hb dL_law_1266 rfl (lv_at hl 3 rfl) ?_
      refine lv_aload_n hx hb dL_law_1267 rfl (lv_at hl 4 rfl) ?_
      refine lv_iload hx hb dL_law_1268 (lv_at hl 0 rfl) ?_
      refine lv_iconst (v := 1) hx hb dL_law_1270 (by decide) ?_
      refine lv_iadd hx hb dL_law_1271 ?_
      refine lv_topi (fun z_384 ez_384 => ?_)
      obtain rfl : z_384 = 1 := ez_384.trans (by decide)
      refine va_sld hx hb hX hbl hbA hS (vp_in_nI (n := 1) (by decide) (by decide)) dL_law_1272 ?_
      refine lv_aload_n hx hb dL_law_1273 rfl (lv_at hl 4 rfl) ?_
      refine lv_iload hx hb dL_law_1274 (lv_at hl 0 rfl) ?_
      refine lv_iconst (v := 2) hx hb dL_law_1276 (by decide) ?_
      refine lv_iadd hx hb dL_law_1277 ?_
      refine lv_topi (fun z_385 ez_385 => ?_)
      obtain rfl : z_385 = 2 := ez_385.trans (by decide)
      refine va_sld hx hb hX hbl hbA hS (vp_in_nI (n := 2) (by decide) (by decide)) dL_law_1278 ?_
      refine lv_aload_n hx hb dL_law_1279 rfl (lv_at hl 4 rfl) ?_
      refine lv_iload hx hb dL_law_1280 (lv_at hl 0 rfl) ?_
      refine lv_iconst (v := 3) hx hb dL_law_1282 (by decide) ?_
      refine lv_iadd hx hb dL_law_1283 ?_
      refine lv_topi (fun z_386 ez_386 => ?_)
      obtain rfl : z_386 = 3 := ez_386.trans (by decide)
      refine va_sld hx hb hX hbl hbA hS (vp_in_nI (n := 3) (by decide) (by decide)) dL_law_1284 ?_
      have hPc := hP.sub (ws' := [(x, .inr (10, fs_x)), (rd, .inr (6, fs_rd)), (tp, .inr (9, fs_tp)), (ra, .inr (5, [.long u0, .long w0])), (li, .inr (3, fs_li)), (ho, .inr (4, fs_ho)), (dr, .inr (3, fs_dr)), (hd, .inr (4, fs_hd))]) [0, 1, 2, 4, 5, 6, 7, 8] rfl
      have hDc := hD.sub (ws' := [(x, .inr (10, fs_x)), (rd, .inr (6, fs_rd)), (tp, .inr (9, fs_tp)), (ra, .inr (5, [.long u0, .long w0])), (li, .inr (3, fs_li)), (ho, .inr (4, fs_ho)), (dr, .inr (3, fs_dr)), (hd, .inr (4, fs_hd))]) [0, 1, 2, 4, 5, 6, 7, 8] (by decide) rfl
      have hKc := hK.sub (tys' := []) [] rfl
      have hFc := va_free (wc := [(x, .inr (10, fs_x)), (rd, .inr (6, fs_rd)), (tp, .inr (9, fs_tp)), (ra, .inr (5, [.long u0, .long w0])), (li, .inr (3, fs_li)), (ho, .inr (4, fs_ho)), (dr, .inr (3, fs_dr)), (hd, .inr (4, fs_hd))]) hD hS hA [0, 1, 2, 4, 5, 6, 7, 8] rfl
      refine va_calll (va_runV (As := [.int (xs (1 : Int32).toNatClampNeg), .int (xs (2 : Int32).toNatClampNeg), .int (xs (3 : Int32).toNatClampNeg)]) (rest := []) ⟨hx, hb, hml, hown, hts⟩ (k_X11_risk l dC dI H.size x fs_x rd fs_rd tp fs_tp ra [.long u0, .long w0] li fs_li ho fs_ho dr fs_dr hd fs_hd (xs (1 : Int32).toNatClampNeg) (xs (2 : Int32).toNatClampNeg) (xs (3 : Int32).toNatClampNeg) hn_x hf_x_0 hf_x_3 hf_x_8 hf_x_9 hf_x_10 hn_rd hf_rd_0 hn_tp rfl hn_li hf_li_2 hn_ho hn_dr hf_dr_2 hn_hd) (cwV 3 hts gL0_X11_risk rfl rfl rfl (by decide +kernel) ⟨Nat.le_of_ble_eq_true rfl, Nat.le_of_ble_eq_true rfl⟩) ⟨fun a U g mk q => by obtain ⟨q0, q1, qP, qK, qD⟩ := q; exact ⟨q0, q1, qP, va_K.moved (u := U) (U := U.calling g mk a) (Vm.Alike.refl U.vm) qK, qD⟩, va_recv hKc hPc (ci := 10) (q0 := 0) rfl rfl, fun U hU hW => ⟨rfl, by rw [hU], by rw [hU]; exact hPc, va_K.moved hW.alike hKc, hDc.weaken (fun _ _ _ _ => trivial)⟩⟩ rfl rfl hl.1 rfl (lv_room (Nat.le_of_ble_eq_true rfl)) dL_law_1285 ⟨Nat.le_of_ble_eq_true rfl, Nat.le_of_ble_eq_true rfl⟩) hS (fun q _ h => hFc q h) hFc (fun r_387 u t H1 locs ht hvm hw hB hz1 hk1 hS => ?_)
      obtain ⟨hP1, hK1, hD1⟩ := hB
      rw [ht] at hP1
      have hK1 := va_K.moved hvm.symm hK1
      obtain ⟨hP, hD⟩ := va_join (wr := [(ba, .inl (cB, 900, .inl fb)), (mm, .inr (11, fs_mm)), (mb, .inl (cM, 900, .inl fM))]) (w1 := []) hP hD [0, 1, 2, 4, 5, 6, 7, 8] [3, 9, 10] rfl rfl (by decide) (by decide) hk1 hFc hP1 hD1
      generalize H1 = H at hP hS ⊢
      have hP : va_P (dC, dI) vwCl [(ba, .inl (cB, 900, .inl fb)), (mm, .inr (11, fs_mm)), (mb, .inl (cM, 900, .inl fM))] H := hP
      have hD : va_D A [(ba, .inl (cB, 900, .inl fb)), (mm, .inr (11, fs_mm)), (mb, .inl (cM, 900, .inl fM))] := hD
      have er_387 : r_387 = (-9223372036854775808) := hw
      subst er_387
      refine lv_aload_n hx hb dL_law_1288 rfl (lv_at hl 2 rfl) ?_
      refine lv_aload_n hx hb dL_law_1289 rfl (lv_at hl 4 rfl) ?_
      refine lv_iload hx hb dL_law_1290 (lv_at hl 0 rfl) ?_
      refine lv_iconst (v := 1) hx hb dL_law_1292 (by decide) ?_
      refine lv_iadd hx hb dL_law_1293 ?_
      refine lv_topi (fun z_388 ez_388 => ?_)
      obtain rfl : z_388 = 1 := ez_388.trans (by decide)
      refine va_sld hx hb hX hbl hbA hS (vp_in_nI (n := 1) (by decide) (by decide)) dL_law_1294 ?_
      refine lv_aload_n hx hb dL_law_1295 rfl (lv_at hl 4 rfl) ?_
      refine lv_iload hx hb dL_law_1296 (lv_at hl 0 rfl) ?_
      refine lv_iconst (v := 2) hx hb dL_law_1298 (by decide) ?_
      refine lv_iadd hx hb dL_law_1299 ?_
      refine lv_topi (fun z_389 ez_389 => ?_)
      obtain rfl : z_389 = 2 := ez_389.trans (by decide)
      refine va_sld hx hb hX hbl hbA hS (vp_in_nI (n := 2) (by decide) (by decide)) dL_law_1300 ?_
      refine lv_aload_n hx hb dL_law_1301 rfl (lv_at hl 4 rfl) ?_
      refine lv_iload hx hb dL_law_1302 (lv_at hl 0 rfl) ?_
      refine lv_iconst (v := 3) hx hb dL_law_1304 (by decide) ?_
      refine lv_iadd hx hb dL_law_1305 ?_
      refine lv_topi (fun z_390 ez_390 => ?_)
      obtain rfl : z_390 = 3 := ez_390.trans (by decide)
      refine va_sld hx hb hX hbl hbA hS (vp_in_nI (n := 3) (by decide) (by decide)) dL_law_1306 ?_
      have hPc := hP.sub (ws' := [(mm, .inr (11, fs_mm))]) [1] rfl
      have hDc := hD.sub (ws' := [(mm, .inr (11, fs_mm))]) [1] (by decide) rfl
      have hKc := hK.sub (tys' := []) [] rfl
      have hFc := va_free (wc := [(mm, .inr (11, fs_mm))]) hD hS hA [1] rfl
      refine va_calll (va_runV (As := [.int (xs (1 : Int32).toNatClampNeg), .int (xs (2 : Int32).toNatClampNeg), .int (xs (3 : Int32).toNatClampNeg)]) (rest := [.long (-9223372036854775808)]) ⟨hx, hb, hml, hown, hts⟩ (k_X12_risk l dC dI H.size mm fs_mm (xs (1 : Int32).toNatClampNeg) (xs (2 : Int32).toNatClampNeg) (xs (3 : Int32).toNatClampNeg) hn_mm hf_mm_20) (cwV 3 hts gL0_X12_risk rfl rfl rfl (by decide +kernel) ⟨Nat.le_of_ble_eq_true rfl, Nat.le_of_ble_eq_true rfl⟩) ⟨fun a U g mk q => by obtain ⟨q0, q1, qP, qK, qD⟩ := q; exact ⟨q0, q1, qP, va_K.moved (u := U) (U := U.calling g mk a) (Vm.Alike.refl U.vm) qK, qD⟩, va_recv hKc hPc (ci := 11) (q0 := 0) rfl rfl, fun U hU hW => ⟨rfl, by rw [hU], by rw [hU]; exact hPc, va_K.moved hW.alike hKc, hDc.weaken (fun _ _ _ _ => trivial)⟩⟩ rfl rfl hl.1 rfl (lv_room (Nat.le_of_ble_eq_true rfl)) dL_law_1307 ⟨Nat.le_of_ble_eq_true rfl, Nat.le_of_ble_eq_true rfl⟩) hS (fun q _ h => hFc q h) hFc (fun r_391 u t H1 locs ht hvm hw hB hz1 hk1 hS => ?_)
      obtain ⟨hP1, hK1, hD1⟩ := hB
      rw [ht] at hP1
      have hK1 := va_K.moved hvm.symm hK1
      obtain ⟨hP, hD⟩ := va_join (wr := [(ba, .inl (cB, 900, .inl fb)), (mb, .inl (cM, 900, .inl fM))]) (w1 := []) hP hD [1] [0, 2] rfl rfl (by decide) (by decide) hk1 hFc hP1 hD1
      generalize H1 = H at hP hS ⊢
      have hP : va_P (dC, dI) vwCl [(ba, .inl (cB, 900, .inl fb)), (mb, .inl (cM, 900, .inl fM))] H := hP
      have hD : va_D A [(ba, .inl (cB, 900, .inl fb)), (mb, .inl (cM, 900, .inl fM))] := hD
      have er_391 : r_391 = (-9223372036854775808) := hw
      subst er_391
      refine W.lcmp hx hb dL_law_1310 ?_
      refine lv_topi (fun z_392 ez_392 => ?_)
      obtain rfl : z_392 = 0 := ez_392.trans (by decide)
      refine lv_if_eq (tgt := 1893) hx hb dL_law_1311 (by decide) (fun c_393 => ?_) (fun c_393 => ?_)
      · refine lv_iinc (v := 6) (lv' := [(4, .int 6), (3, .ref lo), (2, .ref mm), (1, .ref x), (0, .ref b)]) hx hb dL_law_1893 hl (k := 0) rfl (by decide) (by decide) rfl (fun ls hl => ?_)
        refine lv_goto (tgt := 23) hx hb dL_law_1896 (by decide) ?_
        refine lv_iload hx hb dL_law_23 (lv_at hl 0 rfl) ?_
        refine lv_aload_n hx hb dL_law_25 rfl (lv_at hl 4 rfl) ?_
        refine va_slen hx hb hX hbl hbA hS dL_law_26 ?_
        refine lv_topi (fun z_395 ez_395 => ?_)
        obtain rfl : z_395 = 6 := ez_395.trans rfl
        refine lv_bipush (v := 6) hx hb dL_law_27 (by decide) ?_
        refine lv_isub hx hb dL_law_29 ?_
        refine lv_topi (fun z_396 ez_396 => ?_)
        obtain rfl : z_396 = 0 := ez_396.trans (by decide)
        refine lv_icmp_gt (tgt := 1899) hx hb dL_law_30 (by decide) (fun c_397 => ?_) (fun c_397 => ?_)
        · refine lv_iconst (v := 1) hx hb dL_law_1899 (by decide) ?_
          refine va_forget (fun q hq => by have h9 := hS.2.2 q hq; rw [← hAe] at h9; exact h9) ?_
          refine W.widen (k := 600002) (n := 7302232) (Nat.le_of_ble_eq_true rfl) (Nat.le_of_ble_eq_true rfl) ?_
          exact lw_ret hd0 hx hb hr hlocks dL_law_1900
        · exact absurd (by decide) c_397
      · exact absurd (by decide) c_393
    by_cases c_398 : ((xs (0 : Int32).toNatClampNeg) &&& 63) = 24
    · refine lv_tableIn (tgt := 1316) hx hb dL_law_40 (by rw [c_398]; decide) (by rw [c_398]; decide) (by rw [c_398]; rfl) (by decide) ?_
      refine lv_aload_n hx hb dL_law_1316 rfl (lv_at hl 3 rfl) ?_
      refine lv_aload_n hx hb dL_law_1317 rfl (lv_at hl 4 rfl) ?_
      refine lv_iload hx hb dL_law_1318 (lv_at hl 0 rfl) ?_
      refine lv_iconst (v := 1) hx hb dL_law_1320 (by decide) ?_
      refine lv_iadd hx hb dL_law_1321 ?_
      refine lv_topi (fun z_399 ez_399 => ?_)
      obtain rfl : z_399 = 1 := ez_399.trans (by decide)
      refine va_sld hx hb hX hbl hbA hS (vp_in_nI (n := 1) (by decide) (by decide)) dL_law_1322 ?_
      refine lv_aload_n hx hb dL_law_1323 rfl (lv_at hl 4 rfl) ?_
      refine lv_iload hx hb dL_law_1324 (lv_at hl 0 rfl) ?_
      refine lv_iconst (v := 2) hx hb dL_law_1326 (by decide) ?_
      refine lv_iadd hx hb dL_law_1327 ?_
      refine lv_topi (fun z_400 ez_400 => ?_)
      obtain rfl : z_400 = 2 := ez_400.trans (by decide)
      refine va_sld hx hb hX hbl hbA hS (vp_in_nI (n := 2) (by decide) (by decide)) dL_law_1328 ?_
      refine lv_aload_n hx hb dL_law_1329 rfl (lv_at hl 4 rfl) ?_
      refine lv_iload hx hb dL_law_1330 (lv_at hl 0 rfl) ?_
      refine lv_iconst (v := 3) hx hb dL_law_1332 (by decide) ?_
      refine lv_iadd hx hb dL_law_1333 ?_
      refine lv_topi (fun z_401 ez_401 => ?_)
      obtain rfl : z_401 = 3 := ez_401.trans (by decide)
      refine va_sld hx hb hX hbl hbA hS (vp_in_nI (n := 3) (by decide) (by decide)) dL_law_1334 ?_
      refine lv_aload_n hx hb dL_law_1335 rfl (lv_at hl 4 rfl) ?_
      refine lv_iload hx hb dL_law_1336 (lv_at hl 0 rfl) ?_
      refine lv_iconst (v := 4) hx hb dL_law_1338 (by decide) ?_
      refine lv_iadd hx hb dL_law_1339 ?_
      refine lv_topi (fun z_402 ez_402 => ?_)
      obtain rfl : z_402 = 4 := ez_402.trans (by decide)
      refine va_sld hx hb hX hbl hbA hS (vp_in_nI (n := 4) (by decide) (by decide)) dL_law_1340 ?_
      refine lv_aload_n hx hb dL_law_1341 rfl (lv_at hl 4 rfl) ?_
      refine lv_iload hx hb dL_law_1342 (lv_at hl 0 rfl) ?_
      refine lv_iconst (v := 5) hx hb dL_law_1344 (by decide) ?_
      refine lv_iadd hx hb dL_law_1345 ?_
      refine lv_topi (fun z_403 ez_403 => ?_)
      obtain rfl : z_403 = 5 := ez_403.trans (by decide)
      refine va_sld hx hb hX hbl hbA hS (vp_in_nI (n := 5) (by decide) (by decide)) dL_law_1346 ?_
      refine lv_if_eq (tgt := 1354) hx hb dL_law_1347 (by decide) (fun c_404 => ?_) (fun c_404 => ?_)
      · refine lv_iconst (v := 0) hx hb dL_law_1354 (by decide) ?_
        have hPc := hP.sub (ws' := [(x, .inr (10, fs_x)), (rd, .inr (6, fs_rd)), (tp, .inr (9, fs_tp)), (ra, .inr (5, [.long u0, .long w0])), (li, .inr (3, fs_li)), (ho, .inr (4, fs_ho)), (dr, .inr (3, fs_dr)), (hd, .inr (4, fs_hd))]) [0, 1, 2, 4, 5, 6, 7, 8] rfl
        have hDc := hD.sub (ws' := [(x, .inr (10, fs_x)), (rd, .inr (6, fs_rd)), (tp, .inr (9, fs_tp)), (ra, .inr (5, [.long u0, .long w0])), (li, .inr (3, fs_li)), (ho, .inr (4, fs_ho)), (dr, .inr (3, fs_dr)), (hd, .inr (4, fs_hd))]) [0, 1, 2, 4, 5, 6, 7, 8] (by decide) rfl
        have hKc := hK.sub (tys' := []) [] rfl
        have hFc := va_free (wc := [(x, .inr (10, fs_x)), (rd, .inr (6, fs_rd)), (tp, .inr (9, fs_tp)), (ra, .inr (5, [.long u0, .long w0])), (li, .inr (3, fs_li)), (ho, .inr (4, fs_ho)), (dr, .inr (3, fs_dr)), (hd, .inr (4, fs_hd))]) hD hS hA [0, 1, 2, 4, 5, 6, 7, 8] rfl
        refine va_calll (va_runV (As := [.int (xs (1 : Int32).toNatClampNeg), .int (xs (2 : Int32).toNatClampNeg), .int (xs (3 : Int32).toNatClampNeg), .int (xs (4 : Int32).toNatClampNeg), .int 0]) (rest := []) ⟨hx, hb, hml, hown, hts⟩ (k_X11_bracket l dC dI H.size x fs_x rd fs_rd tp fs_tp ra [.long u0, .long w0] li fs_li ho fs_ho dr fs_dr hd fs_hd (xs (1 : Int32).toNatClampNeg) (xs (2 : Int32).toNatClampNeg) (xs (3 : Int32).toNatClampNeg) (xs (4 : Int32).toNatClampNeg) 0 hn_x hf_x_0 hf_x_3 hf_x_8 hf_x_9 hf_x_10 hn_rd hf_rd_0 hn_tp rfl hn_li hf_li_2 hn_ho hn_dr hf_dr_2 hn_hd) (cwV 5 hts gL0_X11_bracket rfl rfl rfl (by decide +kernel) ⟨Nat.le_of_ble_eq_true rfl, Nat.le_of_ble_eq_true rfl⟩) ⟨fun a U g mk q => by obtain ⟨q0, q1, qP, qK, qD⟩ := q; exact ⟨q0, q1, qP, va_K.moved (u := U) (U := U.calling g mk a) (Vm.Alike.refl U.vm) qK, qD⟩, va_recv hKc hPc (ci := 10) (q0 := 0) rfl rfl, fun U hU hW => ⟨rfl, by rw [hU], by rw [hU]; exact hPc, va_K.moved hW.alike hKc, hDc.weaken (fun _ _ _ _ => trivial)⟩⟩ rfl rfl hl.1 rfl (lv_room (Nat.le_of_ble_eq_true rfl)) dL_law_1355 ⟨Nat.le_of_ble_eq_true rfl, Nat.le_of_ble_eq_true rfl⟩) hS (fun q _ h => hFc q h) hFc (fun r_405 u t H1 locs ht hvm hw hB hz1 hk1 hS => ?_)
        obtain ⟨hP1, hK1, hD1⟩ := hB
        rw [ht] at hP1
        have hK1 := va_K.moved hvm.symm hK1
        obtain ⟨hP, hD⟩ := va_join (wr := [(ba, .inl (cB, 900, .inl fb)), (mm, .inr (11, fs_mm)), (mb, .inl (cM, 900, .inl fM))]) (w1 := []) hP hD [0, 1, 2, 4, 5, 6, 7, 8] [3, 9, 10] rfl rfl (by decide) (by decide) hk1 hFc hP1 hD1
        generalize H1 = H at hP hS ⊢
        have hP : va_P (dC, dI) vwCl [(ba, .inl (cB, 900, .inl fb)), (mm, .inr (11, fs_mm)), (mb, .inl (cM, 900, .inl fM))] H := hP
        have hD : va_D A [(ba, .inl (cB, 900, .inl fb)), (mm, .inr (11, fs_mm)), (mb, .inl (cM, 900, .inl fM))] := hD
        have er_405 : r_405 = (-9223372036854775808) := hw
        subst er_405
        refine lv_aload_n hx hb dL_law_1358 rfl (lv_at hl 2 rfl) ?_
        refine lv_aload_n hx hb dL_law_1359 rfl (lv_at hl 4 rfl) ?_
        refine lv_iload hx hb dL_law_1360 (lv_at hl 0 rfl) ?_
        refine lv_iconst (v := 1) hx hb dL_law_1362 (by decide) ?_
        refine lv_iadd hx hb dL_law_1363 ?_
        refine lv_topi (fun z_406 ez_406 => ?_)
        obtain rfl : z_406 = 1 := ez_406.trans (by decide)
        refine va_sld hx hb hX hbl hbA hS (vp_in_nI (n := 1) (by decide) (by decide)) dL_law_1364 ?_
        refine lv_aload_n hx hb dL_law_1365 rfl (lv_at hl 4 rfl) ?_
        refine lv_iload hx hb dL_law_1366 (lv_at hl 0 rfl) ?_
        refine lv_iconst (v := 2) hx hb dL_law_1368 (by decide) ?_
        refine lv_iadd hx hb dL_law_1369 ?_
        refine lv_topi (fun z_407 ez_407 => ?_)
        obtain rfl : z_407 = 2 := ez_407.trans (by decide)
        refine va_sld hx hb hX hbl hbA hS (vp_in_nI (n := 2) (by decide) (by decide)) dL_law_1370 ?_
        refine lv_aload_n hx hb dL_law_1371 rfl (lv_at hl 4 rfl) ?_
        refine lv_iload hx hb dL_law_1372 (lv_at hl 0 rfl) ?_
        refine lv_iconst (v := 3) hx hb dL_law_1374 (by decide) ?_
        refine lv_iadd hx hb dL_law_1375 ?_
        refine lv_topi (fun z_408 ez_408 => ?_)
        obtain rfl : z_408 = 3 := ez_408.trans (by decide)
        refine va_sld hx hb hX hbl hbA hS (vp_in_nI (n := 3) (by decide) (by decide)) dL_law_1376 ?_
        refine lv_aload_n hx hb dL_law_1377 rfl (lv_at hl 4 rfl) ?_
        refine lv_iload hx hb dL_law_1378 (lv_at hl 0 rfl) ?_
        refine lv_iconst (v := 4) hx hb dL_law_1380 (by decide) ?_
        refine lv_iadd hx hb dL_law_1381 ?_
        refine lv_topi (fun z_409 ez_409 => ?_)
        obtain rfl : z_409 = 4 := ez_409.trans (by decide)
        refine va_sld hx hb hX hbl hbA hS (vp_in_nI (n := 4) (by decide) (by decide)) dL_law_1382 ?_
        refine lv_aload_n hx hb dL_law_1383 rfl (lv_at hl 4 rfl) ?_
        refine lv_iload hx hb dL_law_1384 (lv_at hl 0 rfl) ?_
        refine lv_iconst (v := 5) hx hb dL_law_1386 (by decide) ?_
        refine lv_iadd hx hb dL_law_1387 ?_
        refine lv_topi (fun z_410 ez_410 => ?_)
        obtain rfl : z_410 = 5 := ez_410.trans (by decide)
        refine va_sld hx hb hX hbl hbA hS (vp_in_nI (n := 5) (by decide) (by decide)) dL_law_1388 ?_
        refine lv_if_eq (tgt := 1396) hx hb dL_law_1389 (by decide) (fun c_411 => ?_) (fun c_411 => ?_)
        · refine lv_iconst (v := 0) hx hb dL_law_1396 (by decide) ?_
          have hPc := hP.sub (ws' := [(mm, .inr (11, fs_mm))]) [1] rfl
          have hDc := hD.sub (ws' := [(mm, .inr (11, fs_mm))]) [1] (by decide) rfl
          have hKc := hK.sub (tys' := []) [] rfl
          have hFc := va_free (wc := [(mm, .inr (11, fs_mm))]) hD hS hA [1] rfl
          refine va_calll (va_runV (As := [.int (xs (1 : Int32).toNatClampNeg), .int (xs (2 : Int32).toNatClampNeg), .int (xs (3 : Int32).toNatClampNeg), .int (xs (4 : Int32).toNatClampNeg), .int 0]) (rest := [.long (-9223372036854775808)]) ⟨hx, hb, hml, hown, hts⟩ (k_X12_bracket l dC dI H.size mm fs_mm (xs (1 : Int32).toNatClampNeg) (xs (2 : Int32).toNatClampNeg) (xs (3 : Int32).toNatClampNeg) (xs (4 : Int32).toNatClampNeg) 0 hn_mm hf_mm_20) (cwV 5 hts gL0_X12_bracket rfl rfl rfl (by decide +kernel) ⟨Nat.le_of_ble_eq_true rfl, Nat.le_of_ble_eq_true rfl⟩) ⟨fun a U g mk q => by obtain ⟨q0, q1, qP, qK, qD⟩ := q; exact ⟨q0, q1, qP, va_K.moved (u := U) (U := U.calling g mk a) (Vm.Alike.refl U.vm) qK, qD⟩, va_recv hKc hPc (ci := 11) (q0 := 0) rfl rfl, fun U hU hW => ⟨rfl, by rw [hU], by rw [hU]; exact hPc, va_K.moved hW.alike hKc, hDc.weaken (fun _ _ _ _ => trivial)⟩⟩ rfl rfl hl.1 rfl (lv_room (Nat.le_of_ble_eq_true rfl)) dL_law_1397 ⟨Nat.le_of_ble_eq_true rfl, Nat.le_of_ble_eq_true rfl⟩) hS (fun q _ h => hFc q h) hFc (fun r_412 u t H1 locs ht hvm hw hB hz1 hk1 hS => ?_)
          obtain ⟨hP1, hK1, hD1⟩ := hB
          rw [ht] at hP1
          have hK1 := va_K.moved hvm.symm hK1
          obtain ⟨hP, hD⟩ := va_join (wr := [(ba, .inl (cB, 900, .inl fb)), (mb, .inl (cM, 900, .inl fM))]) (w1 := []) hP hD [1] [0, 2] rfl rfl (by decide) (by decide) hk1 hFc hP1 hD1
          generalize H1 = H at hP hS ⊢
          have hP : va_P (dC, dI) vwCl [(ba, .inl (cB, 900, .inl fb)), (mb, .inl (cM, 900, .inl fM))] H := hP
          have hD : va_D A [(ba, .inl (cB, 900, .inl fb)), (mb, .inl (cM, 900, .inl fM))] := hD
          have er_412 : r_412 = (-9223372036854775808) := hw
          subst er_412
          refine W.lcmp hx hb dL_law_1400 ?_
          refine lv_topi (fun z_413 ez_413 => ?_)
          obtain rfl : z_413 = 0 := ez_413.trans (by decide)
          refine lv_if_eq (tgt := 1893) hx hb dL_law_1401 (by decide) (fun c_414 => ?_) (fun c_414 => ?_)
          · refine lv_iinc (v := 6) (lv' := [(4, .int 6), (3, .ref lo), (2, .ref mm), (1, .ref x), (0, .ref b)]) hx hb dL_law_1893 hl (k := 0) rfl (by decide) (by decide) rfl (fun ls hl => ?_)
            refine lv_goto (tgt := 23) hx hb dL_law_1896 (by decide) ?_
            refine lv_iload hx hb dL_law_23 (lv_at hl 0 rfl) ?_
            refine lv_aload_n hx hb dL_law_25 rfl (lv_at hl 4 rfl) ?_
            refine va_slen hx hb hX hbl hbA hS dL_law_26 ?_
            refine lv_topi (fun z_416 ez_416 => ?_)
            obtain rfl : z_416 = 6 := ez_416.trans rfl
            refine lv_bipush (v := 6) hx hb dL_law_27 (by decide) ?_
            refine lv_isub hx hb dL_law_29 ?_
            refine lv_topi (fun z_417 ez_417 => ?_)
            obtain rfl : z_417 = 0 := ez_417.trans (by decide)
            refine lv_icmp_gt (tgt := 1899) hx hb dL_law_30 (by decide) (fun c_418 => ?_) (fun c_418 => ?_)
            · refine lv_iconst (v := 1) hx hb dL_law_1899 (by decide) ?_
              refine va_forget (fun q hq => by have h9 := hS.2.2 q hq; rw [← hAe] at h9; exact h9) ?_
              refine W.widen (k := 600002) (n := 7302232) (Nat.le_of_ble_eq_true rfl) (Nat.le_of_ble_eq_true rfl) ?_
              exact lw_ret hd0 hx hb hr hlocks dL_law_1900
            · exact absurd (by decide) c_418
          · exact absurd (by decide) c_414
        · exact absurd c_404 c_411
      · refine lv_iconst (v := 1) hx hb dL_law_1350 (by decide) ?_
        refine lv_goto (tgt := 1355) hx hb dL_law_1351 (by decide) ?_
        have hPc := hP.sub (ws' := [(x, .inr (10, fs_x)), (rd, .inr (6, fs_rd)), (tp, .inr (9, fs_tp)), (ra, .inr (5, [.long u0, .long w0])), (li, .inr (3, fs_li)), (ho, .inr (4, fs_ho)), (dr, .inr (3, fs_dr)), (hd, .inr (4, fs_hd))]) [0, 1, 2, 4, 5, 6, 7, 8] rfl
        have hDc := hD.sub (ws' := [(x, .inr (10, fs_x)), (rd, .inr (6, fs_rd)), (tp, .inr (9, fs_tp)), (ra, .inr (5, [.long u0, .long w0])), (li, .inr (3, fs_li)), (ho, .inr (4, fs_ho)), (dr, .inr (3, fs_dr)), (hd, .inr (4, fs_hd))]) [0, 1, 2, 4, 5, 6, 7, 8] (by decide) rfl
        have hKc := hK.sub (tys' := []) [] rfl
        have hFc := va_free (wc := [(x, .inr (10, fs_x)), (rd, .inr (6, fs_rd)), (tp, .inr (9, fs_tp)), (ra, .inr (5, [.long u0, .long w0])), (li, .inr (3, fs_li)), (ho, .inr (4, fs_ho)), (dr, .inr (3, fs_dr)), (hd, .inr (4, fs_hd))]) hD hS hA [0, 1, 2, 4, 5, 6, 7, 8] rfl
        refine va_calll (va_runV (As := [.int (xs (1 : Int32).toNatClampNeg), .int (xs (2 : Int32).toNatClampNeg), .int (xs (3 : Int32).toNatClampNeg), .int (xs (4 : Int32).toNatClampNeg), .int 1]) (rest := []) ⟨hx, hb, hml, hown, hts⟩ (k_X11_bracket l dC dI H.size x fs_x rd fs_rd tp fs_tp ra [.long u0, .long w0] li fs_li ho fs_ho dr fs_dr hd fs_hd (xs (1 : Int32).toNatClampNeg) (xs (2 : Int32).toNatClampNeg) (xs (3 : Int32).toNatClampNeg) (xs (4 : Int32).toNatClampNeg) 1 hn_x hf_x_0 hf_x_3 hf_x_8 hf_x_9 hf_x_10 hn_rd hf_rd_0 hn_tp rfl hn_li hf_li_2 hn_ho hn_dr hf_dr_2 hn_hd) (cwV 5 hts gL0_X11_bracket rfl rfl rfl (by decide +kernel) ⟨Nat.le_of_ble_eq_true rfl, Nat.le_of_ble_eq_true rfl⟩) ⟨fun a U g mk q => by obtain ⟨q0, q1, qP, qK, qD⟩ := q; exact ⟨q0, q1, qP, va_K.moved (u := U) (U := U.calling g mk a) (Vm.Alike.refl U.vm) qK, qD⟩, va_recv hKc hPc (ci := 10) (q0 := 0) rfl rfl, fun U hU hW => ⟨rfl, by rw [hU], by rw [hU]; exact hPc, va_K.moved hW.alike hKc, hDc.weaken (fun _ _ _ _ => trivial)⟩⟩ rfl rfl hl.1 rfl (lv_room (Nat.le_of_ble_eq_true rfl)) dL_law_1355 ⟨Nat.le_of_ble_eq_true rfl, Nat.le_of_ble_eq_true rfl⟩) hS (fun q _ h => hFc q h) hFc (fun r_419 u t H1 locs ht hvm hw hB hz1 hk1 hS => ?_)
        obtain ⟨hP1, hK1, hD1⟩ := hB
        rw [ht] at hP1
        have hK1 := va_K.moved hvm.symm hK1
        obtain ⟨hP, hD⟩ := va_join (wr := [(ba, .inl (cB, 900, .inl fb)), (mm, .inr (11, fs_mm)), (mb, .inl (cM, 900, .inl fM))]) (w1 := []) hP hD [0, 1, 2, 4, 5, 6, 7, 8] [3, 9, 10] rfl rfl (by decide) (by decide) hk1 hFc hP1 hD1
        generalize H1 = H at hP hS ⊢
        have hP : va_P (dC, dI) vwCl [(ba, .inl (cB, 900, .inl fb)), (mm, .inr (11, fs_mm)), (mb, .inl (cM, 900, .inl fM))] H := hP
        have hD : va_D A [(ba, .inl (cB, 900, .inl fb)), (mm, .inr (11, fs_mm)), (mb, .inl (cM, 900, .inl fM))] := hD
        have er_419 : r_419 = (-9223372036854775808) := hw
        subst er_419
        refine lv_aload_n hx hb dL_law_1358 rfl (lv_at hl 2 rfl) ?_
        refine lv_aload_n hx hb dL_law_1359 rfl (lv_at hl 4 rfl) ?_
        refine lv_iload hx hb dL_law_1360 (lv_at hl 0 rfl) ?_
        refine lv_iconst (v := 1) hx hb dL_law_1362 (by decide) ?_
        refine lv_iadd hx hb dL_law_1363 ?_
        refine lv_topi (fun z_420 ez_420 => ?_)
        obtain rfl : z_420 = 1 := ez_420.trans (by decide)
        refine va_sld hx hb hX hbl hbA hS (vp_in_nI (n := 1) (by decide) (by decide)) dL_law_1364 ?_
        refine lv_aload_n hx hb dL_law_1365 rfl (lv_at hl 4 rfl) ?_
        refine lv_iload hx hb dL_law_1366 (lv_at hl 0 rfl) ?_
        refine lv_iconst (v := 2) hx hb dL_law_1368 (by decide) ?_
        refine lv_iadd hx hb dL_law_1369 ?_
        refine lv_topi (fun z_421 ez_421 => ?_)
        obtain rfl : z_421 = 2 := ez_421.trans (by decide)
        refine va_sld hx hb hX hbl hbA hS (vp_in_nI (n := 2) (by decide) (by decide)) dL_law_1370 ?_
        refine lv_aload_n hx hb dL_law_1371 rfl (lv_at hl 4 rfl) ?_
        refine lv_iload hx hb dL_law_1372 (lv_at hl 0 rfl) ?_
        refine lv_iconst (v := 3) hx hb dL_law_1374 (by decide) ?_
        refine lv_iadd hx hb dL_law_1375 ?_
        refine lv_topi (fun z_422 ez_422 => ?_)
        obtain rfl : z_422 = 3 := ez_422.trans (by decide)
        refine va_sld hx hb hX hbl hbA hS (vp_in_nI (n := 3) (by decide) (by decide)) dL_law_1376 ?_
        refine lv_aload_n hx hb dL_law_1377 rfl (lv_at hl 4 rfl) ?_
        refine lv_iload hx hb dL_law_1378 (lv_at hl 0 rfl) ?_
        refine lv_iconst (v := 4) hx hb dL_law_1380 (by decide) ?_
        refine lv_iadd hx hb dL_law_1381 ?_
        refine lv_topi (fun z_423 ez_423 => ?_)
        obtain rfl : z_423 = 4 := ez_423.trans (by decide)
        refine va_sld hx hb hX hbl hbA hS (vp_in_nI (n := 4) (by decide) (by decide)) dL_law_1382 ?_
        refine lv_aload_n hx hb dL_law_1383 rfl (lv_at hl 4 rfl) ?_
        refine lv_iload hx hb dL_law_1384 (lv_at hl 0 rfl) ?_
        refine lv_iconst (v := 5) hx hb dL_law_1386 (by decide) ?_
        refine lv_iadd hx hb dL_law_1387 ?_
        refine lv_topi (fun z_424 ez_424 => ?_)
        obtain rfl : z_424 = 5 := ez_424.trans (by decide)
        refine va_sld hx hb hX hbl hbA hS (vp_in_nI (n := 5) (by decide) (by decide)) dL_law_1388 ?_
        refine lv_if_eq (tgt := 1396) hx hb dL_law_1389 (by decide) (fun c_425 => ?_) (fun c_425 => ?_)
        · exact absurd c_425 c_404
        · refine lv_iconst (v := 1) hx hb dL_law_1392 (by decide) ?_
          refine lv_goto (tgt := 1397) hx hb dL_law_1393 (by decide) ?_
          have hPc := hP.sub (ws' := [(mm, .inr (11, fs_mm))]) [1] rfl
          have hDc := hD.sub (ws' := [(mm, .inr (11, fs_mm))]) [1] (by decide) rfl
          have hKc := hK.sub (tys' := []) [] rfl
          have hFc := va_free (wc := [(mm, .inr (11, fs_mm))]) hD hS hA [1] rfl
          refine va_calll (va_runV (As := [.int (xs (1 : Int32).toNatClampNeg), .int (xs (2 : Int32).toNatClampNeg), .int (xs (3 : Int32).toNatClampNeg), .int (xs (4 : Int32).toNatClampNeg), .int 1]) (rest := [.long (-9223372036854775808)]) ⟨hx, hb, hml, hown, hts⟩ (k_X12_bracket l dC dI H.size mm fs_mm (xs (1 : Int32).toNatClampNeg) (xs (2 : Int32).toNatClampNeg) (xs (3 : Int32).toNatClampNeg) (xs (4 : Int32).toNatClampNeg) 1 hn_mm hf_mm_20) (cwV 5 hts gL0_X12_bracket rfl rfl rfl (by decide +kernel) ⟨Nat.le_of_ble_eq_true rfl, Nat.le_of_ble_eq_true rfl⟩) ⟨fun a U g mk q => by obtain ⟨q0, q1, qP, qK, qD⟩ := q; exact ⟨q0, q1, qP, va_K.moved (u := U) (U := U.calling g mk a) (Vm.Alike.refl U.vm) qK, qD⟩, va_recv hKc hPc (ci := 11) (q0 := 0) rfl rfl, fun U hU hW => ⟨rfl, by rw [hU], by rw [hU]; exact hPc, va_K.moved hW.alike hKc, hDc.weaken (fun _ _ _ _ => trivial)⟩⟩ rfl rfl hl.1 rfl (lv_room (Nat.le_of_ble_eq_true rfl)) dL_law_1397 ⟨Nat.le_of_ble_eq_true rfl, Nat.le_of_ble_eq_true rfl⟩) hS (fun q _ h => hFc q h) hFc (fun r_426 u t H1 locs ht hvm hw hB hz1 hk1 hS => ?_)
          obtain ⟨hP1, hK1, hD1⟩ := hB
          rw [ht] at hP1
          have hK1 := va_K.moved hvm.symm hK1
          obtain ⟨hP, hD⟩ := va_join (wr := [(ba, .inl (cB, 900, .inl fb)), (mb, .inl (cM, 900, .inl fM))]) (w1 := []) hP hD [1] [0, 2] rfl rfl (by decide) (by decide) hk1 hFc hP1 hD1
          generalize H1 = H at hP hS ⊢
          have hP : va_P (dC, dI) vwCl [(ba, .inl (cB, 900, .inl fb)), (mb, .inl (cM, 900, .inl fM))] H := hP
          have hD : va_D A [(ba, .inl (cB, 900, .inl fb)), (mb, .inl (cM, 900, .inl fM))] := hD
          have er_426 : r_426 = (-9223372036854775808) := hw
          subst er_426
          refine W.lcmp hx hb dL_law_1400 ?_
          refine lv_topi (fun z_427 ez_427 => ?_)
          obtain rfl : z_427 = 0 := ez_427.trans (by decide)
          refine lv_if_eq (tgt := 1893) hx hb dL_law_1401 (by decide) (fun c_428 => ?_) (fun c_428 => ?_)
          · refine lv_iinc (v := 6) (lv' := [(4, .int 6), (3, .ref lo), (2, .ref mm), (1, .ref x), (0, .ref b)]) hx hb dL_law_1893 hl (k := 0) rfl (by decide) (by decide) rfl (fun ls hl => ?_)
            refine lv_goto (tgt := 23) hx hb dL_law_1896 (by decide) ?_
            refine lv_iload hx hb dL_law_23 (lv_at hl 0 rfl) ?_
            refine lv_aload_n hx hb dL_law_25 rfl (lv_at hl 4 rfl) ?_
            refine va_slen hx hb hX hbl hbA hS dL_law_26 ?_
            refine lv_topi (fun z_430 ez_430 => ?_)
            obtain rfl : z_430 = 6 := ez_430.trans rfl
            refine lv_bipush (v := 6) hx hb dL_law_27 (by decide) ?_
            refine lv_isub hx hb dL_law_29 ?_
            refine lv_topi (fun z_431 ez_431 => ?_)
            obtain rfl : z_431 = 0 := ez_431.trans (by decide)
            refine lv_icmp_gt (tgt := 1899) hx hb dL_law_30 (by decide) (fun c_432 => ?_) (fun c_432 => ?_)
            · refine lv_iconst (v := 1) hx hb dL_law_1899 (by decide) ?_
              refine va_forget (fun q hq => by have h9 := hS.2.2 q hq; rw [← hAe] at h9; exact h9) ?_
              refine W.widen (k := 600002) (n := 7302232) (Nat.le_of_ble_eq_true rfl) (Nat.le_of_ble_eq_true rfl) ?_
              exact lw_ret hd0 hx hb hr hlocks dL_law_1900
            · exact absurd (by decide) c_432
          · exact absurd (by decide) c_428
    by_cases c_433 : ((xs (0 : Int32).toNatClampNeg) &&& 63) = 25
    · refine lv_tableIn (tgt := 1406) hx hb dL_law_40 (by rw [c_433]; decide) (by rw [c_433]; decide) (by rw [c_433]; rfl) (by decide) ?_
      refine lv_aload_n hx hb dL_law_1406 rfl (lv_at hl 3 rfl) ?_
      refine lv_aload_n hx hb dL_law_1407 rfl (lv_at hl 4 rfl) ?_
      refine lv_iload hx hb dL_law_1408 (lv_at hl 0 rfl) ?_
      refine lv_iconst (v := 1) hx hb dL_law_1410 (by decide) ?_
      refine lv_iadd hx hb dL_law_1411 ?_
      refine lv_topi (fun z_434 ez_434 => ?_)
      obtain rfl : z_434 = 1 := ez_434.trans (by decide)
      refine va_sld hx hb hX hbl hbA hS (vp_in_nI (n := 1) (by decide) (by decide)) dL_law_1412 ?_
      refine lv_aload_n hx hb dL_law_1413 rfl (lv_at hl 4 rfl) ?_
      refine lv_iload hx hb dL_law_1414 (lv_at hl 0 rfl) ?_
      refine lv_iconst (v := 2) hx hb dL_law_1416 (by decide) ?_
      refine lv_iadd hx hb dL_law_1417 ?_
      refine lv_topi (fun z_435 ez_435 => ?_)
      obtain rfl : z_435 = 2 := ez_435.trans (by decide)
      refine va_sld hx hb hX hbl hbA hS (vp_in_nI (n := 2) (by decide) (by decide)) dL_law_1418 ?_
      refine lv_aload_n hx hb dL_law_1419 rfl (lv_at hl 4 rfl) ?_
      refine lv_iload hx hb dL_law_1420 (lv_at hl 0 rfl) ?_
      refine lv_iconst (v := 3) hx hb dL_law_1422 (by decide) ?_
      refine lv_iadd hx hb dL_law_1423 ?_
      refine lv_topi (fun z_436 ez_436 => ?_)
      obtain rfl : z_436 = 3 := ez_436.trans (by decide)
      refine va_sld hx hb hX hbl hbA hS (vp_in_nI (n := 3) (by decide) (by decide)) dL_law_1424 ?_
      have hPc := hP.sub (ws' := [(x, .inr (10, fs_x)), (rd, .inr (6, fs_rd)), (tp, .inr (9, fs_tp)), (ra, .inr (5, [.long u0, .long w0])), (li, .inr (3, fs_li)), (ho, .inr (4, fs_ho)), (dr, .inr (3, fs_dr)), (hd, .inr (4, fs_hd))]) [0, 1, 2, 4, 5, 6, 7, 8] rfl
      have hDc := hD.sub (ws' := [(x, .inr (10, fs_x)), (rd, .inr (6, fs_rd)), (tp, .inr (9, fs_tp)), (ra, .inr (5, [.long u0, .long w0])), (li, .inr (3, fs_li)), (ho, .inr (4, fs_ho)), (dr, .inr (3, fs_dr)), (hd, .inr (4, fs_hd))]) [0, 1, 2, 4, 5, 6, 7, 8] (by decide) rfl
      have hKc := hK.sub (tys' := []) [] rfl
      have hFc := va_free (wc := [(x, .inr (10, fs_x)), (rd, .inr (6, fs_rd)), (tp, .inr (9, fs_tp)), (ra, .inr (5, [.long u0, .long w0])), (li, .inr (3, fs_li)), (ho, .inr (4, fs_ho)), (dr, .inr (3, fs_dr)), (hd, .inr (4, fs_hd))]) hD hS hA [0, 1, 2, 4, 5, 6, 7, 8] rfl
      refine va_calli (va_runV (As := [.int (xs (1 : Int32).toNatClampNeg), .int (xs (2 : Int32).toNatClampNeg), .int (xs (3 : Int32).toNatClampNeg)]) (rest := []) ⟨hx, hb, hml, hown, hts⟩ (k_X11_narrows l dC dI H.size x fs_x rd fs_rd tp fs_tp ra [.long u0, .long w0] li fs_li ho fs_ho dr fs_dr hd fs_hd (xs (1 : Int32).toNatClampNeg) (xs (2 : Int32).toNatClampNeg) (xs (3 : Int32).toNatClampNeg) hn_x hf_x_0 hf_x_3 hf_x_8 hf_x_9 hf_x_10 hn_rd hf_rd_0 hn_tp rfl hn_li hf_li_2 hn_ho hn_dr hf_dr_2 hn_hd) (cwV 3 hts gL0_X11_narrows rfl rfl rfl (by decide +kernel) ⟨Nat.le_of_ble_eq_true rfl, Nat.le_of_ble_eq_true rfl⟩) ⟨fun a U g mk q => by obtain ⟨q0, q1, qP, qK, qD⟩ := q; exact ⟨q0, q1, qP, va_K.moved (u := U) (U := U.calling g mk a) (Vm.Alike.refl U.vm) qK, qD⟩, va_recv hKc hPc (ci := 10) (q0 := 0) rfl rfl, fun U hU hW => ⟨rfl, by rw [hU], by rw [hU]; exact hPc, va_K.moved hW.alike hKc, hDc.weaken (fun _ _ _ _ => trivial)⟩⟩ rfl rfl hl.1 rfl (lv_room (Nat.le_of_ble_eq_true rfl)) dL_law_1425 ⟨Nat.le_of_ble_eq_true rfl, Nat.le_of_ble_eq_true rfl⟩) hS (fun q _ h => hFc q h) hFc (fun r_437 u t H1 locs ht hvm hw hB hz1 hk1 hS => ?_)
      obtain ⟨hP1, hK1, hD1⟩ := hB
      rw [ht] at hP1
      have hK1 := va_K.moved hvm.symm hK1
      obtain ⟨hP, hD⟩ := va_join (wr := [(ba, .inl (cB, 900, .inl fb)), (mm, .inr (11, fs_mm)), (mb, .inl (cM, 900, .inl fM))]) (w1 := []) hP hD [0, 1, 2, 4, 5, 6, 7, 8] [3, 9, 10] rfl rfl (by decide) (by decide) hk1 hFc hP1 hD1
      generalize H1 = H at hP hS ⊢
      have hP : va_P (dC, dI) vwCl [(ba, .inl (cB, 900, .inl fb)), (mm, .inr (11, fs_mm)), (mb, .inl (cM, 900, .inl fM))] H := hP
      have hD : va_D A [(ba, .inl (cB, 900, .inl fb)), (mm, .inr (11, fs_mm)), (mb, .inl (cM, 900, .inl fM))] := hD
      have er_437 : r_437 = (-1) := hw
      subst er_437
      refine lv_aload_n hx hb dL_law_1428 rfl (lv_at hl 2 rfl) ?_
      refine lv_aload_n hx hb dL_law_1429 rfl (lv_at hl 4 rfl) ?_
      refine lv_iload hx hb dL_law_1430 (lv_at hl 0 rfl) ?_
      refine lv_iconst (v := 1) hx hb dL_law_1432 (by decide) ?_
      refine lv_iadd hx hb dL_law_1433 ?_
      refine lv_topi (fun z_438 ez_438 => ?_)
      obtain rfl : z_438 = 1 := ez_438.trans (by decide)
      refine va_sld hx hb hX hbl hbA hS (vp_in_nI (n := 1) (by decide) (by decide)) dL_law_1434 ?_
      refine lv_aload_n hx hb dL_law_1435 rfl (lv_at hl 4 rfl) ?_
      refine lv_iload hx hb dL_law_1436 (lv_at hl 0 rfl) ?_
      refine lv_iconst (v := 2) hx hb dL_law_1438 (by decide) ?_
      refine lv_iadd hx hb dL_law_1439 ?_
      refine lv_topi (fun z_439 ez_439 => ?_)
      obtain rfl : z_439 = 2 := ez_439.trans (by decide)
      refine va_sld hx hb hX hbl hbA hS (vp_in_nI (n := 2) (by decide) (by decide)) dL_law_1440 ?_
      refine lv_aload_n hx hb dL_law_1441 rfl (lv_at hl 4 rfl) ?_
      refine lv_iload hx hb dL_law_1442 (lv_at hl 0 rfl) ?_
      refine lv_iconst (v := 3) hx hb dL_law_1444 (by decide) ?_
      refine lv_iadd hx hb dL_law_1445 ?_
      refine lv_topi (fun z_440 ez_440 => ?_)
      obtain rfl : z_440 = 3 := ez_440.trans (by decide)
      refine va_sld hx hb hX hbl hbA hS (vp_in_nI (n := 3) (by decide) (by decide)) dL_law_1446 ?_
      have hPc := hP.sub (ws' := [(mm, .inr (11, fs_mm))]) [1] rfl
      have hDc := hD.sub (ws' := [(mm, .inr (11, fs_mm))]) [1] (by decide) rfl
      have hKc := hK.sub (tys' := []) [] rfl
      have hFc := va_free (wc := [(mm, .inr (11, fs_mm))]) hD hS hA [1] rfl
      refine va_calli (va_runV (As := [.int (xs (1 : Int32).toNatClampNeg), .int (xs (2 : Int32).toNatClampNeg), .int (xs (3 : Int32).toNatClampNeg)]) (rest := [.int (-1)]) ⟨hx, hb, hml, hown, hts⟩ (k_X12_narrows l dC dI H.size mm fs_mm (xs (1 : Int32).toNatClampNeg) (xs (2 : Int32).toNatClampNeg) (xs (3 : Int32).toNatClampNeg) hn_mm hf_mm_20) (cwV 3 hts gL0_X12_narrows rfl rfl rfl (by decide +kernel) ⟨Nat.le_of_ble_eq_true rfl, Nat.le_of_ble_eq_true rfl⟩) ⟨fun a U g mk q => by obtain ⟨q0, q1, qP, qK, qD⟩ := q; exact ⟨q0, q1, qP, va_K.moved (u := U) (U := U.calling g mk a) (Vm.Alike.refl U.vm) qK, qD⟩, va_recv hKc hPc (ci := 11) (q0 := 0) rfl rfl, fun U hU hW => ⟨rfl, by rw [hU], by rw [hU]; exact hPc, va_K.moved hW.alike hKc, hDc.weaken (fun _ _ _ _ => trivial)⟩⟩ rfl rfl hl.1 rfl (lv_room (Nat.le_of_ble_eq_true rfl)) dL_law_1447 ⟨Nat.le_of_ble_eq_true rfl, Nat.le_of_ble_eq_true rfl⟩) hS (fun q _ h => hFc q h) hFc (fun r_441 u t H1 locs ht hvm hw hB hz1 hk1 hS => ?_)
      obtain ⟨hP1, hK1, hD1⟩ := hB
      rw [ht] at hP1
      have hK1 := va_K.moved hvm.symm hK1
      obtain ⟨hP, hD⟩ := va_join (wr := [(ba, .inl (cB, 900, .inl fb)), (mb, .inl (cM, 900, .inl fM))]) (w1 := []) hP hD [1] [0, 2] rfl rfl (by decide) (by decide) hk1 hFc hP1 hD1
      generalize H1 = H at hP hS ⊢
      have hP : va_P (dC, dI) vwCl [(ba, .inl (cB, 900, .inl fb)), (mb, .inl (cM, 900, .inl fM))] H := hP
      have hD : va_D A [(ba, .inl (cB, 900, .inl fb)), (mb, .inl (cM, 900, .inl fM))] := hD
      have er_441 : r_441 = (-1) := hw
      subst er_441
      refine lv_icmp_eq (tgt := 1893) hx hb dL_law_1450 (by decide) (fun c_442 => ?_) (fun c_442 => ?_)
      · refine lv_iinc (v := 6) (lv' := [(4, .int 6), (3, .ref lo), (2, .ref mm), (1, .ref x), (0, .ref b)]) hx hb dL_law_1893 hl (k := 0) rfl (by decide) (by decide) rfl (fun ls hl => ?_)
        refine lv_goto (tgt := 23) hx hb dL_law_1896 (by decide) ?_
        refine lv_iload hx hb dL_law_23 (lv_at hl 0 rfl) ?_
        refine lv_aload_n hx hb dL_law_25 rfl (lv_at hl 4 rfl) ?_
        refine va_slen hx hb hX hbl hbA hS dL_law_26 ?_
        refine lv_topi (fun z_444 ez_444 => ?_)
        obtain rfl : z_444 = 6 := ez_444.trans rfl
        refine lv_bipush (v := 6) hx hb dL_law_27 (by decide) ?_
        refine lv_isub hx hb dL_law_29 ?_
        refine lv_topi (fun z_445 ez_445 => ?_)
        obtain rfl : z_445 = 0 := ez_445.trans (by decide)
        refine lv_icmp_gt (tgt := 1899) hx hb dL_law_30 (by decide) (fun c_446 => ?_) (fun c_446 => ?_)
        · refine lv_iconst (v := 1) hx hb dL_law_1899 (by decide) ?_
          refine va_forget (fun q hq => by have h9 := hS.2.2 q hq; rw [← hAe] at h9; exact h9) ?_
          refine W.widen (k := 600002) (n := 7302232) (Nat.le_of_ble_eq_true rfl) (Nat.le_of_ble_eq_true rfl) ?_
          exact lw_ret hd0 hx hb hr hlocks dL_law_1900
        · exact absurd (by decide) c_446
      · exact absurd (by decide) c_442
    by_cases c_447 : ((xs (0 : Int32).toNatClampNeg) &&& 63) = 26
    · refine lv_tableIn (tgt := 1455) hx hb dL_law_40 (by rw [c_447]; decide) (by rw [c_447]; decide) (by rw [c_447]; rfl) (by decide) ?_
      refine lv_aload_n hx hb dL_law_1455 rfl (lv_at hl 3 rfl) ?_
      refine lv_aload_n hx hb dL_law_1456 rfl (lv_at hl 4 rfl) ?_
      refine lv_iload hx hb dL_law_1457 (lv_at hl 0 rfl) ?_
      refine lv_iconst (v := 1) hx hb dL_law_1459 (by decide) ?_
      refine lv_iadd hx hb dL_law_1460 ?_
      refine lv_topi (fun z_448 ez_448 => ?_)
      obtain rfl : z_448 = 1 := ez_448.trans (by decide)
      refine va_sld hx hb hX hbl hbA hS (vp_in_nI (n := 1) (by decide) (by decide)) dL_law_1461 ?_
      refine lv_aload_n hx hb dL_law_1462 rfl (lv_at hl 4 rfl) ?_
      refine lv_iload hx hb dL_law_1463 (lv_at hl 0 rfl) ?_
      refine lv_iconst (v := 2) hx hb dL_law_1465 (by decide) ?_
      refine lv_iadd hx hb dL_law_1466 ?_
      refine lv_topi (fun z_449 ez_449 => ?_)
      obtain rfl : z_449 = 2 := ez_449.trans (by decide)
      refine va_sld hx hb hX hbl hbA hS (vp_in_nI (n := 2) (by decide) (by decide)) dL_law_1467 ?_
      refine lv_aload_n hx hb dL_law_1468 rfl (lv_at hl 4 rfl) ?_
      refine lv_iload hx hb dL_law_1469 (lv_at hl 0 rfl) ?_
      refine lv_iconst (v := 3) hx hb dL_law_1471 (by decide) ?_
      refine lv_iadd hx hb dL_law_1472 ?_
      refine lv_topi (fun z_450 ez_450 => ?_)
      obtain rfl : z_450 = 3 := ez_450.trans (by decide)
      refine va_sld hx hb hX hbl hbA hS (vp_in_nI (n := 3) (by decide) (by decide)) dL_law_1473 ?_
      have hPc := hP.sub (ws' := [(x, .inr (10, fs_x)), (rd, .inr (6, fs_rd)), (tp, .inr (9, fs_tp)), (ra, .inr (5, [.long u0, .long w0])), (li, .inr (3, fs_li)), (ho, .inr (4, fs_ho)), (dr, .inr (3, fs_dr)), (hd, .inr (4, fs_hd))]) [0, 1, 2, 4, 5, 6, 7, 8] rfl
      have hDc := hD.sub (ws' := [(x, .inr (10, fs_x)), (rd, .inr (6, fs_rd)), (tp, .inr (9, fs_tp)), (ra, .inr (5, [.long u0, .long w0])), (li, .inr (3, fs_li)), (ho, .inr (4, fs_ho)), (dr, .inr (3, fs_dr)), (hd, .inr (4, fs_hd))]) [0, 1, 2, 4, 5, 6, 7, 8] (by decide) rfl
      have hKc := hK.sub (tys' := []) [] rfl
      have hFc := va_free (wc := [(x, .inr (10, fs_x)), (rd, .inr (6, fs_rd)), (tp, .inr (9, fs_tp)), (ra, .inr (5, [.long u0, .long w0])), (li, .inr (3, fs_li)), (ho, .inr (4, fs_ho)), (dr, .inr (3, fs_dr)), (hd, .inr (4, fs_hd))]) hD hS hA [0, 1, 2, 4, 5, 6, 7, 8] rfl
      refine va_calli (va_runV (As := [.int (xs (1 : Int32).toNatClampNeg), .int (xs (2 : Int32).toNatClampNeg), .int (xs (3 : Int32).toNatClampNeg)]) (rest := []) ⟨hx, hb, hml, hown, hts⟩ (k_X11_pointsAt l dC dI H.size x fs_x rd fs_rd tp fs_tp ra [.long u0, .long w0] li fs_li ho fs_ho dr fs_dr hd fs_hd (xs (1 : Int32).toNatClampNeg) (xs (2 : Int32).toNatClampNeg) (xs (3 : Int32).toNatClampNeg) hn_x hf_x_0 hf_x_3 hf_x_8 hf_x_9 hf_x_10 hn_rd hf_rd_0 hn_tp rfl hn_li hf_li_2 hn_ho hn_dr hf_dr_2 hn_hd) (cwV 3 hts gL0_X11_pointsAt rfl rfl rfl (by decide +kernel) ⟨Nat.le_of_ble_eq_true rfl, Nat.le_of_ble_eq_true rfl⟩) ⟨fun a U g mk q => by obtain ⟨q0, q1, qP, qK, qD⟩ := q; exact ⟨q0, q1, qP, va_K.moved (u := U) (U := U.calling g mk a) (Vm.Alike.refl U.vm) qK, qD⟩, va_recv hKc hPc (ci := 10) (q0 := 0) rfl rfl, fun U hU hW => ⟨rfl, by rw [hU], by rw [hU]; exact hPc, va_K.moved hW.alike hKc, hDc.weaken (fun _ _ _ _ => trivial)⟩⟩ rfl rfl hl.1 rfl (lv_room (Nat.le_of_ble_eq_true rfl)) dL_law_1474 ⟨Nat.le_of_ble_eq_true rfl, Nat.le_of_ble_eq_true rfl⟩) hS (fun q _ h => hFc q h) hFc (fun r_451 u t H1 locs ht hvm hw hB hz1 hk1 hS => ?_)
      obtain ⟨hP1, hK1, hD1⟩ := hB
      rw [ht] at hP1
      have hK1 := va_K.moved hvm.symm hK1
      obtain ⟨hP, hD⟩ := va_join (wr := [(ba, .inl (cB, 900, .inl fb)), (mm, .inr (11, fs_mm)), (mb, .inl (cM, 900, .inl fM))]) (w1 := []) hP hD [0, 1, 2, 4, 5, 6, 7, 8] [3, 9, 10] rfl rfl (by decide) (by decide) hk1 hFc hP1 hD1
      generalize H1 = H at hP hS ⊢
      have hP : va_P (dC, dI) vwCl [(ba, .inl (cB, 900, .inl fb)), (mm, .inr (11, fs_mm)), (mb, .inl (cM, 900, .inl fM))] H := hP
      have hD : va_D A [(ba, .inl (cB, 900, .inl fb)), (mm, .inr (11, fs_mm)), (mb, .inl (cM, 900, .inl fM))] := hD
      have er_451 : r_451 = (-2147483648) := hw
      subst er_451
      refine lv_aload_n hx hb dL_law_1477 rfl (lv_at hl 2 rfl) ?_
      refine lv_aload_n hx hb dL_law_1478 rfl (lv_at hl 4 rfl) ?_
      refine lv_iload hx hb dL_law_1479 (lv_at hl 0 rfl) ?_
      refine lv_iconst (v := 1) hx hb dL_law_1481 (by decide) ?_
      refine lv_iadd hx hb dL_law_1482 ?_
      refine lv_topi (fun z_452 ez_452 => ?_)
      obtain rfl : z_452 = 1 := ez_452.trans (by decide)
      refine va_sld hx hb hX hbl hbA hS (vp_in_nI (n := 1) (by decide) (by decide)) dL_law_1483 ?_
      refine lv_aload_n hx hb dL_law_1484 rfl (lv_at hl 4 rfl) ?_
      refine lv_iload hx hb dL_law_1485 (lv_at hl 0 rfl) ?_
      refine lv_iconst (v := 2) hx hb dL_law_1487 (by decide) ?_
      refine lv_iadd hx hb dL_law_1488 ?_
      refine lv_topi (fun z_453 ez_453 => ?_)
      obtain rfl : z_453 = 2 := ez_453.trans (by decide)
      refine va_sld hx hb hX hbl hbA hS (vp_in_nI (n := 2) (by decide) (by decide)) dL_law_1489 ?_
      refine lv_aload_n hx hb dL_law_1490 rfl (lv_at hl 4 rfl) ?_
      refine lv_iload hx hb dL_law_1491 (lv_at hl 0 rfl) ?_
      refine lv_iconst (v := 3) hx hb dL_law_1493 (by decide) ?_
      refine lv_iadd hx hb dL_law_1494 ?_
      refine lv_topi (fun z_454 ez_454 => ?_)
      obtain rfl : z_454 = 3 := ez_454.trans (by decide)
      refine va_sld hx hb hX hbl hbA hS (vp_in_nI (n := 3) (by decide) (by decide)) dL_law_1495 ?_
      have hPc := hP.sub (ws' := [(mm, .inr (11, fs_mm))]) [1] rfl
      have hDc := hD.sub (ws' := [(mm, .inr (11, fs_mm))]) [1] (by decide) rfl
      have hKc := hK.sub (tys' := []) [] rfl
      have hFc := va_free (wc := [(mm, .inr (11, fs_mm))]) hD hS hA [1] rfl
      refine va_calli (va_runV (As := [.int (xs (1 : Int32).toNatClampNeg), .int (xs (2 : Int32).toNatClampNeg), .int (xs (3 : Int32).toNatClampNeg)]) (rest := [.int (-2147483648)]) ⟨hx, hb, hml, hown, hts⟩ (k_X12_pointsAt l dC dI H.size mm fs_mm (xs (1 : Int32).toNatClampNeg) (xs (2 : Int32).toNatClampNeg) (xs (3 : Int32).toNatClampNeg) hn_mm hf_mm_20) (cwV 3 hts gL0_X12_pointsAt rfl rfl rfl (by decide +kernel) ⟨Nat.le_of_ble_eq_true rfl, Nat.le_of_ble_eq_true rfl⟩) ⟨fun a U g mk q => by obtain ⟨q0, q1, qP, qK, qD⟩ := q; exact ⟨q0, q1, qP, va_K.moved (u := U) (U := U.calling g mk a) (Vm.Alike.refl U.vm) qK, qD⟩, va_recv hKc hPc (ci := 11) (q0 := 0) rfl rfl, fun U hU hW => ⟨rfl, by rw [hU], by rw [hU]; exact hPc, va_K.moved hW.alike hKc, hDc.weaken (fun _ _ _ _ => trivial)⟩⟩ rfl rfl hl.1 rfl (lv_room (Nat.le_of_ble_eq_true rfl)) dL_law_1496 ⟨Nat.le_of_ble_eq_true rfl, Nat.le_of_ble_eq_true rfl⟩) hS (fun q _ h => hFc q h) hFc (fun r_455 u t H1 locs ht hvm hw hB hz1 hk1 hS => ?_)
      obtain ⟨hP1, hK1, hD1⟩ := hB
      rw [ht] at hP1
      have hK1 := va_K.moved hvm.symm hK1
      obtain ⟨hP, hD⟩ := va_join (wr := [(ba, .inl (cB, 900, .inl fb)), (mb, .inl (cM, 900, .inl fM))]) (w1 := []) hP hD [1] [0, 2] rfl rfl (by decide) (by decide) hk1 hFc hP1 hD1
      generalize H1 = H at hP hS ⊢
      have hP : va_P (dC, dI) vwCl [(ba, .inl (cB, 900, .inl fb)), (mb, .inl (cM, 900, .inl fM))] H := hP
      have hD : va_D A [(ba, .inl (cB, 900, .inl fb)), (mb, .inl (cM, 900, .inl fM))] := hD
      have er_455 : r_455 = (-2147483648) := hw
      subst er_455
      refine lv_icmp_eq (tgt := 1893) hx hb dL_law_1499 (by decide) (fun c_456 => ?_) (fun c_456 => ?_)
      · refine lv_iinc (v := 6) (lv' := [(4, .int 6), (3, .ref lo), (2, .ref mm), (1, .ref x), (0, .ref b)]) hx hb dL_law_1893 hl (k := 0) rfl (by decide) (by decide) rfl (fun ls hl => ?_)
        refine lv_goto (tgt := 23) hx hb dL_law_1896 (by decide) ?_
        refine lv_iload hx hb dL_law_23 (lv_at hl 0 rfl) ?_
        refine lv_aload_n hx hb dL_law_25 rfl (lv_at hl 4 rfl) ?_
        refine va_slen hx hb hX hbl hbA hS dL_law_26 ?_
        refine lv_topi (fun z_458 ez_458 => ?_)
        obtain rfl : z_458 = 6 := ez_458.trans rfl
        refine lv_bipush (v := 6) hx hb dL_law_27 (by decide) ?_
        refine lv_isub hx hb dL_law_29 ?_
        refine lv_topi (fun z_459 ez_459 => ?_)
        obtain rfl : z_459 = 0 := ez_459.trans (by decide)
        refine lv_icmp_gt (tgt := 1899) hx hb dL_law_30 (by decide) (fun c_460 => ?_) (fun c_460 => ?_)
        · refine lv_iconst (v := 1) hx hb dL_law_1899 (by decide) ?_
          refine va_forget (fun q hq => by have h9 := hS.2.2 q hq; rw [← hAe] at h9; exact h9) ?_
          refine W.widen (k := 600002) (n := 7302232) (Nat.le_of_ble_eq_true rfl) (Nat.le_of_ble_eq_true rfl) ?_
          exact lw_ret hd0 hx hb hr hlocks dL_law_1900
        · exact absurd (by decide) c_460
      · exact absurd (by decide) c_456
    by_cases c_461 : ((xs (0 : Int32).toNatClampNeg) &&& 63) = 27
    · refine lv_tableIn (tgt := 1504) hx hb dL_law_40 (by rw [c_461]; decide) (by rw [c_461]; decide) (by rw [c_461]; rfl) (by decide) ?_
      refine lv_aload_n hx hb dL_law_1504 rfl (lv_at hl 3 rfl) ?_
      refine lv_aload_n hx hb dL_law_1505 rfl (lv_at hl 4 rfl) ?_
      refine lv_iload hx hb dL_law_1506 (lv_at hl 0 rfl) ?_
      refine lv_iconst (v := 1) hx hb dL_law_1508 (by decide) ?_
      refine lv_iadd hx hb dL_law_1509 ?_
      refine lv_topi (fun z_462 ez_462 => ?_)
      obtain rfl : z_462 = 1 := ez_462.trans (by decide)
      refine va_sld hx hb hX hbl hbA hS (vp_in_nI (n := 1) (by decide) (by decide)) dL_law_1510 ?_
      refine lv_aload_n hx hb dL_law_1511 rfl (lv_at hl 4 rfl) ?_
      refine lv_iload hx hb dL_law_1512 (lv_at hl 0 rfl) ?_
      refine lv_iconst (v := 2) hx hb dL_law_1514 (by decide) ?_
      refine lv_iadd hx hb dL_law_1515 ?_
      refine lv_topi (fun z_463 ez_463 => ?_)
      obtain rfl : z_463 = 2 := ez_463.trans (by decide)
      refine va_sld hx hb hX hbl hbA hS (vp_in_nI (n := 2) (by decide) (by decide)) dL_law_1516 ?_
      have hPc := hP.sub (ws' := [(x, .inr (10, fs_x))]) [0] rfl
      have hDc := hD.sub (ws' := [(x, .inr (10, fs_x))]) [0] (by decide) rfl
      have hKc := hK.sub (tys' := []) [] rfl
      have hFc := va_free (wc := [(x, .inr (10, fs_x))]) hD hS hA [0] rfl
      refine va_calli (va_runV (As := [.int (xs (1 : Int32).toNatClampNeg), .int (xs (2 : Int32).toNatClampNeg)]) (rest := []) ⟨hx, hb, hml, hown, hts⟩ (k_X11_quote l dC dI H.size x fs_x (xs (1 : Int32).toNatClampNeg) (xs (2 : Int32).toNatClampNeg) hn_x hf_x_10) (cwV 2 hts gL0_X11_quote rfl rfl rfl (by decide +kernel) ⟨Nat.le_of_ble_eq_true rfl, Nat.le_of_ble_eq_true rfl⟩) ⟨fun a U g mk q => by obtain ⟨q0, q1, qP, qK, qD⟩ := q; exact ⟨q0, q1, qP, va_K.moved (u := U) (U := U.calling g mk a) (Vm.Alike.refl U.vm) qK, qD⟩, va_recv hKc hPc (ci := 10) (q0 := 0) rfl rfl, fun U hU hW => ⟨rfl, by rw [hU], by rw [hU]; exact hPc, va_K.moved hW.alike hKc, hDc.weaken (fun _ _ _ _ => trivial)⟩⟩ rfl rfl hl.1 rfl (lv_room (Nat.le_of_ble_eq_true rfl)) dL_law_1517 ⟨Nat.le_of_ble_eq_true rfl, Nat.le_of_ble_eq_true rfl⟩) hS (fun q _ h => hFc q h) hFc (fun r_464 u t H1 locs ht hvm hw hB hz1 hk1 hS => ?_)
      obtain ⟨hP1, hK1, hD1⟩ := hB
      rw [ht] at hP1
      have hK1 := va_K.moved hvm.symm hK1
      obtain ⟨hP, hD⟩ := va_join (wr := [(rd, .inr (6, fs_rd)), (tp, .inr (9, fs_tp)), (ba, .inl (cB, 900, .inl fb)), (ra, .inr (5, [.long u0, .long w0])), (li, .inr (3, fs_li)), (ho, .inr (4, fs_ho)), (dr, .inr (3, fs_dr)), (hd, .inr (4, fs_hd)), (mm, .inr (11, fs_mm)), (mb, .inl (cM, 900, .inl fM))]) (w1 := []) hP hD [0] [1, 2, 3, 4, 5, 6, 7, 8, 9, 10] rfl rfl (by decide) (by decide) hk1 hFc hP1 hD1
      generalize H1 = H at hP hS ⊢
      have hP : va_P (dC, dI) vwCl [(rd, .inr (6, fs_rd)), (tp, .inr (9, fs_tp)), (ba, .inl (cB, 900, .inl fb)), (ra, .inr (5, [.long u0, .long w0])), (li, .inr (3, fs_li)), (ho, .inr (4, fs_ho)), (dr, .inr (3, fs_dr)), (hd, .inr (4, fs_hd)), (mm, .inr (11, fs_mm)), (mb, .inl (cM, 900, .inl fM))] H := hP
      have hD : va_D A [(rd, .inr (6, fs_rd)), (tp, .inr (9, fs_tp)), (ba, .inl (cB, 900, .inl fb)), (ra, .inr (5, [.long u0, .long w0])), (li, .inr (3, fs_li)), (ho, .inr (4, fs_ho)), (dr, .inr (3, fs_dr)), (hd, .inr (4, fs_hd)), (mm, .inr (11, fs_mm)), (mb, .inl (cM, 900, .inl fM))] := hD
      have er_464 : r_464 = (-1) := hw
      subst er_464
      refine lv_aload_n hx hb dL_law_1520 rfl (lv_at hl 2 rfl) ?_
      refine lv_aload_n hx hb dL_law_1521 rfl (lv_at hl 4 rfl) ?_
      refine lv_iload hx hb dL_law_1522 (lv_at hl 0 rfl) ?_
      refine lv_iconst (v := 1) hx hb dL_law_1524 (by decide) ?_
      refine lv_iadd hx hb dL_law_1525 ?_
      refine lv_topi (fun z_465 ez_465 => ?_)
      obtain rfl : z_465 = 1 := ez_465.trans (by decide)
      refine va_sld hx hb hX hbl hbA hS (vp_in_nI (n := 1) (by decide) (by decide)) dL_law_1526 ?_
      refine lv_aload_n hx hb dL_law_1527 rfl (lv_at hl 4 rfl) ?_
      refine lv_iload hx hb dL_law_1528 (lv_at hl 0 rfl) ?_
      refine lv_iconst (v := 2) hx hb dL_law_1530 (by decide) ?_
      refine lv_iadd hx hb dL_law_1531 ?_
      refine lv_topi (fun z_466 ez_466 => ?_)
      obtain rfl : z_466 = 2 := ez_466.trans (by decide)
      refine va_sld hx hb hX hbl hbA hS (vp_in_nI (n := 2) (by decide) (by decide)) dL_law_1532 ?_
      have hPc := hP.sub (ws' := [(mm, .inr (11, fs_mm))]) [8] rfl
      have hDc := hD.sub (ws' := [(mm, .inr (11, fs_mm))]) [8] (by decide) rfl
      have hKc := hK.sub (tys' := []) [] rfl
      have hFc := va_free (wc := [(mm, .inr (11, fs_mm))]) hD hS hA [8] rfl
      refine va_calli (va_runV (As := [.int (xs (1 : Int32).toNatClampNeg), .int (xs (2 : Int32).toNatClampNeg)]) (rest := [.int (-1)]) ⟨hx, hb, hml, hown, hts⟩ (k_X12_quote l dC dI H.size mm fs_mm (xs (1 : Int32).toNatClampNeg) (xs (2 : Int32).toNatClampNeg) hn_mm hf_mm_21) (cwV 2 hts gL0_X12_quote rfl rfl rfl (by decide +kernel) ⟨Nat.le_of_ble_eq_true rfl, Nat.le_of_ble_eq_true rfl⟩) ⟨fun a U g mk q => by obtain ⟨q0, q1, qP, qK, qD⟩ := q; exact ⟨q0, q1, qP, va_K.moved (u := U) (U := U.calling g mk a) (Vm.Alike.refl U.vm) qK, qD⟩, va_recv hKc hPc (ci := 11) (q0 := 0) rfl rfl, fun U hU hW => ⟨rfl, by rw [hU], by rw [hU]; exact hPc, va_K.moved hW.alike hKc, hDc.weaken (fun _ _ _ _ => trivial)⟩⟩ rfl rfl hl.1 rfl (lv_room (Nat.le_of_ble_eq_true rfl)) dL_law_1533 ⟨Nat.le_of_ble_eq_true rfl, Nat.le_of_ble_eq_true rfl⟩) hS (fun q _ h => hFc q h) hFc (fun r_467 u t H1 locs ht hvm hw hB hz1 hk1 hS => ?_)
      obtain ⟨hP1, hK1, hD1⟩ := hB
      rw [ht] at hP1
      have hK1 := va_K.moved hvm.symm hK1
      obtain ⟨hP, hD⟩ := va_join (wr := [(rd, .inr (6, fs_rd)), (tp, .inr (9, fs_tp)), (ba, .inl (cB, 900, .inl fb)), (ra, .inr (5, [.long u0, .long w0])), (li, .inr (3, fs_li)), (ho, .inr (4, fs_ho)), (dr, .inr (3, fs_dr)), (hd, .inr (4, fs_hd)), (mb, .inl (cM, 900, .inl fM))]) (w1 := []) hP hD [8] [0, 1, 2, 3, 4, 5, 6, 7, 9] rfl rfl (by decide) (by decide) hk1 hFc hP1 hD1
      generalize H1 = H at hP hS ⊢
      have hP : va_P (dC, dI) vwCl [(rd, .inr (6, fs_rd)), (tp, .inr (9, fs_tp)), (ba, .inl (cB, 900, .inl fb)), (ra, .inr (5, [.long u0, .long w0])), (li, .inr (3, fs_li)), (ho, .inr (4, fs_ho)), (dr, .inr (3, fs_dr)), (hd, .inr (4, fs_hd)), (mb, .inl (cM, 900, .inl fM))] H := hP
      have hD : va_D A [(rd, .inr (6, fs_rd)), (tp, .inr (9, fs_tp)), (ba, .inl (cB, 900, .inl fb)), (ra, .inr (5, [.long u0, .long w0])), (li, .inr (3, fs_li)), (ho, .inr (4, fs_ho)), (dr, .inr (3, fs_dr)), (hd, .inr (4, fs_hd)), (mb, .inl (cM, 900, .inl fM))] := hD
      have er_467 : r_467 = (-1) := hw
      subst er_467
      refine lv_icmp_eq (tgt := 1893) hx hb dL_law_1536 (by decide) (fun c_468 => ?_) (fun c_468 => ?_)
      · refine lv_iinc (v := 6) (lv' := [(4, .int 6), (3, .ref lo), (2, .ref mm), (1, .ref x), (0, .ref b)]) hx hb dL_law_1893 hl (k := 0) rfl (by decide) (by decide) rfl (fun ls hl => ?_)
        refine lv_goto (tgt := 23) hx hb dL_law_1896 (by decide) ?_
        refine lv_iload hx hb dL_law_23 (lv_at hl 0 rfl) ?_
        refine lv_aload_n hx hb dL_law_25 rfl (lv_at hl 4 rfl) ?_
        refine va_slen hx hb hX hbl hbA hS dL_law_26 ?_
        refine lv_topi (fun z_470 ez_470 => ?_)
        obtain rfl : z_470 = 6 := ez_470.trans rfl
        refine lv_bipush (v := 6) hx hb dL_law_27 (by decide) ?_
        refine lv_isub hx hb dL_law_29 ?_
        refine lv_topi (fun z_471 ez_471 => ?_)
        obtain rfl : z_471 = 0 := ez_471.trans (by decide)
        refine lv_icmp_gt (tgt := 1899) hx hb dL_law_30 (by decide) (fun c_472 => ?_) (fun c_472 => ?_)
        · refine lv_iconst (v := 1) hx hb dL_law_1899 (by decide) ?_
          refine va_forget (fun q hq => by have h9 := hS.2.2 q hq; rw [← hAe] at h9; exact h9) ?_
          refine W.widen (k := 600002) (n := 7302232) (Nat.le_of_ble_eq_true rfl) (Nat.le_of_ble_eq_true rfl) ?_
          exact lw_ret hd0 hx hb hr hlocks dL_law_1900
        · exact absurd (by decide) c_472
      · exact absurd (by decide) c_468
    by_cases c_473 : ((xs (0 : Int32).toNatClampNeg) &&& 63) = 28
    · refine lv_tableIn (tgt := 1541) hx hb dL_law_40 (by rw [c_473]; decide) (by rw [c_473]; decide) (by rw [c_473]; rfl) (by decide) ?_
      refine lv_aload_n hx hb dL_law_1541 rfl (lv_at hl 3 rfl) ?_
      refine lv_aload_n hx hb dL_law_1542 rfl (lv_at hl 4 rfl) ?_
      refine lv_iload hx hb dL_law_1543 (lv_at hl 0 rfl) ?_
      refine lv_iconst (v := 1) hx hb dL_law_1545 (by decide) ?_
      refine lv_iadd hx hb dL_law_1546 ?_
      refine lv_topi (fun z_474 ez_474 => ?_)
      obtain rfl : z_474 = 1 := ez_474.trans (by decide)
      refine va_sld hx hb hX hbl hbA hS (vp_in_nI (n := 1) (by decide) (by decide)) dL_law_1547 ?_
      have hPc := hP.sub (ws' := [(x, .inr (10, fs_x))]) [0] rfl
      have hDc := hD.sub (ws' := [(x, .inr (10, fs_x))]) [0] (by decide) rfl
      have hKc := hK.sub (tys' := []) [] rfl
      have hFc := va_free (wc := [(x, .inr (10, fs_x))]) hD hS hA [0] rfl
      refine va_calll (va_runV (As := [.int (xs (1 : Int32).toNatClampNeg)]) (rest := []) ⟨hx, hb, hml, hown, hts⟩ (k_X11_off l dC dI H.size x fs_x (xs (1 : Int32).toNatClampNeg) hn_x hf_x_10) (cwV 1 hts gL0_X11_off rfl rfl rfl (by decide +kernel) ⟨Nat.le_of_ble_eq_true rfl, Nat.le_of_ble_eq_true rfl⟩) ⟨fun a U g mk q => by obtain ⟨q0, q1, qP, qK, qD⟩ := q; exact ⟨q0, q1, qP, va_K.moved (u := U) (U := U.calling g mk a) (Vm.Alike.refl U.vm) qK, qD⟩, va_recv hKc hPc (ci := 10) (q0 := 0) rfl rfl, fun U hU hW => ⟨rfl, by rw [hU], by rw [hU]; exact hPc, va_K.moved hW.alike hKc, hDc.weaken (fun _ _ _ _ => trivial)⟩⟩ rfl rfl hl.1 rfl (lv_room (Nat.le_of_ble_eq_true rfl)) dL_law_1548 ⟨Nat.le_of_ble_eq_true rfl, Nat.le_of_ble_eq_true rfl⟩) hS (fun q _ h => hFc q h) hFc (fun r_475 u t H1 locs ht hvm hw hB hz1 hk1 hS => ?_)
      obtain ⟨hP1, hK1, hD1⟩ := hB
      rw [ht] at hP1
      have hK1 := va_K.moved hvm.symm hK1
      obtain ⟨hP, hD⟩ := va_join (wr := [(rd, .inr (6, fs_rd)), (tp, .inr (9, fs_tp)), (ba, .inl (cB, 900, .inl fb)), (ra, .inr (5, [.long u0, .long w0])), (li, .inr (3, fs_li)), (ho, .inr (4, fs_ho)), (dr, .inr (3, fs_dr)), (hd, .inr (4, fs_hd)), (mm, .inr (11, fs_mm)), (mb, .inl (cM, 900, .inl fM))]) (w1 := []) hP hD [0] [1, 2, 3, 4, 5, 6, 7, 8, 9, 10] rfl rfl (by decide) (by decide) hk1 hFc hP1 hD1
      generalize H1 = H at hP hS ⊢
      have hP : va_P (dC, dI) vwCl [(rd, .inr (6, fs_rd)), (tp, .inr (9, fs_tp)), (ba, .inl (cB, 900, .inl fb)), (ra, .inr (5, [.long u0, .long w0])), (li, .inr (3, fs_li)), (ho, .inr (4, fs_ho)), (dr, .inr (3, fs_dr)), (hd, .inr (4, fs_hd)), (mm, .inr (11, fs_mm)), (mb, .inl (cM, 900, .inl fM))] H := hP
      have hD : va_D A [(rd, .inr (6, fs_rd)), (tp, .inr (9, fs_tp)), (ba, .inl (cB, 900, .inl fb)), (ra, .inr (5, [.long u0, .long w0])), (li, .inr (3, fs_li)), (ho, .inr (4, fs_ho)), (dr, .inr (3, fs_dr)), (hd, .inr (4, fs_hd)), (mm, .inr (11, fs_mm)), (mb, .inl (cM, 900, .inl fM))] := hD
      have er_475 : r_475 = (-9223372036854775808) := hw
      subst er_475
      refine lv_aload_n hx hb dL_law_1551 rfl (lv_at hl 2 rfl) ?_
      refine lv_aload_n hx hb dL_law_1552 rfl (lv_at hl 4 rfl) ?_
      refine lv_iload hx hb dL_law_1553 (lv_at hl 0 rfl) ?_
      refine lv_iconst (v := 1) hx hb dL_law_1555 (by decide) ?_
      refine lv_iadd hx hb dL_law_1556 ?_
      refine lv_topi (fun z_476 ez_476 => ?_)
      obtain rfl : z_476 = 1 := ez_476.trans (by decide)
      refine va_sld hx hb hX hbl hbA hS (vp_in_nI (n := 1) (by decide) (by decide)) dL_law_1557 ?_
      have hPc := hP.sub (ws' := [(mm, .inr (11, fs_mm))]) [8] rfl
      have hDc := hD.sub (ws' := [(mm, .inr (11, fs_mm))]) [8] (by decide) rfl
      have hKc := hK.sub (tys' := []) [] rfl
      have hFc := va_free (wc := [(mm, .inr (11, fs_mm))]) hD hS hA [8] rfl
      refine va_calll (va_runV (As := [.int (xs (1 : Int32).toNatClampNeg)]) (rest := [.long (-9223372036854775808)]) ⟨hx, hb, hml, hown, hts⟩ (k_X12_off l dC dI H.size mm fs_mm (xs (1 : Int32).toNatClampNeg) hn_mm hf_mm_28) (cwV 1 hts gL0_X12_off rfl rfl rfl (by decide +kernel) ⟨Nat.le_of_ble_eq_true rfl, Nat.le_of_ble_eq_true rfl⟩) ⟨fun a U g mk q => by obtain ⟨q0, q1, qP, qK, qD⟩ := q; exact ⟨q0, q1, qP, va_K.moved (u := U) (U := U.calling g mk a) (Vm.Alike.refl U.vm) qK, qD⟩, va_recv hKc hPc (ci := 11) (q0 := 0) rfl rfl, fun U hU hW => ⟨rfl, by rw [hU], by rw [hU]; exact hPc, va_K.moved hW.alike hKc, hDc.weaken (fun _ _ _ _ => trivial)⟩⟩ rfl rfl hl.1 rfl (lv_room (Nat.le_of_ble_eq_true rfl)) dL_law_1558 ⟨Nat.le_of_ble_eq_true rfl, Nat.le_of_ble_eq_true rfl⟩) hS (fun q _ h => hFc q h) hFc (fun r_477 u t H1 locs ht hvm hw hB hz1 hk1 hS => ?_)
      obtain ⟨hP1, hK1, hD1⟩ := hB
      rw [ht] at hP1
      have hK1 := va_K.moved hvm.symm hK1
      obtain ⟨hP, hD⟩ := va_join (wr := [(rd, .inr (6, fs_rd)), (tp, .inr (9, fs_tp)), (ba, .inl (cB, 900, .inl fb)), (ra, .inr (5, [.long u0, .long w0])), (li, .inr (3, fs_li)), (ho, .inr (4, fs_ho)), (dr, .inr (3, fs_dr)), (hd, .inr (4, fs_hd)), (mb, .inl (cM, 900, .inl fM))]) (w1 := []) hP hD [8] [0, 1, 2, 3, 4, 5, 6, 7, 9] rfl rfl (by decide) (by decide) hk1 hFc hP1 hD1
      generalize H1 = H at hP hS ⊢
      have hP : va_P (dC, dI) vwCl [(rd, .inr (6, fs_rd)), (tp, .inr (9, fs_tp)), (ba, .inl (cB, 900, .inl fb)), (ra, .inr (5, [.long u0, .long w0])), (li, .inr (3, fs_li)), (ho, .inr (4, fs_ho)), (dr, .inr (3, fs_dr)), (hd, .inr (4, fs_hd)), (mb, .inl (cM, 900, .inl fM))] H := hP
      have hD : va_D A [(rd, .inr (6, fs_rd)), (tp, .inr (9, fs_tp)), (ba, .inl (cB, 900, .inl fb)), (ra, .inr (5, [.long u0, .long w0])), (li, .inr (3, fs_li)), (ho, .inr (4, fs_ho)), (dr, .inr (3, fs_dr)), (hd, .inr (4, fs_hd)), (mb, .inl (cM, 900, .inl fM))] := hD
      have er_477 : r_477 = (-9223372036854775808) := hw
      subst er_477
      refine W.lcmp hx hb dL_law_1561 ?_
      refine lv_topi (fun z_478 ez_478 => ?_)
      obtain rfl : z_478 = 0 := ez_478.trans (by decide)
      refine lv_if_eq (tgt := 1893) hx hb dL_law_1562 (by decide) (fun c_479 => ?_) (fun c_479 => ?_)
      · refine lv_iinc (v := 6) (lv' := [(4, .int 6), (3, .ref lo), (2, .ref mm), (1, .ref x), (0, .ref b)]) hx hb dL_law_1893 hl (k := 0) rfl (by decide) (by decide) rfl (fun ls hl => ?_)
        refine lv_goto (tgt := 23) hx hb dL_law_1896 (by decide) ?_
        refine lv_iload hx hb dL_law_23 (lv_at hl 0 rfl) ?_
        refine lv_aload_n hx hb dL_law_25 rfl (lv_at hl 4 rfl) ?_
        refine va_slen hx hb hX hbl hbA hS dL_law_26 ?_
        refine lv_topi (fun z_481 ez_481 => ?_)
        obtain rfl : z_481 = 6 := ez_481.trans rfl
        refine lv_bipush (v := 6) hx hb dL_law_27 (by decide) ?_
        refine lv_isub hx hb dL_law_29 ?_
        refine lv_topi (fun z_482 ez_482 => ?_)
        obtain rfl : z_482 = 0 := ez_482.trans (by decide)
        refine lv_icmp_gt (tgt := 1899) hx hb dL_law_30 (by decide) (fun c_483 => ?_) (fun c_483 => ?_)
        · refine lv_iconst (v := 1) hx hb dL_law_1899 (by decide) ?_
          refine va_forget (fun q hq => by have h9 := hS.2.2 q hq; rw [← hAe] at h9; exact h9) ?_
          refine W.widen (k := 600002) (n := 7302232) (Nat.le_of_ble_eq_true rfl) (Nat.le_of_ble_eq_true rfl) ?_
          exact lw_ret hd0 hx hb hr hlocks dL_law_1900
        · exact absurd (by decide) c_483
      · exact absurd (by decide) c_479
    by_cases c_484 : ((xs (0 : Int32).toNatClampNeg) &&& 63) = 29
    · refine lv_tableIn (tgt := 1567) hx hb dL_law_40 (by rw [c_484]; decide) (by rw [c_484]; decide) (by rw [c_484]; rfl) (by decide) ?_
      refine lv_aload_n hx hb dL_law_1567 rfl (lv_at hl 3 rfl) ?_
      have hPc := hP.sub (ws' := [(x, .inr (10, fs_x))]) [0] rfl
      have hDc := hD.sub (ws' := [(x, .inr (10, fs_x))]) [0] (by decide) rfl
      have hKc := hK.sub (tys' := []) [] rfl
      have hFc := va_free (wc := [(x, .inr (10, fs_x))]) hD hS hA [0] rfl
      refine va_calli (va_runV (As := []) (rest := []) ⟨hx, hb, hml, hown, hts⟩ (k_X11_flat l dC dI H.size x fs_x hn_x hf_x_10) (cwV 0 hts gL0_X11_flat rfl rfl rfl (by decide +kernel) ⟨Nat.le_of_ble_eq_true rfl, Nat.le_of_ble_eq_true rfl⟩) ⟨fun a U g mk q => by obtain ⟨q0, q1, qP, qK, qD⟩ := q; exact ⟨q0, q1, qP, va_K.moved (u := U) (U := U.calling g mk a) (Vm.Alike.refl U.vm) qK, qD⟩, va_recv hKc hPc (ci := 10) (q0 := 0) rfl rfl, fun U hU hW => ⟨rfl, by rw [hU], by rw [hU]; exact hPc, va_K.moved hW.alike hKc, hDc.weaken (fun _ _ _ _ => trivial)⟩⟩ rfl rfl hl.1 rfl (lv_room (Nat.le_of_ble_eq_true rfl)) dL_law_1568 ⟨Nat.le_of_ble_eq_true rfl, Nat.le_of_ble_eq_true rfl⟩) hS (fun q _ h => hFc q h) hFc (fun r_485 u t H1 locs ht hvm hw hB hz1 hk1 hS => ?_)
      obtain ⟨hP1, hK1, hD1⟩ := hB
      rw [ht] at hP1
      have hK1 := va_K.moved hvm.symm hK1
      obtain ⟨hP, hD⟩ := va_join (wr := [(rd, .inr (6, fs_rd)), (tp, .inr (9, fs_tp)), (ba, .inl (cB, 900, .inl fb)), (ra, .inr (5, [.long u0, .long w0])), (li, .inr (3, fs_li)), (ho, .inr (4, fs_ho)), (dr, .inr (3, fs_dr)), (hd, .inr (4, fs_hd)), (mm, .inr (11, fs_mm)), (mb, .inl (cM, 900, .inl fM))]) (w1 := []) hP hD [0] [1, 2, 3, 4, 5, 6, 7, 8, 9, 10] rfl rfl (by decide) (by decide) hk1 hFc hP1 hD1
      generalize H1 = H at hP hS ⊢
      have hP : va_P (dC, dI) vwCl [(rd, .inr (6, fs_rd)), (tp, .inr (9, fs_tp)), (ba, .inl (cB, 900, .inl fb)), (ra, .inr (5, [.long u0, .long w0])), (li, .inr (3, fs_li)), (ho, .inr (4, fs_ho)), (dr, .inr (3, fs_dr)), (hd, .inr (4, fs_hd)), (mm, .inr (11, fs_mm)), (mb, .inl (cM, 900, .inl fM))] H := hP
      have hD : va_D A [(rd, .inr (6, fs_rd)), (tp, .inr (9, fs_tp)), (ba, .inl (cB, 900, .inl fb)), (ra, .inr (5, [.long u0, .long w0])), (li, .inr (3, fs_li)), (ho, .inr (4, fs_ho)), (dr, .inr (3, fs_dr)), (hd, .inr (4, fs_hd)), (mm, .inr (11, fs_mm)), (mb, .inl (cM, 900, .inl fM))] := hD
      have er_485 : r_485 = (-1) := hw
      subst er_485
      refine lv_aload_n hx hb dL_law_1571 rfl (lv_at hl 2 rfl) ?_
      have hPc := hP.sub (ws' := [(mm, .inr (11, fs_mm))]) [8] rfl
      have hDc := hD.sub (ws' := [(mm, .inr (11, fs_mm))]) [8] (by decide) rfl
      have hKc := hK.sub (tys' := []) [] rfl
      have hFc := va_free (wc := [(mm, .inr (11, fs_mm))]) hD hS hA [8] rfl
      refine va_calli (va_runV (As := []) (rest := [.int (-1)]) ⟨hx, hb, hml, hown, hts⟩ (k_X12_flat l dC dI H.size mm fs_mm hn_mm hf_mm_28) (cwV 0 hts gL0_X12_flat rfl rfl rfl (by decide +kernel) ⟨Nat.le_of_ble_eq_true rfl, Nat.le_of_ble_eq_true rfl⟩) ⟨fun a U g mk q => by obtain ⟨q0, q1, qP, qK, qD⟩ := q; exact ⟨q0, q1, qP, va_K.moved (u := U) (U := U.calling g mk a) (Vm.Alike.refl U.vm) qK, qD⟩, va_recv hKc hPc (ci := 11) (q0 := 0) rfl rfl, fun U hU hW => ⟨rfl, by rw [hU], by rw [hU]; exact hPc, va_K.moved hW.alike hKc, hDc.weaken (fun _ _ _ _ => trivial)⟩⟩ rfl rfl hl.1 rfl (lv_room (Nat.le_of_ble_eq_true rfl)) dL_law_1572 ⟨Nat.le_of_ble_eq_true rfl, Nat.le_of_ble_eq_true rfl⟩) hS (fun q _ h => hFc q h) hFc (fun r_486 u t H1 locs ht hvm hw hB hz1 hk1 hS => ?_)
      obtain ⟨hP1, hK1, hD1⟩ := hB
      rw [ht] at hP1
      have hK1 := va_K.moved hvm.symm hK1
      obtain ⟨hP, hD⟩ := va_join (wr := [(rd, .inr (6, fs_rd)), (tp, .inr (9, fs_tp)), (ba, .inl (cB, 900, .inl fb)), (ra, .inr (5, [.long u0, .long w0])), (li, .inr (3, fs_li)), (ho, .inr (4, fs_ho)), (dr, .inr (3, fs_dr)), (hd, .inr (4, fs_hd)), (mb, .inl (cM, 900, .inl fM))]) (w1 := []) hP hD [8] [0, 1, 2, 3, 4, 5, 6, 7, 9] rfl rfl (by decide) (by decide) hk1 hFc hP1 hD1
      generalize H1 = H at hP hS ⊢
      have hP : va_P (dC, dI) vwCl [(rd, .inr (6, fs_rd)), (tp, .inr (9, fs_tp)), (ba, .inl (cB, 900, .inl fb)), (ra, .inr (5, [.long u0, .long w0])), (li, .inr (3, fs_li)), (ho, .inr (4, fs_ho)), (dr, .inr (3, fs_dr)), (hd, .inr (4, fs_hd)), (mb, .inl (cM, 900, .inl fM))] H := hP
      have hD : va_D A [(rd, .inr (6, fs_rd)), (tp, .inr (9, fs_tp)), (ba, .inl (cB, 900, .inl fb)), (ra, .inr (5, [.long u0, .long w0])), (li, .inr (3, fs_li)), (ho, .inr (4, fs_ho)), (dr, .inr (3, fs_dr)), (hd, .inr (4, fs_hd)), (mb, .inl (cM, 900, .inl fM))] := hD
      have er_486 : r_486 = (-1) := hw
      subst er_486
      refine lv_icmp_eq (tgt := 1893) hx hb dL_law_1575 (by decide) (fun c_487 => ?_) (fun c_487 => ?_)
      · refine lv_iinc (v := 6) (lv' := [(4, .int 6), (3, .ref lo), (2, .ref mm), (1, .ref x), (0, .ref b)]) hx hb dL_law_1893 hl (k := 0) rfl (by decide) (by decide) rfl (fun ls hl => ?_)
        refine lv_goto (tgt := 23) hx hb dL_law_1896 (by decide) ?_
        refine lv_iload hx hb dL_law_23 (lv_at hl 0 rfl) ?_
        refine lv_aload_n hx hb dL_law_25 rfl (lv_at hl 4 rfl) ?_
        refine va_slen hx hb hX hbl hbA hS dL_law_26 ?_
        refine lv_topi (fun z_489 ez_489 => ?_)
        obtain rfl : z_489 = 6 := ez_489.trans rfl
        refine lv_bipush (v := 6) hx hb dL_law_27 (by decide) ?_
        refine lv_isub hx hb dL_law_29 ?_
        refine lv_topi (fun z_490 ez_490 => ?_)
        obtain rfl : z_490 = 0 := ez_490.trans (by decide)
        refine lv_icmp_gt (tgt := 1899) hx hb dL_law_30 (by decide) (fun c_491 => ?_) (fun c_491 => ?_)
        · refine lv_iconst (v := 1) hx hb dL_law_1899 (by decide) ?_
          refine va_forget (fun q hq => by have h9 := hS.2.2 q hq; rw [← hAe] at h9; exact h9) ?_
          refine W.widen (k := 600002) (n := 7302232) (Nat.le_of_ble_eq_true rfl) (Nat.le_of_ble_eq_true rfl) ?_
          exact lw_ret hd0 hx hb hr hlocks dL_law_1900
        · exact absurd (by decide) c_491
      · exact absurd (by decide) c_487
    by_cases c_492 : ((xs (0 : Int32).toNatClampNeg) &&& 63) = 30
    · refine lv_tableIn (tgt := 1580) hx hb dL_law_40 (by rw [c_492]; decide) (by rw [c_492]; decide) (by rw [c_492]; rfl) (by decide) ?_
      refine lv_aload_n hx hb dL_law_1580 rfl (lv_at hl 3 rfl) ?_
      have hPc := hP.sub (ws' := [(x, .inr (10, fs_x))]) [0] rfl
      have hDc := hD.sub (ws' := [(x, .inr (10, fs_x))]) [0] (by decide) rfl
      have hKc := hK.sub (tys' := []) [] rfl
      have hFc := va_free (wc := [(x, .inr (10, fs_x))]) hD hS hA [0] rfl
      refine va_calli (va_runV (As := []) (rest := []) ⟨hx, hb, hml, hown, hts⟩ (k_X11_cheapest l dC dI H.size x fs_x hn_x hf_x_10) (cwV 0 hts gL0_X11_cheapest rfl rfl rfl (by decide +kernel) ⟨Nat.le_of_ble_eq_true rfl, Nat.le_of_ble_eq_true rfl⟩) ⟨fun a U g mk q => by obtain ⟨q0, q1, qP, qK, qD⟩ := q; exact ⟨q0, q1, qP, va_K.moved (u := U) (U := U.calling g mk a) (Vm.Alike.refl U.vm) qK, qD⟩, va_recv hKc hPc (ci := 10) (q0 := 0) rfl rfl, fun U hU hW => ⟨rfl, by rw [hU], by rw [hU]; exact hPc, va_K.moved hW.alike hKc, hDc.weaken (fun _ _ _ _ => trivial)⟩⟩ rfl rfl hl.1 rfl (lv_room (Nat.le_of_ble_eq_true rfl)) dL_law_1581 ⟨Nat.le_of_ble_eq_true rfl, Nat.le_of_ble_eq_true rfl⟩) hS (fun q _ h => hFc q h) hFc (fun r_493 u t H1 locs ht hvm hw hB hz1 hk1 hS => ?_)
      obtain ⟨hP1, hK1, hD1⟩ := hB
      rw [ht] at hP1
      have hK1 := va_K.moved hvm.symm hK1
      obtain ⟨hP, hD⟩ := va_join (wr := [(rd, .inr (6, fs_rd)), (tp, .inr (9, fs_tp)), (ba, .inl (cB, 900, .inl fb)), (ra, .inr (5, [.long u0, .long w0])), (li, .inr (3, fs_li)), (ho, .inr (4, fs_ho)), (dr, .inr (3, fs_dr)), (hd, .inr (4, fs_hd)), (mm, .inr (11, fs_mm)), (mb, .inl (cM, 900, .inl fM))]) (w1 := []) hP hD [0] [1, 2, 3, 4, 5, 6, 7, 8, 9, 10] rfl rfl (by decide) (by decide) hk1 hFc hP1 hD1
      generalize H1 = H at hP hS ⊢
      have hP : va_P (dC, dI) vwCl [(rd, .inr (6, fs_rd)), (tp, .inr (9, fs_tp)), (ba, .inl (cB, 900, .inl fb)), (ra, .inr (5, [.long u0, .long w0])), (li, .inr (3, fs_li)), (ho, .inr (4, fs_ho)), (dr, .inr (3, fs_dr)), (hd, .inr (4, fs_hd)), (mm, .inr (11, fs_mm)), (mb, .inl (cM, 900, .inl fM))] H := hP
      have hD : va_D A [(rd, .inr (6, fs_rd)), (tp, .inr (9, fs_tp)), (ba, .inl (cB, 900, .inl fb)), (ra, .inr (5, [.long u0, .long w0])), (li, .inr (3, fs_li)), (ho, .inr (4, fs_ho)), (dr, .inr (3, fs_dr)), (hd, .inr (4, fs_hd)), (mm, .inr (11, fs_mm)), (mb, .inl (cM, 900, .inl fM))] := hD
      have er_493 : r_493 = (-1) := hw
      subst er_493
      refine lv_aload_n hx hb dL_law_1584 rfl (lv_at hl 2 rfl) ?_
      have hPc := hP.sub (ws' := [(mm, .inr (11, fs_mm))]) [8] rfl
      have hDc := hD.sub (ws' := [(mm, .inr (11, fs_mm))]) [8] (by decide) rfl
      have hKc := hK.sub (tys' := []) [] rfl
      have hFc := va_free (wc := [(mm, .inr (11, fs_mm))]) hD hS hA [8] rfl
      refine va_calli (va_runV (As := []) (rest := [.int (-1)]) ⟨hx, hb, hml, hown, hts⟩ (k_X12_cheapest l dC dI H.size mm fs_mm hn_mm hf_mm_28) (cwV 0 hts gL0_X12_cheapest rfl rfl rfl (by decide +kernel) ⟨Nat.le_of_ble_eq_true rfl, Nat.le_of_ble_eq_true rfl⟩) ⟨fun a U g mk q => by obtain ⟨q0, q1, qP, qK, qD⟩ := q; exact ⟨q0, q1, qP, va_K.moved (u := U) (U := U.calling g mk a) (Vm.Alike.refl U.vm) qK, qD⟩, va_recv hKc hPc (ci := 11) (q0 := 0) rfl rfl, fun U hU hW => ⟨rfl, by rw [hU], by rw [hU]; exact hPc, va_K.moved hW.alike hKc, hDc.weaken (fun _ _ _ _ => trivial)⟩⟩ rfl rfl hl.1 rfl (lv_room (Nat.le_of_ble_eq_true rfl)) dL_law_1585 ⟨Nat.le_of_ble_eq_true rfl, Nat.le_of_ble_eq_true rfl⟩) hS (fun q _ h => hFc q h) hFc (fun r_494 u t H1 locs ht hvm hw hB hz1 hk1 hS => ?_)
      obtain ⟨hP1, hK1, hD1⟩ := hB
      rw [ht] at hP1
      have hK1 := va_K.moved hvm.symm hK1
      obtain ⟨hP, hD⟩ := va_join (wr := [(rd, .inr (6, fs_rd)), (tp, .inr (9, fs_tp)), (ba, .inl (cB, 900, .inl fb)), (ra, .inr (5, [.long u0, .long w0])), (li, .inr (3, fs_li)), (ho, .inr (4, fs_ho)), (dr, .inr (3, fs_dr)), (hd, .inr (4, fs_hd)), (mb, .inl (cM, 900, .inl fM))]) (w1 := []) hP hD [8] [0, 1, 2, 3, 4, 5, 6, 7, 9] rfl rfl (by decide) (by decide) hk1 hFc hP1 hD1
      generalize H1 = H at hP hS ⊢
      have hP : va_P (dC, dI) vwCl [(rd, .inr (6, fs_rd)), (tp, .inr (9, fs_tp)), (ba, .inl (cB, 900, .inl fb)), (ra, .inr (5, [.long u0, .long w0])), (li, .inr (3, fs_li)), (ho, .inr (4, fs_ho)), (dr, .inr (3, fs_dr)), (hd, .inr (4, fs_hd)), (mb, .inl (cM, 900, .inl fM))] H := hP
      have hD : va_D A [(rd, .inr (6, fs_rd)), (tp, .inr (9, fs_tp)), (ba, .inl (cB, 900, .inl fb)), (ra, .inr (5, [.long u0, .long w0])), (li, .inr (3, fs_li)), (ho, .inr (4, fs_ho)), (dr, .inr (3, fs_dr)), (hd, .inr (4, fs_hd)), (mb, .inl (cM, 900, .inl fM))] := hD
      have er_494 : r_494 = (-1) := hw
      subst er_494
      refine lv_icmp_eq (tgt := 1893) hx hb dL_law_1588 (by decide) (fun c_495 => ?_) (fun c_495 => ?_)
      · refine lv_iinc (v := 6) (lv' := [(4, .int 6), (3, .ref lo), (2, .ref mm), (1, .ref x), (0, .ref b)]) hx hb dL_law_1893 hl (k := 0) rfl (by decide) (by decide) rfl (fun ls hl => ?_)
        refine lv_goto (tgt := 23) hx hb dL_law_1896 (by decide) ?_
        refine lv_iload hx hb dL_law_23 (lv_at hl 0 rfl) ?_
        refine lv_aload_n hx hb dL_law_25 rfl (lv_at hl 4 rfl) ?_
        refine va_slen hx hb hX hbl hbA hS dL_law_26 ?_
        refine lv_topi (fun z_497 ez_497 => ?_)
        obtain rfl : z_497 = 6 := ez_497.trans rfl
        refine lv_bipush (v := 6) hx hb dL_law_27 (by decide) ?_
        refine lv_isub hx hb dL_law_29 ?_
        refine lv_topi (fun z_498 ez_498 => ?_)
        obtain rfl : z_498 = 0 := ez_498.trans (by decide)
        refine lv_icmp_gt (tgt := 1899) hx hb dL_law_30 (by decide) (fun c_499 => ?_) (fun c_499 => ?_)
        · refine lv_iconst (v := 1) hx hb dL_law_1899 (by decide) ?_
          refine va_forget (fun q hq => by have h9 := hS.2.2 q hq; rw [← hAe] at h9; exact h9) ?_
          refine W.widen (k := 600002) (n := 7302232) (Nat.le_of_ble_eq_true rfl) (Nat.le_of_ble_eq_true rfl) ?_
          exact lw_ret hd0 hx hb hr hlocks dL_law_1900
        · exact absurd (by decide) c_499
      · exact absurd (by decide) c_495
    by_cases c_500 : ((xs (0 : Int32).toNatClampNeg) &&& 63) = 31
    · refine lv_tableIn (tgt := 1593) hx hb dL_law_40 (by rw [c_500]; decide) (by rw [c_500]; decide) (by rw [c_500]; rfl) (by decide) ?_
      refine lv_aload_n hx hb dL_law_1593 rfl (lv_at hl 3 rfl) ?_
      have hPc := hP.sub (ws' := [(x, .inr (10, fs_x))]) [0] rfl
      have hDc := hD.sub (ws' := [(x, .inr (10, fs_x))]) [0] (by decide) rfl
      have hKc := hK.sub (tys' := []) [] rfl
      have hFc := va_free (wc := [(x, .inr (10, fs_x))]) hD hS hA [0] rfl
      refine va_calli (va_runV (As := []) (rest := []) ⟨hx, hb, hml, hown, hts⟩ (k_X11_now l dC dI H.size x fs_x hn_x hf_x_10) (cwV 0 hts gL0_X11_now rfl rfl rfl (by decide +kernel) ⟨Nat.le_of_ble_eq_true rfl, Nat.le_of_ble_eq_true rfl⟩) ⟨fun a U g mk q => by obtain ⟨q0, q1, qP, qK, qD⟩ := q; exact ⟨q0, q1, qP, va_K.moved (u := U) (U := U.calling g mk a) (Vm.Alike.refl U.vm) qK, qD⟩, va_recv hKc hPc (ci := 10) (q0 := 0) rfl rfl, fun U hU hW => ⟨rfl, by rw [hU], by rw [hU]; exact hPc, va_K.moved hW.alike hKc, hDc.weaken (fun _ _ _ _ => trivial)⟩⟩ rfl rfl hl.1 rfl (lv_room (Nat.le_of_ble_eq_true rfl)) dL_law_1594 ⟨Nat.le_of_ble_eq_true rfl, Nat.le_of_ble_eq_true rfl⟩) hS (fun q _ h => hFc q h) hFc (fun r_501 u t H1 locs ht hvm hw hB hz1 hk1 hS => ?_)
      obtain ⟨hP1, hK1, hD1⟩ := hB
      rw [ht] at hP1
      have hK1 := va_K.moved hvm.symm hK1
      obtain ⟨hP, hD⟩ := va_join (wr := [(rd, .inr (6, fs_rd)), (tp, .inr (9, fs_tp)), (ba, .inl (cB, 900, .inl fb)), (ra, .inr (5, [.long u0, .long w0])), (li, .inr (3, fs_li)), (ho, .inr (4, fs_ho)), (dr, .inr (3, fs_dr)), (hd, .inr (4, fs_hd)), (mm, .inr (11, fs_mm)), (mb, .inl (cM, 900, .inl fM))]) (w1 := []) hP hD [0] [1, 2, 3, 4, 5, 6, 7, 8, 9, 10] rfl rfl (by decide) (by decide) hk1 hFc hP1 hD1
      generalize H1 = H at hP hS ⊢
      have hP : va_P (dC, dI) vwCl [(rd, .inr (6, fs_rd)), (tp, .inr (9, fs_tp)), (ba, .inl (cB, 900, .inl fb)), (ra, .inr (5, [.long u0, .long w0])), (li, .inr (3, fs_li)), (ho, .inr (4, fs_ho)), (dr, .inr (3, fs_dr)), (hd, .inr (4, fs_hd)), (mm, .inr (11, fs_mm)), (mb, .inl (cM, 900, .inl fM))] H := hP
      have hD : va_D A [(rd, .inr (6, fs_rd)), (tp, .inr (9, fs_tp)), (ba, .inl (cB, 900, .inl fb)), (ra, .inr (5, [.long u0, .long w0])), (li, .inr (3, fs_li)), (ho, .inr (4, fs_ho)), (dr, .inr (3, fs_dr)), (hd, .inr (4, fs_hd)), (mm, .inr (11, fs_mm)), (mb, .inl (cM, 900, .inl fM))] := hD
      have er_501 : r_501 = (-1) := hw
      subst er_501
      refine lv_aload_n hx hb dL_law_1597 rfl (lv_at hl 2 rfl) ?_
      have hPc := hP.sub (ws' := [(mm, .inr (11, fs_mm))]) [8] rfl
      have hDc := hD.sub (ws' := [(mm, .inr (11, fs_mm))]) [8] (by decide) rfl
      have hKc := hK.sub (tys' := []) [] rfl
      have hFc := va_free (wc := [(mm, .inr (11, fs_mm))]) hD hS hA [8] rfl
      refine va_calli (va_runV (As := []) (rest := [.int (-1)]) ⟨hx, hb, hml, hown, hts⟩ (k_X12_now l dC dI H.size mm fs_mm hn_mm hf_mm_28) (cwV 0 hts gL0_X12_now rfl rfl rfl (by decide +kernel) ⟨Nat.le_of_ble_eq_true rfl, Nat.le_of_ble_eq_true rfl⟩) ⟨fun a U g mk q => by obtain ⟨q0, q1, qP, qK, qD⟩ := q; exact ⟨q0, q1, qP, va_K.moved (u := U) (U := U.calling g mk a) (Vm.Alike.refl U.vm) qK, qD⟩, va_recv hKc hPc (ci := 11) (q0 := 0) rfl rfl, fun U hU hW => ⟨rfl, by rw [hU], by rw [hU]; exact hPc, va_K.moved hW.alike hKc, hDc.weaken (fun _ _ _ _ => trivial)⟩⟩ rfl rfl hl.1 rfl (lv_room (Nat.le_of_ble_eq_true rfl)) dL_law_1598 ⟨Nat.le_of_ble_eq_true rfl, Nat.le_of_ble_eq_true rfl⟩) hS (fun q _ h => hFc q h) hFc (fun r_502 u t H1 locs ht hvm hw hB hz1 hk1 hS => ?_)
      obtain ⟨hP1, hK1, hD1⟩ := hB
      rw [ht] at hP1
      have hK1 := va_K.moved hvm.symm hK1
      obtain ⟨hP, hD⟩ := va_join (wr := [(rd, .inr (6, fs_rd)), (tp, .inr (9, fs_tp)), (ba, .inl (cB, 900, .inl fb)), (ra, .inr (5, [.long u0, .long w0])), (li, .inr (3, fs_li)), (ho, .inr (4, fs_ho)), (dr, .inr (3, fs_dr)), (hd, .inr (4, fs_hd)), (mb, .inl (cM, 900, .inl fM))]) (w1 := []) hP hD [8] [0, 1, 2, 3, 4, 5, 6, 7, 9] rfl rfl (by decide) (by decide) hk1 hFc hP1 hD1
      generalize H1 = H at hP hS ⊢
      have hP : va_P (dC, dI) vwCl [(rd, .inr (6, fs_rd)), (tp, .inr (9, fs_tp)), (ba, .inl (cB, 900, .inl fb)), (ra, .inr (5, [.long u0, .long w0])), (li, .inr (3, fs_li)), (ho, .inr (4, fs_ho)), (dr, .inr (3, fs_dr)), (hd, .inr (4, fs_hd)), (mb, .inl (cM, 900, .inl fM))] H := hP
      have hD : va_D A [(rd, .inr (6, fs_rd)), (tp, .inr (9, fs_tp)), (ba, .inl (cB, 900, .inl fb)), (ra, .inr (5, [.long u0, .long w0])), (li, .inr (3, fs_li)), (ho, .inr (4, fs_ho)), (dr, .inr (3, fs_dr)), (hd, .inr (4, fs_hd)), (mb, .inl (cM, 900, .inl fM))] := hD
      have er_502 : r_502 = (-1) := hw
      subst er_502
      refine lv_icmp_eq (tgt := 1893) hx hb dL_law_1601 (by decide) (fun c_503 => ?_) (fun c_503 => ?_)
      · refine lv_iinc (v := 6) (lv' := [(4, .int 6), (3, .ref lo), (2, .ref mm), (1, .ref x), (0, .ref b)]) hx hb dL_law_1893 hl (k := 0) rfl (by decide) (by decide) rfl (fun ls hl => ?_)
        refine lv_goto (tgt := 23) hx hb dL_law_1896 (by decide) ?_
        refine lv_iload hx hb dL_law_23 (lv_at hl 0 rfl) ?_
        refine lv_aload_n hx hb dL_law_25 rfl (lv_at hl 4 rfl) ?_
        refine va_slen hx hb hX hbl hbA hS dL_law_26 ?_
        refine lv_topi (fun z_505 ez_505 => ?_)
        obtain rfl : z_505 = 6 := ez_505.trans rfl
        refine lv_bipush (v := 6) hx hb dL_law_27 (by decide) ?_
        refine lv_isub hx hb dL_law_29 ?_
        refine lv_topi (fun z_506 ez_506 => ?_)
        obtain rfl : z_506 = 0 := ez_506.trans (by decide)
        refine lv_icmp_gt (tgt := 1899) hx hb dL_law_30 (by decide) (fun c_507 => ?_) (fun c_507 => ?_)
        · refine lv_iconst (v := 1) hx hb dL_law_1899 (by decide) ?_
          refine va_forget (fun q hq => by have h9 := hS.2.2 q hq; rw [← hAe] at h9; exact h9) ?_
          refine W.widen (k := 600002) (n := 7302232) (Nat.le_of_ble_eq_true rfl) (Nat.le_of_ble_eq_true rfl) ?_
          exact lw_ret hd0 hx hb hr hlocks dL_law_1900
        · exact absurd (by decide) c_507
      · exact absurd (by decide) c_503
    by_cases c_508 : ((xs (0 : Int32).toNatClampNeg) &&& 63) = 32
    · refine lv_tableIn (tgt := 1606) hx hb dL_law_40 (by rw [c_508]; decide) (by rw [c_508]; decide) (by rw [c_508]; rfl) (by decide) ?_
      refine lv_aload_n hx hb dL_law_1606 rfl (lv_at hl 3 rfl) ?_
      have hPc := hP.sub (ws' := [(x, .inr (10, fs_x))]) [0] rfl
      have hDc := hD.sub (ws' := [(x, .inr (10, fs_x))]) [0] (by decide) rfl
      have hKc := hK.sub (tys' := []) [] rfl
      have hFc := va_free (wc := [(x, .inr (10, fs_x))]) hD hS hA [0] rfl
      refine va_calll (va_runV (As := []) (rest := []) ⟨hx, hb, hml, hown, hts⟩ (k_X11_cash l dC dI H.size x fs_x hn_x hf_x_10) (cwV 0 hts gL0_X11_cash rfl rfl rfl (by decide +kernel) ⟨Nat.le_of_ble_eq_true rfl, Nat.le_of_ble_eq_true rfl⟩) ⟨fun a U g mk q => by obtain ⟨q0, q1, qP, qK, qD⟩ := q; exact ⟨q0, q1, qP, va_K.moved (u := U) (U := U.calling g mk a) (Vm.Alike.refl U.vm) qK, qD⟩, va_recv hKc hPc (ci := 10) (q0 := 0) rfl rfl, fun U hU hW => ⟨rfl, by rw [hU], by rw [hU]; exact hPc, va_K.moved hW.alike hKc, hDc.weaken (fun _ _ _ _ => trivial)⟩⟩ rfl rfl hl.1 rfl (lv_room (Nat.le_of_ble_eq_true rfl)) dL_law_1607 ⟨Nat.le_of_ble_eq_true rfl, Nat.le_of_ble_eq_true rfl⟩) hS (fun q _ h => hFc q h) hFc (fun r_509 u t H1 locs ht hvm hw hB hz1 hk1 hS => ?_)
      obtain ⟨hP1, hK1, hD1⟩ := hB
      rw [ht] at hP1
      have hK1 := va_K.moved hvm.symm hK1
      obtain ⟨hP, hD⟩ := va_join (wr := [(rd, .inr (6, fs_rd)), (tp, .inr (9, fs_tp)), (ba, .inl (cB, 900, .inl fb)), (ra, .inr (5, [.long u0, .long w0])), (li, .inr (3, fs_li)), (ho, .inr (4, fs_ho)), (dr, .inr (3, fs_dr)), (hd, .inr (4, fs_hd)), (mm, .inr (11, fs_mm)), (mb, .inl (cM, 900, .inl fM))]) (w1 := []) hP hD [0] [1, 2, 3, 4, 5, 6, 7, 8, 9, 10] rfl rfl (by decide) (by decide) hk1 hFc hP1 hD1
      generalize H1 = H at hP hS ⊢
      have hP : va_P (dC, dI) vwCl [(rd, .inr (6, fs_rd)), (tp, .inr (9, fs_tp)), (ba, .inl (cB, 900, .inl fb)), (ra, .inr (5, [.long u0, .long w0])), (li, .inr (3, fs_li)), (ho, .inr (4, fs_ho)), (dr, .inr (3, fs_dr)), (hd, .inr (4, fs_hd)), (mm, .inr (11, fs_mm)), (mb, .inl (cM, 900, .inl fM))] H := hP
      have hD : va_D A [(rd, .inr (6, fs_rd)), (tp, .inr (9, fs_tp)), (ba, .inl (cB, 900, .inl fb)), (ra, .inr (5, [.long u0, .long w0])), (li, .inr (3, fs_li)), (ho, .inr (4, fs_ho)), (dr, .inr (3, fs_dr)), (hd, .inr (4, fs_hd)), (mm, .inr (11, fs_mm)), (mb, .inl (cM, 900, .inl fM))] := hD
      have er_509 : r_509 = (-9223372036854775808) := hw
      subst er_509
      refine lv_aload_n hx hb dL_law_1610 rfl (lv_at hl 2 rfl) ?_
      have hPc := hP.sub (ws' := [(mm, .inr (11, fs_mm))]) [8] rfl
      have hDc := hD.sub (ws' := [(mm, .inr (11, fs_mm))]) [8] (by decide) rfl
      have hKc := hK.sub (tys' := []) [] rfl
      have hFc := va_free (wc := [(mm, .inr (11, fs_mm))]) hD hS hA [8] rfl
      refine va_calll (va_runV (As := []) (rest := [.long (-9223372036854775808)]) ⟨hx, hb, hml, hown, hts⟩ (k_X12_cash l dC dI H.size mm fs_mm hn_mm hf_mm_28) (cwV 0 hts gL0_X12_cash rfl rfl rfl (by decide +kernel) ⟨Nat.le_of_ble_eq_true rfl, Nat.le_of_ble_eq_true rfl⟩) ⟨fun a U g mk q => by obtain ⟨q0, q1, qP, qK, qD⟩ := q; exact ⟨q0, q1, qP, va_K.moved (u := U) (U := U.calling g mk a) (Vm.Alike.refl U.vm) qK, qD⟩, va_recv hKc hPc (ci := 11) (q0 := 0) rfl rfl, fun U hU hW => ⟨rfl, by rw [hU], by rw [hU]; exact hPc, va_K.moved hW.alike hKc, hDc.weaken (fun _ _ _ _ => trivial)⟩⟩ rfl rfl hl.1 rfl (lv_room (Nat.le_of_ble_eq_true rfl)) dL_law_1611 ⟨Nat.le_of_ble_eq_true rfl, Nat.le_of_ble_eq_true rfl⟩) hS (fun q _ h => hFc q h) hFc (fun r_510 u t H1 locs ht hvm hw hB hz1 hk1 hS => ?_)
      obtain ⟨hP1, hK1, hD1⟩ := hB
      rw [ht] at hP1
      have hK1 := va_K.moved hvm.symm hK1
      obtain ⟨hP, hD⟩ := va_join (wr := [(rd, .inr (6, fs_rd)), (tp, .inr (9, fs_tp)), (ba, .inl (cB, 900, .inl fb)), (ra, .inr (5, [.long u0, .long w0])), (li, .inr (3, fs_li)), (ho, .inr (4, fs_ho)), (dr, .inr (3, fs_dr)), (hd, .inr (4, fs_hd)), (mb, .inl (cM, 900, .inl fM))]) (w1 := []) hP hD [8] [0, 1, 2, 3, 4, 5, 6, 7, 9] rfl rfl (by decide) (by decide) hk1 hFc hP1 hD1
      generalize H1 = H at hP hS ⊢
      have hP : va_P (dC, dI) vwCl [(rd, .inr (6, fs_rd)), (tp, .inr (9, fs_tp)), (ba, .inl (cB, 900, .inl fb)), (ra, .inr (5, [.long u0, .long w0])), (li, .inr (3, fs_li)), (ho, .inr (4, fs_ho)), (dr, .inr (3, fs_dr)), (hd, .inr (4, fs_hd)), (mb, .inl (cM, 900, .inl fM))] H := hP
      have hD : va_D A [(rd, .inr (6, fs_rd)), (tp, .inr (9, fs_tp)), (ba, .inl (cB, 900, .inl fb)), (ra, .inr (5, [.long u0, .long w0])), (li, .inr (3, fs_li)), (ho, .inr (4, fs_ho)), (dr, .inr (3, fs_dr)), (hd, .inr (4, fs_hd)), (mb, .inl (cM, 900, .inl fM))] := hD
      have er_510 : r_510 = (-9223372036854775808) := hw
      subst er_510
      refine W.lcmp hx hb dL_law_1614 ?_
      refine lv_topi (fun z_511 ez_511 => ?_)
      obtain rfl : z_511 = 0 := ez_511.trans (by decide)
      refine lv_if_eq (tgt := 1893) hx hb dL_law_1615 (by decide) (fun c_512 => ?_) (fun c_512 => ?_)
      · refine lv_iinc (v := 6) (lv' := [(4, .int 6), (3, .ref lo), (2, .ref mm), (1, .ref x), (0, .ref b)]) hx hb dL_law_1893 hl (k := 0) rfl (by decide) (by decide) rfl (fun ls hl => ?_)
        refine lv_goto (tgt := 23) hx hb dL_law_1896 (by decide) ?_
        refine lv_iload hx hb dL_law_23 (lv_at hl 0 rfl) ?_
        refine lv_aload_n hx hb dL_law_25 rfl (lv_at hl 4 rfl) ?_
        refine va_slen hx hb hX hbl hbA hS dL_law_26 ?_
        refine lv_topi (fun z_514 ez_514 => ?_)
        obtain rfl : z_514 = 6 := ez_514.trans rfl
        refine lv_bipush (v := 6) hx hb dL_law_27 (by decide) ?_
        refine lv_isub hx hb dL_law_29 ?_
        refine lv_topi (fun z_515 ez_515 => ?_)
        obtain rfl : z_515 = 0 := ez_515.trans (by decide)
        refine lv_icmp_gt (tgt := 1899) hx hb dL_law_30 (by decide) (fun c_516 => ?_) (fun c_516 => ?_)
        · refine lv_iconst (v := 1) hx hb dL_law_1899 (by decide) ?_
          refine va_forget (fun q hq => by have h9 := hS.2.2 q hq; rw [← hAe] at h9; exact h9) ?_
          refine W.widen (k := 600002) (n := 7302232) (Nat.le_of_ble_eq_true rfl) (Nat.le_of_ble_eq_true rfl) ?_
          exact lw_ret hd0 hx hb hr hlocks dL_law_1900
        · exact absurd (by decide) c_516
      · exact absurd (by decide) c_512
    by_cases c_517 : ((xs (0 : Int32).toNatClampNeg) &&& 63) = 33
    · refine lv_tableIn (tgt := 1620) hx hb dL_law_40 (by rw [c_517]; decide) (by rw [c_517]; decide) (by rw [c_517]; rfl) (by decide) ?_
      refine lv_aload_n hx hb dL_law_1620 rfl (lv_at hl 3 rfl) ?_
      refine lv_aload_n hx hb dL_law_1621 rfl (lv_at hl 4 rfl) ?_
      refine lv_iload hx hb dL_law_1622 (lv_at hl 0 rfl) ?_
      refine lv_iconst (v := 1) hx hb dL_law_1624 (by decide) ?_
      refine lv_iadd hx hb dL_law_1625 ?_
      refine lv_topi (fun z_518 ez_518 => ?_)
      obtain rfl : z_518 = 1 := ez_518.trans (by decide)
      refine va_sld hx hb hX hbl hbA hS (vp_in_nI (n := 1) (by decide) (by decide)) dL_law_1626 ?_
      have hPc := hP.sub (ws' := [(x, .inr (10, fs_x)), (rd, .inr (6, fs_rd)), (tp, .inr (9, fs_tp)), (ra, .inr (5, [.long u0, .long w0])), (li, .inr (3, fs_li)), (ho, .inr (4, fs_ho)), (dr, .inr (3, fs_dr)), (hd, .inr (4, fs_hd))]) [0, 1, 2, 4, 5, 6, 7, 8] rfl
      have hDc := hD.sub (ws' := [(x, .inr (10, fs_x)), (rd, .inr (6, fs_rd)), (tp, .inr (9, fs_tp)), (ra, .inr (5, [.long u0, .long w0])), (li, .inr (3, fs_li)), (ho, .inr (4, fs_ho)), (dr, .inr (3, fs_dr)), (hd, .inr (4, fs_hd))]) [0, 1, 2, 4, 5, 6, 7, 8] (by decide) rfl
      have hKc := hK.sub (tys' := []) [] rfl
      have hFc := va_free (wc := [(x, .inr (10, fs_x)), (rd, .inr (6, fs_rd)), (tp, .inr (9, fs_tp)), (ra, .inr (5, [.long u0, .long w0])), (li, .inr (3, fs_li)), (ho, .inr (4, fs_ho)), (dr, .inr (3, fs_dr)), (hd, .inr (4, fs_hd))]) hD hS hA [0, 1, 2, 4, 5, 6, 7, 8] rfl
      refine va_calli (va_runV (As := [.int (xs (1 : Int32).toNatClampNeg)]) (rest := []) ⟨hx, hb, hml, hown, hts⟩ (k_X11_holding l dC dI H.size x fs_x rd fs_rd tp fs_tp ra [.long u0, .long w0] li fs_li ho fs_ho dr fs_dr hd fs_hd (xs (1 : Int32).toNatClampNeg) hn_x hf_x_0 hf_x_3 hf_x_8 hf_x_9 hf_x_10 hn_rd hf_rd_0 hn_tp rfl hn_li hf_li_2 hn_ho hn_dr hf_dr_2 hn_hd) (cwV 1 hts gL0_X11_holding rfl rfl rfl (by decide +kernel) ⟨Nat.le_of_ble_eq_true rfl, Nat.le_of_ble_eq_true rfl⟩) ⟨fun a U g mk q => by obtain ⟨q0, q1, qP, qK, qD⟩ := q; exact ⟨q0, q1, qP, va_K.moved (u := U) (U := U.calling g mk a) (Vm.Alike.refl U.vm) qK, qD⟩, va_recv hKc hPc (ci := 10) (q0 := 0) rfl rfl, fun U hU hW => ⟨rfl, by rw [hU], by rw [hU]; exact hPc, va_K.moved hW.alike hKc, hDc.weaken (fun _ _ _ _ => trivial)⟩⟩ rfl rfl hl.1 rfl (lv_room (Nat.le_of_ble_eq_true rfl)) dL_law_1627 ⟨Nat.le_of_ble_eq_true rfl, Nat.le_of_ble_eq_true rfl⟩) hS (fun q _ h => hFc q h) hFc (fun r_519 u t H1 locs ht hvm hw hB hz1 hk1 hS => ?_)
      obtain ⟨hP1, hK1, hD1⟩ := hB
      rw [ht] at hP1
      have hK1 := va_K.moved hvm.symm hK1
      obtain ⟨hP, hD⟩ := va_join (wr := [(ba, .inl (cB, 900, .inl fb)), (mm, .inr (11, fs_mm)), (mb, .inl (cM, 900, .inl fM))]) (w1 := []) hP hD [0, 1, 2, 4, 5, 6, 7, 8] [3, 9, 10] rfl rfl (by decide) (by decide) hk1 hFc hP1 hD1
      generalize H1 = H at hP hS ⊢
      have hP : va_P (dC, dI) vwCl [(ba, .inl (cB, 900, .inl fb)), (mm, .inr (11, fs_mm)), (mb, .inl (cM, 900, .inl fM))] H := hP
      have hD : va_D A [(ba, .inl (cB, 900, .inl fb)), (mm, .inr (11, fs_mm)), (mb, .inl (cM, 900, .inl fM))] := hD
      have er_519 : r_519 = (-1) := hw
      subst er_519
      refine lv_aload_n hx hb dL_law_1630 rfl (lv_at hl 2 rfl) ?_
      refine lv_aload_n hx hb dL_law_1631 rfl (lv_at hl 4 rfl) ?_
      refine lv_iload hx hb dL_law_1632 (lv_at hl 0 rfl) ?_
      refine lv_iconst (v := 1) hx hb dL_law_1634 (by decide) ?_
      refine lv_iadd hx hb dL_law_1635 ?_
      refine lv_topi (fun z_520 ez_520 => ?_)
      obtain rfl : z_520 = 1 := ez_520.trans (by decide)
      refine va_sld hx hb hX hbl hbA hS (vp_in_nI (n := 1) (by decide) (by decide)) dL_law_1636 ?_
      have hPc := hP.sub (ws' := [(mm, .inr (11, fs_mm))]) [1] rfl
      have hDc := hD.sub (ws' := [(mm, .inr (11, fs_mm))]) [1] (by decide) rfl
      have hKc := hK.sub (tys' := []) [] rfl
      have hFc := va_free (wc := [(mm, .inr (11, fs_mm))]) hD hS hA [1] rfl
      refine va_calli (va_runV (As := [.int (xs (1 : Int32).toNatClampNeg)]) (rest := [.int (-1)]) ⟨hx, hb, hml, hown, hts⟩ (k_X12_holding l dC dI H.size mm fs_mm (xs (1 : Int32).toNatClampNeg) hn_mm hf_mm_20) (cwV 1 hts gL0_X12_holding rfl rfl rfl (by decide +kernel) ⟨Nat.le_of_ble_eq_true rfl, Nat.le_of_ble_eq_true rfl⟩) ⟨fun a U g mk q => by obtain ⟨q0, q1, qP, qK, qD⟩ := q; exact ⟨q0, q1, qP, va_K.moved (u := U) (U := U.calling g mk a) (Vm.Alike.refl U.vm) qK, qD⟩, va_recv hKc hPc (ci := 11) (q0 := 0) rfl rfl, fun U hU hW => ⟨rfl, by rw [hU], by rw [hU]; exact hPc, va_K.moved hW.alike hKc, hDc.weaken (fun _ _ _ _ => trivial)⟩⟩ rfl rfl hl.1 rfl (lv_room (Nat.le_of_ble_eq_true rfl)) dL_law_1637 ⟨Nat.le_of_ble_eq_true rfl, Nat.le_of_ble_eq_true rfl⟩) hS (fun q _ h => hFc q h) hFc (fun r_521 u t H1 locs ht hvm hw hB hz1 hk1 hS => ?_)
      obtain ⟨hP1, hK1, hD1⟩ := hB
      rw [ht] at hP1
      have hK1 := va_K.moved hvm.symm hK1
      obtain ⟨hP, hD⟩ := va_join (wr := [(ba, .inl (cB, 900, .inl fb)), (mb, .inl (cM, 900, .inl fM))]) (w1 := []) hP hD [1] [0, 2] rfl rfl (by decide) (by decide) hk1 hFc hP1 hD1
      generalize H1 = H at hP hS ⊢
      have hP : va_P (dC, dI) vwCl [(ba, .inl (cB, 900, .inl fb)), (mb, .inl (cM, 900, .inl fM))] H := hP
      have hD : va_D A [(ba, .inl (cB, 900, .inl fb)), (mb, .inl (cM, 900, .inl fM))] := hD
      have er_521 : r_521 = (-1) := hw
      subst er_521
      refine lv_icmp_eq (tgt := 1893) hx hb dL_law_1640 (by decide) (fun c_522 => ?_) (fun c_522 => ?_)
      · refine lv_iinc (v := 6) (lv' := [(4, .int 6), (3, .ref lo), (2, .ref mm), (1, .ref x), (0, .ref b)]) hx hb dL_law_1893 hl (k := 0) rfl (by decide) (by decide) rfl (fun ls hl => ?_)
        refine lv_goto (tgt := 23) hx hb dL_law_1896 (by decide) ?_
        refine lv_iload hx hb dL_law_23 (lv_at hl 0 rfl) ?_
        refine lv_aload_n hx hb dL_law_25 rfl (lv_at hl 4 rfl) ?_
        refine va_slen hx hb hX hbl hbA hS dL_law_26 ?_
        refine lv_topi (fun z_524 ez_524 => ?_)
        obtain rfl : z_524 = 6 := ez_524.trans rfl
        refine lv_bipush (v := 6) hx hb dL_law_27 (by decide) ?_
        refine lv_isub hx hb dL_law_29 ?_
        refine lv_topi (fun z_525 ez_525 => ?_)
        obtain rfl : z_525 = 0 := ez_525.trans (by decide)
        refine lv_icmp_gt (tgt := 1899) hx hb dL_law_30 (by decide) (fun c_526 => ?_) (fun c_526 => ?_)
        · refine lv_iconst (v := 1) hx hb dL_law_1899 (by decide) ?_
          refine va_forget (fun q hq => by have h9 := hS.2.2 q hq; rw [← hAe] at h9; exact h9) ?_
          refine W.widen (k := 600002) (n := 7302232) (Nat.le_of_ble_eq_true rfl) (Nat.le_of_ble_eq_true rfl) ?_
          exact lw_ret hd0 hx hb hr hlocks dL_law_1900
        · exact absurd (by decide) c_526
      · exact absurd (by decide) c_522
    by_cases c_527 : ((xs (0 : Int32).toNatClampNeg) &&& 63) = 34
    · refine lv_tableIn (tgt := 1645) hx hb dL_law_40 (by rw [c_527]; decide) (by rw [c_527]; decide) (by rw [c_527]; rfl) (by decide) ?_
      refine lv_aload_n hx hb dL_law_1645 rfl (lv_at hl 3 rfl) ?_
      refine lv_aload_n hx hb dL_law_1646 rfl (lv_at hl 4 rfl) ?_
      refine lv_iload hx hb dL_law_1647 (lv_at hl 0 rfl) ?_
      refine lv_iconst (v := 1) hx hb dL_law_1649 (by decide) ?_
      refine lv_iadd hx hb dL_law_1650 ?_
      refine lv_topi (fun z_528 ez_528 => ?_)
      obtain rfl : z_528 = 1 := ez_528.trans (by decide)
      refine va_sld hx hb hX hbl hbA hS (vp_in_nI (n := 1) (by decide) (by decide)) dL_law_1651 ?_
      have hPc := hP.sub (ws' := [(x, .inr (10, fs_x))]) [0] rfl
      have hDc := hD.sub (ws' := [(x, .inr (10, fs_x))]) [0] (by decide) rfl
      have hKc := hK.sub (tys' := []) [] rfl
      have hFc := va_free (wc := [(x, .inr (10, fs_x))]) hD hS hA [0] rfl
      refine va_calll (va_runV (As := [.int (xs (1 : Int32).toNatClampNeg)]) (rest := []) ⟨hx, hb, hml, hown, hts⟩ (k_X11_worth l dC dI H.size x fs_x (xs (1 : Int32).toNatClampNeg) hn_x hf_x_10) (cwV 1 hts gL0_X11_worth rfl rfl rfl (by decide +kernel) ⟨Nat.le_of_ble_eq_true rfl, Nat.le_of_ble_eq_true rfl⟩) ⟨fun a U g mk q => by obtain ⟨q0, q1, qP, qK, qD⟩ := q; exact ⟨q0, q1, qP, va_K.moved (u := U) (U := U.calling g mk a) (Vm.Alike.refl U.vm) qK, qD⟩, va_recv hKc hPc (ci := 10) (q0 := 0) rfl rfl, fun U hU hW => ⟨rfl, by rw [hU], by rw [hU]; exact hPc, va_K.moved hW.alike hKc, hDc.weaken (fun _ _ _ _ => trivial)⟩⟩ rfl rfl hl.1 rfl (lv_room (Nat.le_of_ble_eq_true rfl)) dL_law_1652 ⟨Nat.le_of_ble_eq_true rfl, Nat.le_of_ble_eq_true rfl⟩) hS (fun q _ h => hFc q h) hFc (fun r_529 u t H1 locs ht hvm hw hB hz1 hk1 hS => ?_)
      obtain ⟨hP1, hK1, hD1⟩ := hB
      rw [ht] at hP1
      have hK1 := va_K.moved hvm.symm hK1
      obtain ⟨hP, hD⟩ := va_join (wr := [(rd, .inr (6, fs_rd)), (tp, .inr (9, fs_tp)), (ba, .inl (cB, 900, .inl fb)), (ra, .inr (5, [.long u0, .long w0])), (li, .inr (3, fs_li)), (ho, .inr (4, fs_ho)), (dr, .inr (3, fs_dr)), (hd, .inr (4, fs_hd)), (mm, .inr (11, fs_mm)), (mb, .inl (cM, 900, .inl fM))]) (w1 := []) hP hD [0] [1, 2, 3, 4, 5, 6, 7, 8, 9, 10] rfl rfl (by decide) (by decide) hk1 hFc hP1 hD1
      generalize H1 = H at hP hS ⊢
      have hP : va_P (dC, dI) vwCl [(rd, .inr (6, fs_rd)), (tp, .inr (9, fs_tp)), (ba, .inl (cB, 900, .inl fb)), (ra, .inr (5, [.long u0, .long w0])), (li, .inr (3, fs_li)), (ho, .inr (4, fs_ho)), (dr, .inr (3, fs_dr)), (hd, .inr (4, fs_hd)), (mm, .inr (11, fs_mm)), (mb, .inl (cM, 900, .inl fM))] H := hP
      have hD : va_D A [(rd, .inr (6, fs_rd)), (tp, .inr (9, fs_tp)), (ba, .inl (cB, 900, .inl fb)), (ra, .inr (5, [.long u0, .long w0])), (li, .inr (3, fs_li)), (ho, .inr (4, fs_ho)), (dr, .inr (3, fs_dr)), (hd, .inr (4, fs_hd)), (mm, .inr (11, fs_mm)), (mb, .inl (cM, 900, .inl fM))] := hD
      have er_529 : r_529 = (-9223372036854775808) := hw
      subst er_529
      refine lv_aload_n hx hb dL_law_1655 rfl (lv_at hl 2 rfl) ?_
      refine lv_aload_n hx hb dL_law_1656 rfl (lv_at hl 4 rfl) ?_
      refine lv_iload hx hb dL_law_1657 (lv_at hl 0 rfl) ?_
      refine lv_iconst (v := 1) hx hb dL_law_1659 (by decide) ?_
      refine lv_iadd hx hb dL_law_1660 ?_
      refine lv_topi (fun z_530 ez_530 => ?_)
      obtain rfl : z_530 = 1 := ez_530.trans (by decide)
      refine va_sld hx hb hX hbl hbA hS (vp_in_nI (n := 1) (by decide) (by decide)) dL_law_1661 ?_
      have hPc := hP.sub (ws' := [(mm, .inr (11, fs_mm))]) [8] rfl
      have hDc := hD.sub (ws' := [(mm, .inr (11, fs_mm))]) [8] (by decide) rfl
      have hKc := hK.sub (tys' := []) [] rfl
      have hFc := va_free (wc := [(mm, .inr (11, fs_mm))]) hD hS hA [8] rfl
      refine va_calll (va_runV (As := [.int (xs (1 : Int32).toNatClampNeg)]) (rest := [.long (-9223372036854775808)]) ⟨hx, hb, hml, hown, hts⟩ (k_X12_worth l dC dI H.size mm fs_mm (xs (1 : Int32).toNatClampNeg) hn_mm hf_mm_28) (cwV 1 hts gL0_X12_worth rfl rfl rfl (by decide +kernel) ⟨Nat.le_of_ble_eq_true rfl, Nat.le_of_ble_eq_true rfl⟩) ⟨fun a U g mk q => by obtain ⟨q0, q1, qP, qK, qD⟩ := q; exact ⟨q0, q1, qP, va_K.moved (u := U) (U := U.calling g mk a) (Vm.Alike.refl U.vm) qK, qD⟩, va_recv hKc hPc (ci := 11) (q0 := 0) rfl rfl, fun U hU hW => ⟨rfl, by rw [hU], by rw [hU]; exact hPc, va_K.moved hW.alike hKc, hDc.weaken (fun _ _ _ _ => trivial)⟩⟩ rfl rfl hl.1 rfl (lv_room (Nat.le_of_ble_eq_true rfl)) dL_law_1662 ⟨Nat.le_of_ble_eq_true rfl, Nat.le_of_ble_eq_true rfl⟩) hS (fun q _ h => hFc q h) hFc (fun r_531 u t H1 locs ht hvm hw hB hz1 hk1 hS => ?_)
      obtain ⟨hP1, hK1, hD1⟩ := hB
      rw [ht] at hP1
      have hK1 := va_K.moved hvm.symm hK1
      obtain ⟨hP, hD⟩ := va_join (wr := [(rd, .inr (6, fs_rd)), (tp, .inr (9, fs_tp)), (ba, .inl (cB, 900, .inl fb)), (ra, .inr (5, [.long u0, .long w0])), (li, .inr (3, fs_li)), (ho, .inr (4, fs_ho)), (dr, .inr (3, fs_dr)), (hd, .inr (4, fs_hd)), (mb, .inl (cM, 900, .inl fM))]) (w1 := []) hP hD [8] [0, 1, 2, 3, 4, 5, 6, 7, 9] rfl rfl (by decide) (by decide) hk1 hFc hP1 hD1
      generalize H1 = H at hP hS ⊢
      have hP : va_P (dC, dI) vwCl [(rd, .inr (6, fs_rd)), (tp, .inr (9, fs_tp)), (ba, .inl (cB, 900, .inl fb)), (ra, .inr (5, [.long u0, .long w0])), (li, .inr (3, fs_li)), (ho, .inr (4, fs_ho)), (dr, .inr (3, fs_dr)), (hd, .inr (4, fs_hd)), (mb, .inl (cM, 900, .inl fM))] H := hP
      have hD : va_D A [(rd, .inr (6, fs_rd)), (tp, .inr (9, fs_tp)), (ba, .inl (cB, 900, .inl fb)), (ra, .inr (5, [.long u0, .long w0])), (li, .inr (3, fs_li)), (ho, .inr (4, fs_ho)), (dr, .inr (3, fs_dr)), (hd, .inr (4, fs_hd)), (mb, .inl (cM, 900, .inl fM))] := hD
      have er_531 : r_531 = (-9223372036854775808) := hw
      subst er_531
      refine W.lcmp hx hb dL_law_1665 ?_
      refine lv_topi (fun z_532 ez_532 => ?_)
      obtain rfl : z_532 = 0 := ez_532.trans (by decide)
      refine lv_if_eq (tgt := 1893) hx hb dL_law_1666 (by decide) (fun c_533 => ?_) (fun c_533 => ?_)
      · refine lv_iinc (v := 6) (lv' := [(4, .int 6), (3, .ref lo), (2, .ref mm), (1, .ref x), (0, .ref b)]) hx hb dL_law_1893 hl (k := 0) rfl (by decide) (by decide) rfl (fun ls hl => ?_)
        refine lv_goto (tgt := 23) hx hb dL_law_1896 (by decide) ?_
        refine lv_iload hx hb dL_law_23 (lv_at hl 0 rfl) ?_
        refine lv_aload_n hx hb dL_law_25 rfl (lv_at hl 4 rfl) ?_
        refine va_slen hx hb hX hbl hbA hS dL_law_26 ?_
        refine lv_topi (fun z_535 ez_535 => ?_)
        obtain rfl : z_535 = 6 := ez_535.trans rfl
        refine lv_bipush (v := 6) hx hb dL_law_27 (by decide) ?_
        refine lv_isub hx hb dL_law_29 ?_
        refine lv_topi (fun z_536 ez_536 => ?_)
        obtain rfl : z_536 = 0 := ez_536.trans (by decide)
        refine lv_icmp_gt (tgt := 1899) hx hb dL_law_30 (by decide) (fun c_537 => ?_) (fun c_537 => ?_)
        · refine lv_iconst (v := 1) hx hb dL_law_1899 (by decide) ?_
          refine va_forget (fun q hq => by have h9 := hS.2.2 q hq; rw [← hAe] at h9; exact h9) ?_
          refine W.widen (k := 600002) (n := 7302232) (Nat.le_of_ble_eq_true rfl) (Nat.le_of_ble_eq_true rfl) ?_
          exact lw_ret hd0 hx hb hr hlocks dL_law_1900
        · exact absurd (by decide) c_537
      · exact absurd (by decide) c_533
    by_cases c_538 : ((xs (0 : Int32).toNatClampNeg) &&& 63) = 35
    · refine lv_tableIn (tgt := 1671) hx hb dL_law_40 (by rw [c_538]; decide) (by rw [c_538]; decide) (by rw [c_538]; rfl) (by decide) ?_
      refine lv_aload_n hx hb dL_law_1671 rfl (lv_at hl 3 rfl) ?_
      refine lv_aload_n hx hb dL_law_1672 rfl (lv_at hl 4 rfl) ?_
      refine lv_iload hx hb dL_law_1673 (lv_at hl 0 rfl) ?_
      refine lv_iconst (v := 1) hx hb dL_law_1675 (by decide) ?_
      refine lv_iadd hx hb dL_law_1676 ?_
      refine lv_topi (fun z_539 ez_539 => ?_)
      obtain rfl : z_539 = 1 := ez_539.trans (by decide)
      refine va_sld hx hb hX hbl hbA hS (vp_in_nI (n := 1) (by decide) (by decide)) dL_law_1677 ?_
      refine lv_aload_n hx hb dL_law_1678 rfl (lv_at hl 4 rfl) ?_
      refine lv_iload hx hb dL_law_1679 (lv_at hl 0 rfl) ?_
      refine lv_iconst (v := 2) hx hb dL_law_1681 (by decide) ?_
      refine lv_iadd hx hb dL_law_1682 ?_
      refine lv_topi (fun z_540 ez_540 => ?_)
      obtain rfl : z_540 = 2 := ez_540.trans (by decide)
      refine va_sld hx hb hX hbl hbA hS (vp_in_nI (n := 2) (by decide) (by decide)) dL_law_1683 ?_
      refine lv_aload_n hx hb dL_law_1684 rfl (lv_at hl 4 rfl) ?_
      refine lv_iload hx hb dL_law_1685 (lv_at hl 0 rfl) ?_
      refine lv_iconst (v := 3) hx hb dL_law_1687 (by decide) ?_
      refine lv_iadd hx hb dL_law_1688 ?_
      refine lv_topi (fun z_541 ez_541 => ?_)
      obtain rfl : z_541 = 3 := ez_541.trans (by decide)
      refine va_sld hx hb hX hbl hbA hS (vp_in_nI (n := 3) (by decide) (by decide)) dL_law_1689 ?_
      have hPc := hP.sub (ws' := [(x, .inr (10, fs_x)), (rd, .inr (6, fs_rd)), (tp, .inr (9, fs_tp)), (ra, .inr (5, [.long u0, .long w0])), (li, .inr (3, fs_li)), (ho, .inr (4, fs_ho)), (dr, .inr (3, fs_dr)), (hd, .inr (4, fs_hd))]) [0, 1, 2, 4, 5, 6, 7, 8] rfl
      have hDc := hD.sub (ws' := [(x, .inr (10, fs_x)), (rd, .inr (6, fs_rd)), (tp, .inr (9, fs_tp)), (ra, .inr (5, [.long u0, .long w0])), (li, .inr (3, fs_li)), (ho, .inr (4, fs_ho)), (dr, .inr (3, fs_dr)), (hd, .inr (4, fs_hd))]) [0, 1, 2, 4, 5, 6, 7, 8] (by decide) rfl
      have hKc := hK.sub (tys' := []) [] rfl
      have hFc := va_free (wc := [(x, .inr (10, fs_x)), (rd, .inr (6, fs_rd)), (tp, .inr (9, fs_tp)), (ra, .inr (5, [.long u0, .long w0])), (li, .inr (3, fs_li)), (ho, .inr (4, fs_ho)), (dr, .inr (3, fs_dr)), (hd, .inr (4, fs_hd))]) hD hS hA [0, 1, 2, 4, 5, 6, 7, 8] rfl
      refine va_calll (va_runV (As := [.int (xs (1 : Int32).toNatClampNeg), .int (xs (2 : Int32).toNatClampNeg), .int (xs (3 : Int32).toNatClampNeg)]) (rest := []) ⟨hx, hb, hml, hown, hts⟩ (k_X11_deal l dC dI H.size x fs_x rd fs_rd tp fs_tp ra [.long u0, .long w0] li fs_li ho fs_ho dr fs_dr hd fs_hd (xs (1 : Int32).toNatClampNeg) (xs (2 : Int32).toNatClampNeg) (xs (3 : Int32).toNatClampNeg) hn_x hf_x_0 hf_x_3 hf_x_8 hf_x_9 hf_x_10 hn_rd hf_rd_0 hn_tp rfl hn_li hf_li_2 hn_ho hn_dr hf_dr_2 hn_hd) (cwV 3 hts gL0_X11_deal rfl rfl rfl (by decide +kernel) ⟨Nat.le_of_ble_eq_true rfl, Nat.le_of_ble_eq_true rfl⟩) ⟨fun a U g mk q => by obtain ⟨q0, q1, qP, qK, qD⟩ := q; exact ⟨q0, q1, qP, va_K.moved (u := U) (U := U.calling g mk a) (Vm.Alike.refl U.vm) qK, qD⟩, va_recv hKc hPc (ci := 10) (q0 := 0) rfl rfl, fun U hU hW => ⟨rfl, by rw [hU], by rw [hU]; exact hPc, va_K.moved hW.alike hKc, hDc.weaken (fun _ _ _ _ => trivial)⟩⟩ rfl rfl hl.1 rfl (lv_room (Nat.le_of_ble_eq_true rfl)) dL_law_1690 ⟨Nat.le_of_ble_eq_true rfl, Nat.le_of_ble_eq_true rfl⟩) hS (fun q _ h => hFc q h) hFc (fun r_542 u t H1 locs ht hvm hw hB hz1 hk1 hS => ?_)
      obtain ⟨hP1, hK1, hD1⟩ := hB
      rw [ht] at hP1
      have hK1 := va_K.moved hvm.symm hK1
      obtain ⟨hP, hD⟩ := va_join (wr := [(ba, .inl (cB, 900, .inl fb)), (mm, .inr (11, fs_mm)), (mb, .inl (cM, 900, .inl fM))]) (w1 := []) hP hD [0, 1, 2, 4, 5, 6, 7, 8] [3, 9, 10] rfl rfl (by decide) (by decide) hk1 hFc hP1 hD1
      generalize H1 = H at hP hS ⊢
      have hP : va_P (dC, dI) vwCl [(ba, .inl (cB, 900, .inl fb)), (mm, .inr (11, fs_mm)), (mb, .inl (cM, 900, .inl fM))] H := hP
      have hD : va_D A [(ba, .inl (cB, 900, .inl fb)), (mm, .inr (11, fs_mm)), (mb, .inl (cM, 900, .inl fM))] := hD
      have er_542 : r_542 = (-9223372036854775808) := hw
      subst er_542
      refine lv_aload_n hx hb dL_law_1693 rfl (lv_at hl 2 rfl) ?_
      refine lv_aload_n hx hb dL_law_1694 rfl (lv_at hl 4 rfl) ?_
      refine lv_iload hx hb dL_law_1695 (lv_at hl 0 rfl) ?_
      refine lv_iconst (v := 1) hx hb dL_law_1697 (by decide) ?_
      refine lv_iadd hx hb dL_law_1698 ?_
      refine lv_topi (fun z_543 ez_543 => ?_)
      obtain rfl : z_543 = 1 := ez_543.trans (by decide)
      refine va_sld hx hb hX hbl hbA hS (vp_in_nI (n := 1) (by decide) (by decide)) dL_law_1699 ?_
      refine lv_aload_n hx hb dL_law_1700 rfl (lv_at hl 4 rfl) ?_
      refine lv_iload hx hb dL_law_1701 (lv_at hl 0 rfl) ?_
      refine lv_iconst (v := 2) hx hb dL_law_1703 (by decide) ?_
      refine lv_iadd hx hb dL_law_1704 ?_
      refine lv_topi (fun z_544 ez_544 => ?_)
      obtain rfl : z_544 = 2 := ez_544.trans (by decide)
      refine va_sld hx hb hX hbl hbA hS (vp_in_nI (n := 2) (by decide) (by decide)) dL_law_1705 ?_
      refine lv_aload_n hx hb dL_law_1706 rfl (lv_at hl 4 rfl) ?_
      refine lv_iload hx hb dL_law_1707 (lv_at hl 0 rfl) ?_
      refine lv_iconst (v := 3) hx hb dL_law_1709 (by decide) ?_
      refine lv_iadd hx hb dL_law_1710 ?_
      refine lv_topi (fun z_545 ez_545 => ?_)
      obtain rfl : z_545 = 3 := ez_545.trans (by decide)
      refine va_sld hx hb hX hbl hbA hS (vp_in_nI (n := 3) (by decide) (by decide)) dL_law_1711 ?_
      have hPc := hP.sub (ws' := [(mm, .inr (11, fs_mm))]) [1] rfl
      have hDc := hD.sub (ws' := [(mm, .inr (11, fs_mm))]) [1] (by decide) rfl
      have hKc := hK.sub (tys' := []) [] rfl
      have hFc := va_free (wc := [(mm, .inr (11, fs_mm))]) hD hS hA [1] rfl
      refine va_calll (va_runV (As := [.int (xs (1 : Int32).toNatClampNeg), .int (xs (2 : Int32).toNatClampNeg), .int (xs (3 : Int32).toNatClampNeg)]) (rest := [.long (-9223372036854775808)]) ⟨hx, hb, hml, hown, hts⟩ (k_X12_deal l dC dI H.size mm fs_mm (xs (1 : Int32).toNatClampNeg) (xs (2 : Int32).toNatClampNeg) (xs (3 : Int32).toNatClampNeg) hn_mm hf_mm_20) (cwV 3 hts gL0_X12_deal rfl rfl rfl (by decide +kernel) ⟨Nat.le_of_ble_eq_true rfl, Nat.le_of_ble_eq_true rfl⟩) ⟨fun a U g mk q => by obtain ⟨q0, q1, qP, qK, qD⟩ := q; exact ⟨q0, q1, qP, va_K.moved (u := U) (U := U.calling g mk a) (Vm.Alike.refl U.vm) qK, qD⟩, va_recv hKc hPc (ci := 11) (q0 := 0) rfl rfl, fun U hU hW => ⟨rfl, by rw [hU], by rw [hU]; exact hPc, va_K.moved hW.alike hKc, hDc.weaken (fun _ _ _ _ => trivial)⟩⟩ rfl rfl hl.1 rfl (lv_room (Nat.le_of_ble_eq_true rfl)) dL_law_1712 ⟨Nat.le_of_ble_eq_true rfl, Nat.le_of_ble_eq_true rfl⟩) hS (fun q _ h => hFc q h) hFc (fun r_546 u t H1 locs ht hvm hw hB hz1 hk1 hS => ?_)
      obtain ⟨hP1, hK1, hD1⟩ := hB
      rw [ht] at hP1
      have hK1 := va_K.moved hvm.symm hK1
      obtain ⟨hP, hD⟩ := va_join (wr := [(ba, .inl (cB, 900, .inl fb)), (mb, .inl (cM, 900, .inl fM))]) (w1 := []) hP hD [1] [0, 2] rfl rfl (by decide) (by decide) hk1 hFc hP1 hD1
      generalize H1 = H at hP hS ⊢
      have hP : va_P (dC, dI) vwCl [(ba, .inl (cB, 900, .inl fb)), (mb, .inl (cM, 900, .inl fM))] H := hP
      have hD : va_D A [(ba, .inl (cB, 900, .inl fb)), (mb, .inl (cM, 900, .inl fM))] := hD
      have er_546 : r_546 = (-9223372036854775808) := hw
      subst er_546
      refine W.lcmp hx hb dL_law_1715 ?_
      refine lv_topi (fun z_547 ez_547 => ?_)
      obtain rfl : z_547 = 0 := ez_547.trans (by decide)
      refine lv_if_eq (tgt := 1893) hx hb dL_law_1716 (by decide) (fun c_548 => ?_) (fun c_548 => ?_)
      · refine lv_iinc (v := 6) (lv' := [(4, .int 6), (3, .ref lo), (2, .ref mm), (1, .ref x), (0, .ref b)]) hx hb dL_law_1893 hl (k := 0) rfl (by decide) (by decide) rfl (fun ls hl => ?_)
        refine lv_goto (tgt := 23) hx hb dL_law_1896 (by decide) ?_
        refine lv_iload hx hb dL_law_23 (lv_at hl 0 rfl) ?_
        refine lv_aload_n hx hb dL_law_25 rfl (lv_at hl 4 rfl) ?_
        refine va_slen hx hb hX hbl hbA hS dL_law_26 ?_
        refine lv_topi (fun z_550 ez_550 => ?_)
        obtain rfl : z_550 = 6 := ez_550.trans rfl
        refine lv_bipush (v := 6) hx hb dL_law_27 (by decide) ?_
        refine lv_isub hx hb dL_law_29 ?_
        refine lv_topi (fun z_551 ez_551 => ?_)
        obtain rfl : z_551 = 0 := ez_551.trans (by decide)
        refine lv_icmp_gt (tgt := 1899) hx hb dL_law_30 (by decide) (fun c_552 => ?_) (fun c_552 => ?_)
        · refine lv_iconst (v := 1) hx hb dL_law_1899 (by decide) ?_
          refine va_forget (fun q hq => by have h9 := hS.2.2 q hq; rw [← hAe] at h9; exact h9) ?_
          refine W.widen (k := 600002) (n := 7302232) (Nat.le_of_ble_eq_true rfl) (Nat.le_of_ble_eq_true rfl) ?_
          exact lw_ret hd0 hx hb hr hlocks dL_law_1900
        · exact absurd (by decide) c_552
      · exact absurd (by decide) c_548
    by_cases c_553 : ((xs (0 : Int32).toNatClampNeg) &&& 63) = 36
    · refine lv_tableIn (tgt := 1721) hx hb dL_law_40 (by rw [c_553]; decide) (by rw [c_553]; decide) (by rw [c_553]; rfl) (by decide) ?_
      refine lv_aload_n hx hb dL_law_1721 rfl (lv_at hl 3 rfl) ?_
      refine lv_aload_n hx hb dL_law_1722 rfl (lv_at hl 4 rfl) ?_
      refine lv_iload hx hb dL_law_1723 (lv_at hl 0 rfl) ?_
      refine lv_iconst (v := 1) hx hb dL_law_1725 (by decide) ?_
      refine lv_iadd hx hb dL_law_1726 ?_
      refine lv_topi (fun z_554 ez_554 => ?_)
      obtain rfl : z_554 = 1 := ez_554.trans (by decide)
      refine va_sld hx hb hX hbl hbA hS (vp_in_nI (n := 1) (by decide) (by decide)) dL_law_1727 ?_
      have hPc := hP.sub (ws' := [(x, .inr (10, fs_x))]) [0] rfl
      have hDc := hD.sub (ws' := [(x, .inr (10, fs_x))]) [0] (by decide) rfl
      have hKc := hK.sub (tys' := []) [] rfl
      have hFc := va_free (wc := [(x, .inr (10, fs_x))]) hD hS hA [0] rfl
      refine va_calll (va_runV (As := [.int (xs (1 : Int32).toNatClampNeg)]) (rest := []) ⟨hx, hb, hml, hown, hts⟩ (k_X11_go l dC dI H.size x fs_x (xs (1 : Int32).toNatClampNeg) hn_x hf_x_10) (cwV 1 hts gL0_X11_go rfl rfl rfl (by decide +kernel) ⟨Nat.le_of_ble_eq_true rfl, Nat.le_of_ble_eq_true rfl⟩) ⟨fun a U g mk q => by obtain ⟨q0, q1, qP, qK, qD⟩ := q; exact ⟨q0, q1, qP, va_K.moved (u := U) (U := U.calling g mk a) (Vm.Alike.refl U.vm) qK, qD⟩, va_recv hKc hPc (ci := 10) (q0 := 0) rfl rfl, fun U hU hW => ⟨rfl, by rw [hU], by rw [hU]; exact hPc, va_K.moved hW.alike hKc, hDc.weaken (fun _ _ _ _ => trivial)⟩⟩ rfl rfl hl.1 rfl (lv_room (Nat.le_of_ble_eq_true rfl)) dL_law_1728 ⟨Nat.le_of_ble_eq_true rfl, Nat.le_of_ble_eq_true rfl⟩) hS (fun q _ h => hFc q h) hFc (fun r_555 u t H1 locs ht hvm hw hB hz1 hk1 hS => ?_)
      obtain ⟨hP1, hK1, hD1⟩ := hB
      rw [ht] at hP1
      have hK1 := va_K.moved hvm.symm hK1
      obtain ⟨hP, hD⟩ := va_join (wr := [(rd, .inr (6, fs_rd)), (tp, .inr (9, fs_tp)), (ba, .inl (cB, 900, .inl fb)), (ra, .inr (5, [.long u0, .long w0])), (li, .inr (3, fs_li)), (ho, .inr (4, fs_ho)), (dr, .inr (3, fs_dr)), (hd, .inr (4, fs_hd)), (mm, .inr (11, fs_mm)), (mb, .inl (cM, 900, .inl fM))]) (w1 := []) hP hD [0] [1, 2, 3, 4, 5, 6, 7, 8, 9, 10] rfl rfl (by decide) (by decide) hk1 hFc hP1 hD1
      generalize H1 = H at hP hS ⊢
      have hP : va_P (dC, dI) vwCl [(rd, .inr (6, fs_rd)), (tp, .inr (9, fs_tp)), (ba, .inl (cB, 900, .inl fb)), (ra, .inr (5, [.long u0, .long w0])), (li, .inr (3, fs_li)), (ho, .inr (4, fs_ho)), (dr, .inr (3, fs_dr)), (hd, .inr (4, fs_hd)), (mm, .inr (11, fs_mm)), (mb, .inl (cM, 900, .inl fM))] H := hP
      have hD : va_D A [(rd, .inr (6, fs_rd)), (tp, .inr (9, fs_tp)), (ba, .inl (cB, 900, .inl fb)), (ra, .inr (5, [.long u0, .long w0])), (li, .inr (3, fs_li)), (ho, .inr (4, fs_ho)), (dr, .inr (3, fs_dr)), (hd, .inr (4, fs_hd)), (mm, .inr (11, fs_mm)), (mb, .inl (cM, 900, .inl fM))] := hD
      have er_555 : r_555 = (-9223372036854775808) := hw
      subst er_555
      refine lv_aload_n hx hb dL_law_1731 rfl (lv_at hl 2 rfl) ?_
      refine lv_aload_n hx hb dL_law_1732 rfl (lv_at hl 4 rfl) ?_
      refine lv_iload hx hb dL_law_1733 (lv_at hl 0 rfl) ?_
      refine lv_iconst (v := 1) hx hb dL_law_1735 (by decide) ?_
      refine lv_iadd hx hb dL_law_1736 ?_
      refine lv_topi (fun z_556 ez_556 => ?_)
      obtain rfl : z_556 = 1 := ez_556.trans (by decide)
      refine va_sld hx hb hX hbl hbA hS (vp_in_nI (n := 1) (by decide) (by decide)) dL_law_1737 ?_
      have hPc := hP.sub (ws' := [(mm, .inr (11, fs_mm))]) [8] rfl
      have hDc := hD.sub (ws' := [(mm, .inr (11, fs_mm))]) [8] (by decide) rfl
      have hKc := hK.sub (tys' := []) [] rfl
      have hFc := va_free (wc := [(mm, .inr (11, fs_mm))]) hD hS hA [8] rfl
      refine va_calll (va_runV (As := [.int (xs (1 : Int32).toNatClampNeg)]) (rest := [.long (-9223372036854775808)]) ⟨hx, hb, hml, hown, hts⟩ (k_X12_go l dC dI H.size mm fs_mm (xs (1 : Int32).toNatClampNeg) hn_mm hf_mm_28) (cwV 1 hts gL0_X12_go rfl rfl rfl (by decide +kernel) ⟨Nat.le_of_ble_eq_true rfl, Nat.le_of_ble_eq_true rfl⟩) ⟨fun a U g mk q => by obtain ⟨q0, q1, qP, qK, qD⟩ := q; exact ⟨q0, q1, qP, va_K.moved (u := U) (U := U.calling g mk a) (Vm.Alike.refl U.vm) qK, qD⟩, va_recv hKc hPc (ci := 11) (q0 := 0) rfl rfl, fun U hU hW => ⟨rfl, by rw [hU], by rw [hU]; exact hPc, va_K.moved hW.alike hKc, hDc.weaken (fun _ _ _ _ => trivial)⟩⟩ rfl rfl hl.1 rfl (lv_room (Nat.le_of_ble_eq_true rfl)) dL_law_1738 ⟨Nat.le_of_ble_eq_true rfl, Nat.le_of_ble_eq_true rfl⟩) hS (fun q _ h => hFc q h) hFc (fun r_557 u t H1 locs ht hvm hw hB hz1 hk1 hS => ?_)
      obtain ⟨hP1, hK1, hD1⟩ := hB
      rw [ht] at hP1
      have hK1 := va_K.moved hvm.symm hK1
      obtain ⟨hP, hD⟩ := va_join (wr := [(rd, .inr (6, fs_rd)), (tp, .inr (9, fs_tp)), (ba, .inl (cB, 900, .inl fb)), (ra, .inr (5, [.long u0, .long w0])), (li, .inr (3, fs_li)), (ho, .inr (4, fs_ho)), (dr, .inr (3, fs_dr)), (hd, .inr (4, fs_hd)), (mb, .inl (cM, 900, .inl fM))]) (w1 := []) hP hD [8] [0, 1, 2, 3, 4, 5, 6, 7, 9] rfl rfl (by decide) (by decide) hk1 hFc hP1 hD1
      generalize H1 = H at hP hS ⊢
      have hP : va_P (dC, dI) vwCl [(rd, .inr (6, fs_rd)), (tp, .inr (9, fs_tp)), (ba, .inl (cB, 900, .inl fb)), (ra, .inr (5, [.long u0, .long w0])), (li, .inr (3, fs_li)), (ho, .inr (4, fs_ho)), (dr, .inr (3, fs_dr)), (hd, .inr (4, fs_hd)), (mb, .inl (cM, 900, .inl fM))] H := hP
      have hD : va_D A [(rd, .inr (6, fs_rd)), (tp, .inr (9, fs_tp)), (ba, .inl (cB, 900, .inl fb)), (ra, .inr (5, [.long u0, .long w0])), (li, .inr (3, fs_li)), (ho, .inr (4, fs_ho)), (dr, .inr (3, fs_dr)), (hd, .inr (4, fs_hd)), (mb, .inl (cM, 900, .inl fM))] := hD
      have er_557 : r_557 = (-9223372036854775808) := hw
      subst er_557
      refine W.lcmp hx hb dL_law_1741 ?_
      refine lv_topi (fun z_558 ez_558 => ?_)
      obtain rfl : z_558 = 0 := ez_558.trans (by decide)
      refine lv_if_eq (tgt := 1893) hx hb dL_law_1742 (by decide) (fun c_559 => ?_) (fun c_559 => ?_)
      · refine lv_iinc (v := 6) (lv' := [(4, .int 6), (3, .ref lo), (2, .ref mm), (1, .ref x), (0, .ref b)]) hx hb dL_law_1893 hl (k := 0) rfl (by decide) (by decide) rfl (fun ls hl => ?_)
        refine lv_goto (tgt := 23) hx hb dL_law_1896 (by decide) ?_
        refine lv_iload hx hb dL_law_23 (lv_at hl 0 rfl) ?_
        refine lv_aload_n hx hb dL_law_25 rfl (lv_at hl 4 rfl) ?_
        refine va_slen hx hb hX hbl hbA hS dL_law_26 ?_
        refine lv_topi (fun z_561 ez_561 => ?_)
        obtain rfl : z_561 = 6 := ez_561.trans rfl
        refine lv_bipush (v := 6) hx hb dL_law_27 (by decide) ?_
        refine lv_isub hx hb dL_law_29 ?_
        refine lv_topi (fun z_562 ez_562 => ?_)
        obtain rfl : z_562 = 0 := ez_562.trans (by decide)
        refine lv_icmp_gt (tgt := 1899) hx hb dL_law_30 (by decide) (fun c_563 => ?_) (fun c_563 => ?_)
        · refine lv_iconst (v := 1) hx hb dL_law_1899 (by decide) ?_
          refine va_forget (fun q hq => by have h9 := hS.2.2 q hq; rw [← hAe] at h9; exact h9) ?_
          refine W.widen (k := 600002) (n := 7302232) (Nat.le_of_ble_eq_true rfl) (Nat.le_of_ble_eq_true rfl) ?_
          exact lw_ret hd0 hx hb hr hlocks dL_law_1900
        · exact absurd (by decide) c_563
      · exact absurd (by decide) c_559
    by_cases c_564 : ((xs (0 : Int32).toNatClampNeg) &&& 63) = 37
    · refine lv_tableIn (tgt := 1747) hx hb dL_law_40 (by rw [c_564]; decide) (by rw [c_564]; decide) (by rw [c_564]; rfl) (by decide) ?_
      refine lv_aload_n hx hb dL_law_1747 rfl (lv_at hl 3 rfl) ?_
      refine lv_aload_n hx hb dL_law_1748 rfl (lv_at hl 4 rfl) ?_
      refine lv_iload hx hb dL_law_1749 (lv_at hl 0 rfl) ?_
      refine lv_iconst (v := 1) hx hb dL_law_1751 (by decide) ?_
      refine lv_iadd hx hb dL_law_1752 ?_
      refine lv_topi (fun z_565 ez_565 => ?_)
      obtain rfl : z_565 = 1 := ez_565.trans (by decide)
      refine va_sld hx hb hX hbl hbA hS (vp_in_nI (n := 1) (by decide) (by decide)) dL_law_1753 ?_
      have hPc := hP.sub (ws' := [(x, .inr (10, fs_x))]) [0] rfl
      have hDc := hD.sub (ws' := [(x, .inr (10, fs_x))]) [0] (by decide) rfl
      have hKc := hK.sub (tys' := []) [] rfl
      have hFc := va_free (wc := [(x, .inr (10, fs_x))]) hD hS hA [0] rfl
      refine va_calll (va_runV (As := [.int (xs (1 : Int32).toNatClampNeg)]) (rest := []) ⟨hx, hb, hml, hown, hts⟩ (k_X11_income l dC dI H.size x fs_x (xs (1 : Int32).toNatClampNeg) hn_x hf_x_10) (cwV 1 hts gL0_X11_income rfl rfl rfl (by decide +kernel) ⟨Nat.le_of_ble_eq_true rfl, Nat.le_of_ble_eq_true rfl⟩) ⟨fun a U g mk q => by obtain ⟨q0, q1, qP, qK, qD⟩ := q; exact ⟨q0, q1, qP, va_K.moved (u := U) (U := U.calling g mk a) (Vm.Alike.refl U.vm) qK, qD⟩, va_recv hKc hPc (ci := 10) (q0 := 0) rfl rfl, fun U hU hW => ⟨rfl, by rw [hU], by rw [hU]; exact hPc, va_K.moved hW.alike hKc, hDc.weaken (fun _ _ _ _ => trivial)⟩⟩ rfl rfl hl.1 rfl (lv_room (Nat.le_of_ble_eq_true rfl)) dL_law_1754 ⟨Nat.le_of_ble_eq_true rfl, Nat.le_of_ble_eq_true rfl⟩) hS (fun q _ h => hFc q h) hFc (fun r_566 u t H1 locs ht hvm hw hB hz1 hk1 hS => ?_)
      obtain ⟨hP1, hK1, hD1⟩ := hB
      rw [ht] at hP1
      have hK1 := va_K.moved hvm.symm hK1
      obtain ⟨hP, hD⟩ := va_join (wr := [(rd, .inr (6, fs_rd)), (tp, .inr (9, fs_tp)), (ba, .inl (cB, 900, .inl fb)), (ra, .inr (5, [.long u0, .long w0])), (li, .inr (3, fs_li)), (ho, .inr (4, fs_ho)), (dr, .inr (3, fs_dr)), (hd, .inr (4, fs_hd)), (mm, .inr (11, fs_mm)), (mb, .inl (cM, 900, .inl fM))]) (w1 := []) hP hD [0] [1, 2, 3, 4, 5, 6, 7, 8, 9, 10] rfl rfl (by decide) (by decide) hk1 hFc hP1 hD1
      generalize H1 = H at hP hS ⊢
      have hP : va_P (dC, dI) vwCl [(rd, .inr (6, fs_rd)), (tp, .inr (9, fs_tp)), (ba, .inl (cB, 900, .inl fb)), (ra, .inr (5, [.long u0, .long w0])), (li, .inr (3, fs_li)), (ho, .inr (4, fs_ho)), (dr, .inr (3, fs_dr)), (hd, .inr (4, fs_hd)), (mm, .inr (11, fs_mm)), (mb, .inl (cM, 900, .inl fM))] H := hP
      have hD : va_D A [(rd, .inr (6, fs_rd)), (tp, .inr (9, fs_tp)), (ba, .inl (cB, 900, .inl fb)), (ra, .inr (5, [.long u0, .long w0])), (li, .inr (3, fs_li)), (ho, .inr (4, fs_ho)), (dr, .inr (3, fs_dr)), (hd, .inr (4, fs_hd)), (mm, .inr (11, fs_mm)), (mb, .inl (cM, 900, .inl fM))] := hD
      have er_566 : r_566 = (-9223372036854775808) := hw
      subst er_566
      refine lv_aload_n hx hb dL_law_1757 rfl (lv_at hl 2 rfl) ?_
      refine lv_aload_n hx hb dL_law_1758 rfl (lv_at hl 4 rfl) ?_
      refine lv_iload hx hb dL_law_1759 (lv_at hl 0 rfl) ?_
      refine lv_iconst (v := 1) hx hb dL_law_1761 (by decide) ?_
      refine lv_iadd hx hb dL_law_1762 ?_
      refine lv_topi (fun z_567 ez_567 => ?_)
      obtain rfl : z_567 = 1 := ez_567.trans (by decide)
      refine va_sld hx hb hX hbl hbA hS (vp_in_nI (n := 1) (by decide) (by decide)) dL_law_1763 ?_
      have hPc := hP.sub (ws' := [(mm, .inr (11, fs_mm))]) [8] rfl
      have hDc := hD.sub (ws' := [(mm, .inr (11, fs_mm))]) [8] (by decide) rfl
      have hKc := hK.sub (tys' := []) [] rfl
      have hFc := va_free (wc := [(mm, .inr (11, fs_mm))]) hD hS hA [8] rfl
      refine va_calll (va_runV (As := [.int (xs (1 : Int32).toNatClampNeg)]) (rest := [.long (-9223372036854775808)]) ⟨hx, hb, hml, hown, hts⟩ (k_X12_income l dC dI H.size mm fs_mm (xs (1 : Int32).toNatClampNeg) hn_mm hf_mm_28) (cwV 1 hts gL0_X12_income rfl rfl rfl (by decide +kernel) ⟨Nat.le_of_ble_eq_true rfl, Nat.le_of_ble_eq_true rfl⟩) ⟨fun a U g mk q => by obtain ⟨q0, q1, qP, qK, qD⟩ := q; exact ⟨q0, q1, qP, va_K.moved (u := U) (U := U.calling g mk a) (Vm.Alike.refl U.vm) qK, qD⟩, va_recv hKc hPc (ci := 11) (q0 := 0) rfl rfl, fun U hU hW => ⟨rfl, by rw [hU], by rw [hU]; exact hPc, va_K.moved hW.alike hKc, hDc.weaken (fun _ _ _ _ => trivial)⟩⟩ rfl rfl hl.1 rfl (lv_room (Nat.le_of_ble_eq_true rfl)) dL_law_1764 ⟨Nat.le_of_ble_eq_true rfl, Nat.le_of_ble_eq_true rfl⟩) hS (fun q _ h => hFc q h) hFc (fun r_568 u t H1 locs ht hvm hw hB hz1 hk1 hS => ?_)
      obtain ⟨hP1, hK1, hD1⟩ := hB
      rw [ht] at hP1
      have hK1 := va_K.moved hvm.symm hK1
      obtain ⟨hP, hD⟩ := va_join (wr := [(rd, .inr (6, fs_rd)), (tp, .inr (9, fs_tp)), (ba, .inl (cB, 900, .inl fb)), (ra, .inr (5, [.long u0, .long w0])), (li, .inr (3, fs_li)), (ho, .inr (4, fs_ho)), (dr, .inr (3, fs_dr)), (hd, .inr (4, fs_hd)), (mb, .inl (cM, 900, .inl fM))]) (w1 := []) hP hD [8] [0, 1, 2, 3, 4, 5, 6, 7, 9] rfl rfl (by decide) (by decide) hk1 hFc hP1 hD1
      generalize H1 = H at hP hS ⊢
      have hP : va_P (dC, dI) vwCl [(rd, .inr (6, fs_rd)), (tp, .inr (9, fs_tp)), (ba, .inl (cB, 900, .inl fb)), (ra, .inr (5, [.long u0, .long w0])), (li, .inr (3, fs_li)), (ho, .inr (4, fs_ho)), (dr, .inr (3, fs_dr)), (hd, .inr (4, fs_hd)), (mb, .inl (cM, 900, .inl fM))] H := hP
      have hD : va_D A [(rd, .inr (6, fs_rd)), (tp, .inr (9, fs_tp)), (ba, .inl (cB, 900, .inl fb)), (ra, .inr (5, [.long u0, .long w0])), (li, .inr (3, fs_li)), (ho, .inr (4, fs_ho)), (dr, .inr (3, fs_dr)), (hd, .inr (4, fs_hd)), (mb, .inl (cM, 900, .inl fM))] := hD
      have er_568 : r_568 = (-9223372036854775808) := hw
      subst er_568
      refine W.lcmp hx hb dL_law_1767 ?_
      refine lv_topi (fun z_569 ez_569 => ?_)
      obtain rfl : z_569 = 0 := ez_569.trans (by decide)
      refine lv_if_eq (tgt := 1893) hx hb dL_law_1768 (by decide) (fun c_570 => ?_) (fun c_570 => ?_)
      · refine lv_iinc (v := 6) (lv' := [(4, .int 6), (3, .ref lo), (2, .ref mm), (1, .ref x), (0, .ref b)]) hx hb dL_law_1893 hl (k := 0) rfl (by decide) (by decide) rfl (fun ls hl => ?_)
        refine lv_goto (tgt := 23) hx hb dL_law_1896 (by decide) ?_
        refine lv_iload hx hb dL_law_23 (lv_at hl 0 rfl) ?_
        refine lv_aload_n hx hb dL_law_25 rfl (lv_at hl 4 rfl) ?_
        refine va_slen hx hb hX hbl hbA hS dL_law_26 ?_
        refine lv_topi (fun z_572 ez_572 => ?_)
        obtain rfl : z_572 = 6 := ez_572.trans rfl
        refine lv_bipush (v := 6) hx hb dL_law_27 (by decide) ?_
        refine lv_isub hx hb dL_law_29 ?_
        refine lv_topi (fun z_573 ez_573 => ?_)
        obtain rfl : z_573 = 0 := ez_573.trans (by decide)
        refine lv_icmp_gt (tgt := 1899) hx hb dL_law_30 (by decide) (fun c_574 => ?_) (fun c_574 => ?_)
        · refine lv_iconst (v := 1) hx hb dL_law_1899 (by decide) ?_
          refine va_forget (fun q hq => by have h9 := hS.2.2 q hq; rw [← hAe] at h9; exact h9) ?_
          refine W.widen (k := 600002) (n := 7302232) (Nat.le_of_ble_eq_true rfl) (Nat.le_of_ble_eq_true rfl) ?_
          exact lw_ret hd0 hx hb hr hlocks dL_law_1900
        · exact absurd (by decide) c_574
      · exact absurd (by decide) c_570
    by_cases c_575 : ((xs (0 : Int32).toNatClampNeg) &&& 63) = 38
    · refine lv_tableIn (tgt := 1773) hx hb dL_law_40 (by rw [c_575]; decide) (by rw [c_575]; decide) (by rw [c_575]; rfl) (by decide) ?_
      refine lv_aload_n hx hb dL_law_1773 rfl (lv_at hl 3 rfl) ?_
      have hPc := hP.sub (ws' := [(x, .inr (10, fs_x))]) [0] rfl
      have hDc := hD.sub (ws' := [(x, .inr (10, fs_x))]) [0] (by decide) rfl
      have hKc := hK.sub (tys' := []) [] rfl
      have hFc := va_free (wc := [(x, .inr (10, fs_x))]) hD hS hA [0] rfl
      refine va_calli (va_runV (As := []) (rest := []) ⟨hx, hb, hml, hown, hts⟩ (k_X11_keep l dC dI H.size x fs_x hn_x hf_x_10) (cwV 0 hts gL0_X11_keep rfl rfl rfl (by decide +kernel) ⟨Nat.le_of_ble_eq_true rfl, Nat.le_of_ble_eq_true rfl⟩) ⟨fun a U g mk q => by obtain ⟨q0, q1, qP, qK, qD⟩ := q; exact ⟨q0, q1, qP, va_K.moved (u := U) (U := U.calling g mk a) (Vm.Alike.refl U.vm) qK, qD⟩, va_recv hKc hPc (ci := 10) (q0 := 0) rfl rfl, fun U hU hW => ⟨rfl, by rw [hU], by rw [hU]; exact hPc, va_K.moved hW.alike hKc, hDc.weaken (fun _ _ _ _ => trivial)⟩⟩ rfl rfl hl.1 rfl (lv_room (Nat.le_of_ble_eq_true rfl)) dL_law_1774 ⟨Nat.le_of_ble_eq_true rfl, Nat.le_of_ble_eq_true rfl⟩) hS (fun q _ h => hFc q h) hFc (fun r_576 u t H1 locs ht hvm hw hB hz1 hk1 hS => ?_)
      obtain ⟨hP1, hK1, hD1⟩ := hB
      rw [ht] at hP1
      have hK1 := va_K.moved hvm.symm hK1
      obtain ⟨hP, hD⟩ := va_join (wr := [(rd, .inr (6, fs_rd)), (tp, .inr (9, fs_tp)), (ba, .inl (cB, 900, .inl fb)), (ra, .inr (5, [.long u0, .long w0])), (li, .inr (3, fs_li)), (ho, .inr (4, fs_ho)), (dr, .inr (3, fs_dr)), (hd, .inr (4, fs_hd)), (mm, .inr (11, fs_mm)), (mb, .inl (cM, 900, .inl fM))]) (w1 := []) hP hD [0] [1, 2, 3, 4, 5, 6, 7, 8, 9, 10] rfl rfl (by decide) (by decide) hk1 hFc hP1 hD1
      generalize H1 = H at hP hS ⊢
      have hP : va_P (dC, dI) vwCl [(rd, .inr (6, fs_rd)), (tp, .inr (9, fs_tp)), (ba, .inl (cB, 900, .inl fb)), (ra, .inr (5, [.long u0, .long w0])), (li, .inr (3, fs_li)), (ho, .inr (4, fs_ho)), (dr, .inr (3, fs_dr)), (hd, .inr (4, fs_hd)), (mm, .inr (11, fs_mm)), (mb, .inl (cM, 900, .inl fM))] H := hP
      have hD : va_D A [(rd, .inr (6, fs_rd)), (tp, .inr (9, fs_tp)), (ba, .inl (cB, 900, .inl fb)), (ra, .inr (5, [.long u0, .long w0])), (li, .inr (3, fs_li)), (ho, .inr (4, fs_ho)), (dr, .inr (3, fs_dr)), (hd, .inr (4, fs_hd)), (mm, .inr (11, fs_mm)), (mb, .inl (cM, 900, .inl fM))] := hD
      have er_576 : r_576 = 0 := hw
      subst er_576
      refine lv_aload_n hx hb dL_law_1777 rfl (lv_at hl 2 rfl) ?_
      have hPc := hP.sub (ws' := [(mm, .inr (11, fs_mm))]) [8] rfl
      have hDc := hD.sub (ws' := [(mm, .inr (11, fs_mm))]) [8] (by decide) rfl
      have hKc := hK.sub (tys' := []) [] rfl
      have hFc := va_free (wc := [(mm, .inr (11, fs_mm))]) hD hS hA [8] rfl
      refine va_calli (va_runV (As := []) (rest := [.int 0]) ⟨hx, hb, hml, hown, hts⟩ (k_X12_keep l dC dI H.size mm fs_mm hn_mm hf_mm_28) (cwV 0 hts gL0_X12_keep rfl rfl rfl (by decide +kernel) ⟨Nat.le_of_ble_eq_true rfl, Nat.le_of_ble_eq_true rfl⟩) ⟨fun a U g mk q => by obtain ⟨q0, q1, qP, qK, qD⟩ := q; exact ⟨q0, q1, qP, va_K.moved (u := U) (U := U.calling g mk a) (Vm.Alike.refl U.vm) qK, qD⟩, va_recv hKc hPc (ci := 11) (q0 := 0) rfl rfl, fun U hU hW => ⟨rfl, by rw [hU], by rw [hU]; exact hPc, va_K.moved hW.alike hKc, hDc.weaken (fun _ _ _ _ => trivial)⟩⟩ rfl rfl hl.1 rfl (lv_room (Nat.le_of_ble_eq_true rfl)) dL_law_1778 ⟨Nat.le_of_ble_eq_true rfl, Nat.le_of_ble_eq_true rfl⟩) hS (fun q _ h => hFc q h) hFc (fun r_577 u t H1 locs ht hvm hw hB hz1 hk1 hS => ?_)
      obtain ⟨hP1, hK1, hD1⟩ := hB
      rw [ht] at hP1
      have hK1 := va_K.moved hvm.symm hK1
      obtain ⟨hP, hD⟩ := va_join (wr := [(rd, .inr (6, fs_rd)), (tp, .inr (9, fs_tp)), (ba, .inl (cB, 900, .inl fb)), (ra, .inr (5, [.long u0, .long w0])), (li, .inr (3, fs_li)), (ho, .inr (4, fs_ho)), (dr, .inr (3, fs_dr)), (hd, .inr (4, fs_hd)), (mb, .inl (cM, 900, .inl fM))]) (w1 := []) hP hD [8] [0, 1, 2, 3, 4, 5, 6, 7, 9] rfl rfl (by decide) (by decide) hk1 hFc hP1 hD1
      generalize H1 = H at hP hS ⊢
      have hP : va_P (dC, dI) vwCl [(rd, .inr (6, fs_rd)), (tp, .inr (9, fs_tp)), (ba, .inl (cB, 900, .inl fb)), (ra, .inr (5, [.long u0, .long w0])), (li, .inr (3, fs_li)), (ho, .inr (4, fs_ho)), (dr, .inr (3, fs_dr)), (hd, .inr (4, fs_hd)), (mb, .inl (cM, 900, .inl fM))] H := hP
      have hD : va_D A [(rd, .inr (6, fs_rd)), (tp, .inr (9, fs_tp)), (ba, .inl (cB, 900, .inl fb)), (ra, .inr (5, [.long u0, .long w0])), (li, .inr (3, fs_li)), (ho, .inr (4, fs_ho)), (dr, .inr (3, fs_dr)), (hd, .inr (4, fs_hd)), (mb, .inl (cM, 900, .inl fM))] := hD
      have er_577 : r_577 = 0 := hw
      subst er_577
      refine lv_icmp_eq (tgt := 1893) hx hb dL_law_1781 (by decide) (fun c_578 => ?_) (fun c_578 => ?_)
      · refine lv_iinc (v := 6) (lv' := [(4, .int 6), (3, .ref lo), (2, .ref mm), (1, .ref x), (0, .ref b)]) hx hb dL_law_1893 hl (k := 0) rfl (by decide) (by decide) rfl (fun ls hl => ?_)
        refine lv_goto (tgt := 23) hx hb dL_law_1896 (by decide) ?_
        refine lv_iload hx hb dL_law_23 (lv_at hl 0 rfl) ?_
        refine lv_aload_n hx hb dL_law_25 rfl (lv_at hl 4 rfl) ?_
        refine va_slen hx hb hX hbl hbA hS dL_law_26 ?_
        refine lv_topi (fun z_580 ez_580 => ?_)
        obtain rfl : z_580 = 6 := ez_580.trans rfl
        refine lv_bipush (v := 6) hx hb dL_law_27 (by decide) ?_
        refine lv_isub hx hb dL_law_29 ?_
        refine lv_topi (fun z_581 ez_581 => ?_)
        obtain rfl : z_581 = 0 := ez_581.trans (by decide)
        refine lv_icmp_gt (tgt := 1899) hx hb dL_law_30 (by decide) (fun c_582 => ?_) (fun c_582 => ?_)
        · refine lv_iconst (v := 1) hx hb dL_law_1899 (by decide) ?_
          refine va_forget (fun q hq => by have h9 := hS.2.2 q hq; rw [← hAe] at h9; exact h9) ?_
          refine W.widen (k := 600002) (n := 7302232) (Nat.le_of_ble_eq_true rfl) (Nat.le_of_ble_eq_true rfl) ?_
          exact lw_ret hd0 hx hb hr hlocks dL_law_1900
        · exact absurd (by decide) c_582
      · exact absurd (by decide) c_578
    by_cases c_583 : ((xs (0 : Int32).toNatClampNeg) &&& 63) = 39
    · refine lv_tableIn (tgt := 1786) hx hb dL_law_40 (by rw [c_583]; decide) (by rw [c_583]; decide) (by rw [c_583]; rfl) (by decide) ?_
      refine lv_aload_n hx hb dL_law_1786 rfl (lv_at hl 3 rfl) ?_
      have hPc := hP.sub (ws' := [(x, .inr (10, fs_x))]) [0] rfl
      have hDc := hD.sub (ws' := [(x, .inr (10, fs_x))]) [0] (by decide) rfl
      have hKc := hK.sub (tys' := []) [] rfl
      have hFc := va_free (wc := [(x, .inr (10, fs_x))]) hD hS hA [0] rfl
      refine va_calli (va_runV (As := []) (rest := []) ⟨hx, hb, hml, hown, hts⟩ (k_X11_back l dC dI H.size x fs_x hn_x hf_x_10) (cwV 0 hts gL0_X11_back rfl rfl rfl (by decide +kernel) ⟨Nat.le_of_ble_eq_true rfl, Nat.le_of_ble_eq_true rfl⟩) ⟨fun a U g mk q => by obtain ⟨q0, q1, qP, qK, qD⟩ := q; exact ⟨q0, q1, qP, va_K.moved (u := U) (U := U.calling g mk a) (Vm.Alike.refl U.vm) qK, qD⟩, va_recv hKc hPc (ci := 10) (q0 := 0) rfl rfl, fun U hU hW => ⟨rfl, by rw [hU], by rw [hU]; exact hPc, va_K.moved hW.alike hKc, hDc.weaken (fun _ _ _ _ => trivial)⟩⟩ rfl rfl hl.1 rfl (lv_room (Nat.le_of_ble_eq_true rfl)) dL_law_1787 ⟨Nat.le_of_ble_eq_true rfl, Nat.le_of_ble_eq_true rfl⟩) hS (fun q _ h => hFc q h) hFc (fun r_584 u t H1 locs ht hvm hw hB hz1 hk1 hS => ?_)
      obtain ⟨hP1, hK1, hD1⟩ := hB
      rw [ht] at hP1
      have hK1 := va_K.moved hvm.symm hK1
      obtain ⟨hP, hD⟩ := va_join (wr := [(rd, .inr (6, fs_rd)), (tp, .inr (9, fs_tp)), (ba, .inl (cB, 900, .inl fb)), (ra, .inr (5, [.long u0, .long w0])), (li, .inr (3, fs_li)), (ho, .inr (4, fs_ho)), (dr, .inr (3, fs_dr)), (hd, .inr (4, fs_hd)), (mm, .inr (11, fs_mm)), (mb, .inl (cM, 900, .inl fM))]) (w1 := []) hP hD [0] [1, 2, 3, 4, 5, 6, 7, 8, 9, 10] rfl rfl (by decide) (by decide) hk1 hFc hP1 hD1
      generalize H1 = H at hP hS ⊢
      have hP : va_P (dC, dI) vwCl [(rd, .inr (6, fs_rd)), (tp, .inr (9, fs_tp)), (ba, .inl (cB, 900, .inl fb)), (ra, .inr (5, [.long u0, .long w0])), (li, .inr (3, fs_li)), (ho, .inr (4, fs_ho)), (dr, .inr (3, fs_dr)), (hd, .inr (4, fs_hd)), (mm, .inr (11, fs_mm)), (mb, .inl (cM, 900, .inl fM))] H := hP
      have hD : va_D A [(rd, .inr (6, fs_rd)), (tp, .inr (9, fs_tp)), (ba, .inl (cB, 900, .inl fb)), (ra, .inr (5, [.long u0, .long w0])), (li, .inr (3, fs_li)), (ho, .inr (4, fs_ho)), (dr, .inr (3, fs_dr)), (hd, .inr (4, fs_hd)), (mm, .inr (11, fs_mm)), (mb, .inl (cM, 900, .inl fM))] := hD
      have er_584 : r_584 = 0 := hw
      subst er_584
      refine lv_aload_n hx hb dL_law_1790 rfl (lv_at hl 2 rfl) ?_
      have hPc := hP.sub (ws' := [(mm, .inr (11, fs_mm))]) [8] rfl
      have hDc := hD.sub (ws' := [(mm, .inr (11, fs_mm))]) [8] (by decide) rfl
      have hKc := hK.sub (tys' := []) [] rfl
      have hFc := va_free (wc := [(mm, .inr (11, fs_mm))]) hD hS hA [8] rfl
      refine va_calli (va_runV (As := []) (rest := [.int 0]) ⟨hx, hb, hml, hown, hts⟩ (k_X12_back l dC dI H.size mm fs_mm hn_mm hf_mm_68) (cwV 0 hts gL0_X12_back rfl rfl rfl (by decide +kernel) ⟨Nat.le_of_ble_eq_true rfl, Nat.le_of_ble_eq_true rfl⟩) ⟨fun a U g mk q => by obtain ⟨q0, q1, qP, qK, qD⟩ := q; exact ⟨q0, q1, qP, va_K.moved (u := U) (U := U.calling g mk a) (Vm.Alike.refl U.vm) qK, qD⟩, va_recv hKc hPc (ci := 11) (q0 := 0) rfl rfl, fun U hU hW => ⟨rfl, by rw [hU], by rw [hU]; exact hPc, va_K.moved hW.alike hKc, hDc.weaken (fun _ _ _ _ => trivial)⟩⟩ rfl rfl hl.1 rfl (lv_room (Nat.le_of_ble_eq_true rfl)) dL_law_1791 ⟨Nat.le_of_ble_eq_true rfl, Nat.le_of_ble_eq_true rfl⟩) hS (fun q _ h => hFc q h) hFc (fun r_585 u t H1 locs ht hvm hw hB hz1 hk1 hS => ?_)
      obtain ⟨hP1, hK1, hD1⟩ := hB
      rw [ht] at hP1
      have hK1 := va_K.moved hvm.symm hK1
      obtain ⟨hP, hD⟩ := va_join (wr := [(rd, .inr (6, fs_rd)), (tp, .inr (9, fs_tp)), (ba, .inl (cB, 900, .inl fb)), (ra, .inr (5, [.long u0, .long w0])), (li, .inr (3, fs_li)), (ho, .inr (4, fs_ho)), (dr, .inr (3, fs_dr)), (hd, .inr (4, fs_hd)), (mb, .inl (cM, 900, .inl fM))]) (w1 := []) hP hD [8] [0, 1, 2, 3, 4, 5, 6, 7, 9] rfl rfl (by decide) (by decide) hk1 hFc hP1 hD1
      generalize H1 = H at hP hS ⊢
      have hP : va_P (dC, dI) vwCl [(rd, .inr (6, fs_rd)), (tp, .inr (9, fs_tp)), (ba, .inl (cB, 900, .inl fb)), (ra, .inr (5, [.long u0, .long w0])), (li, .inr (3, fs_li)), (ho, .inr (4, fs_ho)), (dr, .inr (3, fs_dr)), (hd, .inr (4, fs_hd)), (mb, .inl (cM, 900, .inl fM))] H := hP
      have hD : va_D A [(rd, .inr (6, fs_rd)), (tp, .inr (9, fs_tp)), (ba, .inl (cB, 900, .inl fb)), (ra, .inr (5, [.long u0, .long w0])), (li, .inr (3, fs_li)), (ho, .inr (4, fs_ho)), (dr, .inr (3, fs_dr)), (hd, .inr (4, fs_hd)), (mb, .inl (cM, 900, .inl fM))] := hD
      have er_585 : r_585 = 0 := hw
      subst er_585
      refine lv_icmp_eq (tgt := 1893) hx hb dL_law_1794 (by decide) (fun c_586 => ?_) (fun c_586 => ?_)
      · refine lv_iinc (v := 6) (lv' := [(4, .int 6), (3, .ref lo), (2, .ref mm), (1, .ref x), (0, .ref b)]) hx hb dL_law_1893 hl (k := 0) rfl (by decide) (by decide) rfl (fun ls hl => ?_)
        refine lv_goto (tgt := 23) hx hb dL_law_1896 (by decide) ?_
        refine lv_iload hx hb dL_law_23 (lv_at hl 0 rfl) ?_
        refine lv_aload_n hx hb dL_law_25 rfl (lv_at hl 4 rfl) ?_
        refine va_slen hx hb hX hbl hbA hS dL_law_26 ?_
        refine lv_topi (fun z_588 ez_588 => ?_)
        obtain rfl : z_588 = 6 := ez_588.trans rfl
        refine lv_bipush (v := 6) hx hb dL_law_27 (by decide) ?_
        refine lv_isub hx hb dL_law_29 ?_
        refine lv_topi (fun z_589 ez_589 => ?_)
        obtain rfl : z_589 = 0 := ez_589.trans (by decide)
        refine lv_icmp_gt (tgt := 1899) hx hb dL_law_30 (by decide) (fun c_590 => ?_) (fun c_590 => ?_)
        · refine lv_iconst (v := 1) hx hb dL_law_1899 (by decide) ?_
          refine va_forget (fun q hq => by have h9 := hS.2.2 q hq; rw [← hAe] at h9; exact h9) ?_
          refine W.widen (k := 600002) (n := 7302232) (Nat.le_of_ble_eq_true rfl) (Nat.le_of_ble_eq_true rfl) ?_
          exact lw_ret hd0 hx hb hr hlocks dL_law_1900
        · exact absurd (by decide) c_590
      · exact absurd (by decide) c_586
    by_cases c_591 : ((xs (0 : Int32).toNatClampNeg) &&& 63) = 40
    · refine lv_tableIn (tgt := 1799) hx hb dL_law_40 (by rw [c_591]; decide) (by rw [c_591]; decide) (by rw [c_591]; rfl) (by decide) ?_
      refine lv_aload_n hx hb dL_law_1799 rfl (lv_at hl 3 rfl) ?_
      refine lv_aload_n hx hb dL_law_1800 rfl (lv_at hl 4 rfl) ?_
      refine lv_iload hx hb dL_law_1801 (lv_at hl 0 rfl) ?_
      refine lv_iconst (v := 1) hx hb dL_law_1803 (by decide) ?_
      refine lv_iadd hx hb dL_law_1804 ?_
      refine lv_topi (fun z_592 ez_592 => ?_)
      obtain rfl : z_592 = 1 := ez_592.trans (by decide)
      refine va_sld hx hb hX hbl hbA hS (vp_in_nI (n := 1) (by decide) (by decide)) dL_law_1805 ?_
      refine lv_aload_n hx hb dL_law_1806 rfl (lv_at hl 1 rfl) ?_
      have hPc := hP.sub (ws' := [(x, .inr (10, fs_x)), (li, .inr (3, fs_li)), (ho, .inr (4, fs_ho))]) [0, 5, 6] rfl
      have hDc := hD.sub (ws' := [(x, .inr (10, fs_x)), (li, .inr (3, fs_li)), (ho, .inr (4, fs_ho))]) [0, 5, 6] (by decide) rfl
      have hKc := hK.sub (tys' := []) [] rfl
      have hFc := va_free (wc := [(x, .inr (10, fs_x)), (li, .inr (3, fs_li)), (ho, .inr (4, fs_ho))]) hD hS hA [0, 5, 6] rfl
      refine va_calli (vx_runSW (As := [.ref x, .int (xs (1 : Int32).toNatClampNeg), .ref lo]) (rest := []) ⟨hx, hb, hml, hown, htsT⟩ (k_L_holiday l hl0 dC dI H.size x fs_x li fs_li ho fs_ho (xs (1 : Int32).toNatClampNeg) lo q11_386 hn_x hf_x_8 hn_li hf_li_2 hn_ho hf_ho_1) (vx_cwSW 3 htsT hx_gT rfl rfl rfl (by decide +kernel) ⟨Nat.le_of_ble_eq_true rfl, Nat.le_of_ble_eq_true rfl⟩) ⟨fun a U g mk q => by obtain ⟨q0, q1, qP, qK, qD, n0, qZ⟩ := q; exact ⟨q0, q1, qP, va_K.moved (u := U) (U := U.calling g mk a) (Vm.Alike.refl U.vm) qK, qD, (vk_R.same rfl n0), hx_Z.moved (u := U) (U := U.calling g mk a) (Vm.Alike.refl U.vm) qZ⟩, fun U hU hW => ⟨rfl, by rw [hU], by rw [hU]; exact hPc, va_K.moved hW.alike hKc, hDc.weaken (fun _ _ _ _ => trivial), (vk_R.warm hW hN8), by rw [hU]; exact hx_Z.moved hW.alike ((hZ.kept hS.2.1).narrow hFc)⟩⟩ rfl rfl hl.1 rfl (lv_room (Nat.le_of_ble_eq_true rfl)) dL_law_1807 ⟨Nat.le_of_ble_eq_true rfl, Nat.le_of_ble_eq_true rfl⟩) hS (fun q _ h => hFc q h) hFc (fun r_593 u t H1 locs ht hvm hw hB hz1 hk1 hS => ?_)
      obtain ⟨hP1, hK1, hD1⟩ := hB
      rw [ht] at hP1
      have hK1 := va_K.moved hvm.symm hK1
      obtain ⟨hP, hD⟩ := va_join (wr := [(rd, .inr (6, fs_rd)), (tp, .inr (9, fs_tp)), (ba, .inl (cB, 900, .inl fb)), (ra, .inr (5, [.long u0, .long w0])), (dr, .inr (3, fs_dr)), (hd, .inr (4, fs_hd)), (mm, .inr (11, fs_mm)), (mb, .inl (cM, 900, .inl fM))]) (w1 := [(x, .inr (10, fs_x)), (li, .inr (3, fs_li)), (ho, .inr (4, fs_ho))]) hP hD [0, 5, 6] [1, 2, 3, 4, 7, 8, 9, 10] rfl rfl (by decide) (by decide) hk1 hFc hP1 hD1
      generalize H1 = H at hP hS ⊢
      have hP : va_P (dC, dI) vwCl [(rd, .inr (6, fs_rd)), (tp, .inr (9, fs_tp)), (ba, .inl (cB, 900, .inl fb)), (ra, .inr (5, [.long u0, .long w0])), (dr, .inr (3, fs_dr)), (hd, .inr (4, fs_hd)), (mm, .inr (11, fs_mm)), (mb, .inl (cM, 900, .inl fM)), (x, .inr (10, fs_x)), (li, .inr (3, fs_li)), (ho, .inr (4, fs_ho))] H := hP
      have hD : va_D A [(rd, .inr (6, fs_rd)), (tp, .inr (9, fs_tp)), (ba, .inl (cB, 900, .inl fb)), (ra, .inr (5, [.long u0, .long w0])), (dr, .inr (3, fs_dr)), (hd, .inr (4, fs_hd)), (mm, .inr (11, fs_mm)), (mb, .inl (cM, 900, .inl fM)), (x, .inr (10, fs_x)), (li, .inr (3, fs_li)), (ho, .inr (4, fs_ho))] := hD
      have er_593 : r_593 = 1 := hw
      subst er_593
      refine lv_istore (lv' := [(5, .int 1), (4, .int 0), (3, .ref lo), (2, .ref mm), (1, .ref x), (0, .ref b)]) hx hb dL_law_1810 hl (by decide) rfl (fun ls hl => ?_)
      refine lv_aload_n hx hb dL_law_1812 rfl (lv_at hl 3 rfl) ?_
      refine lv_aload_n hx hb dL_law_1813 rfl (lv_at hl 5 rfl) ?_
      refine lv_iload hx hb dL_law_1814 (lv_at hl 1 rfl) ?_
      refine lv_iconst (v := 1) hx hb dL_law_1816 (by decide) ?_
      refine lv_iadd hx hb dL_law_1817 ?_
      refine lv_topi (fun z_594 ez_594 => ?_)
      obtain rfl : z_594 = 1 := ez_594.trans (by decide)
      refine va_sld hx hb hX hbl hbA hS (vp_in_nI (n := 1) (by decide) (by decide)) dL_law_1818 ?_
      have hPc := hP.sub (ws' := [(mm, .inr (11, fs_mm))]) [6] rfl
      have hDc := hD.sub (ws' := [(mm, .inr (11, fs_mm))]) [6] (by decide) rfl
      have hKc := hK.sub (tys' := []) [] rfl
      have hFc := va_free (wc := [(mm, .inr (11, fs_mm))]) hD hS hA [6] rfl
      refine va_calli (va_runV (As := [.int (xs (1 : Int32).toNatClampNeg)]) (rest := []) ⟨hx, hb, hml, hown, hts⟩ (k_X12_holiday l dC dI H.size mm fs_mm (xs (1 : Int32).toNatClampNeg) hn_mm hf_mm_22) (cwV 1 hts gL0_X12_holiday rfl rfl rfl (by decide +kernel) ⟨Nat.le_of_ble_eq_true rfl, Nat.le_of_ble_eq_true rfl⟩) ⟨fun a U g mk q => by obtain ⟨q0, q1, qP, qK, qD⟩ := q; exact ⟨q0, q1, qP, va_K.moved (u := U) (U := U.calling g mk a) (Vm.Alike.refl U.vm) qK, qD⟩, va_recv hKc hPc (ci := 11) (q0 := 0) rfl rfl, fun U hU hW => ⟨rfl, by rw [hU], by rw [hU]; exact hPc, va_K.moved hW.alike hKc, hDc.weaken (fun _ _ _ _ => trivial)⟩⟩ rfl rfl hl.1 rfl (lv_room (Nat.le_of_ble_eq_true rfl)) dL_law_1819 ⟨Nat.le_of_ble_eq_true rfl, Nat.le_of_ble_eq_true rfl⟩) hS (fun q _ h => hFc q h) hFc (fun r_595 u t H1 locs ht hvm hw hB hz1 hk1 hS => ?_)
      obtain ⟨hP1, hK1, hD1⟩ := hB
      rw [ht] at hP1
      have hK1 := va_K.moved hvm.symm hK1
      obtain ⟨hP, hD⟩ := va_join (wr := [(rd, .inr (6, fs_rd)), (tp, .inr (9, fs_tp)), (ba, .inl (cB, 900, .inl fb)), (ra, .inr (5, [.long u0, .long w0])), (dr, .inr (3, fs_dr)), (hd, .inr (4, fs_hd)), (mb, .inl (cM, 900, .inl fM)), (x, .inr (10, fs_x)), (li, .inr (3, fs_li)), (ho, .inr (4, fs_ho))]) (w1 := [(mm, .inr (11, (fs_mm.set 0 (.int 1))))]) hP hD [6] [0, 1, 2, 3, 4, 5, 7, 8, 9, 10] rfl rfl (by decide) (by decide) hk1 hFc hP1 hD1
      generalize H1 = H at hP hS ⊢
      have hP : va_P (dC, dI) vwCl [(rd, .inr (6, fs_rd)), (tp, .inr (9, fs_tp)), (ba, .inl (cB, 900, .inl fb)), (ra, .inr (5, [.long u0, .long w0])), (dr, .inr (3, fs_dr)), (hd, .inr (4, fs_hd)), (mb, .inl (cM, 900, .inl fM)), (x, .inr (10, fs_x)), (li, .inr (3, fs_li)), (ho, .inr (4, fs_ho)), (mm, .inr (11, (fs_mm.set 0 (.int 1))))] H := hP
      have hD : va_D A [(rd, .inr (6, fs_rd)), (tp, .inr (9, fs_tp)), (ba, .inl (cB, 900, .inl fb)), (ra, .inr (5, [.long u0, .long w0])), (dr, .inr (3, fs_dr)), (hd, .inr (4, fs_hd)), (mb, .inl (cM, 900, .inl fM)), (x, .inr (10, fs_x)), (li, .inr (3, fs_li)), (ho, .inr (4, fs_ho)), (mm, .inr (11, (fs_mm.set 0 (.int 1))))] := hD
      have er_595 : r_595 = 0 := hw
      subst er_595
      refine lv_istore (lv' := [(6, .int 0), (5, .int 1), (4, .int 0), (3, .ref lo), (2, .ref mm), (1, .ref x), (0, .ref b)]) hx hb dL_law_1822 hl (by decide) rfl (fun ls hl => ?_)
      refine lv_aload_n hx hb dL_law_1824 rfl (lv_at hl 4 rfl) ?_
      have hPc := hP.sub (ws' := [(mm, .inr (11, (fs_mm.set 0 (.int 1))))]) [10] rfl
      have hDc := hD.sub (ws' := [(mm, .inr (11, (fs_mm.set 0 (.int 1))))]) [10] (by decide) rfl
      have hKc := hK.sub (tys' := []) [] rfl
      have hFc := va_free (wc := [(mm, .inr (11, (fs_mm.set 0 (.int 1))))]) hD hS hA [10] rfl
      refine va_calli (va_runV (As := []) (rest := []) ⟨hx, hb, hml, hown, hts⟩ (k_X12_thrown l dC dI H.size mm (fs_mm.set 0 (.int 1)) (List.length_set.trans hn_mm) (List.getElem?_set_self (by rw [hn_mm]; decide))) (cwV 0 hts gL0_X12_thrown rfl rfl rfl (by decide +kernel) ⟨Nat.le_of_ble_eq_true rfl, Nat.le_of_ble_eq_true rfl⟩) ⟨fun a U g mk q => by obtain ⟨q0, q1, qP, qK, qD⟩ := q; exact ⟨q0, q1, qP, va_K.moved (u := U) (U := U.calling g mk a) (Vm.Alike.refl U.vm) qK, qD⟩, va_recv hKc hPc (ci := 11) (q0 := 0) rfl rfl, fun U hU hW => ⟨rfl, by rw [hU], by rw [hU]; exact hPc, va_K.moved hW.alike hKc, hDc.weaken (fun _ _ _ _ => trivial)⟩⟩ rfl rfl hl.1 rfl (lv_room (Nat.le_of_ble_eq_true rfl)) dL_law_1825 ⟨Nat.le_of_ble_eq_true rfl, Nat.le_of_ble_eq_true rfl⟩) hS (fun q _ h => hFc q h) hFc (fun r_596 u t H1 locs ht hvm hw hB hz1 hk1 hS => ?_)
      obtain ⟨hP1, hK1, hD1⟩ := hB
      rw [ht] at hP1
      have hK1 := va_K.moved hvm.symm hK1
      obtain ⟨hP, hD⟩ := va_join (wr := [(rd, .inr (6, fs_rd)), (tp, .inr (9, fs_tp)), (ba, .inl (cB, 900, .inl fb)), (ra, .inr (5, [.long u0, .long w0])), (dr, .inr (3, fs_dr)), (hd, .inr (4, fs_hd)), (mb, .inl (cM, 900, .inl fM)), (x, .inr (10, fs_x)), (li, .inr (3, fs_li)), (ho, .inr (4, fs_ho))]) (w1 := []) hP hD [10] [0, 1, 2, 3, 4, 5, 6, 7, 8, 9] rfl rfl (by decide) (by decide) hk1 hFc hP1 hD1
      generalize H1 = H at hP hS ⊢
      have hP : va_P (dC, dI) vwCl [(rd, .inr (6, fs_rd)), (tp, .inr (9, fs_tp)), (ba, .inl (cB, 900, .inl fb)), (ra, .inr (5, [.long u0, .long w0])), (dr, .inr (3, fs_dr)), (hd, .inr (4, fs_hd)), (mb, .inl (cM, 900, .inl fM)), (x, .inr (10, fs_x)), (li, .inr (3, fs_li)), (ho, .inr (4, fs_ho))] H := hP
      have hD : va_D A [(rd, .inr (6, fs_rd)), (tp, .inr (9, fs_tp)), (ba, .inl (cB, 900, .inl fb)), (ra, .inr (5, [.long u0, .long w0])), (dr, .inr (3, fs_dr)), (hd, .inr (4, fs_hd)), (mb, .inl (cM, 900, .inl fM)), (x, .inr (10, fs_x)), (li, .inr (3, fs_li)), (ho, .inr (4, fs_ho))] := hD
      have er_596 : r_596 = 1 := hw
      subst er_596
      refine lv_iload hx hb dL_law_1828 (lv_at hl 1 rfl) ?_
      refine lv_icmp_eq (tgt := 1835) hx hb dL_law_1830 (by decide) (fun c_597 => ?_) (fun c_597 => ?_)
      · refine lv_iload hx hb dL_law_1835 (lv_at hl 1 rfl) ?_
        refine lv_if_ne (tgt := 1852) hx hb dL_law_1837 (by decide) (fun c_598 => ?_) (fun c_598 => ?_)
        · refine lv_goto (tgt := 1893) hx hb dL_law_1852 (by decide) ?_
          refine lv_iinc (v := 6) (lv' := [(4, .int 6), (6, .int 0), (5, .int 1), (3, .ref lo), (2, .ref mm), (1, .ref x), (0, .ref b)]) hx hb dL_law_1893 hl (k := 2) rfl (by decide) (by decide) rfl (fun ls hl => ?_)
          refine lv_goto (tgt := 23) hx hb dL_law_1896 (by decide) ?_
          refine lv_iload hx hb dL_law_23 (lv_at hl 0 rfl) ?_
          refine lv_aload_n hx hb dL_law_25 rfl (lv_at hl 6 rfl) ?_
          refine va_slen hx hb hX hbl hbA hS dL_law_26 ?_
          refine lv_topi (fun z_600 ez_600 => ?_)
          obtain rfl : z_600 = 6 := ez_600.trans rfl
          refine lv_bipush (v := 6) hx hb dL_law_27 (by decide) ?_
          refine lv_isub hx hb dL_law_29 ?_
          refine lv_topi (fun z_601 ez_601 => ?_)
          obtain rfl : z_601 = 0 := ez_601.trans (by decide)
          refine lv_icmp_gt (tgt := 1899) hx hb dL_law_30 (by decide) (fun c_602 => ?_) (fun c_602 => ?_)
          · refine lv_iconst (v := 1) hx hb dL_law_1899 (by decide) ?_
            refine va_forget (fun q hq => by have h9 := hS.2.2 q hq; rw [← hAe] at h9; exact h9) ?_
            refine W.widen (k := 600002) (n := 7302232) (Nat.le_of_ble_eq_true rfl) (Nat.le_of_ble_eq_true rfl) ?_
            exact lw_ret hd0 hx hb hr hlocks dL_law_1900
          · exact absurd (by decide) c_602
        · exact absurd c_598 (by decide)
      · exact absurd (by decide) c_597
    by_cases c_603 : ((xs (0 : Int32).toNatClampNeg) &&& 63) = 41
    · refine lv_tableIn (tgt := 1855) hx hb dL_law_40 (by rw [c_603]; decide) (by rw [c_603]; decide) (by rw [c_603]; rfl) (by decide) ?_
      refine lv_aload_n hx hb dL_law_1855 rfl (lv_at hl 3 rfl) ?_
      refine lv_aload_n hx hb dL_law_1856 rfl (lv_at hl 4 rfl) ?_
      refine lv_iload hx hb dL_law_1857 (lv_at hl 0 rfl) ?_
      refine lv_iconst (v := 1) hx hb dL_law_1859 (by decide) ?_
      refine lv_iadd hx hb dL_law_1860 ?_
      refine lv_topi (fun z_604 ez_604 => ?_)
      obtain rfl : z_604 = 1 := ez_604.trans (by decide)
      refine va_sld hx hb hX hbl hbA hS (vp_in_nI (n := 1) (by decide) (by decide)) dL_law_1861 ?_
      have hPc := hP.sub (ws' := [(x, .inr (10, fs_x)), (rd, .inr (6, fs_rd)), (tp, .inr (9, fs_tp)), (li, .inr (3, fs_li)), (ho, .inr (4, fs_ho))]) [0, 1, 2, 5, 6] rfl
      have hDc := hD.sub (ws' := [(x, .inr (10, fs_x)), (rd, .inr (6, fs_rd)), (tp, .inr (9, fs_tp)), (li, .inr (3, fs_li)), (ho, .inr (4, fs_ho))]) [0, 1, 2, 5, 6] (by decide) rfl
      have hKc := hK.sub (tys' := []) [] rfl
      have hFc := va_free (wc := [(x, .inr (10, fs_x)), (rd, .inr (6, fs_rd)), (tp, .inr (9, fs_tp)), (li, .inr (3, fs_li)), (ho, .inr (4, fs_ho))]) hD hS hA [0, 1, 2, 5, 6] rfl
      refine va_calli (va_runV (As := [.int (xs (1 : Int32).toNatClampNeg)]) (rest := []) ⟨hx, hb, hml, hown, hts⟩ (k_X11_size l dC dI H.size x fs_x rd fs_rd tp fs_tp li fs_li ho fs_ho (xs (1 : Int32).toNatClampNeg) hn_x hf_x_0 hf_x_8 hf_x_11 hn_rd hf_rd_0 hn_tp hf_tp_1 hn_li hf_li_2 hf_li_4 hf_li_9 hn_ho hf_ho_1) (cwV 1 hts gL0_X11_size rfl rfl rfl (by decide +kernel) ⟨Nat.le_of_ble_eq_true rfl, Nat.le_of_ble_eq_true rfl⟩) ⟨fun a U g mk q => by obtain ⟨q0, q1, qP, qK, qD⟩ := q; exact ⟨q0, q1, qP, va_K.moved (u := U) (U := U.calling g mk a) (Vm.Alike.refl U.vm) qK, qD⟩, va_recv hKc hPc (ci := 10) (q0 := 0) rfl rfl, fun U hU hW => ⟨rfl, by rw [hU], by rw [hU]; exact hPc, va_K.moved hW.alike hKc, hDc.weaken (fun _ _ _ _ => trivial)⟩⟩ rfl rfl hl.1 rfl (lv_room (Nat.le_of_ble_eq_true rfl)) dL_law_1862 ⟨Nat.le_of_ble_eq_true rfl, Nat.le_of_ble_eq_true rfl⟩) hS (fun q _ h => hFc q h) hFc (fun r_605 u t H1 locs ht hvm hw hB hz1 hk1 hS => ?_)
      obtain ⟨hP1, hK1, hD1⟩ := hB
      rw [ht] at hP1
      have hK1 := va_K.moved hvm.symm hK1
      obtain ⟨hP, hD⟩ := va_join (wr := [(ba, .inl (cB, 900, .inl fb)), (ra, .inr (5, [.long u0, .long w0])), (dr, .inr (3, fs_dr)), (hd, .inr (4, fs_hd)), (mm, .inr (11, fs_mm)), (mb, .inl (cM, 900, .inl fM))]) (w1 := []) hP hD [0, 1, 2, 5, 6] [3, 4, 7, 8, 9, 10] rfl rfl (by decide) (by decide) hk1 hFc hP1 hD1
      generalize H1 = H at hP hS ⊢
      have hP : va_P (dC, dI) vwCl [(ba, .inl (cB, 900, .inl fb)), (ra, .inr (5, [.long u0, .long w0])), (dr, .inr (3, fs_dr)), (hd, .inr (4, fs_hd)), (mm, .inr (11, fs_mm)), (mb, .inl (cM, 900, .inl fM))] H := hP
      have hD : va_D A [(ba, .inl (cB, 900, .inl fb)), (ra, .inr (5, [.long u0, .long w0])), (dr, .inr (3, fs_dr)), (hd, .inr (4, fs_hd)), (mm, .inr (11, fs_mm)), (mb, .inl (cM, 900, .inl fM))] := hD
      have er_605 : r_605 = f_X11_size (xs (1 : Int32).toNatClampNeg) := hw
      refine lv_aload_n hx hb dL_law_1865 rfl (lv_at hl 2 rfl) ?_
      refine lv_aload_n hx hb dL_law_1866 rfl (lv_at hl 4 rfl) ?_
      refine lv_iload hx hb dL_law_1867 (lv_at hl 0 rfl) ?_
      refine lv_iconst (v := 1) hx hb dL_law_1869 (by decide) ?_
      refine lv_iadd hx hb dL_law_1870 ?_
      refine lv_topi (fun z_606 ez_606 => ?_)
      obtain rfl : z_606 = 1 := ez_606.trans (by decide)
      refine va_sld hx hb hX hbl hbA hS (vp_in_nI (n := 1) (by decide) (by decide)) dL_law_1871 ?_
      have hPc := hP.sub (ws' := [(mm, .inr (11, fs_mm))]) [4] rfl
      have hDc := hD.sub (ws' := [(mm, .inr (11, fs_mm))]) [4] (by decide) rfl
      have hKc := hK.sub (tys' := []) [] rfl
      have hFc := va_free (wc := [(mm, .inr (11, fs_mm))]) hD hS hA [4] rfl
      refine va_calli (va_runV (As := [.int (xs (1 : Int32).toNatClampNeg)]) (rest := [.int r_605]) ⟨hx, hb, hml, hown, hts⟩ (k_X12_size l dC dI H.size mm fs_mm (xs (1 : Int32).toNatClampNeg) hn_mm hf_mm_20 hf_mm_21 hf_mm_22 hf_mm_31 hf_mm_68) (cwV 1 hts gL0_X12_size rfl rfl rfl (by decide +kernel) ⟨Nat.le_of_ble_eq_true rfl, Nat.le_of_ble_eq_true rfl⟩) ⟨fun a U g mk q => by obtain ⟨q0, q1, qP, qK, qD⟩ := q; exact ⟨q0, q1, qP, va_K.moved (u := U) (U := U.calling g mk a) (Vm.Alike.refl U.vm) qK, qD⟩, va_recv hKc hPc (ci := 11) (q0 := 0) rfl rfl, fun U hU hW => ⟨rfl, by rw [hU], by rw [hU]; exact hPc, va_K.moved hW.alike hKc, hDc.weaken (fun _ _ _ _ => trivial)⟩⟩ rfl rfl hl.1 rfl (lv_room (Nat.le_of_ble_eq_true rfl)) dL_law_1872 ⟨Nat.le_of_ble_eq_true rfl, Nat.le_of_ble_eq_true rfl⟩) hS (fun q _ h => hFc q h) hFc (fun r_607 u t H1 locs ht hvm hw hB hz1 hk1 hS => ?_)
      obtain ⟨hP1, hK1, hD1⟩ := hB
      rw [ht] at hP1
      have hK1 := va_K.moved hvm.symm hK1
      obtain ⟨hP, hD⟩ := va_join (wr := [(ba, .inl (cB, 900, .inl fb)), (ra, .inr (5, [.long u0, .long w0])), (dr, .inr (3, fs_dr)), (hd, .inr (4, fs_hd)), (mb, .inl (cM, 900, .inl fM))]) (w1 := []) hP hD [4] [0, 1, 2, 3, 5] rfl rfl (by decide) (by decide) hk1 hFc hP1 hD1
      generalize H1 = H at hP hS ⊢
      have hP : va_P (dC, dI) vwCl [(ba, .inl (cB, 900, .inl fb)), (ra, .inr (5, [.long u0, .long w0])), (dr, .inr (3, fs_dr)), (hd, .inr (4, fs_hd)), (mb, .inl (cM, 900, .inl fM))] H := hP
      have hD : va_D A [(ba, .inl (cB, 900, .inl fb)), (ra, .inr (5, [.long u0, .long w0])), (dr, .inr (3, fs_dr)), (hd, .inr (4, fs_hd)), (mb, .inl (cM, 900, .inl fM))] := hD
      have er_607 : r_607 = f_X12_size (xs (1 : Int32).toNatClampNeg) := hw
      refine lv_icmp_eq (tgt := 1893) hx hb dL_law_1875 (by decide) (fun c_608 => ?_) (fun c_608 => ?_)
      · refine lv_iinc (v := 6) (lv' := [(4, .int 6), (3, .ref lo), (2, .ref mm), (1, .ref x), (0, .ref b)]) hx hb dL_law_1893 hl (k := 0) rfl (by decide) (by decide) rfl (fun ls hl => ?_)
        refine lv_goto (tgt := 23) hx hb dL_law_1896 (by decide) ?_
        refine lv_iload hx hb dL_law_23 (lv_at hl 0 rfl) ?_
        refine lv_aload_n hx hb dL_law_25 rfl (lv_at hl 4 rfl) ?_
        refine va_slen hx hb hX hbl hbA hS dL_law_26 ?_
        refine lv_topi (fun z_610 ez_610 => ?_)
        obtain rfl : z_610 = 6 := ez_610.trans rfl
        refine lv_bipush (v := 6) hx hb dL_law_27 (by decide) ?_
        refine lv_isub hx hb dL_law_29 ?_
        refine lv_topi (fun z_611 ez_611 => ?_)
        obtain rfl : z_611 = 0 := ez_611.trans (by decide)
        refine lv_icmp_gt (tgt := 1899) hx hb dL_law_30 (by decide) (fun c_612 => ?_) (fun c_612 => ?_)
        · refine lv_iconst (v := 1) hx hb dL_law_1899 (by decide) ?_
          refine va_forget (fun q hq => by have h9 := hS.2.2 q hq; rw [← hAe] at h9; exact h9) ?_
          refine W.widen (k := 600002) (n := 7302232) (Nat.le_of_ble_eq_true rfl) (Nat.le_of_ble_eq_true rfl) ?_
          exact lw_ret hd0 hx hb hr hlocks dL_law_1900
        · exact absurd (by decide) c_612
      · exact absurd (er_605.trans ((q_size _).trans er_607.symm)) c_608
    by_cases c_613 : ((xs (0 : Int32).toNatClampNeg) &&& 63) = 42
    · refine lv_tableIn (tgt := 1880) hx hb dL_law_40 (by rw [c_613]; decide) (by rw [c_613]; decide) (by rw [c_613]; rfl) (by decide) ?_
      refine lv_aload_n hx hb dL_law_1880 rfl (lv_at hl 3 rfl) ?_
      have hPc := hP.sub (ws' := [(x, .inr (10, fs_x))]) [0] rfl
      have hDc := hD.sub (ws' := [(x, .inr (10, fs_x))]) [0] (by decide) rfl
      have hKc := hK.sub (tys' := []) [] rfl
      have hFc := va_free (wc := [(x, .inr (10, fs_x))]) hD hS hA [0] rfl
      refine va_calli (va_runV (As := []) (rest := []) ⟨hx, hb, hml, hown, hts⟩ (k_X11_trouble l dC dI H.size x fs_x hn_x hf_x_12) (cwV 0 hts gL0_X11_trouble rfl rfl rfl (by decide +kernel) ⟨Nat.le_of_ble_eq_true rfl, Nat.le_of_ble_eq_true rfl⟩) ⟨fun a U g mk q => by obtain ⟨q0, q1, qP, qK, qD⟩ := q; exact ⟨q0, q1, qP, va_K.moved (u := U) (U := U.calling g mk a) (Vm.Alike.refl U.vm) qK, qD⟩, va_recv hKc hPc (ci := 10) (q0 := 0) rfl rfl, fun U hU hW => ⟨rfl, by rw [hU], by rw [hU]; exact hPc, va_K.moved hW.alike hKc, hDc.weaken (fun _ _ _ _ => trivial)⟩⟩ rfl rfl hl.1 rfl (lv_room (Nat.le_of_ble_eq_true rfl)) dL_law_1881 ⟨Nat.le_of_ble_eq_true rfl, Nat.le_of_ble_eq_true rfl⟩) hS (fun q _ h => hFc q h) hFc (fun r_614 u t H1 locs ht hvm hw hB hz1 hk1 hS => ?_)
      obtain ⟨hP1, hK1, hD1⟩ := hB
      rw [ht] at hP1
      have hK1 := va_K.moved hvm.symm hK1
      obtain ⟨hP, hD⟩ := va_join (wr := [(rd, .inr (6, fs_rd)), (tp, .inr (9, fs_tp)), (ba, .inl (cB, 900, .inl fb)), (ra, .inr (5, [.long u0, .long w0])), (li, .inr (3, fs_li)), (ho, .inr (4, fs_ho)), (dr, .inr (3, fs_dr)), (hd, .inr (4, fs_hd)), (mm, .inr (11, fs_mm)), (mb, .inl (cM, 900, .inl fM))]) (w1 := []) hP hD [0] [1, 2, 3, 4, 5, 6, 7, 8, 9, 10] rfl rfl (by decide) (by decide) hk1 hFc hP1 hD1
      generalize H1 = H at hP hS ⊢
      have hP : va_P (dC, dI) vwCl [(rd, .inr (6, fs_rd)), (tp, .inr (9, fs_tp)), (ba, .inl (cB, 900, .inl fb)), (ra, .inr (5, [.long u0, .long w0])), (li, .inr (3, fs_li)), (ho, .inr (4, fs_ho)), (dr, .inr (3, fs_dr)), (hd, .inr (4, fs_hd)), (mm, .inr (11, fs_mm)), (mb, .inl (cM, 900, .inl fM))] H := hP
      have hD : va_D A [(rd, .inr (6, fs_rd)), (tp, .inr (9, fs_tp)), (ba, .inl (cB, 900, .inl fb)), (ra, .inr (5, [.long u0, .long w0])), (li, .inr (3, fs_li)), (ho, .inr (4, fs_ho)), (dr, .inr (3, fs_dr)), (hd, .inr (4, fs_hd)), (mm, .inr (11, fs_mm)), (mb, .inl (cM, 900, .inl fM))] := hD
      have er_614 : r_614 = 0 := hw
      subst er_614
      refine lv_aload_n hx hb dL_law_1884 rfl (lv_at hl 2 rfl) ?_
      have hPc := hP.sub (ws' := [(mm, .inr (11, fs_mm))]) [8] rfl
      have hDc := hD.sub (ws' := [(mm, .inr (11, fs_mm))]) [8] (by decide) rfl
      have hKc := hK.sub (tys' := []) [] rfl
      have hFc := va_free (wc := [(mm, .inr (11, fs_mm))]) hD hS hA [8] rfl
      refine va_calli (va_runV (As := []) (rest := [.int 0]) ⟨hx, hb, hml, hown, hts⟩ (k_X12_trouble l dC dI H.size mm fs_mm hn_mm hf_mm_1) (cwV 0 hts gL0_X12_trouble rfl rfl rfl (by decide +kernel) ⟨Nat.le_of_ble_eq_true rfl, Nat.le_of_ble_eq_true rfl⟩) ⟨fun a U g mk q => by obtain ⟨q0, q1, qP, qK, qD⟩ := q; exact ⟨q0, q1, qP, va_K.moved (u := U) (U := U.calling g mk a) (Vm.Alike.refl U.vm) qK, qD⟩, va_recv hKc hPc (ci := 11) (q0 := 0) rfl rfl, fun U hU hW => ⟨rfl, by rw [hU], by rw [hU]; exact hPc, va_K.moved hW.alike hKc, hDc.weaken (fun _ _ _ _ => trivial)⟩⟩ rfl rfl hl.1 rfl (lv_room (Nat.le_of_ble_eq_true rfl)) dL_law_1885 ⟨Nat.le_of_ble_eq_true rfl, Nat.le_of_ble_eq_true rfl⟩) hS (fun q _ h => hFc q h) hFc (fun r_615 u t H1 locs ht hvm hw hB hz1 hk1 hS => ?_)
      obtain ⟨hP1, hK1, hD1⟩ := hB
      rw [ht] at hP1
      have hK1 := va_K.moved hvm.symm hK1
      obtain ⟨hP, hD⟩ := va_join (wr := [(rd, .inr (6, fs_rd)), (tp, .inr (9, fs_tp)), (ba, .inl (cB, 900, .inl fb)), (ra, .inr (5, [.long u0, .long w0])), (li, .inr (3, fs_li)), (ho, .inr (4, fs_ho)), (dr, .inr (3, fs_dr)), (hd, .inr (4, fs_hd)), (mb, .inl (cM, 900, .inl fM))]) (w1 := []) hP hD [8] [0, 1, 2, 3, 4, 5, 6, 7, 9] rfl rfl (by decide) (by decide) hk1 hFc hP1 hD1
      generalize H1 = H at hP hS ⊢
      have hP : va_P (dC, dI) vwCl [(rd, .inr (6, fs_rd)), (tp, .inr (9, fs_tp)), (ba, .inl (cB, 900, .inl fb)), (ra, .inr (5, [.long u0, .long w0])), (li, .inr (3, fs_li)), (ho, .inr (4, fs_ho)), (dr, .inr (3, fs_dr)), (hd, .inr (4, fs_hd)), (mb, .inl (cM, 900, .inl fM))] H := hP
      have hD : va_D A [(rd, .inr (6, fs_rd)), (tp, .inr (9, fs_tp)), (ba, .inl (cB, 900, .inl fb)), (ra, .inr (5, [.long u0, .long w0])), (li, .inr (3, fs_li)), (ho, .inr (4, fs_ho)), (dr, .inr (3, fs_dr)), (hd, .inr (4, fs_hd)), (mb, .inl (cM, 900, .inl fM))] := hD
      have er_615 : r_615 = 0 := hw
      subst er_615
      refine lv_icmp_eq (tgt := 1893) hx hb dL_law_1888 (by decide) (fun c_616 => ?_) (fun c_616 => ?_)
      · refine lv_iinc (v := 6) (lv' := [(4, .int 6), (3, .ref lo), (2, .ref mm), (1, .ref x), (0, .ref b)]) hx hb dL_law_1893 hl (k := 0) rfl (by decide) (by decide) rfl (fun ls hl => ?_)
        refine lv_goto (tgt := 23) hx hb dL_law_1896 (by decide) ?_
        refine lv_iload hx hb dL_law_23 (lv_at hl 0 rfl) ?_
        refine lv_aload_n hx hb dL_law_25 rfl (lv_at hl 4 rfl) ?_
        refine va_slen hx hb hX hbl hbA hS dL_law_26 ?_
        refine lv_topi (fun z_618 ez_618 => ?_)
        obtain rfl : z_618 = 6 := ez_618.trans rfl
        refine lv_bipush (v := 6) hx hb dL_law_27 (by decide) ?_
        refine lv_isub hx hb dL_law_29 ?_
        refine lv_topi (fun z_619 ez_619 => ?_)
        obtain rfl : z_619 = 0 := ez_619.trans (by decide)
        refine lv_icmp_gt (tgt := 1899) hx hb dL_law_30 (by decide) (fun c_620 => ?_) (fun c_620 => ?_)
        · refine lv_iconst (v := 1) hx hb dL_law_1899 (by decide) ?_
          refine va_forget (fun q hq => by have h9 := hS.2.2 q hq; rw [← hAe] at h9; exact h9) ?_
          refine W.widen (k := 600002) (n := 7302232) (Nat.le_of_ble_eq_true rfl) (Nat.le_of_ble_eq_true rfl) ?_
          exact lw_ret hd0 hx hb hr hlocks dL_law_1900
        · exact absurd (by decide) c_620
      · exact absurd (by decide) c_616
    refine lv_tableOut (tgt := 1893) hx hb dL_law_40 (by have q0 := lv_neT (a := 0) c_4 rfl; have q1 := lv_neT (a := 1) c_22 rfl; have q2 := lv_neT (a := 2) c_32 rfl; have q3 := lv_neT (a := 3) c_40 rfl; have q4 := lv_neT (a := 4) c_48 rfl; have q5 := lv_neT (a := 5) c_60 rfl; have q6 := lv_neT (a := 6) c_70 rfl; have q7 := lv_neT (a := 7) c_97 rfl; have q8 := lv_neT (a := 8) c_107 rfl; have q9 := lv_neT (a := 9) c_119 rfl; have q10 := lv_neT (a := 10) c_149 rfl; have q11 := lv_neT (a := 11) c_161 rfl; have q12 := lv_neT (a := 12) c_173 rfl; have q13 := lv_neT (a := 13) c_187 rfl; have q14 := lv_neT (a := 14) c_216 rfl; have q15 := lv_neT (a := 15) c_245 rfl; have q16 := lv_neT (a := 16) c_257 rfl; have q17 := lv_neT (a := 17) c_271 rfl; have q18 := lv_neT (a := 18) c_283 rfl; have q19 := lv_neT (a := 19) c_295 rfl; have q20 := lv_neT (a := 20) c_324 rfl; have q21 := lv_neT (a := 21) c_353 rfl; have q22 := lv_neT (a := 22) c_368 rfl; have q23 := lv_neT (a := 23) c_383 rfl; have q24 := lv_neT (a := 24) c_398 rfl; have q25 := lv_neT (a := 25) c_433 rfl; have q26 := lv_neT (a := 26) c_447 rfl; have q27 := lv_neT (a := 27) c_461 rfl; have q28 := lv_neT (a := 28) c_473 rfl; have q29 := lv_neT (a := 29) c_484 rfl; have q30 := lv_neT (a := 30) c_492 rfl; have q31 := lv_neT (a := 31) c_500 rfl; have q32 := lv_neT (a := 32) c_508 rfl; have q33 := lv_neT (a := 33) c_517 rfl; have q34 := lv_neT (a := 34) c_527 rfl; have q35 := lv_neT (a := 35) c_538 rfl; have q36 := lv_neT (a := 36) c_553 rfl; have q37 := lv_neT (a := 37) c_564 rfl; have q38 := lv_neT (a := 38) c_575 rfl; have q39 := lv_neT (a := 39) c_583 rfl; have q40 := lv_neT (a := 40) c_591 rfl; have q41 := lv_neT (a := 41) c_603 rfl; have q42 := lv_neT (a := 42) c_613 rfl; omega) (by decide) ?_
    refine lv_iinc (v := 6) (lv' := [(4, .int 6), (3, .ref lo), (2, .ref mm), (1, .ref x), (0, .ref b)]) hx hb dL_law_1893 hl (k := 0) rfl (by decide) (by decide) rfl (fun ls hl => ?_)
    refine lv_goto (tgt := 23) hx hb dL_law_1896 (by decide) ?_
    refine lv_iload hx hb dL_law_23 (lv_at hl 0 rfl) ?_
    refine lv_aload_n hx hb dL_law_25 rfl (lv_at hl 4 rfl) ?_
    refine va_slen hx hb hX hbl hbA hS dL_law_26 ?_
    refine lv_topi (fun z_622 ez_622 => ?_)
    obtain rfl : z_622 = 6 := ez_622.trans rfl
    refine lv_bipush (v := 6) hx hb dL_law_27 (by decide) ?_
    refine lv_isub hx hb dL_law_29 ?_
    refine lv_topi (fun z_623 ez_623 => ?_)
    obtain rfl : z_623 = 0 := ez_623.trans (by decide)
    refine lv_icmp_gt (tgt := 1899) hx hb dL_law_30 (by decide) (fun c_624 => ?_) (fun c_624 => ?_)
    · refine lv_iconst (v := 1) hx hb dL_law_1899 (by decide) ?_
      refine va_forget (fun q hq => by have h9 := hS.2.2 q hq; rw [← hAe] at h9; exact h9) ?_
      refine W.widen (k := 600002) (n := 7302232) (Nat.le_of_ble_eq_true rfl) (Nat.le_of_ble_eq_true rfl) ?_
      exact lw_ret hd0 hx hb hr hlocks dL_law_1900
    · exact absurd (by decide) c_624
