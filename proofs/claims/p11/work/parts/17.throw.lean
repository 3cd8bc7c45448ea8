section HX
variable {p : Program} {l : Launch} {e : Env} {R : Room} {s : State} {m : MethodId} {args : Array Value} {below : List Frame} {meth : Method} {c : Code} {locs : List Loc} {cells slots : Nat}
/-- NoSuchElementException(String): its super's link has the number 13, not 7 -/
def hx_b : ByteArray := ⟨#[0x2a, 0x2b, 0xb7, 0x00, 0x0d, 0xb1]⟩
def hx_X : String := "java/util/NoSuchElementException"
def hx_Y : String := "java/lang/RuntimeException"
def hx_N : List String := ["java/lang/Exception"]
theorem hx_decl {y : MethodName} {bytes : ByteArray} {n : Nat} {ret : Option FieldType} (hi : (Cond.instanceMethod y).before args s = true) (hc : (Cond.code y bytes n ret).before args s = true) : (Cond.declares y).before args s = true := by
  obtain ⟨m1, meth1, hn, hm, hst, -⟩ := Cond.instanceMethod_spec hi
  obtain ⟨meth2, cd, hm2, -, -, -, -, -, -, hsig⟩ := Cond.code_spec hn hc
  cases hm.symm.trans hm2
  simp [Cond.before, Cond.holds, Cond.value, hn, hm, hst, hsig]
/-- the words of the class that is thrown: as the bundle's, but for the first constructor -/
def hx_bad (w : Cond) : Bool := decide (w = Cond.code (Bundle.initS hx_X) Bundle.six 2 none) || (decide (w = Cond.methodLink hx_X 7 (Bundle.initS hx_Y)) || decide (w = Cond.castable hx_X hx_X))
set_option maxHeartbeats 4000000 in
theorem hx_ctor {U0 : State} (X : Stand p l e R s m args below meth c U0 locs cells slots) (hexec : p.tables.exec = Jvm.exec) (htr : e.platform.stackTraces = false) {own : String} {ic : Nat}
    (hown : s.vm.findClass own = some m.cls)
    (h : ∀ w ∈ Bundle.ownAtoms own ic hx_X (hx_Y :: hx_N), hx_bad w = false → w.before args s = true)
    (hc13 : (Cond.code (Bundle.initS hx_X) hx_b 2 none).before args s = true) (hl13 : (Cond.methodLink hx_X 13 (Bundle.initS hx_Y)).before args s = true)
    (hlocs : ∀ x ∈ locs, ∀ cell, s.heap[x.base]? = some cell → cell.vm.isStatics = false)
    {a : Addr} {cX : ClassId} {kX : Class} (hfoundX : s.vm.findClass hx_X = some cX) (hkX : s.vm.classes[cX]? = some kX) (hcell : U0.heap[a]? = some (freshCell cX kX)) (hnew : s.heap.size ≤ a)
    {msg : Value} (hmsg : msg.isRef = true)
    {g : JFrame} (hg : g.method = m) (hsize : g.locals.size = c.maxLocals) (hlocked : g.locked = none) (hentered : g.entered = []) {rest : List Value} (hstack : g.stack = msg :: .ref a :: .ref a :: rest)
    (hd6 : decode c.code g.pc = .ok (.invokespecial ic, 3)) (hd9 : decode c.code (g.pc + 3) = .ok (.athrow, 1)) (hout : ∀ x ∈ c.exceptionTable.toList, covers x (g.pc + 3) = false)
    (hRframes : 5 < R.frames) (hRlocals : 2 * g.monitorRoom + ((Value.ref a :: rest).map fun v => v.category).sum + 81 ≤ R.locals) (hlocks : meth.locks = false) :
    ∃ U : State, Steps p.tables e below (U0.setTop g) U ∧ U.status = .running ∧ Ended U below (.threw a) ∧ s.WarmedH U.vm ∧ s.sameButNew ({ U with vm := s.vm } : State) locs cells slots ∧
      ∃ ce, U.heap[a]? = some ce ∧ s.vm.findClass hx_X = some ce.cls ∧ ce.vm = .none := by
  have hpl : e.platform.magicAccessors = ({} : Platform).magicAccessors := by rw [X.admits.platform]
  have A : ∀ x, x ∈ Bundle.ownAtoms own ic hx_X (hx_Y :: hx_N) → hx_bad x = false → x.holds args s none s [] = true := fun x hx hn => h x hx hn
  obtain ⟨T, Z0, L, -, Y⟩ := ThrowableC.of_atoms (args := args) (s := s) (pl := e.platform) (by rw [X.admits.platform]) (by rw [X.admits.platform]) hpl (fun x hx => h x (by simp [Bundle.ownAtoms, hx]) (by revert x; decide +kernel))
  obtain ⟨Z, M, LZ, LM, hnZ⟩ := Init0T.ofS_atoms (args := args) hpl L Y (fun x hx => h x (by simp [Bundle.ownAtoms, hx]) (by revert x; decide +kernel))
  obtain ⟨P2, Ps, hlen, L2, hL, hP2m, hlink2, hlink⟩ := Bundle.chainS (args := args) (s := s) (pl := e.platform) hpl hnZ hx_N hx_Y (by decide +kernel) (by decide +kernel) (fun x hx => h x (by simp [Bundle.ownAtoms, Bundle.chainSAtoms, hx_N] at hx ⊢; rcases hx with hx | hx <;> simp [hx]) (by revert x; decide +kernel))
  obtain ⟨P1, L1, hP1m, hP1s⟩ := PassC.ofS_atoms (args := args) (s := s) (pl := e.platform) hpl (X := hx_X) (Y := hx_Y) (index := 13) (bytes := hx_b) (by decide +kernel) (by decide +kernel) (by decide +kernel) (by decide +kernel) (by decide +kernel) (by decide +kernel) (fun x hx => by
    simp only [Bundle.passSAtoms, List.mem_cons, List.not_mem_nil, or_false] at hx
    rcases hx with rfl | rfl | rfl | rfl | rfl
    · exact h _ (by simp [Bundle.ownAtoms, Bundle.chainSAtoms, Bundle.passSAtoms]) (by decide +kernel)
    · exact hc13
    · exact hl13
    · exact h _ (by simp [Bundle.ownAtoms, Bundle.chainSAtoms, Bundle.passSAtoms]) (by decide +kernel)
    · exact h _ (by simp [Bundle.ownAtoms, Bundle.chainSAtoms, Bundle.passSAtoms]) (by decide +kernel))
  have hlink1 : P1.sup = P2.m := Option.some.inj (hP1s.symm.trans hP2m)
  have Aat : ∀ x, x ∈ ([Cond.instantiable hx_X 6, .selects hx_X Bundle.tFill0 Bundle.tFill0, .selects hx_X Bundle.tFill Bundle.tFill, .isRef (.static Bundle.tN "UNASSIGNED_STACK" Bundle.steD), .isRef (.static Bundle.tN "SUPPRESSED_SENTINEL" Bundle.listD), .fieldLink Bundle.tN 198 Bundle.tN "backtrace" "Ljava/lang/Object;", .lays Bundle.tN Bundle.tN "backtrace" "Ljava/lang/Object;", .lays hx_X Bundle.tN "cause" "Ljava/lang/Throwable;", .lays hx_X Bundle.tN "stackTrace" Bundle.steD, .lays hx_X Bundle.tN "suppressedExceptions" Bundle.listD, .lays hx_X Bundle.tN "detailMessage" "Ljava/lang/String;", .lays hx_X Bundle.tN "backtrace" "Ljava/lang/Object;"] : List Cond) → x.holds args s none s [] = true := fun x hx => A x (by simp [Bundle.ownAtoms] at hx ⊢; rcases hx with hx | hx | hx | hx | hx | hx | hx | hx | hx | hx | hx | hx <;> simp [hx]) (by revert x; decide +kernel)
  have hfound : s.vm.findClass hx_X = some P1.m.cls := findClass_of_methodNamed hP1m
  cases Option.some.inj (hfoundX.symm.trans hfound)
  obtain ⟨c1, kX', hc1, hk, hord, -, -, hn6⟩ := Cond.instantiable_spec (Aat (.instantiable hx_X 6) (by simp))
  cases Option.some.inj (hc1.symm.trans hfound)
  cases Option.some.inj (hkX.symm.trans hk)
  have hsel0 : selectMethod e.platform s.vm P1.m.cls T.fill0 = .method T.fill0 := by
    obtain ⟨c2, r2, m2, q1, q2, q3, q4, -⟩ := Cond.selects_spec (Aat (.selects hx_X Bundle.tFill0 Bundle.tFill0) (by simp))
    cases Option.some.inj (q1.symm.trans hfound)
    cases Option.some.inj (q2.symm.trans (State.methodFound?_of_named Y.fill0 (by decide)))
    cases Option.some.inj (q3.symm.trans Y.fill0)
    rw [Launch.admits_selectMethod X.admits]; exact q4
  have hselF : selectMethod e.platform s.vm P1.m.cls T.fill = .method T.fill := by
    obtain ⟨c2, r2, m2, q1, q2, q3, q4, -⟩ := Cond.selects_spec (Aat (.selects hx_X Bundle.tFill Bundle.tFill) (by simp))
    cases Option.some.inj (q1.symm.trans hfound)
    cases Option.some.inj (q2.symm.trans (State.methodFound?_of_named Y.fill (by decide)))
    cases Option.some.inj (q3.symm.trans Y.fill)
    rw [Launch.admits_selectMethod X.admits]; exact q4
  obtain ⟨cellS0, hcS0, hiss⟩ := Y.statics
  obtain ⟨u0, hu0⟩ := Cond.staticRefV Y.unassigned L.unassignedStatic L.statics hcS0 hiss (Aat (.isRef (.static Bundle.tN "UNASSIGNED_STACK" Bundle.steD)) (by simp))
  obtain ⟨sen, hsen⟩ := Cond.staticRefV Y.sentinel L.sentinelStatic L.statics hcS0 hiss (Aat (.isRef (.static Bundle.tN "SUPPRESSED_SENTINEL" Bundle.listD)) (by simp))
  obtain ⟨ci198, i198, fB, hk198, hg198, ha198, hsB, -, hnB, htB, hffB⟩ := Cond.ownField (t := .object "java/lang/Object") Y.found L.cls (by decide +kernel) (Aat (.fieldLink Bundle.tN 198 Bundle.tN "backtrace" "Ljava/lang/Object;") (by simp)) (Aat (.lays Bundle.tN Bundle.tN "backtrace" "Ljava/lang/Object;") (by simp)) e.platform hpl
  obtain ⟨cellS, hcS', heS, -, hkeep⟩ := X.same.2.2.2.2.2 T.aS cellS0 hcS0
  have hcellS : U0.heap[T.aS]? = some cellS := hcS'
  have hout' : ∀ i, (⟨T.aS, i⟩ : Loc) ∉ locs := fun i hmem => by
    have h9 := hlocs _ hmem cellS0 hcS0
    rw [hiss] at h9; cases h9
  have hknownS : cellS.vm ≠ .unknown := by
    rw [heS]; intro hu
    rw [show cellS0.vm = .unknown from hu] at hiss
    cases hiss
  have hneS : T.aS ≠ a := Nat.ne_of_lt (Nat.lt_of_lt_of_le (Array.getElem?_eq_some_iff.mp hcS0).1 hnew)
  obtain ⟨iM, hffM⟩ := Y.msg
  obtain ⟨tyC, dC, hdC, hdnC⟩ := Cond.laysAt hfound hk Y.cause (Aat (.lays hx_X Bundle.tN "cause" "Ljava/lang/Throwable;") (by simp))
  obtain ⟨tyS, dS, hdS, hdnS⟩ := Cond.laysAt hfound hk Y.stack (Aat (.lays hx_X Bundle.tN "stackTrace" Bundle.steD) (by simp))
  obtain ⟨tyP, dP, hdP, hdnP⟩ := Cond.laysAt hfound hk Y.supp (Aat (.lays hx_X Bundle.tN "suppressedExceptions" Bundle.listD) (by simp))
  obtain ⟨tyM, dM, hdM, hdnM⟩ := Cond.laysAt hfound hk hffM (Aat (.lays hx_X Bundle.tN "detailMessage" "Ljava/lang/String;") (by simp))
  obtain ⟨tyB, dB, hdB, hdnB⟩ := Cond.laysAt hfound hk hffB (Aat (.lays hx_X Bundle.tN "backtrace" "Ljava/lang/Object;") (by simp))
  have bC := Cond.laysApart hdB hdC hdnB hdnC (by rw [hnB, Y.causeName]; decide)
  have bS := Cond.laysApart hdB hdS hdnB hdnS (by rw [hnB, Y.stackName]; decide)
  have bP := Cond.laysApart hdB hdP hdnB hdnP (by rw [hnB, Y.suppName]; decide)
  have hback := fresh_default (c := P1.m.cls) tyB
  rw [htB] at hback
  have hskip : SkipFacts T e.platform s (fun u => u) u0 ((preparedCellV T.toThrowableT (freshCell P1.m.cls kX) a u0 sen).withEntry U0.cur) := ⟨{ ci198 := ci198, i198 := i198, fBack := fB }, ⟨hk198, hg198, ha198, hsB⟩, by
      simpa [preparedCellV, Cell.setSlot, Cell.withEntry, Array.getElem?_setIfInBounds, bC, bS, bP, bC.symm, bS.symm, bP.symm, defaultValue] using hback, fun _ _ => rfl⟩
  obtain ⟨tm, methC, cdC, kC, vm₁, hnC, -, -, -, -, -, -, -, hW₁, st1⟩ := Steps.initColdS (tb := p.tables) (e := e) (below := below) (s := s) (U := U0) X.here hexec X.warmed hpl hown (t := Bundle.initS hx_X) rfl rfl (by decide +kernel)
    (A (.methodLink own ic (Bundle.initS hx_X)) (by simp [Bundle.ownAtoms]) (by unfold hx_bad; rw [decide_eq_false (by simp), decide_eq_false (by intro q; injection q with q1 q2 q3; exact absurd q3 (by decide +kernel)), decide_eq_false (by simp)]; rfl)) (h (.instanceMethod (Bundle.initS hx_X)) (by simp [Bundle.ownAtoms, Bundle.chainSAtoms, Bundle.passSAtoms]) (by decide +kernel)) (bytes := hx_b) (maxL := 2) hc13
    (f := g) hg (a := a) (msg := msg) (rest := .ref a :: rest) hstack hd6
  cases Option.some.inj (hnC.symm.trans hP1m)
  have X₁ := X.noted hW₁
  obtain ⟨vm₂, X₂, st2⟩ := X₁.ctorMessageOffV hexec (g := { g with stack := .ref a :: rest }) hg hsize T L Z LZ M LM (P1 :: P2 :: Ps)
    (fun P hP => by
      rcases List.mem_cons.mp hP with rfl | hP
      · exact L1
      · rcases List.mem_cons.mp hP with rfl | hP
        · exact L2
        · exact hL P hP) ⟨hlink1, hlink2, hlink⟩ (u0 := u0) (sen := sen) (self := a) hmsg (cell := freshCell P1.m.cls kX) (cellS := cellS)
    hcell (fun _ => by simp) (by simp) rfl rfl hsel0 hselF hcellS hneS hknownS (by rw [hkeep _ (hout' _)]; exact hu0) (by rw [hkeep _ (hout' _)]; exact hsen)
    (Takes.of_laid hk hord tyC (by rw [Y.causeType]; rfl)) (Takes.of_laid hk hord tyS (by rw [Y.stackType]; exact fits_refV_array _ u0)) (Takes.of_laid hk hord tyP (by rw [Y.suppType]; exact fits_refV_object _ sen))
    (Takes.of_laid hk hord tyM (by rw [Y.msgType]; exact fits_refV_object _ ⟨msg, hmsg⟩)) Y.objLocals hskip htr [] hd6
    (by simp only [List.length_cons, hlen, hx_N, List.length_nil]; omega) (by simp only [List.length_cons, hlen, hx_N, List.length_nil]; exact hRlocals)
  obtain ⟨hwalk, hrun, hended, hWU, hsame⟩ := X₂.athrowLeaves hexec (g := { g with stack := .ref a :: rest, pc := g.pc + 3 }) hg hlocked hentered hout (a := a) (rest := rest) rfl hd9
  have hlt : a < ((U0.setVm vm₁).setVm vm₂).heap.size := (Array.getElem?_eq_some_iff.mp hcell).1
  have hU := heapAt_setCell_self (s := (U0.setVm vm₁).setVm vm₂) (plainBareV T.toThrowableT (freshCell P1.m.cls kX) a u0 sen msg) hlt
  refine ⟨_, st1 _ (fun acts => ?_), hrun, hended, hWU, hsame.weaken (fun y hy hlt' => ?_) (Nat.le_refl _) (Nat.le_refl _), _, hU, hfound, rfl⟩
  · rw [doInvoke_state]
    exact st2 _ hwalk
  · rcases List.mem_append.mp hy with h1 | h1
    · exact h1
    · exfalso
      have hb : y.base = a := by
        simp only [List.mem_cons, List.not_mem_nil, or_false] at h1
        rcases h1 with rfl | rfl | rfl | rfl | rfl <;> rfl
      rw [hb] at hlt'
      exact Nat.not_lt.mpr hnew hlt'
/-- the good words of the class that is thrown, and of the row that throws it -/
def hx_g (w : Cond) : Bool := goodWord w && !hx_bad w
def hx_ws : List Cond := (vx_atS RX11 388 hx_X (hx_Y :: hx_N)).filter hx_g ++ [Cond.code (Bundle.initS hx_X) hx_b 2 none, Cond.methodLink hx_X 13 (Bundle.initS hx_Y), Cond.classLink RX11 384 hx_X, Cond.initialized hx_X]
theorem hx_ws_good : hx_ws.all goodWord = true := by decide +kernel
theorem hx_rest : ∀ w ∈ Bundle.ownAtoms RX11 388 hx_X (hx_Y :: hx_N), hx_bad w = false → w ∈ (vx_atS RX11 388 hx_X (hx_Y :: hx_N)).filter hx_g ∨ w ∈ ([Cond.declares (Bundle.initS hx_Y), Cond.declares (Bundle.initS "java/lang/Exception"), Cond.declares (Bundle.initS Bundle.tN)] : List Cond) ∨ w ∈ ([Cond.isRef (.static Bundle.tN "UNASSIGNED_STACK" Bundle.steD), Cond.isRef (.static Bundle.tN "SUPPRESSED_SENTINEL" Bundle.listD), Cond.laysStatic Bundle.tN "UNASSIGNED_STACK" Bundle.steD, Cond.laysStatic Bundle.tN "SUPPRESSED_SENTINEL" Bundle.listD] : List Cond) := by decide +kernel
theorem hx_in {w : Cond} (h : ∀ v ∈ hx_ws, v.before args s = true) (i : Nat) (e : hx_ws[i]? = some w) : w.before args s = true := h w (List.mem_of_getElem? e)
theorem hx_atoms (h : ∀ v ∈ hx_ws, v.before args s = true)
    (hU : (Cond.isRef (.static Bundle.tN "UNASSIGNED_STACK" Bundle.steD)).before args s = true) (hN : (Cond.isRef (.static Bundle.tN "SUPPRESSED_SENTINEL" Bundle.listD)).before args s = true)
    (lU : (Cond.laysStatic Bundle.tN "UNASSIGNED_STACK" Bundle.steD).before args s = true) (lN : (Cond.laysStatic Bundle.tN "SUPPRESSED_SENTINEL" Bundle.listD).before args s = true) :
    ∀ w ∈ Bundle.ownAtoms RX11 388 hx_X (hx_Y :: hx_N), hx_bad w = false → w.before args s = true := by
  intro w hw hb
  have g : ∀ v, v ∈ (vx_atS RX11 388 hx_X (hx_Y :: hx_N)).filter hx_g → v.before args s = true := fun v hv => h v (List.mem_append_left _ hv)
  rcases hx_rest w hw hb with h1 | h1 | h1
  · exact g w h1
  · simp only [List.mem_cons, List.not_mem_nil, or_false] at h1
    rcases h1 with rfl | rfl | rfl
    · exact hx_decl (bytes := Bundle.six) (n := 2) (ret := none) (g _ (by decide +kernel)) (g _ (by decide +kernel))
    · exact hx_decl (bytes := Bundle.six) (n := 2) (ret := none) (g _ (by decide +kernel)) (g _ (by decide +kernel))
    · exact hx_decl (bytes := LibCode.Throwable.InitS.code) (n := 2) (ret := none) (g _ (by decide +kernel)) (g _ (by decide +kernel))
  · simp only [List.mem_cons, List.not_mem_nil, or_false] at h1
    rcases h1 with rfl | rfl | rfl | rfl
    · exact hU
    · exact hN
    · exact lU
    · exact lN
/-- what is told of the heap for the throw: the text, Throwable's two statics -/
def hx_Z (A : Nat → Prop) (U : State) (H : Heap) : Prop := vx_Zq Bundle.tN "UNASSIGNED_STACK" Bundle.steD A U H ∧ vx_Zq Bundle.tN "SUPPRESSED_SENTINEL" Bundle.listD A U H
theorem hx_Z.moved {A : Nat → Prop} {u U : State} {H : Heap} (hvm : u.vm.Alike U.vm) (h : hx_Z A u H) : hx_Z A U H := ⟨vx_Zq.moved hvm h.1, vx_Zq.moved hvm h.2⟩
theorem hx_Z.kept {A : Nat → Prop} {U : State} {H H1 : Heap} (h : hx_Z A U H) (hq : ∀ a : Nat, a < H.size → ¬ A a → H1[a]? = H[a]?) : hx_Z A U H1 := ⟨vx_Zq.kept h.1 hq, vx_Zq.kept h.2 hq⟩
theorem hx_Z.narrow {A B : Nat → Prop} {U : State} {H : Heap} (h : hx_Z A U H) (hAB : ∀ q, B q → A q) : hx_Z B U H := ⟨vx_Zq.narrow h.1 hAB, vx_Zq.narrow h.2 hAB⟩
/-- 'throw new NoSuchElementException(text)', by a wide index -/
theorem hx_throw {H : Heap} {Qc : Array Value → State → Outcome → State → Prop} {XC : String → State → State → Prop} {free : Addr → Prop} {ls : Array Slot} {cc : ByteArray} {pc : Nat} (hexec : p.tables.exec = Jvm.exec) (hb : c.code = cc) (hl : l.stackTraces = false) {text : String} {is mc ms sa : Nat} {A : Nat → Prop}
    (hown : s.vm.findClass RX11 = some m.cls) (hws : ∀ w ∈ hx_ws, w.before args s = true) (hstr : vk_R RX11 is text sa s) (hZ : hx_Z A s s.heap) (hS : va_S A s.heap H locs) (hsize : ls.size = c.maxLocals)
    (d0 : decode cc pc = .ok (.new 384, 3)) (d3 : decode cc (pc + 3) = .ok (.dup, 1)) (d4 : decode cc (pc + 4) = .ok (.ldc_w is, 3)) (d7 : decode cc (pc + 7) = .ok (.invokespecial 388, 3)) (d10 : decode cc (pc + 10) = .ok (.athrow, 1))
    (hout : ∀ x ∈ c.exceptionTable.toList, covers x (pc + 10) = false)
    (hRframes : 5 < R.frames) (hRlocals : 82 ≤ R.locals) (hRcells : cells + 1 ≤ R.cells) (hRslots : slots + 6 ≤ R.slots) (hlocks : meth.locks = false)
    (hx : ∀ t : State, s.vm.Alike t.vm → H.size ≤ t.heap.size → (∀ q : Nat, q < H.size → t.heap[q]? = H[q]?) → XC hx_X s t)
    (hf : ∀ z ∈ locs, free z.base) (hc : cells + 1 ≤ mc) (hs : slots + 6 ≤ ms) :
    W p l e R s m args below meth c H locs cells slots (vx_MQ below Qc XC args s mc ms free) (F0 m pc ls []) := by
  intro T hT X
  have htr : e.platform.stackTraces = false := (show e.platform.stackTraces = l.stackTraces by rw [X.admits.platform]).trans hl
  have Y := vx_rebase X (R' := { frames := R.frames, locals := R.locals, cells := 1, slots := 6 }) (Nat.le_refl _) (Nat.le_refl _) hRcells hRslots
  obtain ⟨s', hA⟩ : ∃ z, z = (T.setVm s.vm).setFrames (.invoking m args :: below) := ⟨_, rfl⟩
  rw [← hA] at Y
  have hvm : s'.vm = s.vm := by rw [hA]; rfl
  have hhp : s'.heap = H := by rw [hA]; exact hT
  have hW0 : s.WarmedH s'.vm := by rw [hvm]; exact State.WarmedH.refl s
  have hws' : ∀ w ∈ hx_ws, w.before args s' = true := fun w hw => word_at hW0 (good_of_word (List.all_eq_true.mp hx_ws_good w hw)) (hws w hw)
  have hZ' : hx_Z A s' s'.heap := by rw [hhp]; exact hx_Z.moved hW0.alike (hZ.kept hS.2.1)
  have hat := hx_atoms hws' (vx_isRefq hZ'.1.1) (vx_isRefq hZ'.2.1) hZ'.1.2.word hZ'.2.2.word
  have hown' : s'.vm.findClass RX11 = some m.cls := by rw [hvm]; exact hown
  have hins : (Cond.instantiable hx_X 6).before args s' = true := hws' _ (by decide +kernel)
  have hk' : (Cond.classLink RX11 384 hx_X).before args s' = true := hws' _ (by decide +kernel)
  have hini' : (Cond.initialized hx_X).before args s' = true := hws' _ (by decide +kernel)
  obtain ⟨vm₁, cX, kX, hfX, hkX, -, -, X₁, st1⟩ := Y.newCold hexec (own := RX11) (C := hx_X) (index := 384) (n := 6) hown' hk' hins hini'
    (g := F0 m pc ls []) rfl (by rw [hb]; exact d0) (Nat.le_refl _) (Nat.le_refl _)
  generalize hT1 : (T.setVm vm₁).pushCell { cls := cX, slots := kX.instanceTypes.map defaultValue, vm := .none } = T1 at X₁ st1
  have hcat : (Value.ref T.heap.size).category = 1 := rfl
  have hcellA : T1.heap[T.heap.size]? = some (freshCell cX kX) := by rw [← hT1]; exact State.heap_pushCell_size _ _
  have d3' : decode c.code (pc + 3) = .ok (.dup, 1) := by rw [hb]; exact d3
  have d4' : decode c.code (pc + 4) = .ok (.ldc_w is, 3) := by rw [hb]; exact d4
  have hstr' : vk_R RX11 is text sa s' := vk_R.warm hW0 hstr
  obtain ⟨U, hsteps, hrun, hend, hW, hsame, ce, hce, hO, hcv⟩ := hx_ctor X₁ hexec htr (own := RX11) (ic := 388) hown' hat (hws' _ (by decide +kernel)) (hws' _ (by decide +kernel)) (fun x hx => nomatch hx) hfX hkX hcellA (by rw [hhp, hT]; exact Nat.le_refl _) (msg := .ref sa) rfl
    (g := { method := m, pc := pc + 7, locals := ls, stack := [.ref sa, .ref T.heap.size, .ref T.heap.size], locked := none }) rfl hsize rfl rfl (rest := []) rfl
    (by rw [hb]; exact d7) (by rw [hb]; exact d10) hout hRframes (by simp only [List.map_cons, List.map_nil, List.sum_cons, List.sum_nil, hcat]; exact hRlocals) hlocks
  obtain ⟨f1, f2⟩ := vx_frame hsame
  rw [hhp] at f1 f2
  have hWs : s.WarmedH U.vm := State.WarmedH.trans hW0 hW
  have hcl : s.vm.findClass hx_X = some ce.cls := by rw [← hvm]; exact hO
  have hall : s.sameButNew ({ U with vm := s.vm } : State) locs mc ms := by
    subst hA
    obtain ⟨e1, e2⟩ := hsame
    rw [State.setFrames_setFrames] at e1
    have h2 : (T.setVm s.vm).sameButNew ({ U with vm := s.vm } : State) [] (0 + 1) (0 + 6) := ⟨e1, e2⟩
    have h3 := X.same.trans h2
    rw [List.append_nil] at h3
    exact h3.mono hc hs
  refine ⟨U, ?_, .threw T.heap.size, hrun, hend, Or.inr ⟨T.heap.size, rfl, hx_X, ce, locs, hx U hWs.alike f1 (fun q hq => f2 q hq (fun z hz => nomatch hz)), hce, hcv, hcl, hWs, hall, hf⟩⟩
  refine st1 _ ?_
  show Steps p.tables e below (T1.setTop { method := m, pc := pc + 3, locals := ls, stack := [.ref T.heap.size], locked := none }) _
  jvm_step X₁.here [X₁.here.top, hexec, d3', Value.category]
  exact X₁.ldcStringW hexec (own := RX11) (text := text) (index := is) (a := sa) hown' hstr'.1 hstr'.2
    (g := { method := m, pc := pc + 4, locals := ls, stack := [.ref T.heap.size, .ref T.heap.size], locked := none }) rfl d4' _ hsteps
end HX
section HX2
def hx_wX : List Cond := .code yX11_holiday cX11_holiday 2 (some .int) :: ([.fieldLink RX11 60 "BondCalendars" "live" "LBondCalendars$Desk;", .fieldLink RX11 146 "BondCalendars$Desk" "holidays" "LBondCalendars$Holidays;", .fieldLink RX11 378 "BondCalendars$Holidays" "count" "I"] ++ wsX110 ++ wsX40 ++ wsX50 ++ hx_ws)
def hx_wL : List Cond := .codeWith yL_holiday cL_holiday 4 (some .int) [(0, 9, 12, 13)] :: ([.classLink RL 13 hx_X, .methodLink RL 7 yX11_holiday, .instanceMethod yX11_holiday, .selects RX11 yX11_holiday yX11_holiday, .initialized RX11] ++ hx_wX)
theorem hx_wX_good : hx_wX.all goodWord = true := by decide +kernel
theorem hx_wL_good : hx_wL.all goodWord = true := by decide +kernel
theorem hx_gX : GoodIn hx_wL (wsV RL 7 RX11 yX11_holiday hx_wX) := goodIn_app (goodIn_sub (List.forall_mem_cons.mpr ⟨List.mem_cons_of_mem _ (List.mem_append_left _ (List.mem_of_getElem? (i := 1) rfl)), List.forall_mem_cons.mpr ⟨List.mem_cons_of_mem _ (List.mem_append_left _ (List.mem_of_getElem? (i := 2) rfl)), List.forall_mem_cons.mpr ⟨List.mem_cons_of_mem _ (List.mem_append_left _ (List.mem_of_getElem? (i := 3) rfl)), List.forall_mem_cons.mpr ⟨List.mem_cons_of_mem _ (List.mem_append_left _ (List.mem_of_getElem? (i := 4) rfl)), fun _ h => absurd h List.not_mem_nil⟩⟩⟩⟩) (by decide +kernel)) (goodIn_sub (fun w h => List.mem_cons_of_mem _ (List.mem_append_right _ h)) hx_wX_good)
theorem hx_P0 {D : va_G} {cl : List vw_C} {H : Heap} : va_P D cl [] H := fun k q h => by simp at h
theorem hx_asg (vm : Vm) (k : ClassId) : vm.assignable k k = true := by
  unfold Vm.assignable
  rw [show (256 : Nat) = 255 + 1 from rfl, Vm.assignableAux]
  simp only [beq_self_eq_true, Bool.true_or]
theorem hx_cast {X : String} {k : ClassId} {args : Array Value} {s : State} (h : s.vm.findClass X = some k) : (Cond.castable X X).before args s = true := by
  have a := hx_asg s.vm k
  simp only [Cond.before, Cond.holds, Cond.value, h, a]
  rfl
set_option maxHeartbeats 4000000 in
set_option maxRecDepth 100000 in
/-- holiday on a new object: it throws -/
theorem k_X11_holiday (l : Launch) (hl0 : l.stackTraces = false) (dC : Nat → ClassId) (dI : Nat → Nat → Nat) (sz : Nat) (h0 : Nat) (fs_h0 : List Value) (li : Nat) (fs_li : List Value) (ho : Nat) (fs_ho : List Value) (sa : Nat) (p0 : Int32) (hn_h0 : fs_h0.length = 15) (hf_h0_8 : fs_h0[8]? = some (.ref li)) (hn_li : fs_li.length = 12) (hf_li_2 : fs_li[2]? = some (.ref ho)) (hn_ho : fs_ho.length = 2) (hf_ho_1 : fs_ho[1]? = some (.int 0)) : vx_Met l yX11_holiday hx_wX ({ frames := 6, cells := 1, slots := 6, locals := 82 }) (va_Pc [.ref h0, .int p0] (fun U => U.heap.size = sz ∧ va_P (dC, dI) vwCl [(h0, .inr (10, fs_h0)), (li, .inr (3, fs_li)), (ho, .inr (4, fs_ho))] U.heap ∧ va_K (dC, dI) vwCl [] U ∧ va_D (fun _ => True) [(h0, .inr (10, fs_h0)), (li, .inr (3, fs_li)), (ho, .inr (4, fs_ho))] ∧ vk_R RX11 386 "no such holiday" sa U ∧ hx_Z (va_A [] sz) U U.heap)) (va_Qi (fun (_ : Int32) (_ : Unit) => False) (fun _ _ => True) (va_A [] sz)) (vx_X (S := Unit) (fun _ => True) (fun E _ t => E = hx_X ∧ va_K (dC, dI) vwCl [] t) (va_A [] sz)) 1 6 (va_A [] sz) := by
  refine vx_ofW (cc := cX11_holiday) (maxL := 2) (ret := (some .int)) (by decide) rfl ?_
  intro p e s m args below meth c s₁ B hml htab hv
  obtain ⟨rfl, hsz, hP, hK, hD0, hR, hZ⟩ := hv
  have hx := B.exec
  have hb := B.bytes
  have hr := B.returns
  have hts := atoms_spec (ws := hx_wX) B.pre
  have hown : s.vm.findClass RX11 = some m.cls := findClass_of_methodNamed B.named
  have hlocks := B.notSynchronized
  have hinX11 : ∀ w ∈ u_ws RX11 TX11 15, w ∈ hx_wX := (fun _ h9 => List.mem_cons_of_mem _ (List.mem_append_left _ (List.mem_append_left _ (List.mem_append_left _ (List.mem_append_right _ h9)))))
  have hinX4 : ∀ w ∈ u_ws RX4 TX4 12, w ∈ hx_wX := (fun _ h9 => List.mem_cons_of_mem _ (List.mem_append_left _ (List.mem_append_left _ (List.mem_append_right _ h9))))
  have hinX5 : ∀ w ∈ u_ws RX5 TX5 2, w ∈ hx_wX := (fun _ h9 => List.mem_cons_of_mem _ (List.mem_append_left _ (List.mem_append_right _ h9)))
  have hinH : ∀ w ∈ hx_ws, w ∈ hx_wX := (fun _ h9 => List.mem_cons_of_mem _ (List.mem_append_right _ h9))
  subst hsz
  have hS : va_S (va_A [] s.heap.size) s.heap s.heap [] := va_S.rf
  have hl := lv_entry ([.ref h0, .int p0]) (n := 2) (Nat.le_of_ble_eq_true rfl)
  rw [lg_entry_eq]
  generalize (lg_sl ([.ref h0, .int p0]) ++ List.replicate (2 - (lg_sl ([.ref h0, .int p0])).length) Slot.unset).toArray = ls at hl ⊢
  have hl : lv_has ls 2 [(0, .ref h0), (1, .int p0)] := hl
  have fin : W p l e (headSpec hx_wX { frames := 6, cells := 1, slots := 6, locals := 82 }).room s m [Value.ref h0, Value.int p0].toArray below meth c s.heap [] 0 0 (vx_MQ below (va_Qi (fun (_ : Int32) (_ : Unit) => False) (fun _ _ => True) (va_A [] s.heap.size)) (vx_X (S := Unit) (fun _ => True) (fun E _ t => E = hx_X ∧ va_K (dC, dI) vwCl [] t) (va_A [] s.heap.size)) [Value.ref h0, Value.int p0].toArray s 1 6 (va_A [] s.heap.size)) (F0 m 33 ls []) :=
    hx_throw (cc := cX11_holiday) (is := 386) (text := "no such holiday") (sa := sa) (A := va_A [] s.heap.size) hx hb hl0 hown (fun w h => hts w (hinH w h)) hR hZ hS (hl.1.trans hml.symm) dX11_holiday_33 dX11_holiday_36 dX11_holiday_37 dX11_holiday_40 dX11_holiday_43 (fun x h => (htab x h).elim) (Nat.le_of_ble_eq_true rfl) (Nat.le_of_ble_eq_true rfl) (Nat.le_of_ble_eq_true rfl) (Nat.le_of_ble_eq_true rfl) hlocks
      (fun t hvm hsz1 hk => ⟨(), trivial, ⟨rfl, va_K.moved hvm hK⟩, ⟨hsz1, fun q hq _ => hk q hq⟩⟩) (fun z hz => nomatch hz) (Nat.le_refl _) (Nat.le_refl _)
  refine lv_iload_n hx hb dX11_holiday_0 rfl (lv_at hl 1 rfl) ?_
  refine lv_if_lt (tgt := 33) hx hb dX11_holiday_1 (by decide) (fun c_1 => ?_) (fun c_1 => ?_)
  · exact fin
  · refine lv_iload_n hx hb dX11_holiday_4 rfl (lv_at hl 1 rfl) ?_
    refine lv_aload_n hx hb dX11_holiday_5 rfl (lv_at hl 0 rfl) ?_
    refine va_get (D := (dC, dI)) (ci := 10) (v := .ref li) (C := RX11) (T := TX11) (N := 15) hx hb hts hinX11 hown hK hP 0 rfl rfl 8 (by decide) (hts (.fieldLink RX11 60 "BondCalendars" "live" "LBondCalendars$Desk;") (List.mem_cons_of_mem _ (List.mem_append_left _ (List.mem_append_left _ (List.mem_append_left _ (List.mem_append_left _ (List.mem_of_getElem? (i := 0) rfl))))))) (fun _ h9 => h9) hf_h0_8 dX11_holiday_6 ?_
    refine va_get (D := (dC, dI)) (ci := 3) (v := .ref ho) (C := RX4) (T := TX4) (N := 12) hx hb hts hinX4 hown hK hP 1 rfl rfl 2 (by decide) (hts (.fieldLink RX11 146 "BondCalendars$Desk" "holidays" "LBondCalendars$Holidays;") (List.mem_cons_of_mem _ (List.mem_append_left _ (List.mem_append_left _ (List.mem_append_left _ (List.mem_append_left _ (List.mem_of_getElem? (i := 1) rfl))))))) (fun _ h9 => h9) hf_li_2 dX11_holiday_9 ?_
    refine va_get (D := (dC, dI)) (ci := 4) (v := .int 0) (C := RX5) (T := TX5) (N := 2) hx hb hts hinX5 hown hK hP 2 rfl rfl 1 (by decide) (hts (.fieldLink RX11 378 "BondCalendars$Holidays" "count" "I") (List.mem_cons_of_mem _ (List.mem_append_left _ (List.mem_append_left _ (List.mem_append_left _ (List.mem_append_left _ (List.mem_of_getElem? (i := 2) rfl))))))) (fun _ h9 => h9) hf_ho_1 dX11_holiday_12 ?_
    refine lv_icmp_ge (tgt := 33) hx hb dX11_holiday_15 (by decide) (fun c_2 => ?_) (fun c_2 => ?_)
    · exact fin
    · exact absurd (Int32.not_lt.mp c_1) c_2
end HX2
section HX3
theorem hx_D0 {A : Nat → Prop} : va_D A [] := ⟨fun i j p q h => by simp at h, fun k q h => by simp at h⟩
theorem hx_met {l : Launch} {y : MethodName} {ws : List Cond} {rm : Room} {Pc : Array Value → State → Prop} {Qc : Array Value → State → Outcome → State → Prop} {mc ms : Nat} {free : Addr → Prop} (h : vx_Met l y ws rm Pc Qc (fun _ _ _ => False) mc ms free) : Met l y ws rm Pc Qc mc ms free := by
  intro p e ha hc hk s m args below hf hS hP hK
  obtain ⟨n, o, h1, h2, h3, h4⟩ := h p e ha hc hk s m args below hf hS hP hK
  refine ⟨n, o, h1, h2, h3, ?_⟩
  rcases h4 with h4 | ⟨q, _, E, ce, L, hx, _⟩
  · exact h4
  · exact hx.elim
set_option maxHeartbeats 4000000 in
set_option maxRecDepth 100000 in
/-- the law's own holiday on a new object: it catches, and answers 1 -/
theorem k_L_holiday (l : Launch) (hl0 : l.stackTraces = false) (dC : Nat → ClassId) (dI : Nat → Nat → Nat) (sz : Nat) (x : Nat) (fs_x : List Value) (li : Nat) (fs_li : List Value) (ho : Nat) (fs_ho : List Value) (p1 : Int32) (w2 : Nat) (sa : Nat) (hn_x : fs_x.length = 15) (hf_x_8 : fs_x[8]? = some (.ref li)) (hn_li : fs_li.length = 12) (hf_li_2 : fs_li[2]? = some (.ref ho)) (hn_ho : fs_ho.length = 2) (hf_ho_1 : fs_ho[1]? = some (.int 0)) : Met l yL_holiday hx_wL ({ frames := 7, cells := 1, slots := 6, locals := 103 }) (va_Pc [.ref x, .int p1, .ref w2] (fun U => U.heap.size = sz ∧ va_P (dC, dI) vwCl [(x, .inr (10, fs_x)), (li, .inr (3, fs_li)), (ho, .inr (4, fs_ho))] U.heap ∧ va_K (dC, dI) vwCl [] U ∧ va_D (fun _ => True) [(x, .inr (10, fs_x)), (li, .inr (3, fs_li)), (ho, .inr (4, fs_ho))] ∧ vk_R RX11 386 "no such holiday" sa U ∧ hx_Z (va_A [(x, .inr (10, fs_x)), (li, .inr (3, fs_li)), (ho, .inr (4, fs_ho))] sz) U U.heap)) (va_Qi (fun (r : Int32) (_ : Unit) => r = 1) (fun _ t => va_P (dC, dI) vwCl [(x, .inr (10, fs_x)), (li, .inr (3, fs_li)), (ho, .inr (4, fs_ho))] t.heap ∧ va_K (dC, dI) vwCl [] t ∧ va_D (va_A [(x, .inr (10, fs_x)), (li, .inr (3, fs_li)), (ho, .inr (4, fs_ho))] sz) [(x, .inr (10, fs_x)), (li, .inr (3, fs_li)), (ho, .inr (4, fs_ho))]) (va_A [(x, .inr (10, fs_x)), (li, .inr (3, fs_li)), (ho, .inr (4, fs_ho))] sz)) 1 6 (va_A [(x, .inr (10, fs_x)), (li, .inr (3, fs_li)), (ho, .inr (4, fs_ho))] sz) := by
  refine hx_met (vx_ofWH (cc := cL_holiday) (maxL := 4) (ret := (some .int)) (hh := [(0, 9, 12, 13)]) (by decide) rfl ?_)
  intro p e s m args below meth c s₁ B hml hv
  obtain ⟨rfl, hsz, hP, hK, hD0, hR, hZ⟩ := hv
  have hx := B.exec
  have hb := B.bytes
  have hr := B.returns
  have hts := atoms_spec (ws := hx_wL) B.pre
  have hown : s.vm.findClass RL = some m.cls := findClass_of_methodNamed B.named
  have hlocks := B.notSynchronized
  have htab := vx_table (x := yL_holiday) B (hts _ List.mem_cons_self)
  subst hsz
  have hD := hD0.self (sz := s.heap.size)
  generalize hAe : va_A [(x, .inr (10, fs_x)), (li, .inr (3, fs_li)), (ho, .inr (4, fs_ho))] s.heap.size = A at hD hZ ⊢
  have hA : ∀ q : Nat, s.heap.size ≤ q → A q := fun q h => by rw [← hAe]; exact Or.inr h
  have hS : va_S A s.heap s.heap [] := va_S.rf
  have hP : va_P (dC, dI) vwCl [(x, .inr (10, fs_x)), (li, .inr (3, fs_li)), (ho, .inr (4, fs_ho))] s.heap := hP
  have hl := lv_entry ([.ref x, .int p1, .ref w2]) (n := 4) (Nat.le_of_ble_eq_true rfl)
  rw [lg_entry_eq]
  generalize (lg_sl ([.ref x, .int p1, .ref w2]) ++ List.replicate (4 - (lg_sl ([.ref x, .int p1, .ref w2])).length) Slot.unset).toArray = ls at hl ⊢
  have hl : lv_has ls 4 [(0, .ref x), (1, .int p1), (2, .ref w2)] := hl
  refine lv_aload_n hx hb dL_holiday_0 rfl (lv_at hl 2 rfl) ?_
  refine lv_iconst (v := 0) hx hb dL_holiday_1 rfl ?_
  refine lv_aload_n hx hb dL_holiday_2 rfl (lv_at hl 0 rfl) ?_
  refine lv_iload_n hx hb dL_holiday_3 rfl (lv_at hl 1 rfl) ?_
  have hFc := va_free (wc := []) hD hS hA [] rfl
  refine vx_calli (vx_runV (As := [.int p1]) (rest := [.int 0, .ref w2]) ⟨hx, hb, hml, hown, hts⟩ (k_X11_holiday l hl0 dC dI s.heap.size x fs_x li fs_li ho fs_ho sa p1 hn_x hf_x_8 hn_li hf_li_2 hn_ho hf_ho_1) (cwV 1 hts hx_gX rfl rfl rfl (by decide +kernel) ⟨Nat.le_of_ble_eq_true rfl, Nat.le_of_ble_eq_true rfl⟩) ⟨fun a U g mk q => by obtain ⟨q0, q1, qP, qK, qD, qR, qZ⟩ := q; exact ⟨q0, q1, qP, va_K.moved (u := U) (U := U.calling g mk a) (Vm.Alike.refl U.vm) qK, qD, vk_R.same rfl qR, hx_Z.moved (u := U) (U := U.calling g mk a) (Vm.Alike.refl U.vm) qZ⟩, va_recv hK hP (ci := 10) (q0 := 0) rfl rfl, fun U hU hW => ⟨rfl, by rw [hU], by rw [hU]; exact hP, va_K.moved hW.alike hK, hD.weaken (fun _ _ _ _ => trivial), vk_R.warm hW hR, by rw [hU]; exact hx_Z.moved hW.alike (hZ.narrow hFc)⟩⟩ rfl rfl hl.1 rfl (lv_room (Nat.le_of_ble_eq_true rfl)) dL_holiday_4 ⟨Nat.le_of_ble_eq_true rfl, Nat.le_of_ble_eq_true rfl⟩) hS (fun q _ h => hFc q h) hFc (fun q _ h => hFc q h) (fun E ce q9 u t H1 locs ht hvm hw hB hz1 hk1 hS hce hcv hcl => ?_) (fun r u t H1 locs ht hvm hw hB hz1 hk1 hS => hw.elim)
  obtain ⟨rfl, hK1⟩ := hB
  obtain ⟨hP, hD⟩ := va_join (wr := [(x, .inr (10, fs_x)), (li, .inr (3, fs_li)), (ho, .inr (4, fs_ho))]) (w1 := []) hP hD [] [0, 1, 2] rfl rfl (by decide) (by decide) hk1 hFc (hx_P0 (H := H1)) hx_D0
  refine vx_catch hown [] _ [] htab (fun z hz => nomatch hz) (by decide) (by decide) (hts (.classLink RL 13 hx_X) (List.mem_cons_of_mem _ (List.mem_append_left _ (List.mem_of_getElem? (i := 0) rfl)))) (hx_cast hcl) hce hcv hcl ?_
  refine vx_ret ?_
  refine lv_astore_n (lv' := [(3, .ref q9), (0, .ref x), (1, .int p1), (2, .ref w2)]) hx hb dL_holiday_12 rfl hl (by decide) rfl (fun ls hl => ?_)
  refine lv_iconst (v := 1) hx hb dL_holiday_13 rfl ?_
  have hP : va_P (dC, dI) vwCl [(x, .inr (10, fs_x)), (li, .inr (3, fs_li)), (ho, .inr (4, fs_ho))] H1 := hP
  have hD : va_D A [(x, .inr (10, fs_x)), (li, .inr (3, fs_li)), (ho, .inr (4, fs_ho))] := hD
  exact W.iret (v := 1) hx hb hr (fun t ht hW => ⟨⟨1, (), rfl, rfl, by rw [ht]; exact hP, va_K.moved hW.alike hK, hD⟩, hS.F ht⟩) hS.2.2 dL_holiday_14
theorem hx_fl {l : Launch} (h : l.flags = flags0) : l.stackTraces = false := by
  unfold Launch.stackTraces
  rw [h]
  decide +kernel
def hx_T : List Cond := va_wsS RL 191 yL_holiday hx_wL
theorem hx_gT : GoodIn hx_T (va_wsS RL 191 yL_holiday hx_wL) := goodIn_sub (fun _ h => h) (by decide +kernel)
def hx_ix : List Nat := [1173, 1174, 101, 1175, 1176, 1177, 1178, 1179, 102, 1180, 499, 440, 332, 506, 508, 510, 512, 514, 516, 518, 520, 522, 524, 526, 528, 530, 532, 534, 466, 468, 470, 472, 474, 476, 478, 480, 482, 484, 486, 488, 333, 335, 122, 1203, 1212, 1214, 1217, 1219, 1204, 1205, 132, 133, 1206, 1211, 1215, 1235, 1193, 1236, 1195, 1237, 1197, 1207, 1209, 1199, 1231, 1232, 1234, 1199, 1222, 1225, 1225, 1226, 1227, 1228, 1228, 1229, 1230, 1231, 1221, 1182, 1190, 1191, 1192, 1194, 1196, 1198, 1202, 1201, 1200, 1223, 1224, 1181, 125]
set_option maxRecDepth 100000 in
theorem hx_T_eq : hx_T.map some = hx_ix.map (fun i => lw_tbl[i]?) := by decide +kernel
theorem hx_T_in : ∀ w ∈ hx_T, w ∈ lw_tbl := fun w h => by
  have h1 : some w ∈ hx_T.map some := List.mem_map.mpr ⟨w, h, rfl⟩
  rw [hx_T_eq] at h1
  obtain ⟨i, _, e⟩ := List.mem_map.mp h1
  exact List.mem_of_getElem? e
end HX3

