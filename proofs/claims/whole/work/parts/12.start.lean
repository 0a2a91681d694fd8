/-! what the Statement gives of the start, carried along: the start state s0, the tables only warmer, its cells as they were -/
def eX (U : State) : Prop := ∃ (s0 : State) (b : Nat), s0.WarmedH U.vm ∧ s0.heap.size ≤ U.heap.size ∧ (∀ q : Nat, q < s0.heap.size → U.heap[q]? = s0.heap[q]?) ∧ (∀ w ∈ lw_tbl, w.before #[Value.ref b] s0 = true) ∧ (Jvm.Cond.and given_1 narrow_1).before #[Value.ref b] s0 = true
theorem eX.step {U U' : State} (h : eX U) (hW : U.WarmedH U'.vm) (hz : U.heap.size ≤ U'.heap.size) (hk : ∀ q : Nat, q < U.heap.size → U'.heap[q]? = U.heap[q]?) : eX U' := by
  obtain ⟨s0, b, h1, h2, h3, h4⟩ := h
  exact ⟨s0, b, State.WarmedH.trans h1 hW, Nat.le_trans h2 hz, fun q hq => by rw [hk q (Nat.lt_of_lt_of_le hq h2)]; exact h3 q hq, h4⟩
theorem eX.same {U U' : State} (h : eX U) (hv : U'.vm = U.vm) (hh : U'.heap = U.heap) : eX U' := h.step (by rw [hv]; exact State.WarmedH.refl U) (by rw [hh]; exact Nat.le_refl _) (fun q _ => by rw [hh])
section EX
variable {s : State} {args : Array Value}
theorem eX.decl {x : MethodName} (hm : Cond.declares x ∈ lw_tbl) (h : eX s) : (Cond.declares x).before args s = true := by
  obtain ⟨s0, b, h1, -, -, h4, -⟩ := h
  exact va_Nw.use rfl (va_Nw.warmD h1 (va_Nw.of rfl (h4 _ hm)))
theorem eX.cast {C T : String} (hm : Cond.castable C T ∈ lw_tbl) (h : eX s) : (Cond.castable C T).before args s = true := by
  obtain ⟨s0, b, h1, -, -, h4, -⟩ := h
  exact va_Nw.use rfl (va_Nw.warmC h1 (va_Nw.of rfl (h4 _ hm)))
theorem eX.nocast {C T : String} (hm : Cond.not (.castable C T) ∈ flatC (Jvm.Cond.and given_1 narrow_1)) (h : eX s) : va_Nc C T s := by
  obtain ⟨s0, b, h1, -, -, -, h5⟩ := h
  exact va_Nc.moved h1.alike (va_Nc.of (flat_of_before _ h5 _ hm))
theorem eX.lays {C n d : String} (hm : Cond.laysStatic C n d ∈ lw_tbl) (h : eX s) : (Cond.laysStatic C n d).before args s = true := by
  obtain ⟨s0, b, h1, h2, h3, h4, -⟩ := h
  obtain ⟨c, k, i, f, a, cell, hc, hi, hst, ha, hcell, hs, hcls, hlt, hty⟩ := Cond.laysStatic_spec (h4 _ hm)
  obtain ⟨k', hi', hek⟩ := State.fieldFound?_setVm h1.alike hi
  exact Cond.laysStatic_of (s := s) (by rw [h1.alike.findClass]; exact hc) hi' hst (by rw [hek]; exact ha) (by rw [h3 a (Array.getElem?_eq_some_iff.mp hcell).1]; exact hcell) hs hcls hlt (by rw [hek]; exact hty)
theorem tx_isRef {C n d : String} {v : Value} {A : Nat → Prop} (h : va_Z C n d v A s s.heap) (hv : v = .null ∨ ∃ t, v = .ref t) : (Cond.isRef (.static C n d)).before args s = true := by
  obtain ⟨cf, kf, fi, f, a, cell, h1, h2, h3, h4, h5, h6, h7, -⟩ := h
  have he : (Term.static C n d).eval args s none [] s = some v := by
    simp [Term.eval, State.fieldNamed?, h1, h2, h4, h5, h6, h7]
  rcases hv with rfl | ⟨t, rfl⟩ <;> simp [Cond.before, Cond.holds, Cond.value, he]
theorem eX.isRef {C n d : String} (hm : Cond.laysStatic C n d ∈ lw_tbl) (hi : Cond.initialized C ∈ lw_tbl) (hr : Cond.isRef (.static C n d) ∈ flatC (Jvm.Cond.and given_1 narrow_1)) (h : eX s) : (Cond.isRef (.static C n d)).before args s = true := by
  obtain ⟨s0, b, h1, h2, h3, h4, h5⟩ := h
  have hz := va_Zqof (A := fun q => s0.heap.size ≤ q) (h4 _ hm) (h4 _ hi) (flat_of_before _ h5 _ hr) (fun a ha => Nat.not_le.mpr ha)
  have hz2 := va_Zq.moved h1.alike (hz.kept (H1 := s.heap) (fun a ha _ => h3 a ha))
  rcases hz2 with hz3 | ⟨t, hz3⟩
  · exact tx_isRef hz3 (Or.inl rfl)
  · exact tx_isRef hz3 (Or.inr ⟨t, rfl⟩)
theorem eX.str {own text : String} {i : Nat} (hm : Cond.stringRef own i text ∈ lw_tbl) (hx : Cond.exactly (.string own i) "java/lang/String" ∈ flatC (Jvm.Cond.and given_1 narrow_1)) (h : eX s) : ∃ sa, vk_R own i text sa s := by
  obtain ⟨s0, b, h1, -, -, h4, h5⟩ := h
  obtain ⟨a, c, cell, k, ha, -⟩ := Cond.exactly_spec (flat_of_before _ h5 _ hx)
  exact ⟨a, vk_R.warm h1 (vk_R.of (h4 _ hm) ha)⟩
end EX
theorem mem_tb {w : Cond} (i : Nat) (h : tables_1[i]? = some w) : w ∈ lw_tbl := List.mem_append_right _ (List.mem_of_getElem? h)
def exN : List String := ["java/lang/RuntimeException", "java/lang/Exception"]
def nonG : List Cond := [.declares (Bundle.initS "java/lang/RuntimeException"), .declares (Bundle.initS "java/lang/Exception"), .declares (Bundle.initS Bundle.tN), .castable "java/lang/IllegalArgumentException" "java/lang/IllegalArgumentException", .castable "java/lang/IllegalStateException" "java/lang/IllegalStateException", .castable "java/util/NoSuchElementException" "java/util/NoSuchElementException", .laysStatic Bundle.tN "UNASSIGNED_STACK" Bundle.steD, .laysStatic Bundle.tN "SUPPRESSED_SENTINEL" Bundle.listD, .isRef (.static Bundle.tN "UNASSIGNED_STACK" Bundle.steD), .isRef (.static Bundle.tN "SUPPRESSED_SENTINEL" Bundle.listD)]
theorem nonG_d1 : Cond.declares (Bundle.initS "java/lang/RuntimeException") ∈ lw_tbl := by decide +kernel
theorem nonG_d2 : Cond.declares (Bundle.initS "java/lang/Exception") ∈ lw_tbl := by decide +kernel
theorem nonG_d3 : Cond.declares (Bundle.initS Bundle.tN) ∈ lw_tbl := by decide +kernel
theorem nonG_c1 : Cond.castable "java/lang/IllegalArgumentException" "java/lang/IllegalArgumentException" ∈ lw_tbl := by decide +kernel
theorem nonG_c2 : Cond.castable "java/lang/IllegalStateException" "java/lang/IllegalStateException" ∈ lw_tbl := by decide +kernel
theorem nonG_c3 : Cond.castable "java/util/NoSuchElementException" "java/util/NoSuchElementException" ∈ lw_tbl := by decide +kernel
theorem nonG_l1 : Cond.laysStatic Bundle.tN "UNASSIGNED_STACK" Bundle.steD ∈ lw_tbl := by decide +kernel
theorem nonG_l2 : Cond.laysStatic Bundle.tN "SUPPRESSED_SENTINEL" Bundle.listD ∈ lw_tbl := by decide +kernel
theorem nonG_i : Cond.initialized Bundle.tN ∈ lw_tbl := by decide +kernel
theorem nonG_r1 : Cond.isRef (.static Bundle.tN "UNASSIGNED_STACK" Bundle.steD) ∈ flatC (Jvm.Cond.and given_1 narrow_1) := by decide +kernel
theorem nonG_r2 : Cond.isRef (.static Bundle.tN "SUPPRESSED_SENTINEL" Bundle.listD) ∈ flatC (Jvm.Cond.and given_1 narrow_1) := by decide +kernel
theorem nonG_ok {s : State} {args : Array Value} (h : eX s) : ∀ w ∈ nonG, w.before args s = true := by
  intro w hw
  simp only [nonG, List.mem_cons, List.not_mem_nil, or_false] at hw
  rcases hw with rfl | rfl | rfl | rfl | rfl | rfl | rfl | rfl | rfl | rfl
  · exact h.decl nonG_d1
  · exact h.decl nonG_d2
  · exact h.decl nonG_d3
  · exact h.cast nonG_c1
  · exact h.cast nonG_c2
  · exact h.cast nonG_c3
  · exact h.lays nonG_l1
  · exact h.lays nonG_l2
  · exact h.isRef nonG_l1 nonG_i nonG_r1
  · exact h.isRef nonG_l2 nonG_i nonG_r2
theorem eX.atoms {s : State} {args : Array Value} {c0 : Cond} {ic : Nat} {cls : String} (hts : ∀ w ∈ c0 :: wg, w.before args s = true) (h : eX s) (hall : (Bundle.ownAtoms "NodeServices" ic cls exN).all (fun w => decide (w ∈ wg) || decide (w ∈ nonG)) = true) : ∀ w ∈ Bundle.ownAtoms "NodeServices" ic cls exN, w.before args s = true := by
  intro w hw
  have h1 := List.all_eq_true.mp hall w hw
  simp only [Bool.or_eq_true, decide_eq_true_eq] at h1
  rcases h1 with h1 | h1
  · exact hts w (List.mem_cons_of_mem _ h1)
  · exact nonG_ok h w h1
set_option maxRecDepth 100000 in
theorem at_ISE : (Bundle.ownAtoms "NodeServices" 70 "java/lang/IllegalStateException" exN).all (fun w => decide (w ∈ wg) || decide (w ∈ nonG)) = true := by decide +kernel
/-! NoSuchElementException: its constructor hands the text on by another entry of its pool; else as the library's own throw -/
def nseN : String := "java/util/NoSuchElementException"
def b13 : ByteArray := ⟨#[0x2a, 0x2b, 0xb7, 0x00, 0x0d, 0xb1]⟩
theorem b13_0 : decode b13 0 = .ok (.aload_n 0, 1) := by decide +kernel
theorem b13_1 : decode b13 1 = .ok (.aload_n 1, 1) := by decide +kernel
theorem b13_2 : decode b13 2 = .ok (.invokespecial 13, 3) := by decide +kernel
theorem b13_5 : decode b13 5 = .ok (.return_, 1) := by decide +kernel
def nseT : List Cond := [.instantiable nseN 6, .selects nseN Bundle.tFill0 Bundle.tFill0, .selects nseN Bundle.tFill Bundle.tFill, .lays nseN Bundle.tN "cause" "Ljava/lang/Throwable;", .lays nseN Bundle.tN "stackTrace" Bundle.steD, .lays nseN Bundle.tN "suppressedExceptions" Bundle.listD, .lays nseN Bundle.tN "detailMessage" "Ljava/lang/String;", .isRef (.static Bundle.tN "UNASSIGNED_STACK" Bundle.steD), .isRef (.static Bundle.tN "SUPPRESSED_SENTINEL" Bundle.listD), .fieldLink Bundle.tN 198 Bundle.tN "backtrace" "Ljava/lang/Object;", .lays Bundle.tN Bundle.tN "backtrace" "Ljava/lang/Object;", .lays nseN Bundle.tN "backtrace" "Ljava/lang/Object;", .methodLink "NodeServices" 134 (Bundle.initS nseN), .initialized nseN, .classLink "NodeServices" 130 nseN]
def nseA : List (List Cond) := [Bundle.throwableAtoms, Bundle.throwableSAtoms, Bundle.passSAtoms nseN "java/lang/RuntimeException" 13 b13, Bundle.chainSAtoms "java/lang/RuntimeException" ["java/lang/Exception"], nseT]
set_option maxRecDepth 100000 in
theorem at_NSE : nseA.all (fun L => L.all (fun w => decide (w ∈ wg) || decide (w ∈ nonG))) = true := by decide +kernel
theorem eX.nse {s : State} {args : Array Value} {c0 : Cond} (hts : ∀ w ∈ c0 :: wg, w.before args s = true) (h : eX s) : ∀ L ∈ nseA, ∀ w ∈ L, w.before args s = true := by
  intro L hL w hw
  have h1 := List.all_eq_true.mp (List.all_eq_true.mp at_NSE L hL) w hw
  simp only [Bool.or_eq_true, decide_eq_true_eq] at h1
  rcases h1 with h1 | h1
  · exact hts w (List.mem_cons_of_mem _ h1)
  · exact nonG_ok h w h1
set_option maxHeartbeats 1000000 in
theorem tx_nse {p : Program} {l : Launch} {e : Env} {R : Room} {s : State} {m : MethodId} {args : Array Value} {below : List Frame} {meth : Method} {c : Code} {V : State} {cells slots : Nat} (X : Stand p l e R s m args below meth c V [] cells slots) (hexec : p.tables.exec = Jvm.exec) (htr : e.platform.stackTraces = false)
    (hown : s.vm.findClass "NodeServices" = some m.cls) (h : ∀ L ∈ nseA, ∀ w ∈ L, w.before args s = true) {a : Addr} {cX : ClassId} {kX : Class} (hfX : s.vm.findClass nseN = some cX) (hkX : s.vm.classes[cX]? = some kX) (hcell : V.heap[a]? = some (freshCell cX kX)) (hnew : s.heap.size ≤ a)
    {msg : Value} (hmsg : msg.isRef = true) {g : JFrame} (hg : g.method = m) (hsize : g.locals.size = c.maxLocals) (hlocked : g.locked = none) (hentered : g.entered = []) {rest : List Value} (hstack : g.stack = msg :: .ref a :: .ref a :: rest)
    (hd6 : decode c.code g.pc = .ok (.invokespecial 134, 3)) (hd9 : decode c.code (g.pc + 3) = .ok (.athrow, 1)) (hout : ∀ x ∈ c.exceptionTable.toList, covers x (g.pc + 3) = false)
    (hRframes : 5 < R.frames) (hRlocals : 2 * g.monitorRoom + ((Value.ref a :: rest).map fun v => v.category).sum + (13 * 3 + 42) ≤ R.locals) (hlocks : meth.locks = false) :
    ∃ U : State, Steps p.tables e below (V.setTop g) U ∧ U.status = .running ∧ Ended U below (.threw a) ∧ s.WarmedH U.vm ∧ s.sameButNew ({ U with vm := s.vm } : State) [] cells slots ∧ ∃ ce, U.heap[a]? = some ce ∧ ce.vm = .none ∧ s.vm.findClass nseN = some ce.cls := by
  have hpl : e.platform.magicAccessors = ({} : Platform).magicAccessors := by rw [X.admits.platform]
  have hT : ∀ w ∈ nseT, w.holds args s none s [] = true := fun w hw => h nseT (by simp [nseA]) w hw
  obtain ⟨T, Z0, L, -, Y⟩ := ThrowableC.of_atoms (args := args) (by rw [X.admits.platform]) (by rw [X.admits.platform]) hpl (fun w hw => h _ (by simp [nseA]) w hw)
  obtain ⟨Z, M, LZ, LM, hnZ⟩ := Init0T.ofS_atoms (args := args) hpl L Y (fun w hw => h Bundle.throwableSAtoms (by simp [nseA]) w hw)
  obtain ⟨P1, L1, hP1m, hP1s⟩ := PassC.ofS_atoms (args := args) (s := s) hpl (X := nseN) (Y := "java/lang/RuntimeException") (by decide +kernel) (by decide +kernel) b13_0 b13_1 b13_2 b13_5 (fun w hw => h (Bundle.passSAtoms nseN "java/lang/RuntimeException" 13 b13) (by simp [nseA]) w hw)
  obtain ⟨P2, Ps, hlen, L2, hL, hP2m, hlink2, hlink⟩ := Bundle.chainS (args := args) hpl hnZ ["java/lang/Exception"] "java/lang/RuntimeException" (by decide +kernel) (by decide +kernel) (fun w hw => h (Bundle.chainSAtoms "java/lang/RuntimeException" ["java/lang/Exception"]) (by simp [nseA]) w hw)
  have hlink1 : P1.sup = P2.m := Option.some.inj (hP1s.symm.trans hP2m)
  have hfound : s.vm.findClass nseN = some P1.m.cls := findClass_of_methodNamed hP1m
  cases Option.some.inj (hfX.symm.trans hfound)
  obtain ⟨c1, kX', hc1, hk, hord, -, -, hn6⟩ := Cond.instantiable_spec (hT (.instantiable nseN 6) (by simp [nseT]))
  cases Option.some.inj (hc1.symm.trans hfound)
  cases Option.some.inj (hkX.symm.trans hk)
  have hsel0 : selectMethod e.platform s.vm P1.m.cls T.fill0 = .method T.fill0 := by
    obtain ⟨c2, r2, m2, q1, q2, q3, q4, -⟩ := Cond.selects_spec (hT (.selects nseN Bundle.tFill0 Bundle.tFill0) (by simp [nseT]))
    cases Option.some.inj (q1.symm.trans hfound)
    cases Option.some.inj (q2.symm.trans (State.methodFound?_of_named Y.fill0 (by decide)))
    cases Option.some.inj (q3.symm.trans Y.fill0)
    rw [Launch.admits_selectMethod X.admits]; exact q4
  have hselF : selectMethod e.platform s.vm P1.m.cls T.fill = .method T.fill := by
    obtain ⟨c2, r2, m2, q1, q2, q3, q4, -⟩ := Cond.selects_spec (hT (.selects nseN Bundle.tFill Bundle.tFill) (by simp [nseT]))
    cases Option.some.inj (q1.symm.trans hfound)
    cases Option.some.inj (q2.symm.trans (State.methodFound?_of_named Y.fill (by decide)))
    cases Option.some.inj (q3.symm.trans Y.fill)
    rw [Launch.admits_selectMethod X.admits]; exact q4
  obtain ⟨cellS0, hcS0, hiss⟩ := Y.statics
  obtain ⟨u0, hu0⟩ := Cond.staticRefV Y.unassigned L.unassignedStatic L.statics hcS0 hiss (hT (.isRef (.static Bundle.tN "UNASSIGNED_STACK" Bundle.steD)) (by simp [nseT]))
  obtain ⟨sen, hsen⟩ := Cond.staticRefV Y.sentinel L.sentinelStatic L.statics hcS0 hiss (hT (.isRef (.static Bundle.tN "SUPPRESSED_SENTINEL" Bundle.listD)) (by simp [nseT]))
  obtain ⟨ci198, i198, fB, hk198, hg198, ha198, hsB, -, hnB, htB, hffB⟩ := Cond.ownField (t := .object "java/lang/Object") Y.found L.cls (by decide +kernel) (hT (.fieldLink Bundle.tN 198 Bundle.tN "backtrace" "Ljava/lang/Object;") (by simp [nseT])) (hT (.lays Bundle.tN Bundle.tN "backtrace" "Ljava/lang/Object;") (by simp [nseT])) e.platform hpl
  obtain ⟨cellS, hcS', heS, -, hkeep⟩ := X.same.2.2.2.2.2 T.aS cellS0 hcS0
  have hcellS : V.heap[T.aS]? = some cellS := hcS'
  have hout' : ∀ i, (⟨T.aS, i⟩ : Loc) ∉ ([] : List Loc) := fun i hmem => nomatch hmem
  have hknownS : cellS.vm ≠ .unknown := by
    rw [heS]; intro hu
    rw [show cellS0.vm = .unknown from hu] at hiss
    cases hiss
  have hneS : T.aS ≠ a := Nat.ne_of_lt (Nat.lt_of_lt_of_le (Array.getElem?_eq_some_iff.mp hcS0).1 hnew)
  obtain ⟨iM, hffM⟩ := Y.msg
  obtain ⟨tyC, dC, hdC, hdnC⟩ := Cond.laysAt hfound hk Y.cause (hT (.lays nseN Bundle.tN "cause" "Ljava/lang/Throwable;") (by simp [nseT]))
  obtain ⟨tyS, dS, hdS, hdnS⟩ := Cond.laysAt hfound hk Y.stack (hT (.lays nseN Bundle.tN "stackTrace" Bundle.steD) (by simp [nseT]))
  obtain ⟨tyP, dP, hdP, hdnP⟩ := Cond.laysAt hfound hk Y.supp (hT (.lays nseN Bundle.tN "suppressedExceptions" Bundle.listD) (by simp [nseT]))
  obtain ⟨tyM, dM, hdM, hdnM⟩ := Cond.laysAt hfound hk hffM (hT (.lays nseN Bundle.tN "detailMessage" "Ljava/lang/String;") (by simp [nseT]))
  obtain ⟨tyB, dB, hdB, hdnB⟩ := Cond.laysAt hfound hk hffB (hT (.lays nseN Bundle.tN "backtrace" "Ljava/lang/Object;") (by simp [nseT]))
  have bC := Cond.laysApart hdB hdC hdnB hdnC (by rw [hnB, Y.causeName]; decide)
  have bS := Cond.laysApart hdB hdS hdnB hdnS (by rw [hnB, Y.stackName]; decide)
  have bP := Cond.laysApart hdB hdP hdnB hdnP (by rw [hnB, Y.suppName]; decide)
  have hskip : SkipFacts T e.platform s (fun u => u) u0 ((preparedCellV T.toThrowableT (freshCell P1.m.cls kX) a u0 sen).withEntry V.cur) :=
    ⟨{ ci198 := ci198, i198 := i198, fBack := fB }, ⟨hk198, hg198, ha198, hsB⟩, by
      have := fresh_default (c := P1.m.cls) tyB
      rw [htB] at this
      simpa [preparedCellV, Cell.setSlot, Cell.withEntry, Array.getElem?_setIfInBounds, bC, bS, bP, bC.symm, bS.symm, bP.symm, defaultValue] using this, fun _ _ => rfl⟩
  obtain ⟨tm, methC, cdC, kC, vm₁, hnC, -, -, -, -, -, -, -, hW₁, st1⟩ := Steps.initColdS (tb := p.tables) (e := e) (below := below) (s := s) (U := V) X.here hexec X.warmed hpl hown (t := Bundle.initS nseN) rfl rfl (by decide +kernel)
    (hT (.methodLink "NodeServices" 134 (Bundle.initS nseN)) (by simp [nseT])) (h (Bundle.passSAtoms nseN "java/lang/RuntimeException" 13 b13) (by simp [nseA]) (.instanceMethod (Bundle.initS nseN)) (by simp [Bundle.passSAtoms])) (bytes := b13) (maxL := 2) (h (Bundle.passSAtoms nseN "java/lang/RuntimeException" 13 b13) (by simp [nseA]) (.code (Bundle.initS nseN) b13 2 none) (by simp [Bundle.passSAtoms]))
    (f := g) hg (a := a) (msg := msg) (rest := .ref a :: rest) hstack hd6
  cases Option.some.inj (hnC.symm.trans hP1m)
  have X₁ := X.noted hW₁
  obtain ⟨vm₂, X₂, st2⟩ := X₁.ctorMessageOffV hexec (g := { g with stack := .ref a :: rest }) hg hsize T L Z LZ M LM (P1 :: P2 :: Ps)
    (fun P hP => by
      rcases List.mem_cons.mp hP with rfl | hP
      · exact L1
      · rcases List.mem_cons.mp hP with rfl | hP
        · exact L2
        · exact hL P hP) ⟨hlink1, hlink2, hlink⟩ (u0 := u0) (sen := sen) (self := a) hmsg (cell := freshCell P1.m.cls kX) (cellS := cellS)
    hcell (fun _ => by simp) (by simp) rfl rfl hsel0 hselF hcellS hneS hknownS (by rw [hkeep _ (hout' _)]; exact hu0) (by rw [hkeep _ (hout' _)]; exact hsen)
    (Takes.of_laid hk hord tyC (by rw [Y.causeType]; rfl)) (Takes.of_laid hk hord tyS (by rw [Y.stackType]; exact fits_refV_array _ u0)) (Takes.of_laid hk hord tyP (by rw [Y.suppType]; exact fits_refV_object _ sen))
    (Takes.of_laid hk hord tyM (by rw [Y.msgType]; exact fits_refV_object _ ⟨msg, hmsg⟩)) Y.objLocals hskip htr [] hd6
    (by simp only [List.length_cons, hlen]; simp; omega) (by simp only [List.length_cons, hlen]; exact hRlocals)
  obtain ⟨hwalk, hrun, hended, hWU, hsame⟩ := X₂.athrowLeaves hexec (g := { g with stack := .ref a :: rest, pc := g.pc + 3 }) hg hlocked hentered hout (a := a) (rest := rest) rfl hd9 hlocks
  have hlt : a < ((V.setVm vm₁).setVm vm₂).heap.size := (Array.getElem?_eq_some_iff.mp hcell).1
  have hU := heapAt_setCell_self (s := (V.setVm vm₁).setVm vm₂) (plainBareV T.toThrowableT (freshCell P1.m.cls kX) a u0 sen msg) hlt
  refine ⟨_, st1 _ (fun acts => ?_), hrun, hended, hWU, hsame.weaken (fun y hy hlt' => ?_) (Nat.le_refl _) (Nat.le_refl _), _, hU, rfl, hfound⟩
  · rw [doInvoke_state]
    exact st2 _ hwalk
  · rcases List.mem_append.mp hy with h1 | h1
    · exact h1
    · exfalso
      have hb : y.base = a := by
        simp only [List.mem_cons, List.not_mem_nil, or_false] at h1
        rcases h1 with rfl | rfl | rfl | rfl | rfl <;> rfl
      rw [hb] at hlt'
      exact Nat.not_lt.mpr hnew hlt'
