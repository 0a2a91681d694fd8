/-! the law's helpers: tables of handlers, calls of methods that have them -/
theorem hh2 {c : Code} {s1 e1 h1 t1 s2 e2 h2 t2 : Nat} (h : c.exceptionTable.toList.map (fun h => (h.startPc, h.endPc, h.handlerPc, h.catchType)) = [(s1, e1, h1, t1), (s2, e2, h2, t2)]) :
    ∃ y x : ExceptionTableEntry, c.exceptionTable.toList = [y, x] ∧ (y.startPc = s1 ∧ y.endPc = e1 ∧ y.handlerPc = h1 ∧ y.catchType = t1) ∧ (x.startPc = s2 ∧ x.endPc = e2 ∧ x.handlerPc = h2 ∧ x.catchType = t2) := by
  cases hl : c.exceptionTable.toList with
  | nil => rw [hl] at h; simp at h
  | cons y r =>
    cases r with
    | nil => rw [hl] at h; simp at h
    | cons x r2 =>
      cases r2 with
      | cons z r3 => rw [hl] at h; simp at h
      | nil =>
        rw [hl] at h
        simp only [List.map_cons, List.map_nil, List.cons.injEq, Prod.mk.injEq, and_true] at h
        exact ⟨y, x, rfl, h.1, h.2⟩
theorem hh1 {c : Code} {s1 e1 h1 t1 : Nat} (h : c.exceptionTable.toList.map (fun h => (h.startPc, h.endPc, h.handlerPc, h.catchType)) = [(s1, e1, h1, t1)]) :
    ∃ y : ExceptionTableEntry, c.exceptionTable.toList = [y] ∧ (y.startPc = s1 ∧ y.endPc = e1 ∧ y.handlerPc = h1 ∧ y.catchType = t1) := by
  cases hl : c.exceptionTable.toList with
  | nil => rw [hl] at h; simp at h
  | cons y r =>
    cases r with
    | cons x r2 => rw [hl] at h; simp at h
    | nil =>
      rw [hl] at h
      simp only [List.map_cons, List.map_nil, List.cons.injEq, Prod.mk.injEq, and_true] at h
      exact ⟨y, rfl, h⟩
theorem hcov {x : ExceptionTableEntry} {pc s1 e1 : Nat} (h1 : x.startPc = s1) (h2 : x.endPc = e1) (h3 : s1 ≤ pc) (h4 : pc < e1) : covers x pc = true := by
  simp [covers, h1, h2, h3, h4]
section LF
variable {p : Program} {l : Launch} {e : Env} {R : Room} {s : State} {m : MethodId} {args : Array Value} {below : List Frame} {meth : Method} {c : Code} {H : Heap} {locs : List Loc} {cells slots : Nat} {Q : State → Prop}
variable {x y : MethodName} {bytes cc : ByteArray} {maxL nL mc ms n index pc : Nat} {ret : Option FieldType} {ws : List Cond} {rm : Room} {Ts : List Cond} {own C owner : String} {b : Addr} {As rest st0 : List Value} {ls : Array Slot} {hh : List (Nat × Nat × Nat × Nat)}
variable {S : Type} {D : va_G} {cl : List vw_C} {tys : List (ClassId × FieldType)} {A : Nat → Prop} {nw : Bool} {wd : S → va_W} {u0 : S}
/-- a start that also carries the Statement's start -/
def uE (D : va_G) (cl : List vw_C) (tys : List (ClassId × FieldType)) (A : Nat → Prop) (nw : Bool) (wd : S → va_W) (u : S) (U : State) : Prop := uI D cl tys A nw wd u U ∧ eX U
theorem uE_blind {u : S} {av : List Value} : FrameBlind (va_Pc av (uE D cl tys A nw wd u)) := fun a U g mk q => ⟨q.1, (uI_blind (av := av) a U g mk ⟨q.1, q.2.1⟩).2, q.2.2.same rfl rfl⟩
theorem uE_pre (hP : va_P D cl (wd u0) s.heap) (hK : va_K D cl tys s) (hD : va_D A (wd u0)) (hA : nw = true → ∀ q, s.heap.size ≤ q → A q) (he : eX s) {av : List Value} (U : State) (hU : U.heap = s.heap) (hW : s.WarmedH U.vm) : va_Pc av (uE D cl tys A nw wd u0) av.toArray U :=
  ⟨rfl, (uPre hP hK hD hA (av := av) U hU hW).2, he.step hW (by rw [hU]; exact Nat.le_refl _) (fun q _ => by rw [hU])⟩
/-- a static method with handlers, an int for an answer -/
theorem tCallSW {T0 : Type} {post : Int32 → T0 → Prop} {B : T0 → State → Prop} {Pc : Array Value → State → Prop} {A0 A1 : Nat → Prop} {free : Addr → Prop} {H0 : Heap} (F : CallFix p m c cc nL s args Ts own) (hM : Met l y ws rm Pc (va_Qi post B A1) mc ms free) (hrc : rm.cells = mc) (hrs : rm.slots = ms) (hfr : rm.frames + 1 ≤ R.frames) (hlo : 8 + (maxL + 11) + rm.locals ≤ R.locals)
    (hws : ∀ w ∈ ws, ∀ (a' : Array Value) (U : State), s.WarmedH U.vm → w.before a' U = true) (hcw : Cond.codeWith y bytes maxL ret hh ∈ ws) (hcode : (Cond.codeWith y bytes maxL ret hh).before args s = true) (hini : (Cond.initialized y.cls).before args s = true) (hy : y.cls ≠ "java/lang/invoke/MethodHandle" ∧ y.cls ≠ "java/lang/invoke/VarHandle")
    (hlen : (parseMethodDescriptor y.desc).map (fun d => d.parameters.length) = some As.length) (hl : (Cond.methodLink own index y).before args s = true) (hst : (Cond.static y).before args s = true) (hbl : FrameBlind Pc) (hPc : ∀ U : State, U.heap = H → s.WarmedH U.vm → Pc As.toArray U)
    (hS : va_S A0 H0 H locs) (hA : ∀ q, q < H.size → A1 q → A0 q) (hfree : ∀ q, free q → A0 q) (hsize : ls.size = nL) (hstk : st0 = As.reverse ++ rest) (hW : (rest.map fun v => v.category).sum ≤ 8) (hdg : decode cc pc = .ok (.invokestatic index, 3)) (hf : cells + mc ≤ R.cells ∧ slots + ms ≤ R.slots)
    (kk : ∀ (r : Int32) (u : T0) (t : State) (H1 : Heap) (locs1 : List Loc), t.heap = H1 → s.vm.Alike t.vm → post r u → B u t → H.size ≤ H1.size → (∀ q : Nat, q < H.size → ¬ A1 q → H1[q]? = H[q]?) → va_S A0 H0 H1 locs1 → W p l e R s m args below meth c H1 locs1 (cells + mc) (slots + ms) Q (F0 m (pc + 3) ls (.int r :: rest))) :
    W p l e R s m args below meth c H locs cells slots Q (F0 m pc ls st0) := by
  subst hstk
  obtain ⟨hx, hb, hml, ho, -⟩ := F
  have hK : Back l R p e below s args y 3 8 (PreOf R mc ms Pc) (PostOf (va_Qi post B A1) mc ms free) := va_backW (bytes := bytes) (maxL := maxL) (ret := ret) (hh := hh) hM hbl hrc hrs hfr hlo hws hcw (fun a' U hW => word_at hW (Or.inl (by first | rfl | simp [Cond.onTables, Cond.keeps, Cond.steady])) hini)
  refine va_calli (a := As.toArray) (rest := rest) (mc := mc) (ms := ms) (free := free) (post := post) (B := B) (A1 := A1) (fun T hT X => ?_) hS hA hfree kk
  obtain ⟨mk, methM, cM, hnamed, hmethM, -, -, -, -, -, -, hsigM⟩ := Cond.codeWith_spec hcode
  have hstatic : methM.isStatic = true := Cond.static_spec hnamed hmethM hst
  obtain ⟨kP, hkP, -⟩ := className_of_methodNamed hnamed
  have hinitP : kP.init = .initialized := Cond.initialized_spec (findClass_of_methodNamed hnamed) hkP hini
  have hlenM : As.length = methM.sig.parameters.length := by
    rw [hsigM] at hlen
    exact (Option.some.inj hlen).symm
  obtain ⟨vm₁, X₁, hstep₁⟩ := X.invokestatic hx ho hl hnamed hmethM hstatic hkP hinitP hy (g := F0 m pc ls (As.reverse ++ rest)) rfl (argsL := As) (rest := rest) hlenM rfl (by rw [hb]; exact hdg)
  obtain ⟨v, ⟨U', l2, c2, s2⟩, X', ⟨g', mk2, t, L, e1, e2, hq, h1, hL, h2, h3⟩, hsteps⟩ := hK m meth c ⟨T.setVm vm₁, locs, cells, slots⟩ (F0 m pc ls rest) (.invokestatic index) mk As.toArray X₁ rfl (hsize.trans hml.symm) (by rw [hb]; exact hdg) (lv_room hW) (X₁.named hnamed) ⟨hf.1, hf.2, hPc (T.setVm vm₁) hT X₁.warmed⟩
  dsimp only [Pt.U, Pt.locs, Pt.cells, Pt.slots] at X' e1 e2 h1 h2 h3 hsteps
  subst h1; subst h2; subst h3
  exact ⟨v, (T.setVm vm₁).calling g' mk2 As.toArray, t, U', L, hT, X', hL, e1, e2, hq, fun target h => hstep₁ _ fun acts => by rw [doInvoke_state]; exact hsteps.trans h⟩
end LF
theorem sg_D {A : Nat → Prop} {a : Nat} {e : va_E} (h : A a) : va_D A [(a, e)] := by
  refine ⟨fun i j p q hi hj _ => ?_, fun k q hk => ?_⟩
  · cases i with
    | zero =>
      cases j with
      | zero => rfl
      | succ j => cases hj
    | succ i => cases hi
  · cases k with
    | zero => cases hk; exact h
    | succ k => cases hk
theorem sg_lt {D : va_G} {cl : List vw_C} {a : Nat} {e : va_E} {H : Heap} (h : va_P D cl [(a, e)] H) : a < H.size := (h 0 _ rfl).lt
theorem sg_kept {D : va_G} {cl : List vw_C} {a : Nat} {e : va_E} {H H1 : Heap} (h : va_P D cl [(a, e)] H) (hk : H1[a]? = H[a]?) : va_P D cl [(a, e)] H1 := h.kept (fun k q hq => by
  cases k with
  | zero => cases hq; exact hk
  | succ k => cases hq)
/-- a long into place 0 of an array that stands alone -/
theorem tx_last {p : Program} {l : Launch} {e : Env} {R : Room} {s : State} {m : MethodId} {args : Array Value} {below : List Frame} {meth : Method} {c : Code} {H : Heap} {locs : List Loc} {cells slots : Nat} {Q : State → Prop} {cc : ByteArray} {pc : Nat} {ls : Array Slot} {rest : List Value} {D : va_G} {cl : List vw_C} {A : Nat → Prop} {a : Nat} {tys : List (ClassId × FieldType)} {H0 : Heap}
    (hexec : p.tables.exec = Jvm.exec) (hb : c.code = cc) (hK : va_K D cl tys s) {cA : ClassId} {n : Nat} {f : Nat → Int64} (hP : va_P D cl [(a, .inl (cA, n, .inr (.inl f)))] H) (hD : va_D A [(a, .inl (cA, n, .inr (.inl f)))]) (hS : va_S A H0 H locs) (q0 t0 : Nat) (h0 : q0 = 0) (ht : tys[t0]? = some (cA, .long)) {x : Int64} (hin : vp_in 0 n) (hdg : decode cc pc = .ok (.lastore, 1))
    (kk : ∀ (H1 : Heap) (locs1 : List Loc), va_P D cl [(a, .inl (cA, n, .inr (.inl (vp_updL f 0 x))))] H1 → va_S A H0 H1 locs1 → H1.size = H.size → (∀ q : Nat, q ≠ a → H1[q]? = H[q]?) → W p l e R s m args below meth c H1 locs1 cells slots Q (F0 m (pc + 1) ls rest)) : W p l e R s m args below meth c H locs cells slots Q (F0 m pc ls (.long x :: .int 0 :: .ref a :: rest)) := by
  have hc := hP 0 _ rfl
  refine W.last hexec hb hc ((hK.2 t0 _ ht).1 n (fun j => .long (f j))) (fun q => by cases q) (by show ¬ (_ ∨ (arrV _ _ _).slots.size ≤ _); rw [arrV_size]; exact hin) (g := F0 m pc ls (.long x :: .int 0 :: .ref a :: rest)) rfl rfl hdg (fun H1 h1 h2 h3 => ?_)
  refine kk H1 _ (fun k q hk => ?_) (hS.put h2 h3 (hD.2 0 _ rfl)) h2 h3
  cases k with
  | zero =>
    cases hk
    refine h1.trans ?_
    show some ((arrV cA n (fun j => .long (f j))).setSlot 0 (.long x)) = some (arrV cA n (fun j => .long (vp_updL f 0 x j)))
    rw [arrV_store]
    refine congrArg (fun z => some (arrV cA n z)) (funext fun j => ?_)
    by_cases e : j = 0 <;> simp [updV, vp_updL, e]
  | succ k => cases hk
