set_option maxRecDepth 100000 in
theorem at_IAE : (Bundle.ownAtoms "NodeServices" 188 "java/lang/IllegalArgumentException" exN).all (fun w => decide (w ∈ wg) || decide (w ∈ nonG)) = true := by decide +kernel
/-! methods that only read, and what a throwing method asks of its start -/
def pI (D : va_G) (t : Nat → ClassId) (a : Nat → Nat) (σ : CS) (U : State) : Prop := va_P D clA (cw a t σ) U.heap ∧ va_K D clA (cT t) U
def pE (D : va_G) (t : Nat → ClassId) (a : Nat → Nat) (σ : CS) (U : State) : Prop := (va_P D clA (cw a t σ) U.heap ∧ va_K D clA (cT t) U) ∧ eX U
theorem pI_blind {D : va_G} {t : Nat → ClassId} {a : Nat → Nat} {σ : CS} {av : List Value} : FrameBlind (va_Pc av (pI D t a σ)) := fun x U g mk q => ⟨q.1, q.2.1, va_K.moved (u := U) (U := U.calling g mk x) (Vm.Alike.refl U.vm) q.2.2⟩
theorem pE_blind {D : va_G} {t : Nat → ClassId} {a : Nat → Nat} {σ : CS} {av : List Value} : FrameBlind (va_Pc av (pE D t a σ)) := fun x U g mk q => ⟨q.1, ⟨q.2.1.1, va_K.moved (u := U) (U := U.calling g mk x) (Vm.Alike.refl U.vm) q.2.1.2⟩, q.2.2.same rfl rfl⟩
section PF
variable {p : Program} {l : Launch} {e : Env} {R : Room} {s : State} {m : MethodId} {args : Array Value} {below : List Frame} {meth : Method} {c : Code} {H : Heap} {locs : List Loc} {cells slots : Nat} {Q : State → Prop}
variable {x y : MethodName} {bytes cc : ByteArray} {maxL nL mc ms n index pc : Nat} {ret : Option FieldType} {ws : List Cond} {rm : Room} {Ts : List Cond} {own C owner : String} {b : Addr} {As rest st0 : List Value} {ls : Array Slot}
variable {D : va_G} {t : Nat → ClassId} {a : Nat → Nat} {σ : CS}
theorem pPre {av : List Value} (hP : va_P D clA (cw a t σ) H) (hK : va_K D clA (cT t) s) (he : eX s) (hS : va_S (fun _ => False) s.heap H locs) (U : State) (hU : U.heap = H) (hW : s.WarmedH U.vm) : va_Pc av (pE D t a σ) av.toArray U :=
  ⟨rfl, ⟨by rw [hU]; exact hP, va_K.moved hW.alike hK⟩, he.step hW (by rw [hU]; exact hS.1) (fun q hq => by rw [hU]; exact hS.2.1 q hq id)⟩
theorem pPre0 {av : List Value} (hP : va_P D clA (cw a t σ) H) (hK : va_K D clA (cT t) s) (U : State) (hU : U.heap = H) (hW : s.WarmedH U.vm) : va_Pc av (pI D t a σ) av.toArray U := ⟨rfl, by rw [hU]; exact hP, va_K.moved hW.alike hK⟩
theorem pEnd {u : State} (ht : u.heap = H) (hW : s.WarmedH u.vm) (hP : va_P D clA (cw a t σ) H) (hK : va_K D clA (cT t) s) : pI D t a σ u := ⟨by rw [ht]; exact hP, va_K.moved hW.alike hK⟩
theorem pCallVi {post : Int32 → CS → Prop} (F : CallFix p m c cc nL s args Ts own) (hM : Met l y ws rm (va_Pc (.ref b :: As) (pI D t a σ)) (va_Qi post (pI D t a) (fun _ => False)) mc ms (fun _ => False)) (cw' : CallW R s args own C index y bytes maxL ret ws rm mc ms n)
    (hrec : ∃ cellB : Cell, H[b]? = some cellB ∧ cellB.vm.isStatics = false ∧ s.vm.findClass C = some cellB.cls) (hP : va_P D clA (cw a t σ) H) (hK : va_K D clA (cT t) s) (hS : va_S (fun _ => False) s.heap H locs)
    (hn : As.length = n) (hsize : ls.size = nL) (hst : st0 = As.reverse ++ .ref b :: rest) (hW : (rest.map fun v => v.category).sum ≤ 8) (hdg : decode cc pc = .ok (.invokevirtual index, 3)) (hf : cells + mc ≤ R.cells ∧ slots + ms ≤ R.slots)
    (kk : ∀ (r : Int32) (u : CS) (H1 : Heap) (locs1 : List Loc), post r u → va_P D clA (cw a t u) H1 → va_S (fun _ => False) s.heap H1 locs1 → W p l e R s m args below meth c H1 locs1 (cells + mc) (slots + ms) Q (F0 m (pc + 3) ls (.int r :: rest))) :
    W p l e R s m args below meth c H locs cells slots Q (F0 m pc ls st0) := by
  subst hst
  exact va_calli (va_runV F hM cw' ⟨pI_blind, hrec, pPre0 hP hK⟩ rfl hn hsize rfl (lv_room hW) hdg hf) hS (fun q _ h => h) (fun q h => h) (fun r u t2 H1 locs1 ht hvm hw hB hz hk hS1 => kk r u H1 locs1 hw (by rw [← ht]; exact hB.1) hS1)
theorem pCallVq {post : Option Nat → CS → Prop} (F : CallFix p m c cc nL s args Ts own) (hM : Met l y ws rm (va_Pc (.ref b :: As) (pI D t a σ)) (va_Qq post (pI D t a) (fun _ => False)) mc ms (fun _ => False)) (cw' : CallW R s args own C index y bytes maxL ret ws rm mc ms n)
    (hrec : ∃ cellB : Cell, H[b]? = some cellB ∧ cellB.vm.isStatics = false ∧ s.vm.findClass C = some cellB.cls) (hP : va_P D clA (cw a t σ) H) (hK : va_K D clA (cT t) s) (hS : va_S (fun _ => False) s.heap H locs)
    (hn : As.length = n) (hsize : ls.size = nL) (hst : st0 = As.reverse ++ .ref b :: rest) (hW : (rest.map fun v => v.category).sum ≤ 8) (hdg : decode cc pc = .ok (.invokevirtual index, 3)) (hf : cells + mc ≤ R.cells ∧ slots + ms ≤ R.slots)
    (kk : ∀ (r : Option Nat) (u : CS) (H1 : Heap) (locs1 : List Loc), post r u → va_P D clA (cw a t u) H1 → va_S (fun _ => False) s.heap H1 locs1 → W p l e R s m args below meth c H1 locs1 (cells + mc) (slots + ms) Q (F0 m (pc + 3) ls (va_rf r :: rest))) :
    W p l e R s m args below meth c H locs cells slots Q (F0 m pc ls st0) := by
  subst hst
  exact va_callq (va_runV F hM cw' ⟨pI_blind, hrec, pPre0 hP hK⟩ rfl hn hsize rfl (lv_room hW) hdg hf) hS (fun q _ h => h) (fun q h => h) (fun r u t2 H1 locs1 ht hvm hw hB hz hk hS1 => kk r u H1 locs1 hw (by rw [← ht]; exact hB.1) hS1)
theorem pCallSv {post : CS → Prop} (F : CallFix p m c cc nL s args Ts own) (hM : Met l y ws rm (va_Pc As (pI D t a σ)) (va_Qv post (pI D t a) (fun _ => False)) mc ms (fun _ => False)) (cw' : CallB R s args own index y bytes maxL ret ws rm mc ms n ∧ (Cond.static y).before args s = true)
    (hP : va_P D clA (cw a t σ) H) (hK : va_K D clA (cT t) s) (hS : va_S (fun _ => False) s.heap H locs)
    (hn : As.length = n) (hsize : ls.size = nL) (hst : st0 = As.reverse ++ rest) (hW : (rest.map fun v => v.category).sum ≤ 8) (hdg : decode cc pc = .ok (.invokestatic index, 3)) (hf : cells + mc ≤ R.cells ∧ slots + ms ≤ R.slots)
    (kk : ∀ (u : CS) (H1 : Heap) (locs1 : List Loc), post u → va_P D clA (cw a t u) H1 → va_S (fun _ => False) s.heap H1 locs1 → W p l e R s m args below meth c H1 locs1 (cells + mc) (slots + ms) Q (F0 m (pc + 3) ls rest)) :
    W p l e R s m args below meth c H locs cells slots Q (F0 m pc ls st0) := by
  subst hst
  exact va_callv (va_runS F hM cw' ⟨pI_blind, pPre0 hP hK⟩ rfl hn hsize rfl (lv_room hW) hdg hf) hS (fun q _ h => h) (fun q h => h) (fun u t2 H1 locs1 ht hvm hw hB hz hk hS1 => kk u H1 locs1 hw (by rw [← ht]; exact hB.1) hS1)
theorem uCallSv {S : Type} {cl : List vw_C} {tys : List (ClassId × FieldType)} {A : Nat → Prop} {nw : Bool} {wd : S → va_W} {u0 : S} {post : S → Prop} (F : CallFix p m c cc nL s args Ts own) (hM : Met l y ws rm (va_Pc As (uI D cl tys A nw wd u0)) (va_Qv post (uI D cl tys A nw wd) A) mc ms A) (cw' : CallB R s args own index y bytes maxL ret ws rm mc ms n ∧ (Cond.static y).before args s = true)
    (hP : va_P D cl (wd u0) H) (hK : va_K D cl tys s) (hD : va_D A (wd u0)) (hA : nw = true → ∀ q, s.heap.size ≤ q → A q) (hS : va_S A s.heap H locs)
    (hn : As.length = n) (hsize : ls.size = nL) (hst : st0 = As.reverse ++ rest) (hW : (rest.map fun v => v.category).sum ≤ 8) (hdg : decode cc pc = .ok (.invokestatic index, 3)) (hf : cells + mc ≤ R.cells ∧ slots + ms ≤ R.slots)
    (kk : ∀ (u : S) (H1 : Heap) (locs1 : List Loc), post u → va_P D cl (wd u) H1 → va_D A (wd u) → va_S A s.heap H1 locs1 → W p l e R s m args below meth c H1 locs1 (cells + mc) (slots + ms) Q (F0 m (pc + 3) ls rest)) :
    W p l e R s m args below meth c H locs cells slots Q (F0 m pc ls st0) := by
  subst hst
  exact va_callv (va_runS F hM cw' ⟨uI_blind, uPre hP hK hD (fun h q hq => hA h q (Nat.le_trans hS.1 hq))⟩ rfl hn hsize rfl (lv_room hW) hdg hf) hS (fun q _ h => h) (fun q h => h)
    (fun u t2 H1 locs1 ht hvm hw hB hz hk hS1 => kk u H1 locs1 hw (by rw [← ht]; exact hB.1) hB.2.2.1 hS1)
/-- 'throw new NoSuchElementException("text")' -/
theorem tThrowN {rest : List Value} {text : String} {sa : Nat} (hexec : p.tables.exec = Jvm.exec) (hb : c.code = cc) (htr : l.stackTraces = false) (hown : s.vm.findClass "NodeServices" = some m.cls) (hat : ∀ L ∈ nseA, ∀ w ∈ L, w.before args s = true) (hstr : vk_R "NodeServices" 132 text sa s)
    (hS : va_S (fun _ => False) s.heap H locs) (hsize : ls.size = c.maxLocals)
    (d0 : decode cc pc = .ok (.new 130, 3)) (d3 : decode cc (pc + 3) = .ok (.dup, 1)) (d4 : decode cc (pc + 4) = .ok (.ldc 132, 2)) (d6 : decode cc (pc + 6) = .ok (.invokespecial 134, 3)) (d9 : decode cc (pc + 9) = .ok (.athrow, 1))
    (hempty : c.exceptionTable.isEmpty = true) (hRframes : 5 < R.frames) (hRlocals : (rest.map fun v => v.category).sum + (13 * 3 + 43) ≤ R.locals) (hRcells : cells + 1 ≤ R.cells) (hRslots : slots + 6 ≤ R.slots) (hlocks : meth.locks = false) (hmc : cells + 1 ≤ mc) (hms : slots + 6 ≤ ms) :
    W p l e R s m args below meth c H locs cells slots (tE below nseN args s mc ms) (F0 m pc ls rest) := by
  have hL := tx_nil hS
  subst hL
  have hT : ∀ w ∈ nseT, w.before args s = true := fun w hw => hat nseT (by simp [nseA]) w hw
  refine W.newc hexec hb hown (hT (.classLink "NodeServices" 130 nseN) (by simp [nseT])) (hT (.instantiable nseN 6) (by simp [nseT])) (hT (.initialized nseN) (by simp [nseT])) (g := F0 m pc ls rest) rfl d0 hRcells hRslots (fun cC kC hfc hkc hord hn => ?_)
  refine W.eq (g2 := F0 m (pc + 3) ls (.ref H.size :: rest)) rfl ?_
  refine lv_dup hexec hb d3 rfl ?_
  refine va_ldcS hexec hb hown hstr d4 ?_
  intro T hT2 X
  have hplat : e.platform.stackTraces = false := (show e.platform.stackTraces = l.stackTraces by rw [X.admits.platform]).trans htr
  have hcell : T.heap[H.size]? = some (freshCell cC kC) := by
    rw [hT2]
    show (H.push _)[H.size]? = _
    rw [Array.getElem?_push_size]
  have hcat : (Value.ref H.size).category = 1 := rfl
  obtain ⟨U, hsteps, hrun, hend, hW, hsame, ce, hce, hv, hcl⟩ := tx_nse X hexec hplat hown hat hfc hkc (a := H.size) hcell hS.1 (msg := .ref sa) rfl
    (g := F0 m (pc + 6) ls (.ref sa :: .ref H.size :: .ref H.size :: rest)) rfl hsize rfl rfl (rest := rest) rfl (by rw [hb]; exact d6) (by rw [hb]; exact d9)
    (fun x hx => by
      have : c.exceptionTable.toList = [] := by
        cases hz : c.exceptionTable with
        | mk z => rw [hz] at hempty; cases z with
          | nil => rfl
          | cons y r => simp at hempty
      rw [this] at hx; exact nomatch hx) hRframes (by simp only [List.map_cons, List.sum_cons, hcat]; simp [F0]; omega) hlocks
  have hsame' := hsame.mono hmc hms
  exact ⟨U, hsteps, .threw H.size, hrun, hend, H.size, ce, rfl, tx_frame hsame', hce, hv, hcl, hW, hsame'⟩
end PF
