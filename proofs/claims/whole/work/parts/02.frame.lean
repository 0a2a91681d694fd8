-- a state of a class: field number, place, value
abbrev MS : Type := Nat → Nat → Int32
def up2 (f : MS) (k i : Nat) (v : Int32) : MS := fun j => cond (Nat.beq j k) (upd (f k) i v) (f j)
theorem fx_beq (j k : Nat) : Nat.beq j k = decide (j = k) := by
  by_cases h : j = k
  · subst h
    simp [Nat.beq_refl]
  · cases hb : Nat.beq j k
    · simp [h]
    · exact absurd (Nat.eq_of_beq_eq_true hb) h
theorem up2_at (f : MS) (k i : Nat) (v : Int32) (j : Nat) : up2 f k i v j = if j = k then upd (f k) i v else f j := by
  unfold up2
  rw [fx_beq]
  by_cases h : j = k <;> simp [h]
theorem fx_inc1 (x : Int32) : x + Int32.ofInt 1 = x + 1 := by
  have h : Int32.ofInt 1 = 1 := by decide
  rw [h]
theorem fx_inc3 (x : Int32) : x + Int32.ofInt 3 = x + 3 := by
  have h : Int32.ofInt 3 = 3 := by decide
  rw [h]
theorem fx_out4 {x : Int32} (h0 : ¬ x = 0) (h1 : ¬ x = 1) (h2 : ¬ x = 2) (h3 : ¬ x = 3) : x.toInt < 0 ∨ 3 < x.toInt := by
  by_cases ha : x.toInt < 0
  · exact Or.inl ha
  · by_cases hb : 3 < x.toInt
    · exact Or.inr hb
    · exfalso
      have hq : x.toInt = 0 ∨ x.toInt = 1 ∨ x.toInt = 2 ∨ x.toInt = 3 := by omega
      rcases hq with q | q | q | q
      · exact h0 (Int32.toInt_inj.mp (q.trans (by decide)))
      · exact h1 (Int32.toInt_inj.mp (q.trans (by decide)))
      · exact h2 (Int32.toInt_inj.mp (q.trans (by decide)))
      · exact h3 (Int32.toInt_inj.mp (q.trans (by decide)))
/-- the invariant of a method's world: wd says which cells stand for a state u; nw: the method may make cells -/
def uI {S : Type} (D : va_G) (cl : List vw_C) (tys : List (ClassId × FieldType)) (A : Nat → Prop) (nw : Bool) (wd : S → va_W) (u : S) (U : State) : Prop :=
  va_P D cl (wd u) U.heap ∧ va_K D cl tys U ∧ va_D A (wd u) ∧ (nw = true → ∀ q, U.heap.size ≤ q → A q)
theorem uI_blind {S : Type} {D : va_G} {cl : List vw_C} {tys : List (ClassId × FieldType)} {A : Nat → Prop} {nw : Bool} {wd : S → va_W} {u : S} {av : List Value} : FrameBlind (va_Pc av (uI D cl tys A nw wd u)) := fun a U g mk q => by
  obtain ⟨q0, qP, qK, qD, qN⟩ := q
  exact ⟨q0, qP, va_K.moved (u := U) (U := U.calling g mk a) (Vm.Alike.refl U.vm) qK, qD, qN⟩
section UC
variable {p : Program} {l : Launch} {e : Env} {R : Room} {s : State} {m : MethodId} {args : Array Value} {below : List Frame} {meth : Method} {c : Code} {H : Heap} {locs : List Loc} {cells slots : Nat} {Q : State → Prop}
variable {y : MethodName} {bytes cc : ByteArray} {maxL nL mc ms n index pc : Nat} {ret : Option FieldType} {ws : List Cond} {rm : Room} {Ts : List Cond} {own C : String} {b : Addr} {As rest st0 : List Value} {ls : Array Slot}
variable {S : Type} {D : va_G} {cl : List vw_C} {tys : List (ClassId × FieldType)} {A : Nat → Prop} {nw : Bool} {wd : S → va_W} {u0 : S} {H0 : Heap}
theorem uPre (hP : va_P D cl (wd u0) H) (hK : va_K D cl tys s) (hD : va_D A (wd u0)) (hN : nw = true → ∀ q, H.size ≤ q → A q) {av : List Value} (U : State) (hU : U.heap = H) (hW : s.WarmedH U.vm) : va_Pc av (uI D cl tys A nw wd u0) av.toArray U :=
  ⟨rfl, by rw [hU]; exact hP, va_K.moved hW.alike hK, hD, by rw [hU]; exact hN⟩
/-- what a return gives -/
theorem uEnd {t : State} {u : S} (ht : t.heap = H) (hW : s.WarmedH t.vm) (hP : va_P D cl (wd u) H) (hK : va_K D cl tys s) (hD : va_D A (wd u)) (hS : va_S A s.heap H locs) (hA : nw = true → ∀ q, s.heap.size ≤ q → A q) : uI D cl tys A nw wd u t :=
  ⟨by rw [ht]; exact hP, va_K.moved hW.alike hK, hD, fun h q hq => hA h q (Nat.le_trans hS.1 (by rw [ht] at hq; exact hq))⟩
/-- an instance method of the same world, no answer -/
theorem uCallVv {post : S → Prop} (F : CallFix p m c cc nL s args Ts own) (hM : Met l y ws rm (va_Pc (.ref b :: As) (uI D cl tys A nw wd u0)) (va_Qv post (uI D cl tys A nw wd) A) mc ms A) (cw : CallW R s args own C index y bytes maxL ret ws rm mc ms n)
    (hrec : ∃ cellB : Cell, H[b]? = some cellB ∧ cellB.vm.isStatics = false ∧ s.vm.findClass C = some cellB.cls)
    (hP : va_P D cl (wd u0) H) (hK : va_K D cl tys s) (hD : va_D A (wd u0)) (hA : nw = true → ∀ q, s.heap.size ≤ q → A q) (hS : va_S A s.heap H locs)
    (hn : As.length = n) (hsize : ls.size = nL) (hst : st0 = As.reverse ++ .ref b :: rest) (hW : (rest.map fun v => v.category).sum ≤ 8) (hdg : decode cc pc = .ok (.invokevirtual index, 3)) (hf : cells + mc ≤ R.cells ∧ slots + ms ≤ R.slots)
    (kk : ∀ (u : S) (H1 : Heap) (locs1 : List Loc), post u → va_P D cl (wd u) H1 → va_D A (wd u) → va_S A s.heap H1 locs1 → W p l e R s m args below meth c H1 locs1 (cells + mc) (slots + ms) Q (F0 m (pc + 3) ls rest)) :
    W p l e R s m args below meth c H locs cells slots Q (F0 m pc ls st0) := by
  subst hst
  exact va_callv (va_runV F hM cw ⟨uI_blind, hrec, uPre hP hK hD (fun h q hq => hA h q (Nat.le_trans hS.1 hq))⟩ rfl hn hsize rfl (lv_room hW) hdg hf) hS (fun q _ h => h) (fun q h => h)
    (fun u t H1 locs1 ht hvm hw hB hz hk hS1 => kk u H1 locs1 hw (by rw [← ht]; exact hB.1) hB.2.2.1 hS1)
theorem uCallVi {post : Int32 → S → Prop} (F : CallFix p m c cc nL s args Ts own) (hM : Met l y ws rm (va_Pc (.ref b :: As) (uI D cl tys A nw wd u0)) (va_Qi post (uI D cl tys A nw wd) A) mc ms A) (cw : CallW R s args own C index y bytes maxL ret ws rm mc ms n)
    (hrec : ∃ cellB : Cell, H[b]? = some cellB ∧ cellB.vm.isStatics = false ∧ s.vm.findClass C = some cellB.cls)
    (hP : va_P D cl (wd u0) H) (hK : va_K D cl tys s) (hD : va_D A (wd u0)) (hA : nw = true → ∀ q, s.heap.size ≤ q → A q) (hS : va_S A s.heap H locs)
    (hn : As.length = n) (hsize : ls.size = nL) (hst : st0 = As.reverse ++ .ref b :: rest) (hW : (rest.map fun v => v.category).sum ≤ 8) (hdg : decode cc pc = .ok (.invokevirtual index, 3)) (hf : cells + mc ≤ R.cells ∧ slots + ms ≤ R.slots)
    (kk : ∀ (r : Int32) (u : S) (H1 : Heap) (locs1 : List Loc), post r u → va_P D cl (wd u) H1 → va_D A (wd u) → va_S A s.heap H1 locs1 → W p l e R s m args below meth c H1 locs1 (cells + mc) (slots + ms) Q (F0 m (pc + 3) ls (.int r :: rest))) :
    W p l e R s m args below meth c H locs cells slots Q (F0 m pc ls st0) := by
  subst hst
  exact va_calli (va_runV F hM cw ⟨uI_blind, hrec, uPre hP hK hD (fun h q hq => hA h q (Nat.le_trans hS.1 hq))⟩ rfl hn hsize rfl (lv_room hW) hdg hf) hS (fun q _ h => h) (fun q h => h)
    (fun r u t H1 locs1 ht hvm hw hB hz hk hS1 => kk r u H1 locs1 hw (by rw [← ht]; exact hB.1) hB.2.2.1 hS1)
/-- a static method of the same class, an int for an answer -/
theorem uCallSi {post : Int32 → S → Prop} (F : CallFix p m c cc nL s args Ts own) (hM : Met l y ws rm (va_Pc As (uI D cl tys A nw wd u0)) (va_Qi post (uI D cl tys A nw wd) A) mc ms A) (cw : CallB R s args own index y bytes maxL ret ws rm mc ms n ∧ (Cond.static y).before args s = true)
    (hP : va_P D cl (wd u0) H) (hK : va_K D cl tys s) (hD : va_D A (wd u0)) (hA : nw = true → ∀ q, s.heap.size ≤ q → A q) (hS : va_S A s.heap H locs)
    (hn : As.length = n) (hsize : ls.size = nL) (hst : st0 = As.reverse ++ rest) (hW : (rest.map fun v => v.category).sum ≤ 8) (hdg : decode cc pc = .ok (.invokestatic index, 3)) (hf : cells + mc ≤ R.cells ∧ slots + ms ≤ R.slots)
    (kk : ∀ (r : Int32) (u : S) (H1 : Heap) (locs1 : List Loc), post r u → va_P D cl (wd u) H1 → va_D A (wd u) → va_S A s.heap H1 locs1 → W p l e R s m args below meth c H1 locs1 (cells + mc) (slots + ms) Q (F0 m (pc + 3) ls (.int r :: rest))) :
    W p l e R s m args below meth c H locs cells slots Q (F0 m pc ls st0) := by
  subst hst
  exact va_calli (va_runS F hM cw ⟨uI_blind, uPre hP hK hD (fun h q hq => hA h q (Nat.le_trans hS.1 hq))⟩ rfl hn hsize rfl (lv_room hW) hdg hf) hS (fun q _ h => h) (fun q h => h)
    (fun r u t H1 locs1 ht hvm hw hB hz hk hS1 => kk r u H1 locs1 hw (by rw [← ht]; exact hB.1) hB.2.2.1 hS1)
end UC
