/-! rows for the class's constructors -/
/-- the Statement's start, carried along where only cells of A are written -/
def eXA (A : Nat → Prop) (U : State) : Prop := ∃ (s0 : State) (b : Nat), s0.WarmedH U.vm ∧ s0.heap.size ≤ U.heap.size ∧ (∀ q : Nat, q < s0.heap.size → U.heap[q]? = s0.heap[q]?) ∧ (∀ w ∈ lw_tbl, w.before #[Value.ref b] s0 = true) ∧ (Jvm.Cond.and given_1 narrow_1).before #[Value.ref b] s0 = true ∧ ∀ q, A q → s0.heap.size ≤ q
theorem eXA.to {A : Nat → Prop} {U : State} (h : eXA A U) : eX U := by
  obtain ⟨s0, b, h1, h2, h3, h4, h5, -⟩ := h
  exact ⟨s0, b, h1, h2, h3, h4, h5⟩
theorem eXA.step {A B : Nat → Prop} {s U : State} {H : Heap} {locs : List Loc} (h : eXA A s) (hS : va_S A s.heap H locs) (hU : U.heap = H) (hW : s.WarmedH U.vm) (hBA : ∀ q, B q → A q) : eXA B U := by
  obtain ⟨s0, b, h1, h2, h3, h4, h5, h6⟩ := h
  exact ⟨s0, b, State.WarmedH.trans h1 hW, by rw [hU]; exact Nat.le_trans h2 hS.1, fun q hq => by rw [hU, hS.2.1 q (Nat.lt_of_lt_of_le hq h2) (fun z => Nat.not_lt.mpr (h6 q z) hq)]; exact h3 q hq, h4, h5, fun q hq => h6 q (hBA q hq)⟩
theorem eX.over {C : String} {s : State} (hm : Cond.arrayOver (.object C) ∈ lw_tbl) (h : eX s) : va_AO C s := by
  obtain ⟨s0, b, h1, -, -, h4, -⟩ := h
  exact va_AO.moved h1.alike (va_AO.of (h4 _ hm))
theorem eX.nest {own host : String} {i : Nat} {y : MethodName} {s : State} (hm : Cond.methodLinkNest own i y host ∈ lw_tbl) (h : eX s) : va_Nw (.methodLinkNest own i y host) s := by
  obtain ⟨s0, b, h1, -, -, h4, -⟩ := h
  exact va_Nw.warmM h1 (va_Nw.of rfl (h4 _ hm))
/-- a constructor's start and end: these cells, these array classes, all cells to come, the Statement's start -/
def cI (D : va_G) (A : Nat → Prop) (ws : va_W) (tys : List (ClassId × FieldType)) (U : State) : Prop := va_P D clA ws U.heap ∧ va_K D clA tys U ∧ va_D A ws ∧ (∀ q, U.heap.size ≤ q → A q) ∧ eXA A U
theorem cI_blind {D : va_G} {A : Nat → Prop} {ws : va_W} {tys : List (ClassId × FieldType)} {av : List Value} : FrameBlind (va_Pc av (cI D A ws tys)) := fun a U g mk q => by
  obtain ⟨q0, qP, qK, qD, qN, s0, b, h1, h2, h3, h4⟩ := q
  exact ⟨q0, qP, va_K.moved (u := U) (U := U.calling g mk a) (Vm.Alike.refl U.vm) qK, qD, qN, s0, b, h1, h2, h3, h4⟩
theorem cI_pre {D : va_G} {A : Nat → Prop} {wc : va_W} {tys : List (ClassId × FieldType)} {s : State} {H : Heap} {locs : List Loc} {av : List Value} (hP : va_P D clA wc H) (hD : va_D A wc) (hK : va_K D clA tys s) (hS : va_S A s.heap H locs) (hF : ∀ q, va_A wc H.size q → A q) (he : eXA A s) (U : State) (hU : U.heap = H) (hW : s.WarmedH U.vm) : va_Pc av (cI D (va_A wc H.size) wc tys) av.toArray U :=
  ⟨rfl, by rw [hU]; exact hP, va_K.moved hW.alike hK, hD.self, fun q h => Or.inr (by rw [hU] at h; exact h), he.step hS hU hW hF⟩
abbrev cU : Type := (Nat → Nat) × (Nat → ClassId)
theorem arr_congr {cA : ClassId} {n : Nat} {F G : Nat → Value} (h : ∀ i, i < n → F i = G i) : arrV cA n F = arrV cA n G := by
  have e : (arrV cA n F).slots = (arrV cA n G).slots := Array.ext_getElem? (fun i => by
    by_cases hi : i < n
    · rw [arrV_read _ _ hi, arrV_read _ _ hi, h i hi]
    · rw [Array.getElem?_eq_none (by rw [arrV_size]; omega), Array.getElem?_eq_none (by rw [arrV_size]; omega)])
  have e1 : arrV cA n F = { arrV cA n G with slots := (arrV cA n F).slots } := rfl
  rw [e1, e]
/-- an array of references seen by another function that agrees on its places -/
theorem cq_at {D : va_G} {cl : List vw_C} {a : Nat} {cA : ClassId} {n : Nat} {f g : Nat → Option Nat} {H : Heap} (h : va_at D cl (a, .inl (cA, n, .inr (.inr (.inr (.inr f))))) H) (e : ∀ i, i < n → f i = g i) : va_at D cl (a, .inl (cA, n, .inr (.inr (.inr (.inr g))))) H := by
  show H[a]? = some (vp_cell _ _)
  have h1 : H[a]? = some (vp_cell cA (n, .inr (.inr (.inr (.inr f))))) := h
  rw [h1, vp_cell_q, vp_cell_q]
  exact congrArg some (arr_congr (fun i hi => by rw [e i hi]))
theorem cq_P {D : va_G} {cl : List vw_C} {ws : va_W} {p a : Nat} {cA : ClassId} {n : Nat} {f : Nat → Option Nat} {H : Heap} (h : va_P D cl ws H) (hp : ws[p]? = some (a, .inl (cA, n, .inr (.inr (.inr (.inr f)))))) (g : Nat → Option Nat) (e : ∀ i, i < n → f i = g i) : va_P D cl (ws.set p (a, .inl (cA, n, .inr (.inr (.inr (.inr g)))))) H := fun k q hk => by
  by_cases hkp : k = p
  · subst hkp
    have hlt : k < ws.length := (List.getElem?_eq_some_iff.mp hp).1
    rw [List.getElem?_set_self hlt] at hk
    cases hk
    exact cq_at (h k _ hp) e
  · rw [List.getElem?_set_ne (fun z => hkp z.symm)] at hk
    exact h k q hk
section KF
variable {p : Program} {l : Launch} {e : Env} {R : Room} {s : State} {m : MethodId} {args : Array Value} {below : List Frame} {meth : Method} {c : Code} {H : Heap} {locs : List Loc} {cells slots : Nat} {Q : State → Prop}
variable {cc : ByteArray} {pc : Nat} {ls : Array Slot} {rest : List Value} {D : va_G} {cl : List vw_C} {A : Nat → Prop} {a : Nat} {tys : List (ClassId × FieldType)} {ws : va_W} {H0 : Heap}
/-- an object of a class that the array's class takes -/
theorem fx_astS (hexec : p.tables.exec = Jvm.exec) (hb : c.code = cc) (hK : va_K D cl tys s) (hP : va_P D cl ws H) (hD : va_D A ws) (hS : va_S A H0 H locs) (q0 t0 qk ci : Nat) {cA : ClassId} {r : vw_C} {T : String} {n v : Nat} {vs : List Value} {f : Nat → Option Nat} (ha : ws[q0]? = some (a, .inl (cA, n, .inr (.inr (.inr (.inr f)))))) (ht : tys[t0]? = some (cA, .object T)) (hv : ws[qk]? = some (v, .inr (ci, vs))) (hc : cl[ci]? = some r) (hcast : (Cond.castable r.1 T).before args s = true) {i : Int32} (hin : vp_in i n) (hdg : decode cc pc = .ok (.aastore, 1))
    (kk : ∀ (H1 : Heap) (locs1 : List Loc), va_P D cl (ws.set q0 (a, .inl (cA, n, .inr (.inr (.inr (.inr (va_up f i.toNatClampNeg (some v)))))))) H1 → va_D A (ws.set q0 (a, .inl (cA, n, .inr (.inr (.inr (.inr (va_up f i.toNatClampNeg (some v)))))))) → va_S A H0 H1 locs1 → W p l e R s m args below meth c H1 locs1 cells slots Q (F0 m (pc + 1) ls rest)) : W p l e R s m args below meth c H locs cells slots Q (F0 m pc ls (.ref v :: .int i :: .ref a :: rest)) := by
  have hlt : i.toNatClampNeg < n := fx_lt hin
  have h0 : ¬ i < 0 := fun q => hin (Or.inl q)
  obtain ⟨r', hr', cellV, g1, g2, g3, -⟩ := hP qk _ hv
  have hcls := (hK.1 ci r hc).2
  obtain ⟨kA, comp, k1, k2, k3, -⟩ := (hK.2 t0 _ ht).2
  obtain ⟨c3, c4, hc3, hc4, hasg⟩ := Cond.castable_spec hcast
  cases Option.some.inj (hc3.symm.trans hcls.1)
  cases Option.some.inj (hc4.symm.trans k3)
  obtain ⟨kC, hkC, -⟩ := hcls.2
  obtain ⟨kT, hkT, -⟩ := Vm.findClass_spec k3
  refine W.aast hexec hb (hP q0 _ ha) (fun q h => by cases h) (fun h => by cases h) k1 k2 rfl hkT ⟨h0, by show _ < (arrV _ _ _).slots.size; rw [arrV_size]; exact hlt⟩ g1 (fun q h => by rw [g3] at h; cases h) (by rw [g2]; exact hkC) (by rw [g2]; exact hasg) rfl rfl hdg fun H1 e z oq => ?_
  refine kk H1 _ (hP.set hD ha ?_ oq) (hD.set ha) (hS.put z oq (hD.2 q0 _ ha))
  show H1[a]? = some (vp_cell _ _)
  rw [e, vp_cell_q, vp_cell_q, arrV_store]
  congr 2
  funext q
  by_cases hq : q = i.toNatClampNeg
  · subst hq
    simp [updV, va_up, va_rf]
  · simp [updV, va_up, hq]
end KF
theorem eX.overA {ty : FieldType} {s : State} {args : Array Value} (hm : Cond.arrayOver ty ∈ lw_tbl) (h : eX s) : (Cond.arrayOver ty).before args s = true := by
  obtain ⟨s0, b, h1, -, -, h4, -⟩ := h
  have h9 : (Cond.arrayOver ty).before #[Value.ref b] (s0.setVm s.vm) = true := by rw [Cond.arrayOver_setVmC h1.alike ty]; exact h4 _ hm
  exact h9
section KM
variable {p : Program} {l : Launch} {e : Env} {R : Room} {s : State} {m : MethodId} {args : Array Value} {below : List Frame} {meth : Method} {c : Code} {H : Heap} {locs : List Loc} {cells slots : Nat} {Q : State → Prop}
variable {cc : ByteArray} {pc : Nat} {ls : Array Slot} {rest : List Value} {D : va_G} {cl : List vw_C} {A : Nat → Prop} {a : Nat} {tys : List (ClassId × FieldType)} {ws : va_W} {H0 : Heap}
/-- new int[4][4] -/
theorem fx_mna (hexec : p.tables.exec = Jvm.exec) (hb : c.code = cc) {own : String} {index : Nat} (hown : s.vm.findClass own = some m.cls) (hclink : (Cond.classLink own index "[[I").before args s = true) (hover : (Cond.arrayOver (.array .int)).before args s = true) (harr : (Cond.arrayClass .int).before args s = true)
    (hK : va_K D cl tys s) (hP : va_P D cl ws H) (hD : va_D A ws) (hS : va_S A H0 H locs) (hA : ∀ q, H0.size ≤ q → A q) (hcells : cells + 5 ≤ R.cells) (hslots : slots + 20 ≤ R.slots) (hdg : decode cc pc = .ok (.multianewarray index 2, 4))
    (kk : ∀ (q : Nat) (cA cy : ClassId) (H1 : Heap), s.vm.findClass "[I" = some cy → ArrOfT s cA (.array .int) ∧ va_RA s cA (.array .int) → va_P D cl (ws ++ [(q, .inl (cA, 4, .inr (.inr (.inr (.inr (fun k => some (q + 1 + k))))))), (q + 1, .inl (cy, 4, .inl (fun _ => 0))), (q + 2, .inl (cy, 4, .inl (fun _ => 0))), (q + 3, .inl (cy, 4, .inl (fun _ => 0))), (q + 4, .inl (cy, 4, .inl (fun _ => 0)))]) H1 →
      va_D A (ws ++ [(q, .inl (cA, 4, .inr (.inr (.inr (.inr (fun k => some (q + 1 + k))))))), (q + 1, .inl (cy, 4, .inl (fun _ => 0))), (q + 2, .inl (cy, 4, .inl (fun _ => 0))), (q + 3, .inl (cy, 4, .inl (fun _ => 0))), (q + 4, .inl (cy, 4, .inl (fun _ => 0)))]) → va_S A H0 H1 locs → W p l e R s m args below meth c H1 locs (cells + 5) (slots + 20) Q (F0 m (pc + 4) ls (.ref q :: rest))) :
    W p l e R s m args below meth c H locs cells slots Q (F0 m pc ls (.int 4 :: .int 4 :: rest)) := by
  intro T hT X
  obtain ⟨vm₁, cA, cy, -, fA, fC, hO, -, X', step⟩ := X.multianewarray2F hexec hown (ty := .int) hclink hover harr (g := F0 m pc ls (.int 4 :: .int 4 :: rest)) rfl (by rw [hb]; exact hdg) rfl (by decide) (by decide) (by decide) (by decide) (by decide) (by decide) (by decide) hcells hslots
  have e4 : (4 : Int32).toNatClampNeg = 4 := by decide
  rw [e4] at X' step
  generalize hF : Jvm.Free.Multi.fill (T.setVm vm₁) cA cy 4 4 (defaultValue .int) 4 = F at X' step
  have hTh : (T.setVm vm₁).heap = H := hT
  obtain ⟨f1, f2, -, -⟩ := Jvm.Free.Multi.fill_facts (T.setVm vm₁) cA cy 4 4 (defaultValue .int) 4
  rw [hF, hTh] at f1 f2
  have hold : ∀ x : Nat, x < H.size → F.heap[x]? = H[x]? := fun x hx => by
    have := Jvm.Free.Multi.fill_old (T.setVm vm₁) cA cy 4 4 (defaultValue .int) (a := x) (by rw [hTh]; exact hx) 4
    rw [hF, hTh] at this
    exact this
  have hrow : ∀ j : Nat, j < 4 → F.heap[H.size + 1 + j]? = some (vp_cell cy (4, .inl (fun _ => 0))) := fun j hj => by
    have := Jvm.Free.Multi.fill_inner (T.setVm vm₁) cA cy 4 4 (defaultValue .int) 4 j hj
    rw [hF, hTh] at this
    refine this.trans (congrArg some ?_)
    show ({ cls := cy, slots := Array.replicate 4 (.int 0), vm := .none } : Cell) = arrV cy 4 (fun _ => .int 0)
    rfl
  have hout : F.heap[H.size]? = some (vp_cell cA (4, .inr (.inr (.inr (.inr (fun k => some (H.size + 1 + k))))))) := by
    refine f2.trans (congrArg some ?_)
    rw [vp_cell_q]
    rfl
  have hP0 : va_P D cl ws F.heap := hP.kept (fun k x hx => hold x.1 ((hP k x hx).lt))
  have hz : F.heap.size = H.size + 1 + 4 := f1
  have hAr : ArrOfT s cA (.array .int) := fun N9 z9 => by
    obtain ⟨-, k9, hk9, cm9, hkk9⟩ := (hO 0 0 0).1
    exact ⟨(fun q hq => by cases hq), k9, hk9, cm9, hkk9⟩
  obtain ⟨w5, e5⟩ : ∃ w : va_W, w = [(H.size, .inl (cA, 4, .inr (.inr (.inr (.inr (fun k => some (H.size + 1 + k))))))), (H.size + 1, .inl (cy, 4, .inl (fun _ => 0))), (H.size + 2, .inl (cy, 4, .inl (fun _ => 0))), (H.size + 3, .inl (cy, 4, .inl (fun _ => 0))), (H.size + 4, .inl (cy, 4, .inl (fun _ => 0)))] := ⟨_, rfl⟩
  have hat : ∀ (k : Nat) (x : Nat × va_E), w5[k]? = some x → x.1 = H.size + k ∧ va_at D cl x F.heap := fun k x hx => by
    have hk5 : k < w5.length := (List.getElem?_eq_some_iff.mp hx).1
    rw [e5] at hk5 hx
    have hk6 : k < 5 := hk5
    rcases (show k = 0 ∨ k = 1 ∨ k = 2 ∨ k = 3 ∨ k = 4 by omega) with rfl | rfl | rfl | rfl | rfl <;> cases hx
    · exact ⟨rfl, hout⟩
    · exact ⟨rfl, hrow 0 (by decide)⟩
    · exact ⟨rfl, hrow 1 (by decide)⟩
    · exact ⟨rfl, hrow 2 (by decide)⟩
    · exact ⟨rfl, hrow 3 (by decide)⟩
  have hPn : va_P D cl (ws ++ w5) F.heap := hP0.app (fun k x hx => (hat k x hx).2)
  have hDn : va_D A (ws ++ w5) := hD.app ⟨fun i j x y hi hj hxy => by have := (hat i x hi).1; have := (hat j y hj).1; omega, fun k x hx => hA _ (by have := (hat k x hx).1; have := hS.1; omega)⟩ (fun i j x y hi hj hxy => by have h1 := (hP i x hi).lt; have h2 := (hat j y hj).1; omega)
  rw [e5] at hPn hDn
  obtain ⟨t, a1, b1⟩ := kk H.size cA cy F.heap fC ⟨hAr, fA⟩ hPn hDn ⟨by rw [f1]; have := hS.1; omega, fun x h1 h2 => (hold x (Nat.lt_of_lt_of_le h1 hS.1)).trans (hS.2.1 x h1 h2), hS.2.2⟩ F rfl X'
  refine ⟨t, step t ?_, b1⟩
  have e9 : T.heap.size = H.size := by rw [hT]
  rw [e9]
  exact a1
end KM
