/-! what the Statement does not say of FIRST_HOLDERS: its array's own class (REPORT.md, STATEMENT) -/
/-- the word that it says reads nothing of the class but its kind -/
theorem gap_word {args : Array Value} {s : State} {t : Term} {a : Nat} {cell : Cell} {k : Class} {comp : ClassId} (ht : t.eval args s none [] s = some (.ref a)) (hc : s.heap[a]? = some cell) (hk : s.vm.classes[cell.cls]? = some k) (hkind : k.kind = .array comp .int) (h1 : cell.vm.isStatics = false) (h2 : cell.vm ≠ .unknown) : (Cond.arrayOf t .int).before args s = true := by
  simp [Cond.before, Cond.holds, Cond.value, State.knowsType, ht, hc, hk, hkind, h1, h2]
/-- and for an object of an array class that has no superclass, no superinterface and no method the machine selects no method at all -/
theorem gap_select {pl : Platform} {vm : Vm} {X : ClassId} {k : Class} {mR : MethodId} {r : Method} (hk : vm.classes[X]? = some k) (hs : k.super = none) (hm : k.methods = #[]) (hi : k.interfaces = #[]) (hr : vm.method? mR = some r) (hp : r.isPrivate = false) : selectMethod pl vm X mR = .none := by
  have hf : ∀ n d, k.findMethod n d = none := fun n d => by simp [Class.findMethod, hm]
  have hsup : vm.superclasses X = [] := by simp [Vm.superclasses, Vm.superclassesAux, hk, hs]
  have hint : vm.superinterfaces X = [] := by simp [Vm.superinterfaces, Vm.superinterfacesAux, hk, hs, hi]
  have hsm : ∀ n d, superclassMethods vm X n d = [] := fun n d => by simp [superclassMethods, hsup]
  have him : ∀ n d, superinterfaceMethods vm X n d = [] := fun n d => by simp [superinterfaceMethods, hint]
  have hmax : ∀ n d, maximallySpecific vm X n d = [] := fun n d => by simp [maximallySpecific, him]
  have hre : ∀ n d, refusedOverriding pl vm X n d = false := fun n d => by simp [refusedOverriding, hk, hf, hsm]
  have hse : ∀ n d, selectInSuperclasses vm mR n d (vm.classes.size + 1) X = none := fun n d => by simp [selectInSuperclasses, hk, hf, hs]
  simp [selectMethod, hr, hp, hre, hse, hmax]
