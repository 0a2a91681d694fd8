section
-- ===== PART A: goes FIRST, ahead of the names: the tables' words, and 'selects' of the private methods out of them =====
/-- a private method of a class that the tables say can be made, by its rows of tables_1 -/
def lw_okq (q : MethodName × Nat) : Prop := (q.1.cls ≠ "java/lang/invoke/MethodHandle" ∧ q.1.cls ≠ "java/lang/invoke/VarHandle") ∧ Cond.instantiable q.1.cls q.2 ∈ tables_1 ∧ Cond.privateMethod q.1 ∈ tables_1 ∧ Cond.instanceMethod q.1 ∈ tables_1
theorem lw_p0 : lw_okq (⟨"NodeServices", "entriesOfAllLocks", "()I"⟩, 5) := ⟨⟨by decide +kernel, by decide +kernel⟩, List.mem_of_getElem? (i := 22) (by decide +kernel), List.mem_of_getElem? (i := 253) (by decide +kernel), List.mem_of_getElem? (i := 254) (by decide +kernel)⟩
theorem lw_p1 : lw_okq (⟨"java/lang/Throwable", "fillInStackTrace", "(I)Ljava/lang/Throwable;"⟩, 6) := ⟨⟨by decide +kernel, by decide +kernel⟩, List.mem_of_getElem? (i := 310) (by decide +kernel), List.mem_of_getElem? (i := 308) (by decide +kernel), List.mem_of_getElem? (i := 309) (by decide +kernel)⟩
theorem lw_p2 : lw_okq (⟨"NodeServices$TreeLock", "goOn", "(I)V"⟩, 7) := ⟨⟨by decide +kernel, by decide +kernel⟩, List.mem_of_getElem? (i := 150) (by decide +kernel), List.mem_of_getElem? (i := 442) (by decide +kernel), List.mem_of_getElem? (i := 443) (by decide +kernel)⟩
theorem lw_p3 : lw_okq (⟨"NodeServices$TreeLock", "serve", "(II)V"⟩, 7) := ⟨⟨by decide +kernel, by decide +kernel⟩, List.mem_of_getElem? (i := 150) (by decide +kernel), List.mem_of_getElem? (i := 454) (by decide +kernel), List.mem_of_getElem? (i := 455) (by decide +kernel)⟩
theorem lw_p4 : lw_okq (⟨"NodeServices$TokenLock", "isOwed", "(II)Z"⟩, 8) := ⟨⟨by decide +kernel, by decide +kernel⟩, List.mem_of_getElem? (i := 112) (by decide +kernel), List.mem_of_getElem? (i := 489) (by decide +kernel), List.mem_of_getElem? (i := 490) (by decide +kernel)⟩
theorem lw_p5 : lw_okq (⟨"NodeServices$TokenLock", "passToken", "(II)V"⟩, 8) := ⟨⟨by decide +kernel, by decide +kernel⟩, List.mem_of_getElem? (i := 112) (by decide +kernel), List.mem_of_getElem? (i := 496) (by decide +kernel), List.mem_of_getElem? (i := 497) (by decide +kernel)⟩
theorem lw_p6 : lw_okq (⟨"NodeServices$Election", "sendOn", "(III)V"⟩, 5) := ⟨⟨by decide +kernel, by decide +kernel⟩, List.mem_of_getElem? (i := 182) (by decide +kernel), List.mem_of_getElem? (i := 518) (by decide +kernel), List.mem_of_getElem? (i := 519) (by decide +kernel)⟩
theorem lw_p7 : lw_okq (⟨"NodeServices$Work", "isEngaged", "(I)Z"⟩, 7) := ⟨⟨by decide +kernel, by decide +kernel⟩, List.mem_of_getElem? (i := 204) (by decide +kernel), List.mem_of_getElem? (i := 536) (by decide +kernel), List.mem_of_getElem? (i := 537) (by decide +kernel)⟩
theorem lw_p8 : lw_okq (⟨"NodeServices$Work", "settle", "(I)V"⟩, 7) := ⟨⟨by decide +kernel, by decide +kernel⟩, List.mem_of_getElem? (i := 204) (by decide +kernel), List.mem_of_getElem? (i := 580) (by decide +kernel), List.mem_of_getElem? (i := 581) (by decide +kernel)⟩
theorem lw_p9 : lw_okq (⟨"NodeServices$Election", "takeElect", "(II)V"⟩, 5) := ⟨⟨by decide +kernel, by decide +kernel⟩, List.mem_of_getElem? (i := 182) (by decide +kernel), List.mem_of_getElem? (i := 619) (by decide +kernel), List.mem_of_getElem? (i := 620) (by decide +kernel)⟩
theorem lw_p10 : lw_okq (⟨"NodeServices$Election", "takeLeader", "(II)V"⟩, 5) := ⟨⟨by decide +kernel, by decide +kernel⟩, List.mem_of_getElem? (i := 182) (by decide +kernel), List.mem_of_getElem? (i := 624) (by decide +kernel), List.mem_of_getElem? (i := 625) (by decide +kernel)⟩
theorem lw_p11 : lw_okq (⟨"NodeServices$StampLock", "takeRequest", "(III)V"⟩, 8) := ⟨⟨by decide +kernel, by decide +kernel⟩, List.mem_of_getElem? (i := 65) (by decide +kernel), List.mem_of_getElem? (i := 631) (by decide +kernel), List.mem_of_getElem? (i := 632) (by decide +kernel)⟩
theorem lw_p12 : lw_okq (⟨"NodeServices$StampLock", "isBefore", "(III)Z"⟩, 8) := ⟨⟨by decide +kernel, by decide +kernel⟩, List.mem_of_getElem? (i := 65) (by decide +kernel), List.mem_of_getElem? (i := 638) (by decide +kernel), List.mem_of_getElem? (i := 639) (by decide +kernel)⟩
theorem lw_p13 : lw_okq (⟨"NodeServices$StampLock", "takeReply", "(I)V"⟩, 8) := ⟨⟨by decide +kernel, by decide +kernel⟩, List.mem_of_getElem? (i := 65) (by decide +kernel), List.mem_of_getElem? (i := 642) (by decide +kernel), List.mem_of_getElem? (i := 643) (by decide +kernel)⟩
theorem lw_p14 : lw_okq (⟨"NodeServices$TokenLock", "takeRequest", "(III)V"⟩, 8) := ⟨⟨by decide +kernel, by decide +kernel⟩, List.mem_of_getElem? (i := 112) (by decide +kernel), List.mem_of_getElem? (i := 652) (by decide +kernel), List.mem_of_getElem? (i := 653) (by decide +kernel)⟩
theorem lw_p15 : lw_okq (⟨"NodeServices$Work", "takeWork", "(II)V"⟩, 7) := ⟨⟨by decide +kernel, by decide +kernel⟩, List.mem_of_getElem? (i := 204) (by decide +kernel), List.mem_of_getElem? (i := 663) (by decide +kernel), List.mem_of_getElem? (i := 664) (by decide +kernel)⟩
def lw_privs_1 : List (MethodName × Nat) := [(⟨"NodeServices", "entriesOfAllLocks", "()I"⟩, 5), (⟨"java/lang/Throwable", "fillInStackTrace", "(I)Ljava/lang/Throwable;"⟩, 6), (⟨"NodeServices$TreeLock", "goOn", "(I)V"⟩, 7), (⟨"NodeServices$TreeLock", "serve", "(II)V"⟩, 7), (⟨"NodeServices$TokenLock", "isOwed", "(II)Z"⟩, 8), (⟨"NodeServices$TokenLock", "passToken", "(II)V"⟩, 8), (⟨"NodeServices$Election", "sendOn", "(III)V"⟩, 5), (⟨"NodeServices$Work", "isEngaged", "(I)Z"⟩, 7), (⟨"NodeServices$Work", "settle", "(I)V"⟩, 7), (⟨"NodeServices$Election", "takeElect", "(II)V"⟩, 5), (⟨"NodeServices$Election", "takeLeader", "(II)V"⟩, 5), (⟨"NodeServices$StampLock", "takeRequest", "(III)V"⟩, 8), (⟨"NodeServices$StampLock", "isBefore", "(III)Z"⟩, 8), (⟨"NodeServices$StampLock", "takeReply", "(I)V"⟩, 8), (⟨"NodeServices$TokenLock", "takeRequest", "(III)V"⟩, 8), (⟨"NodeServices$Work", "takeWork", "(II)V"⟩, 7)]
theorem lw_r1 : ∀ q ∈ lw_privs_1, lw_okq q := List.forall_mem_cons.mpr ⟨lw_p0, List.forall_mem_cons.mpr ⟨lw_p1, List.forall_mem_cons.mpr ⟨lw_p2, List.forall_mem_cons.mpr ⟨lw_p3, List.forall_mem_cons.mpr ⟨lw_p4, List.forall_mem_cons.mpr ⟨lw_p5, List.forall_mem_cons.mpr ⟨lw_p6, List.forall_mem_cons.mpr ⟨lw_p7, List.forall_mem_cons.mpr ⟨lw_p8, List.forall_mem_cons.mpr ⟨lw_p9, List.forall_mem_cons.mpr ⟨lw_p10, List.forall_mem_cons.mpr ⟨lw_p11, List.forall_mem_cons.mpr ⟨lw_p12, List.forall_mem_cons.mpr ⟨lw_p13, List.forall_mem_cons.mpr ⟨lw_p14, List.forall_mem_cons.mpr ⟨lw_p15, fun _ h => absurd h List.not_mem_nil⟩⟩⟩⟩⟩⟩⟩⟩⟩⟩⟩⟩⟩⟩⟩⟩
theorem lw_p16 : lw_okq (⟨"NodeServicesModel", "stampArrives", "(IIII)V"⟩, 33) := ⟨⟨by decide +kernel, by decide +kernel⟩, List.mem_of_getElem? (i := 731) (by decide +kernel), List.mem_of_getElem? (i := 851) (by decide +kernel), List.mem_of_getElem? (i := 852) (by decide +kernel)⟩
theorem lw_p17 : lw_okq (⟨"NodeServicesModel", "comeIn", "(II)V"⟩, 33) := ⟨⟨by decide +kernel, by decide +kernel⟩, List.mem_of_getElem? (i := 731) (by decide +kernel), List.mem_of_getElem? (i := 855) (by decide +kernel), List.mem_of_getElem? (i := 856) (by decide +kernel)⟩
theorem lw_p18 : lw_okq (⟨"NodeServicesModel", "send", "(IIIII)V"⟩, 33) := ⟨⟨by decide +kernel, by decide +kernel⟩, List.mem_of_getElem? (i := 731) (by decide +kernel), List.mem_of_getElem? (i := 859) (by decide +kernel), List.mem_of_getElem? (i := 860) (by decide +kernel)⟩
theorem lw_p19 : lw_okq (⟨"NodeServicesModel", "tokenArrives", "(IIII)V"⟩, 33) := ⟨⟨by decide +kernel, by decide +kernel⟩, List.mem_of_getElem? (i := 731) (by decide +kernel), List.mem_of_getElem? (i := 863) (by decide +kernel), List.mem_of_getElem? (i := 864) (by decide +kernel)⟩
theorem lw_p20 : lw_okq (⟨"NodeServicesModel", "isDue", "(II)Z"⟩, 33) := ⟨⟨by decide +kernel, by decide +kernel⟩, List.mem_of_getElem? (i := 731) (by decide +kernel), List.mem_of_getElem? (i := 867) (by decide +kernel), List.mem_of_getElem? (i := 868) (by decide +kernel)⟩
theorem lw_p21 : lw_okq (⟨"NodeServicesModel", "treeArrives", "(III)V"⟩, 33) := ⟨⟨by decide +kernel, by decide +kernel⟩, List.mem_of_getElem? (i := 731) (by decide +kernel), List.mem_of_getElem? (i := 871) (by decide +kernel), List.mem_of_getElem? (i := 872) (by decide +kernel)⟩
theorem lw_p22 : lw_okq (⟨"NodeServicesModel", "enqueue", "(II)V"⟩, 33) := ⟨⟨by decide +kernel, by decide +kernel⟩, List.mem_of_getElem? (i := 731) (by decide +kernel), List.mem_of_getElem? (i := 875) (by decide +kernel), List.mem_of_getElem? (i := 876) (by decide +kernel)⟩
theorem lw_p23 : lw_okq (⟨"NodeServicesModel", "goOn", "(I)V"⟩, 33) := ⟨⟨by decide +kernel, by decide +kernel⟩, List.mem_of_getElem? (i := 731) (by decide +kernel), List.mem_of_getElem? (i := 879) (by decide +kernel), List.mem_of_getElem? (i := 880) (by decide +kernel)⟩
theorem lw_p24 : lw_okq (⟨"NodeServicesModel", "dequeue", "(I)I"⟩, 33) := ⟨⟨by decide +kernel, by decide +kernel⟩, List.mem_of_getElem? (i := 731) (by decide +kernel), List.mem_of_getElem? (i := 883) (by decide +kernel), List.mem_of_getElem? (i := 884) (by decide +kernel)⟩
theorem lw_p25 : lw_okq (⟨"NodeServicesModel", "ringArrives", "(III)V"⟩, 33) := ⟨⟨by decide +kernel, by decide +kernel⟩, List.mem_of_getElem? (i := 731) (by decide +kernel), List.mem_of_getElem? (i := 887) (by decide +kernel), List.mem_of_getElem? (i := 888) (by decide +kernel)⟩
theorem lw_p26 : lw_okq (⟨"NodeServicesModel", "workArrives", "(III)V"⟩, 33) := ⟨⟨by decide +kernel, by decide +kernel⟩, List.mem_of_getElem? (i := 731) (by decide +kernel), List.mem_of_getElem? (i := 891) (by decide +kernel), List.mem_of_getElem? (i := 892) (by decide +kernel)⟩
theorem lw_p27 : lw_okq (⟨"NodeServicesModel", "settle", "(I)V"⟩, 33) := ⟨⟨by decide +kernel, by decide +kernel⟩, List.mem_of_getElem? (i := 731) (by decide +kernel), List.mem_of_getElem? (i := 895) (by decide +kernel), List.mem_of_getElem? (i := 896) (by decide +kernel)⟩
theorem lw_p28 : lw_okq (⟨"NodeServicesModel", "sendAll", "(IIII)V"⟩, 33) := ⟨⟨by decide +kernel, by decide +kernel⟩, List.mem_of_getElem? (i := 731) (by decide +kernel), List.mem_of_getElem? (i := 914) (by decide +kernel), List.mem_of_getElem? (i := 915) (by decide +kernel)⟩
theorem lw_p29 : lw_okq (⟨"NodeServicesModel", "passToken", "(I)V"⟩, 33) := ⟨⟨by decide +kernel, by decide +kernel⟩, List.mem_of_getElem? (i := 731) (by decide +kernel), List.mem_of_getElem? (i := 922) (by decide +kernel), List.mem_of_getElem? (i := 923) (by decide +kernel)⟩
def lw_privs_2 : List (MethodName × Nat) := [(⟨"NodeServicesModel", "stampArrives", "(IIII)V"⟩, 33), (⟨"NodeServicesModel", "comeIn", "(II)V"⟩, 33), (⟨"NodeServicesModel", "send", "(IIIII)V"⟩, 33), (⟨"NodeServicesModel", "tokenArrives", "(IIII)V"⟩, 33), (⟨"NodeServicesModel", "isDue", "(II)Z"⟩, 33), (⟨"NodeServicesModel", "treeArrives", "(III)V"⟩, 33), (⟨"NodeServicesModel", "enqueue", "(II)V"⟩, 33), (⟨"NodeServicesModel", "goOn", "(I)V"⟩, 33), (⟨"NodeServicesModel", "dequeue", "(I)I"⟩, 33), (⟨"NodeServicesModel", "ringArrives", "(III)V"⟩, 33), (⟨"NodeServicesModel", "workArrives", "(III)V"⟩, 33), (⟨"NodeServicesModel", "settle", "(I)V"⟩, 33), (⟨"NodeServicesModel", "sendAll", "(IIII)V"⟩, 33), (⟨"NodeServicesModel", "passToken", "(I)V"⟩, 33)]
theorem lw_r2 : ∀ q ∈ lw_privs_2, lw_okq q := List.forall_mem_cons.mpr ⟨lw_p16, List.forall_mem_cons.mpr ⟨lw_p17, List.forall_mem_cons.mpr ⟨lw_p18, List.forall_mem_cons.mpr ⟨lw_p19, List.forall_mem_cons.mpr ⟨lw_p20, List.forall_mem_cons.mpr ⟨lw_p21, List.forall_mem_cons.mpr ⟨lw_p22, List.forall_mem_cons.mpr ⟨lw_p23, List.forall_mem_cons.mpr ⟨lw_p24, List.forall_mem_cons.mpr ⟨lw_p25, List.forall_mem_cons.mpr ⟨lw_p26, List.forall_mem_cons.mpr ⟨lw_p27, List.forall_mem_cons.mpr ⟨lw_p28, List.forall_mem_cons.mpr ⟨lw_p29, fun _ h => absurd h List.not_mem_nil⟩⟩⟩⟩⟩⟩⟩⟩⟩⟩⟩⟩⟩⟩
def lw_privs : List (MethodName × Nat) := lw_privs_1 ++ (lw_privs_2)
def lw_tbl : List Cond := k2_sels lw_privs ++ tables_1
theorem lw_privs_ok : ∀ q ∈ lw_privs, lw_okq q := by
  show ∀ q ∈ lw_privs_1 ++ (lw_privs_2), lw_okq q
  exact List.forall_mem_append.mpr ⟨lw_r1, lw_r2⟩
-- the words of the tables that a callee may be given
def wg : List Cond := lw_tbl.filter goodWord
theorem mem_wg {w : Cond} (h : w ∈ k2_sels lw_privs ++ tables_1) (g : goodWord w = true) : w ∈ wg := List.mem_filter.mpr ⟨h, g⟩
theorem mem_ws {ws : List Cond} (ps : List Nat) (h : ws = ps.filterMap (fun i => tables_1[i]?)) (g : ws.all goodWord = true) : ∀ w ∈ ws, w ∈ wg := fun w hw => by
  have g1 := List.all_eq_true.mp g w hw
  rw [h] at hw
  obtain ⟨i, -, hi⟩ := List.mem_filterMap.mp hw
  exact mem_wg (List.mem_append_right _ (List.mem_of_getElem? hi)) g1
theorem wg_good {w : Cond} (h : w ∈ wg) : (w.onTables && w.keeps) = true ∨ ∃ ty, w = .arrayClass ty := good_of_word (List.mem_filter.mp h).2
theorem gdw {c0 w : Cond} (h : w ∈ wg) : w ∈ c0 :: wg ∧ ((w.onTables && w.keeps) = true ∨ ∃ ty, w = .arrayClass ty) := ⟨List.mem_cons_of_mem _ h, wg_good h⟩
theorem gdc {c0 w : Cond} (h : w ∈ wg) : GoodIn (c0 :: wg) (w :: wg) := fun v hv => (List.mem_cons.mp hv).elim (fun e => by rw [e]; exact gdw h) (fun q => gdw q)
theorem gdV {c0 w : Cond} {own C : String} {idx : Nat} {y : MethodName} (h1 : Cond.methodLink own idx y ∈ wg) (h2 : Cond.instanceMethod y ∈ wg) (h3 : Cond.selects C y y ∈ wg) (h4 : Cond.initialized C ∈ wg) (h5 : w ∈ wg) : GoodIn (c0 :: wg) (wsV own idx C y (w :: wg)) := fun v hv => by
  rcases List.mem_append.mp hv with h | h
  · simp only [List.mem_cons, List.not_mem_nil, or_false] at h
    rcases h with rfl | rfl | rfl | rfl
    · exact gdw h1
    · exact gdw h2
    · exact gdw h3
    · exact gdw h4
  · exact gdc h5 v h
theorem gdS {c0 w : Cond} {own : String} {idx : Nat} {y : MethodName} (h1 : Cond.methodLink own idx y ∈ wg) (h2 : Cond.static y ∈ wg) (h3 : Cond.initialized own ∈ wg) (h5 : w ∈ wg) : GoodIn (c0 :: wg) (wsS own idx y (w :: wg)) := fun v hv => by
  rcases List.mem_append.mp hv with h | h
  · simp only [List.mem_cons, List.not_mem_nil, or_false] at h
    rcases h with rfl | rfl | rfl
    · exact gdw h1
    · exact gdw h2
    · exact gdw h3
  · exact gdc h5 v h
end
section
-- a state of a class: field number, place, value
abbrev MS : Type := Nat → Nat → Int32
def up2 (f : MS) (k i : Nat) (v : Int32) : MS := fun j => cond (Nat.beq j k) (upd (f k) i v) (f j)
theorem fx_inc1 (x : Int32) : x + Int32.ofInt 1 = x + 1 := by
  have h : Int32.ofInt 1 = 1 := by decide
  rw [h]
theorem fx_inc3 (x : Int32) : x + Int32.ofInt 3 = x + 3 := by
  have h : Int32.ofInt 3 = 3 := by decide
  rw [h]
/-- the invariant of a method's world: wd says which cells stand for a state u; nw: the method may make cells -/
def uI {S : Type} (D : va_G) (cl : List vw_C) (tys : List (ClassId × FieldType)) (A : Nat → Prop) (nw : Bool) (wd : S → va_W) (u : S) (U : State) : Prop :=
  va_P D cl (wd u) U.heap ∧ va_K D cl tys U ∧ va_D A (wd u) ∧ (nw = true → ∀ q, U.heap.size ≤ q → A q)
theorem uI_blind {S : Type} {D : va_G} {cl : List vw_C} {tys : List (ClassId × FieldType)} {A : Nat → Prop} {nw : Bool} {wd : S → va_W} {u : S} {av : List Value} : FrameBlind (va_Pc av (uI D cl tys A nw wd u)) := fun a U g mk q => by
  obtain ⟨q0, qP, qK, qD, qN⟩ := q
  exact ⟨q0, qP, va_K.moved (u := U) (U := U.calling g mk a) (Vm.Alike.refl U.vm) qK, qD, qN⟩
section UC
variable {p : Program} {l : Launch} {e : Env} {R : Room} {s : State} {m : MethodId} {args : Array Value} {below : List Frame} {meth : Method} {c : Code} {H : Heap} {locs : List Loc} {cells slots : Nat} {Q : State → Prop}
variable {y : MethodName} {bytes cc : ByteArray} {maxL nL mc ms n index pc : Nat} {ret : Option FieldType} {ws : List Cond} {rm : Room} {Ts : List Cond} {own C : String} {b : Addr} {As rest st0 : List Value} {ls : Array Slot}
variable {S : Type} {D : va_G} {cl : List vw_C} {tys : List (ClassId × FieldType)} {A : Nat → Prop} {nw : Bool} {wd : S → va_W} {u0 : S} {H0 : Heap}
theorem uPre (hP : va_P D cl (wd u0) H) (hK : va_K D cl tys s) (hD : va_D A (wd u0)) (hN : nw = true → ∀ q, H.size ≤ q → A q) {av : List Value} (U : State) (hU : U.heap = H) (hW : s.WarmedH U.vm) : va_Pc av (uI D cl tys A nw wd u0) av.toArray U :=
  ⟨rfl, by rw [hU]; exact hP, va_K.moved hW.alike hK, hD, by rw [hU]; exact hN⟩
/-- what a return gives -/
theorem uEnd {t : State} {u : S} (ht : t.heap = H) (hW : s.WarmedH t.vm) (hP : va_P D cl (wd u) H) (hK : va_K D cl tys s) (hD : va_D A (wd u)) (hS : va_S A s.heap H locs) (hA : nw = true → ∀ q, s.heap.size ≤ q → A q) : uI D cl tys A nw wd u t :=
  ⟨by rw [ht]; exact hP, va_K.moved hW.alike hK, hD, fun h q hq => hA h q (Nat.le_trans hS.1 (by rw [ht] at hq; exact hq))⟩
/-- an instance method of the same world, no answer -/
theorem uCallVv {post : S → Prop} (F : CallFix p m c cc nL s args Ts own) (hM : Met l y ws rm (va_Pc (.ref b :: As) (uI D cl tys A nw wd u0)) (va_Qv post (uI D cl tys A nw wd) A) mc ms A) (cw : CallW R s args own C index y bytes maxL ret ws rm mc ms n)
    (hrec : ∃ cellB : Cell, H[b]? = some cellB ∧ cellB.vm.isStatics = false ∧ s.vm.findClass C = some cellB.cls)
    (hP : va_P D cl (wd u0) H) (hK : va_K D cl tys s) (hD : va_D A (wd u0)) (hA : nw = true → ∀ q, s.heap.size ≤ q → A q) (hS : va_S A s.heap H locs)
    (hn : As.length = n) (hsize : ls.size = nL) (hst : st0 = As.reverse ++ .ref b :: rest) (hW : (rest.map fun v => v.category).sum ≤ 8) (hdg : decode cc pc = .ok (.invokevirtual index, 3)) (hf : cells + mc ≤ R.cells ∧ slots + ms ≤ R.slots)
    (kk : ∀ (u : S) (H1 : Heap) (locs1 : List Loc), post u → va_P D cl (wd u) H1 → va_D A (wd u) → va_S A s.heap H1 locs1 → W p l e R s m args below meth c H1 locs1 (cells + mc) (slots + ms) Q (F0 m (pc + 3) ls rest)) :
    W p l e R s m args below meth c H locs cells slots Q (F0 m pc ls st0) := by
  subst hst
  exact va_callv (va_runV F hM cw ⟨uI_blind, hrec, uPre hP hK hD (fun h q hq => hA h q (Nat.le_trans hS.1 hq))⟩ rfl hn hsize rfl (lv_room hW) hdg hf) hS (fun q _ h => h) (fun q h => h)
    (fun u t H1 locs1 ht hvm hw hB hz hk hS1 => kk u H1 locs1 hw (by rw [← ht]; exact hB.1) hB.2.2.1 hS1)
theorem uCallVi {post : Int32 → S → Prop} (F : CallFix p m c cc nL s args Ts own) (hM : Met l y ws rm (va_Pc (.ref b :: As) (uI D cl tys A nw wd u0)) (va_Qi post (uI D cl tys A nw wd) A) mc ms A) (cw : CallW R s args own C index y bytes maxL ret ws rm mc ms n)
    (hrec : ∃ cellB : Cell, H[b]? = some cellB ∧ cellB.vm.isStatics = false ∧ s.vm.findClass C = some cellB.cls)
    (hP : va_P D cl (wd u0) H) (hK : va_K D cl tys s) (hD : va_D A (wd u0)) (hA : nw = true → ∀ q, s.heap.size ≤ q → A q) (hS : va_S A s.heap H locs)
    (hn : As.length = n) (hsize : ls.size = nL) (hst : st0 = As.reverse ++ .ref b :: rest) (hW : (rest.map fun v => v.category).sum ≤ 8) (hdg : decode cc pc = .ok (.invokevirtual index, 3)) (hf : cells + mc ≤ R.cells ∧ slots + ms ≤ R.slots)
    (kk : ∀ (r : Int32) (u : S) (H1 : Heap) (locs1 : List Loc), post r u → va_P D cl (wd u) H1 → va_D A (wd u) → va_S A s.heap H1 locs1 → W p l e R s m args below meth c H1 locs1 (cells + mc) (slots + ms) Q (F0 m (pc + 3) ls (.int r :: rest))) :
    W p l e R s m args below meth c H locs cells slots Q (F0 m pc ls st0) := by
  subst hst
  exact va_calli (va_runV F hM cw ⟨uI_blind, hrec, uPre hP hK hD (fun h q hq => hA h q (Nat.le_trans hS.1 hq))⟩ rfl hn hsize rfl (lv_room hW) hdg hf) hS (fun q _ h => h) (fun q h => h)
    (fun r u t H1 locs1 ht hvm hw hB hz hk hS1 => kk r u H1 locs1 hw (by rw [← ht]; exact hB.1) hB.2.2.1 hS1)
/-- a static method of the same class, an int for an answer -/
theorem uCallSi {post : Int32 → S → Prop} (F : CallFix p m c cc nL s args Ts own) (hM : Met l y ws rm (va_Pc As (uI D cl tys A nw wd u0)) (va_Qi post (uI D cl tys A nw wd) A) mc ms A) (cw : CallB R s args own index y bytes maxL ret ws rm mc ms n ∧ (Cond.static y).before args s = true)
    (hP : va_P D cl (wd u0) H) (hK : va_K D cl tys s) (hD : va_D A (wd u0)) (hA : nw = true → ∀ q, s.heap.size ≤ q → A q) (hS : va_S A s.heap H locs)
    (hn : As.length = n) (hsize : ls.size = nL) (hst : st0 = As.reverse ++ rest) (hW : (rest.map fun v => v.category).sum ≤ 8) (hdg : decode cc pc = .ok (.invokestatic index, 3)) (hf : cells + mc ≤ R.cells ∧ slots + ms ≤ R.slots)
    (kk : ∀ (r : Int32) (u : S) (H1 : Heap) (locs1 : List Loc), post r u → va_P D cl (wd u) H1 → va_D A (wd u) → va_S A s.heap H1 locs1 → W p l e R s m args below meth c H1 locs1 (cells + mc) (slots + ms) Q (F0 m (pc + 3) ls (.int r :: rest))) :
    W p l e R s m args below meth c H locs cells slots Q (F0 m pc ls st0) := by
  subst hst
  exact va_calli (va_runS F hM cw ⟨uI_blind, uPre hP hK hD (fun h q hq => hA h q (Nat.le_trans hS.1 hq))⟩ rfl hn hsize rfl (lv_room hW) hdg hf) hS (fun q _ h => h) (fun q h => h)
    (fun r u t H1 locs1 ht hvm hw hB hz hk hS1 => kk r u H1 locs1 hw (by rw [← ht]; exact hB.1) hB.2.2.1 hS1)
end UC
end
section
def RMo : String := "NodeServicesModel"
def TMo : u_T := fun k => match k with
  | 0 => ("NodeServicesModel", "head", "[I", true)
  | 1 => ("NodeServicesModel", "tail", "[I", true)
  | 2 => ("NodeServicesModel", "many", "[I", true)
  | 3 => ("NodeServicesModel", "sort", "[I", true)
  | 4 => ("NodeServicesModel", "amount", "[I", true)
  | 5 => ("NodeServicesModel", "behind", "[I", true)
  | 6 => ("NodeServicesModel", "used", "I", false)
  | 7 => ("NodeServicesModel", "free", "I", false)
  | 8 => ("NodeServicesModel", "state", "[I", true)
  | 9 => ("NodeServicesModel", "cameIn", "I", false)
  | 10 => ("NodeServicesModel", "sent", "I", false)
  | 11 => ("NodeServicesModel", "clock", "[I", true)
  | 12 => ("NodeServicesModel", "stamp", "[I", true)
  | 13 => ("NodeServicesModel", "replies", "[I", true)
  | 14 => ("NodeServicesModel", "putOff", "[I", true)
  | 15 => ("NodeServicesModel", "known", "[I", true)
  | 16 => ("NodeServicesModel", "tokenDone", "[I", true)
  | 17 => ("NodeServicesModel", "holder", "I", false)
  | 18 => ("NodeServicesModel", "rowSize", "I", false)
  | 19 => ("NodeServicesModel", "row", "[I", true)
  | 20 => ("NodeServicesModel", "towards", "[I", true)
  | 21 => ("NodeServicesModel", "queueSize", "[I", true)
  | 22 => ("NodeServicesModel", "queue", "[I", true)
  | 23 => ("NodeServicesModel", "asked", "[Z", true)
  | 24 => ("NodeServicesModel", "id", "[I", true)
  | 25 => ("NodeServicesModel", "leader", "[I", true)
  | 26 => ("NodeServicesModel", "part", "[Z", true)
  | 27 => ("NodeServicesModel", "root", "I", false)
  | 28 => ("NodeServicesModel", "ends", "I", false)
  | 29 => ("NodeServicesModel", "busy", "[Z", true)
  | 30 => ("NodeServicesModel", "parent", "[I", true)
  | 31 => ("NodeServicesModel", "open", "[I", true)
  | _ => ("NodeServicesModel", "thrown", "I", false)
def tyMo : Nat → FieldType := fun k => match k with
  | 0 => .array .int
  | 1 => .array .int
  | 2 => .array .int
  | 3 => .array .int
  | 4 => .array .int
  | 5 => .array .int
  | 6 => .int
  | 7 => .int
  | 8 => .array .int
  | 9 => .int
  | 10 => .int
  | 11 => .array .int
  | 12 => .array .int
  | 13 => .array .int
  | 14 => .array .int
  | 15 => .array .int
  | 16 => .array .int
  | 17 => .int
  | 18 => .int
  | 19 => .array .int
  | 20 => .array .int
  | 21 => .array .int
  | 22 => .array .int
  | 23 => .array .boolean
  | 24 => .array .int
  | 25 => .array .int
  | 26 => .array .boolean
  | 27 => .int
  | 28 => .int
  | 29 => .array .boolean
  | 30 => .array .int
  | 31 => .array .int
  | _ => .int
theorem nmMo : ∀ a, a < 33 → ∀ b, b < 33 → a ≠ b → (TMo a).2.1 ≠ (TMo b).2.1 := by decide +kernel
theorem tyMo_ok : ∀ k, k < 33 → parseFieldDescriptor (TMo k).2.2.1 = some (tyMo k) := by decide +kernel
theorem inMo : ∀ w ∈ u_ws RMo TMo 33, w ∈ wg := mem_ws [769, 771, 773, 775, 777, 779, 781, 783, 785, 787, 789, 791, 793, 795, 797, 799, 801, 803, 805, 807, 809, 811, 813, 815, 817, 819, 821, 823, 825, 827, 829, 831, 833] (by decide +kernel) (by decide +kernel)
abbrev cMo_init : ByteArray := prog_14_method_1_code
def yMo_init : MethodName := ⟨RMo, "<init>", "(II)V"⟩
abbrev cMo_thrown : ByteArray := prog_14_method_2_code
def yMo_thrown : MethodName := ⟨RMo, "thrown", "()I"⟩
abbrev cMo_deliver : ByteArray := prog_14_method_7_code
def yMo_deliver : MethodName := ⟨RMo, "deliver", "(II)I"⟩
abbrev cMo_isChannel : ByteArray := prog_14_method_6_code
def yMo_isChannel : MethodName := ⟨RMo, "isChannel", "(II)Z"⟩
abbrev cMo_isNode : ByteArray := prog_14_method_3_code
def yMo_isNode : MethodName := ⟨RMo, "isNode", "(I)Z"⟩
abbrev cMo_stampArrives : ByteArray := prog_14_method_14_code
def yMo_stampArrives : MethodName := ⟨RMo, "stampArrives", "(IIII)V"⟩
abbrev cMo_comeIn : ByteArray := prog_14_method_10_code
def yMo_comeIn : MethodName := ⟨RMo, "comeIn", "(II)V"⟩
abbrev cMo_send : ByteArray := prog_14_method_4_code
def yMo_send : MethodName := ⟨RMo, "send", "(IIIII)V"⟩
abbrev cMo_tokenArrives : ByteArray := prog_14_method_16_code
def yMo_tokenArrives : MethodName := ⟨RMo, "tokenArrives", "(IIII)V"⟩
abbrev cMo_isDue : ByteArray := prog_14_method_15_code
def yMo_isDue : MethodName := ⟨RMo, "isDue", "(II)Z"⟩
abbrev cMo_treeArrives : ByteArray := prog_14_method_21_code
def yMo_treeArrives : MethodName := ⟨RMo, "treeArrives", "(III)V"⟩
abbrev cMo_enqueue : ByteArray := prog_14_method_18_code
def yMo_enqueue : MethodName := ⟨RMo, "enqueue", "(II)V"⟩
abbrev cMo_goOn : ByteArray := prog_14_method_20_code
def yMo_goOn : MethodName := ⟨RMo, "goOn", "(I)V"⟩
abbrev cMo_dequeue : ByteArray := prog_14_method_19_code
def yMo_dequeue : MethodName := ⟨RMo, "dequeue", "(I)I"⟩
abbrev cMo_ringArrives : ByteArray := prog_14_method_23_code
def yMo_ringArrives : MethodName := ⟨RMo, "ringArrives", "(III)V"⟩
abbrev cMo_workArrives : ByteArray := prog_14_method_28_code
def yMo_workArrives : MethodName := ⟨RMo, "workArrives", "(III)V"⟩
abbrev cMo_settle : ByteArray := prog_14_method_24_code
def yMo_settle : MethodName := ⟨RMo, "settle", "(I)V"⟩
abbrev cMo_first : ByteArray := prog_14_method_8_code
def yMo_first : MethodName := ⟨RMo, "first", "(II)I"⟩
abbrev cMo_waiting : ByteArray := prog_14_method_9_code
def yMo_waiting : MethodName := ⟨RMo, "waiting", "(II)I"⟩
abbrev cMo_want : ByteArray := prog_14_method_12_code
def yMo_want : MethodName := ⟨RMo, "want", "(II)V"⟩
abbrev cMo_isLock : ByteArray := prog_14_method_11_code
def yMo_isLock : MethodName := ⟨RMo, "isLock", "(II)Z"⟩
abbrev cMo_sendAll : ByteArray := prog_14_method_5_code
def yMo_sendAll : MethodName := ⟨RMo, "sendAll", "(IIII)V"⟩
abbrev cMo_leave : ByteArray := prog_14_method_13_code
def yMo_leave : MethodName := ⟨RMo, "leave", "(II)V"⟩
abbrev cMo_passToken : ByteArray := prog_14_method_17_code
def yMo_passToken : MethodName := ⟨RMo, "passToken", "(I)V"⟩
abbrev cMo_start : ByteArray := prog_14_method_22_code
def yMo_start : MethodName := ⟨RMo, "start", "(I)V"⟩
abbrev cMo_begin : ByteArray := prog_14_method_25_code
def yMo_begin : MethodName := ⟨RMo, "begin", "(I)V"⟩
abbrev cMo_spread : ByteArray := prog_14_method_26_code
def yMo_spread : MethodName := ⟨RMo, "spread", "(II)V"⟩
abbrev cMo_rest : ByteArray := prog_14_method_27_code
def yMo_rest : MethodName := ⟨RMo, "rest", "(I)V"⟩
abbrev cMo_about : ByteArray := prog_14_method_30_code
def yMo_about : MethodName := ⟨RMo, "about", "(II)I"⟩
abbrev cMo_isService : ByteArray := prog_14_method_29_code
def yMo_isService : MethodName := ⟨RMo, "isService", "(II)Z"⟩
abbrev cMo_more : ByteArray := prog_14_method_31_code
def yMo_more : MethodName := ⟨RMo, "more", "(II)I"⟩
abbrev cMo_count : ByteArray := prog_14_method_32_code
def yMo_count : MethodName := ⟨RMo, "count", "(I)I"⟩
def RNs : String := "NodeServices"
def TNs : u_T := fun k => match k with
  | 0 => ("NodeServices", "network", "LNodeServices$Network;", true)
  | 1 => ("NodeServices", "locks", "[LNodeServices$Lock;", true)
  | 2 => ("NodeServices", "election", "LNodeServices$Election;", true)
  | 3 => ("NodeServices", "work", "LNodeServices$Work;", true)
  | _ => ("NodeServices", "services", "[LNodeServices$Service;", true)
def tyNs : Nat → FieldType := fun k => match k with
  | 0 => .object "NodeServices$Network"
  | 1 => .array (.object "NodeServices$Lock")
  | 2 => .object "NodeServices$Election"
  | 3 => .object "NodeServices$Work"
  | _ => .array (.object "NodeServices$Service")
theorem nmNs : ∀ a, a < 5 → ∀ b, b < 5 → a ≠ b → (TNs a).2.1 ≠ (TNs b).2.1 := by decide +kernel
theorem tyNs_ok : ∀ k, k < 5 → parseFieldDescriptor (TNs k).2.2.1 = some (tyNs k) := by decide +kernel
theorem inNs : ∀ w ∈ u_ws RNs TNs 5, w ∈ wg := mem_ws [237, 239, 241, 243, 245] (by decide +kernel) (by decide +kernel)
abbrev cNs_init : ByteArray := prog_1_method_1_code
def yNs_init : MethodName := ⟨RNs, "<init>", "(II)V"⟩
abbrev cNs_count : ByteArray := prog_1_method_13_code
def yNs_count : MethodName := ⟨RNs, "count", "(I)I"⟩
abbrev cNs_entriesOfAllLocks : ByteArray := prog_1_method_14_code
def yNs_entriesOfAllLocks : MethodName := ⟨RNs, "entriesOfAllLocks", "()I"⟩
abbrev cNs_want : ByteArray := prog_1_method_2_code
def yNs_want : MethodName := ⟨RNs, "want", "(II)V"⟩
abbrev cNs_requireLock : ByteArray := prog_1_method_15_code
def yNs_requireLock : MethodName := ⟨RNs, "requireLock", "(I)V"⟩
abbrev cNs_requireNode : ByteArray := prog_1_method_17_code
def yNs_requireNode : MethodName := ⟨RNs, "requireNode", "(I)V"⟩
abbrev cNs_leave : ByteArray := prog_1_method_3_code
def yNs_leave : MethodName := ⟨RNs, "leave", "(II)V"⟩
abbrev cNs_start : ByteArray := prog_1_method_4_code
def yNs_start : MethodName := ⟨RNs, "start", "(I)V"⟩
abbrev cNs_begin : ByteArray := prog_1_method_5_code
def yNs_begin : MethodName := ⟨RNs, "begin", "(I)V"⟩
abbrev cNs_spread : ByteArray := prog_1_method_6_code
def yNs_spread : MethodName := ⟨RNs, "spread", "(II)V"⟩
abbrev cNs_requireChannel : ByteArray := prog_1_method_18_code
def yNs_requireChannel : MethodName := ⟨RNs, "requireChannel", "(II)V"⟩
abbrev cNs_rest : ByteArray := prog_1_method_7_code
def yNs_rest : MethodName := ⟨RNs, "rest", "(I)V"⟩
abbrev cNs_deliver : ByteArray := prog_1_method_8_code
def yNs_deliver : MethodName := ⟨RNs, "deliver", "(II)I"⟩
abbrev cNs_first : ByteArray := prog_1_method_9_code
def yNs_first : MethodName := ⟨RNs, "first", "(II)I"⟩
abbrev cNs_waiting : ByteArray := prog_1_method_10_code
def yNs_waiting : MethodName := ⟨RNs, "waiting", "(II)I"⟩
abbrev cNs_about : ByteArray := prog_1_method_11_code
def yNs_about : MethodName := ⟨RNs, "about", "(II)I"⟩
abbrev cNs_requireService : ByteArray := prog_1_method_16_code
def yNs_requireService : MethodName := ⟨RNs, "requireService", "(I)V"⟩
abbrev cNs_more : ByteArray := prog_1_method_12_code
def yNs_more : MethodName := ⟨RNs, "more", "(II)I"⟩
def RNw : String := "NodeServices$Network"
def TNw : u_T := fun k => match k with
  | 0 => ("NodeServices$Network", "channels", "[LNodeServices$Channel;", true)
  | _ => ("NodeServices$Network", "sent", "I", false)
def tyNw : Nat → FieldType := fun k => match k with
  | 0 => .array (.object "NodeServices$Channel")
  | _ => .int
theorem nmNw : ∀ a, a < 2 → ∀ b, b < 2 → a ≠ b → (TNw a).2.1 ≠ (TNw b).2.1 := by decide +kernel
theorem tyNw_ok : ∀ k, k < 2 → parseFieldDescriptor (TNw k).2.2.1 = some (tyNw k) := by decide +kernel
theorem inNw : ∀ w ∈ u_ws RNw TNw 2, w ∈ wg := mem_ws [57, 59] (by decide +kernel) (by decide +kernel)
abbrev cNw_init : ByteArray := prog_6_method_1_code
def yNw_init : MethodName := ⟨RNw, "<init>", "()V"⟩
abbrev cNw_post : ByteArray := prog_6_method_3_code
def yNw_post : MethodName := ⟨RNw, "post", "(IILNodeServices$Message;)V"⟩
abbrev cNw_channel : ByteArray := prog_6_method_2_code
def yNw_channel : MethodName := ⟨RNw, "channel", "(II)LNodeServices$Channel;"⟩
def RCh : String := "NodeServices$Channel"
def TCh : u_T := fun k => match k with
  | 0 => ("NodeServices$Channel", "head", "LNodeServices$Message;", false)
  | 1 => ("NodeServices$Channel", "tail", "LNodeServices$Message;", false)
  | _ => ("NodeServices$Channel", "size", "I", false)
def tyCh : Nat → FieldType := fun k => match k with
  | 0 => .object "NodeServices$Message"
  | 1 => .object "NodeServices$Message"
  | _ => .int
theorem nmCh : ∀ a, a < 3 → ∀ b, b < 3 → a ≠ b → (TCh a).2.1 ≠ (TCh b).2.1 := by decide +kernel
theorem tyCh_ok : ∀ k, k < 3 → parseFieldDescriptor (TCh k).2.2.1 = some (tyCh k) := by decide +kernel
theorem inCh : ∀ w ∈ u_ws RCh TCh 3, w ∈ wg := mem_ws [47, 49, 51] (by decide +kernel) (by decide +kernel)
abbrev cCh_init : ByteArray := prog_2_method_1_code
def yCh_init : MethodName := ⟨RCh, "<init>", "()V"⟩
abbrev cCh_append : ByteArray := prog_2_method_2_code
def yCh_append : MethodName := ⟨RCh, "append", "(LNodeServices$Message;)V"⟩
abbrev cCh_takeHead : ByteArray := prog_2_method_3_code
def yCh_takeHead : MethodName := ⟨RCh, "takeHead", "()LNodeServices$Message;"⟩
def RMs : String := "NodeServices$Message"
def TMs : u_T := fun k => match k with
  | 0 => ("NodeServices$Message", "service", "I", true)
  | 1 => ("NodeServices$Message", "kind", "I", true)
  | 2 => ("NodeServices$Message", "value", "I", true)
  | _ => ("NodeServices$Message", "next", "LNodeServices$Message;", false)
def tyMs : Nat → FieldType := fun k => match k with
  | 0 => .int
  | 1 => .int
  | 2 => .int
  | _ => .object "NodeServices$Message"
theorem nmMs : ∀ a, a < 4 → ∀ b, b < 4 → a ≠ b → (TMs a).2.1 ≠ (TMs b).2.1 := by decide +kernel
theorem tyMs_ok : ∀ k, k < 4 → parseFieldDescriptor (TMs k).2.2.1 = some (tyMs k) := by decide +kernel
theorem inMs : ∀ w ∈ u_ws RMs TMs 4, w ∈ wg := mem_ws [401, 403, 405, 407] (by decide +kernel) (by decide +kernel)
abbrev cMs_init : ByteArray := prog_5_method_1_code
def yMs_init : MethodName := ⟨RMs, "<init>", "(III)V"⟩
def RRo : String := "NodeServices$NodeRow"
def TRo : u_T := fun k => match k with
  | 0 => ("NodeServices$NodeRow", "nodes", "[I", true)
  | _ => ("NodeServices$NodeRow", "size", "I", false)
def tyRo : Nat → FieldType := fun k => match k with
  | 0 => .array .int
  | _ => .int
theorem nmRo : ∀ a, a < 2 → ∀ b, b < 2 → a ≠ b → (TRo a).2.1 ≠ (TRo b).2.1 := by decide +kernel
theorem tyRo_ok : ∀ k, k < 2 → parseFieldDescriptor (TRo k).2.2.1 = some (tyRo k) := by decide +kernel
theorem inRo : ∀ w ∈ u_ws RRo TRo 2, w ∈ wg := mem_ws [127, 129] (by decide +kernel) (by decide +kernel)
abbrev cRo_init : ByteArray := prog_7_method_1_code
def yRo_init : MethodName := ⟨RRo, "<init>", "()V"⟩
abbrev cRo_append : ByteArray := prog_7_method_4_code
def yRo_append : MethodName := ⟨RRo, "append", "(I)V"⟩
abbrev cRo_isEmpty : ByteArray := prog_7_method_2_code
def yRo_isEmpty : MethodName := ⟨RRo, "isEmpty", "()Z"⟩
abbrev cRo_takeHead : ByteArray := prog_7_method_5_code
def yRo_takeHead : MethodName := ⟨RRo, "takeHead", "()I"⟩
abbrev cRo_contains : ByteArray := prog_7_method_3_code
def yRo_contains : MethodName := ⟨RRo, "contains", "(I)Z"⟩
def RSt : String := "NodeServices$StampLock"
def TSt : u_T := fun k => match k with
  | 0 => ("NodeServices$StampLock", "clock", "[I", true)
  | 1 => ("NodeServices$StampLock", "stamp", "[I", true)
  | 2 => ("NodeServices$StampLock", "replies", "[I", true)
  | 3 => ("NodeServices$StampLock", "putOff", "[Z", true)
  | 4 => ("NodeServices$Lock", "state", "[I", true)
  | 5 => ("NodeServices$Lock", "entries", "I", false)
  | 6 => ("NodeServices$Service", "network", "LNodeServices$Network;", true)
  | _ => ("NodeServices$Service", "number", "I", true)
def tySt : Nat → FieldType := fun k => match k with
  | 0 => .array .int
  | 1 => .array .int
  | 2 => .array .int
  | 3 => .array .boolean
  | 4 => .array .int
  | 5 => .int
  | 6 => .object "NodeServices$Network"
  | _ => .int
theorem nmSt : ∀ a, a < 8 → ∀ b, b < 8 → a ≠ b → (TSt a).2.1 ≠ (TSt b).2.1 := by decide +kernel
theorem tySt_ok : ∀ k, k < 8 → parseFieldDescriptor (TSt k).2.2.1 = some (tySt k) := by decide +kernel
theorem inSt : ∀ w ∈ u_ws RSt TSt 8, w ∈ wg := mem_ws [92, 94, 96, 98, 100, 102, 104, 106] (by decide +kernel) (by decide +kernel)
abbrev cSt_init : ByteArray := prog_9_method_1_code
def ySt_init : MethodName := ⟨RSt, "<init>", "(LNodeServices$Network;)V"⟩
abbrev cSt_ask : ByteArray := prog_9_method_3_code
def ySt_ask : MethodName := ⟨RSt, "ask", "(I)V"⟩
abbrev cSt_release : ByteArray := prog_9_method_4_code
def ySt_release : MethodName := ⟨RSt, "release", "(I)V"⟩
abbrev cSt_receive : ByteArray := prog_9_method_5_code
def ySt_receive : MethodName := ⟨RSt, "receive", "(IILNodeServices$Message;)V"⟩
abbrev cSt_takeRequest : ByteArray := prog_9_method_6_code
def ySt_takeRequest : MethodName := ⟨RSt, "takeRequest", "(III)V"⟩
abbrev cSt_isBefore : ByteArray := prog_9_method_7_code
def ySt_isBefore : MethodName := ⟨RSt, "isBefore", "(III)Z"⟩
abbrev cSt_takeReply : ByteArray := prog_9_method_8_code
def ySt_takeReply : MethodName := ⟨RSt, "takeReply", "(I)V"⟩
abbrev cSt_detail : ByteArray := prog_9_method_2_code
def ySt_detail : MethodName := ⟨RSt, "detail", "(I)I"⟩
def RTk : String := "NodeServices$TokenLock"
def TTk : u_T := fun k => match k with
  | 0 => ("NodeServices$TokenLock", "known", "[[I", true)
  | 1 => ("NodeServices$TokenLock", "done", "[I", true)
  | 2 => ("NodeServices$TokenLock", "row", "LNodeServices$NodeRow;", true)
  | 3 => ("NodeServices$TokenLock", "keeper", "I", false)
  | 4 => ("NodeServices$Lock", "state", "[I", true)
  | 5 => ("NodeServices$Lock", "entries", "I", false)
  | 6 => ("NodeServices$Service", "network", "LNodeServices$Network;", true)
  | _ => ("NodeServices$Service", "number", "I", true)
def tyTk : Nat → FieldType := fun k => match k with
  | 0 => .array (.array .int)
  | 1 => .array .int
  | 2 => .object "NodeServices$NodeRow"
  | 3 => .int
  | 4 => .array .int
  | 5 => .int
  | 6 => .object "NodeServices$Network"
  | _ => .int
theorem nmTk : ∀ a, a < 8 → ∀ b, b < 8 → a ≠ b → (TTk a).2.1 ≠ (TTk b).2.1 := by decide +kernel
theorem tyTk_ok : ∀ k, k < 8 → parseFieldDescriptor (TTk k).2.2.1 = some (tyTk k) := by decide +kernel
theorem inTk : ∀ w ∈ u_ws RTk TTk 8, w ∈ wg := mem_ws [136, 138, 140, 142, 144, 145, 146, 147] (by decide +kernel) (by decide +kernel)
abbrev cTk_init : ByteArray := prog_10_method_1_code
def yTk_init : MethodName := ⟨RTk, "<init>", "(LNodeServices$Network;)V"⟩
abbrev cTk_ask : ByteArray := prog_10_method_3_code
def yTk_ask : MethodName := ⟨RTk, "ask", "(I)V"⟩
abbrev cTk_release : ByteArray := prog_10_method_4_code
def yTk_release : MethodName := ⟨RTk, "release", "(I)V"⟩
abbrev cTk_isOwed : ByteArray := prog_10_method_7_code
def yTk_isOwed : MethodName := ⟨RTk, "isOwed", "(II)Z"⟩
abbrev cTk_passToken : ByteArray := prog_10_method_8_code
def yTk_passToken : MethodName := ⟨RTk, "passToken", "(II)V"⟩
abbrev cTk_receive : ByteArray := prog_10_method_5_code
def yTk_receive : MethodName := ⟨RTk, "receive", "(IILNodeServices$Message;)V"⟩
abbrev cTk_takeRequest : ByteArray := prog_10_method_6_code
def yTk_takeRequest : MethodName := ⟨RTk, "takeRequest", "(III)V"⟩
abbrev cTk_detail : ByteArray := prog_10_method_2_code
def yTk_detail : MethodName := ⟨RTk, "detail", "(I)I"⟩
def RTr : String := "NodeServices$TreeLock"
def TTr : u_T := fun k => match k with
  | 0 => ("NodeServices$TreeLock", "holder", "[I", true)
  | 1 => ("NodeServices$TreeLock", "queues", "[LNodeServices$NodeRow;", true)
  | 2 => ("NodeServices$TreeLock", "asked", "[Z", true)
  | 3 => ("NodeServices$Lock", "state", "[I", true)
  | 4 => ("NodeServices$Lock", "entries", "I", false)
  | 5 => ("NodeServices$Service", "network", "LNodeServices$Network;", true)
  | _ => ("NodeServices$Service", "number", "I", true)
def tyTr : Nat → FieldType := fun k => match k with
  | 0 => .array .int
  | 1 => .array (.object "NodeServices$NodeRow")
  | 2 => .array .boolean
  | 3 => .array .int
  | 4 => .int
  | 5 => .object "NodeServices$Network"
  | _ => .int
theorem nmTr : ∀ a, a < 7 → ∀ b, b < 7 → a ≠ b → (TTr a).2.1 ≠ (TTr b).2.1 := by decide +kernel
theorem tyTr_ok : ∀ k, k < 7 → parseFieldDescriptor (TTr k).2.2.1 = some (tyTr k) := by decide +kernel
theorem inTr : ∀ w ∈ u_ws RTr TTr 7, w ∈ wg := mem_ws [170, 172, 174, 176, 177, 178, 179] (by decide +kernel) (by decide +kernel)
abbrev cTr_init : ByteArray := prog_11_method_1_code
def yTr_init : MethodName := ⟨RTr, "<init>", "(LNodeServices$Network;)V"⟩
abbrev cTr_ask : ByteArray := prog_11_method_3_code
def yTr_ask : MethodName := ⟨RTr, "ask", "(I)V"⟩
abbrev cTr_goOn : ByteArray := prog_11_method_6_code
def yTr_goOn : MethodName := ⟨RTr, "goOn", "(I)V"⟩
abbrev cTr_serve : ByteArray := prog_11_method_7_code
def yTr_serve : MethodName := ⟨RTr, "serve", "(II)V"⟩
abbrev cTr_release : ByteArray := prog_11_method_4_code
def yTr_release : MethodName := ⟨RTr, "release", "(I)V"⟩
abbrev cTr_receive : ByteArray := prog_11_method_5_code
def yTr_receive : MethodName := ⟨RTr, "receive", "(IILNodeServices$Message;)V"⟩
abbrev cTr_detail : ByteArray := prog_11_method_2_code
def yTr_detail : MethodName := ⟨RTr, "detail", "(I)I"⟩
def REl : String := "NodeServices$Election"
def TEl : u_T := fun k => match k with
  | 0 => ("NodeServices$Election", "takesPart", "[Z", true)
  | 1 => ("NodeServices$Election", "ids", "[I", true)
  | 2 => ("NodeServices$Election", "leader", "[I", true)
  | 3 => ("NodeServices$Service", "network", "LNodeServices$Network;", true)
  | _ => ("NodeServices$Service", "number", "I", true)
def tyEl : Nat → FieldType := fun k => match k with
  | 0 => .array .boolean
  | 1 => .array .int
  | 2 => .array .int
  | 3 => .object "NodeServices$Network"
  | _ => .int
theorem nmEl : ∀ a, a < 5 → ∀ b, b < 5 → a ≠ b → (TEl a).2.1 ≠ (TEl b).2.1 := by decide +kernel
theorem tyEl_ok : ∀ k, k < 5 → parseFieldDescriptor (TEl k).2.2.1 = some (tyEl k) := by decide +kernel
theorem inEl : ∀ w ∈ u_ws REl TEl 5, w ∈ wg := mem_ws [194, 196, 198, 200, 201] (by decide +kernel) (by decide +kernel)
abbrev cEl_init : ByteArray := prog_3_method_1_code
def yEl_init : MethodName := ⟨REl, "<init>", "(LNodeServices$Network;II)V"⟩
abbrev cEl_stand : ByteArray := prog_3_method_4_code
def yEl_stand : MethodName := ⟨REl, "stand", "(I)V"⟩
abbrev cEl_sendOn : ByteArray := prog_3_method_8_code
def yEl_sendOn : MethodName := ⟨REl, "sendOn", "(III)V"⟩
abbrev cEl_receive : ByteArray := prog_3_method_5_code
def yEl_receive : MethodName := ⟨REl, "receive", "(IILNodeServices$Message;)V"⟩
abbrev cEl_takeElect : ByteArray := prog_3_method_6_code
def yEl_takeElect : MethodName := ⟨REl, "takeElect", "(II)V"⟩
abbrev cEl_takeLeader : ByteArray := prog_3_method_7_code
def yEl_takeLeader : MethodName := ⟨REl, "takeLeader", "(II)V"⟩
abbrev cEl_condition : ByteArray := prog_3_method_2_code
def yEl_condition : MethodName := ⟨REl, "condition", "(I)I"⟩
abbrev cEl_detail : ByteArray := prog_3_method_3_code
def yEl_detail : MethodName := ⟨REl, "detail", "(I)I"⟩
def RWk : String := "NodeServices$Work"
def TWk : u_T := fun k => match k with
  | 0 => ("NodeServices$Work", "busy", "[Z", true)
  | 1 => ("NodeServices$Work", "root", "I", false)
  | 2 => ("NodeServices$Work", "ends", "I", false)
  | 3 => ("NodeServices$Work", "parent", "[I", true)
  | 4 => ("NodeServices$Work", "unanswered", "[I", true)
  | 5 => ("NodeServices$Service", "network", "LNodeServices$Network;", true)
  | _ => ("NodeServices$Service", "number", "I", true)
def tyWk : Nat → FieldType := fun k => match k with
  | 0 => .array .boolean
  | 1 => .int
  | 2 => .int
  | 3 => .array .int
  | 4 => .array .int
  | 5 => .object "NodeServices$Network"
  | _ => .int
theorem nmWk : ∀ a, a < 7 → ∀ b, b < 7 → a ≠ b → (TWk a).2.1 ≠ (TWk b).2.1 := by decide +kernel
theorem tyWk_ok : ∀ k, k < 7 → parseFieldDescriptor (TWk k).2.2.1 = some (tyWk k) := by decide +kernel
theorem inWk : ∀ w ∈ u_ws RWk TWk 7, w ∈ wg := mem_ws [217, 219, 221, 223, 225, 227, 228] (by decide +kernel) (by decide +kernel)
abbrev cWk_init : ByteArray := prog_12_method_1_code
def yWk_init : MethodName := ⟨RWk, "<init>", "(LNodeServices$Network;)V"⟩
abbrev cWk_isOver : ByteArray := prog_12_method_4_code
def yWk_isOver : MethodName := ⟨RWk, "isOver", "()Z"⟩
abbrev cWk_isEngaged : ByteArray := prog_12_method_11_code
def yWk_isEngaged : MethodName := ⟨RWk, "isEngaged", "(I)Z"⟩
abbrev cWk_plant : ByteArray := prog_12_method_6_code
def yWk_plant : MethodName := ⟨RWk, "plant", "(I)V"⟩
abbrev cWk_hasMostUnanswered : ByteArray := prog_12_method_5_code
def yWk_hasMostUnanswered : MethodName := ⟨RWk, "hasMostUnanswered", "(I)Z"⟩
abbrev cWk_share : ByteArray := prog_12_method_7_code
def yWk_share : MethodName := ⟨RWk, "share", "(II)V"⟩
abbrev cWk_pause : ByteArray := prog_12_method_8_code
def yWk_pause : MethodName := ⟨RWk, "pause", "(I)V"⟩
abbrev cWk_settle : ByteArray := prog_12_method_12_code
def yWk_settle : MethodName := ⟨RWk, "settle", "(I)V"⟩
abbrev cWk_receive : ByteArray := prog_12_method_9_code
def yWk_receive : MethodName := ⟨RWk, "receive", "(IILNodeServices$Message;)V"⟩
abbrev cWk_takeWork : ByteArray := prog_12_method_10_code
def yWk_takeWork : MethodName := ⟨RWk, "takeWork", "(II)V"⟩
abbrev cWk_condition : ByteArray := prog_12_method_2_code
def yWk_condition : MethodName := ⟨RWk, "condition", "(I)I"⟩
abbrev cWk_detail : ByteArray := prog_12_method_3_code
def yWk_detail : MethodName := ⟨RWk, "detail", "(I)I"⟩
def RSv : String := "NodeServices$Service"
abbrev cSv_init : ByteArray := prog_8_method_1_code
def ySv_init : MethodName := ⟨RSv, "<init>", "(LNodeServices$Network;I)V"⟩
abbrev cSv_sendToAllOthers : ByteArray := prog_8_method_6_code
def ySv_sendToAllOthers : MethodName := ⟨RSv, "sendToAllOthers", "(III)V"⟩
abbrev cSv_send : ByteArray := prog_8_method_5_code
def ySv_send : MethodName := ⟨RSv, "send", "(IIII)V"⟩
def RLk : String := "NodeServices$Lock"
abbrev cLk_init : ByteArray := prog_4_method_1_code
def yLk_init : MethodName := ⟨RLk, "<init>", "(LNodeServices$Network;I)V"⟩
abbrev cLk_enter : ByteArray := prog_4_method_5_code
def yLk_enter : MethodName := ⟨RLk, "enter", "(I)V"⟩
abbrev cLk_condition : ByteArray := prog_4_method_4_code
def yLk_condition : MethodName := ⟨RLk, "condition", "(I)I"⟩
def RLw : String := "NodeServicesLaw"
abbrev cLw_cell : ByteArray := method_2_code
def yLw_cell : MethodName := ⟨RLw, "cell", "([II)I"⟩
abbrev cLw_want : ByteArray := method_3_code
def yLw_want : MethodName := ⟨RLw, "want", "(LNodeServices;II)I"⟩
abbrev cLw_leave : ByteArray := method_4_code
def yLw_leave : MethodName := ⟨RLw, "leave", "(LNodeServices;II)I"⟩
abbrev cLw_start : ByteArray := method_5_code
def yLw_start : MethodName := ⟨RLw, "start", "(LNodeServices;I)I"⟩
abbrev cLw_begin : ByteArray := method_6_code
def yLw_begin : MethodName := ⟨RLw, "begin", "(LNodeServices;I)I"⟩
abbrev cLw_spread : ByteArray := method_7_code
def yLw_spread : MethodName := ⟨RLw, "spread", "(LNodeServices;II)I"⟩
abbrev cLw_rest : ByteArray := method_8_code
def yLw_rest : MethodName := ⟨RLw, "rest", "(LNodeServices;I)I"⟩
abbrev cLw_deliver : ByteArray := method_9_code
def yLw_deliver : MethodName := ⟨RLw, "deliver", "(LNodeServices;II[J)I"⟩
abbrev cLw_first : ByteArray := method_10_code
def yLw_first : MethodName := ⟨RLw, "first", "(LNodeServices;II[J)I"⟩
abbrev cLw_waiting : ByteArray := method_11_code
def yLw_waiting : MethodName := ⟨RLw, "waiting", "(LNodeServices;II[J)I"⟩
abbrev cLw_about : ByteArray := method_12_code
def yLw_about : MethodName := ⟨RLw, "about", "(LNodeServices;II[J)I"⟩
abbrev cLw_more : ByteArray := method_13_code
def yLw_more : MethodName := ⟨RLw, "more", "(LNodeServices;II[J)I"⟩
abbrev clA : List vw_C := [(RMo, TMo, 33), (RNs, TNs, 5), (RNw, TNw, 2), (RCh, TCh, 3), (RMs, TMs, 4), (RRo, TRo, 2), (RSt, TSt, 8), (RTk, TTk, 8), (RTr, TTr, 7), (REl, TEl, 5), (RWk, TWk, 7)]
end
section
theorem wm_13 : Cond.initialized "NodeServicesModel" ∈ wg := mem_wg (List.mem_append_right _ (List.mem_of_getElem? (i := 13) (by decide +kernel))) (by decide +kernel)
theorem wm_736 : Cond.fieldLink "NodeServicesModel" 7 "NodeServicesModel" "head" "[I" ∈ wg := mem_wg (List.mem_append_right _ (List.mem_of_getElem? (i := 736) (by decide +kernel))) (by decide +kernel)
theorem wm_737 : Cond.fieldLink "NodeServicesModel" 13 "NodeServicesModel" "tail" "[I" ∈ wg := mem_wg (List.mem_append_right _ (List.mem_of_getElem? (i := 737) (by decide +kernel))) (by decide +kernel)
theorem wm_738 : Cond.fieldLink "NodeServicesModel" 16 "NodeServicesModel" "many" "[I" ∈ wg := mem_wg (List.mem_append_right _ (List.mem_of_getElem? (i := 738) (by decide +kernel))) (by decide +kernel)
theorem wm_739 : Cond.fieldLink "NodeServicesModel" 19 "NodeServicesModel" "sort" "[I" ∈ wg := mem_wg (List.mem_append_right _ (List.mem_of_getElem? (i := 739) (by decide +kernel))) (by decide +kernel)
theorem wm_740 : Cond.fieldLink "NodeServicesModel" 22 "NodeServicesModel" "amount" "[I" ∈ wg := mem_wg (List.mem_append_right _ (List.mem_of_getElem? (i := 740) (by decide +kernel))) (by decide +kernel)
theorem wm_741 : Cond.fieldLink "NodeServicesModel" 25 "NodeServicesModel" "behind" "[I" ∈ wg := mem_wg (List.mem_append_right _ (List.mem_of_getElem? (i := 741) (by decide +kernel))) (by decide +kernel)
theorem wm_742 : Cond.fieldLink "NodeServicesModel" 93 "NodeServicesModel" "used" "I" ∈ wg := mem_wg (List.mem_append_right _ (List.mem_of_getElem? (i := 742) (by decide +kernel))) (by decide +kernel)
theorem wm_743 : Cond.fieldLink "NodeServicesModel" 28 "NodeServicesModel" "free" "I" ∈ wg := mem_wg (List.mem_append_right _ (List.mem_of_getElem? (i := 743) (by decide +kernel))) (by decide +kernel)
theorem wm_744 : Cond.fieldLink "NodeServicesModel" 32 "NodeServicesModel" "state" "[I" ∈ wg := mem_wg (List.mem_append_right _ (List.mem_of_getElem? (i := 744) (by decide +kernel))) (by decide +kernel)
theorem wm_745 : Cond.fieldLink "NodeServicesModel" 128 "NodeServicesModel" "cameIn" "I" ∈ wg := mem_wg (List.mem_append_right _ (List.mem_of_getElem? (i := 745) (by decide +kernel))) (by decide +kernel)
theorem wm_746 : Cond.fieldLink "NodeServicesModel" 96 "NodeServicesModel" "sent" "I" ∈ wg := mem_wg (List.mem_append_right _ (List.mem_of_getElem? (i := 746) (by decide +kernel))) (by decide +kernel)
theorem wm_747 : Cond.fieldLink "NodeServicesModel" 35 "NodeServicesModel" "clock" "[I" ∈ wg := mem_wg (List.mem_append_right _ (List.mem_of_getElem? (i := 747) (by decide +kernel))) (by decide +kernel)
theorem wm_748 : Cond.fieldLink "NodeServicesModel" 38 "NodeServicesModel" "stamp" "[I" ∈ wg := mem_wg (List.mem_append_right _ (List.mem_of_getElem? (i := 748) (by decide +kernel))) (by decide +kernel)
theorem wm_749 : Cond.fieldLink "NodeServicesModel" 41 "NodeServicesModel" "replies" "[I" ∈ wg := mem_wg (List.mem_append_right _ (List.mem_of_getElem? (i := 749) (by decide +kernel))) (by decide +kernel)
theorem wm_750 : Cond.fieldLink "NodeServicesModel" 44 "NodeServicesModel" "putOff" "[I" ∈ wg := mem_wg (List.mem_append_right _ (List.mem_of_getElem? (i := 750) (by decide +kernel))) (by decide +kernel)
theorem wm_751 : Cond.fieldLink "NodeServicesModel" 47 "NodeServicesModel" "known" "[I" ∈ wg := mem_wg (List.mem_append_right _ (List.mem_of_getElem? (i := 751) (by decide +kernel))) (by decide +kernel)
theorem wm_752 : Cond.fieldLink "NodeServicesModel" 50 "NodeServicesModel" "tokenDone" "[I" ∈ wg := mem_wg (List.mem_append_right _ (List.mem_of_getElem? (i := 752) (by decide +kernel))) (by decide +kernel)
theorem wm_753 : Cond.fieldLink "NodeServicesModel" 134 "NodeServicesModel" "holder" "I" ∈ wg := mem_wg (List.mem_append_right _ (List.mem_of_getElem? (i := 753) (by decide +kernel))) (by decide +kernel)
theorem wm_754 : Cond.fieldLink "NodeServicesModel" 157 "NodeServicesModel" "rowSize" "I" ∈ wg := mem_wg (List.mem_append_right _ (List.mem_of_getElem? (i := 754) (by decide +kernel))) (by decide +kernel)
theorem wm_755 : Cond.fieldLink "NodeServicesModel" 53 "NodeServicesModel" "row" "[I" ∈ wg := mem_wg (List.mem_append_right _ (List.mem_of_getElem? (i := 755) (by decide +kernel))) (by decide +kernel)
theorem wm_756 : Cond.fieldLink "NodeServicesModel" 56 "NodeServicesModel" "towards" "[I" ∈ wg := mem_wg (List.mem_append_right _ (List.mem_of_getElem? (i := 756) (by decide +kernel))) (by decide +kernel)
theorem wm_757 : Cond.fieldLink "NodeServicesModel" 59 "NodeServicesModel" "queueSize" "[I" ∈ wg := mem_wg (List.mem_append_right _ (List.mem_of_getElem? (i := 757) (by decide +kernel))) (by decide +kernel)
theorem wm_758 : Cond.fieldLink "NodeServicesModel" 62 "NodeServicesModel" "queue" "[I" ∈ wg := mem_wg (List.mem_append_right _ (List.mem_of_getElem? (i := 758) (by decide +kernel))) (by decide +kernel)
theorem wm_759 : Cond.fieldLink "NodeServicesModel" 65 "NodeServicesModel" "asked" "[Z" ∈ wg := mem_wg (List.mem_append_right _ (List.mem_of_getElem? (i := 759) (by decide +kernel))) (by decide +kernel)
theorem wm_760 : Cond.fieldLink "NodeServicesModel" 69 "NodeServicesModel" "id" "[I" ∈ wg := mem_wg (List.mem_append_right _ (List.mem_of_getElem? (i := 760) (by decide +kernel))) (by decide +kernel)
theorem wm_761 : Cond.fieldLink "NodeServicesModel" 72 "NodeServicesModel" "leader" "[I" ∈ wg := mem_wg (List.mem_append_right _ (List.mem_of_getElem? (i := 761) (by decide +kernel))) (by decide +kernel)
theorem wm_762 : Cond.fieldLink "NodeServicesModel" 75 "NodeServicesModel" "part" "[Z" ∈ wg := mem_wg (List.mem_append_right _ (List.mem_of_getElem? (i := 762) (by decide +kernel))) (by decide +kernel)
theorem wm_763 : Cond.fieldLink "NodeServicesModel" 78 "NodeServicesModel" "root" "I" ∈ wg := mem_wg (List.mem_append_right _ (List.mem_of_getElem? (i := 763) (by decide +kernel))) (by decide +kernel)
theorem wm_764 : Cond.fieldLink "NodeServicesModel" 164 "NodeServicesModel" "ends" "I" ∈ wg := mem_wg (List.mem_append_right _ (List.mem_of_getElem? (i := 764) (by decide +kernel))) (by decide +kernel)
theorem wm_765 : Cond.fieldLink "NodeServicesModel" 81 "NodeServicesModel" "busy" "[Z" ∈ wg := mem_wg (List.mem_append_right _ (List.mem_of_getElem? (i := 765) (by decide +kernel))) (by decide +kernel)
theorem wm_766 : Cond.fieldLink "NodeServicesModel" 84 "NodeServicesModel" "parent" "[I" ∈ wg := mem_wg (List.mem_append_right _ (List.mem_of_getElem? (i := 766) (by decide +kernel))) (by decide +kernel)
theorem wm_767 : Cond.fieldLink "NodeServicesModel" 87 "NodeServicesModel" "open" "[I" ∈ wg := mem_wg (List.mem_append_right _ (List.mem_of_getElem? (i := 767) (by decide +kernel))) (by decide +kernel)
theorem wm_768 : Cond.fieldLink "NodeServicesModel" 90 "NodeServicesModel" "thrown" "I" ∈ wg := mem_wg (List.mem_append_right _ (List.mem_of_getElem? (i := 768) (by decide +kernel))) (by decide +kernel)
theorem wm_844 : Cond.methodLink "NodeServicesModel" 107 yMo_isChannel ∈ wg := mem_wg (List.mem_append_right _ (List.mem_of_getElem? (i := 844) (by decide +kernel))) (by decide +kernel)
theorem wm_845 : Cond.static yMo_isChannel ∈ wg := mem_wg (List.mem_append_right _ (List.mem_of_getElem? (i := 845) (by decide +kernel))) (by decide +kernel)
theorem wm_846 : Cond.code yMo_isChannel cMo_isChannel 2 (some .boolean) ∈ wg := mem_wg (List.mem_append_right _ (List.mem_of_getElem? (i := 846) (by decide +kernel))) (by decide +kernel)
theorem wm_847 : Cond.methodLink "NodeServicesModel" 103 yMo_isNode ∈ wg := mem_wg (List.mem_append_right _ (List.mem_of_getElem? (i := 847) (by decide +kernel))) (by decide +kernel)
theorem wm_848 : Cond.static yMo_isNode ∈ wg := mem_wg (List.mem_append_right _ (List.mem_of_getElem? (i := 848) (by decide +kernel))) (by decide +kernel)
theorem wm_849 : Cond.code yMo_isNode cMo_isNode 1 (some .boolean) ∈ wg := mem_wg (List.mem_append_right _ (List.mem_of_getElem? (i := 849) (by decide +kernel))) (by decide +kernel)
theorem wm_854 : Cond.methodLink "NodeServicesModel" 137 yMo_comeIn ∈ wg := mem_wg (List.mem_append_right _ (List.mem_of_getElem? (i := 854) (by decide +kernel))) (by decide +kernel)
theorem wm_856 : Cond.instanceMethod yMo_comeIn ∈ wg := mem_wg (List.mem_append_right _ (List.mem_of_getElem? (i := 856) (by decide +kernel))) (by decide +kernel)
theorem wm_857 : Cond.code yMo_comeIn cMo_comeIn 3 none ∈ wg := mem_wg (List.mem_append_right _ (List.mem_of_getElem? (i := 857) (by decide +kernel))) (by decide +kernel)
theorem wm_858 : Cond.methodLink "NodeServicesModel" 99 yMo_send ∈ wg := mem_wg (List.mem_append_right _ (List.mem_of_getElem? (i := 858) (by decide +kernel))) (by decide +kernel)
theorem wm_860 : Cond.instanceMethod yMo_send ∈ wg := mem_wg (List.mem_append_right _ (List.mem_of_getElem? (i := 860) (by decide +kernel))) (by decide +kernel)
theorem wm_861 : Cond.code yMo_send cMo_send 8 none ∈ wg := mem_wg (List.mem_append_right _ (List.mem_of_getElem? (i := 861) (by decide +kernel))) (by decide +kernel)
theorem wm_866 : Cond.methodLink "NodeServicesModel" 154 yMo_isDue ∈ wg := mem_wg (List.mem_append_right _ (List.mem_of_getElem? (i := 866) (by decide +kernel))) (by decide +kernel)
theorem wm_868 : Cond.instanceMethod yMo_isDue ∈ wg := mem_wg (List.mem_append_right _ (List.mem_of_getElem? (i := 868) (by decide +kernel))) (by decide +kernel)
theorem wm_869 : Cond.code yMo_isDue cMo_isDue 3 (some .boolean) ∈ wg := mem_wg (List.mem_append_right _ (List.mem_of_getElem? (i := 869) (by decide +kernel))) (by decide +kernel)
theorem wm_874 : Cond.methodLink "NodeServicesModel" 144 yMo_enqueue ∈ wg := mem_wg (List.mem_append_right _ (List.mem_of_getElem? (i := 874) (by decide +kernel))) (by decide +kernel)
theorem wm_876 : Cond.instanceMethod yMo_enqueue ∈ wg := mem_wg (List.mem_append_right _ (List.mem_of_getElem? (i := 876) (by decide +kernel))) (by decide +kernel)
theorem wm_877 : Cond.code yMo_enqueue cMo_enqueue 3 none ∈ wg := mem_wg (List.mem_append_right _ (List.mem_of_getElem? (i := 877) (by decide +kernel))) (by decide +kernel)
theorem wm_878 : Cond.methodLink "NodeServicesModel" 147 yMo_goOn ∈ wg := mem_wg (List.mem_append_right _ (List.mem_of_getElem? (i := 878) (by decide +kernel))) (by decide +kernel)
theorem wm_880 : Cond.instanceMethod yMo_goOn ∈ wg := mem_wg (List.mem_append_right _ (List.mem_of_getElem? (i := 880) (by decide +kernel))) (by decide +kernel)
theorem wm_881 : Cond.code yMo_goOn cMo_goOn 3 none ∈ wg := mem_wg (List.mem_append_right _ (List.mem_of_getElem? (i := 881) (by decide +kernel))) (by decide +kernel)
theorem wm_882 : Cond.methodLink "NodeServicesModel" 160 yMo_dequeue ∈ wg := mem_wg (List.mem_append_right _ (List.mem_of_getElem? (i := 882) (by decide +kernel))) (by decide +kernel)
theorem wm_884 : Cond.instanceMethod yMo_dequeue ∈ wg := mem_wg (List.mem_append_right _ (List.mem_of_getElem? (i := 884) (by decide +kernel))) (by decide +kernel)
theorem wm_885 : Cond.code yMo_dequeue cMo_dequeue 4 (some .int) ∈ wg := mem_wg (List.mem_append_right _ (List.mem_of_getElem? (i := 885) (by decide +kernel))) (by decide +kernel)
theorem wm_894 : Cond.methodLink "NodeServicesModel" 167 yMo_settle ∈ wg := mem_wg (List.mem_append_right _ (List.mem_of_getElem? (i := 894) (by decide +kernel))) (by decide +kernel)
theorem wm_896 : Cond.instanceMethod yMo_settle ∈ wg := mem_wg (List.mem_append_right _ (List.mem_of_getElem? (i := 896) (by decide +kernel))) (by decide +kernel)
theorem wm_897 : Cond.code yMo_settle cMo_settle 3 none ∈ wg := mem_wg (List.mem_append_right _ (List.mem_of_getElem? (i := 897) (by decide +kernel))) (by decide +kernel)
theorem wm_910 : Cond.methodLink "NodeServicesModel" 131 yMo_isLock ∈ wg := mem_wg (List.mem_append_right _ (List.mem_of_getElem? (i := 910) (by decide +kernel))) (by decide +kernel)
theorem wm_911 : Cond.static yMo_isLock ∈ wg := mem_wg (List.mem_append_right _ (List.mem_of_getElem? (i := 911) (by decide +kernel))) (by decide +kernel)
theorem wm_912 : Cond.code yMo_isLock cMo_isLock 2 (some .boolean) ∈ wg := mem_wg (List.mem_append_right _ (List.mem_of_getElem? (i := 912) (by decide +kernel))) (by decide +kernel)
theorem wm_913 : Cond.methodLink "NodeServicesModel" 141 yMo_sendAll ∈ wg := mem_wg (List.mem_append_right _ (List.mem_of_getElem? (i := 913) (by decide +kernel))) (by decide +kernel)
theorem wm_915 : Cond.instanceMethod yMo_sendAll ∈ wg := mem_wg (List.mem_append_right _ (List.mem_of_getElem? (i := 915) (by decide +kernel))) (by decide +kernel)
theorem wm_916 : Cond.code yMo_sendAll cMo_sendAll 6 none ∈ wg := mem_wg (List.mem_append_right _ (List.mem_of_getElem? (i := 916) (by decide +kernel))) (by decide +kernel)
theorem wm_921 : Cond.methodLink "NodeServicesModel" 151 yMo_passToken ∈ wg := mem_wg (List.mem_append_right _ (List.mem_of_getElem? (i := 921) (by decide +kernel))) (by decide +kernel)
theorem wm_923 : Cond.instanceMethod yMo_passToken ∈ wg := mem_wg (List.mem_append_right _ (List.mem_of_getElem? (i := 923) (by decide +kernel))) (by decide +kernel)
theorem wm_924 : Cond.code yMo_passToken cMo_passToken 5 none ∈ wg := mem_wg (List.mem_append_right _ (List.mem_of_getElem? (i := 924) (by decide +kernel))) (by decide +kernel)
theorem wm_945 : Cond.methodLink "NodeServicesModel" 170 yMo_isService ∈ wg := mem_wg (List.mem_append_right _ (List.mem_of_getElem? (i := 945) (by decide +kernel))) (by decide +kernel)
theorem wm_946 : Cond.static yMo_isService ∈ wg := mem_wg (List.mem_append_right _ (List.mem_of_getElem? (i := 946) (by decide +kernel))) (by decide +kernel)
theorem wm_947 : Cond.code yMo_isService cMo_isService 2 (some .boolean) ∈ wg := mem_wg (List.mem_append_right _ (List.mem_of_getElem? (i := 947) (by decide +kernel))) (by decide +kernel)
theorem wp_17 : Cond.selects "NodeServicesModel" yMo_comeIn yMo_comeIn ∈ wg := mem_wg (List.mem_append_left _ (List.mem_of_getElem? (i := 17) (by decide +kernel))) (by decide +kernel)
theorem wp_18 : Cond.selects "NodeServicesModel" yMo_send yMo_send ∈ wg := mem_wg (List.mem_append_left _ (List.mem_of_getElem? (i := 18) (by decide +kernel))) (by decide +kernel)
theorem wp_20 : Cond.selects "NodeServicesModel" yMo_isDue yMo_isDue ∈ wg := mem_wg (List.mem_append_left _ (List.mem_of_getElem? (i := 20) (by decide +kernel))) (by decide +kernel)
theorem wp_22 : Cond.selects "NodeServicesModel" yMo_enqueue yMo_enqueue ∈ wg := mem_wg (List.mem_append_left _ (List.mem_of_getElem? (i := 22) (by decide +kernel))) (by decide +kernel)
theorem wp_23 : Cond.selects "NodeServicesModel" yMo_goOn yMo_goOn ∈ wg := mem_wg (List.mem_append_left _ (List.mem_of_getElem? (i := 23) (by decide +kernel))) (by decide +kernel)
theorem wp_24 : Cond.selects "NodeServicesModel" yMo_dequeue yMo_dequeue ∈ wg := mem_wg (List.mem_append_left _ (List.mem_of_getElem? (i := 24) (by decide +kernel))) (by decide +kernel)
theorem wp_27 : Cond.selects "NodeServicesModel" yMo_settle yMo_settle ∈ wg := mem_wg (List.mem_append_left _ (List.mem_of_getElem? (i := 27) (by decide +kernel))) (by decide +kernel)
theorem wp_28 : Cond.selects "NodeServicesModel" yMo_sendAll yMo_sendAll ∈ wg := mem_wg (List.mem_append_left _ (List.mem_of_getElem? (i := 28) (by decide +kernel))) (by decide +kernel)
theorem wp_29 : Cond.selects "NodeServicesModel" yMo_passToken yMo_passToken ∈ wg := mem_wg (List.mem_append_left _ (List.mem_of_getElem? (i := 29) (by decide +kernel))) (by decide +kernel)
end
section
theorem dMo_thrown_0 : decode cMo_thrown 0 = .ok (.aload_n 0, 1) := by decide +kernel
theorem dMo_thrown_1 : decode cMo_thrown 1 = .ok (.getfield 90, 3) := by decide +kernel
theorem dMo_thrown_4 : decode cMo_thrown 4 = .ok (.ireturn, 1) := by decide +kernel
theorem dMo_isNode_0 : decode cMo_isNode 0 = .ok (.iload_n 0, 1) := by decide +kernel
theorem dMo_isNode_1 : decode cMo_isNode 1 = .ok (.ifCond .lt 12, 3) := by decide +kernel
theorem dMo_isNode_4 : decode cMo_isNode 4 = .ok (.iload_n 0, 1) := by decide +kernel
theorem dMo_isNode_5 : decode cMo_isNode 5 = .ok (.iconst 4, 1) := by decide +kernel
theorem dMo_isNode_6 : decode cMo_isNode 6 = .ok (.if_icmp .ge 7, 3) := by decide +kernel
theorem dMo_isNode_9 : decode cMo_isNode 9 = .ok (.iconst 1, 1) := by decide +kernel
theorem dMo_isNode_10 : decode cMo_isNode 10 = .ok (.goto 4, 3) := by decide +kernel
theorem dMo_isNode_13 : decode cMo_isNode 13 = .ok (.iconst 0, 1) := by decide +kernel
theorem dMo_isNode_14 : decode cMo_isNode 14 = .ok (.ireturn, 1) := by decide +kernel
theorem dMo_isChannel_0 : decode cMo_isChannel 0 = .ok (.iload_n 0, 1) := by decide +kernel
theorem dMo_isChannel_1 : decode cMo_isChannel 1 = .ok (.invokestatic 103, 3) := by decide +kernel
theorem dMo_isChannel_4 : decode cMo_isChannel 4 = .ok (.ifCond .eq 19, 3) := by decide +kernel
theorem dMo_isChannel_7 : decode cMo_isChannel 7 = .ok (.iload_n 1, 1) := by decide +kernel
theorem dMo_isChannel_8 : decode cMo_isChannel 8 = .ok (.invokestatic 103, 3) := by decide +kernel
theorem dMo_isChannel_11 : decode cMo_isChannel 11 = .ok (.ifCond .eq 12, 3) := by decide +kernel
theorem dMo_isChannel_14 : decode cMo_isChannel 14 = .ok (.iload_n 0, 1) := by decide +kernel
theorem dMo_isChannel_15 : decode cMo_isChannel 15 = .ok (.iload_n 1, 1) := by decide +kernel
theorem dMo_isChannel_16 : decode cMo_isChannel 16 = .ok (.if_icmp .eq 7, 3) := by decide +kernel
theorem dMo_isChannel_19 : decode cMo_isChannel 19 = .ok (.iconst 1, 1) := by decide +kernel
theorem dMo_isChannel_20 : decode cMo_isChannel 20 = .ok (.goto 4, 3) := by decide +kernel
theorem dMo_isChannel_23 : decode cMo_isChannel 23 = .ok (.iconst 0, 1) := by decide +kernel
theorem dMo_isChannel_24 : decode cMo_isChannel 24 = .ok (.ireturn, 1) := by decide +kernel
theorem dMo_send_0 : decode cMo_send 0 = .ok (.aload_n 0, 1) := by decide +kernel
theorem dMo_send_1 : decode cMo_send 1 = .ok (.getfield 28, 3) := by decide +kernel
theorem dMo_send_4 : decode cMo_send 4 = .ok (.istore 6, 2) := by decide +kernel
theorem dMo_send_6 : decode cMo_send 6 = .ok (.iload 6, 2) := by decide +kernel
theorem dMo_send_8 : decode cMo_send 8 = .ok (.ifCond .lt 17, 3) := by decide +kernel
theorem dMo_send_11 : decode cMo_send 11 = .ok (.aload_n 0, 1) := by decide +kernel
theorem dMo_send_12 : decode cMo_send 12 = .ok (.aload_n 0, 1) := by decide +kernel
theorem dMo_send_13 : decode cMo_send 13 = .ok (.getfield 25, 3) := by decide +kernel
theorem dMo_send_16 : decode cMo_send 16 = .ok (.iload 6, 2) := by decide +kernel
theorem dMo_send_18 : decode cMo_send 18 = .ok (.iaload, 1) := by decide +kernel
theorem dMo_send_19 : decode cMo_send 19 = .ok (.putfield 28, 3) := by decide +kernel
theorem dMo_send_22 : decode cMo_send 22 = .ok (.goto 19, 3) := by decide +kernel
theorem dMo_send_25 : decode cMo_send 25 = .ok (.aload_n 0, 1) := by decide +kernel
theorem dMo_send_26 : decode cMo_send 26 = .ok (.getfield 93, 3) := by decide +kernel
theorem dMo_send_29 : decode cMo_send 29 = .ok (.istore 6, 2) := by decide +kernel
theorem dMo_send_31 : decode cMo_send 31 = .ok (.aload_n 0, 1) := by decide +kernel
theorem dMo_send_32 : decode cMo_send 32 = .ok (.dup, 1) := by decide +kernel
theorem dMo_send_33 : decode cMo_send 33 = .ok (.getfield 93, 3) := by decide +kernel
theorem dMo_send_36 : decode cMo_send 36 = .ok (.iconst 1, 1) := by decide +kernel
theorem dMo_send_37 : decode cMo_send 37 = .ok (.iadd, 1) := by decide +kernel
theorem dMo_send_38 : decode cMo_send 38 = .ok (.putfield 93, 3) := by decide +kernel
theorem dMo_send_41 : decode cMo_send 41 = .ok (.aload_n 0, 1) := by decide +kernel
theorem dMo_send_42 : decode cMo_send 42 = .ok (.getfield 19, 3) := by decide +kernel
theorem dMo_send_45 : decode cMo_send 45 = .ok (.iload 6, 2) := by decide +kernel
theorem dMo_send_47 : decode cMo_send 47 = .ok (.bipush 10, 2) := by decide +kernel
theorem dMo_send_49 : decode cMo_send 49 = .ok (.iload_n 3, 1) := by decide +kernel
theorem dMo_send_50 : decode cMo_send 50 = .ok (.imul, 1) := by decide +kernel
theorem dMo_send_51 : decode cMo_send 51 = .ok (.iload 4, 2) := by decide +kernel
theorem dMo_send_53 : decode cMo_send 53 = .ok (.iadd, 1) := by decide +kernel
theorem dMo_send_54 : decode cMo_send 54 = .ok (.iastore, 1) := by decide +kernel
theorem dMo_send_55 : decode cMo_send 55 = .ok (.aload_n 0, 1) := by decide +kernel
theorem dMo_send_56 : decode cMo_send 56 = .ok (.getfield 22, 3) := by decide +kernel
theorem dMo_send_59 : decode cMo_send 59 = .ok (.iload 6, 2) := by decide +kernel
theorem dMo_send_61 : decode cMo_send 61 = .ok (.iload 5, 2) := by decide +kernel
theorem dMo_send_63 : decode cMo_send 63 = .ok (.iastore, 1) := by decide +kernel
theorem dMo_send_64 : decode cMo_send 64 = .ok (.aload_n 0, 1) := by decide +kernel
theorem dMo_send_65 : decode cMo_send 65 = .ok (.getfield 25, 3) := by decide +kernel
theorem dMo_send_68 : decode cMo_send 68 = .ok (.iload 6, 2) := by decide +kernel
theorem dMo_send_70 : decode cMo_send 70 = .ok (.iconst (-1), 1) := by decide +kernel
theorem dMo_send_71 : decode cMo_send 71 = .ok (.iastore, 1) := by decide +kernel
theorem dMo_send_72 : decode cMo_send 72 = .ok (.iconst 4, 1) := by decide +kernel
theorem dMo_send_73 : decode cMo_send 73 = .ok (.iload_n 1, 1) := by decide +kernel
theorem dMo_send_74 : decode cMo_send 74 = .ok (.imul, 1) := by decide +kernel
theorem dMo_send_75 : decode cMo_send 75 = .ok (.iload_n 2, 1) := by decide +kernel
theorem dMo_send_76 : decode cMo_send 76 = .ok (.iadd, 1) := by decide +kernel
theorem dMo_send_77 : decode cMo_send 77 = .ok (.istore 7, 2) := by decide +kernel
theorem dMo_send_79 : decode cMo_send 79 = .ok (.aload_n 0, 1) := by decide +kernel
theorem dMo_send_80 : decode cMo_send 80 = .ok (.getfield 7, 3) := by decide +kernel
theorem dMo_send_83 : decode cMo_send 83 = .ok (.iload 7, 2) := by decide +kernel
theorem dMo_send_85 : decode cMo_send 85 = .ok (.iaload, 1) := by decide +kernel
theorem dMo_send_86 : decode cMo_send 86 = .ok (.ifCond .ge 15, 3) := by decide +kernel
theorem dMo_send_89 : decode cMo_send 89 = .ok (.aload_n 0, 1) := by decide +kernel
theorem dMo_send_90 : decode cMo_send 90 = .ok (.getfield 7, 3) := by decide +kernel
theorem dMo_send_93 : decode cMo_send 93 = .ok (.iload 7, 2) := by decide +kernel
theorem dMo_send_95 : decode cMo_send 95 = .ok (.iload 6, 2) := by decide +kernel
theorem dMo_send_97 : decode cMo_send 97 = .ok (.iastore, 1) := by decide +kernel
theorem dMo_send_98 : decode cMo_send 98 = .ok (.goto 17, 3) := by decide +kernel
theorem dMo_send_101 : decode cMo_send 101 = .ok (.aload_n 0, 1) := by decide +kernel
theorem dMo_send_102 : decode cMo_send 102 = .ok (.getfield 25, 3) := by decide +kernel
theorem dMo_send_105 : decode cMo_send 105 = .ok (.aload_n 0, 1) := by decide +kernel
theorem dMo_send_106 : decode cMo_send 106 = .ok (.getfield 13, 3) := by decide +kernel
theorem dMo_send_109 : decode cMo_send 109 = .ok (.iload 7, 2) := by decide +kernel
theorem dMo_send_111 : decode cMo_send 111 = .ok (.iaload, 1) := by decide +kernel
theorem dMo_send_112 : decode cMo_send 112 = .ok (.iload 6, 2) := by decide +kernel
theorem dMo_send_114 : decode cMo_send 114 = .ok (.iastore, 1) := by decide +kernel
theorem dMo_send_115 : decode cMo_send 115 = .ok (.aload_n 0, 1) := by decide +kernel
theorem dMo_send_116 : decode cMo_send 116 = .ok (.getfield 13, 3) := by decide +kernel
theorem dMo_send_119 : decode cMo_send 119 = .ok (.iload 7, 2) := by decide +kernel
theorem dMo_send_121 : decode cMo_send 121 = .ok (.iload 6, 2) := by decide +kernel
theorem dMo_send_123 : decode cMo_send 123 = .ok (.iastore, 1) := by decide +kernel
theorem dMo_send_124 : decode cMo_send 124 = .ok (.aload_n 0, 1) := by decide +kernel
theorem dMo_send_125 : decode cMo_send 125 = .ok (.getfield 16, 3) := by decide +kernel
theorem dMo_send_128 : decode cMo_send 128 = .ok (.iload 7, 2) := by decide +kernel
theorem dMo_send_130 : decode cMo_send 130 = .ok (.dup2, 1) := by decide +kernel
theorem dMo_send_131 : decode cMo_send 131 = .ok (.iaload, 1) := by decide +kernel
theorem dMo_send_132 : decode cMo_send 132 = .ok (.iconst 1, 1) := by decide +kernel
theorem dMo_send_133 : decode cMo_send 133 = .ok (.iadd, 1) := by decide +kernel
theorem dMo_send_134 : decode cMo_send 134 = .ok (.iastore, 1) := by decide +kernel
theorem dMo_send_135 : decode cMo_send 135 = .ok (.aload_n 0, 1) := by decide +kernel
theorem dMo_send_136 : decode cMo_send 136 = .ok (.dup, 1) := by decide +kernel
theorem dMo_send_137 : decode cMo_send 137 = .ok (.getfield 96, 3) := by decide +kernel
theorem dMo_send_140 : decode cMo_send 140 = .ok (.iconst 1, 1) := by decide +kernel
theorem dMo_send_141 : decode cMo_send 141 = .ok (.iadd, 1) := by decide +kernel
theorem dMo_send_142 : decode cMo_send 142 = .ok (.putfield 96, 3) := by decide +kernel
theorem dMo_send_145 : decode cMo_send 145 = .ok (.return_, 1) := by decide +kernel
theorem dMo_comeIn_0 : decode cMo_comeIn 0 = .ok (.aload_n 0, 1) := by decide +kernel
theorem dMo_comeIn_1 : decode cMo_comeIn 1 = .ok (.getfield 32, 3) := by decide +kernel
theorem dMo_comeIn_4 : decode cMo_comeIn 4 = .ok (.iconst 4, 1) := by decide +kernel
theorem dMo_comeIn_5 : decode cMo_comeIn 5 = .ok (.iload_n 1, 1) := by decide +kernel
theorem dMo_comeIn_6 : decode cMo_comeIn 6 = .ok (.imul, 1) := by decide +kernel
theorem dMo_comeIn_7 : decode cMo_comeIn 7 = .ok (.iload_n 2, 1) := by decide +kernel
theorem dMo_comeIn_8 : decode cMo_comeIn 8 = .ok (.iadd, 1) := by decide +kernel
theorem dMo_comeIn_9 : decode cMo_comeIn 9 = .ok (.iconst 2, 1) := by decide +kernel
theorem dMo_comeIn_10 : decode cMo_comeIn 10 = .ok (.iastore, 1) := by decide +kernel
theorem dMo_comeIn_11 : decode cMo_comeIn 11 = .ok (.aload_n 0, 1) := by decide +kernel
theorem dMo_comeIn_12 : decode cMo_comeIn 12 = .ok (.dup, 1) := by decide +kernel
theorem dMo_comeIn_13 : decode cMo_comeIn 13 = .ok (.getfield 128, 3) := by decide +kernel
theorem dMo_comeIn_16 : decode cMo_comeIn 16 = .ok (.iconst 1, 1) := by decide +kernel
theorem dMo_comeIn_17 : decode cMo_comeIn 17 = .ok (.iadd, 1) := by decide +kernel
theorem dMo_comeIn_18 : decode cMo_comeIn 18 = .ok (.putfield 128, 3) := by decide +kernel
theorem dMo_comeIn_21 : decode cMo_comeIn 21 = .ok (.return_, 1) := by decide +kernel
end
section
abbrev mT (tI tZ : ClassId) : List (ClassId × FieldType) := [(tI, .int), (tZ, .boolean)]
def mw (a : Nat → Nat) (tI tZ : ClassId) (σ : MS) : va_W := [(a 0, .inr (0, [.ref (a 1), .ref (a 2), .ref (a 3), .ref (a 4), .ref (a 5), .ref (a 6), .int (σ 6 0), .int (σ 7 0), .ref (a 7), .int (σ 9 0), .int (σ 10 0), .ref (a 8), .ref (a 9), .ref (a 10), .ref (a 11), .ref (a 12), .ref (a 13), .int (σ 17 0), .int (σ 18 0), .ref (a 14), .ref (a 15), .ref (a 16), .ref (a 17), .ref (a 18), .ref (a 19), .ref (a 20), .ref (a 21), .int (σ 27 0), .int (σ 28 0), .ref (a 22), .ref (a 23), .ref (a 24), .int (σ 32 0)])),
  (a 1, .inl (tI, 16, .inl (σ 0))),
  (a 2, .inl (tI, 16, .inl (σ 1))),
  (a 3, .inl (tI, 16, .inl (σ 2))),
  (a 4, .inl (tI, 700, .inl (σ 3))),
  (a 5, .inl (tI, 700, .inl (σ 4))),
  (a 6, .inl (tI, 700, .inl (σ 5))),
  (a 7, .inl (tI, 12, .inl (σ 8))),
  (a 8, .inl (tI, 4, .inl (σ 11))),
  (a 9, .inl (tI, 4, .inl (σ 12))),
  (a 10, .inl (tI, 4, .inl (σ 13))),
  (a 11, .inl (tI, 4, .inl (σ 14))),
  (a 12, .inl (tI, 16, .inl (σ 15))),
  (a 13, .inl (tI, 4, .inl (σ 16))),
  (a 14, .inl (tI, 4, .inl (σ 19))),
  (a 15, .inl (tI, 4, .inl (σ 20))),
  (a 16, .inl (tI, 4, .inl (σ 21))),
  (a 17, .inl (tI, 32, .inl (σ 22))),
  (a 18, .inl (tZ, 4, .inl (σ 23))),
  (a 19, .inl (tI, 4, .inl (σ 24))),
  (a 20, .inl (tI, 4, .inl (σ 25))),
  (a 21, .inl (tZ, 4, .inl (σ 26))),
  (a 22, .inl (tZ, 4, .inl (σ 29))),
  (a 23, .inl (tI, 4, .inl (σ 30))),
  (a 24, .inl (tI, 4, .inl (σ 31)))]
-- public int thrown()
def wM_thrown (R : Int32 → MS → Prop) (σ : MS) : Prop :=
  R (σ 32 0) σ
abbrev wsMo_thrown : List Cond := .code yMo_thrown cMo_thrown 1 (some .int) :: wg
abbrev rmM_thrown : Room := { frames := 0, cells := 0, slots := 0, locals := 0 }
set_option maxHeartbeats 4000000 in
set_option maxRecDepth 100000 in
theorem kM_thrown (l : Launch) (D : va_G) (a : Nat → Nat) (A : Nat → Prop) (tI tZ : ClassId) (σ : MS) (R : Int32 → MS → Prop) (hwp : wM_thrown R σ ) : Met l yMo_thrown wsMo_thrown rmM_thrown (va_Pc [.ref (a 0)] (uI D clA (mT tI tZ) A false (mw a tI tZ) σ)) (va_Qi R (uI D clA (mT tI tZ) A false (mw a tI tZ)) A) 0 0 A := by
  refine Met.ofW (cc := cMo_thrown) (maxL := 1) (ret := (some .int)) (by decide) rfl ?_
  intro p e s m args below meth c s₁ B hml hv
  obtain ⟨rfl, hP, hK, hD, hA⟩ := hv
  have hx := B.exec
  have hb := B.bytes
  have hr := B.returns
  have hts := atoms_spec (ws := wsMo_thrown) B.pre
  have hown : s.vm.findClass RMo = some m.cls := findClass_of_methodNamed B.named
  have hlocks := B.notSynchronized
  have hin0 : ∀ w ∈ u_ws RMo TMo 33, w ∈ wsMo_thrown := fun w h => List.mem_cons_of_mem _ (inMo w h)
  have k90 := hts _ (List.mem_cons_of_mem _ wm_768)
  have hS : va_S A s.heap s.heap [] := va_S.rf
  have hl := lv_entry ([.ref (a 0)]) (n := 1) (Nat.le_of_ble_eq_true rfl)
  rw [lg_entry_eq]
  generalize (lg_sl ([.ref (a 0)]) ++ List.replicate (1 - (lg_sl ([.ref (a 0)])).length) Slot.unset).toArray = ls at hl ⊢
  have hl : lv_has ls 1 [(0, .ref (a 0))] := hl
  refine lv_aload_n hx hb dMo_thrown_0 rfl (lv_at hl 0 rfl) ?_
  refine va_get (D := D) (ci := 0) (C := RMo) (T := TMo) (N := 33) hx hb hts hin0 hown hK hP 0 rfl rfl 32 (by decide) k90 (fun _ h9 => h9) rfl dMo_thrown_1 ?_
  exact W.iret (v := σ 32 0) hx hb hr (fun t ht hW => ⟨⟨σ 32 0, σ, rfl, hwp, uEnd ht hW hP hK hD hS hA⟩, hS.F ht⟩) hS.2.2 dMo_thrown_4
-- private static boolean isNode(int)
def wM_isNode_13 (R : Int32 → MS → Prop) (σ : MS) (y0 : Int32) : Prop :=
  R 0 σ
def wM_isNode (R : Int32 → MS → Prop) (σ : MS) (x1 : Int32) : Prop :=
  (((x1 < 0) → wM_isNode_13 R σ x1) ∧ ((¬ x1 < 0) → (((4 ≤ x1) → wM_isNode_13 R σ x1) ∧ ((¬ 4 ≤ x1) → R 1 σ))))
abbrev wsMo_isNode : List Cond := .code yMo_isNode cMo_isNode 1 (some .boolean) :: wg
abbrev rmM_isNode : Room := { frames := 0, cells := 0, slots := 0, locals := 0 }
set_option maxHeartbeats 4000000 in
set_option maxRecDepth 100000 in
theorem kM_isNode (l : Launch) (D : va_G) (a : Nat → Nat) (A : Nat → Prop) (tI tZ : ClassId) (σ : MS) (x1 : Int32) (R : Int32 → MS → Prop) (hwp : wM_isNode R σ x1) : Met l yMo_isNode wsMo_isNode rmM_isNode (va_Pc [.int x1] (uI D clA (mT tI tZ) A false (mw a tI tZ) σ)) (va_Qi R (uI D clA (mT tI tZ) A false (mw a tI tZ)) A) 0 0 A := by
  refine Met.ofW (cc := cMo_isNode) (maxL := 1) (ret := (some .boolean)) (by decide) rfl ?_
  intro p e s m args below meth c s₁ B hml hv
  obtain ⟨rfl, hP, hK, hD, hA⟩ := hv
  have hx := B.exec
  have hb := B.bytes
  have hr := B.returns
  have hts := atoms_spec (ws := wsMo_isNode) B.pre
  have hown : s.vm.findClass RMo = some m.cls := findClass_of_methodNamed B.named
  have hlocks := B.notSynchronized
  have hS : va_S A s.heap s.heap [] := va_S.rf
  have cut13 : ∀ (σ : MS) (y0 : Int32) (H : Heap) (locs : List Loc) (ls : Array Slot), wM_isNode_13 R σ y0 → va_P D clA (mw a tI tZ σ) H → va_D A (mw a tI tZ σ) → va_S A s.heap H locs → lv_has ls 1 [(0, .int y0)] → W p l e (headSpec wsMo_isNode rmM_isNode).room s m ([.int x1] : List Value).toArray below meth c H locs 0 0 (MQ below (va_Qi R (uI D clA (mT tI tZ) A false (mw a tI tZ)) A) ([.int x1] : List Value).toArray s 0 0 A) (F0 m 13 ls []) := by
    intro σ y0 H locs ls hwp hP hD hS hl
    refine lv_iconst (v := 0) hx hb dMo_isNode_13 (by decide) ?_
    exact W.zret (v := 0) hx hb hr (by decide) (fun t ht hW => ⟨⟨0, σ, rfl, hwp, uEnd ht hW hP hK hD hS hA⟩, hS.F ht⟩) hS.2.2 dMo_isNode_14
  have hl := lv_entry ([.int x1]) (n := 1) (Nat.le_of_ble_eq_true rfl)
  rw [lg_entry_eq]
  generalize (lg_sl ([.int x1]) ++ List.replicate (1 - (lg_sl ([.int x1])).length) Slot.unset).toArray = ls at hl ⊢
  have hl : lv_has ls 1 [(0, .int x1)] := hl
  refine lv_iload_n hx hb dMo_isNode_0 rfl (lv_at hl 0 rfl) ?_
  refine lv_if_lt hx hb dMo_isNode_1 rfl (fun h1 => ?_) (fun h1 => ?_)
  · have hwp := hwp.1 h1
    exact cut13 σ x1 _ _ _ hwp hP hD hS (lv_sub hl [0] rfl)
  · have hwp := hwp.2 h1
    refine lv_iload_n hx hb dMo_isNode_4 rfl (lv_at hl 0 rfl) ?_
    refine lv_iconst (v := 4) hx hb dMo_isNode_5 (by decide) ?_
    refine lv_icmp_ge hx hb dMo_isNode_6 rfl (fun h2 => ?_) (fun h2 => ?_)
    · have hwp := hwp.1 h2
      exact cut13 σ x1 _ _ _ hwp hP hD hS (lv_sub hl [0] rfl)
    · have hwp := hwp.2 h2
      refine lv_iconst (v := 1) hx hb dMo_isNode_9 (by decide) ?_
      refine lv_goto hx hb dMo_isNode_10 rfl ?_
      exact W.zret (v := 1) hx hb hr (by decide) (fun t ht hW => ⟨⟨1, σ, rfl, hwp, uEnd ht hW hP hK hD hS hA⟩, hS.F ht⟩) hS.2.2 dMo_isNode_14
-- private static boolean isChannel(int, int)
def wM_isChannel_23 (R : Int32 → MS → Prop) (σ : MS) (y0 : Int32) (y1 : Int32) : Prop :=
  R 0 σ
def wM_isChannel (R : Int32 → MS → Prop) (σ : MS) (x1 x2 : Int32) : Prop :=
  (∃ P1 : Int32 → MS → Prop, wM_isNode P1 σ x1 ∧ (∀ (r3 : Int32) (u2 : MS), P1 r3 u2 → (((r3 = 0) → wM_isChannel_23 R u2 x1 x2) ∧ ((¬ r3 = 0) → (∃ P5 : Int32 → MS → Prop, wM_isNode P5 u2 x2 ∧ (∀ (r7 : Int32) (u6 : MS), P5 r7 u6 → (((r7 = 0) → wM_isChannel_23 R u6 x1 x2) ∧ ((¬ r7 = 0) → (((x1 = x2) → wM_isChannel_23 R u6 x1 x2) ∧ ((¬ x1 = x2) → R 1 u6))))))))))
abbrev wsMo_isChannel : List Cond := .code yMo_isChannel cMo_isChannel 2 (some .boolean) :: wg
abbrev rmM_isChannel : Room := { frames := 1, cells := 0, slots := 0, locals := 20 }
set_option maxHeartbeats 4000000 in
set_option maxRecDepth 100000 in
theorem kM_isChannel (l : Launch) (D : va_G) (a : Nat → Nat) (A : Nat → Prop) (tI tZ : ClassId) (σ : MS) (x1 x2 : Int32) (R : Int32 → MS → Prop) (hwp : wM_isChannel R σ x1 x2) : Met l yMo_isChannel wsMo_isChannel rmM_isChannel (va_Pc [.int x1, .int x2] (uI D clA (mT tI tZ) A false (mw a tI tZ) σ)) (va_Qi R (uI D clA (mT tI tZ) A false (mw a tI tZ)) A) 0 0 A := by
  refine Met.ofW (cc := cMo_isChannel) (maxL := 2) (ret := (some .boolean)) (by decide) rfl ?_
  intro p e s m args below meth c s₁ B hml hv
  obtain ⟨rfl, hP, hK, hD, hA⟩ := hv
  have hx := B.exec
  have hb := B.bytes
  have hr := B.returns
  have hts := atoms_spec (ws := wsMo_isChannel) B.pre
  have hown : s.vm.findClass RMo = some m.cls := findClass_of_methodNamed B.named
  have hlocks := B.notSynchronized
  have hS : va_S A s.heap s.heap [] := va_S.rf
  have cut23 : ∀ (σ : MS) (y0 : Int32) (y1 : Int32) (H : Heap) (locs : List Loc) (ls : Array Slot), wM_isChannel_23 R σ y0 y1 → va_P D clA (mw a tI tZ σ) H → va_D A (mw a tI tZ σ) → va_S A s.heap H locs → lv_has ls 2 [(0, .int y0), (1, .int y1)] → W p l e (headSpec wsMo_isChannel rmM_isChannel).room s m ([.int x1, .int x2] : List Value).toArray below meth c H locs 0 0 (MQ below (va_Qi R (uI D clA (mT tI tZ) A false (mw a tI tZ)) A) ([.int x1, .int x2] : List Value).toArray s 0 0 A) (F0 m 23 ls []) := by
    intro σ y0 y1 H locs ls hwp hP hD hS hl
    refine lv_iconst (v := 0) hx hb dMo_isChannel_23 (by decide) ?_
    exact W.zret (v := 0) hx hb hr (by decide) (fun t ht hW => ⟨⟨0, σ, rfl, hwp, uEnd ht hW hP hK hD hS hA⟩, hS.F ht⟩) hS.2.2 dMo_isChannel_24
  have hl := lv_entry ([.int x1, .int x2]) (n := 2) (Nat.le_of_ble_eq_true rfl)
  rw [lg_entry_eq]
  generalize (lg_sl ([.int x1, .int x2]) ++ List.replicate (2 - (lg_sl ([.int x1, .int x2])).length) Slot.unset).toArray = ls at hl ⊢
  have hl : lv_has ls 2 [(0, .int x1), (1, .int x2)] := hl
  refine lv_iload_n hx hb dMo_isChannel_0 rfl (lv_at hl 0 rfl) ?_
  obtain ⟨P1, hP1, hwp⟩ := hwp
  refine uCallSi (As := [.int x1]) (rest := []) ⟨hx, hb, hml, hown, hts⟩ (kM_isNode l D a A tI tZ σ x1 P1 hP1) (cwS 1 hts (gdS wm_847 wm_848 wm_13 wm_849) rfl rfl rfl (by decide +kernel) ⟨Nat.le_of_ble_eq_true rfl, Nat.le_of_ble_eq_true rfl⟩) hP hK hD hA hS rfl hl.1 rfl (Nat.le_of_ble_eq_true rfl) dMo_isChannel_1 ⟨Nat.le_of_ble_eq_true rfl, Nat.le_of_ble_eq_true rfl⟩ (fun r3 u2 H locs hu2 hP hD hS => ?_)
  have hwp := hwp r3 u2 hu2
  refine lv_if_eq hx hb dMo_isChannel_4 rfl (fun h4 => ?_) (fun h4 => ?_)
  · have hwp := hwp.1 h4
    exact cut23 u2 x1 x2 _ _ _ hwp hP hD hS (lv_sub hl [0, 1] rfl)
  · have hwp := hwp.2 h4
    refine lv_iload_n hx hb dMo_isChannel_7 rfl (lv_at hl 1 rfl) ?_
    obtain ⟨P5, hP5, hwp⟩ := hwp
    refine uCallSi (As := [.int x2]) (rest := []) ⟨hx, hb, hml, hown, hts⟩ (kM_isNode l D a A tI tZ u2 x2 P5 hP5) (cwS 1 hts (gdS wm_847 wm_848 wm_13 wm_849) rfl rfl rfl (by decide +kernel) ⟨Nat.le_of_ble_eq_true rfl, Nat.le_of_ble_eq_true rfl⟩) hP hK hD hA hS rfl hl.1 rfl (Nat.le_of_ble_eq_true rfl) dMo_isChannel_8 ⟨Nat.le_of_ble_eq_true rfl, Nat.le_of_ble_eq_true rfl⟩ (fun r7 u6 H locs hu6 hP hD hS => ?_)
    have hwp := hwp r7 u6 hu6
    refine lv_if_eq hx hb dMo_isChannel_11 rfl (fun h8 => ?_) (fun h8 => ?_)
    · have hwp := hwp.1 h8
      exact cut23 u6 x1 x2 _ _ _ hwp hP hD hS (lv_sub hl [0, 1] rfl)
    · have hwp := hwp.2 h8
      refine lv_iload_n hx hb dMo_isChannel_14 rfl (lv_at hl 0 rfl) ?_
      refine lv_iload_n hx hb dMo_isChannel_15 rfl (lv_at hl 1 rfl) ?_
      refine lv_icmp_eq hx hb dMo_isChannel_16 rfl (fun h9 => ?_) (fun h9 => ?_)
      · have hwp := hwp.1 h9
        exact cut23 u6 x1 x2 _ _ _ hwp hP hD hS (lv_sub hl [0, 1] rfl)
      · have hwp := hwp.2 h9
        refine lv_iconst (v := 1) hx hb dMo_isChannel_19 (by decide) ?_
        refine lv_goto hx hb dMo_isChannel_20 rfl ?_
        exact W.zret (v := 1) hx hb hr (by decide) (fun t ht hW => ⟨⟨1, u6, rfl, hwp, uEnd ht hW hP hK hD hS hA⟩, hS.F ht⟩) hS.2.2 dMo_isChannel_24
-- private void send(int, int, int, int, int)
def wM_send_115 (R : MS → Prop) (σ : MS) (y1 : Int32) (y2 : Int32) (y3 : Int32) (y4 : Int32) (y5 : Int32) (y6 : Int32) (y7 : Int32) : Prop :=
  (vp_in y7 16 ∧ (∀ σ2 : MS, σ2 = up2 σ 1 y7.toNatClampNeg y6 → (vp_in y7 16 ∧ (vp_in y7 16 ∧ (∀ σ5 : MS, σ5 = up2 σ2 2 y7.toNatClampNeg ((σ2 2 y7.toNatClampNeg) + 1) → (∀ σ6 : MS, σ6 = up2 σ5 10 0 ((σ5 10 0) + 1) → R σ6))))))
def wM_send_41 (R : MS → Prop) (σ : MS) (y1 : Int32) (y2 : Int32) (y3 : Int32) (y4 : Int32) (y5 : Int32) (y6 : Int32) : Prop :=
  (vp_in y6 700 ∧ (∀ σ8 : MS, σ8 = up2 σ 3 y6.toNatClampNeg ((10 * y3) + y4) → (vp_in y6 700 ∧ (∀ σ10 : MS, σ10 = up2 σ8 4 y6.toNatClampNeg y5 → (vp_in y6 700 ∧ (∀ σ12 : MS, σ12 = up2 σ10 5 y6.toNatClampNeg (-1) → (∀ v13 : Int32, v13 = (4 * y1) + y2 → (vp_in v13 16 ∧ (((0 ≤ (σ12 0 v13.toNatClampNeg)) → (vp_in v13 16 ∧ (vp_in (σ12 1 v13.toNatClampNeg) 700 ∧ (∀ σ18 : MS, σ18 = up2 σ12 5 (σ12 1 v13.toNatClampNeg).toNatClampNeg y6 → wM_send_115 R σ18 y1 y2 y3 y4 y5 y6 v13)))) ∧ ((¬ 0 ≤ (σ12 0 v13.toNatClampNeg)) → (vp_in v13 16 ∧ (∀ σ20 : MS, σ20 = up2 σ12 0 v13.toNatClampNeg y6 → wM_send_115 R σ20 y1 y2 y3 y4 y5 y6 v13))))))))))))
def wM_send (R : MS → Prop) (σ : MS) (x1 x2 x3 x4 x5 : Int32) : Prop :=
  (∀ v21 : Int32, v21 = σ 7 0 → (((v21 < 0) → (∀ v23 : Int32, v23 = σ 6 0 → (∀ σ24 : MS, σ24 = up2 σ 6 0 ((σ 6 0) + 1) → wM_send_41 R σ24 x1 x2 x3 x4 x5 v23))) ∧ ((¬ v21 < 0) → (vp_in v21 700 ∧ (∀ σ26 : MS, σ26 = up2 σ 7 0 (σ 5 v21.toNatClampNeg) → wM_send_41 R σ26 x1 x2 x3 x4 x5 v21)))))
abbrev wsMo_send : List Cond := .code yMo_send cMo_send 8 none :: wg
abbrev rmM_send : Room := { frames := 0, cells := 0, slots := 0, locals := 0 }
set_option maxHeartbeats 4000000 in
set_option maxRecDepth 100000 in
theorem kM_send (l : Launch) (D : va_G) (a : Nat → Nat) (A : Nat → Prop) (tI tZ : ClassId) (σ : MS) (x1 x2 x3 x4 x5 : Int32) (R : MS → Prop) (hwp : wM_send R σ x1 x2 x3 x4 x5) : Met l yMo_send wsMo_send rmM_send (va_Pc [.ref (a 0), .int x1, .int x2, .int x3, .int x4, .int x5] (uI D clA (mT tI tZ) A false (mw a tI tZ) σ)) (va_Qv R (uI D clA (mT tI tZ) A false (mw a tI tZ)) A) 0 0 A := by
  refine Met.ofW (cc := cMo_send) (maxL := 8) (ret := none) (by decide) rfl ?_
  intro p e s m args below meth c s₁ B hml hv
  obtain ⟨rfl, hP, hK, hD, hA⟩ := hv
  have hx := B.exec
  have hb := B.bytes
  have hr := B.returns
  have hts := atoms_spec (ws := wsMo_send) B.pre
  have hown : s.vm.findClass RMo = some m.cls := findClass_of_methodNamed B.named
  have hlocks := B.notSynchronized
  have hin0 : ∀ w ∈ u_ws RMo TMo 33, w ∈ wsMo_send := fun w h => List.mem_cons_of_mem _ (inMo w h)
  have k13 := hts _ (List.mem_cons_of_mem _ wm_737)
  have k16 := hts _ (List.mem_cons_of_mem _ wm_738)
  have k19 := hts _ (List.mem_cons_of_mem _ wm_739)
  have k22 := hts _ (List.mem_cons_of_mem _ wm_740)
  have k25 := hts _ (List.mem_cons_of_mem _ wm_741)
  have k28 := hts _ (List.mem_cons_of_mem _ wm_743)
  have k7 := hts _ (List.mem_cons_of_mem _ wm_736)
  have k93 := hts _ (List.mem_cons_of_mem _ wm_742)
  have k96 := hts _ (List.mem_cons_of_mem _ wm_746)
  have hS : va_S A s.heap s.heap [] := va_S.rf
  have cut115 : ∀ (σ : MS) (y1 : Int32) (y2 : Int32) (y3 : Int32) (y4 : Int32) (y5 : Int32) (y6 : Int32) (y7 : Int32) (H : Heap) (locs : List Loc) (ls : Array Slot), wM_send_115 R σ y1 y2 y3 y4 y5 y6 y7 → va_P D clA (mw a tI tZ σ) H → va_D A (mw a tI tZ σ) → va_S A s.heap H locs → lv_has ls 8 [(0, .ref (a 0)), (1, .int y1), (2, .int y2), (3, .int y3), (4, .int y4), (5, .int y5), (6, .int y6), (7, .int y7)] → W p l e (headSpec wsMo_send rmM_send).room s m ([.ref (a 0), .int x1, .int x2, .int x3, .int x4, .int x5] : List Value).toArray below meth c H locs 0 0 (MQ below (va_Qv R (uI D clA (mT tI tZ) A false (mw a tI tZ)) A) ([.ref (a 0), .int x1, .int x2, .int x3, .int x4, .int x5] : List Value).toArray s 0 0 A) (F0 m 115 ls []) := by
    intro σ y1 y2 y3 y4 y5 y6 y7 H locs ls hwp hP hD hS hl
    refine lv_aload_n hx hb dMo_send_115 rfl (lv_at hl 0 rfl) ?_
    refine va_get (D := D) (ci := 0) (C := RMo) (T := TMo) (N := 33) hx hb hts hin0 hown hK hP 0 rfl rfl 1 (by decide) k13 (fun _ h9 => h9) rfl dMo_send_116 ?_
    refine lv_iload hx hb dMo_send_119 (lv_at hl 7 rfl) ?_
    refine lv_iload hx hb dMo_send_121 (lv_at hl 6 rfl) ?_
    obtain ⟨hi1, hwp⟩ := hwp
    refine va_iast hx hb hK hP hD hS 2 0 rfl rfl hi1 dMo_send_123 (fun H locs hP hD hS => ?_)
    obtain ⟨σ2, eσ2⟩ : ∃ z, z = up2 σ 1 y7.toNatClampNeg y6 := ⟨_, rfl⟩
    have hwp := hwp σ2 eσ2
    have hP : va_P D clA (mw a tI tZ σ2) H := by rw [eσ2]; exact hP
    have hD : va_D A (mw a tI tZ σ2) := by rw [eσ2]; exact hD
    refine lv_aload_n hx hb dMo_send_124 rfl (lv_at hl 0 rfl) ?_
    refine va_get (D := D) (ci := 0) (C := RMo) (T := TMo) (N := 33) hx hb hts hin0 hown hK hP 0 rfl rfl 2 (by decide) k16 (fun _ h9 => h9) rfl dMo_send_125 ?_
    refine lv_iload hx hb dMo_send_128 (lv_at hl 7 rfl) ?_
    refine lv_dup2_11 hx hb dMo_send_130 rfl rfl ?_
    obtain ⟨hi3, hwp⟩ := hwp
    refine va_iald hx hb hK hP 3 0 rfl rfl hi3 dMo_send_131 ?_
    refine lv_iconst (v := 1) hx hb dMo_send_132 (by decide) ?_
    refine lv_iadd hx hb dMo_send_133 ?_
    obtain ⟨hi4, hwp⟩ := hwp
    refine va_iast hx hb hK hP hD hS 3 0 rfl rfl hi4 dMo_send_134 (fun H locs hP hD hS => ?_)
    obtain ⟨σ5, eσ5⟩ : ∃ z, z = up2 σ2 2 y7.toNatClampNeg ((σ2 2 y7.toNatClampNeg) + 1) := ⟨_, rfl⟩
    have hwp := hwp σ5 eσ5
    have hP : va_P D clA (mw a tI tZ σ5) H := by rw [eσ5]; exact hP
    have hD : va_D A (mw a tI tZ σ5) := by rw [eσ5]; exact hD
    refine lv_aload_n hx hb dMo_send_135 rfl (lv_at hl 0 rfl) ?_
    refine lv_dup hx hb dMo_send_136 rfl ?_
    refine va_get (D := D) (ci := 0) (C := RMo) (T := TMo) (N := 33) hx hb hts hin0 hown hK hP 0 rfl rfl 10 (by decide) k96 (fun _ h9 => h9) rfl dMo_send_137 ?_
    refine lv_iconst (v := 1) hx hb dMo_send_140 (by decide) ?_
    refine lv_iadd hx hb dMo_send_141 ?_
    refine va_put (ty := .int) (D := D) (ci := 0) (C := RMo) (T := TMo) (N := 33) hx hb hts hin0 tyMo tyMo_ok nmMo hown hK hP hD hS 0 rfl rfl 10 (by decide) k96 (fun _ h9 => h9) rfl (by decide +kernel) rfl rfl (Nat.le_of_ble_eq_true rfl) dMo_send_142 (fun H locs hP hD hS => ?_)
    obtain ⟨σ6, eσ6⟩ : ∃ z, z = up2 σ5 10 0 ((σ5 10 0) + 1) := ⟨_, rfl⟩
    have hwp := hwp σ6 eσ6
    have hP : va_P D clA (mw a tI tZ σ6) H := by rw [eσ6]; exact hP
    have hD : va_D A (mw a tI tZ σ6) := by rw [eσ6]; exact hD
    exact W.vret hx hb hr (fun t ht hW => ⟨⟨σ6, rfl, hwp, uEnd ht hW hP hK hD hS hA⟩, hS.F ht⟩) hS.2.2 dMo_send_145
  have cut41 : ∀ (σ : MS) (y1 : Int32) (y2 : Int32) (y3 : Int32) (y4 : Int32) (y5 : Int32) (y6 : Int32) (H : Heap) (locs : List Loc) (ls : Array Slot), wM_send_41 R σ y1 y2 y3 y4 y5 y6 → va_P D clA (mw a tI tZ σ) H → va_D A (mw a tI tZ σ) → va_S A s.heap H locs → lv_has ls 8 [(0, .ref (a 0)), (1, .int y1), (2, .int y2), (3, .int y3), (4, .int y4), (5, .int y5), (6, .int y6)] → W p l e (headSpec wsMo_send rmM_send).room s m ([.ref (a 0), .int x1, .int x2, .int x3, .int x4, .int x5] : List Value).toArray below meth c H locs 0 0 (MQ below (va_Qv R (uI D clA (mT tI tZ) A false (mw a tI tZ)) A) ([.ref (a 0), .int x1, .int x2, .int x3, .int x4, .int x5] : List Value).toArray s 0 0 A) (F0 m 41 ls []) := by
    intro σ y1 y2 y3 y4 y5 y6 H locs ls hwp hP hD hS hl
    refine lv_aload_n hx hb dMo_send_41 rfl (lv_at hl 0 rfl) ?_
    refine va_get (D := D) (ci := 0) (C := RMo) (T := TMo) (N := 33) hx hb hts hin0 hown hK hP 0 rfl rfl 3 (by decide) k19 (fun _ h9 => h9) rfl dMo_send_42 ?_
    refine lv_iload hx hb dMo_send_45 (lv_at hl 6 rfl) ?_
    refine lv_bipush (v := 10) hx hb dMo_send_47 (by decide) ?_
    refine lv_iload_n hx hb dMo_send_49 rfl (lv_at hl 3 rfl) ?_
    refine lv_imul hx hb dMo_send_50 ?_
    refine lv_iload hx hb dMo_send_51 (lv_at hl 4 rfl) ?_
    refine lv_iadd hx hb dMo_send_53 ?_
    obtain ⟨hi7, hwp⟩ := hwp
    refine va_iast hx hb hK hP hD hS 4 0 rfl rfl hi7 dMo_send_54 (fun H locs hP hD hS => ?_)
    obtain ⟨σ8, eσ8⟩ : ∃ z, z = up2 σ 3 y6.toNatClampNeg ((10 * y3) + y4) := ⟨_, rfl⟩
    have hwp := hwp σ8 eσ8
    have hP : va_P D clA (mw a tI tZ σ8) H := by rw [eσ8]; exact hP
    have hD : va_D A (mw a tI tZ σ8) := by rw [eσ8]; exact hD
    refine lv_aload_n hx hb dMo_send_55 rfl (lv_at hl 0 rfl) ?_
    refine va_get (D := D) (ci := 0) (C := RMo) (T := TMo) (N := 33) hx hb hts hin0 hown hK hP 0 rfl rfl 4 (by decide) k22 (fun _ h9 => h9) rfl dMo_send_56 ?_
    refine lv_iload hx hb dMo_send_59 (lv_at hl 6 rfl) ?_
    refine lv_iload hx hb dMo_send_61 (lv_at hl 5 rfl) ?_
    obtain ⟨hi9, hwp⟩ := hwp
    refine va_iast hx hb hK hP hD hS 5 0 rfl rfl hi9 dMo_send_63 (fun H locs hP hD hS => ?_)
    obtain ⟨σ10, eσ10⟩ : ∃ z, z = up2 σ8 4 y6.toNatClampNeg y5 := ⟨_, rfl⟩
    have hwp := hwp σ10 eσ10
    have hP : va_P D clA (mw a tI tZ σ10) H := by rw [eσ10]; exact hP
    have hD : va_D A (mw a tI tZ σ10) := by rw [eσ10]; exact hD
    refine lv_aload_n hx hb dMo_send_64 rfl (lv_at hl 0 rfl) ?_
    refine va_get (D := D) (ci := 0) (C := RMo) (T := TMo) (N := 33) hx hb hts hin0 hown hK hP 0 rfl rfl 5 (by decide) k25 (fun _ h9 => h9) rfl dMo_send_65 ?_
    refine lv_iload hx hb dMo_send_68 (lv_at hl 6 rfl) ?_
    refine lv_iconst (v := (-1)) hx hb dMo_send_70 (by decide) ?_
    obtain ⟨hi11, hwp⟩ := hwp
    refine va_iast hx hb hK hP hD hS 6 0 rfl rfl hi11 dMo_send_71 (fun H locs hP hD hS => ?_)
    obtain ⟨σ12, eσ12⟩ : ∃ z, z = up2 σ10 5 y6.toNatClampNeg (-1) := ⟨_, rfl⟩
    have hwp := hwp σ12 eσ12
    have hP : va_P D clA (mw a tI tZ σ12) H := by rw [eσ12]; exact hP
    have hD : va_D A (mw a tI tZ σ12) := by rw [eσ12]; exact hD
    refine lv_iconst (v := 4) hx hb dMo_send_72 (by decide) ?_
    refine lv_iload_n hx hb dMo_send_73 rfl (lv_at hl 1 rfl) ?_
    refine lv_imul hx hb dMo_send_74 ?_
    refine lv_iload_n hx hb dMo_send_75 rfl (lv_at hl 2 rfl) ?_
    refine lv_iadd hx hb dMo_send_76 ?_
    refine lv_topi (fun v13 ev13 => ?_)
    have hwp := hwp v13 ev13
    refine lv_istore hx hb dMo_send_77 hl (by decide) rfl (fun ls hl => ?_)
    have hl : lv_has ls 8 [(7, .int v13), (0, .ref (a 0)), (1, .int y1), (2, .int y2), (3, .int y3), (4, .int y4), (5, .int y5), (6, .int y6)] := hl
    refine lv_aload_n hx hb dMo_send_79 rfl (lv_at hl 1 rfl) ?_
    refine va_get (D := D) (ci := 0) (C := RMo) (T := TMo) (N := 33) hx hb hts hin0 hown hK hP 0 rfl rfl 0 (by decide) k7 (fun _ h9 => h9) rfl dMo_send_80 ?_
    refine lv_iload hx hb dMo_send_83 (lv_at hl 0 rfl) ?_
    obtain ⟨hi14, hwp⟩ := hwp
    refine va_iald hx hb hK hP 1 0 rfl rfl hi14 dMo_send_85 ?_
    refine lv_if_ge hx hb dMo_send_86 rfl (fun h15 => ?_) (fun h15 => ?_)
    · have hwp := hwp.1 h15
      refine lv_aload_n hx hb dMo_send_101 rfl (lv_at hl 1 rfl) ?_
      refine va_get (D := D) (ci := 0) (C := RMo) (T := TMo) (N := 33) hx hb hts hin0 hown hK hP 0 rfl rfl 5 (by decide) k25 (fun _ h9 => h9) rfl dMo_send_102 ?_
      refine lv_aload_n hx hb dMo_send_105 rfl (lv_at hl 1 rfl) ?_
      refine va_get (D := D) (ci := 0) (C := RMo) (T := TMo) (N := 33) hx hb hts hin0 hown hK hP 0 rfl rfl 1 (by decide) k13 (fun _ h9 => h9) rfl dMo_send_106 ?_
      refine lv_iload hx hb dMo_send_109 (lv_at hl 0 rfl) ?_
      obtain ⟨hi16, hwp⟩ := hwp
      refine va_iald hx hb hK hP 2 0 rfl rfl hi16 dMo_send_111 ?_
      refine lv_iload hx hb dMo_send_112 (lv_at hl 7 rfl) ?_
      obtain ⟨hi17, hwp⟩ := hwp
      refine va_iast hx hb hK hP hD hS 6 0 rfl rfl hi17 dMo_send_114 (fun H locs hP hD hS => ?_)
      obtain ⟨σ18, eσ18⟩ : ∃ z, z = up2 σ12 5 (σ12 1 v13.toNatClampNeg).toNatClampNeg y6 := ⟨_, rfl⟩
      have hwp := hwp σ18 eσ18
      have hP : va_P D clA (mw a tI tZ σ18) H := by rw [eσ18]; exact hP
      have hD : va_D A (mw a tI tZ σ18) := by rw [eσ18]; exact hD
      exact cut115 σ18 y1 y2 y3 y4 y5 y6 v13 _ _ _ hwp hP hD hS (lv_sub hl [1, 2, 3, 4, 5, 6, 7, 0] rfl)
    · have hwp := hwp.2 h15
      refine lv_aload_n hx hb dMo_send_89 rfl (lv_at hl 1 rfl) ?_
      refine va_get (D := D) (ci := 0) (C := RMo) (T := TMo) (N := 33) hx hb hts hin0 hown hK hP 0 rfl rfl 0 (by decide) k7 (fun _ h9 => h9) rfl dMo_send_90 ?_
      refine lv_iload hx hb dMo_send_93 (lv_at hl 0 rfl) ?_
      refine lv_iload hx hb dMo_send_95 (lv_at hl 7 rfl) ?_
      obtain ⟨hi19, hwp⟩ := hwp
      refine va_iast hx hb hK hP hD hS 1 0 rfl rfl hi19 dMo_send_97 (fun H locs hP hD hS => ?_)
      obtain ⟨σ20, eσ20⟩ : ∃ z, z = up2 σ12 0 v13.toNatClampNeg y6 := ⟨_, rfl⟩
      have hwp := hwp σ20 eσ20
      have hP : va_P D clA (mw a tI tZ σ20) H := by rw [eσ20]; exact hP
      have hD : va_D A (mw a tI tZ σ20) := by rw [eσ20]; exact hD
      refine lv_goto hx hb dMo_send_98 rfl ?_
      exact cut115 σ20 y1 y2 y3 y4 y5 y6 v13 _ _ _ hwp hP hD hS (lv_sub hl [1, 2, 3, 4, 5, 6, 7, 0] rfl)
  have hl := lv_entry ([.ref (a 0), .int x1, .int x2, .int x3, .int x4, .int x5]) (n := 8) (Nat.le_of_ble_eq_true rfl)
  rw [lg_entry_eq]
  generalize (lg_sl ([.ref (a 0), .int x1, .int x2, .int x3, .int x4, .int x5]) ++ List.replicate (8 - (lg_sl ([.ref (a 0), .int x1, .int x2, .int x3, .int x4, .int x5])).length) Slot.unset).toArray = ls at hl ⊢
  have hl : lv_has ls 8 [(0, .ref (a 0)), (1, .int x1), (2, .int x2), (3, .int x3), (4, .int x4), (5, .int x5)] := hl
  refine lv_aload_n hx hb dMo_send_0 rfl (lv_at hl 0 rfl) ?_
  refine va_get (D := D) (ci := 0) (C := RMo) (T := TMo) (N := 33) hx hb hts hin0 hown hK hP 0 rfl rfl 7 (by decide) k28 (fun _ h9 => h9) rfl dMo_send_1 ?_
  refine lv_topi (fun v21 ev21 => ?_)
  have hwp := hwp v21 ev21
  refine lv_istore hx hb dMo_send_4 hl (by decide) rfl (fun ls hl => ?_)
  have hl : lv_has ls 8 [(6, .int v21), (0, .ref (a 0)), (1, .int x1), (2, .int x2), (3, .int x3), (4, .int x4), (5, .int x5)] := hl
  refine lv_iload hx hb dMo_send_6 (lv_at hl 0 rfl) ?_
  refine lv_if_lt hx hb dMo_send_8 rfl (fun h22 => ?_) (fun h22 => ?_)
  · have hwp := hwp.1 h22
    refine lv_aload_n hx hb dMo_send_25 rfl (lv_at hl 1 rfl) ?_
    refine va_get (D := D) (ci := 0) (C := RMo) (T := TMo) (N := 33) hx hb hts hin0 hown hK hP 0 rfl rfl 6 (by decide) k93 (fun _ h9 => h9) rfl dMo_send_26 ?_
    refine lv_topi (fun v23 ev23 => ?_)
    have hwp := hwp v23 ev23
    refine lv_istore hx hb dMo_send_29 hl (by decide) rfl (fun ls hl => ?_)
    have hl : lv_has ls 8 [(6, .int v23), (0, .ref (a 0)), (1, .int x1), (2, .int x2), (3, .int x3), (4, .int x4), (5, .int x5)] := hl
    refine lv_aload_n hx hb dMo_send_31 rfl (lv_at hl 1 rfl) ?_
    refine lv_dup hx hb dMo_send_32 rfl ?_
    refine va_get (D := D) (ci := 0) (C := RMo) (T := TMo) (N := 33) hx hb hts hin0 hown hK hP 0 rfl rfl 6 (by decide) k93 (fun _ h9 => h9) rfl dMo_send_33 ?_
    refine lv_iconst (v := 1) hx hb dMo_send_36 (by decide) ?_
    refine lv_iadd hx hb dMo_send_37 ?_
    refine va_put (ty := .int) (D := D) (ci := 0) (C := RMo) (T := TMo) (N := 33) hx hb hts hin0 tyMo tyMo_ok nmMo hown hK hP hD hS 0 rfl rfl 6 (by decide) k93 (fun _ h9 => h9) rfl (by decide +kernel) rfl rfl (Nat.le_of_ble_eq_true rfl) dMo_send_38 (fun H locs hP hD hS => ?_)
    obtain ⟨σ24, eσ24⟩ : ∃ z, z = up2 σ 6 0 ((σ 6 0) + 1) := ⟨_, rfl⟩
    have hwp := hwp σ24 eσ24
    have hP : va_P D clA (mw a tI tZ σ24) H := by rw [eσ24]; exact hP
    have hD : va_D A (mw a tI tZ σ24) := by rw [eσ24]; exact hD
    exact cut41 σ24 x1 x2 x3 x4 x5 v23 _ _ _ hwp hP hD hS (lv_sub hl [1, 2, 3, 4, 5, 6, 0] rfl)
  · have hwp := hwp.2 h22
    refine lv_aload_n hx hb dMo_send_11 rfl (lv_at hl 1 rfl) ?_
    refine lv_aload_n hx hb dMo_send_12 rfl (lv_at hl 1 rfl) ?_
    refine va_get (D := D) (ci := 0) (C := RMo) (T := TMo) (N := 33) hx hb hts hin0 hown hK hP 0 rfl rfl 5 (by decide) k25 (fun _ h9 => h9) rfl dMo_send_13 ?_
    refine lv_iload hx hb dMo_send_16 (lv_at hl 0 rfl) ?_
    obtain ⟨hi25, hwp⟩ := hwp
    refine va_iald hx hb hK hP 6 0 rfl rfl hi25 dMo_send_18 ?_
    refine va_put (ty := .int) (D := D) (ci := 0) (C := RMo) (T := TMo) (N := 33) hx hb hts hin0 tyMo tyMo_ok nmMo hown hK hP hD hS 0 rfl rfl 7 (by decide) k28 (fun _ h9 => h9) rfl (by decide +kernel) rfl rfl (Nat.le_of_ble_eq_true rfl) dMo_send_19 (fun H locs hP hD hS => ?_)
    obtain ⟨σ26, eσ26⟩ : ∃ z, z = up2 σ 7 0 (σ 5 v21.toNatClampNeg) := ⟨_, rfl⟩
    have hwp := hwp σ26 eσ26
    have hP : va_P D clA (mw a tI tZ σ26) H := by rw [eσ26]; exact hP
    have hD : va_D A (mw a tI tZ σ26) := by rw [eσ26]; exact hD
    refine lv_goto hx hb dMo_send_22 rfl ?_
    exact cut41 σ26 x1 x2 x3 x4 x5 v21 _ _ _ hwp hP hD hS (lv_sub hl [1, 2, 3, 4, 5, 6, 0] rfl)
-- private void comeIn(int, int)
def wM_comeIn (R : MS → Prop) (σ : MS) (x1 x2 : Int32) : Prop :=
  (vp_in ((4 * x1) + x2) 12 ∧ (∀ σ2 : MS, σ2 = up2 σ 8 ((4 * x1) + x2).toNatClampNeg 2 → (∀ σ3 : MS, σ3 = up2 σ2 9 0 ((σ2 9 0) + 1) → R σ3)))
abbrev wsMo_comeIn : List Cond := .code yMo_comeIn cMo_comeIn 3 none :: wg
abbrev rmM_comeIn : Room := { frames := 0, cells := 0, slots := 0, locals := 0 }
set_option maxHeartbeats 4000000 in
set_option maxRecDepth 100000 in
theorem kM_comeIn (l : Launch) (D : va_G) (a : Nat → Nat) (A : Nat → Prop) (tI tZ : ClassId) (σ : MS) (x1 x2 : Int32) (R : MS → Prop) (hwp : wM_comeIn R σ x1 x2) : Met l yMo_comeIn wsMo_comeIn rmM_comeIn (va_Pc [.ref (a 0), .int x1, .int x2] (uI D clA (mT tI tZ) A false (mw a tI tZ) σ)) (va_Qv R (uI D clA (mT tI tZ) A false (mw a tI tZ)) A) 0 0 A := by
  refine Met.ofW (cc := cMo_comeIn) (maxL := 3) (ret := none) (by decide) rfl ?_
  intro p e s m args below meth c s₁ B hml hv
  obtain ⟨rfl, hP, hK, hD, hA⟩ := hv
  have hx := B.exec
  have hb := B.bytes
  have hr := B.returns
  have hts := atoms_spec (ws := wsMo_comeIn) B.pre
  have hown : s.vm.findClass RMo = some m.cls := findClass_of_methodNamed B.named
  have hlocks := B.notSynchronized
  have hin0 : ∀ w ∈ u_ws RMo TMo 33, w ∈ wsMo_comeIn := fun w h => List.mem_cons_of_mem _ (inMo w h)
  have k128 := hts _ (List.mem_cons_of_mem _ wm_745)
  have k32 := hts _ (List.mem_cons_of_mem _ wm_744)
  have hS : va_S A s.heap s.heap [] := va_S.rf
  have hl := lv_entry ([.ref (a 0), .int x1, .int x2]) (n := 3) (Nat.le_of_ble_eq_true rfl)
  rw [lg_entry_eq]
  generalize (lg_sl ([.ref (a 0), .int x1, .int x2]) ++ List.replicate (3 - (lg_sl ([.ref (a 0), .int x1, .int x2])).length) Slot.unset).toArray = ls at hl ⊢
  have hl : lv_has ls 3 [(0, .ref (a 0)), (1, .int x1), (2, .int x2)] := hl
  refine lv_aload_n hx hb dMo_comeIn_0 rfl (lv_at hl 0 rfl) ?_
  refine va_get (D := D) (ci := 0) (C := RMo) (T := TMo) (N := 33) hx hb hts hin0 hown hK hP 0 rfl rfl 8 (by decide) k32 (fun _ h9 => h9) rfl dMo_comeIn_1 ?_
  refine lv_iconst (v := 4) hx hb dMo_comeIn_4 (by decide) ?_
  refine lv_iload_n hx hb dMo_comeIn_5 rfl (lv_at hl 1 rfl) ?_
  refine lv_imul hx hb dMo_comeIn_6 ?_
  refine lv_iload_n hx hb dMo_comeIn_7 rfl (lv_at hl 2 rfl) ?_
  refine lv_iadd hx hb dMo_comeIn_8 ?_
  refine lv_iconst (v := 2) hx hb dMo_comeIn_9 (by decide) ?_
  obtain ⟨hi1, hwp⟩ := hwp
  refine va_iast hx hb hK hP hD hS 7 0 rfl rfl hi1 dMo_comeIn_10 (fun H locs hP hD hS => ?_)
  obtain ⟨σ2, eσ2⟩ : ∃ z, z = up2 σ 8 ((4 * x1) + x2).toNatClampNeg 2 := ⟨_, rfl⟩
  have hwp := hwp σ2 eσ2
  have hP : va_P D clA (mw a tI tZ σ2) H := by rw [eσ2]; exact hP
  have hD : va_D A (mw a tI tZ σ2) := by rw [eσ2]; exact hD
  refine lv_aload_n hx hb dMo_comeIn_11 rfl (lv_at hl 0 rfl) ?_
  refine lv_dup hx hb dMo_comeIn_12 rfl ?_
  refine va_get (D := D) (ci := 0) (C := RMo) (T := TMo) (N := 33) hx hb hts hin0 hown hK hP 0 rfl rfl 9 (by decide) k128 (fun _ h9 => h9) rfl dMo_comeIn_13 ?_
  refine lv_iconst (v := 1) hx hb dMo_comeIn_16 (by decide) ?_
  refine lv_iadd hx hb dMo_comeIn_17 ?_
  refine va_put (ty := .int) (D := D) (ci := 0) (C := RMo) (T := TMo) (N := 33) hx hb hts hin0 tyMo tyMo_ok nmMo hown hK hP hD hS 0 rfl rfl 9 (by decide) k128 (fun _ h9 => h9) rfl (by decide +kernel) rfl rfl (Nat.le_of_ble_eq_true rfl) dMo_comeIn_18 (fun H locs hP hD hS => ?_)
  obtain ⟨σ3, eσ3⟩ : ∃ z, z = up2 σ2 9 0 ((σ2 9 0) + 1) := ⟨_, rfl⟩
  have hwp := hwp σ3 eσ3
  have hP : va_P D clA (mw a tI tZ σ3) H := by rw [eσ3]; exact hP
  have hD : va_D A (mw a tI tZ σ3) := by rw [eσ3]; exact hD
  exact W.vret hx hb hr (fun t ht hW => ⟨⟨σ3, rfl, hwp, uEnd ht hW hP hK hD hS hA⟩, hS.F ht⟩) hS.2.2 dMo_comeIn_21
end
