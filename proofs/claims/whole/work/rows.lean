section
-- ===== PART A: goes FIRST, ahead of the names: the tables' words, and 'selects' of the private methods out of them =====
/-- a private method of a class that the tables say can be made, by its rows of tables_1 -/
def lw_okq (q : MethodName × Nat) : Prop := (q.1.cls ≠ "java/lang/invoke/MethodHandle" ∧ q.1.cls ≠ "java/lang/invoke/VarHandle") ∧ Cond.instantiable q.1.cls q.2 ∈ tables_1 ∧ Cond.privateMethod q.1 ∈ tables_1 ∧ Cond.instanceMethod q.1 ∈ tables_1
theorem lw_p0 : lw_okq (⟨"NodeServices", "entriesOfAllLocks", "()I"⟩, 5) := ⟨⟨by decide +kernel, by decide +kernel⟩, List.mem_of_getElem? (i := 22) (by decide +kernel), List.mem_of_getElem? (i := 253) (by decide +kernel), List.mem_of_getElem? (i := 254) (by decide +kernel)⟩
theorem lw_p1 : lw_okq (⟨"java/lang/Throwable", "fillInStackTrace", "(I)Ljava/lang/Throwable;"⟩, 6) := ⟨⟨by decide +kernel, by decide +kernel⟩, List.mem_of_getElem? (i := 310) (by decide +kernel), List.mem_of_getElem? (i := 308) (by decide +kernel), List.mem_of_getElem? (i := 309) (by decide +kernel)⟩
theorem lw_p2 : lw_okq (⟨"NodeServices$TreeLock", "goOn", "(I)V"⟩, 7) := ⟨⟨by decide +kernel, by decide +kernel⟩, List.mem_of_getElem? (i := 150) (by decide +kernel), List.mem_of_getElem? (i := 442) (by decide +kernel), List.mem_of_getElem? (i := 443) (by decide +kernel)⟩
theorem lw_p3 : lw_okq (⟨"NodeServices$TreeLock", "serve", "(II)V"⟩, 7) := ⟨⟨by decide +kernel, by decide +kernel⟩, List.mem_of_getElem? (i := 150) (by decide +kernel), List.mem_of_getElem? (i := 454) (by decide +kernel), List.mem_of_getElem? (i := 455) (by decide +kernel)⟩
theorem lw_p4 : lw_okq (⟨"NodeServices$TokenLock", "isOwed", "(II)Z"⟩, 8) := ⟨⟨by decide +kernel, by decide +kernel⟩, List.mem_of_getElem? (i := 112) (by decide +kernel), List.mem_of_getElem? (i := 489) (by decide +kernel), List.mem_of_getElem? (i := 490) (by decide +kernel)⟩
theorem lw_p5 : lw_okq (⟨"NodeServices$TokenLock", "passToken", "(II)V"⟩, 8) := ⟨⟨by decide +kernel, by decide +kernel⟩, List.mem_of_getElem? (i := 112) (by decide +kernel), List.mem_of_getElem? (i := 496) (by decide +kernel), List.mem_of_getElem? (i := 497) (by decide +kernel)⟩
theorem lw_p6 : lw_okq (⟨"NodeServices$Election", "sendOn", "(III)V"⟩, 5) := ⟨⟨by decide +kernel, by decide +kernel⟩, List.mem_of_getElem? (i := 182) (by decide +kernel), List.mem_of_getElem? (i := 518) (by decide +kernel), List.mem_of_getElem? (i := 519) (by decide +kernel)⟩
theorem lw_p7 : lw_okq (⟨"NodeServices$Work", "isEngaged", "(I)Z"⟩, 7) := ⟨⟨by decide +kernel, by decide +kernel⟩, List.mem_of_getElem? (i := 204) (by decide +kernel), List.mem_of_getElem? (i := 536) (by decide +kernel), List.mem_of_getElem? (i := 537) (by decide +kernel)⟩
theorem lw_p8 : lw_okq (⟨"NodeServices$Work", "settle", "(I)V"⟩, 7) := ⟨⟨by decide +kernel, by decide +kernel⟩, List.mem_of_getElem? (i := 204) (by decide +kernel), List.mem_of_getElem? (i := 580) (by decide +kernel), List.mem_of_getElem? (i := 581) (by decide +kernel)⟩
theorem lw_p9 : lw_okq (⟨"NodeServices$Election", "takeElect", "(II)V"⟩, 5) := ⟨⟨by decide +kernel, by decide +kernel⟩, List.mem_of_getElem? (i := 182) (by decide +kernel), List.mem_of_getElem? (i := 619) (by decide +kernel), List.mem_of_getElem? (i := 620) (by decide +kernel)⟩
theorem lw_p10 : lw_okq (⟨"NodeServices$Election", "takeLeader", "(II)V"⟩, 5) := ⟨⟨by decide +kernel, by decide +kernel⟩, List.mem_of_getElem? (i := 182) (by decide +kernel), List.mem_of_getElem? (i := 624) (by decide +kernel), List.mem_of_getElem? (i := 625) (by decide +kernel)⟩
theorem lw_p11 : lw_okq (⟨"NodeServices$StampLock", "takeRequest", "(III)V"⟩, 8) := ⟨⟨by decide +kernel, by decide +kernel⟩, List.mem_of_getElem? (i := 65) (by decide +kernel), List.mem_of_getElem? (i := 631) (by decide +kernel), List.mem_of_getElem? (i := 632) (by decide +kernel)⟩
theorem lw_p12 : lw_okq (⟨"NodeServices$StampLock", "isBefore", "(III)Z"⟩, 8) := ⟨⟨by decide +kernel, by decide +kernel⟩, List.mem_of_getElem? (i := 65) (by decide +kernel), List.mem_of_getElem? (i := 638) (by decide +kernel), List.mem_of_getElem? (i := 639) (by decide +kernel)⟩
theorem lw_p13 : lw_okq (⟨"NodeServices$StampLock", "takeReply", "(I)V"⟩, 8) := ⟨⟨by decide +kernel, by decide +kernel⟩, List.mem_of_getElem? (i := 65) (by decide +kernel), List.mem_of_getElem? (i := 642) (by decide +kernel), List.mem_of_getElem? (i := 643) (by decide +kernel)⟩
theorem lw_p14 : lw_okq (⟨"NodeServices$TokenLock", "takeRequest", "(III)V"⟩, 8) := ⟨⟨by decide +kernel, by decide +kernel⟩, List.mem_of_getElem? (i := 112) (by decide +kernel), List.mem_of_getElem? (i := 652) (by decide +kernel), List.mem_of_getElem? (i := 653) (by decide +kernel)⟩
theorem lw_p15 : lw_okq (⟨"NodeServices$Work", "takeWork", "(II)V"⟩, 7) := ⟨⟨by decide +kernel, by decide +kernel⟩, List.mem_of_getElem? (i := 204) (by decide +kernel), List.mem_of_getElem? (i := 663) (by decide +kernel), List.mem_of_getElem? (i := 664) (by decide +kernel)⟩
def lw_privs_1 : List (MethodName × Nat) := [(⟨"NodeServices", "entriesOfAllLocks", "()I"⟩, 5), (⟨"java/lang/Throwable", "fillInStackTrace", "(I)Ljava/lang/Throwable;"⟩, 6), (⟨"NodeServices$TreeLock", "goOn", "(I)V"⟩, 7), (⟨"NodeServices$TreeLock", "serve", "(II)V"⟩, 7), (⟨"NodeServices$TokenLock", "isOwed", "(II)Z"⟩, 8), (⟨"NodeServices$TokenLock", "passToken", "(II)V"⟩, 8), (⟨"NodeServices$Election", "sendOn", "(III)V"⟩, 5), (⟨"NodeServices$Work", "isEngaged", "(I)Z"⟩, 7), (⟨"NodeServices$Work", "settle", "(I)V"⟩, 7), (⟨"NodeServices$Election", "takeElect", "(II)V"⟩, 5), (⟨"NodeServices$Election", "takeLeader", "(II)V"⟩, 5), (⟨"NodeServices$StampLock", "takeRequest", "(III)V"⟩, 8), (⟨"NodeServices$StampLock", "isBefore", "(III)Z"⟩, 8), (⟨"NodeServices$StampLock", "takeReply", "(I)V"⟩, 8), (⟨"NodeServices$TokenLock", "takeRequest", "(III)V"⟩, 8), (⟨"NodeServices$Work", "takeWork", "(II)V"⟩, 7)]
theorem lw_r1 : ∀ q ∈ lw_privs_1, lw_okq q := List.forall_mem_cons.mpr ⟨lw_p0, List.forall_mem_cons.mpr ⟨lw_p1, List.forall_mem_cons.mpr ⟨lw_p2, List.forall_mem_cons.mpr ⟨lw_p3, List.forall_mem_cons.mpr ⟨lw_p4, List.forall_mem_cons.mpr ⟨lw_p5, List.forall_mem_cons.mpr ⟨lw_p6, List.forall_mem_cons.mpr ⟨lw_p7, List.forall_mem_cons.mpr ⟨lw_p8, List.forall_mem_cons.mpr ⟨lw_p9, List.forall_mem_cons.mpr ⟨lw_p10, List.forall_mem_cons.mpr ⟨lw_p11, List.forall_mem_cons.mpr ⟨lw_p12, List.forall_mem_cons.mpr ⟨lw_p13, List.forall_mem_cons.mpr ⟨lw_p14, List.forall_mem_cons.mpr ⟨lw_p15, fun _ h => absurd h List.not_mem_nil⟩⟩⟩⟩⟩⟩⟩⟩⟩⟩⟩⟩⟩⟩⟩⟩
theorem lw_p16 : lw_okq (⟨"NodeServicesModel", "stampArrives", "(IIII)V"⟩, 33) := ⟨⟨by decide +kernel, by decide +kernel⟩, List.mem_of_getElem? (i := 731) (by decide +kernel), List.mem_of_getElem? (i := 851) (by decide +kernel), List.mem_of_getElem? (i := 852) (by decide +kernel)⟩
theorem lw_p17 : lw_okq (⟨"NodeServicesModel", "comeIn", "(II)V"⟩, 33) := ⟨⟨by decide +kernel, by decide +kernel⟩, List.mem_of_getElem? (i := 731) (by decide +kernel), List.mem_of_getElem? (i := 855) (by decide +kernel), List.mem_of_getElem? (i := 856) (by decide +kernel)⟩
theorem lw_p18 : lw_okq (⟨"NodeServicesModel", "send", "(IIIII)V"⟩, 33) := ⟨⟨by decide +kernel, by decide +kernel⟩, List.mem_of_getElem? (i := 731) (by decide +kernel), List.mem_of_getElem? (i := 859) (by decide +kernel), List.mem_of_getElem? (i := 860) (by decide +kernel)⟩
theorem lw_p19 : lw_okq (⟨"NodeServicesModel", "tokenArrives", "(IIII)V"⟩, 33) := ⟨⟨by decide +kernel, by decide +kernel⟩, List.mem_of_getElem? (i := 731) (by decide +kernel), List.mem_of_getElem? (i := 863) (by decide +kernel), List.mem_of_getElem? (i := 864) (by decide +kernel)⟩
theorem lw_p20 : lw_okq (⟨"NodeServicesModel", "isDue", "(II)Z"⟩, 33) := ⟨⟨by decide +kernel, by decide +kernel⟩, List.mem_of_getElem? (i := 731) (by decide +kernel), List.mem_of_getElem? (i := 867) (by decide +kernel), List.mem_of_getElem? (i := 868) (by decide +kernel)⟩
theorem lw_p21 : lw_okq (⟨"NodeServicesModel", "treeArrives", "(III)V"⟩, 33) := ⟨⟨by decide +kernel, by decide +kernel⟩, List.mem_of_getElem? (i := 731) (by decide +kernel), List.mem_of_getElem? (i := 871) (by decide +kernel), List.mem_of_getElem? (i := 872) (by decide +kernel)⟩
theorem lw_p22 : lw_okq (⟨"NodeServicesModel", "enqueue", "(II)V"⟩, 33) := ⟨⟨by decide +kernel, by decide +kernel⟩, List.mem_of_getElem? (i := 731) (by decide +kernel), List.mem_of_getElem? (i := 875) (by decide +kernel), List.mem_of_getElem? (i := 876) (by decide +kernel)⟩
theorem lw_p23 : lw_okq (⟨"NodeServicesModel", "goOn", "(I)V"⟩, 33) := ⟨⟨by decide +kernel, by decide +kernel⟩, List.mem_of_getElem? (i := 731) (by decide +kernel), List.mem_of_getElem? (i := 879) (by decide +kernel), List.mem_of_getElem? (i := 880) (by decide +kernel)⟩
theorem lw_p24 : lw_okq (⟨"NodeServicesModel", "dequeue", "(I)I"⟩, 33) := ⟨⟨by decide +kernel, by decide +kernel⟩, List.mem_of_getElem? (i := 731) (by decide +kernel), List.mem_of_getElem? (i := 883) (by decide +kernel), List.mem_of_getElem? (i := 884) (by decide +kernel)⟩
theorem lw_p25 : lw_okq (⟨"NodeServicesModel", "ringArrives", "(III)V"⟩, 33) := ⟨⟨by decide +kernel, by decide +kernel⟩, List.mem_of_getElem? (i := 731) (by decide +kernel), List.mem_of_getElem? (i := 887) (by decide +kernel), List.mem_of_getElem? (i := 888) (by decide +kernel)⟩
theorem lw_p26 : lw_okq (⟨"NodeServicesModel", "workArrives", "(III)V"⟩, 33) := ⟨⟨by decide +kernel, by decide +kernel⟩, List.mem_of_getElem? (i := 731) (by decide +kernel), List.mem_of_getElem? (i := 891) (by decide +kernel), List.mem_of_getElem? (i := 892) (by decide +kernel)⟩
theorem lw_p27 : lw_okq (⟨"NodeServicesModel", "settle", "(I)V"⟩, 33) := ⟨⟨by decide +kernel, by decide +kernel⟩, List.mem_of_getElem? (i := 731) (by decide +kernel), List.mem_of_getElem? (i := 895) (by decide +kernel), List.mem_of_getElem? (i := 896) (by decide +kernel)⟩
theorem lw_p28 : lw_okq (⟨"NodeServicesModel", "sendAll", "(IIII)V"⟩, 33) := ⟨⟨by decide +kernel, by decide +kernel⟩, List.mem_of_getElem? (i := 731) (by decide +kernel), List.mem_of_getElem? (i := 914) (by decide +kernel), List.mem_of_getElem? (i := 915) (by decide +kernel)⟩
theorem lw_p29 : lw_okq (⟨"NodeServicesModel", "passToken", "(I)V"⟩, 33) := ⟨⟨by decide +kernel, by decide +kernel⟩, List.mem_of_getElem? (i := 731) (by decide +kernel), List.mem_of_getElem? (i := 922) (by decide +kernel), List.mem_of_getElem? (i := 923) (by decide +kernel)⟩
def lw_privs_2 : List (MethodName × Nat) := [(⟨"NodeServicesModel", "stampArrives", "(IIII)V"⟩, 33), (⟨"NodeServicesModel", "comeIn", "(II)V"⟩, 33), (⟨"NodeServicesModel", "send", "(IIIII)V"⟩, 33), (⟨"NodeServicesModel", "tokenArrives", "(IIII)V"⟩, 33), (⟨"NodeServicesModel", "isDue", "(II)Z"⟩, 33), (⟨"NodeServicesModel", "treeArrives", "(III)V"⟩, 33), (⟨"NodeServicesModel", "enqueue", "(II)V"⟩, 33), (⟨"NodeServicesModel", "goOn", "(I)V"⟩, 33), (⟨"NodeServicesModel", "dequeue", "(I)I"⟩, 33), (⟨"NodeServicesModel", "ringArrives", "(III)V"⟩, 33), (⟨"NodeServicesModel", "workArrives", "(III)V"⟩, 33), (⟨"NodeServicesModel", "settle", "(I)V"⟩, 33), (⟨"NodeServicesModel", "sendAll", "(IIII)V"⟩, 33), (⟨"NodeServicesModel", "passToken", "(I)V"⟩, 33)]
theorem lw_r2 : ∀ q ∈ lw_privs_2, lw_okq q := List.forall_mem_cons.mpr ⟨lw_p16, List.forall_mem_cons.mpr ⟨lw_p17, List.forall_mem_cons.mpr ⟨lw_p18, List.forall_mem_cons.mpr ⟨lw_p19, List.forall_mem_cons.mpr ⟨lw_p20, List.forall_mem_cons.mpr ⟨lw_p21, List.forall_mem_cons.mpr ⟨lw_p22, List.forall_mem_cons.mpr ⟨lw_p23, List.forall_mem_cons.mpr ⟨lw_p24, List.forall_mem_cons.mpr ⟨lw_p25, List.forall_mem_cons.mpr ⟨lw_p26, List.forall_mem_cons.mpr ⟨lw_p27, List.forall_mem_cons.mpr ⟨lw_p28, List.forall_mem_cons.mpr ⟨lw_p29, fun _ h => absurd h List.not_mem_nil⟩⟩⟩⟩⟩⟩⟩⟩⟩⟩⟩⟩⟩⟩
def lw_privs : List (MethodName × Nat) := lw_privs_1 ++ (lw_privs_2)
def lw_tbl : List Cond := k2_sels lw_privs ++ tables_1
theorem lw_privs_ok : ∀ q ∈ lw_privs, lw_okq q := by
  show ∀ q ∈ lw_privs_1 ++ (lw_privs_2), lw_okq q
  exact List.forall_mem_append.mpr ⟨lw_r1, lw_r2⟩
-- the words of the tables that a callee may be given
def wg : List Cond := lw_tbl.filter goodWord
theorem mem_wg {w : Cond} (h : w ∈ k2_sels lw_privs ++ tables_1) (g : goodWord w = true) : w ∈ wg := List.mem_filter.mpr ⟨h, g⟩
theorem mem_ws {ws : List Cond} (ps : List Nat) (h : ws = ps.filterMap (fun i => tables_1[i]?)) (g : ws.all goodWord = true) : ∀ w ∈ ws, w ∈ wg := fun w hw => by
  have g1 := List.all_eq_true.mp g w hw
  rw [h] at hw
  obtain ⟨i, -, hi⟩ := List.mem_filterMap.mp hw
  exact mem_wg (List.mem_append_right _ (List.mem_of_getElem? hi)) g1
theorem wg_good {w : Cond} (h : w ∈ wg) : (w.onTables && w.keeps) = true ∨ ∃ ty, w = .arrayClass ty := good_of_word (List.mem_filter.mp h).2
theorem gdw {c0 w : Cond} (h : w ∈ wg) : w ∈ c0 :: wg ∧ ((w.onTables && w.keeps) = true ∨ ∃ ty, w = .arrayClass ty) := ⟨List.mem_cons_of_mem _ h, wg_good h⟩
theorem gdc {c0 w : Cond} (h : w ∈ wg) : GoodIn (c0 :: wg) (w :: wg) := fun v hv => (List.mem_cons.mp hv).elim (fun e => by rw [e]; exact gdw h) (fun q => gdw q)
theorem gdV {c0 w : Cond} {own C : String} {idx : Nat} {y : MethodName} (h1 : Cond.methodLink own idx y ∈ wg) (h2 : Cond.instanceMethod y ∈ wg) (h3 : Cond.selects C y y ∈ wg) (h4 : Cond.initialized C ∈ wg) (h5 : w ∈ wg) : GoodIn (c0 :: wg) (wsV own idx C y (w :: wg)) := fun v hv => by
  rcases List.mem_append.mp hv with h | h
  · simp only [List.mem_cons, List.not_mem_nil, or_false] at h
    rcases h with rfl | rfl | rfl | rfl
    · exact gdw h1
    · exact gdw h2
    · exact gdw h3
    · exact gdw h4
  · exact gdc h5 v h
theorem gdS {c0 w : Cond} {own : String} {idx : Nat} {y : MethodName} (h1 : Cond.methodLink own idx y ∈ wg) (h2 : Cond.static y ∈ wg) (h3 : Cond.initialized own ∈ wg) (h5 : w ∈ wg) : GoodIn (c0 :: wg) (wsS own idx y (w :: wg)) := fun v hv => by
  rcases List.mem_append.mp hv with h | h
  · simp only [List.mem_cons, List.not_mem_nil, or_false] at h
    rcases h with rfl | rfl | rfl
    · exact gdw h1
    · exact gdw h2
    · exact gdw h3
  · exact gdc h5 v h
end
section
-- a state of a class: field number, place, value
abbrev MS : Type := Nat → Nat → Int32
def up2 (f : MS) (k i : Nat) (v : Int32) : MS := fun j => cond (Nat.beq j k) (upd (f k) i v) (f j)
theorem fx_inc1 (x : Int32) : x + Int32.ofInt 1 = x + 1 := by
  have h : Int32.ofInt 1 = 1 := by decide
  rw [h]
theorem fx_inc3 (x : Int32) : x + Int32.ofInt 3 = x + 3 := by
  have h : Int32.ofInt 3 = 3 := by decide
  rw [h]
theorem fx_out4 {x : Int32} (h0 : ¬ x = 0) (h1 : ¬ x = 1) (h2 : ¬ x = 2) (h3 : ¬ x = 3) : x.toInt < 0 ∨ 3 < x.toInt := by
  by_cases ha : x.toInt < 0
  · exact Or.inl ha
  · by_cases hb : 3 < x.toInt
    · exact Or.inr hb
    · exfalso
      have hq : x.toInt = 0 ∨ x.toInt = 1 ∨ x.toInt = 2 ∨ x.toInt = 3 := by omega
      rcases hq with q | q | q | q
      · exact h0 (Int32.toInt_inj.mp (q.trans (by decide)))
      · exact h1 (Int32.toInt_inj.mp (q.trans (by decide)))
      · exact h2 (Int32.toInt_inj.mp (q.trans (by decide)))
      · exact h3 (Int32.toInt_inj.mp (q.trans (by decide)))
/-- the invariant of a method's world: wd says which cells stand for a state u; nw: the method may make cells -/
def uI {S : Type} (D : va_G) (cl : List vw_C) (tys : List (ClassId × FieldType)) (A : Nat → Prop) (nw : Bool) (wd : S → va_W) (u : S) (U : State) : Prop :=
  va_P D cl (wd u) U.heap ∧ va_K D cl tys U ∧ va_D A (wd u) ∧ (nw = true → ∀ q, U.heap.size ≤ q → A q)
theorem uI_blind {S : Type} {D : va_G} {cl : List vw_C} {tys : List (ClassId × FieldType)} {A : Nat → Prop} {nw : Bool} {wd : S → va_W} {u : S} {av : List Value} : FrameBlind (va_Pc av (uI D cl tys A nw wd u)) := fun a U g mk q => by
  obtain ⟨q0, qP, qK, qD, qN⟩ := q
  exact ⟨q0, qP, va_K.moved (u := U) (U := U.calling g mk a) (Vm.Alike.refl U.vm) qK, qD, qN⟩
section UC
variable {p : Program} {l : Launch} {e : Env} {R : Room} {s : State} {m : MethodId} {args : Array Value} {below : List Frame} {meth : Method} {c : Code} {H : Heap} {locs : List Loc} {cells slots : Nat} {Q : State → Prop}
variable {y : MethodName} {bytes cc : ByteArray} {maxL nL mc ms n index pc : Nat} {ret : Option FieldType} {ws : List Cond} {rm : Room} {Ts : List Cond} {own C : String} {b : Addr} {As rest st0 : List Value} {ls : Array Slot}
variable {S : Type} {D : va_G} {cl : List vw_C} {tys : List (ClassId × FieldType)} {A : Nat → Prop} {nw : Bool} {wd : S → va_W} {u0 : S} {H0 : Heap}
theorem uPre (hP : va_P D cl (wd u0) H) (hK : va_K D cl tys s) (hD : va_D A (wd u0)) (hN : nw = true → ∀ q, H.size ≤ q → A q) {av : List Value} (U : State) (hU : U.heap = H) (hW : s.WarmedH U.vm) : va_Pc av (uI D cl tys A nw wd u0) av.toArray U :=
  ⟨rfl, by rw [hU]; exact hP, va_K.moved hW.alike hK, hD, by rw [hU]; exact hN⟩
/-- what a return gives -/
theorem uEnd {t : State} {u : S} (ht : t.heap = H) (hW : s.WarmedH t.vm) (hP : va_P D cl (wd u) H) (hK : va_K D cl tys s) (hD : va_D A (wd u)) (hS : va_S A s.heap H locs) (hA : nw = true → ∀ q, s.heap.size ≤ q → A q) : uI D cl tys A nw wd u t :=
  ⟨by rw [ht]; exact hP, va_K.moved hW.alike hK, hD, fun h q hq => hA h q (Nat.le_trans hS.1 (by rw [ht] at hq; exact hq))⟩
/-- an instance method of the same world, no answer -/
theorem uCallVv {post : S → Prop} (F : CallFix p m c cc nL s args Ts own) (hM : Met l y ws rm (va_Pc (.ref b :: As) (uI D cl tys A nw wd u0)) (va_Qv post (uI D cl tys A nw wd) A) mc ms A) (cw : CallW R s args own C index y bytes maxL ret ws rm mc ms n)
    (hrec : ∃ cellB : Cell, H[b]? = some cellB ∧ cellB.vm.isStatics = false ∧ s.vm.findClass C = some cellB.cls)
    (hP : va_P D cl (wd u0) H) (hK : va_K D cl tys s) (hD : va_D A (wd u0)) (hA : nw = true → ∀ q, s.heap.size ≤ q → A q) (hS : va_S A s.heap H locs)
    (hn : As.length = n) (hsize : ls.size = nL) (hst : st0 = As.reverse ++ .ref b :: rest) (hW : (rest.map fun v => v.category).sum ≤ 8) (hdg : decode cc pc = .ok (.invokevirtual index, 3)) (hf : cells + mc ≤ R.cells ∧ slots + ms ≤ R.slots)
    (kk : ∀ (u : S) (H1 : Heap) (locs1 : List Loc), post u → va_P D cl (wd u) H1 → va_D A (wd u) → va_S A s.heap H1 locs1 → W p l e R s m args below meth c H1 locs1 (cells + mc) (slots + ms) Q (F0 m (pc + 3) ls rest)) :
    W p l e R s m args below meth c H locs cells slots Q (F0 m pc ls st0) := by
  subst hst
  exact va_callv (va_runV F hM cw ⟨uI_blind, hrec, uPre hP hK hD (fun h q hq => hA h q (Nat.le_trans hS.1 hq))⟩ rfl hn hsize rfl (lv_room hW) hdg hf) hS (fun q _ h => h) (fun q h => h)
    (fun u t H1 locs1 ht hvm hw hB hz hk hS1 => kk u H1 locs1 hw (by rw [← ht]; exact hB.1) hB.2.2.1 hS1)
theorem uCallVi {post : Int32 → S → Prop} (F : CallFix p m c cc nL s args Ts own) (hM : Met l y ws rm (va_Pc (.ref b :: As) (uI D cl tys A nw wd u0)) (va_Qi post (uI D cl tys A nw wd) A) mc ms A) (cw : CallW R s args own C index y bytes maxL ret ws rm mc ms n)
    (hrec : ∃ cellB : Cell, H[b]? = some cellB ∧ cellB.vm.isStatics = false ∧ s.vm.findClass C = some cellB.cls)
    (hP : va_P D cl (wd u0) H) (hK : va_K D cl tys s) (hD : va_D A (wd u0)) (hA : nw = true → ∀ q, s.heap.size ≤ q → A q) (hS : va_S A s.heap H locs)
    (hn : As.length = n) (hsize : ls.size = nL) (hst : st0 = As.reverse ++ .ref b :: rest) (hW : (rest.map fun v => v.category).sum ≤ 8) (hdg : decode cc pc = .ok (.invokevirtual index, 3)) (hf : cells + mc ≤ R.cells ∧ slots + ms ≤ R.slots)
    (kk : ∀ (r : Int32) (u : S) (H1 : Heap) (locs1 : List Loc), post r u → va_P D cl (wd u) H1 → va_D A (wd u) → va_S A s.heap H1 locs1 → W p l e R s m args below meth c H1 locs1 (cells + mc) (slots + ms) Q (F0 m (pc + 3) ls (.int r :: rest))) :
    W p l e R s m args below meth c H locs cells slots Q (F0 m pc ls st0) := by
  subst hst
  exact va_calli (va_runV F hM cw ⟨uI_blind, hrec, uPre hP hK hD (fun h q hq => hA h q (Nat.le_trans hS.1 hq))⟩ rfl hn hsize rfl (lv_room hW) hdg hf) hS (fun q _ h => h) (fun q h => h)
    (fun r u t H1 locs1 ht hvm hw hB hz hk hS1 => kk r u H1 locs1 hw (by rw [← ht]; exact hB.1) hB.2.2.1 hS1)
/-- a static method of the same class, an int for an answer -/
theorem uCallSi {post : Int32 → S → Prop} (F : CallFix p m c cc nL s args Ts own) (hM : Met l y ws rm (va_Pc As (uI D cl tys A nw wd u0)) (va_Qi post (uI D cl tys A nw wd) A) mc ms A) (cw : CallB R s args own index y bytes maxL ret ws rm mc ms n ∧ (Cond.static y).before args s = true)
    (hP : va_P D cl (wd u0) H) (hK : va_K D cl tys s) (hD : va_D A (wd u0)) (hA : nw = true → ∀ q, s.heap.size ≤ q → A q) (hS : va_S A s.heap H locs)
    (hn : As.length = n) (hsize : ls.size = nL) (hst : st0 = As.reverse ++ rest) (hW : (rest.map fun v => v.category).sum ≤ 8) (hdg : decode cc pc = .ok (.invokestatic index, 3)) (hf : cells + mc ≤ R.cells ∧ slots + ms ≤ R.slots)
    (kk : ∀ (r : Int32) (u : S) (H1 : Heap) (locs1 : List Loc), post r u → va_P D cl (wd u) H1 → va_D A (wd u) → va_S A s.heap H1 locs1 → W p l e R s m args below meth c H1 locs1 (cells + mc) (slots + ms) Q (F0 m (pc + 3) ls (.int r :: rest))) :
    W p l e R s m args below meth c H locs cells slots Q (F0 m pc ls st0) := by
  subst hst
  exact va_calli (va_runS F hM cw ⟨uI_blind, uPre hP hK hD (fun h q hq => hA h q (Nat.le_trans hS.1 hq))⟩ rfl hn hsize rfl (lv_room hW) hdg hf) hS (fun q _ h => h) (fun q h => h)
    (fun r u t H1 locs1 ht hvm hw hB hz hk hS1 => kk r u H1 locs1 hw (by rw [← ht]; exact hB.1) hB.2.2.1 hS1)
end UC
end
section
def RMo : String := "NodeServicesModel"
def TMo : u_T := fun k => match k with
  | 0 => ("NodeServicesModel", "head", "[I", true)
  | 1 => ("NodeServicesModel", "tail", "[I", true)
  | 2 => ("NodeServicesModel", "many", "[I", true)
  | 3 => ("NodeServicesModel", "sort", "[I", true)
  | 4 => ("NodeServicesModel", "amount", "[I", true)
  | 5 => ("NodeServicesModel", "behind", "[I", true)
  | 6 => ("NodeServicesModel", "used", "I", false)
  | 7 => ("NodeServicesModel", "free", "I", false)
  | 8 => ("NodeServicesModel", "state", "[I", true)
  | 9 => ("NodeServicesModel", "cameIn", "I", false)
  | 10 => ("NodeServicesModel", "sent", "I", false)
  | 11 => ("NodeServicesModel", "clock", "[I", true)
  | 12 => ("NodeServicesModel", "stamp", "[I", true)
  | 13 => ("NodeServicesModel", "replies", "[I", true)
  | 14 => ("NodeServicesModel", "putOff", "[I", true)
  | 15 => ("NodeServicesModel", "known", "[I", true)
  | 16 => ("NodeServicesModel", "tokenDone", "[I", true)
  | 17 => ("NodeServicesModel", "holder", "I", false)
  | 18 => ("NodeServicesModel", "rowSize", "I", false)
  | 19 => ("NodeServicesModel", "row", "[I", true)
  | 20 => ("NodeServicesModel", "towards", "[I", true)
  | 21 => ("NodeServicesModel", "queueSize", "[I", true)
  | 22 => ("NodeServicesModel", "queue", "[I", true)
  | 23 => ("NodeServicesModel", "asked", "[Z", true)
  | 24 => ("NodeServicesModel", "id", "[I", true)
  | 25 => ("NodeServicesModel", "leader", "[I", true)
  | 26 => ("NodeServicesModel", "part", "[Z", true)
  | 27 => ("NodeServicesModel", "root", "I", false)
  | 28 => ("NodeServicesModel", "ends", "I", false)
  | 29 => ("NodeServicesModel", "busy", "[Z", true)
  | 30 => ("NodeServicesModel", "parent", "[I", true)
  | 31 => ("NodeServicesModel", "open", "[I", true)
  | _ => ("NodeServicesModel", "thrown", "I", false)
def tyMo : Nat → FieldType := fun k => match k with
  | 0 => .array .int
  | 1 => .array .int
  | 2 => .array .int
  | 3 => .array .int
  | 4 => .array .int
  | 5 => .array .int
  | 6 => .int
  | 7 => .int
  | 8 => .array .int
  | 9 => .int
  | 10 => .int
  | 11 => .array .int
  | 12 => .array .int
  | 13 => .array .int
  | 14 => .array .int
  | 15 => .array .int
  | 16 => .array .int
  | 17 => .int
  | 18 => .int
  | 19 => .array .int
  | 20 => .array .int
  | 21 => .array .int
  | 22 => .array .int
  | 23 => .array .boolean
  | 24 => .array .int
  | 25 => .array .int
  | 26 => .array .boolean
  | 27 => .int
  | 28 => .int
  | 29 => .array .boolean
  | 30 => .array .int
  | 31 => .array .int
  | _ => .int
theorem nmMo : ∀ a, a < 33 → ∀ b, b < 33 → a ≠ b → (TMo a).2.1 ≠ (TMo b).2.1 := by decide +kernel
theorem tyMo_ok : ∀ k, k < 33 → parseFieldDescriptor (TMo k).2.2.1 = some (tyMo k) := by decide +kernel
theorem inMo : ∀ w ∈ u_ws RMo TMo 33, w ∈ wg := mem_ws [769, 771, 773, 775, 777, 779, 781, 783, 785, 787, 789, 791, 793, 795, 797, 799, 801, 803, 805, 807, 809, 811, 813, 815, 817, 819, 821, 823, 825, 827, 829, 831, 833] (by decide +kernel) (by decide +kernel)
abbrev cMo_init : ByteArray := prog_14_method_1_code
def yMo_init : MethodName := ⟨RMo, "<init>", "(II)V"⟩
abbrev cMo_thrown : ByteArray := prog_14_method_2_code
def yMo_thrown : MethodName := ⟨RMo, "thrown", "()I"⟩
abbrev cMo_deliver : ByteArray := prog_14_method_7_code
def yMo_deliver : MethodName := ⟨RMo, "deliver", "(II)I"⟩
abbrev cMo_isChannel : ByteArray := prog_14_method_6_code
def yMo_isChannel : MethodName := ⟨RMo, "isChannel", "(II)Z"⟩
abbrev cMo_isNode : ByteArray := prog_14_method_3_code
def yMo_isNode : MethodName := ⟨RMo, "isNode", "(I)Z"⟩
abbrev cMo_stampArrives : ByteArray := prog_14_method_14_code
def yMo_stampArrives : MethodName := ⟨RMo, "stampArrives", "(IIII)V"⟩
abbrev cMo_comeIn : ByteArray := prog_14_method_10_code
def yMo_comeIn : MethodName := ⟨RMo, "comeIn", "(II)V"⟩
abbrev cMo_send : ByteArray := prog_14_method_4_code
def yMo_send : MethodName := ⟨RMo, "send", "(IIIII)V"⟩
abbrev cMo_tokenArrives : ByteArray := prog_14_method_16_code
def yMo_tokenArrives : MethodName := ⟨RMo, "tokenArrives", "(IIII)V"⟩
abbrev cMo_isDue : ByteArray := prog_14_method_15_code
def yMo_isDue : MethodName := ⟨RMo, "isDue", "(II)Z"⟩
abbrev cMo_treeArrives : ByteArray := prog_14_method_21_code
def yMo_treeArrives : MethodName := ⟨RMo, "treeArrives", "(III)V"⟩
abbrev cMo_enqueue : ByteArray := prog_14_method_18_code
def yMo_enqueue : MethodName := ⟨RMo, "enqueue", "(II)V"⟩
abbrev cMo_goOn : ByteArray := prog_14_method_20_code
def yMo_goOn : MethodName := ⟨RMo, "goOn", "(I)V"⟩
abbrev cMo_dequeue : ByteArray := prog_14_method_19_code
def yMo_dequeue : MethodName := ⟨RMo, "dequeue", "(I)I"⟩
abbrev cMo_ringArrives : ByteArray := prog_14_method_23_code
def yMo_ringArrives : MethodName := ⟨RMo, "ringArrives", "(III)V"⟩
abbrev cMo_workArrives : ByteArray := prog_14_method_28_code
def yMo_workArrives : MethodName := ⟨RMo, "workArrives", "(III)V"⟩
abbrev cMo_settle : ByteArray := prog_14_method_24_code
def yMo_settle : MethodName := ⟨RMo, "settle", "(I)V"⟩
abbrev cMo_first : ByteArray := prog_14_method_8_code
def yMo_first : MethodName := ⟨RMo, "first", "(II)I"⟩
abbrev cMo_waiting : ByteArray := prog_14_method_9_code
def yMo_waiting : MethodName := ⟨RMo, "waiting", "(II)I"⟩
abbrev cMo_want : ByteArray := prog_14_method_12_code
def yMo_want : MethodName := ⟨RMo, "want", "(II)V"⟩
abbrev cMo_isLock : ByteArray := prog_14_method_11_code
def yMo_isLock : MethodName := ⟨RMo, "isLock", "(II)Z"⟩
abbrev cMo_sendAll : ByteArray := prog_14_method_5_code
def yMo_sendAll : MethodName := ⟨RMo, "sendAll", "(IIII)V"⟩
abbrev cMo_leave : ByteArray := prog_14_method_13_code
def yMo_leave : MethodName := ⟨RMo, "leave", "(II)V"⟩
abbrev cMo_passToken : ByteArray := prog_14_method_17_code
def yMo_passToken : MethodName := ⟨RMo, "passToken", "(I)V"⟩
abbrev cMo_start : ByteArray := prog_14_method_22_code
def yMo_start : MethodName := ⟨RMo, "start", "(I)V"⟩
abbrev cMo_begin : ByteArray := prog_14_method_25_code
def yMo_begin : MethodName := ⟨RMo, "begin", "(I)V"⟩
abbrev cMo_spread : ByteArray := prog_14_method_26_code
def yMo_spread : MethodName := ⟨RMo, "spread", "(II)V"⟩
abbrev cMo_rest : ByteArray := prog_14_method_27_code
def yMo_rest : MethodName := ⟨RMo, "rest", "(I)V"⟩
abbrev cMo_about : ByteArray := prog_14_method_30_code
def yMo_about : MethodName := ⟨RMo, "about", "(II)I"⟩
abbrev cMo_isService : ByteArray := prog_14_method_29_code
def yMo_isService : MethodName := ⟨RMo, "isService", "(II)Z"⟩
abbrev cMo_more : ByteArray := prog_14_method_31_code
def yMo_more : MethodName := ⟨RMo, "more", "(II)I"⟩
abbrev cMo_count : ByteArray := prog_14_method_32_code
def yMo_count : MethodName := ⟨RMo, "count", "(I)I"⟩
def RNs : String := "NodeServices"
def TNs : u_T := fun k => match k with
  | 0 => ("NodeServices", "network", "LNodeServices$Network;", true)
  | 1 => ("NodeServices", "locks", "[LNodeServices$Lock;", true)
  | 2 => ("NodeServices", "election", "LNodeServices$Election;", true)
  | 3 => ("NodeServices", "work", "LNodeServices$Work;", true)
  | _ => ("NodeServices", "services", "[LNodeServices$Service;", true)
def tyNs : Nat → FieldType := fun k => match k with
  | 0 => .object "NodeServices$Network"
  | 1 => .array (.object "NodeServices$Lock")
  | 2 => .object "NodeServices$Election"
  | 3 => .object "NodeServices$Work"
  | _ => .array (.object "NodeServices$Service")
theorem nmNs : ∀ a, a < 5 → ∀ b, b < 5 → a ≠ b → (TNs a).2.1 ≠ (TNs b).2.1 := by decide +kernel
theorem tyNs_ok : ∀ k, k < 5 → parseFieldDescriptor (TNs k).2.2.1 = some (tyNs k) := by decide +kernel
theorem inNs : ∀ w ∈ u_ws RNs TNs 5, w ∈ wg := mem_ws [237, 239, 241, 243, 245] (by decide +kernel) (by decide +kernel)
abbrev cNs_init : ByteArray := prog_1_method_1_code
def yNs_init : MethodName := ⟨RNs, "<init>", "(II)V"⟩
abbrev cNs_count : ByteArray := prog_1_method_13_code
def yNs_count : MethodName := ⟨RNs, "count", "(I)I"⟩
abbrev cNs_entriesOfAllLocks : ByteArray := prog_1_method_14_code
def yNs_entriesOfAllLocks : MethodName := ⟨RNs, "entriesOfAllLocks", "()I"⟩
abbrev cNs_want : ByteArray := prog_1_method_2_code
def yNs_want : MethodName := ⟨RNs, "want", "(II)V"⟩
abbrev cNs_requireLock : ByteArray := prog_1_method_15_code
def yNs_requireLock : MethodName := ⟨RNs, "requireLock", "(I)V"⟩
abbrev cNs_requireNode : ByteArray := prog_1_method_17_code
def yNs_requireNode : MethodName := ⟨RNs, "requireNode", "(I)V"⟩
abbrev cNs_leave : ByteArray := prog_1_method_3_code
def yNs_leave : MethodName := ⟨RNs, "leave", "(II)V"⟩
abbrev cNs_start : ByteArray := prog_1_method_4_code
def yNs_start : MethodName := ⟨RNs, "start", "(I)V"⟩
abbrev cNs_begin : ByteArray := prog_1_method_5_code
def yNs_begin : MethodName := ⟨RNs, "begin", "(I)V"⟩
abbrev cNs_spread : ByteArray := prog_1_method_6_code
def yNs_spread : MethodName := ⟨RNs, "spread", "(II)V"⟩
abbrev cNs_requireChannel : ByteArray := prog_1_method_18_code
def yNs_requireChannel : MethodName := ⟨RNs, "requireChannel", "(II)V"⟩
abbrev cNs_rest : ByteArray := prog_1_method_7_code
def yNs_rest : MethodName := ⟨RNs, "rest", "(I)V"⟩
abbrev cNs_deliver : ByteArray := prog_1_method_8_code
def yNs_deliver : MethodName := ⟨RNs, "deliver", "(II)I"⟩
abbrev cNs_first : ByteArray := prog_1_method_9_code
def yNs_first : MethodName := ⟨RNs, "first", "(II)I"⟩
abbrev cNs_waiting : ByteArray := prog_1_method_10_code
def yNs_waiting : MethodName := ⟨RNs, "waiting", "(II)I"⟩
abbrev cNs_about : ByteArray := prog_1_method_11_code
def yNs_about : MethodName := ⟨RNs, "about", "(II)I"⟩
abbrev cNs_requireService : ByteArray := prog_1_method_16_code
def yNs_requireService : MethodName := ⟨RNs, "requireService", "(I)V"⟩
abbrev cNs_more : ByteArray := prog_1_method_12_code
def yNs_more : MethodName := ⟨RNs, "more", "(II)I"⟩
def RNw : String := "NodeServices$Network"
def TNw : u_T := fun k => match k with
  | 0 => ("NodeServices$Network", "channels", "[LNodeServices$Channel;", true)
  | _ => ("NodeServices$Network", "sent", "I", false)
def tyNw : Nat → FieldType := fun k => match k with
  | 0 => .array (.object "NodeServices$Channel")
  | _ => .int
theorem nmNw : ∀ a, a < 2 → ∀ b, b < 2 → a ≠ b → (TNw a).2.1 ≠ (TNw b).2.1 := by decide +kernel
theorem tyNw_ok : ∀ k, k < 2 → parseFieldDescriptor (TNw k).2.2.1 = some (tyNw k) := by decide +kernel
theorem inNw : ∀ w ∈ u_ws RNw TNw 2, w ∈ wg := mem_ws [57, 59] (by decide +kernel) (by decide +kernel)
abbrev cNw_init : ByteArray := prog_6_method_1_code
def yNw_init : MethodName := ⟨RNw, "<init>", "()V"⟩
abbrev cNw_post : ByteArray := prog_6_method_3_code
def yNw_post : MethodName := ⟨RNw, "post", "(IILNodeServices$Message;)V"⟩
abbrev cNw_channel : ByteArray := prog_6_method_2_code
def yNw_channel : MethodName := ⟨RNw, "channel", "(II)LNodeServices$Channel;"⟩
def RCh : String := "NodeServices$Channel"
def TCh : u_T := fun k => match k with
  | 0 => ("NodeServices$Channel", "head", "LNodeServices$Message;", false)
  | 1 => ("NodeServices$Channel", "tail", "LNodeServices$Message;", false)
  | _ => ("NodeServices$Channel", "size", "I", false)
def tyCh : Nat → FieldType := fun k => match k with
  | 0 => .object "NodeServices$Message"
  | 1 => .object "NodeServices$Message"
  | _ => .int
theorem nmCh : ∀ a, a < 3 → ∀ b, b < 3 → a ≠ b → (TCh a).2.1 ≠ (TCh b).2.1 := by decide +kernel
theorem tyCh_ok : ∀ k, k < 3 → parseFieldDescriptor (TCh k).2.2.1 = some (tyCh k) := by decide +kernel
theorem inCh : ∀ w ∈ u_ws RCh TCh 3, w ∈ wg := mem_ws [47, 49, 51] (by decide +kernel) (by decide +kernel)
abbrev cCh_init : ByteArray := prog_2_method_1_code
def yCh_init : MethodName := ⟨RCh, "<init>", "()V"⟩
abbrev cCh_append : ByteArray := prog_2_method_2_code
def yCh_append : MethodName := ⟨RCh, "append", "(LNodeServices$Message;)V"⟩
abbrev cCh_takeHead : ByteArray := prog_2_method_3_code
def yCh_takeHead : MethodName := ⟨RCh, "takeHead", "()LNodeServices$Message;"⟩
def RMs : String := "NodeServices$Message"
def TMs : u_T := fun k => match k with
  | 0 => ("NodeServices$Message", "service", "I", true)
  | 1 => ("NodeServices$Message", "kind", "I", true)
  | 2 => ("NodeServices$Message", "value", "I", true)
  | _ => ("NodeServices$Message", "next", "LNodeServices$Message;", false)
def tyMs : Nat → FieldType := fun k => match k with
  | 0 => .int
  | 1 => .int
  | 2 => .int
  | _ => .object "NodeServices$Message"
theorem nmMs : ∀ a, a < 4 → ∀ b, b < 4 → a ≠ b → (TMs a).2.1 ≠ (TMs b).2.1 := by decide +kernel
theorem tyMs_ok : ∀ k, k < 4 → parseFieldDescriptor (TMs k).2.2.1 = some (tyMs k) := by decide +kernel
theorem inMs : ∀ w ∈ u_ws RMs TMs 4, w ∈ wg := mem_ws [401, 403, 405, 407] (by decide +kernel) (by decide +kernel)
abbrev cMs_init : ByteArray := prog_5_method_1_code
def yMs_init : MethodName := ⟨RMs, "<init>", "(III)V"⟩
def RRo : String := "NodeServices$NodeRow"
def TRo : u_T := fun k => match k with
  | 0 => ("NodeServices$NodeRow", "nodes", "[I", true)
  | _ => ("NodeServices$NodeRow", "size", "I", false)
def tyRo : Nat → FieldType := fun k => match k with
  | 0 => .array .int
  | _ => .int
theorem nmRo : ∀ a, a < 2 → ∀ b, b < 2 → a ≠ b → (TRo a).2.1 ≠ (TRo b).2.1 := by decide +kernel
theorem tyRo_ok : ∀ k, k < 2 → parseFieldDescriptor (TRo k).2.2.1 = some (tyRo k) := by decide +kernel
theorem inRo : ∀ w ∈ u_ws RRo TRo 2, w ∈ wg := mem_ws [127, 129] (by decide +kernel) (by decide +kernel)
abbrev cRo_init : ByteArray := prog_7_method_1_code
def yRo_init : MethodName := ⟨RRo, "<init>", "()V"⟩
abbrev cRo_append : ByteArray := prog_7_method_4_code
def yRo_append : MethodName := ⟨RRo, "append", "(I)V"⟩
abbrev cRo_isEmpty : ByteArray := prog_7_method_2_code
def yRo_isEmpty : MethodName := ⟨RRo, "isEmpty", "()Z"⟩
abbrev cRo_takeHead : ByteArray := prog_7_method_5_code
def yRo_takeHead : MethodName := ⟨RRo, "takeHead", "()I"⟩
abbrev cRo_contains : ByteArray := prog_7_method_3_code
def yRo_contains : MethodName := ⟨RRo, "contains", "(I)Z"⟩
def RSt : String := "NodeServices$StampLock"
def TSt : u_T := fun k => match k with
  | 0 => ("NodeServices$StampLock", "clock", "[I", true)
  | 1 => ("NodeServices$StampLock", "stamp", "[I", true)
  | 2 => ("NodeServices$StampLock", "replies", "[I", true)
  | 3 => ("NodeServices$StampLock", "putOff", "[Z", true)
  | 4 => ("NodeServices$Lock", "state", "[I", true)
  | 5 => ("NodeServices$Lock", "entries", "I", false)
  | 6 => ("NodeServices$Service", "network", "LNodeServices$Network;", true)
  | _ => ("NodeServices$Service", "number", "I", true)
def tySt : Nat → FieldType := fun k => match k with
  | 0 => .array .int
  | 1 => .array .int
  | 2 => .array .int
  | 3 => .array .boolean
  | 4 => .array .int
  | 5 => .int
  | 6 => .object "NodeServices$Network"
  | _ => .int
theorem nmSt : ∀ a, a < 8 → ∀ b, b < 8 → a ≠ b → (TSt a).2.1 ≠ (TSt b).2.1 := by decide +kernel
theorem tySt_ok : ∀ k, k < 8 → parseFieldDescriptor (TSt k).2.2.1 = some (tySt k) := by decide +kernel
theorem inSt : ∀ w ∈ u_ws RSt TSt 8, w ∈ wg := mem_ws [92, 94, 96, 98, 100, 102, 104, 106] (by decide +kernel) (by decide +kernel)
abbrev cSt_init : ByteArray := prog_9_method_1_code
def ySt_init : MethodName := ⟨RSt, "<init>", "(LNodeServices$Network;)V"⟩
abbrev cSt_ask : ByteArray := prog_9_method_3_code
def ySt_ask : MethodName := ⟨RSt, "ask", "(I)V"⟩
abbrev cSt_release : ByteArray := prog_9_method_4_code
def ySt_release : MethodName := ⟨RSt, "release", "(I)V"⟩
abbrev cSt_receive : ByteArray := prog_9_method_5_code
def ySt_receive : MethodName := ⟨RSt, "receive", "(IILNodeServices$Message;)V"⟩
abbrev cSt_takeRequest : ByteArray := prog_9_method_6_code
def ySt_takeRequest : MethodName := ⟨RSt, "takeRequest", "(III)V"⟩
abbrev cSt_isBefore : ByteArray := prog_9_method_7_code
def ySt_isBefore : MethodName := ⟨RSt, "isBefore", "(III)Z"⟩
abbrev cSt_takeReply : ByteArray := prog_9_method_8_code
def ySt_takeReply : MethodName := ⟨RSt, "takeReply", "(I)V"⟩
abbrev cSt_detail : ByteArray := prog_9_method_2_code
def ySt_detail : MethodName := ⟨RSt, "detail", "(I)I"⟩
def RTk : String := "NodeServices$TokenLock"
def TTk : u_T := fun k => match k with
  | 0 => ("NodeServices$TokenLock", "known", "[[I", true)
  | 1 => ("NodeServices$TokenLock", "done", "[I", true)
  | 2 => ("NodeServices$TokenLock", "row", "LNodeServices$NodeRow;", true)
  | 3 => ("NodeServices$TokenLock", "keeper", "I", false)
  | 4 => ("NodeServices$Lock", "state", "[I", true)
  | 5 => ("NodeServices$Lock", "entries", "I", false)
  | 6 => ("NodeServices$Service", "network", "LNodeServices$Network;", true)
  | _ => ("NodeServices$Service", "number", "I", true)
def tyTk : Nat → FieldType := fun k => match k with
  | 0 => .array (.array .int)
  | 1 => .array .int
  | 2 => .object "NodeServices$NodeRow"
  | 3 => .int
  | 4 => .array .int
  | 5 => .int
  | 6 => .object "NodeServices$Network"
  | _ => .int
theorem nmTk : ∀ a, a < 8 → ∀ b, b < 8 → a ≠ b → (TTk a).2.1 ≠ (TTk b).2.1 := by decide +kernel
theorem tyTk_ok : ∀ k, k < 8 → parseFieldDescriptor (TTk k).2.2.1 = some (tyTk k) := by decide +kernel
theorem inTk : ∀ w ∈ u_ws RTk TTk 8, w ∈ wg := mem_ws [136, 138, 140, 142, 144, 145, 146, 147] (by decide +kernel) (by decide +kernel)
abbrev cTk_init : ByteArray := prog_10_method_1_code
def yTk_init : MethodName := ⟨RTk, "<init>", "(LNodeServices$Network;)V"⟩
abbrev cTk_ask : ByteArray := prog_10_method_3_code
def yTk_ask : MethodName := ⟨RTk, "ask", "(I)V"⟩
abbrev cTk_release : ByteArray := prog_10_method_4_code
def yTk_release : MethodName := ⟨RTk, "release", "(I)V"⟩
abbrev cTk_isOwed : ByteArray := prog_10_method_7_code
def yTk_isOwed : MethodName := ⟨RTk, "isOwed", "(II)Z"⟩
abbrev cTk_passToken : ByteArray := prog_10_method_8_code
def yTk_passToken : MethodName := ⟨RTk, "passToken", "(II)V"⟩
abbrev cTk_receive : ByteArray := prog_10_method_5_code
def yTk_receive : MethodName := ⟨RTk, "receive", "(IILNodeServices$Message;)V"⟩
abbrev cTk_takeRequest : ByteArray := prog_10_method_6_code
def yTk_takeRequest : MethodName := ⟨RTk, "takeRequest", "(III)V"⟩
abbrev cTk_detail : ByteArray := prog_10_method_2_code
def yTk_detail : MethodName := ⟨RTk, "detail", "(I)I"⟩
def RTr : String := "NodeServices$TreeLock"
def TTr : u_T := fun k => match k with
  | 0 => ("NodeServices$TreeLock", "holder", "[I", true)
  | 1 => ("NodeServices$TreeLock", "queues", "[LNodeServices$NodeRow;", true)
  | 2 => ("NodeServices$TreeLock", "asked", "[Z", true)
  | 3 => ("NodeServices$Lock", "state", "[I", true)
  | 4 => ("NodeServices$Lock", "entries", "I", false)
  | 5 => ("NodeServices$Service", "network", "LNodeServices$Network;", true)
  | _ => ("NodeServices$Service", "number", "I", true)
def tyTr : Nat → FieldType := fun k => match k with
  | 0 => .array .int
  | 1 => .array (.object "NodeServices$NodeRow")
  | 2 => .array .boolean
  | 3 => .array .int
  | 4 => .int
  | 5 => .object "NodeServices$Network"
  | _ => .int
theorem nmTr : ∀ a, a < 7 → ∀ b, b < 7 → a ≠ b → (TTr a).2.1 ≠ (TTr b).2.1 := by decide +kernel
theorem tyTr_ok : ∀ k, k < 7 → parseFieldDescriptor (TTr k).2.2.1 = some (tyTr k) := by decide +kernel
theorem inTr : ∀ w ∈ u_ws RTr TTr 7, w ∈ wg := mem_ws [170, 172, 174, 176, 177, 178, 179] (by decide +kernel) (by decide +kernel)
abbrev cTr_init : ByteArray := prog_11_method_1_code
def yTr_init : MethodName := ⟨RTr, "<init>", "(LNodeServices$Network;)V"⟩
abbrev cTr_ask : ByteArray := prog_11_method_3_code
def yTr_ask : MethodName := ⟨RTr, "ask", "(I)V"⟩
abbrev cTr_goOn : ByteArray := prog_11_method_6_code
def yTr_goOn : MethodName := ⟨RTr, "goOn", "(I)V"⟩
abbrev cTr_serve : ByteArray := prog_11_method_7_code
def yTr_serve : MethodName := ⟨RTr, "serve", "(II)V"⟩
abbrev cTr_release : ByteArray := prog_11_method_4_code
def yTr_release : MethodName := ⟨RTr, "release", "(I)V"⟩
abbrev cTr_receive : ByteArray := prog_11_method_5_code
def yTr_receive : MethodName := ⟨RTr, "receive", "(IILNodeServices$Message;)V"⟩
abbrev cTr_detail : ByteArray := prog_11_method_2_code
def yTr_detail : MethodName := ⟨RTr, "detail", "(I)I"⟩
def REl : String := "NodeServices$Election"
def TEl : u_T := fun k => match k with
  | 0 => ("NodeServices$Election", "takesPart", "[Z", true)
  | 1 => ("NodeServices$Election", "ids", "[I", true)
  | 2 => ("NodeServices$Election", "leader", "[I", true)
  | 3 => ("NodeServices$Service", "network", "LNodeServices$Network;", true)
  | _ => ("NodeServices$Service", "number", "I", true)
def tyEl : Nat → FieldType := fun k => match k with
  | 0 => .array .boolean
  | 1 => .array .int
  | 2 => .array .int
  | 3 => .object "NodeServices$Network"
  | _ => .int
theorem nmEl : ∀ a, a < 5 → ∀ b, b < 5 → a ≠ b → (TEl a).2.1 ≠ (TEl b).2.1 := by decide +kernel
theorem tyEl_ok : ∀ k, k < 5 → parseFieldDescriptor (TEl k).2.2.1 = some (tyEl k) := by decide +kernel
theorem inEl : ∀ w ∈ u_ws REl TEl 5, w ∈ wg := mem_ws [194, 196, 198, 200, 201] (by decide +kernel) (by decide +kernel)
abbrev cEl_init : ByteArray := prog_3_method_1_code
def yEl_init : MethodName := ⟨REl, "<init>", "(LNodeServices$Network;II)V"⟩
abbrev cEl_stand : ByteArray := prog_3_method_4_code
def yEl_stand : MethodName := ⟨REl, "stand", "(I)V"⟩
abbrev cEl_sendOn : ByteArray := prog_3_method_8_code
def yEl_sendOn : MethodName := ⟨REl, "sendOn", "(III)V"⟩
abbrev cEl_receive : ByteArray := prog_3_method_5_code
def yEl_receive : MethodName := ⟨REl, "receive", "(IILNodeServices$Message;)V"⟩
abbrev cEl_takeElect : ByteArray := prog_3_method_6_code
def yEl_takeElect : MethodName := ⟨REl, "takeElect", "(II)V"⟩
abbrev cEl_takeLeader : ByteArray := prog_3_method_7_code
def yEl_takeLeader : MethodName := ⟨REl, "takeLeader", "(II)V"⟩
abbrev cEl_condition : ByteArray := prog_3_method_2_code
def yEl_condition : MethodName := ⟨REl, "condition", "(I)I"⟩
abbrev cEl_detail : ByteArray := prog_3_method_3_code
def yEl_detail : MethodName := ⟨REl, "detail", "(I)I"⟩
def RWk : String := "NodeServices$Work"
def TWk : u_T := fun k => match k with
  | 0 => ("NodeServices$Work", "busy", "[Z", true)
  | 1 => ("NodeServices$Work", "root", "I", false)
  | 2 => ("NodeServices$Work", "ends", "I", false)
  | 3 => ("NodeServices$Work", "parent", "[I", true)
  | 4 => ("NodeServices$Work", "unanswered", "[I", true)
  | 5 => ("NodeServices$Service", "network", "LNodeServices$Network;", true)
  | _ => ("NodeServices$Service", "number", "I", true)
def tyWk : Nat → FieldType := fun k => match k with
  | 0 => .array .boolean
  | 1 => .int
  | 2 => .int
  | 3 => .array .int
  | 4 => .array .int
  | 5 => .object "NodeServices$Network"
  | _ => .int
theorem nmWk : ∀ a, a < 7 → ∀ b, b < 7 → a ≠ b → (TWk a).2.1 ≠ (TWk b).2.1 := by decide +kernel
theorem tyWk_ok : ∀ k, k < 7 → parseFieldDescriptor (TWk k).2.2.1 = some (tyWk k) := by decide +kernel
theorem inWk : ∀ w ∈ u_ws RWk TWk 7, w ∈ wg := mem_ws [217, 219, 221, 223, 225, 227, 228] (by decide +kernel) (by decide +kernel)
abbrev cWk_init : ByteArray := prog_12_method_1_code
def yWk_init : MethodName := ⟨RWk, "<init>", "(LNodeServices$Network;)V"⟩
abbrev cWk_isOver : ByteArray := prog_12_method_4_code
def yWk_isOver : MethodName := ⟨RWk, "isOver", "()Z"⟩
abbrev cWk_isEngaged : ByteArray := prog_12_method_11_code
def yWk_isEngaged : MethodName := ⟨RWk, "isEngaged", "(I)Z"⟩
abbrev cWk_plant : ByteArray := prog_12_method_6_code
def yWk_plant : MethodName := ⟨RWk, "plant", "(I)V"⟩
abbrev cWk_hasMostUnanswered : ByteArray := prog_12_method_5_code
def yWk_hasMostUnanswered : MethodName := ⟨RWk, "hasMostUnanswered", "(I)Z"⟩
abbrev cWk_share : ByteArray := prog_12_method_7_code
def yWk_share : MethodName := ⟨RWk, "share", "(II)V"⟩
abbrev cWk_pause : ByteArray := prog_12_method_8_code
def yWk_pause : MethodName := ⟨RWk, "pause", "(I)V"⟩
abbrev cWk_settle : ByteArray := prog_12_method_12_code
def yWk_settle : MethodName := ⟨RWk, "settle", "(I)V"⟩
abbrev cWk_receive : ByteArray := prog_12_method_9_code
def yWk_receive : MethodName := ⟨RWk, "receive", "(IILNodeServices$Message;)V"⟩
abbrev cWk_takeWork : ByteArray := prog_12_method_10_code
def yWk_takeWork : MethodName := ⟨RWk, "takeWork", "(II)V"⟩
abbrev cWk_condition : ByteArray := prog_12_method_2_code
def yWk_condition : MethodName := ⟨RWk, "condition", "(I)I"⟩
abbrev cWk_detail : ByteArray := prog_12_method_3_code
def yWk_detail : MethodName := ⟨RWk, "detail", "(I)I"⟩
def RSv : String := "NodeServices$Service"
abbrev cSv_init : ByteArray := prog_8_method_1_code
def ySv_init : MethodName := ⟨RSv, "<init>", "(LNodeServices$Network;I)V"⟩
abbrev cSv_sendToAllOthers : ByteArray := prog_8_method_6_code
def ySv_sendToAllOthers : MethodName := ⟨RSv, "sendToAllOthers", "(III)V"⟩
abbrev cSv_send : ByteArray := prog_8_method_5_code
def ySv_send : MethodName := ⟨RSv, "send", "(IIII)V"⟩
def RLk : String := "NodeServices$Lock"
abbrev cLk_init : ByteArray := prog_4_method_1_code
def yLk_init : MethodName := ⟨RLk, "<init>", "(LNodeServices$Network;I)V"⟩
abbrev cLk_enter : ByteArray := prog_4_method_5_code
def yLk_enter : MethodName := ⟨RLk, "enter", "(I)V"⟩
abbrev cLk_condition : ByteArray := prog_4_method_4_code
def yLk_condition : MethodName := ⟨RLk, "condition", "(I)I"⟩
def RLw : String := "NodeServicesLaw"
abbrev cLw_cell : ByteArray := method_2_code
def yLw_cell : MethodName := ⟨RLw, "cell", "([II)I"⟩
abbrev cLw_want : ByteArray := method_3_code
def yLw_want : MethodName := ⟨RLw, "want", "(LNodeServices;II)I"⟩
abbrev cLw_leave : ByteArray := method_4_code
def yLw_leave : MethodName := ⟨RLw, "leave", "(LNodeServices;II)I"⟩
abbrev cLw_start : ByteArray := method_5_code
def yLw_start : MethodName := ⟨RLw, "start", "(LNodeServices;I)I"⟩
abbrev cLw_begin : ByteArray := method_6_code
def yLw_begin : MethodName := ⟨RLw, "begin", "(LNodeServices;I)I"⟩
abbrev cLw_spread : ByteArray := method_7_code
def yLw_spread : MethodName := ⟨RLw, "spread", "(LNodeServices;II)I"⟩
abbrev cLw_rest : ByteArray := method_8_code
def yLw_rest : MethodName := ⟨RLw, "rest", "(LNodeServices;I)I"⟩
abbrev cLw_deliver : ByteArray := method_9_code
def yLw_deliver : MethodName := ⟨RLw, "deliver", "(LNodeServices;II[J)I"⟩
abbrev cLw_first : ByteArray := method_10_code
def yLw_first : MethodName := ⟨RLw, "first", "(LNodeServices;II[J)I"⟩
abbrev cLw_waiting : ByteArray := method_11_code
def yLw_waiting : MethodName := ⟨RLw, "waiting", "(LNodeServices;II[J)I"⟩
abbrev cLw_about : ByteArray := method_12_code
def yLw_about : MethodName := ⟨RLw, "about", "(LNodeServices;II[J)I"⟩
abbrev cLw_more : ByteArray := method_13_code
def yLw_more : MethodName := ⟨RLw, "more", "(LNodeServices;II[J)I"⟩
abbrev clA : List vw_C := [(RMo, TMo, 33), (RNs, TNs, 5), (RNw, TNw, 2), (RCh, TCh, 3), (RMs, TMs, 4), (RRo, TRo, 2), (RSt, TSt, 8), (RTk, TTk, 8), (RTr, TTr, 7), (REl, TEl, 5), (RWk, TWk, 7)]
end
section
theorem wm_13 : Cond.initialized "NodeServicesModel" ∈ wg := mem_wg (List.mem_append_right _ (List.mem_of_getElem? (i := 13) (by decide +kernel))) (by decide +kernel)
theorem wm_736 : Cond.fieldLink "NodeServicesModel" 7 "NodeServicesModel" "head" "[I" ∈ wg := mem_wg (List.mem_append_right _ (List.mem_of_getElem? (i := 736) (by decide +kernel))) (by decide +kernel)
theorem wm_737 : Cond.fieldLink "NodeServicesModel" 13 "NodeServicesModel" "tail" "[I" ∈ wg := mem_wg (List.mem_append_right _ (List.mem_of_getElem? (i := 737) (by decide +kernel))) (by decide +kernel)
theorem wm_738 : Cond.fieldLink "NodeServicesModel" 16 "NodeServicesModel" "many" "[I" ∈ wg := mem_wg (List.mem_append_right _ (List.mem_of_getElem? (i := 738) (by decide +kernel))) (by decide +kernel)
theorem wm_739 : Cond.fieldLink "NodeServicesModel" 19 "NodeServicesModel" "sort" "[I" ∈ wg := mem_wg (List.mem_append_right _ (List.mem_of_getElem? (i := 739) (by decide +kernel))) (by decide +kernel)
theorem wm_740 : Cond.fieldLink "NodeServicesModel" 22 "NodeServicesModel" "amount" "[I" ∈ wg := mem_wg (List.mem_append_right _ (List.mem_of_getElem? (i := 740) (by decide +kernel))) (by decide +kernel)
theorem wm_741 : Cond.fieldLink "NodeServicesModel" 25 "NodeServicesModel" "behind" "[I" ∈ wg := mem_wg (List.mem_append_right _ (List.mem_of_getElem? (i := 741) (by decide +kernel))) (by decide +kernel)
theorem wm_742 : Cond.fieldLink "NodeServicesModel" 93 "NodeServicesModel" "used" "I" ∈ wg := mem_wg (List.mem_append_right _ (List.mem_of_getElem? (i := 742) (by decide +kernel))) (by decide +kernel)
theorem wm_743 : Cond.fieldLink "NodeServicesModel" 28 "NodeServicesModel" "free" "I" ∈ wg := mem_wg (List.mem_append_right _ (List.mem_of_getElem? (i := 743) (by decide +kernel))) (by decide +kernel)
theorem wm_744 : Cond.fieldLink "NodeServicesModel" 32 "NodeServicesModel" "state" "[I" ∈ wg := mem_wg (List.mem_append_right _ (List.mem_of_getElem? (i := 744) (by decide +kernel))) (by decide +kernel)
theorem wm_745 : Cond.fieldLink "NodeServicesModel" 128 "NodeServicesModel" "cameIn" "I" ∈ wg := mem_wg (List.mem_append_right _ (List.mem_of_getElem? (i := 745) (by decide +kernel))) (by decide +kernel)
theorem wm_746 : Cond.fieldLink "NodeServicesModel" 96 "NodeServicesModel" "sent" "I" ∈ wg := mem_wg (List.mem_append_right _ (List.mem_of_getElem? (i := 746) (by decide +kernel))) (by decide +kernel)
theorem wm_747 : Cond.fieldLink "NodeServicesModel" 35 "NodeServicesModel" "clock" "[I" ∈ wg := mem_wg (List.mem_append_right _ (List.mem_of_getElem? (i := 747) (by decide +kernel))) (by decide +kernel)
theorem wm_748 : Cond.fieldLink "NodeServicesModel" 38 "NodeServicesModel" "stamp" "[I" ∈ wg := mem_wg (List.mem_append_right _ (List.mem_of_getElem? (i := 748) (by decide +kernel))) (by decide +kernel)
theorem wm_749 : Cond.fieldLink "NodeServicesModel" 41 "NodeServicesModel" "replies" "[I" ∈ wg := mem_wg (List.mem_append_right _ (List.mem_of_getElem? (i := 749) (by decide +kernel))) (by decide +kernel)
theorem wm_750 : Cond.fieldLink "NodeServicesModel" 44 "NodeServicesModel" "putOff" "[I" ∈ wg := mem_wg (List.mem_append_right _ (List.mem_of_getElem? (i := 750) (by decide +kernel))) (by decide +kernel)
theorem wm_751 : Cond.fieldLink "NodeServicesModel" 47 "NodeServicesModel" "known" "[I" ∈ wg := mem_wg (List.mem_append_right _ (List.mem_of_getElem? (i := 751) (by decide +kernel))) (by decide +kernel)
theorem wm_752 : Cond.fieldLink "NodeServicesModel" 50 "NodeServicesModel" "tokenDone" "[I" ∈ wg := mem_wg (List.mem_append_right _ (List.mem_of_getElem? (i := 752) (by decide +kernel))) (by decide +kernel)
theorem wm_753 : Cond.fieldLink "NodeServicesModel" 134 "NodeServicesModel" "holder" "I" ∈ wg := mem_wg (List.mem_append_right _ (List.mem_of_getElem? (i := 753) (by decide +kernel))) (by decide +kernel)
theorem wm_754 : Cond.fieldLink "NodeServicesModel" 157 "NodeServicesModel" "rowSize" "I" ∈ wg := mem_wg (List.mem_append_right _ (List.mem_of_getElem? (i := 754) (by decide +kernel))) (by decide +kernel)
theorem wm_755 : Cond.fieldLink "NodeServicesModel" 53 "NodeServicesModel" "row" "[I" ∈ wg := mem_wg (List.mem_append_right _ (List.mem_of_getElem? (i := 755) (by decide +kernel))) (by decide +kernel)
theorem wm_756 : Cond.fieldLink "NodeServicesModel" 56 "NodeServicesModel" "towards" "[I" ∈ wg := mem_wg (List.mem_append_right _ (List.mem_of_getElem? (i := 756) (by decide +kernel))) (by decide +kernel)
theorem wm_757 : Cond.fieldLink "NodeServicesModel" 59 "NodeServicesModel" "queueSize" "[I" ∈ wg := mem_wg (List.mem_append_right _ (List.mem_of_getElem? (i := 757) (by decide +kernel))) (by decide +kernel)
theorem wm_758 : Cond.fieldLink "NodeServicesModel" 62 "NodeServicesModel" "queue" "[I" ∈ wg := mem_wg (List.mem_append_right _ (List.mem_of_getElem? (i := 758) (by decide +kernel))) (by decide +kernel)
theorem wm_759 : Cond.fieldLink "NodeServicesModel" 65 "NodeServicesModel" "asked" "[Z" ∈ wg := mem_wg (List.mem_append_right _ (List.mem_of_getElem? (i := 759) (by decide +kernel))) (by decide +kernel)
theorem wm_760 : Cond.fieldLink "NodeServicesModel" 69 "NodeServicesModel" "id" "[I" ∈ wg := mem_wg (List.mem_append_right _ (List.mem_of_getElem? (i := 760) (by decide +kernel))) (by decide +kernel)
theorem wm_761 : Cond.fieldLink "NodeServicesModel" 72 "NodeServicesModel" "leader" "[I" ∈ wg := mem_wg (List.mem_append_right _ (List.mem_of_getElem? (i := 761) (by decide +kernel))) (by decide +kernel)
theorem wm_762 : Cond.fieldLink "NodeServicesModel" 75 "NodeServicesModel" "part" "[Z" ∈ wg := mem_wg (List.mem_append_right _ (List.mem_of_getElem? (i := 762) (by decide +kernel))) (by decide +kernel)
theorem wm_763 : Cond.fieldLink "NodeServicesModel" 78 "NodeServicesModel" "root" "I" ∈ wg := mem_wg (List.mem_append_right _ (List.mem_of_getElem? (i := 763) (by decide +kernel))) (by decide +kernel)
theorem wm_764 : Cond.fieldLink "NodeServicesModel" 164 "NodeServicesModel" "ends" "I" ∈ wg := mem_wg (List.mem_append_right _ (List.mem_of_getElem? (i := 764) (by decide +kernel))) (by decide +kernel)
theorem wm_765 : Cond.fieldLink "NodeServicesModel" 81 "NodeServicesModel" "busy" "[Z" ∈ wg := mem_wg (List.mem_append_right _ (List.mem_of_getElem? (i := 765) (by decide +kernel))) (by decide +kernel)
theorem wm_766 : Cond.fieldLink "NodeServicesModel" 84 "NodeServicesModel" "parent" "[I" ∈ wg := mem_wg (List.mem_append_right _ (List.mem_of_getElem? (i := 766) (by decide +kernel))) (by decide +kernel)
theorem wm_767 : Cond.fieldLink "NodeServicesModel" 87 "NodeServicesModel" "open" "[I" ∈ wg := mem_wg (List.mem_append_right _ (List.mem_of_getElem? (i := 767) (by decide +kernel))) (by decide +kernel)
theorem wm_768 : Cond.fieldLink "NodeServicesModel" 90 "NodeServicesModel" "thrown" "I" ∈ wg := mem_wg (List.mem_append_right _ (List.mem_of_getElem? (i := 768) (by decide +kernel))) (by decide +kernel)
theorem wm_844 : Cond.methodLink "NodeServicesModel" 107 yMo_isChannel ∈ wg := mem_wg (List.mem_append_right _ (List.mem_of_getElem? (i := 844) (by decide +kernel))) (by decide +kernel)
theorem wm_845 : Cond.static yMo_isChannel ∈ wg := mem_wg (List.mem_append_right _ (List.mem_of_getElem? (i := 845) (by decide +kernel))) (by decide +kernel)
theorem wm_846 : Cond.code yMo_isChannel cMo_isChannel 2 (some .boolean) ∈ wg := mem_wg (List.mem_append_right _ (List.mem_of_getElem? (i := 846) (by decide +kernel))) (by decide +kernel)
theorem wm_847 : Cond.methodLink "NodeServicesModel" 103 yMo_isNode ∈ wg := mem_wg (List.mem_append_right _ (List.mem_of_getElem? (i := 847) (by decide +kernel))) (by decide +kernel)
theorem wm_848 : Cond.static yMo_isNode ∈ wg := mem_wg (List.mem_append_right _ (List.mem_of_getElem? (i := 848) (by decide +kernel))) (by decide +kernel)
theorem wm_849 : Cond.code yMo_isNode cMo_isNode 1 (some .boolean) ∈ wg := mem_wg (List.mem_append_right _ (List.mem_of_getElem? (i := 849) (by decide +kernel))) (by decide +kernel)
theorem wm_850 : Cond.methodLink "NodeServicesModel" 111 yMo_stampArrives ∈ wg := mem_wg (List.mem_append_right _ (List.mem_of_getElem? (i := 850) (by decide +kernel))) (by decide +kernel)
theorem wm_852 : Cond.instanceMethod yMo_stampArrives ∈ wg := mem_wg (List.mem_append_right _ (List.mem_of_getElem? (i := 852) (by decide +kernel))) (by decide +kernel)
theorem wm_853 : Cond.code yMo_stampArrives cMo_stampArrives 6 none ∈ wg := mem_wg (List.mem_append_right _ (List.mem_of_getElem? (i := 853) (by decide +kernel))) (by decide +kernel)
theorem wm_854 : Cond.methodLink "NodeServicesModel" 137 yMo_comeIn ∈ wg := mem_wg (List.mem_append_right _ (List.mem_of_getElem? (i := 854) (by decide +kernel))) (by decide +kernel)
theorem wm_856 : Cond.instanceMethod yMo_comeIn ∈ wg := mem_wg (List.mem_append_right _ (List.mem_of_getElem? (i := 856) (by decide +kernel))) (by decide +kernel)
theorem wm_857 : Cond.code yMo_comeIn cMo_comeIn 3 none ∈ wg := mem_wg (List.mem_append_right _ (List.mem_of_getElem? (i := 857) (by decide +kernel))) (by decide +kernel)
theorem wm_858 : Cond.methodLink "NodeServicesModel" 99 yMo_send ∈ wg := mem_wg (List.mem_append_right _ (List.mem_of_getElem? (i := 858) (by decide +kernel))) (by decide +kernel)
theorem wm_860 : Cond.instanceMethod yMo_send ∈ wg := mem_wg (List.mem_append_right _ (List.mem_of_getElem? (i := 860) (by decide +kernel))) (by decide +kernel)
theorem wm_861 : Cond.code yMo_send cMo_send 8 none ∈ wg := mem_wg (List.mem_append_right _ (List.mem_of_getElem? (i := 861) (by decide +kernel))) (by decide +kernel)
theorem wm_862 : Cond.methodLink "NodeServicesModel" 115 yMo_tokenArrives ∈ wg := mem_wg (List.mem_append_right _ (List.mem_of_getElem? (i := 862) (by decide +kernel))) (by decide +kernel)
theorem wm_864 : Cond.instanceMethod yMo_tokenArrives ∈ wg := mem_wg (List.mem_append_right _ (List.mem_of_getElem? (i := 864) (by decide +kernel))) (by decide +kernel)
theorem wm_865 : Cond.code yMo_tokenArrives cMo_tokenArrives 5 none ∈ wg := mem_wg (List.mem_append_right _ (List.mem_of_getElem? (i := 865) (by decide +kernel))) (by decide +kernel)
theorem wm_866 : Cond.methodLink "NodeServicesModel" 154 yMo_isDue ∈ wg := mem_wg (List.mem_append_right _ (List.mem_of_getElem? (i := 866) (by decide +kernel))) (by decide +kernel)
theorem wm_868 : Cond.instanceMethod yMo_isDue ∈ wg := mem_wg (List.mem_append_right _ (List.mem_of_getElem? (i := 868) (by decide +kernel))) (by decide +kernel)
theorem wm_869 : Cond.code yMo_isDue cMo_isDue 3 (some .boolean) ∈ wg := mem_wg (List.mem_append_right _ (List.mem_of_getElem? (i := 869) (by decide +kernel))) (by decide +kernel)
theorem wm_870 : Cond.methodLink "NodeServicesModel" 118 yMo_treeArrives ∈ wg := mem_wg (List.mem_append_right _ (List.mem_of_getElem? (i := 870) (by decide +kernel))) (by decide +kernel)
theorem wm_872 : Cond.instanceMethod yMo_treeArrives ∈ wg := mem_wg (List.mem_append_right _ (List.mem_of_getElem? (i := 872) (by decide +kernel))) (by decide +kernel)
theorem wm_873 : Cond.code yMo_treeArrives cMo_treeArrives 4 none ∈ wg := mem_wg (List.mem_append_right _ (List.mem_of_getElem? (i := 873) (by decide +kernel))) (by decide +kernel)
theorem wm_874 : Cond.methodLink "NodeServicesModel" 144 yMo_enqueue ∈ wg := mem_wg (List.mem_append_right _ (List.mem_of_getElem? (i := 874) (by decide +kernel))) (by decide +kernel)
theorem wm_876 : Cond.instanceMethod yMo_enqueue ∈ wg := mem_wg (List.mem_append_right _ (List.mem_of_getElem? (i := 876) (by decide +kernel))) (by decide +kernel)
theorem wm_877 : Cond.code yMo_enqueue cMo_enqueue 3 none ∈ wg := mem_wg (List.mem_append_right _ (List.mem_of_getElem? (i := 877) (by decide +kernel))) (by decide +kernel)
theorem wm_878 : Cond.methodLink "NodeServicesModel" 147 yMo_goOn ∈ wg := mem_wg (List.mem_append_right _ (List.mem_of_getElem? (i := 878) (by decide +kernel))) (by decide +kernel)
theorem wm_880 : Cond.instanceMethod yMo_goOn ∈ wg := mem_wg (List.mem_append_right _ (List.mem_of_getElem? (i := 880) (by decide +kernel))) (by decide +kernel)
theorem wm_881 : Cond.code yMo_goOn cMo_goOn 3 none ∈ wg := mem_wg (List.mem_append_right _ (List.mem_of_getElem? (i := 881) (by decide +kernel))) (by decide +kernel)
theorem wm_882 : Cond.methodLink "NodeServicesModel" 160 yMo_dequeue ∈ wg := mem_wg (List.mem_append_right _ (List.mem_of_getElem? (i := 882) (by decide +kernel))) (by decide +kernel)
theorem wm_884 : Cond.instanceMethod yMo_dequeue ∈ wg := mem_wg (List.mem_append_right _ (List.mem_of_getElem? (i := 884) (by decide +kernel))) (by decide +kernel)
theorem wm_885 : Cond.code yMo_dequeue cMo_dequeue 4 (some .int) ∈ wg := mem_wg (List.mem_append_right _ (List.mem_of_getElem? (i := 885) (by decide +kernel))) (by decide +kernel)
theorem wm_886 : Cond.methodLink "NodeServicesModel" 122 yMo_ringArrives ∈ wg := mem_wg (List.mem_append_right _ (List.mem_of_getElem? (i := 886) (by decide +kernel))) (by decide +kernel)
theorem wm_888 : Cond.instanceMethod yMo_ringArrives ∈ wg := mem_wg (List.mem_append_right _ (List.mem_of_getElem? (i := 888) (by decide +kernel))) (by decide +kernel)
theorem wm_889 : Cond.code yMo_ringArrives cMo_ringArrives 5 none ∈ wg := mem_wg (List.mem_append_right _ (List.mem_of_getElem? (i := 889) (by decide +kernel))) (by decide +kernel)
theorem wm_890 : Cond.methodLink "NodeServicesModel" 125 yMo_workArrives ∈ wg := mem_wg (List.mem_append_right _ (List.mem_of_getElem? (i := 890) (by decide +kernel))) (by decide +kernel)
theorem wm_892 : Cond.instanceMethod yMo_workArrives ∈ wg := mem_wg (List.mem_append_right _ (List.mem_of_getElem? (i := 892) (by decide +kernel))) (by decide +kernel)
theorem wm_893 : Cond.code yMo_workArrives cMo_workArrives 4 none ∈ wg := mem_wg (List.mem_append_right _ (List.mem_of_getElem? (i := 893) (by decide +kernel))) (by decide +kernel)
theorem wm_894 : Cond.methodLink "NodeServicesModel" 167 yMo_settle ∈ wg := mem_wg (List.mem_append_right _ (List.mem_of_getElem? (i := 894) (by decide +kernel))) (by decide +kernel)
theorem wm_896 : Cond.instanceMethod yMo_settle ∈ wg := mem_wg (List.mem_append_right _ (List.mem_of_getElem? (i := 896) (by decide +kernel))) (by decide +kernel)
theorem wm_897 : Cond.code yMo_settle cMo_settle 3 none ∈ wg := mem_wg (List.mem_append_right _ (List.mem_of_getElem? (i := 897) (by decide +kernel))) (by decide +kernel)
theorem wm_910 : Cond.methodLink "NodeServicesModel" 131 yMo_isLock ∈ wg := mem_wg (List.mem_append_right _ (List.mem_of_getElem? (i := 910) (by decide +kernel))) (by decide +kernel)
theorem wm_911 : Cond.static yMo_isLock ∈ wg := mem_wg (List.mem_append_right _ (List.mem_of_getElem? (i := 911) (by decide +kernel))) (by decide +kernel)
theorem wm_912 : Cond.code yMo_isLock cMo_isLock 2 (some .boolean) ∈ wg := mem_wg (List.mem_append_right _ (List.mem_of_getElem? (i := 912) (by decide +kernel))) (by decide +kernel)
theorem wm_913 : Cond.methodLink "NodeServicesModel" 141 yMo_sendAll ∈ wg := mem_wg (List.mem_append_right _ (List.mem_of_getElem? (i := 913) (by decide +kernel))) (by decide +kernel)
theorem wm_915 : Cond.instanceMethod yMo_sendAll ∈ wg := mem_wg (List.mem_append_right _ (List.mem_of_getElem? (i := 915) (by decide +kernel))) (by decide +kernel)
theorem wm_916 : Cond.code yMo_sendAll cMo_sendAll 6 none ∈ wg := mem_wg (List.mem_append_right _ (List.mem_of_getElem? (i := 916) (by decide +kernel))) (by decide +kernel)
theorem wm_921 : Cond.methodLink "NodeServicesModel" 151 yMo_passToken ∈ wg := mem_wg (List.mem_append_right _ (List.mem_of_getElem? (i := 921) (by decide +kernel))) (by decide +kernel)
theorem wm_923 : Cond.instanceMethod yMo_passToken ∈ wg := mem_wg (List.mem_append_right _ (List.mem_of_getElem? (i := 923) (by decide +kernel))) (by decide +kernel)
theorem wm_924 : Cond.code yMo_passToken cMo_passToken 5 none ∈ wg := mem_wg (List.mem_append_right _ (List.mem_of_getElem? (i := 924) (by decide +kernel))) (by decide +kernel)
theorem wm_945 : Cond.methodLink "NodeServicesModel" 170 yMo_isService ∈ wg := mem_wg (List.mem_append_right _ (List.mem_of_getElem? (i := 945) (by decide +kernel))) (by decide +kernel)
theorem wm_946 : Cond.static yMo_isService ∈ wg := mem_wg (List.mem_append_right _ (List.mem_of_getElem? (i := 946) (by decide +kernel))) (by decide +kernel)
theorem wm_947 : Cond.code yMo_isService cMo_isService 2 (some .boolean) ∈ wg := mem_wg (List.mem_append_right _ (List.mem_of_getElem? (i := 947) (by decide +kernel))) (by decide +kernel)
theorem wp_16 : Cond.selects "NodeServicesModel" yMo_stampArrives yMo_stampArrives ∈ wg := mem_wg (List.mem_append_left _ (List.mem_of_getElem? (i := 16) (by decide +kernel))) (by decide +kernel)
theorem wp_17 : Cond.selects "NodeServicesModel" yMo_comeIn yMo_comeIn ∈ wg := mem_wg (List.mem_append_left _ (List.mem_of_getElem? (i := 17) (by decide +kernel))) (by decide +kernel)
theorem wp_18 : Cond.selects "NodeServicesModel" yMo_send yMo_send ∈ wg := mem_wg (List.mem_append_left _ (List.mem_of_getElem? (i := 18) (by decide +kernel))) (by decide +kernel)
theorem wp_19 : Cond.selects "NodeServicesModel" yMo_tokenArrives yMo_tokenArrives ∈ wg := mem_wg (List.mem_append_left _ (List.mem_of_getElem? (i := 19) (by decide +kernel))) (by decide +kernel)
theorem wp_20 : Cond.selects "NodeServicesModel" yMo_isDue yMo_isDue ∈ wg := mem_wg (List.mem_append_left _ (List.mem_of_getElem? (i := 20) (by decide +kernel))) (by decide +kernel)
theorem wp_21 : Cond.selects "NodeServicesModel" yMo_treeArrives yMo_treeArrives ∈ wg := mem_wg (List.mem_append_left _ (List.mem_of_getElem? (i := 21) (by decide +kernel))) (by decide +kernel)
theorem wp_22 : Cond.selects "NodeServicesModel" yMo_enqueue yMo_enqueue ∈ wg := mem_wg (List.mem_append_left _ (List.mem_of_getElem? (i := 22) (by decide +kernel))) (by decide +kernel)
theorem wp_23 : Cond.selects "NodeServicesModel" yMo_goOn yMo_goOn ∈ wg := mem_wg (List.mem_append_left _ (List.mem_of_getElem? (i := 23) (by decide +kernel))) (by decide +kernel)
theorem wp_24 : Cond.selects "NodeServicesModel" yMo_dequeue yMo_dequeue ∈ wg := mem_wg (List.mem_append_left _ (List.mem_of_getElem? (i := 24) (by decide +kernel))) (by decide +kernel)
theorem wp_25 : Cond.selects "NodeServicesModel" yMo_ringArrives yMo_ringArrives ∈ wg := mem_wg (List.mem_append_left _ (List.mem_of_getElem? (i := 25) (by decide +kernel))) (by decide +kernel)
theorem wp_26 : Cond.selects "NodeServicesModel" yMo_workArrives yMo_workArrives ∈ wg := mem_wg (List.mem_append_left _ (List.mem_of_getElem? (i := 26) (by decide +kernel))) (by decide +kernel)
theorem wp_27 : Cond.selects "NodeServicesModel" yMo_settle yMo_settle ∈ wg := mem_wg (List.mem_append_left _ (List.mem_of_getElem? (i := 27) (by decide +kernel))) (by decide +kernel)
theorem wp_28 : Cond.selects "NodeServicesModel" yMo_sendAll yMo_sendAll ∈ wg := mem_wg (List.mem_append_left _ (List.mem_of_getElem? (i := 28) (by decide +kernel))) (by decide +kernel)
theorem wp_29 : Cond.selects "NodeServicesModel" yMo_passToken yMo_passToken ∈ wg := mem_wg (List.mem_append_left _ (List.mem_of_getElem? (i := 29) (by decide +kernel))) (by decide +kernel)
end
section
theorem dMo_thrown_0 : decode cMo_thrown 0 = .ok (.aload_n 0, 1) := by decide +kernel
theorem dMo_thrown_1 : decode cMo_thrown 1 = .ok (.getfield 90, 3) := by decide +kernel
theorem dMo_thrown_4 : decode cMo_thrown 4 = .ok (.ireturn, 1) := by decide +kernel
theorem dMo_isNode_0 : decode cMo_isNode 0 = .ok (.iload_n 0, 1) := by decide +kernel
theorem dMo_isNode_1 : decode cMo_isNode 1 = .ok (.ifCond .lt 12, 3) := by decide +kernel
theorem dMo_isNode_4 : decode cMo_isNode 4 = .ok (.iload_n 0, 1) := by decide +kernel
theorem dMo_isNode_5 : decode cMo_isNode 5 = .ok (.iconst 4, 1) := by decide +kernel
theorem dMo_isNode_6 : decode cMo_isNode 6 = .ok (.if_icmp .ge 7, 3) := by decide +kernel
theorem dMo_isNode_9 : decode cMo_isNode 9 = .ok (.iconst 1, 1) := by decide +kernel
theorem dMo_isNode_10 : decode cMo_isNode 10 = .ok (.goto 4, 3) := by decide +kernel
theorem dMo_isNode_13 : decode cMo_isNode 13 = .ok (.iconst 0, 1) := by decide +kernel
theorem dMo_isNode_14 : decode cMo_isNode 14 = .ok (.ireturn, 1) := by decide +kernel
theorem dMo_isChannel_0 : decode cMo_isChannel 0 = .ok (.iload_n 0, 1) := by decide +kernel
theorem dMo_isChannel_1 : decode cMo_isChannel 1 = .ok (.invokestatic 103, 3) := by decide +kernel
theorem dMo_isChannel_4 : decode cMo_isChannel 4 = .ok (.ifCond .eq 19, 3) := by decide +kernel
theorem dMo_isChannel_7 : decode cMo_isChannel 7 = .ok (.iload_n 1, 1) := by decide +kernel
theorem dMo_isChannel_8 : decode cMo_isChannel 8 = .ok (.invokestatic 103, 3) := by decide +kernel
theorem dMo_isChannel_11 : decode cMo_isChannel 11 = .ok (.ifCond .eq 12, 3) := by decide +kernel
theorem dMo_isChannel_14 : decode cMo_isChannel 14 = .ok (.iload_n 0, 1) := by decide +kernel
theorem dMo_isChannel_15 : decode cMo_isChannel 15 = .ok (.iload_n 1, 1) := by decide +kernel
theorem dMo_isChannel_16 : decode cMo_isChannel 16 = .ok (.if_icmp .eq 7, 3) := by decide +kernel
theorem dMo_isChannel_19 : decode cMo_isChannel 19 = .ok (.iconst 1, 1) := by decide +kernel
theorem dMo_isChannel_20 : decode cMo_isChannel 20 = .ok (.goto 4, 3) := by decide +kernel
theorem dMo_isChannel_23 : decode cMo_isChannel 23 = .ok (.iconst 0, 1) := by decide +kernel
theorem dMo_isChannel_24 : decode cMo_isChannel 24 = .ok (.ireturn, 1) := by decide +kernel
theorem dMo_isLock_0 : decode cMo_isLock 0 = .ok (.iload_n 0, 1) := by decide +kernel
theorem dMo_isLock_1 : decode cMo_isLock 1 = .ok (.ifCond .lt 19, 3) := by decide +kernel
theorem dMo_isLock_4 : decode cMo_isLock 4 = .ok (.iload_n 0, 1) := by decide +kernel
theorem dMo_isLock_5 : decode cMo_isLock 5 = .ok (.iconst 3, 1) := by decide +kernel
theorem dMo_isLock_6 : decode cMo_isLock 6 = .ok (.if_icmp .ge 14, 3) := by decide +kernel
theorem dMo_isLock_9 : decode cMo_isLock 9 = .ok (.iload_n 1, 1) := by decide +kernel
theorem dMo_isLock_10 : decode cMo_isLock 10 = .ok (.invokestatic 103, 3) := by decide +kernel
theorem dMo_isLock_13 : decode cMo_isLock 13 = .ok (.ifCond .eq 7, 3) := by decide +kernel
theorem dMo_isLock_16 : decode cMo_isLock 16 = .ok (.iconst 1, 1) := by decide +kernel
theorem dMo_isLock_17 : decode cMo_isLock 17 = .ok (.goto 4, 3) := by decide +kernel
theorem dMo_isLock_20 : decode cMo_isLock 20 = .ok (.iconst 0, 1) := by decide +kernel
theorem dMo_isLock_21 : decode cMo_isLock 21 = .ok (.ireturn, 1) := by decide +kernel
theorem dMo_isService_0 : decode cMo_isService 0 = .ok (.iload_n 0, 1) := by decide +kernel
theorem dMo_isService_1 : decode cMo_isService 1 = .ok (.ifCond .lt 19, 3) := by decide +kernel
theorem dMo_isService_4 : decode cMo_isService 4 = .ok (.iload_n 0, 1) := by decide +kernel
theorem dMo_isService_5 : decode cMo_isService 5 = .ok (.iconst 5, 1) := by decide +kernel
theorem dMo_isService_6 : decode cMo_isService 6 = .ok (.if_icmp .ge 14, 3) := by decide +kernel
theorem dMo_isService_9 : decode cMo_isService 9 = .ok (.iload_n 1, 1) := by decide +kernel
theorem dMo_isService_10 : decode cMo_isService 10 = .ok (.invokestatic 103, 3) := by decide +kernel
theorem dMo_isService_13 : decode cMo_isService 13 = .ok (.ifCond .eq 7, 3) := by decide +kernel
theorem dMo_isService_16 : decode cMo_isService 16 = .ok (.iconst 1, 1) := by decide +kernel
theorem dMo_isService_17 : decode cMo_isService 17 = .ok (.goto 4, 3) := by decide +kernel
theorem dMo_isService_20 : decode cMo_isService 20 = .ok (.iconst 0, 1) := by decide +kernel
theorem dMo_isService_21 : decode cMo_isService 21 = .ok (.ireturn, 1) := by decide +kernel
theorem dMo_send_0 : decode cMo_send 0 = .ok (.aload_n 0, 1) := by decide +kernel
theorem dMo_send_1 : decode cMo_send 1 = .ok (.getfield 28, 3) := by decide +kernel
theorem dMo_send_4 : decode cMo_send 4 = .ok (.istore 6, 2) := by decide +kernel
theorem dMo_send_6 : decode cMo_send 6 = .ok (.iload 6, 2) := by decide +kernel
theorem dMo_send_8 : decode cMo_send 8 = .ok (.ifCond .lt 17, 3) := by decide +kernel
theorem dMo_send_11 : decode cMo_send 11 = .ok (.aload_n 0, 1) := by decide +kernel
theorem dMo_send_12 : decode cMo_send 12 = .ok (.aload_n 0, 1) := by decide +kernel
theorem dMo_send_13 : decode cMo_send 13 = .ok (.getfield 25, 3) := by decide +kernel
theorem dMo_send_16 : decode cMo_send 16 = .ok (.iload 6, 2) := by decide +kernel
theorem dMo_send_18 : decode cMo_send 18 = .ok (.iaload, 1) := by decide +kernel
theorem dMo_send_19 : decode cMo_send 19 = .ok (.putfield 28, 3) := by decide +kernel
theorem dMo_send_22 : decode cMo_send 22 = .ok (.goto 19, 3) := by decide +kernel
theorem dMo_send_25 : decode cMo_send 25 = .ok (.aload_n 0, 1) := by decide +kernel
theorem dMo_send_26 : decode cMo_send 26 = .ok (.getfield 93, 3) := by decide +kernel
theorem dMo_send_29 : decode cMo_send 29 = .ok (.istore 6, 2) := by decide +kernel
theorem dMo_send_31 : decode cMo_send 31 = .ok (.aload_n 0, 1) := by decide +kernel
theorem dMo_send_32 : decode cMo_send 32 = .ok (.dup, 1) := by decide +kernel
theorem dMo_send_33 : decode cMo_send 33 = .ok (.getfield 93, 3) := by decide +kernel
theorem dMo_send_36 : decode cMo_send 36 = .ok (.iconst 1, 1) := by decide +kernel
theorem dMo_send_37 : decode cMo_send 37 = .ok (.iadd, 1) := by decide +kernel
theorem dMo_send_38 : decode cMo_send 38 = .ok (.putfield 93, 3) := by decide +kernel
theorem dMo_send_41 : decode cMo_send 41 = .ok (.aload_n 0, 1) := by decide +kernel
theorem dMo_send_42 : decode cMo_send 42 = .ok (.getfield 19, 3) := by decide +kernel
theorem dMo_send_45 : decode cMo_send 45 = .ok (.iload 6, 2) := by decide +kernel
theorem dMo_send_47 : decode cMo_send 47 = .ok (.bipush 10, 2) := by decide +kernel
theorem dMo_send_49 : decode cMo_send 49 = .ok (.iload_n 3, 1) := by decide +kernel
theorem dMo_send_50 : decode cMo_send 50 = .ok (.imul, 1) := by decide +kernel
theorem dMo_send_51 : decode cMo_send 51 = .ok (.iload 4, 2) := by decide +kernel
theorem dMo_send_53 : decode cMo_send 53 = .ok (.iadd, 1) := by decide +kernel
theorem dMo_send_54 : decode cMo_send 54 = .ok (.iastore, 1) := by decide +kernel
theorem dMo_send_55 : decode cMo_send 55 = .ok (.aload_n 0, 1) := by decide +kernel
theorem dMo_send_56 : decode cMo_send 56 = .ok (.getfield 22, 3) := by decide +kernel
theorem dMo_send_59 : decode cMo_send 59 = .ok (.iload 6, 2) := by decide +kernel
theorem dMo_send_61 : decode cMo_send 61 = .ok (.iload 5, 2) := by decide +kernel
theorem dMo_send_63 : decode cMo_send 63 = .ok (.iastore, 1) := by decide +kernel
theorem dMo_send_64 : decode cMo_send 64 = .ok (.aload_n 0, 1) := by decide +kernel
theorem dMo_send_65 : decode cMo_send 65 = .ok (.getfield 25, 3) := by decide +kernel
theorem dMo_send_68 : decode cMo_send 68 = .ok (.iload 6, 2) := by decide +kernel
theorem dMo_send_70 : decode cMo_send 70 = .ok (.iconst (-1), 1) := by decide +kernel
theorem dMo_send_71 : decode cMo_send 71 = .ok (.iastore, 1) := by decide +kernel
theorem dMo_send_72 : decode cMo_send 72 = .ok (.iconst 4, 1) := by decide +kernel
theorem dMo_send_73 : decode cMo_send 73 = .ok (.iload_n 1, 1) := by decide +kernel
theorem dMo_send_74 : decode cMo_send 74 = .ok (.imul, 1) := by decide +kernel
theorem dMo_send_75 : decode cMo_send 75 = .ok (.iload_n 2, 1) := by decide +kernel
theorem dMo_send_76 : decode cMo_send 76 = .ok (.iadd, 1) := by decide +kernel
theorem dMo_send_77 : decode cMo_send 77 = .ok (.istore 7, 2) := by decide +kernel
theorem dMo_send_79 : decode cMo_send 79 = .ok (.aload_n 0, 1) := by decide +kernel
theorem dMo_send_80 : decode cMo_send 80 = .ok (.getfield 7, 3) := by decide +kernel
theorem dMo_send_83 : decode cMo_send 83 = .ok (.iload 7, 2) := by decide +kernel
theorem dMo_send_85 : decode cMo_send 85 = .ok (.iaload, 1) := by decide +kernel
theorem dMo_send_86 : decode cMo_send 86 = .ok (.ifCond .ge 15, 3) := by decide +kernel
theorem dMo_send_89 : decode cMo_send 89 = .ok (.aload_n 0, 1) := by decide +kernel
theorem dMo_send_90 : decode cMo_send 90 = .ok (.getfield 7, 3) := by decide +kernel
theorem dMo_send_93 : decode cMo_send 93 = .ok (.iload 7, 2) := by decide +kernel
theorem dMo_send_95 : decode cMo_send 95 = .ok (.iload 6, 2) := by decide +kernel
theorem dMo_send_97 : decode cMo_send 97 = .ok (.iastore, 1) := by decide +kernel
theorem dMo_send_98 : decode cMo_send 98 = .ok (.goto 17, 3) := by decide +kernel
theorem dMo_send_101 : decode cMo_send 101 = .ok (.aload_n 0, 1) := by decide +kernel
theorem dMo_send_102 : decode cMo_send 102 = .ok (.getfield 25, 3) := by decide +kernel
theorem dMo_send_105 : decode cMo_send 105 = .ok (.aload_n 0, 1) := by decide +kernel
theorem dMo_send_106 : decode cMo_send 106 = .ok (.getfield 13, 3) := by decide +kernel
theorem dMo_send_109 : decode cMo_send 109 = .ok (.iload 7, 2) := by decide +kernel
theorem dMo_send_111 : decode cMo_send 111 = .ok (.iaload, 1) := by decide +kernel
theorem dMo_send_112 : decode cMo_send 112 = .ok (.iload 6, 2) := by decide +kernel
theorem dMo_send_114 : decode cMo_send 114 = .ok (.iastore, 1) := by decide +kernel
theorem dMo_send_115 : decode cMo_send 115 = .ok (.aload_n 0, 1) := by decide +kernel
theorem dMo_send_116 : decode cMo_send 116 = .ok (.getfield 13, 3) := by decide +kernel
theorem dMo_send_119 : decode cMo_send 119 = .ok (.iload 7, 2) := by decide +kernel
theorem dMo_send_121 : decode cMo_send 121 = .ok (.iload 6, 2) := by decide +kernel
theorem dMo_send_123 : decode cMo_send 123 = .ok (.iastore, 1) := by decide +kernel
theorem dMo_send_124 : decode cMo_send 124 = .ok (.aload_n 0, 1) := by decide +kernel
theorem dMo_send_125 : decode cMo_send 125 = .ok (.getfield 16, 3) := by decide +kernel
theorem dMo_send_128 : decode cMo_send 128 = .ok (.iload 7, 2) := by decide +kernel
theorem dMo_send_130 : decode cMo_send 130 = .ok (.dup2, 1) := by decide +kernel
theorem dMo_send_131 : decode cMo_send 131 = .ok (.iaload, 1) := by decide +kernel
theorem dMo_send_132 : decode cMo_send 132 = .ok (.iconst 1, 1) := by decide +kernel
theorem dMo_send_133 : decode cMo_send 133 = .ok (.iadd, 1) := by decide +kernel
theorem dMo_send_134 : decode cMo_send 134 = .ok (.iastore, 1) := by decide +kernel
theorem dMo_send_135 : decode cMo_send 135 = .ok (.aload_n 0, 1) := by decide +kernel
theorem dMo_send_136 : decode cMo_send 136 = .ok (.dup, 1) := by decide +kernel
theorem dMo_send_137 : decode cMo_send 137 = .ok (.getfield 96, 3) := by decide +kernel
theorem dMo_send_140 : decode cMo_send 140 = .ok (.iconst 1, 1) := by decide +kernel
theorem dMo_send_141 : decode cMo_send 141 = .ok (.iadd, 1) := by decide +kernel
theorem dMo_send_142 : decode cMo_send 142 = .ok (.putfield 96, 3) := by decide +kernel
theorem dMo_send_145 : decode cMo_send 145 = .ok (.return_, 1) := by decide +kernel
theorem dMo_sendAll_0 : decode cMo_sendAll 0 = .ok (.iconst 0, 1) := by decide +kernel
theorem dMo_sendAll_1 : decode cMo_sendAll 1 = .ok (.istore 5, 2) := by decide +kernel
theorem dMo_sendAll_3 : decode cMo_sendAll 3 = .ok (.iload 5, 2) := by decide +kernel
theorem dMo_sendAll_5 : decode cMo_sendAll 5 = .ok (.iconst 4, 1) := by decide +kernel
theorem dMo_sendAll_6 : decode cMo_sendAll 6 = .ok (.if_icmp .ge 26, 3) := by decide +kernel
theorem dMo_sendAll_9 : decode cMo_sendAll 9 = .ok (.iload 5, 2) := by decide +kernel
theorem dMo_sendAll_11 : decode cMo_sendAll 11 = .ok (.iload_n 1, 1) := by decide +kernel
theorem dMo_sendAll_12 : decode cMo_sendAll 12 = .ok (.if_icmp .eq 14, 3) := by decide +kernel
theorem dMo_sendAll_15 : decode cMo_sendAll 15 = .ok (.aload_n 0, 1) := by decide +kernel
theorem dMo_sendAll_16 : decode cMo_sendAll 16 = .ok (.iload_n 1, 1) := by decide +kernel
theorem dMo_sendAll_17 : decode cMo_sendAll 17 = .ok (.iload 5, 2) := by decide +kernel
theorem dMo_sendAll_19 : decode cMo_sendAll 19 = .ok (.iload_n 2, 1) := by decide +kernel
theorem dMo_sendAll_20 : decode cMo_sendAll 20 = .ok (.iload_n 3, 1) := by decide +kernel
theorem dMo_sendAll_21 : decode cMo_sendAll 21 = .ok (.iload 4, 2) := by decide +kernel
theorem dMo_sendAll_23 : decode cMo_sendAll 23 = .ok (.invokevirtual 99, 3) := by decide +kernel
theorem dMo_sendAll_26 : decode cMo_sendAll 26 = .ok (.iinc 5 1, 3) := by decide +kernel
theorem dMo_sendAll_29 : decode cMo_sendAll 29 = .ok (.goto (-26), 3) := by decide +kernel
theorem dMo_sendAll_32 : decode cMo_sendAll 32 = .ok (.return_, 1) := by decide +kernel
theorem dMo_comeIn_0 : decode cMo_comeIn 0 = .ok (.aload_n 0, 1) := by decide +kernel
theorem dMo_comeIn_1 : decode cMo_comeIn 1 = .ok (.getfield 32, 3) := by decide +kernel
theorem dMo_comeIn_4 : decode cMo_comeIn 4 = .ok (.iconst 4, 1) := by decide +kernel
theorem dMo_comeIn_5 : decode cMo_comeIn 5 = .ok (.iload_n 1, 1) := by decide +kernel
theorem dMo_comeIn_6 : decode cMo_comeIn 6 = .ok (.imul, 1) := by decide +kernel
theorem dMo_comeIn_7 : decode cMo_comeIn 7 = .ok (.iload_n 2, 1) := by decide +kernel
theorem dMo_comeIn_8 : decode cMo_comeIn 8 = .ok (.iadd, 1) := by decide +kernel
theorem dMo_comeIn_9 : decode cMo_comeIn 9 = .ok (.iconst 2, 1) := by decide +kernel
theorem dMo_comeIn_10 : decode cMo_comeIn 10 = .ok (.iastore, 1) := by decide +kernel
theorem dMo_comeIn_11 : decode cMo_comeIn 11 = .ok (.aload_n 0, 1) := by decide +kernel
theorem dMo_comeIn_12 : decode cMo_comeIn 12 = .ok (.dup, 1) := by decide +kernel
theorem dMo_comeIn_13 : decode cMo_comeIn 13 = .ok (.getfield 128, 3) := by decide +kernel
theorem dMo_comeIn_16 : decode cMo_comeIn 16 = .ok (.iconst 1, 1) := by decide +kernel
theorem dMo_comeIn_17 : decode cMo_comeIn 17 = .ok (.iadd, 1) := by decide +kernel
theorem dMo_comeIn_18 : decode cMo_comeIn 18 = .ok (.putfield 128, 3) := by decide +kernel
theorem dMo_comeIn_21 : decode cMo_comeIn 21 = .ok (.return_, 1) := by decide +kernel
theorem dMo_isDue_0 : decode cMo_isDue 0 = .ok (.aload_n 0, 1) := by decide +kernel
theorem dMo_isDue_1 : decode cMo_isDue 1 = .ok (.getfield 47, 3) := by decide +kernel
theorem dMo_isDue_4 : decode cMo_isDue 4 = .ok (.iconst 4, 1) := by decide +kernel
theorem dMo_isDue_5 : decode cMo_isDue 5 = .ok (.iload_n 1, 1) := by decide +kernel
theorem dMo_isDue_6 : decode cMo_isDue 6 = .ok (.imul, 1) := by decide +kernel
theorem dMo_isDue_7 : decode cMo_isDue 7 = .ok (.iload_n 2, 1) := by decide +kernel
theorem dMo_isDue_8 : decode cMo_isDue 8 = .ok (.iadd, 1) := by decide +kernel
theorem dMo_isDue_9 : decode cMo_isDue 9 = .ok (.iaload, 1) := by decide +kernel
theorem dMo_isDue_10 : decode cMo_isDue 10 = .ok (.aload_n 0, 1) := by decide +kernel
theorem dMo_isDue_11 : decode cMo_isDue 11 = .ok (.getfield 50, 3) := by decide +kernel
theorem dMo_isDue_14 : decode cMo_isDue 14 = .ok (.iload_n 2, 1) := by decide +kernel
theorem dMo_isDue_15 : decode cMo_isDue 15 = .ok (.iaload, 1) := by decide +kernel
theorem dMo_isDue_16 : decode cMo_isDue 16 = .ok (.iconst 1, 1) := by decide +kernel
theorem dMo_isDue_17 : decode cMo_isDue 17 = .ok (.iadd, 1) := by decide +kernel
theorem dMo_isDue_18 : decode cMo_isDue 18 = .ok (.if_icmp .ne 7, 3) := by decide +kernel
theorem dMo_isDue_21 : decode cMo_isDue 21 = .ok (.iconst 1, 1) := by decide +kernel
theorem dMo_isDue_22 : decode cMo_isDue 22 = .ok (.goto 4, 3) := by decide +kernel
theorem dMo_isDue_25 : decode cMo_isDue 25 = .ok (.iconst 0, 1) := by decide +kernel
theorem dMo_isDue_26 : decode cMo_isDue 26 = .ok (.ireturn, 1) := by decide +kernel
theorem dMo_enqueue_0 : decode cMo_enqueue 0 = .ok (.aload_n 0, 1) := by decide +kernel
theorem dMo_enqueue_1 : decode cMo_enqueue 1 = .ok (.getfield 62, 3) := by decide +kernel
theorem dMo_enqueue_4 : decode cMo_enqueue 4 = .ok (.bipush 8, 2) := by decide +kernel
theorem dMo_enqueue_6 : decode cMo_enqueue 6 = .ok (.iload_n 1, 1) := by decide +kernel
theorem dMo_enqueue_7 : decode cMo_enqueue 7 = .ok (.imul, 1) := by decide +kernel
theorem dMo_enqueue_8 : decode cMo_enqueue 8 = .ok (.aload_n 0, 1) := by decide +kernel
theorem dMo_enqueue_9 : decode cMo_enqueue 9 = .ok (.getfield 59, 3) := by decide +kernel
theorem dMo_enqueue_12 : decode cMo_enqueue 12 = .ok (.iload_n 1, 1) := by decide +kernel
theorem dMo_enqueue_13 : decode cMo_enqueue 13 = .ok (.iaload, 1) := by decide +kernel
theorem dMo_enqueue_14 : decode cMo_enqueue 14 = .ok (.iadd, 1) := by decide +kernel
theorem dMo_enqueue_15 : decode cMo_enqueue 15 = .ok (.iload_n 2, 1) := by decide +kernel
theorem dMo_enqueue_16 : decode cMo_enqueue 16 = .ok (.iastore, 1) := by decide +kernel
theorem dMo_enqueue_17 : decode cMo_enqueue 17 = .ok (.aload_n 0, 1) := by decide +kernel
theorem dMo_enqueue_18 : decode cMo_enqueue 18 = .ok (.getfield 59, 3) := by decide +kernel
theorem dMo_enqueue_21 : decode cMo_enqueue 21 = .ok (.iload_n 1, 1) := by decide +kernel
theorem dMo_enqueue_22 : decode cMo_enqueue 22 = .ok (.dup2, 1) := by decide +kernel
theorem dMo_enqueue_23 : decode cMo_enqueue 23 = .ok (.iaload, 1) := by decide +kernel
theorem dMo_enqueue_24 : decode cMo_enqueue 24 = .ok (.iconst 1, 1) := by decide +kernel
theorem dMo_enqueue_25 : decode cMo_enqueue 25 = .ok (.iadd, 1) := by decide +kernel
theorem dMo_enqueue_26 : decode cMo_enqueue 26 = .ok (.iastore, 1) := by decide +kernel
theorem dMo_enqueue_27 : decode cMo_enqueue 27 = .ok (.return_, 1) := by decide +kernel
theorem dMo_dequeue_0 : decode cMo_dequeue 0 = .ok (.aload_n 0, 1) := by decide +kernel
theorem dMo_dequeue_1 : decode cMo_dequeue 1 = .ok (.getfield 62, 3) := by decide +kernel
theorem dMo_dequeue_4 : decode cMo_dequeue 4 = .ok (.bipush 8, 2) := by decide +kernel
theorem dMo_dequeue_6 : decode cMo_dequeue 6 = .ok (.iload_n 1, 1) := by decide +kernel
theorem dMo_dequeue_7 : decode cMo_dequeue 7 = .ok (.imul, 1) := by decide +kernel
theorem dMo_dequeue_8 : decode cMo_dequeue 8 = .ok (.iaload, 1) := by decide +kernel
theorem dMo_dequeue_9 : decode cMo_dequeue 9 = .ok (.istore_n 2, 1) := by decide +kernel
theorem dMo_dequeue_10 : decode cMo_dequeue 10 = .ok (.aload_n 0, 1) := by decide +kernel
theorem dMo_dequeue_11 : decode cMo_dequeue 11 = .ok (.getfield 59, 3) := by decide +kernel
theorem dMo_dequeue_14 : decode cMo_dequeue 14 = .ok (.iload_n 1, 1) := by decide +kernel
theorem dMo_dequeue_15 : decode cMo_dequeue 15 = .ok (.dup2, 1) := by decide +kernel
theorem dMo_dequeue_16 : decode cMo_dequeue 16 = .ok (.iaload, 1) := by decide +kernel
theorem dMo_dequeue_17 : decode cMo_dequeue 17 = .ok (.iconst 1, 1) := by decide +kernel
theorem dMo_dequeue_18 : decode cMo_dequeue 18 = .ok (.isub, 1) := by decide +kernel
theorem dMo_dequeue_19 : decode cMo_dequeue 19 = .ok (.iastore, 1) := by decide +kernel
theorem dMo_dequeue_20 : decode cMo_dequeue 20 = .ok (.iconst 0, 1) := by decide +kernel
theorem dMo_dequeue_21 : decode cMo_dequeue 21 = .ok (.istore_n 3, 1) := by decide +kernel
theorem dMo_dequeue_22 : decode cMo_dequeue 22 = .ok (.iload_n 3, 1) := by decide +kernel
theorem dMo_dequeue_23 : decode cMo_dequeue 23 = .ok (.aload_n 0, 1) := by decide +kernel
theorem dMo_dequeue_24 : decode cMo_dequeue 24 = .ok (.getfield 59, 3) := by decide +kernel
theorem dMo_dequeue_27 : decode cMo_dequeue 27 = .ok (.iload_n 1, 1) := by decide +kernel
theorem dMo_dequeue_28 : decode cMo_dequeue 28 = .ok (.iaload, 1) := by decide +kernel
theorem dMo_dequeue_29 : decode cMo_dequeue 29 = .ok (.if_icmp .ge 33, 3) := by decide +kernel
theorem dMo_dequeue_32 : decode cMo_dequeue 32 = .ok (.aload_n 0, 1) := by decide +kernel
theorem dMo_dequeue_33 : decode cMo_dequeue 33 = .ok (.getfield 62, 3) := by decide +kernel
theorem dMo_dequeue_36 : decode cMo_dequeue 36 = .ok (.bipush 8, 2) := by decide +kernel
theorem dMo_dequeue_38 : decode cMo_dequeue 38 = .ok (.iload_n 1, 1) := by decide +kernel
theorem dMo_dequeue_39 : decode cMo_dequeue 39 = .ok (.imul, 1) := by decide +kernel
theorem dMo_dequeue_40 : decode cMo_dequeue 40 = .ok (.iload_n 3, 1) := by decide +kernel
theorem dMo_dequeue_41 : decode cMo_dequeue 41 = .ok (.iadd, 1) := by decide +kernel
theorem dMo_dequeue_42 : decode cMo_dequeue 42 = .ok (.aload_n 0, 1) := by decide +kernel
theorem dMo_dequeue_43 : decode cMo_dequeue 43 = .ok (.getfield 62, 3) := by decide +kernel
theorem dMo_dequeue_46 : decode cMo_dequeue 46 = .ok (.bipush 8, 2) := by decide +kernel
theorem dMo_dequeue_48 : decode cMo_dequeue 48 = .ok (.iload_n 1, 1) := by decide +kernel
theorem dMo_dequeue_49 : decode cMo_dequeue 49 = .ok (.imul, 1) := by decide +kernel
theorem dMo_dequeue_50 : decode cMo_dequeue 50 = .ok (.iload_n 3, 1) := by decide +kernel
theorem dMo_dequeue_51 : decode cMo_dequeue 51 = .ok (.iadd, 1) := by decide +kernel
theorem dMo_dequeue_52 : decode cMo_dequeue 52 = .ok (.iconst 1, 1) := by decide +kernel
theorem dMo_dequeue_53 : decode cMo_dequeue 53 = .ok (.iadd, 1) := by decide +kernel
theorem dMo_dequeue_54 : decode cMo_dequeue 54 = .ok (.iaload, 1) := by decide +kernel
theorem dMo_dequeue_55 : decode cMo_dequeue 55 = .ok (.iastore, 1) := by decide +kernel
theorem dMo_dequeue_56 : decode cMo_dequeue 56 = .ok (.iinc 3 1, 3) := by decide +kernel
theorem dMo_dequeue_59 : decode cMo_dequeue 59 = .ok (.goto (-37), 3) := by decide +kernel
theorem dMo_dequeue_62 : decode cMo_dequeue 62 = .ok (.iload_n 2, 1) := by decide +kernel
theorem dMo_dequeue_63 : decode cMo_dequeue 63 = .ok (.ireturn, 1) := by decide +kernel
theorem dMo_goOn_0 : decode cMo_goOn 0 = .ok (.aload_n 0, 1) := by decide +kernel
theorem dMo_goOn_1 : decode cMo_goOn 1 = .ok (.getfield 56, 3) := by decide +kernel
theorem dMo_goOn_4 : decode cMo_goOn 4 = .ok (.iload_n 1, 1) := by decide +kernel
theorem dMo_goOn_5 : decode cMo_goOn 5 = .ok (.iaload, 1) := by decide +kernel
theorem dMo_goOn_6 : decode cMo_goOn 6 = .ok (.iload_n 1, 1) := by decide +kernel
theorem dMo_goOn_7 : decode cMo_goOn 7 = .ok (.if_icmp .ne 68, 3) := by decide +kernel
theorem dMo_goOn_10 : decode cMo_goOn 10 = .ok (.aload_n 0, 1) := by decide +kernel
theorem dMo_goOn_11 : decode cMo_goOn 11 = .ok (.getfield 32, 3) := by decide +kernel
theorem dMo_goOn_14 : decode cMo_goOn 14 = .ok (.bipush 8, 2) := by decide +kernel
theorem dMo_goOn_16 : decode cMo_goOn 16 = .ok (.iload_n 1, 1) := by decide +kernel
theorem dMo_goOn_17 : decode cMo_goOn 17 = .ok (.iadd, 1) := by decide +kernel
theorem dMo_goOn_18 : decode cMo_goOn 18 = .ok (.iaload, 1) := by decide +kernel
theorem dMo_goOn_19 : decode cMo_goOn 19 = .ok (.iconst 2, 1) := by decide +kernel
theorem dMo_goOn_20 : decode cMo_goOn 20 = .ok (.if_icmp .eq 55, 3) := by decide +kernel
theorem dMo_goOn_23 : decode cMo_goOn 23 = .ok (.aload_n 0, 1) := by decide +kernel
theorem dMo_goOn_24 : decode cMo_goOn 24 = .ok (.getfield 59, 3) := by decide +kernel
theorem dMo_goOn_27 : decode cMo_goOn 27 = .ok (.iload_n 1, 1) := by decide +kernel
theorem dMo_goOn_28 : decode cMo_goOn 28 = .ok (.iaload, 1) := by decide +kernel
theorem dMo_goOn_29 : decode cMo_goOn 29 = .ok (.ifCond .le 46, 3) := by decide +kernel
theorem dMo_goOn_32 : decode cMo_goOn 32 = .ok (.aload_n 0, 1) := by decide +kernel
theorem dMo_goOn_33 : decode cMo_goOn 33 = .ok (.iload_n 1, 1) := by decide +kernel
theorem dMo_goOn_34 : decode cMo_goOn 34 = .ok (.invokevirtual 160, 3) := by decide +kernel
theorem dMo_goOn_37 : decode cMo_goOn 37 = .ok (.istore_n 2, 1) := by decide +kernel
theorem dMo_goOn_38 : decode cMo_goOn 38 = .ok (.aload_n 0, 1) := by decide +kernel
theorem dMo_goOn_39 : decode cMo_goOn 39 = .ok (.getfield 65, 3) := by decide +kernel
theorem dMo_goOn_42 : decode cMo_goOn 42 = .ok (.iload_n 1, 1) := by decide +kernel
theorem dMo_goOn_43 : decode cMo_goOn 43 = .ok (.iconst 0, 1) := by decide +kernel
theorem dMo_goOn_44 : decode cMo_goOn 44 = .ok (.bastore, 1) := by decide +kernel
theorem dMo_goOn_45 : decode cMo_goOn 45 = .ok (.iload_n 2, 1) := by decide +kernel
theorem dMo_goOn_46 : decode cMo_goOn 46 = .ok (.iload_n 1, 1) := by decide +kernel
theorem dMo_goOn_47 : decode cMo_goOn 47 = .ok (.if_icmp .ne 12, 3) := by decide +kernel
theorem dMo_goOn_50 : decode cMo_goOn 50 = .ok (.aload_n 0, 1) := by decide +kernel
theorem dMo_goOn_51 : decode cMo_goOn 51 = .ok (.iconst 2, 1) := by decide +kernel
theorem dMo_goOn_52 : decode cMo_goOn 52 = .ok (.iload_n 1, 1) := by decide +kernel
theorem dMo_goOn_53 : decode cMo_goOn 53 = .ok (.invokevirtual 137, 3) := by decide +kernel
theorem dMo_goOn_56 : decode cMo_goOn 56 = .ok (.goto 19, 3) := by decide +kernel
theorem dMo_goOn_59 : decode cMo_goOn 59 = .ok (.aload_n 0, 1) := by decide +kernel
theorem dMo_goOn_60 : decode cMo_goOn 60 = .ok (.getfield 56, 3) := by decide +kernel
theorem dMo_goOn_63 : decode cMo_goOn 63 = .ok (.iload_n 1, 1) := by decide +kernel
theorem dMo_goOn_64 : decode cMo_goOn 64 = .ok (.iload_n 2, 1) := by decide +kernel
theorem dMo_goOn_65 : decode cMo_goOn 65 = .ok (.iastore, 1) := by decide +kernel
theorem dMo_goOn_66 : decode cMo_goOn 66 = .ok (.aload_n 0, 1) := by decide +kernel
theorem dMo_goOn_67 : decode cMo_goOn 67 = .ok (.iload_n 1, 1) := by decide +kernel
theorem dMo_goOn_68 : decode cMo_goOn 68 = .ok (.iload_n 2, 1) := by decide +kernel
theorem dMo_goOn_69 : decode cMo_goOn 69 = .ok (.iconst 2, 1) := by decide +kernel
theorem dMo_goOn_70 : decode cMo_goOn 70 = .ok (.iconst 1, 1) := by decide +kernel
theorem dMo_goOn_71 : decode cMo_goOn 71 = .ok (.iconst 0, 1) := by decide +kernel
theorem dMo_goOn_72 : decode cMo_goOn 72 = .ok (.invokevirtual 99, 3) := by decide +kernel
theorem dMo_goOn_75 : decode cMo_goOn 75 = .ok (.aload_n 0, 1) := by decide +kernel
theorem dMo_goOn_76 : decode cMo_goOn 76 = .ok (.getfield 56, 3) := by decide +kernel
theorem dMo_goOn_79 : decode cMo_goOn 79 = .ok (.iload_n 1, 1) := by decide +kernel
theorem dMo_goOn_80 : decode cMo_goOn 80 = .ok (.iaload, 1) := by decide +kernel
theorem dMo_goOn_81 : decode cMo_goOn 81 = .ok (.iload_n 1, 1) := by decide +kernel
theorem dMo_goOn_82 : decode cMo_goOn 82 = .ok (.if_icmp .eq 42, 3) := by decide +kernel
theorem dMo_goOn_85 : decode cMo_goOn 85 = .ok (.aload_n 0, 1) := by decide +kernel
theorem dMo_goOn_86 : decode cMo_goOn 86 = .ok (.getfield 59, 3) := by decide +kernel
theorem dMo_goOn_89 : decode cMo_goOn 89 = .ok (.iload_n 1, 1) := by decide +kernel
theorem dMo_goOn_90 : decode cMo_goOn 90 = .ok (.iaload, 1) := by decide +kernel
theorem dMo_goOn_91 : decode cMo_goOn 91 = .ok (.ifCond .le 33, 3) := by decide +kernel
theorem dMo_goOn_94 : decode cMo_goOn 94 = .ok (.aload_n 0, 1) := by decide +kernel
theorem dMo_goOn_95 : decode cMo_goOn 95 = .ok (.getfield 65, 3) := by decide +kernel
theorem dMo_goOn_98 : decode cMo_goOn 98 = .ok (.iload_n 1, 1) := by decide +kernel
theorem dMo_goOn_99 : decode cMo_goOn 99 = .ok (.baload, 1) := by decide +kernel
theorem dMo_goOn_100 : decode cMo_goOn 100 = .ok (.ifCond .ne 24, 3) := by decide +kernel
theorem dMo_goOn_103 : decode cMo_goOn 103 = .ok (.aload_n 0, 1) := by decide +kernel
theorem dMo_goOn_104 : decode cMo_goOn 104 = .ok (.getfield 65, 3) := by decide +kernel
theorem dMo_goOn_107 : decode cMo_goOn 107 = .ok (.iload_n 1, 1) := by decide +kernel
theorem dMo_goOn_108 : decode cMo_goOn 108 = .ok (.iconst 1, 1) := by decide +kernel
theorem dMo_goOn_109 : decode cMo_goOn 109 = .ok (.bastore, 1) := by decide +kernel
theorem dMo_goOn_110 : decode cMo_goOn 110 = .ok (.aload_n 0, 1) := by decide +kernel
theorem dMo_goOn_111 : decode cMo_goOn 111 = .ok (.iload_n 1, 1) := by decide +kernel
theorem dMo_goOn_112 : decode cMo_goOn 112 = .ok (.aload_n 0, 1) := by decide +kernel
theorem dMo_goOn_113 : decode cMo_goOn 113 = .ok (.getfield 56, 3) := by decide +kernel
theorem dMo_goOn_116 : decode cMo_goOn 116 = .ok (.iload_n 1, 1) := by decide +kernel
theorem dMo_goOn_117 : decode cMo_goOn 117 = .ok (.iaload, 1) := by decide +kernel
theorem dMo_goOn_118 : decode cMo_goOn 118 = .ok (.iconst 2, 1) := by decide +kernel
theorem dMo_goOn_119 : decode cMo_goOn 119 = .ok (.iconst 0, 1) := by decide +kernel
theorem dMo_goOn_120 : decode cMo_goOn 120 = .ok (.iconst 0, 1) := by decide +kernel
theorem dMo_goOn_121 : decode cMo_goOn 121 = .ok (.invokevirtual 99, 3) := by decide +kernel
theorem dMo_goOn_124 : decode cMo_goOn 124 = .ok (.return_, 1) := by decide +kernel
theorem dMo_passToken_0 : decode cMo_passToken 0 = .ok (.aload_n 0, 1) := by decide +kernel
theorem dMo_passToken_1 : decode cMo_passToken 1 = .ok (.getfield 50, 3) := by decide +kernel
theorem dMo_passToken_4 : decode cMo_passToken 4 = .ok (.iload_n 1, 1) := by decide +kernel
theorem dMo_passToken_5 : decode cMo_passToken 5 = .ok (.aload_n 0, 1) := by decide +kernel
theorem dMo_passToken_6 : decode cMo_passToken 6 = .ok (.getfield 47, 3) := by decide +kernel
theorem dMo_passToken_9 : decode cMo_passToken 9 = .ok (.iconst 5, 1) := by decide +kernel
theorem dMo_passToken_10 : decode cMo_passToken 10 = .ok (.iload_n 1, 1) := by decide +kernel
theorem dMo_passToken_11 : decode cMo_passToken 11 = .ok (.imul, 1) := by decide +kernel
theorem dMo_passToken_12 : decode cMo_passToken 12 = .ok (.iaload, 1) := by decide +kernel
theorem dMo_passToken_13 : decode cMo_passToken 13 = .ok (.iastore, 1) := by decide +kernel
theorem dMo_passToken_14 : decode cMo_passToken 14 = .ok (.iconst 0, 1) := by decide +kernel
theorem dMo_passToken_15 : decode cMo_passToken 15 = .ok (.istore_n 2, 1) := by decide +kernel
theorem dMo_passToken_16 : decode cMo_passToken 16 = .ok (.iload_n 2, 1) := by decide +kernel
theorem dMo_passToken_17 : decode cMo_passToken 17 = .ok (.iconst 4, 1) := by decide +kernel
theorem dMo_passToken_18 : decode cMo_passToken 18 = .ok (.if_icmp .ge 83, 3) := by decide +kernel
theorem dMo_passToken_21 : decode cMo_passToken 21 = .ok (.iconst 0, 1) := by decide +kernel
theorem dMo_passToken_22 : decode cMo_passToken 22 = .ok (.istore_n 3, 1) := by decide +kernel
theorem dMo_passToken_23 : decode cMo_passToken 23 = .ok (.iconst 0, 1) := by decide +kernel
theorem dMo_passToken_24 : decode cMo_passToken 24 = .ok (.istore 4, 2) := by decide +kernel
theorem dMo_passToken_26 : decode cMo_passToken 26 = .ok (.iload 4, 2) := by decide +kernel
theorem dMo_passToken_28 : decode cMo_passToken 28 = .ok (.aload_n 0, 1) := by decide +kernel
theorem dMo_passToken_29 : decode cMo_passToken 29 = .ok (.getfield 157, 3) := by decide +kernel
theorem dMo_passToken_32 : decode cMo_passToken 32 = .ok (.if_icmp .ge 30, 3) := by decide +kernel
theorem dMo_passToken_35 : decode cMo_passToken 35 = .ok (.iload_n 3, 1) := by decide +kernel
theorem dMo_passToken_36 : decode cMo_passToken 36 = .ok (.ifCond .ne 14, 3) := by decide +kernel
theorem dMo_passToken_39 : decode cMo_passToken 39 = .ok (.aload_n 0, 1) := by decide +kernel
theorem dMo_passToken_40 : decode cMo_passToken 40 = .ok (.getfield 53, 3) := by decide +kernel
theorem dMo_passToken_43 : decode cMo_passToken 43 = .ok (.iload 4, 2) := by decide +kernel
theorem dMo_passToken_45 : decode cMo_passToken 45 = .ok (.iaload, 1) := by decide +kernel
theorem dMo_passToken_46 : decode cMo_passToken 46 = .ok (.iload_n 2, 1) := by decide +kernel
theorem dMo_passToken_47 : decode cMo_passToken 47 = .ok (.if_icmp .ne 7, 3) := by decide +kernel
theorem dMo_passToken_50 : decode cMo_passToken 50 = .ok (.iconst 1, 1) := by decide +kernel
theorem dMo_passToken_51 : decode cMo_passToken 51 = .ok (.goto 4, 3) := by decide +kernel
theorem dMo_passToken_54 : decode cMo_passToken 54 = .ok (.iconst 0, 1) := by decide +kernel
theorem dMo_passToken_55 : decode cMo_passToken 55 = .ok (.istore_n 3, 1) := by decide +kernel
theorem dMo_passToken_56 : decode cMo_passToken 56 = .ok (.iinc 4 1, 3) := by decide +kernel
theorem dMo_passToken_59 : decode cMo_passToken 59 = .ok (.goto (-33), 3) := by decide +kernel
theorem dMo_passToken_62 : decode cMo_passToken 62 = .ok (.iload_n 3, 1) := by decide +kernel
theorem dMo_passToken_63 : decode cMo_passToken 63 = .ok (.ifCond .ne 32, 3) := by decide +kernel
theorem dMo_passToken_66 : decode cMo_passToken 66 = .ok (.aload_n 0, 1) := by decide +kernel
theorem dMo_passToken_67 : decode cMo_passToken 67 = .ok (.iload_n 1, 1) := by decide +kernel
theorem dMo_passToken_68 : decode cMo_passToken 68 = .ok (.iload_n 2, 1) := by decide +kernel
theorem dMo_passToken_69 : decode cMo_passToken 69 = .ok (.invokevirtual 154, 3) := by decide +kernel
theorem dMo_passToken_72 : decode cMo_passToken 72 = .ok (.ifCond .eq 23, 3) := by decide +kernel
theorem dMo_passToken_75 : decode cMo_passToken 75 = .ok (.aload_n 0, 1) := by decide +kernel
theorem dMo_passToken_76 : decode cMo_passToken 76 = .ok (.getfield 53, 3) := by decide +kernel
theorem dMo_passToken_79 : decode cMo_passToken 79 = .ok (.aload_n 0, 1) := by decide +kernel
theorem dMo_passToken_80 : decode cMo_passToken 80 = .ok (.getfield 157, 3) := by decide +kernel
theorem dMo_passToken_83 : decode cMo_passToken 83 = .ok (.iload_n 2, 1) := by decide +kernel
theorem dMo_passToken_84 : decode cMo_passToken 84 = .ok (.iastore, 1) := by decide +kernel
theorem dMo_passToken_85 : decode cMo_passToken 85 = .ok (.aload_n 0, 1) := by decide +kernel
theorem dMo_passToken_86 : decode cMo_passToken 86 = .ok (.dup, 1) := by decide +kernel
theorem dMo_passToken_87 : decode cMo_passToken 87 = .ok (.getfield 157, 3) := by decide +kernel
theorem dMo_passToken_90 : decode cMo_passToken 90 = .ok (.iconst 1, 1) := by decide +kernel
theorem dMo_passToken_91 : decode cMo_passToken 91 = .ok (.iadd, 1) := by decide +kernel
theorem dMo_passToken_92 : decode cMo_passToken 92 = .ok (.putfield 157, 3) := by decide +kernel
theorem dMo_passToken_95 : decode cMo_passToken 95 = .ok (.iinc 2 1, 3) := by decide +kernel
theorem dMo_passToken_98 : decode cMo_passToken 98 = .ok (.goto (-82), 3) := by decide +kernel
theorem dMo_passToken_101 : decode cMo_passToken 101 = .ok (.aload_n 0, 1) := by decide +kernel
theorem dMo_passToken_102 : decode cMo_passToken 102 = .ok (.getfield 157, 3) := by decide +kernel
theorem dMo_passToken_105 : decode cMo_passToken 105 = .ok (.ifCond .le 64, 3) := by decide +kernel
theorem dMo_passToken_108 : decode cMo_passToken 108 = .ok (.aload_n 0, 1) := by decide +kernel
theorem dMo_passToken_109 : decode cMo_passToken 109 = .ok (.getfield 53, 3) := by decide +kernel
theorem dMo_passToken_112 : decode cMo_passToken 112 = .ok (.iconst 0, 1) := by decide +kernel
theorem dMo_passToken_113 : decode cMo_passToken 113 = .ok (.iaload, 1) := by decide +kernel
theorem dMo_passToken_114 : decode cMo_passToken 114 = .ok (.istore_n 2, 1) := by decide +kernel
theorem dMo_passToken_115 : decode cMo_passToken 115 = .ok (.aload_n 0, 1) := by decide +kernel
theorem dMo_passToken_116 : decode cMo_passToken 116 = .ok (.dup, 1) := by decide +kernel
theorem dMo_passToken_117 : decode cMo_passToken 117 = .ok (.getfield 157, 3) := by decide +kernel
theorem dMo_passToken_120 : decode cMo_passToken 120 = .ok (.iconst 1, 1) := by decide +kernel
theorem dMo_passToken_121 : decode cMo_passToken 121 = .ok (.isub, 1) := by decide +kernel
theorem dMo_passToken_122 : decode cMo_passToken 122 = .ok (.putfield 157, 3) := by decide +kernel
theorem dMo_passToken_125 : decode cMo_passToken 125 = .ok (.iconst 0, 1) := by decide +kernel
theorem dMo_passToken_126 : decode cMo_passToken 126 = .ok (.istore_n 3, 1) := by decide +kernel
theorem dMo_passToken_127 : decode cMo_passToken 127 = .ok (.iload_n 3, 1) := by decide +kernel
theorem dMo_passToken_128 : decode cMo_passToken 128 = .ok (.aload_n 0, 1) := by decide +kernel
theorem dMo_passToken_129 : decode cMo_passToken 129 = .ok (.getfield 157, 3) := by decide +kernel
theorem dMo_passToken_132 : decode cMo_passToken 132 = .ok (.if_icmp .ge 23, 3) := by decide +kernel
theorem dMo_passToken_135 : decode cMo_passToken 135 = .ok (.aload_n 0, 1) := by decide +kernel
theorem dMo_passToken_136 : decode cMo_passToken 136 = .ok (.getfield 53, 3) := by decide +kernel
theorem dMo_passToken_139 : decode cMo_passToken 139 = .ok (.iload_n 3, 1) := by decide +kernel
theorem dMo_passToken_140 : decode cMo_passToken 140 = .ok (.aload_n 0, 1) := by decide +kernel
theorem dMo_passToken_141 : decode cMo_passToken 141 = .ok (.getfield 53, 3) := by decide +kernel
theorem dMo_passToken_144 : decode cMo_passToken 144 = .ok (.iload_n 3, 1) := by decide +kernel
theorem dMo_passToken_145 : decode cMo_passToken 145 = .ok (.iconst 1, 1) := by decide +kernel
theorem dMo_passToken_146 : decode cMo_passToken 146 = .ok (.iadd, 1) := by decide +kernel
theorem dMo_passToken_147 : decode cMo_passToken 147 = .ok (.iaload, 1) := by decide +kernel
theorem dMo_passToken_148 : decode cMo_passToken 148 = .ok (.iastore, 1) := by decide +kernel
theorem dMo_passToken_149 : decode cMo_passToken 149 = .ok (.iinc 3 1, 3) := by decide +kernel
theorem dMo_passToken_152 : decode cMo_passToken 152 = .ok (.goto (-25), 3) := by decide +kernel
theorem dMo_passToken_155 : decode cMo_passToken 155 = .ok (.aload_n 0, 1) := by decide +kernel
theorem dMo_passToken_156 : decode cMo_passToken 156 = .ok (.iconst (-1), 1) := by decide +kernel
theorem dMo_passToken_157 : decode cMo_passToken 157 = .ok (.putfield 134, 3) := by decide +kernel
theorem dMo_passToken_160 : decode cMo_passToken 160 = .ok (.aload_n 0, 1) := by decide +kernel
theorem dMo_passToken_161 : decode cMo_passToken 161 = .ok (.iload_n 1, 1) := by decide +kernel
theorem dMo_passToken_162 : decode cMo_passToken 162 = .ok (.iload_n 2, 1) := by decide +kernel
theorem dMo_passToken_163 : decode cMo_passToken 163 = .ok (.iconst 1, 1) := by decide +kernel
theorem dMo_passToken_164 : decode cMo_passToken 164 = .ok (.iconst 1, 1) := by decide +kernel
theorem dMo_passToken_165 : decode cMo_passToken 165 = .ok (.iconst 0, 1) := by decide +kernel
theorem dMo_passToken_166 : decode cMo_passToken 166 = .ok (.invokevirtual 99, 3) := by decide +kernel
theorem dMo_passToken_169 : decode cMo_passToken 169 = .ok (.return_, 1) := by decide +kernel
theorem dMo_settle_0 : decode cMo_settle 0 = .ok (.aload_n 0, 1) := by decide +kernel
theorem dMo_settle_1 : decode cMo_settle 1 = .ok (.getfield 81, 3) := by decide +kernel
theorem dMo_settle_4 : decode cMo_settle 4 = .ok (.iload_n 1, 1) := by decide +kernel
theorem dMo_settle_5 : decode cMo_settle 5 = .ok (.baload, 1) := by decide +kernel
theorem dMo_settle_6 : decode cMo_settle 6 = .ok (.ifCond .ne 12, 3) := by decide +kernel
theorem dMo_settle_9 : decode cMo_settle 9 = .ok (.aload_n 0, 1) := by decide +kernel
theorem dMo_settle_10 : decode cMo_settle 10 = .ok (.getfield 87, 3) := by decide +kernel
theorem dMo_settle_13 : decode cMo_settle 13 = .ok (.iload_n 1, 1) := by decide +kernel
theorem dMo_settle_14 : decode cMo_settle 14 = .ok (.iaload, 1) := by decide +kernel
theorem dMo_settle_15 : decode cMo_settle 15 = .ok (.ifCond .le 4, 3) := by decide +kernel
theorem dMo_settle_18 : decode cMo_settle 18 = .ok (.return_, 1) := by decide +kernel
theorem dMo_settle_19 : decode cMo_settle 19 = .ok (.aload_n 0, 1) := by decide +kernel
theorem dMo_settle_20 : decode cMo_settle 20 = .ok (.getfield 84, 3) := by decide +kernel
theorem dMo_settle_23 : decode cMo_settle 23 = .ok (.iload_n 1, 1) := by decide +kernel
theorem dMo_settle_24 : decode cMo_settle 24 = .ok (.iaload, 1) := by decide +kernel
theorem dMo_settle_25 : decode cMo_settle 25 = .ok (.ifCond .lt 29, 3) := by decide +kernel
theorem dMo_settle_28 : decode cMo_settle 28 = .ok (.aload_n 0, 1) := by decide +kernel
theorem dMo_settle_29 : decode cMo_settle 29 = .ok (.getfield 84, 3) := by decide +kernel
theorem dMo_settle_32 : decode cMo_settle 32 = .ok (.iload_n 1, 1) := by decide +kernel
theorem dMo_settle_33 : decode cMo_settle 33 = .ok (.iaload, 1) := by decide +kernel
theorem dMo_settle_34 : decode cMo_settle 34 = .ok (.istore_n 2, 1) := by decide +kernel
theorem dMo_settle_35 : decode cMo_settle 35 = .ok (.aload_n 0, 1) := by decide +kernel
theorem dMo_settle_36 : decode cMo_settle 36 = .ok (.getfield 84, 3) := by decide +kernel
theorem dMo_settle_39 : decode cMo_settle 39 = .ok (.iload_n 1, 1) := by decide +kernel
theorem dMo_settle_40 : decode cMo_settle 40 = .ok (.iconst (-1), 1) := by decide +kernel
theorem dMo_settle_41 : decode cMo_settle 41 = .ok (.iastore, 1) := by decide +kernel
theorem dMo_settle_42 : decode cMo_settle 42 = .ok (.aload_n 0, 1) := by decide +kernel
theorem dMo_settle_43 : decode cMo_settle 43 = .ok (.iload_n 1, 1) := by decide +kernel
theorem dMo_settle_44 : decode cMo_settle 44 = .ok (.iload_n 2, 1) := by decide +kernel
theorem dMo_settle_45 : decode cMo_settle 45 = .ok (.iconst 4, 1) := by decide +kernel
theorem dMo_settle_46 : decode cMo_settle 46 = .ok (.iconst 1, 1) := by decide +kernel
theorem dMo_settle_47 : decode cMo_settle 47 = .ok (.iconst 0, 1) := by decide +kernel
theorem dMo_settle_48 : decode cMo_settle 48 = .ok (.invokevirtual 99, 3) := by decide +kernel
theorem dMo_settle_51 : decode cMo_settle 51 = .ok (.goto 26, 3) := by decide +kernel
theorem dMo_settle_54 : decode cMo_settle 54 = .ok (.aload_n 0, 1) := by decide +kernel
theorem dMo_settle_55 : decode cMo_settle 55 = .ok (.getfield 78, 3) := by decide +kernel
theorem dMo_settle_58 : decode cMo_settle 58 = .ok (.iload_n 1, 1) := by decide +kernel
theorem dMo_settle_59 : decode cMo_settle 59 = .ok (.if_icmp .ne 18, 3) := by decide +kernel
theorem dMo_settle_62 : decode cMo_settle 62 = .ok (.aload_n 0, 1) := by decide +kernel
theorem dMo_settle_63 : decode cMo_settle 63 = .ok (.iconst (-1), 1) := by decide +kernel
theorem dMo_settle_64 : decode cMo_settle 64 = .ok (.putfield 78, 3) := by decide +kernel
theorem dMo_settle_67 : decode cMo_settle 67 = .ok (.aload_n 0, 1) := by decide +kernel
theorem dMo_settle_68 : decode cMo_settle 68 = .ok (.dup, 1) := by decide +kernel
theorem dMo_settle_69 : decode cMo_settle 69 = .ok (.getfield 164, 3) := by decide +kernel
theorem dMo_settle_72 : decode cMo_settle 72 = .ok (.iconst 1, 1) := by decide +kernel
theorem dMo_settle_73 : decode cMo_settle 73 = .ok (.iadd, 1) := by decide +kernel
theorem dMo_settle_74 : decode cMo_settle 74 = .ok (.putfield 164, 3) := by decide +kernel
theorem dMo_settle_77 : decode cMo_settle 77 = .ok (.return_, 1) := by decide +kernel
theorem dMo_stampArrives_0 : decode cMo_stampArrives 0 = .ok (.iload_n 3, 1) := by decide +kernel
theorem dMo_stampArrives_1 : decode cMo_stampArrives 1 = .ok (.iconst 1, 1) := by decide +kernel
theorem dMo_stampArrives_2 : decode cMo_stampArrives 2 = .ok (.if_icmp .ne 40, 3) := by decide +kernel
theorem dMo_stampArrives_5 : decode cMo_stampArrives 5 = .ok (.aload_n 0, 1) := by decide +kernel
theorem dMo_stampArrives_6 : decode cMo_stampArrives 6 = .ok (.getfield 41, 3) := by decide +kernel
theorem dMo_stampArrives_9 : decode cMo_stampArrives 9 = .ok (.iload_n 2, 1) := by decide +kernel
theorem dMo_stampArrives_10 : decode cMo_stampArrives 10 = .ok (.dup2, 1) := by decide +kernel
theorem dMo_stampArrives_11 : decode cMo_stampArrives 11 = .ok (.iaload, 1) := by decide +kernel
theorem dMo_stampArrives_12 : decode cMo_stampArrives 12 = .ok (.iconst 1, 1) := by decide +kernel
theorem dMo_stampArrives_13 : decode cMo_stampArrives 13 = .ok (.iadd, 1) := by decide +kernel
theorem dMo_stampArrives_14 : decode cMo_stampArrives 14 = .ok (.iastore, 1) := by decide +kernel
theorem dMo_stampArrives_15 : decode cMo_stampArrives 15 = .ok (.aload_n 0, 1) := by decide +kernel
theorem dMo_stampArrives_16 : decode cMo_stampArrives 16 = .ok (.getfield 41, 3) := by decide +kernel
theorem dMo_stampArrives_19 : decode cMo_stampArrives 19 = .ok (.iload_n 2, 1) := by decide +kernel
theorem dMo_stampArrives_20 : decode cMo_stampArrives 20 = .ok (.iaload, 1) := by decide +kernel
theorem dMo_stampArrives_21 : decode cMo_stampArrives 21 = .ok (.iconst 3, 1) := by decide +kernel
theorem dMo_stampArrives_22 : decode cMo_stampArrives 22 = .ok (.if_icmp .ne 19, 3) := by decide +kernel
theorem dMo_stampArrives_25 : decode cMo_stampArrives 25 = .ok (.aload_n 0, 1) := by decide +kernel
theorem dMo_stampArrives_26 : decode cMo_stampArrives 26 = .ok (.getfield 32, 3) := by decide +kernel
theorem dMo_stampArrives_29 : decode cMo_stampArrives 29 = .ok (.iload_n 2, 1) := by decide +kernel
theorem dMo_stampArrives_30 : decode cMo_stampArrives 30 = .ok (.iaload, 1) := by decide +kernel
theorem dMo_stampArrives_31 : decode cMo_stampArrives 31 = .ok (.iconst 1, 1) := by decide +kernel
theorem dMo_stampArrives_32 : decode cMo_stampArrives 32 = .ok (.if_icmp .ne 9, 3) := by decide +kernel
theorem dMo_stampArrives_35 : decode cMo_stampArrives 35 = .ok (.aload_n 0, 1) := by decide +kernel
theorem dMo_stampArrives_36 : decode cMo_stampArrives 36 = .ok (.iconst 0, 1) := by decide +kernel
theorem dMo_stampArrives_37 : decode cMo_stampArrives 37 = .ok (.iload_n 2, 1) := by decide +kernel
theorem dMo_stampArrives_38 : decode cMo_stampArrives 38 = .ok (.invokevirtual 137, 3) := by decide +kernel
theorem dMo_stampArrives_41 : decode cMo_stampArrives 41 = .ok (.return_, 1) := by decide +kernel
theorem dMo_stampArrives_42 : decode cMo_stampArrives 42 = .ok (.aload_n 0, 1) := by decide +kernel
theorem dMo_stampArrives_43 : decode cMo_stampArrives 43 = .ok (.getfield 35, 3) := by decide +kernel
theorem dMo_stampArrives_46 : decode cMo_stampArrives 46 = .ok (.iload_n 2, 1) := by decide +kernel
theorem dMo_stampArrives_47 : decode cMo_stampArrives 47 = .ok (.iload 4, 2) := by decide +kernel
theorem dMo_stampArrives_49 : decode cMo_stampArrives 49 = .ok (.aload_n 0, 1) := by decide +kernel
theorem dMo_stampArrives_50 : decode cMo_stampArrives 50 = .ok (.getfield 35, 3) := by decide +kernel
theorem dMo_stampArrives_53 : decode cMo_stampArrives 53 = .ok (.iload_n 2, 1) := by decide +kernel
theorem dMo_stampArrives_54 : decode cMo_stampArrives 54 = .ok (.iaload, 1) := by decide +kernel
theorem dMo_stampArrives_55 : decode cMo_stampArrives 55 = .ok (.if_icmp .le 8, 3) := by decide +kernel
theorem dMo_stampArrives_58 : decode cMo_stampArrives 58 = .ok (.iload 4, 2) := by decide +kernel
theorem dMo_stampArrives_60 : decode cMo_stampArrives 60 = .ok (.goto 9, 3) := by decide +kernel
theorem dMo_stampArrives_63 : decode cMo_stampArrives 63 = .ok (.aload_n 0, 1) := by decide +kernel
theorem dMo_stampArrives_64 : decode cMo_stampArrives 64 = .ok (.getfield 35, 3) := by decide +kernel
theorem dMo_stampArrives_67 : decode cMo_stampArrives 67 = .ok (.iload_n 2, 1) := by decide +kernel
theorem dMo_stampArrives_68 : decode cMo_stampArrives 68 = .ok (.iaload, 1) := by decide +kernel
theorem dMo_stampArrives_69 : decode cMo_stampArrives 69 = .ok (.iastore, 1) := by decide +kernel
theorem dMo_stampArrives_70 : decode cMo_stampArrives 70 = .ok (.aload_n 0, 1) := by decide +kernel
theorem dMo_stampArrives_71 : decode cMo_stampArrives 71 = .ok (.getfield 38, 3) := by decide +kernel
theorem dMo_stampArrives_74 : decode cMo_stampArrives 74 = .ok (.iload_n 2, 1) := by decide +kernel
theorem dMo_stampArrives_75 : decode cMo_stampArrives 75 = .ok (.iaload, 1) := by decide +kernel
theorem dMo_stampArrives_76 : decode cMo_stampArrives 76 = .ok (.iload 4, 2) := by decide +kernel
theorem dMo_stampArrives_78 : decode cMo_stampArrives 78 = .ok (.if_icmp .lt 19, 3) := by decide +kernel
theorem dMo_stampArrives_81 : decode cMo_stampArrives 81 = .ok (.aload_n 0, 1) := by decide +kernel
theorem dMo_stampArrives_82 : decode cMo_stampArrives 82 = .ok (.getfield 38, 3) := by decide +kernel
theorem dMo_stampArrives_85 : decode cMo_stampArrives 85 = .ok (.iload_n 2, 1) := by decide +kernel
theorem dMo_stampArrives_86 : decode cMo_stampArrives 86 = .ok (.iaload, 1) := by decide +kernel
theorem dMo_stampArrives_87 : decode cMo_stampArrives 87 = .ok (.iload 4, 2) := by decide +kernel
theorem dMo_stampArrives_89 : decode cMo_stampArrives 89 = .ok (.if_icmp .ne 12, 3) := by decide +kernel
theorem dMo_stampArrives_92 : decode cMo_stampArrives 92 = .ok (.iload_n 2, 1) := by decide +kernel
theorem dMo_stampArrives_93 : decode cMo_stampArrives 93 = .ok (.iload_n 1, 1) := by decide +kernel
theorem dMo_stampArrives_94 : decode cMo_stampArrives 94 = .ok (.if_icmp .ge 7, 3) := by decide +kernel
theorem dMo_stampArrives_97 : decode cMo_stampArrives 97 = .ok (.iconst 1, 1) := by decide +kernel
theorem dMo_stampArrives_98 : decode cMo_stampArrives 98 = .ok (.goto 4, 3) := by decide +kernel
theorem dMo_stampArrives_101 : decode cMo_stampArrives 101 = .ok (.iconst 0, 1) := by decide +kernel
theorem dMo_stampArrives_102 : decode cMo_stampArrives 102 = .ok (.istore 5, 2) := by decide +kernel
theorem dMo_stampArrives_104 : decode cMo_stampArrives 104 = .ok (.aload_n 0, 1) := by decide +kernel
theorem dMo_stampArrives_105 : decode cMo_stampArrives 105 = .ok (.getfield 32, 3) := by decide +kernel
theorem dMo_stampArrives_108 : decode cMo_stampArrives 108 = .ok (.iload_n 2, 1) := by decide +kernel
theorem dMo_stampArrives_109 : decode cMo_stampArrives 109 = .ok (.iaload, 1) := by decide +kernel
theorem dMo_stampArrives_110 : decode cMo_stampArrives 110 = .ok (.iconst 2, 1) := by decide +kernel
theorem dMo_stampArrives_111 : decode cMo_stampArrives 111 = .ok (.if_icmp .eq 18, 3) := by decide +kernel
theorem dMo_stampArrives_114 : decode cMo_stampArrives 114 = .ok (.aload_n 0, 1) := by decide +kernel
theorem dMo_stampArrives_115 : decode cMo_stampArrives 115 = .ok (.getfield 32, 3) := by decide +kernel
theorem dMo_stampArrives_118 : decode cMo_stampArrives 118 = .ok (.iload_n 2, 1) := by decide +kernel
theorem dMo_stampArrives_119 : decode cMo_stampArrives 119 = .ok (.iaload, 1) := by decide +kernel
theorem dMo_stampArrives_120 : decode cMo_stampArrives 120 = .ok (.iconst 1, 1) := by decide +kernel
theorem dMo_stampArrives_121 : decode cMo_stampArrives 121 = .ok (.if_icmp .ne 23, 3) := by decide +kernel
theorem dMo_stampArrives_124 : decode cMo_stampArrives 124 = .ok (.iload 5, 2) := by decide +kernel
theorem dMo_stampArrives_126 : decode cMo_stampArrives 126 = .ok (.ifCond .eq 18, 3) := by decide +kernel
theorem dMo_stampArrives_129 : decode cMo_stampArrives 129 = .ok (.aload_n 0, 1) := by decide +kernel
theorem dMo_stampArrives_130 : decode cMo_stampArrives 130 = .ok (.getfield 44, 3) := by decide +kernel
theorem dMo_stampArrives_133 : decode cMo_stampArrives 133 = .ok (.iload_n 2, 1) := by decide +kernel
theorem dMo_stampArrives_134 : decode cMo_stampArrives 134 = .ok (.dup2, 1) := by decide +kernel
theorem dMo_stampArrives_135 : decode cMo_stampArrives 135 = .ok (.iaload, 1) := by decide +kernel
theorem dMo_stampArrives_136 : decode cMo_stampArrives 136 = .ok (.iconst 1, 1) := by decide +kernel
theorem dMo_stampArrives_137 : decode cMo_stampArrives 137 = .ok (.iload_n 1, 1) := by decide +kernel
theorem dMo_stampArrives_138 : decode cMo_stampArrives 138 = .ok (.ishl, 1) := by decide +kernel
theorem dMo_stampArrives_139 : decode cMo_stampArrives 139 = .ok (.ior, 1) := by decide +kernel
theorem dMo_stampArrives_140 : decode cMo_stampArrives 140 = .ok (.iastore, 1) := by decide +kernel
theorem dMo_stampArrives_141 : decode cMo_stampArrives 141 = .ok (.goto 12, 3) := by decide +kernel
theorem dMo_stampArrives_144 : decode cMo_stampArrives 144 = .ok (.aload_n 0, 1) := by decide +kernel
theorem dMo_stampArrives_145 : decode cMo_stampArrives 145 = .ok (.iload_n 2, 1) := by decide +kernel
theorem dMo_stampArrives_146 : decode cMo_stampArrives 146 = .ok (.iload_n 1, 1) := by decide +kernel
theorem dMo_stampArrives_147 : decode cMo_stampArrives 147 = .ok (.iconst 0, 1) := by decide +kernel
theorem dMo_stampArrives_148 : decode cMo_stampArrives 148 = .ok (.iconst 1, 1) := by decide +kernel
theorem dMo_stampArrives_149 : decode cMo_stampArrives 149 = .ok (.iconst 0, 1) := by decide +kernel
theorem dMo_stampArrives_150 : decode cMo_stampArrives 150 = .ok (.invokevirtual 99, 3) := by decide +kernel
theorem dMo_stampArrives_153 : decode cMo_stampArrives 153 = .ok (.return_, 1) := by decide +kernel
theorem dMo_tokenArrives_0 : decode cMo_tokenArrives 0 = .ok (.iload_n 3, 1) := by decide +kernel
theorem dMo_tokenArrives_1 : decode cMo_tokenArrives 1 = .ok (.iconst 1, 1) := by decide +kernel
theorem dMo_tokenArrives_2 : decode cMo_tokenArrives 2 = .ok (.if_icmp .ne 15, 3) := by decide +kernel
theorem dMo_tokenArrives_5 : decode cMo_tokenArrives 5 = .ok (.aload_n 0, 1) := by decide +kernel
theorem dMo_tokenArrives_6 : decode cMo_tokenArrives 6 = .ok (.iload_n 2, 1) := by decide +kernel
theorem dMo_tokenArrives_7 : decode cMo_tokenArrives 7 = .ok (.putfield 134, 3) := by decide +kernel
theorem dMo_tokenArrives_10 : decode cMo_tokenArrives 10 = .ok (.aload_n 0, 1) := by decide +kernel
theorem dMo_tokenArrives_11 : decode cMo_tokenArrives 11 = .ok (.iconst 1, 1) := by decide +kernel
theorem dMo_tokenArrives_12 : decode cMo_tokenArrives 12 = .ok (.iload_n 2, 1) := by decide +kernel
theorem dMo_tokenArrives_13 : decode cMo_tokenArrives 13 = .ok (.invokevirtual 137, 3) := by decide +kernel
theorem dMo_tokenArrives_16 : decode cMo_tokenArrives 16 = .ok (.return_, 1) := by decide +kernel
theorem dMo_tokenArrives_17 : decode cMo_tokenArrives 17 = .ok (.aload_n 0, 1) := by decide +kernel
theorem dMo_tokenArrives_18 : decode cMo_tokenArrives 18 = .ok (.getfield 47, 3) := by decide +kernel
theorem dMo_tokenArrives_21 : decode cMo_tokenArrives 21 = .ok (.iconst 4, 1) := by decide +kernel
theorem dMo_tokenArrives_22 : decode cMo_tokenArrives 22 = .ok (.iload_n 2, 1) := by decide +kernel
theorem dMo_tokenArrives_23 : decode cMo_tokenArrives 23 = .ok (.imul, 1) := by decide +kernel
theorem dMo_tokenArrives_24 : decode cMo_tokenArrives 24 = .ok (.iload_n 1, 1) := by decide +kernel
theorem dMo_tokenArrives_25 : decode cMo_tokenArrives 25 = .ok (.iadd, 1) := by decide +kernel
theorem dMo_tokenArrives_26 : decode cMo_tokenArrives 26 = .ok (.iload 4, 2) := by decide +kernel
theorem dMo_tokenArrives_28 : decode cMo_tokenArrives 28 = .ok (.aload_n 0, 1) := by decide +kernel
theorem dMo_tokenArrives_29 : decode cMo_tokenArrives 29 = .ok (.getfield 47, 3) := by decide +kernel
theorem dMo_tokenArrives_32 : decode cMo_tokenArrives 32 = .ok (.iconst 4, 1) := by decide +kernel
theorem dMo_tokenArrives_33 : decode cMo_tokenArrives 33 = .ok (.iload_n 2, 1) := by decide +kernel
theorem dMo_tokenArrives_34 : decode cMo_tokenArrives 34 = .ok (.imul, 1) := by decide +kernel
theorem dMo_tokenArrives_35 : decode cMo_tokenArrives 35 = .ok (.iload_n 1, 1) := by decide +kernel
theorem dMo_tokenArrives_36 : decode cMo_tokenArrives 36 = .ok (.iadd, 1) := by decide +kernel
theorem dMo_tokenArrives_37 : decode cMo_tokenArrives 37 = .ok (.iaload, 1) := by decide +kernel
theorem dMo_tokenArrives_38 : decode cMo_tokenArrives 38 = .ok (.if_icmp .le 8, 3) := by decide +kernel
theorem dMo_tokenArrives_41 : decode cMo_tokenArrives 41 = .ok (.iload 4, 2) := by decide +kernel
theorem dMo_tokenArrives_43 : decode cMo_tokenArrives 43 = .ok (.goto 13, 3) := by decide +kernel
theorem dMo_tokenArrives_46 : decode cMo_tokenArrives 46 = .ok (.aload_n 0, 1) := by decide +kernel
theorem dMo_tokenArrives_47 : decode cMo_tokenArrives 47 = .ok (.getfield 47, 3) := by decide +kernel
theorem dMo_tokenArrives_50 : decode cMo_tokenArrives 50 = .ok (.iconst 4, 1) := by decide +kernel
theorem dMo_tokenArrives_51 : decode cMo_tokenArrives 51 = .ok (.iload_n 2, 1) := by decide +kernel
theorem dMo_tokenArrives_52 : decode cMo_tokenArrives 52 = .ok (.imul, 1) := by decide +kernel
theorem dMo_tokenArrives_53 : decode cMo_tokenArrives 53 = .ok (.iload_n 1, 1) := by decide +kernel
theorem dMo_tokenArrives_54 : decode cMo_tokenArrives 54 = .ok (.iadd, 1) := by decide +kernel
theorem dMo_tokenArrives_55 : decode cMo_tokenArrives 55 = .ok (.iaload, 1) := by decide +kernel
theorem dMo_tokenArrives_56 : decode cMo_tokenArrives 56 = .ok (.iastore, 1) := by decide +kernel
theorem dMo_tokenArrives_57 : decode cMo_tokenArrives 57 = .ok (.aload_n 0, 1) := by decide +kernel
theorem dMo_tokenArrives_58 : decode cMo_tokenArrives 58 = .ok (.getfield 134, 3) := by decide +kernel
theorem dMo_tokenArrives_61 : decode cMo_tokenArrives 61 = .ok (.iload_n 2, 1) := by decide +kernel
theorem dMo_tokenArrives_62 : decode cMo_tokenArrives 62 = .ok (.if_icmp .ne 37, 3) := by decide +kernel
theorem dMo_tokenArrives_65 : decode cMo_tokenArrives 65 = .ok (.aload_n 0, 1) := by decide +kernel
theorem dMo_tokenArrives_66 : decode cMo_tokenArrives 66 = .ok (.getfield 32, 3) := by decide +kernel
theorem dMo_tokenArrives_69 : decode cMo_tokenArrives 69 = .ok (.iconst 4, 1) := by decide +kernel
theorem dMo_tokenArrives_70 : decode cMo_tokenArrives 70 = .ok (.iload_n 2, 1) := by decide +kernel
theorem dMo_tokenArrives_71 : decode cMo_tokenArrives 71 = .ok (.iadd, 1) := by decide +kernel
theorem dMo_tokenArrives_72 : decode cMo_tokenArrives 72 = .ok (.iaload, 1) := by decide +kernel
theorem dMo_tokenArrives_73 : decode cMo_tokenArrives 73 = .ok (.ifCond .ne 26, 3) := by decide +kernel
theorem dMo_tokenArrives_76 : decode cMo_tokenArrives 76 = .ok (.aload_n 0, 1) := by decide +kernel
theorem dMo_tokenArrives_77 : decode cMo_tokenArrives 77 = .ok (.iload_n 2, 1) := by decide +kernel
theorem dMo_tokenArrives_78 : decode cMo_tokenArrives 78 = .ok (.iload_n 1, 1) := by decide +kernel
theorem dMo_tokenArrives_79 : decode cMo_tokenArrives 79 = .ok (.invokevirtual 154, 3) := by decide +kernel
theorem dMo_tokenArrives_82 : decode cMo_tokenArrives 82 = .ok (.ifCond .eq 17, 3) := by decide +kernel
theorem dMo_tokenArrives_85 : decode cMo_tokenArrives 85 = .ok (.aload_n 0, 1) := by decide +kernel
theorem dMo_tokenArrives_86 : decode cMo_tokenArrives 86 = .ok (.iconst (-1), 1) := by decide +kernel
theorem dMo_tokenArrives_87 : decode cMo_tokenArrives 87 = .ok (.putfield 134, 3) := by decide +kernel
theorem dMo_tokenArrives_90 : decode cMo_tokenArrives 90 = .ok (.aload_n 0, 1) := by decide +kernel
theorem dMo_tokenArrives_91 : decode cMo_tokenArrives 91 = .ok (.iload_n 2, 1) := by decide +kernel
theorem dMo_tokenArrives_92 : decode cMo_tokenArrives 92 = .ok (.iload_n 1, 1) := by decide +kernel
theorem dMo_tokenArrives_93 : decode cMo_tokenArrives 93 = .ok (.iconst 1, 1) := by decide +kernel
theorem dMo_tokenArrives_94 : decode cMo_tokenArrives 94 = .ok (.iconst 1, 1) := by decide +kernel
theorem dMo_tokenArrives_95 : decode cMo_tokenArrives 95 = .ok (.iconst 0, 1) := by decide +kernel
theorem dMo_tokenArrives_96 : decode cMo_tokenArrives 96 = .ok (.invokevirtual 99, 3) := by decide +kernel
theorem dMo_tokenArrives_99 : decode cMo_tokenArrives 99 = .ok (.return_, 1) := by decide +kernel
theorem dMo_treeArrives_0 : decode cMo_treeArrives 0 = .ok (.iload_n 3, 1) := by decide +kernel
theorem dMo_treeArrives_1 : decode cMo_treeArrives 1 = .ok (.ifCond .ne 12, 3) := by decide +kernel
theorem dMo_treeArrives_4 : decode cMo_treeArrives 4 = .ok (.aload_n 0, 1) := by decide +kernel
theorem dMo_treeArrives_5 : decode cMo_treeArrives 5 = .ok (.iload_n 2, 1) := by decide +kernel
theorem dMo_treeArrives_6 : decode cMo_treeArrives 6 = .ok (.iload_n 1, 1) := by decide +kernel
theorem dMo_treeArrives_7 : decode cMo_treeArrives 7 = .ok (.invokevirtual 144, 3) := by decide +kernel
theorem dMo_treeArrives_10 : decode cMo_treeArrives 10 = .ok (.goto 10, 3) := by decide +kernel
theorem dMo_treeArrives_13 : decode cMo_treeArrives 13 = .ok (.aload_n 0, 1) := by decide +kernel
theorem dMo_treeArrives_14 : decode cMo_treeArrives 14 = .ok (.getfield 56, 3) := by decide +kernel
theorem dMo_treeArrives_17 : decode cMo_treeArrives 17 = .ok (.iload_n 2, 1) := by decide +kernel
theorem dMo_treeArrives_18 : decode cMo_treeArrives 18 = .ok (.iload_n 2, 1) := by decide +kernel
theorem dMo_treeArrives_19 : decode cMo_treeArrives 19 = .ok (.iastore, 1) := by decide +kernel
theorem dMo_treeArrives_20 : decode cMo_treeArrives 20 = .ok (.aload_n 0, 1) := by decide +kernel
theorem dMo_treeArrives_21 : decode cMo_treeArrives 21 = .ok (.iload_n 2, 1) := by decide +kernel
theorem dMo_treeArrives_22 : decode cMo_treeArrives 22 = .ok (.invokevirtual 147, 3) := by decide +kernel
theorem dMo_treeArrives_25 : decode cMo_treeArrives 25 = .ok (.return_, 1) := by decide +kernel
theorem dMo_ringArrives_0 : decode cMo_ringArrives 0 = .ok (.iload_n 1, 1) := by decide +kernel
theorem dMo_ringArrives_1 : decode cMo_ringArrives 1 = .ok (.iconst 1, 1) := by decide +kernel
theorem dMo_ringArrives_2 : decode cMo_ringArrives 2 = .ok (.iadd, 1) := by decide +kernel
theorem dMo_ringArrives_3 : decode cMo_ringArrives 3 = .ok (.iconst 4, 1) := by decide +kernel
theorem dMo_ringArrives_4 : decode cMo_ringArrives 4 = .ok (.irem, 1) := by decide +kernel
theorem dMo_ringArrives_5 : decode cMo_ringArrives 5 = .ok (.istore 4, 2) := by decide +kernel
theorem dMo_ringArrives_7 : decode cMo_ringArrives 7 = .ok (.iload_n 2, 1) := by decide +kernel
theorem dMo_ringArrives_8 : decode cMo_ringArrives 8 = .ok (.iconst 1, 1) := by decide +kernel
theorem dMo_ringArrives_9 : decode cMo_ringArrives 9 = .ok (.if_icmp .ne 38, 3) := by decide +kernel
theorem dMo_ringArrives_12 : decode cMo_ringArrives 12 = .ok (.iload_n 3, 1) := by decide +kernel
theorem dMo_ringArrives_13 : decode cMo_ringArrives 13 = .ok (.aload_n 0, 1) := by decide +kernel
theorem dMo_ringArrives_14 : decode cMo_ringArrives 14 = .ok (.getfield 69, 3) := by decide +kernel
theorem dMo_ringArrives_17 : decode cMo_ringArrives 17 = .ok (.iload_n 1, 1) := by decide +kernel
theorem dMo_ringArrives_18 : decode cMo_ringArrives 18 = .ok (.iaload, 1) := by decide +kernel
theorem dMo_ringArrives_19 : decode cMo_ringArrives 19 = .ok (.if_icmp .eq 27, 3) := by decide +kernel
theorem dMo_ringArrives_22 : decode cMo_ringArrives 22 = .ok (.aload_n 0, 1) := by decide +kernel
theorem dMo_ringArrives_23 : decode cMo_ringArrives 23 = .ok (.getfield 72, 3) := by decide +kernel
theorem dMo_ringArrives_26 : decode cMo_ringArrives 26 = .ok (.iload_n 1, 1) := by decide +kernel
theorem dMo_ringArrives_27 : decode cMo_ringArrives 27 = .ok (.iload_n 3, 1) := by decide +kernel
theorem dMo_ringArrives_28 : decode cMo_ringArrives 28 = .ok (.iastore, 1) := by decide +kernel
theorem dMo_ringArrives_29 : decode cMo_ringArrives 29 = .ok (.aload_n 0, 1) := by decide +kernel
theorem dMo_ringArrives_30 : decode cMo_ringArrives 30 = .ok (.getfield 75, 3) := by decide +kernel
theorem dMo_ringArrives_33 : decode cMo_ringArrives 33 = .ok (.iload_n 1, 1) := by decide +kernel
theorem dMo_ringArrives_34 : decode cMo_ringArrives 34 = .ok (.iconst 0, 1) := by decide +kernel
theorem dMo_ringArrives_35 : decode cMo_ringArrives 35 = .ok (.bastore, 1) := by decide +kernel
theorem dMo_ringArrives_36 : decode cMo_ringArrives 36 = .ok (.aload_n 0, 1) := by decide +kernel
theorem dMo_ringArrives_37 : decode cMo_ringArrives 37 = .ok (.iload_n 1, 1) := by decide +kernel
theorem dMo_ringArrives_38 : decode cMo_ringArrives 38 = .ok (.iload 4, 2) := by decide +kernel
theorem dMo_ringArrives_40 : decode cMo_ringArrives 40 = .ok (.iconst 3, 1) := by decide +kernel
theorem dMo_ringArrives_41 : decode cMo_ringArrives 41 = .ok (.iconst 1, 1) := by decide +kernel
theorem dMo_ringArrives_42 : decode cMo_ringArrives 42 = .ok (.iload_n 3, 1) := by decide +kernel
theorem dMo_ringArrives_43 : decode cMo_ringArrives 43 = .ok (.invokevirtual 99, 3) := by decide +kernel
theorem dMo_ringArrives_46 : decode cMo_ringArrives 46 = .ok (.return_, 1) := by decide +kernel
theorem dMo_ringArrives_47 : decode cMo_ringArrives 47 = .ok (.iload_n 3, 1) := by decide +kernel
theorem dMo_ringArrives_48 : decode cMo_ringArrives 48 = .ok (.aload_n 0, 1) := by decide +kernel
theorem dMo_ringArrives_49 : decode cMo_ringArrives 49 = .ok (.getfield 69, 3) := by decide +kernel
theorem dMo_ringArrives_52 : decode cMo_ringArrives 52 = .ok (.iload_n 1, 1) := by decide +kernel
theorem dMo_ringArrives_53 : decode cMo_ringArrives 53 = .ok (.iaload, 1) := by decide +kernel
theorem dMo_ringArrives_54 : decode cMo_ringArrives 54 = .ok (.if_icmp .ne 30, 3) := by decide +kernel
theorem dMo_ringArrives_57 : decode cMo_ringArrives 57 = .ok (.aload_n 0, 1) := by decide +kernel
theorem dMo_ringArrives_58 : decode cMo_ringArrives 58 = .ok (.getfield 75, 3) := by decide +kernel
theorem dMo_ringArrives_61 : decode cMo_ringArrives 61 = .ok (.iload_n 1, 1) := by decide +kernel
theorem dMo_ringArrives_62 : decode cMo_ringArrives 62 = .ok (.iconst 0, 1) := by decide +kernel
theorem dMo_ringArrives_63 : decode cMo_ringArrives 63 = .ok (.bastore, 1) := by decide +kernel
theorem dMo_ringArrives_64 : decode cMo_ringArrives 64 = .ok (.aload_n 0, 1) := by decide +kernel
theorem dMo_ringArrives_65 : decode cMo_ringArrives 65 = .ok (.getfield 72, 3) := by decide +kernel
theorem dMo_ringArrives_68 : decode cMo_ringArrives 68 = .ok (.iload_n 1, 1) := by decide +kernel
theorem dMo_ringArrives_69 : decode cMo_ringArrives 69 = .ok (.iload_n 3, 1) := by decide +kernel
theorem dMo_ringArrives_70 : decode cMo_ringArrives 70 = .ok (.iastore, 1) := by decide +kernel
theorem dMo_ringArrives_71 : decode cMo_ringArrives 71 = .ok (.aload_n 0, 1) := by decide +kernel
theorem dMo_ringArrives_72 : decode cMo_ringArrives 72 = .ok (.iload_n 1, 1) := by decide +kernel
theorem dMo_ringArrives_73 : decode cMo_ringArrives 73 = .ok (.iload 4, 2) := by decide +kernel
theorem dMo_ringArrives_75 : decode cMo_ringArrives 75 = .ok (.iconst 3, 1) := by decide +kernel
theorem dMo_ringArrives_76 : decode cMo_ringArrives 76 = .ok (.iconst 1, 1) := by decide +kernel
theorem dMo_ringArrives_77 : decode cMo_ringArrives 77 = .ok (.iload_n 3, 1) := by decide +kernel
theorem dMo_ringArrives_78 : decode cMo_ringArrives 78 = .ok (.invokevirtual 99, 3) := by decide +kernel
theorem dMo_ringArrives_81 : decode cMo_ringArrives 81 = .ok (.goto 58, 3) := by decide +kernel
theorem dMo_ringArrives_84 : decode cMo_ringArrives 84 = .ok (.iload_n 3, 1) := by decide +kernel
theorem dMo_ringArrives_85 : decode cMo_ringArrives 85 = .ok (.aload_n 0, 1) := by decide +kernel
theorem dMo_ringArrives_86 : decode cMo_ringArrives 86 = .ok (.getfield 69, 3) := by decide +kernel
theorem dMo_ringArrives_89 : decode cMo_ringArrives 89 = .ok (.iload_n 1, 1) := by decide +kernel
theorem dMo_ringArrives_90 : decode cMo_ringArrives 90 = .ok (.iaload, 1) := by decide +kernel
theorem dMo_ringArrives_91 : decode cMo_ringArrives 91 = .ok (.if_icmp .gt 12, 3) := by decide +kernel
theorem dMo_ringArrives_94 : decode cMo_ringArrives 94 = .ok (.aload_n 0, 1) := by decide +kernel
theorem dMo_ringArrives_95 : decode cMo_ringArrives 95 = .ok (.getfield 75, 3) := by decide +kernel
theorem dMo_ringArrives_98 : decode cMo_ringArrives 98 = .ok (.iload_n 1, 1) := by decide +kernel
theorem dMo_ringArrives_99 : decode cMo_ringArrives 99 = .ok (.baload, 1) := by decide +kernel
theorem dMo_ringArrives_100 : decode cMo_ringArrives 100 = .ok (.ifCond .ne 39, 3) := by decide +kernel
theorem dMo_ringArrives_103 : decode cMo_ringArrives 103 = .ok (.aload_n 0, 1) := by decide +kernel
theorem dMo_ringArrives_104 : decode cMo_ringArrives 104 = .ok (.getfield 75, 3) := by decide +kernel
theorem dMo_ringArrives_107 : decode cMo_ringArrives 107 = .ok (.iload_n 1, 1) := by decide +kernel
theorem dMo_ringArrives_108 : decode cMo_ringArrives 108 = .ok (.iconst 1, 1) := by decide +kernel
theorem dMo_ringArrives_109 : decode cMo_ringArrives 109 = .ok (.bastore, 1) := by decide +kernel
theorem dMo_ringArrives_110 : decode cMo_ringArrives 110 = .ok (.aload_n 0, 1) := by decide +kernel
theorem dMo_ringArrives_111 : decode cMo_ringArrives 111 = .ok (.iload_n 1, 1) := by decide +kernel
theorem dMo_ringArrives_112 : decode cMo_ringArrives 112 = .ok (.iload 4, 2) := by decide +kernel
theorem dMo_ringArrives_114 : decode cMo_ringArrives 114 = .ok (.iconst 3, 1) := by decide +kernel
theorem dMo_ringArrives_115 : decode cMo_ringArrives 115 = .ok (.iconst 0, 1) := by decide +kernel
theorem dMo_ringArrives_116 : decode cMo_ringArrives 116 = .ok (.iload_n 3, 1) := by decide +kernel
theorem dMo_ringArrives_117 : decode cMo_ringArrives 117 = .ok (.aload_n 0, 1) := by decide +kernel
theorem dMo_ringArrives_118 : decode cMo_ringArrives 118 = .ok (.getfield 69, 3) := by decide +kernel
theorem dMo_ringArrives_121 : decode cMo_ringArrives 121 = .ok (.iload_n 1, 1) := by decide +kernel
theorem dMo_ringArrives_122 : decode cMo_ringArrives 122 = .ok (.iaload, 1) := by decide +kernel
theorem dMo_ringArrives_123 : decode cMo_ringArrives 123 = .ok (.if_icmp .le 7, 3) := by decide +kernel
theorem dMo_ringArrives_126 : decode cMo_ringArrives 126 = .ok (.iload_n 3, 1) := by decide +kernel
theorem dMo_ringArrives_127 : decode cMo_ringArrives 127 = .ok (.goto 9, 3) := by decide +kernel
theorem dMo_ringArrives_130 : decode cMo_ringArrives 130 = .ok (.aload_n 0, 1) := by decide +kernel
theorem dMo_ringArrives_131 : decode cMo_ringArrives 131 = .ok (.getfield 69, 3) := by decide +kernel
theorem dMo_ringArrives_134 : decode cMo_ringArrives 134 = .ok (.iload_n 1, 1) := by decide +kernel
theorem dMo_ringArrives_135 : decode cMo_ringArrives 135 = .ok (.iaload, 1) := by decide +kernel
theorem dMo_ringArrives_136 : decode cMo_ringArrives 136 = .ok (.invokevirtual 99, 3) := by decide +kernel
theorem dMo_ringArrives_139 : decode cMo_ringArrives 139 = .ok (.return_, 1) := by decide +kernel
theorem dMo_workArrives_0 : decode cMo_workArrives 0 = .ok (.iload_n 3, 1) := by decide +kernel
theorem dMo_workArrives_1 : decode cMo_workArrives 1 = .ok (.iconst 1, 1) := by decide +kernel
theorem dMo_workArrives_2 : decode cMo_workArrives 2 = .ok (.if_icmp .ne 16, 3) := by decide +kernel
theorem dMo_workArrives_5 : decode cMo_workArrives 5 = .ok (.aload_n 0, 1) := by decide +kernel
theorem dMo_workArrives_6 : decode cMo_workArrives 6 = .ok (.getfield 87, 3) := by decide +kernel
theorem dMo_workArrives_9 : decode cMo_workArrives 9 = .ok (.iload_n 2, 1) := by decide +kernel
theorem dMo_workArrives_10 : decode cMo_workArrives 10 = .ok (.dup2, 1) := by decide +kernel
theorem dMo_workArrives_11 : decode cMo_workArrives 11 = .ok (.iaload, 1) := by decide +kernel
theorem dMo_workArrives_12 : decode cMo_workArrives 12 = .ok (.iconst 1, 1) := by decide +kernel
theorem dMo_workArrives_13 : decode cMo_workArrives 13 = .ok (.isub, 1) := by decide +kernel
theorem dMo_workArrives_14 : decode cMo_workArrives 14 = .ok (.iastore, 1) := by decide +kernel
theorem dMo_workArrives_15 : decode cMo_workArrives 15 = .ok (.goto 46, 3) := by decide +kernel
theorem dMo_workArrives_18 : decode cMo_workArrives 18 = .ok (.aload_n 0, 1) := by decide +kernel
theorem dMo_workArrives_19 : decode cMo_workArrives 19 = .ok (.getfield 78, 3) := by decide +kernel
theorem dMo_workArrives_22 : decode cMo_workArrives 22 = .ok (.iload_n 2, 1) := by decide +kernel
theorem dMo_workArrives_23 : decode cMo_workArrives 23 = .ok (.if_icmp .eq 12, 3) := by decide +kernel
theorem dMo_workArrives_26 : decode cMo_workArrives 26 = .ok (.aload_n 0, 1) := by decide +kernel
theorem dMo_workArrives_27 : decode cMo_workArrives 27 = .ok (.getfield 84, 3) := by decide +kernel
theorem dMo_workArrives_30 : decode cMo_workArrives 30 = .ok (.iload_n 2, 1) := by decide +kernel
theorem dMo_workArrives_31 : decode cMo_workArrives 31 = .ok (.iaload, 1) := by decide +kernel
theorem dMo_workArrives_32 : decode cMo_workArrives 32 = .ok (.ifCond .lt 15, 3) := by decide +kernel
theorem dMo_workArrives_35 : decode cMo_workArrives 35 = .ok (.aload_n 0, 1) := by decide +kernel
theorem dMo_workArrives_36 : decode cMo_workArrives 36 = .ok (.iload_n 2, 1) := by decide +kernel
theorem dMo_workArrives_37 : decode cMo_workArrives 37 = .ok (.iload_n 1, 1) := by decide +kernel
theorem dMo_workArrives_38 : decode cMo_workArrives 38 = .ok (.iconst 4, 1) := by decide +kernel
theorem dMo_workArrives_39 : decode cMo_workArrives 39 = .ok (.iconst 1, 1) := by decide +kernel
theorem dMo_workArrives_40 : decode cMo_workArrives 40 = .ok (.iconst 0, 1) := by decide +kernel
theorem dMo_workArrives_41 : decode cMo_workArrives 41 = .ok (.invokevirtual 99, 3) := by decide +kernel
theorem dMo_workArrives_44 : decode cMo_workArrives 44 = .ok (.goto 10, 3) := by decide +kernel
theorem dMo_workArrives_47 : decode cMo_workArrives 47 = .ok (.aload_n 0, 1) := by decide +kernel
theorem dMo_workArrives_48 : decode cMo_workArrives 48 = .ok (.getfield 84, 3) := by decide +kernel
theorem dMo_workArrives_51 : decode cMo_workArrives 51 = .ok (.iload_n 2, 1) := by decide +kernel
theorem dMo_workArrives_52 : decode cMo_workArrives 52 = .ok (.iload_n 1, 1) := by decide +kernel
theorem dMo_workArrives_53 : decode cMo_workArrives 53 = .ok (.iastore, 1) := by decide +kernel
theorem dMo_workArrives_54 : decode cMo_workArrives 54 = .ok (.aload_n 0, 1) := by decide +kernel
theorem dMo_workArrives_55 : decode cMo_workArrives 55 = .ok (.getfield 81, 3) := by decide +kernel
theorem dMo_workArrives_58 : decode cMo_workArrives 58 = .ok (.iload_n 2, 1) := by decide +kernel
theorem dMo_workArrives_59 : decode cMo_workArrives 59 = .ok (.iconst 1, 1) := by decide +kernel
theorem dMo_workArrives_60 : decode cMo_workArrives 60 = .ok (.bastore, 1) := by decide +kernel
theorem dMo_workArrives_61 : decode cMo_workArrives 61 = .ok (.aload_n 0, 1) := by decide +kernel
theorem dMo_workArrives_62 : decode cMo_workArrives 62 = .ok (.iload_n 2, 1) := by decide +kernel
theorem dMo_workArrives_63 : decode cMo_workArrives 63 = .ok (.invokevirtual 167, 3) := by decide +kernel
theorem dMo_workArrives_66 : decode cMo_workArrives 66 = .ok (.return_, 1) := by decide +kernel
theorem dMo_want_0 : decode cMo_want 0 = .ok (.aload_n 0, 1) := by decide +kernel
theorem dMo_want_1 : decode cMo_want 1 = .ok (.iload_n 1, 1) := by decide +kernel
theorem dMo_want_2 : decode cMo_want 2 = .ok (.iload_n 2, 1) := by decide +kernel
theorem dMo_want_3 : decode cMo_want 3 = .ok (.invokestatic 131, 3) := by decide +kernel
theorem dMo_want_6 : decode cMo_want 6 = .ok (.ifCond .ne 7, 3) := by decide +kernel
theorem dMo_want_9 : decode cMo_want 9 = .ok (.iconst 1, 1) := by decide +kernel
theorem dMo_want_10 : decode cMo_want 10 = .ok (.goto 21, 3) := by decide +kernel
theorem dMo_want_13 : decode cMo_want 13 = .ok (.aload_n 0, 1) := by decide +kernel
theorem dMo_want_14 : decode cMo_want 14 = .ok (.getfield 32, 3) := by decide +kernel
theorem dMo_want_17 : decode cMo_want 17 = .ok (.iconst 4, 1) := by decide +kernel
theorem dMo_want_18 : decode cMo_want 18 = .ok (.iload_n 1, 1) := by decide +kernel
theorem dMo_want_19 : decode cMo_want 19 = .ok (.imul, 1) := by decide +kernel
theorem dMo_want_20 : decode cMo_want 20 = .ok (.iload_n 2, 1) := by decide +kernel
theorem dMo_want_21 : decode cMo_want 21 = .ok (.iadd, 1) := by decide +kernel
theorem dMo_want_22 : decode cMo_want 22 = .ok (.iaload, 1) := by decide +kernel
theorem dMo_want_23 : decode cMo_want 23 = .ok (.ifCond .eq 7, 3) := by decide +kernel
theorem dMo_want_26 : decode cMo_want 26 = .ok (.iconst 2, 1) := by decide +kernel
theorem dMo_want_27 : decode cMo_want 27 = .ok (.goto 4, 3) := by decide +kernel
theorem dMo_want_30 : decode cMo_want 30 = .ok (.iconst 0, 1) := by decide +kernel
theorem dMo_want_31 : decode cMo_want 31 = .ok (.putfield 90, 3) := by decide +kernel
theorem dMo_want_34 : decode cMo_want 34 = .ok (.aload_n 0, 1) := by decide +kernel
theorem dMo_want_35 : decode cMo_want 35 = .ok (.getfield 90, 3) := by decide +kernel
theorem dMo_want_38 : decode cMo_want 38 = .ok (.ifCond .eq 4, 3) := by decide +kernel
theorem dMo_want_41 : decode cMo_want 41 = .ok (.return_, 1) := by decide +kernel
theorem dMo_want_42 : decode cMo_want 42 = .ok (.iload_n 1, 1) := by decide +kernel
theorem dMo_want_43 : decode cMo_want 43 = .ok (.iconst 1, 1) := by decide +kernel
theorem dMo_want_44 : decode cMo_want 44 = .ok (.if_icmp .ne 18, 3) := by decide +kernel
theorem dMo_want_47 : decode cMo_want 47 = .ok (.aload_n 0, 1) := by decide +kernel
theorem dMo_want_48 : decode cMo_want 48 = .ok (.getfield 134, 3) := by decide +kernel
theorem dMo_want_51 : decode cMo_want 51 = .ok (.iload_n 2, 1) := by decide +kernel
theorem dMo_want_52 : decode cMo_want 52 = .ok (.if_icmp .ne 10, 3) := by decide +kernel
theorem dMo_want_55 : decode cMo_want 55 = .ok (.aload_n 0, 1) := by decide +kernel
theorem dMo_want_56 : decode cMo_want 56 = .ok (.iconst 1, 1) := by decide +kernel
theorem dMo_want_57 : decode cMo_want 57 = .ok (.iload_n 2, 1) := by decide +kernel
theorem dMo_want_58 : decode cMo_want 58 = .ok (.invokevirtual 137, 3) := by decide +kernel
theorem dMo_want_61 : decode cMo_want 61 = .ok (.return_, 1) := by decide +kernel
theorem dMo_want_62 : decode cMo_want 62 = .ok (.aload_n 0, 1) := by decide +kernel
theorem dMo_want_63 : decode cMo_want 63 = .ok (.getfield 32, 3) := by decide +kernel
theorem dMo_want_66 : decode cMo_want 66 = .ok (.iconst 4, 1) := by decide +kernel
theorem dMo_want_67 : decode cMo_want 67 = .ok (.iload_n 1, 1) := by decide +kernel
theorem dMo_want_68 : decode cMo_want 68 = .ok (.imul, 1) := by decide +kernel
theorem dMo_want_69 : decode cMo_want 69 = .ok (.iload_n 2, 1) := by decide +kernel
theorem dMo_want_70 : decode cMo_want 70 = .ok (.iadd, 1) := by decide +kernel
theorem dMo_want_71 : decode cMo_want 71 = .ok (.iconst 1, 1) := by decide +kernel
theorem dMo_want_72 : decode cMo_want 72 = .ok (.iastore, 1) := by decide +kernel
theorem dMo_want_73 : decode cMo_want 73 = .ok (.iload_n 1, 1) := by decide +kernel
theorem dMo_want_74 : decode cMo_want 74 = .ok (.ifCond .ne 48, 3) := by decide +kernel
theorem dMo_want_77 : decode cMo_want 77 = .ok (.aload_n 0, 1) := by decide +kernel
theorem dMo_want_78 : decode cMo_want 78 = .ok (.getfield 35, 3) := by decide +kernel
theorem dMo_want_81 : decode cMo_want 81 = .ok (.iload_n 2, 1) := by decide +kernel
theorem dMo_want_82 : decode cMo_want 82 = .ok (.dup2, 1) := by decide +kernel
theorem dMo_want_83 : decode cMo_want 83 = .ok (.iaload, 1) := by decide +kernel
theorem dMo_want_84 : decode cMo_want 84 = .ok (.iconst 1, 1) := by decide +kernel
theorem dMo_want_85 : decode cMo_want 85 = .ok (.iadd, 1) := by decide +kernel
theorem dMo_want_86 : decode cMo_want 86 = .ok (.iastore, 1) := by decide +kernel
theorem dMo_want_87 : decode cMo_want 87 = .ok (.aload_n 0, 1) := by decide +kernel
theorem dMo_want_88 : decode cMo_want 88 = .ok (.getfield 38, 3) := by decide +kernel
theorem dMo_want_91 : decode cMo_want 91 = .ok (.iload_n 2, 1) := by decide +kernel
theorem dMo_want_92 : decode cMo_want 92 = .ok (.aload_n 0, 1) := by decide +kernel
theorem dMo_want_93 : decode cMo_want 93 = .ok (.getfield 35, 3) := by decide +kernel
theorem dMo_want_96 : decode cMo_want 96 = .ok (.iload_n 2, 1) := by decide +kernel
theorem dMo_want_97 : decode cMo_want 97 = .ok (.iaload, 1) := by decide +kernel
theorem dMo_want_98 : decode cMo_want 98 = .ok (.iastore, 1) := by decide +kernel
theorem dMo_want_99 : decode cMo_want 99 = .ok (.aload_n 0, 1) := by decide +kernel
theorem dMo_want_100 : decode cMo_want 100 = .ok (.getfield 41, 3) := by decide +kernel
theorem dMo_want_103 : decode cMo_want 103 = .ok (.iload_n 2, 1) := by decide +kernel
theorem dMo_want_104 : decode cMo_want 104 = .ok (.iconst 0, 1) := by decide +kernel
theorem dMo_want_105 : decode cMo_want 105 = .ok (.iastore, 1) := by decide +kernel
theorem dMo_want_106 : decode cMo_want 106 = .ok (.aload_n 0, 1) := by decide +kernel
theorem dMo_want_107 : decode cMo_want 107 = .ok (.iload_n 2, 1) := by decide +kernel
theorem dMo_want_108 : decode cMo_want 108 = .ok (.iconst 0, 1) := by decide +kernel
theorem dMo_want_109 : decode cMo_want 109 = .ok (.iconst 0, 1) := by decide +kernel
theorem dMo_want_110 : decode cMo_want 110 = .ok (.aload_n 0, 1) := by decide +kernel
theorem dMo_want_111 : decode cMo_want 111 = .ok (.getfield 38, 3) := by decide +kernel
theorem dMo_want_114 : decode cMo_want 114 = .ok (.iload_n 2, 1) := by decide +kernel
theorem dMo_want_115 : decode cMo_want 115 = .ok (.iaload, 1) := by decide +kernel
theorem dMo_want_116 : decode cMo_want 116 = .ok (.invokevirtual 141, 3) := by decide +kernel
theorem dMo_want_119 : decode cMo_want 119 = .ok (.goto 49, 3) := by decide +kernel
theorem dMo_want_122 : decode cMo_want 122 = .ok (.iload_n 1, 1) := by decide +kernel
theorem dMo_want_123 : decode cMo_want 123 = .ok (.iconst 1, 1) := by decide +kernel
theorem dMo_want_124 : decode cMo_want 124 = .ok (.if_icmp .ne 33, 3) := by decide +kernel
theorem dMo_want_127 : decode cMo_want 127 = .ok (.aload_n 0, 1) := by decide +kernel
theorem dMo_want_128 : decode cMo_want 128 = .ok (.getfield 47, 3) := by decide +kernel
theorem dMo_want_131 : decode cMo_want 131 = .ok (.iconst 5, 1) := by decide +kernel
theorem dMo_want_132 : decode cMo_want 132 = .ok (.iload_n 2, 1) := by decide +kernel
theorem dMo_want_133 : decode cMo_want 133 = .ok (.imul, 1) := by decide +kernel
theorem dMo_want_134 : decode cMo_want 134 = .ok (.dup2, 1) := by decide +kernel
theorem dMo_want_135 : decode cMo_want 135 = .ok (.iaload, 1) := by decide +kernel
theorem dMo_want_136 : decode cMo_want 136 = .ok (.iconst 1, 1) := by decide +kernel
theorem dMo_want_137 : decode cMo_want 137 = .ok (.iadd, 1) := by decide +kernel
theorem dMo_want_138 : decode cMo_want 138 = .ok (.iastore, 1) := by decide +kernel
theorem dMo_want_139 : decode cMo_want 139 = .ok (.aload_n 0, 1) := by decide +kernel
theorem dMo_want_140 : decode cMo_want 140 = .ok (.iload_n 2, 1) := by decide +kernel
theorem dMo_want_141 : decode cMo_want 141 = .ok (.iconst 1, 1) := by decide +kernel
theorem dMo_want_142 : decode cMo_want 142 = .ok (.iconst 0, 1) := by decide +kernel
theorem dMo_want_143 : decode cMo_want 143 = .ok (.aload_n 0, 1) := by decide +kernel
theorem dMo_want_144 : decode cMo_want 144 = .ok (.getfield 47, 3) := by decide +kernel
theorem dMo_want_147 : decode cMo_want 147 = .ok (.iconst 5, 1) := by decide +kernel
theorem dMo_want_148 : decode cMo_want 148 = .ok (.iload_n 2, 1) := by decide +kernel
theorem dMo_want_149 : decode cMo_want 149 = .ok (.imul, 1) := by decide +kernel
theorem dMo_want_150 : decode cMo_want 150 = .ok (.iaload, 1) := by decide +kernel
theorem dMo_want_151 : decode cMo_want 151 = .ok (.invokevirtual 141, 3) := by decide +kernel
theorem dMo_want_154 : decode cMo_want 154 = .ok (.goto 14, 3) := by decide +kernel
theorem dMo_want_157 : decode cMo_want 157 = .ok (.aload_n 0, 1) := by decide +kernel
theorem dMo_want_158 : decode cMo_want 158 = .ok (.iload_n 2, 1) := by decide +kernel
theorem dMo_want_159 : decode cMo_want 159 = .ok (.iload_n 2, 1) := by decide +kernel
theorem dMo_want_160 : decode cMo_want 160 = .ok (.invokevirtual 144, 3) := by decide +kernel
theorem dMo_want_163 : decode cMo_want 163 = .ok (.aload_n 0, 1) := by decide +kernel
theorem dMo_want_164 : decode cMo_want 164 = .ok (.iload_n 2, 1) := by decide +kernel
theorem dMo_want_165 : decode cMo_want 165 = .ok (.invokevirtual 147, 3) := by decide +kernel
theorem dMo_want_168 : decode cMo_want 168 = .ok (.return_, 1) := by decide +kernel
theorem dMo_leave_0 : decode cMo_leave 0 = .ok (.aload_n 0, 1) := by decide +kernel
theorem dMo_leave_1 : decode cMo_leave 1 = .ok (.iload_n 1, 1) := by decide +kernel
theorem dMo_leave_2 : decode cMo_leave 2 = .ok (.iload_n 2, 1) := by decide +kernel
theorem dMo_leave_3 : decode cMo_leave 3 = .ok (.invokestatic 131, 3) := by decide +kernel
theorem dMo_leave_6 : decode cMo_leave 6 = .ok (.ifCond .ne 7, 3) := by decide +kernel
theorem dMo_leave_9 : decode cMo_leave 9 = .ok (.iconst 1, 1) := by decide +kernel
theorem dMo_leave_10 : decode cMo_leave 10 = .ok (.goto 22, 3) := by decide +kernel
theorem dMo_leave_13 : decode cMo_leave 13 = .ok (.aload_n 0, 1) := by decide +kernel
theorem dMo_leave_14 : decode cMo_leave 14 = .ok (.getfield 32, 3) := by decide +kernel
theorem dMo_leave_17 : decode cMo_leave 17 = .ok (.iconst 4, 1) := by decide +kernel
theorem dMo_leave_18 : decode cMo_leave 18 = .ok (.iload_n 1, 1) := by decide +kernel
theorem dMo_leave_19 : decode cMo_leave 19 = .ok (.imul, 1) := by decide +kernel
theorem dMo_leave_20 : decode cMo_leave 20 = .ok (.iload_n 2, 1) := by decide +kernel
theorem dMo_leave_21 : decode cMo_leave 21 = .ok (.iadd, 1) := by decide +kernel
theorem dMo_leave_22 : decode cMo_leave 22 = .ok (.iaload, 1) := by decide +kernel
theorem dMo_leave_23 : decode cMo_leave 23 = .ok (.iconst 2, 1) := by decide +kernel
theorem dMo_leave_24 : decode cMo_leave 24 = .ok (.if_icmp .eq 7, 3) := by decide +kernel
theorem dMo_leave_27 : decode cMo_leave 27 = .ok (.iconst 2, 1) := by decide +kernel
theorem dMo_leave_28 : decode cMo_leave 28 = .ok (.goto 4, 3) := by decide +kernel
theorem dMo_leave_31 : decode cMo_leave 31 = .ok (.iconst 0, 1) := by decide +kernel
theorem dMo_leave_32 : decode cMo_leave 32 = .ok (.putfield 90, 3) := by decide +kernel
theorem dMo_leave_35 : decode cMo_leave 35 = .ok (.aload_n 0, 1) := by decide +kernel
theorem dMo_leave_36 : decode cMo_leave 36 = .ok (.getfield 90, 3) := by decide +kernel
theorem dMo_leave_39 : decode cMo_leave 39 = .ok (.ifCond .eq 4, 3) := by decide +kernel
theorem dMo_leave_42 : decode cMo_leave 42 = .ok (.return_, 1) := by decide +kernel
theorem dMo_leave_43 : decode cMo_leave 43 = .ok (.aload_n 0, 1) := by decide +kernel
theorem dMo_leave_44 : decode cMo_leave 44 = .ok (.getfield 32, 3) := by decide +kernel
theorem dMo_leave_47 : decode cMo_leave 47 = .ok (.iconst 4, 1) := by decide +kernel
theorem dMo_leave_48 : decode cMo_leave 48 = .ok (.iload_n 1, 1) := by decide +kernel
theorem dMo_leave_49 : decode cMo_leave 49 = .ok (.imul, 1) := by decide +kernel
theorem dMo_leave_50 : decode cMo_leave 50 = .ok (.iload_n 2, 1) := by decide +kernel
theorem dMo_leave_51 : decode cMo_leave 51 = .ok (.iadd, 1) := by decide +kernel
theorem dMo_leave_52 : decode cMo_leave 52 = .ok (.iconst 0, 1) := by decide +kernel
theorem dMo_leave_53 : decode cMo_leave 53 = .ok (.iastore, 1) := by decide +kernel
theorem dMo_leave_54 : decode cMo_leave 54 = .ok (.iload_n 1, 1) := by decide +kernel
theorem dMo_leave_55 : decode cMo_leave 55 = .ok (.ifCond .ne 55, 3) := by decide +kernel
theorem dMo_leave_58 : decode cMo_leave 58 = .ok (.aload_n 0, 1) := by decide +kernel
theorem dMo_leave_59 : decode cMo_leave 59 = .ok (.getfield 44, 3) := by decide +kernel
theorem dMo_leave_62 : decode cMo_leave 62 = .ok (.iload_n 2, 1) := by decide +kernel
theorem dMo_leave_63 : decode cMo_leave 63 = .ok (.iaload, 1) := by decide +kernel
theorem dMo_leave_64 : decode cMo_leave 64 = .ok (.istore_n 3, 1) := by decide +kernel
theorem dMo_leave_65 : decode cMo_leave 65 = .ok (.aload_n 0, 1) := by decide +kernel
theorem dMo_leave_66 : decode cMo_leave 66 = .ok (.getfield 44, 3) := by decide +kernel
theorem dMo_leave_69 : decode cMo_leave 69 = .ok (.iload_n 2, 1) := by decide +kernel
theorem dMo_leave_70 : decode cMo_leave 70 = .ok (.iconst 0, 1) := by decide +kernel
theorem dMo_leave_71 : decode cMo_leave 71 = .ok (.iastore, 1) := by decide +kernel
theorem dMo_leave_72 : decode cMo_leave 72 = .ok (.iconst 0, 1) := by decide +kernel
theorem dMo_leave_73 : decode cMo_leave 73 = .ok (.istore 4, 2) := by decide +kernel
theorem dMo_leave_75 : decode cMo_leave 75 = .ok (.iload 4, 2) := by decide +kernel
theorem dMo_leave_77 : decode cMo_leave 77 = .ok (.iconst 4, 1) := by decide +kernel
theorem dMo_leave_78 : decode cMo_leave 78 = .ok (.if_icmp .ge 29, 3) := by decide +kernel
theorem dMo_leave_81 : decode cMo_leave 81 = .ok (.iload_n 3, 1) := by decide +kernel
theorem dMo_leave_82 : decode cMo_leave 82 = .ok (.iload 4, 2) := by decide +kernel
theorem dMo_leave_84 : decode cMo_leave 84 = .ok (.ishr, 1) := by decide +kernel
theorem dMo_leave_85 : decode cMo_leave 85 = .ok (.iconst 1, 1) := by decide +kernel
theorem dMo_leave_86 : decode cMo_leave 86 = .ok (.iand, 1) := by decide +kernel
theorem dMo_leave_87 : decode cMo_leave 87 = .ok (.iconst 1, 1) := by decide +kernel
theorem dMo_leave_88 : decode cMo_leave 88 = .ok (.if_icmp .ne 13, 3) := by decide +kernel
theorem dMo_leave_91 : decode cMo_leave 91 = .ok (.aload_n 0, 1) := by decide +kernel
theorem dMo_leave_92 : decode cMo_leave 92 = .ok (.iload_n 2, 1) := by decide +kernel
theorem dMo_leave_93 : decode cMo_leave 93 = .ok (.iload 4, 2) := by decide +kernel
theorem dMo_leave_95 : decode cMo_leave 95 = .ok (.iconst 0, 1) := by decide +kernel
theorem dMo_leave_96 : decode cMo_leave 96 = .ok (.iconst 1, 1) := by decide +kernel
theorem dMo_leave_97 : decode cMo_leave 97 = .ok (.iconst 0, 1) := by decide +kernel
theorem dMo_leave_98 : decode cMo_leave 98 = .ok (.invokevirtual 99, 3) := by decide +kernel
theorem dMo_leave_101 : decode cMo_leave 101 = .ok (.iinc 4 1, 3) := by decide +kernel
theorem dMo_leave_104 : decode cMo_leave 104 = .ok (.goto (-29), 3) := by decide +kernel
theorem dMo_leave_107 : decode cMo_leave 107 = .ok (.goto 21, 3) := by decide +kernel
theorem dMo_leave_110 : decode cMo_leave 110 = .ok (.iload_n 1, 1) := by decide +kernel
theorem dMo_leave_111 : decode cMo_leave 111 = .ok (.iconst 1, 1) := by decide +kernel
theorem dMo_leave_112 : decode cMo_leave 112 = .ok (.if_icmp .ne 11, 3) := by decide +kernel
theorem dMo_leave_115 : decode cMo_leave 115 = .ok (.aload_n 0, 1) := by decide +kernel
theorem dMo_leave_116 : decode cMo_leave 116 = .ok (.iload_n 2, 1) := by decide +kernel
theorem dMo_leave_117 : decode cMo_leave 117 = .ok (.invokevirtual 151, 3) := by decide +kernel
theorem dMo_leave_120 : decode cMo_leave 120 = .ok (.goto 8, 3) := by decide +kernel
theorem dMo_leave_123 : decode cMo_leave 123 = .ok (.aload_n 0, 1) := by decide +kernel
theorem dMo_leave_124 : decode cMo_leave 124 = .ok (.iload_n 2, 1) := by decide +kernel
theorem dMo_leave_125 : decode cMo_leave 125 = .ok (.invokevirtual 147, 3) := by decide +kernel
theorem dMo_leave_128 : decode cMo_leave 128 = .ok (.return_, 1) := by decide +kernel
theorem dMo_start_0 : decode cMo_start 0 = .ok (.aload_n 0, 1) := by decide +kernel
theorem dMo_start_1 : decode cMo_start 1 = .ok (.iload_n 1, 1) := by decide +kernel
theorem dMo_start_2 : decode cMo_start 2 = .ok (.invokestatic 103, 3) := by decide +kernel
theorem dMo_start_5 : decode cMo_start 5 = .ok (.ifCond .ne 7, 3) := by decide +kernel
theorem dMo_start_8 : decode cMo_start 8 = .ok (.iconst 1, 1) := by decide +kernel
theorem dMo_start_9 : decode cMo_start 9 = .ok (.goto 17, 3) := by decide +kernel
theorem dMo_start_12 : decode cMo_start 12 = .ok (.aload_n 0, 1) := by decide +kernel
theorem dMo_start_13 : decode cMo_start 13 = .ok (.getfield 75, 3) := by decide +kernel
theorem dMo_start_16 : decode cMo_start 16 = .ok (.iload_n 1, 1) := by decide +kernel
theorem dMo_start_17 : decode cMo_start 17 = .ok (.baload, 1) := by decide +kernel
theorem dMo_start_18 : decode cMo_start 18 = .ok (.ifCond .eq 7, 3) := by decide +kernel
theorem dMo_start_21 : decode cMo_start 21 = .ok (.iconst 2, 1) := by decide +kernel
theorem dMo_start_22 : decode cMo_start 22 = .ok (.goto 4, 3) := by decide +kernel
theorem dMo_start_25 : decode cMo_start 25 = .ok (.iconst 0, 1) := by decide +kernel
theorem dMo_start_26 : decode cMo_start 26 = .ok (.putfield 90, 3) := by decide +kernel
theorem dMo_start_29 : decode cMo_start 29 = .ok (.aload_n 0, 1) := by decide +kernel
theorem dMo_start_30 : decode cMo_start 30 = .ok (.getfield 90, 3) := by decide +kernel
theorem dMo_start_33 : decode cMo_start 33 = .ok (.ifCond .ne 28, 3) := by decide +kernel
theorem dMo_start_36 : decode cMo_start 36 = .ok (.aload_n 0, 1) := by decide +kernel
theorem dMo_start_37 : decode cMo_start 37 = .ok (.getfield 75, 3) := by decide +kernel
theorem dMo_start_40 : decode cMo_start 40 = .ok (.iload_n 1, 1) := by decide +kernel
theorem dMo_start_41 : decode cMo_start 41 = .ok (.iconst 1, 1) := by decide +kernel
theorem dMo_start_42 : decode cMo_start 42 = .ok (.bastore, 1) := by decide +kernel
theorem dMo_start_43 : decode cMo_start 43 = .ok (.aload_n 0, 1) := by decide +kernel
theorem dMo_start_44 : decode cMo_start 44 = .ok (.iload_n 1, 1) := by decide +kernel
theorem dMo_start_45 : decode cMo_start 45 = .ok (.iload_n 1, 1) := by decide +kernel
theorem dMo_start_46 : decode cMo_start 46 = .ok (.iconst 1, 1) := by decide +kernel
theorem dMo_start_47 : decode cMo_start 47 = .ok (.iadd, 1) := by decide +kernel
theorem dMo_start_48 : decode cMo_start 48 = .ok (.iconst 4, 1) := by decide +kernel
theorem dMo_start_49 : decode cMo_start 49 = .ok (.irem, 1) := by decide +kernel
theorem dMo_start_50 : decode cMo_start 50 = .ok (.iconst 3, 1) := by decide +kernel
theorem dMo_start_51 : decode cMo_start 51 = .ok (.iconst 0, 1) := by decide +kernel
theorem dMo_start_52 : decode cMo_start 52 = .ok (.aload_n 0, 1) := by decide +kernel
theorem dMo_start_53 : decode cMo_start 53 = .ok (.getfield 69, 3) := by decide +kernel
theorem dMo_start_56 : decode cMo_start 56 = .ok (.iload_n 1, 1) := by decide +kernel
theorem dMo_start_57 : decode cMo_start 57 = .ok (.iaload, 1) := by decide +kernel
theorem dMo_start_58 : decode cMo_start 58 = .ok (.invokevirtual 99, 3) := by decide +kernel
theorem dMo_start_61 : decode cMo_start 61 = .ok (.return_, 1) := by decide +kernel
theorem dMo_begin_0 : decode cMo_begin 0 = .ok (.aload_n 0, 1) := by decide +kernel
theorem dMo_begin_1 : decode cMo_begin 1 = .ok (.getfield 78, 3) := by decide +kernel
theorem dMo_begin_4 : decode cMo_begin 4 = .ok (.ifCond .lt 7, 3) := by decide +kernel
theorem dMo_begin_7 : decode cMo_begin 7 = .ok (.iconst 1, 1) := by decide +kernel
theorem dMo_begin_8 : decode cMo_begin 8 = .ok (.goto 4, 3) := by decide +kernel
theorem dMo_begin_11 : decode cMo_begin 11 = .ok (.iconst 0, 1) := by decide +kernel
theorem dMo_begin_12 : decode cMo_begin 12 = .ok (.istore_n 2, 1) := by decide +kernel
theorem dMo_begin_13 : decode cMo_begin 13 = .ok (.iconst 0, 1) := by decide +kernel
theorem dMo_begin_14 : decode cMo_begin 14 = .ok (.istore_n 3, 1) := by decide +kernel
theorem dMo_begin_15 : decode cMo_begin 15 = .ok (.iload_n 3, 1) := by decide +kernel
theorem dMo_begin_16 : decode cMo_begin 16 = .ok (.iconst 4, 1) := by decide +kernel
theorem dMo_begin_17 : decode cMo_begin 17 = .ok (.if_icmp .ge 46, 3) := by decide +kernel
theorem dMo_begin_20 : decode cMo_begin 20 = .ok (.iload_n 2, 1) := by decide +kernel
theorem dMo_begin_21 : decode cMo_begin 21 = .ok (.ifCond .ne 30, 3) := by decide +kernel
theorem dMo_begin_24 : decode cMo_begin 24 = .ok (.aload_n 0, 1) := by decide +kernel
theorem dMo_begin_25 : decode cMo_begin 25 = .ok (.getfield 81, 3) := by decide +kernel
theorem dMo_begin_28 : decode cMo_begin 28 = .ok (.iload_n 3, 1) := by decide +kernel
theorem dMo_begin_29 : decode cMo_begin 29 = .ok (.baload, 1) := by decide +kernel
theorem dMo_begin_30 : decode cMo_begin 30 = .ok (.ifCond .ne 21, 3) := by decide +kernel
theorem dMo_begin_33 : decode cMo_begin 33 = .ok (.aload_n 0, 1) := by decide +kernel
theorem dMo_begin_34 : decode cMo_begin 34 = .ok (.getfield 84, 3) := by decide +kernel
theorem dMo_begin_37 : decode cMo_begin 37 = .ok (.iload_n 3, 1) := by decide +kernel
theorem dMo_begin_38 : decode cMo_begin 38 = .ok (.iaload, 1) := by decide +kernel
theorem dMo_begin_39 : decode cMo_begin 39 = .ok (.ifCond .ge 12, 3) := by decide +kernel
theorem dMo_begin_42 : decode cMo_begin 42 = .ok (.aload_n 0, 1) := by decide +kernel
theorem dMo_begin_43 : decode cMo_begin 43 = .ok (.getfield 87, 3) := by decide +kernel
theorem dMo_begin_46 : decode cMo_begin 46 = .ok (.iload_n 3, 1) := by decide +kernel
theorem dMo_begin_47 : decode cMo_begin 47 = .ok (.iaload, 1) := by decide +kernel
theorem dMo_begin_48 : decode cMo_begin 48 = .ok (.ifCond .le 7, 3) := by decide +kernel
theorem dMo_begin_51 : decode cMo_begin 51 = .ok (.iconst 1, 1) := by decide +kernel
theorem dMo_begin_52 : decode cMo_begin 52 = .ok (.goto 4, 3) := by decide +kernel
theorem dMo_begin_55 : decode cMo_begin 55 = .ok (.iconst 0, 1) := by decide +kernel
theorem dMo_begin_56 : decode cMo_begin 56 = .ok (.istore_n 2, 1) := by decide +kernel
theorem dMo_begin_57 : decode cMo_begin 57 = .ok (.iinc 3 1, 3) := by decide +kernel
theorem dMo_begin_60 : decode cMo_begin 60 = .ok (.goto (-45), 3) := by decide +kernel
theorem dMo_begin_63 : decode cMo_begin 63 = .ok (.aload_n 0, 1) := by decide +kernel
theorem dMo_begin_64 : decode cMo_begin 64 = .ok (.iload_n 1, 1) := by decide +kernel
theorem dMo_begin_65 : decode cMo_begin 65 = .ok (.invokestatic 103, 3) := by decide +kernel
theorem dMo_begin_68 : decode cMo_begin 68 = .ok (.ifCond .ne 7, 3) := by decide +kernel
theorem dMo_begin_71 : decode cMo_begin 71 = .ok (.iconst 1, 1) := by decide +kernel
theorem dMo_begin_72 : decode cMo_begin 72 = .ok (.goto 12, 3) := by decide +kernel
theorem dMo_begin_75 : decode cMo_begin 75 = .ok (.iload_n 2, 1) := by decide +kernel
theorem dMo_begin_76 : decode cMo_begin 76 = .ok (.ifCond .eq 7, 3) := by decide +kernel
theorem dMo_begin_79 : decode cMo_begin 79 = .ok (.iconst 2, 1) := by decide +kernel
theorem dMo_begin_80 : decode cMo_begin 80 = .ok (.goto 4, 3) := by decide +kernel
theorem dMo_begin_83 : decode cMo_begin 83 = .ok (.iconst 0, 1) := by decide +kernel
theorem dMo_begin_84 : decode cMo_begin 84 = .ok (.putfield 90, 3) := by decide +kernel
theorem dMo_begin_87 : decode cMo_begin 87 = .ok (.aload_n 0, 1) := by decide +kernel
theorem dMo_begin_88 : decode cMo_begin 88 = .ok (.getfield 90, 3) := by decide +kernel
theorem dMo_begin_91 : decode cMo_begin 91 = .ok (.ifCond .ne 15, 3) := by decide +kernel
theorem dMo_begin_94 : decode cMo_begin 94 = .ok (.aload_n 0, 1) := by decide +kernel
theorem dMo_begin_95 : decode cMo_begin 95 = .ok (.iload_n 1, 1) := by decide +kernel
theorem dMo_begin_96 : decode cMo_begin 96 = .ok (.putfield 78, 3) := by decide +kernel
theorem dMo_begin_99 : decode cMo_begin 99 = .ok (.aload_n 0, 1) := by decide +kernel
theorem dMo_begin_100 : decode cMo_begin 100 = .ok (.getfield 81, 3) := by decide +kernel
theorem dMo_begin_103 : decode cMo_begin 103 = .ok (.iload_n 1, 1) := by decide +kernel
theorem dMo_begin_104 : decode cMo_begin 104 = .ok (.iconst 1, 1) := by decide +kernel
theorem dMo_begin_105 : decode cMo_begin 105 = .ok (.bastore, 1) := by decide +kernel
theorem dMo_begin_106 : decode cMo_begin 106 = .ok (.return_, 1) := by decide +kernel
theorem dMo_spread_0 : decode cMo_spread 0 = .ok (.aload_n 0, 1) := by decide +kernel
theorem dMo_spread_1 : decode cMo_spread 1 = .ok (.iload_n 1, 1) := by decide +kernel
theorem dMo_spread_2 : decode cMo_spread 2 = .ok (.iload_n 2, 1) := by decide +kernel
theorem dMo_spread_3 : decode cMo_spread 3 = .ok (.invokestatic 107, 3) := by decide +kernel
theorem dMo_spread_6 : decode cMo_spread 6 = .ok (.ifCond .ne 7, 3) := by decide +kernel
theorem dMo_spread_9 : decode cMo_spread 9 = .ok (.iconst 1, 1) := by decide +kernel
theorem dMo_spread_10 : decode cMo_spread 10 = .ok (.goto 28, 3) := by decide +kernel
theorem dMo_spread_13 : decode cMo_spread 13 = .ok (.aload_n 0, 1) := by decide +kernel
theorem dMo_spread_14 : decode cMo_spread 14 = .ok (.getfield 81, 3) := by decide +kernel
theorem dMo_spread_17 : decode cMo_spread 17 = .ok (.iload_n 1, 1) := by decide +kernel
theorem dMo_spread_18 : decode cMo_spread 18 = .ok (.baload, 1) := by decide +kernel
theorem dMo_spread_19 : decode cMo_spread 19 = .ok (.ifCond .eq 14, 3) := by decide +kernel
theorem dMo_spread_22 : decode cMo_spread 22 = .ok (.aload_n 0, 1) := by decide +kernel
theorem dMo_spread_23 : decode cMo_spread 23 = .ok (.getfield 87, 3) := by decide +kernel
theorem dMo_spread_26 : decode cMo_spread 26 = .ok (.iload_n 1, 1) := by decide +kernel
theorem dMo_spread_27 : decode cMo_spread 27 = .ok (.iaload, 1) := by decide +kernel
theorem dMo_spread_28 : decode cMo_spread 28 = .ok (.bipush 20, 2) := by decide +kernel
theorem dMo_spread_30 : decode cMo_spread 30 = .ok (.if_icmp .ne 7, 3) := by decide +kernel
theorem dMo_spread_33 : decode cMo_spread 33 = .ok (.iconst 2, 1) := by decide +kernel
theorem dMo_spread_34 : decode cMo_spread 34 = .ok (.goto 4, 3) := by decide +kernel
theorem dMo_spread_37 : decode cMo_spread 37 = .ok (.iconst 0, 1) := by decide +kernel
theorem dMo_spread_38 : decode cMo_spread 38 = .ok (.putfield 90, 3) := by decide +kernel
theorem dMo_spread_41 : decode cMo_spread 41 = .ok (.aload_n 0, 1) := by decide +kernel
theorem dMo_spread_42 : decode cMo_spread 42 = .ok (.getfield 90, 3) := by decide +kernel
theorem dMo_spread_45 : decode cMo_spread 45 = .ok (.ifCond .ne 22, 3) := by decide +kernel
theorem dMo_spread_48 : decode cMo_spread 48 = .ok (.aload_n 0, 1) := by decide +kernel
theorem dMo_spread_49 : decode cMo_spread 49 = .ok (.getfield 87, 3) := by decide +kernel
theorem dMo_spread_52 : decode cMo_spread 52 = .ok (.iload_n 1, 1) := by decide +kernel
theorem dMo_spread_53 : decode cMo_spread 53 = .ok (.dup2, 1) := by decide +kernel
theorem dMo_spread_54 : decode cMo_spread 54 = .ok (.iaload, 1) := by decide +kernel
theorem dMo_spread_55 : decode cMo_spread 55 = .ok (.iconst 1, 1) := by decide +kernel
theorem dMo_spread_56 : decode cMo_spread 56 = .ok (.iadd, 1) := by decide +kernel
theorem dMo_spread_57 : decode cMo_spread 57 = .ok (.iastore, 1) := by decide +kernel
theorem dMo_spread_58 : decode cMo_spread 58 = .ok (.aload_n 0, 1) := by decide +kernel
theorem dMo_spread_59 : decode cMo_spread 59 = .ok (.iload_n 1, 1) := by decide +kernel
theorem dMo_spread_60 : decode cMo_spread 60 = .ok (.iload_n 2, 1) := by decide +kernel
theorem dMo_spread_61 : decode cMo_spread 61 = .ok (.iconst 4, 1) := by decide +kernel
theorem dMo_spread_62 : decode cMo_spread 62 = .ok (.iconst 0, 1) := by decide +kernel
theorem dMo_spread_63 : decode cMo_spread 63 = .ok (.iconst 0, 1) := by decide +kernel
theorem dMo_spread_64 : decode cMo_spread 64 = .ok (.invokevirtual 99, 3) := by decide +kernel
theorem dMo_spread_67 : decode cMo_spread 67 = .ok (.return_, 1) := by decide +kernel
theorem dMo_rest_0 : decode cMo_rest 0 = .ok (.aload_n 0, 1) := by decide +kernel
theorem dMo_rest_1 : decode cMo_rest 1 = .ok (.iload_n 1, 1) := by decide +kernel
theorem dMo_rest_2 : decode cMo_rest 2 = .ok (.invokestatic 103, 3) := by decide +kernel
theorem dMo_rest_5 : decode cMo_rest 5 = .ok (.ifCond .ne 7, 3) := by decide +kernel
theorem dMo_rest_8 : decode cMo_rest 8 = .ok (.iconst 1, 1) := by decide +kernel
theorem dMo_rest_9 : decode cMo_rest 9 = .ok (.goto 17, 3) := by decide +kernel
theorem dMo_rest_12 : decode cMo_rest 12 = .ok (.aload_n 0, 1) := by decide +kernel
theorem dMo_rest_13 : decode cMo_rest 13 = .ok (.getfield 81, 3) := by decide +kernel
theorem dMo_rest_16 : decode cMo_rest 16 = .ok (.iload_n 1, 1) := by decide +kernel
theorem dMo_rest_17 : decode cMo_rest 17 = .ok (.baload, 1) := by decide +kernel
theorem dMo_rest_18 : decode cMo_rest 18 = .ok (.ifCond .ne 7, 3) := by decide +kernel
theorem dMo_rest_21 : decode cMo_rest 21 = .ok (.iconst 2, 1) := by decide +kernel
theorem dMo_rest_22 : decode cMo_rest 22 = .ok (.goto 4, 3) := by decide +kernel
theorem dMo_rest_25 : decode cMo_rest 25 = .ok (.iconst 0, 1) := by decide +kernel
theorem dMo_rest_26 : decode cMo_rest 26 = .ok (.putfield 90, 3) := by decide +kernel
theorem dMo_rest_29 : decode cMo_rest 29 = .ok (.aload_n 0, 1) := by decide +kernel
theorem dMo_rest_30 : decode cMo_rest 30 = .ok (.getfield 90, 3) := by decide +kernel
theorem dMo_rest_33 : decode cMo_rest 33 = .ok (.ifCond .ne 15, 3) := by decide +kernel
theorem dMo_rest_36 : decode cMo_rest 36 = .ok (.aload_n 0, 1) := by decide +kernel
theorem dMo_rest_37 : decode cMo_rest 37 = .ok (.getfield 81, 3) := by decide +kernel
theorem dMo_rest_40 : decode cMo_rest 40 = .ok (.iload_n 1, 1) := by decide +kernel
theorem dMo_rest_41 : decode cMo_rest 41 = .ok (.iconst 0, 1) := by decide +kernel
theorem dMo_rest_42 : decode cMo_rest 42 = .ok (.bastore, 1) := by decide +kernel
theorem dMo_rest_43 : decode cMo_rest 43 = .ok (.aload_n 0, 1) := by decide +kernel
theorem dMo_rest_44 : decode cMo_rest 44 = .ok (.iload_n 1, 1) := by decide +kernel
theorem dMo_rest_45 : decode cMo_rest 45 = .ok (.invokevirtual 167, 3) := by decide +kernel
theorem dMo_rest_48 : decode cMo_rest 48 = .ok (.return_, 1) := by decide +kernel
theorem dMo_deliver_0 : decode cMo_deliver 0 = .ok (.aload_n 0, 1) := by decide +kernel
theorem dMo_deliver_1 : decode cMo_deliver 1 = .ok (.iload_n 1, 1) := by decide +kernel
theorem dMo_deliver_2 : decode cMo_deliver 2 = .ok (.iload_n 2, 1) := by decide +kernel
theorem dMo_deliver_3 : decode cMo_deliver 3 = .ok (.invokestatic 107, 3) := by decide +kernel
theorem dMo_deliver_6 : decode cMo_deliver 6 = .ok (.ifCond .ne 7, 3) := by decide +kernel
theorem dMo_deliver_9 : decode cMo_deliver 9 = .ok (.iconst 1, 1) := by decide +kernel
theorem dMo_deliver_10 : decode cMo_deliver 10 = .ok (.goto 21, 3) := by decide +kernel
theorem dMo_deliver_13 : decode cMo_deliver 13 = .ok (.aload_n 0, 1) := by decide +kernel
theorem dMo_deliver_14 : decode cMo_deliver 14 = .ok (.getfield 7, 3) := by decide +kernel
theorem dMo_deliver_17 : decode cMo_deliver 17 = .ok (.iconst 4, 1) := by decide +kernel
theorem dMo_deliver_18 : decode cMo_deliver 18 = .ok (.iload_n 1, 1) := by decide +kernel
theorem dMo_deliver_19 : decode cMo_deliver 19 = .ok (.imul, 1) := by decide +kernel
theorem dMo_deliver_20 : decode cMo_deliver 20 = .ok (.iload_n 2, 1) := by decide +kernel
theorem dMo_deliver_21 : decode cMo_deliver 21 = .ok (.iadd, 1) := by decide +kernel
theorem dMo_deliver_22 : decode cMo_deliver 22 = .ok (.iaload, 1) := by decide +kernel
theorem dMo_deliver_23 : decode cMo_deliver 23 = .ok (.ifCond .ge 7, 3) := by decide +kernel
theorem dMo_deliver_26 : decode cMo_deliver 26 = .ok (.iconst 2, 1) := by decide +kernel
theorem dMo_deliver_27 : decode cMo_deliver 27 = .ok (.goto 4, 3) := by decide +kernel
theorem dMo_deliver_30 : decode cMo_deliver 30 = .ok (.iconst 0, 1) := by decide +kernel
theorem dMo_deliver_31 : decode cMo_deliver 31 = .ok (.putfield 90, 3) := by decide +kernel
theorem dMo_deliver_34 : decode cMo_deliver 34 = .ok (.aload_n 0, 1) := by decide +kernel
theorem dMo_deliver_35 : decode cMo_deliver 35 = .ok (.getfield 90, 3) := by decide +kernel
theorem dMo_deliver_38 : decode cMo_deliver 38 = .ok (.ifCond .eq 5, 3) := by decide +kernel
theorem dMo_deliver_41 : decode cMo_deliver 41 = .ok (.iconst 0, 1) := by decide +kernel
theorem dMo_deliver_42 : decode cMo_deliver 42 = .ok (.ireturn, 1) := by decide +kernel
theorem dMo_deliver_43 : decode cMo_deliver 43 = .ok (.iconst 4, 1) := by decide +kernel
theorem dMo_deliver_44 : decode cMo_deliver 44 = .ok (.iload_n 1, 1) := by decide +kernel
theorem dMo_deliver_45 : decode cMo_deliver 45 = .ok (.imul, 1) := by decide +kernel
theorem dMo_deliver_46 : decode cMo_deliver 46 = .ok (.iload_n 2, 1) := by decide +kernel
theorem dMo_deliver_47 : decode cMo_deliver 47 = .ok (.iadd, 1) := by decide +kernel
theorem dMo_deliver_48 : decode cMo_deliver 48 = .ok (.istore_n 3, 1) := by decide +kernel
theorem dMo_deliver_49 : decode cMo_deliver 49 = .ok (.aload_n 0, 1) := by decide +kernel
theorem dMo_deliver_50 : decode cMo_deliver 50 = .ok (.getfield 7, 3) := by decide +kernel
theorem dMo_deliver_53 : decode cMo_deliver 53 = .ok (.iload_n 3, 1) := by decide +kernel
theorem dMo_deliver_54 : decode cMo_deliver 54 = .ok (.iaload, 1) := by decide +kernel
theorem dMo_deliver_55 : decode cMo_deliver 55 = .ok (.istore 4, 2) := by decide +kernel
theorem dMo_deliver_57 : decode cMo_deliver 57 = .ok (.aload_n 0, 1) := by decide +kernel
theorem dMo_deliver_58 : decode cMo_deliver 58 = .ok (.getfield 7, 3) := by decide +kernel
theorem dMo_deliver_61 : decode cMo_deliver 61 = .ok (.iload_n 3, 1) := by decide +kernel
theorem dMo_deliver_62 : decode cMo_deliver 62 = .ok (.aload_n 0, 1) := by decide +kernel
theorem dMo_deliver_63 : decode cMo_deliver 63 = .ok (.getfield 25, 3) := by decide +kernel
theorem dMo_deliver_66 : decode cMo_deliver 66 = .ok (.iload 4, 2) := by decide +kernel
theorem dMo_deliver_68 : decode cMo_deliver 68 = .ok (.iaload, 1) := by decide +kernel
theorem dMo_deliver_69 : decode cMo_deliver 69 = .ok (.iastore, 1) := by decide +kernel
theorem dMo_deliver_70 : decode cMo_deliver 70 = .ok (.aload_n 0, 1) := by decide +kernel
theorem dMo_deliver_71 : decode cMo_deliver 71 = .ok (.getfield 13, 3) := by decide +kernel
theorem dMo_deliver_74 : decode cMo_deliver 74 = .ok (.iload_n 3, 1) := by decide +kernel
theorem dMo_deliver_75 : decode cMo_deliver 75 = .ok (.aload_n 0, 1) := by decide +kernel
theorem dMo_deliver_76 : decode cMo_deliver 76 = .ok (.getfield 7, 3) := by decide +kernel
theorem dMo_deliver_79 : decode cMo_deliver 79 = .ok (.iload_n 3, 1) := by decide +kernel
theorem dMo_deliver_80 : decode cMo_deliver 80 = .ok (.iaload, 1) := by decide +kernel
theorem dMo_deliver_81 : decode cMo_deliver 81 = .ok (.ifCond .ge 7, 3) := by decide +kernel
theorem dMo_deliver_84 : decode cMo_deliver 84 = .ok (.iconst (-1), 1) := by decide +kernel
theorem dMo_deliver_85 : decode cMo_deliver 85 = .ok (.goto 9, 3) := by decide +kernel
theorem dMo_deliver_88 : decode cMo_deliver 88 = .ok (.aload_n 0, 1) := by decide +kernel
theorem dMo_deliver_89 : decode cMo_deliver 89 = .ok (.getfield 13, 3) := by decide +kernel
theorem dMo_deliver_92 : decode cMo_deliver 92 = .ok (.iload_n 3, 1) := by decide +kernel
theorem dMo_deliver_93 : decode cMo_deliver 93 = .ok (.iaload, 1) := by decide +kernel
theorem dMo_deliver_94 : decode cMo_deliver 94 = .ok (.iastore, 1) := by decide +kernel
theorem dMo_deliver_95 : decode cMo_deliver 95 = .ok (.aload_n 0, 1) := by decide +kernel
theorem dMo_deliver_96 : decode cMo_deliver 96 = .ok (.getfield 16, 3) := by decide +kernel
theorem dMo_deliver_99 : decode cMo_deliver 99 = .ok (.iload_n 3, 1) := by decide +kernel
theorem dMo_deliver_100 : decode cMo_deliver 100 = .ok (.dup2, 1) := by decide +kernel
theorem dMo_deliver_101 : decode cMo_deliver 101 = .ok (.iaload, 1) := by decide +kernel
theorem dMo_deliver_102 : decode cMo_deliver 102 = .ok (.iconst 1, 1) := by decide +kernel
theorem dMo_deliver_103 : decode cMo_deliver 103 = .ok (.isub, 1) := by decide +kernel
theorem dMo_deliver_104 : decode cMo_deliver 104 = .ok (.iastore, 1) := by decide +kernel
theorem dMo_deliver_105 : decode cMo_deliver 105 = .ok (.aload_n 0, 1) := by decide +kernel
theorem dMo_deliver_106 : decode cMo_deliver 106 = .ok (.getfield 25, 3) := by decide +kernel
theorem dMo_deliver_109 : decode cMo_deliver 109 = .ok (.iload 4, 2) := by decide +kernel
theorem dMo_deliver_111 : decode cMo_deliver 111 = .ok (.aload_n 0, 1) := by decide +kernel
theorem dMo_deliver_112 : decode cMo_deliver 112 = .ok (.getfield 28, 3) := by decide +kernel
theorem dMo_deliver_115 : decode cMo_deliver 115 = .ok (.iastore, 1) := by decide +kernel
theorem dMo_deliver_116 : decode cMo_deliver 116 = .ok (.aload_n 0, 1) := by decide +kernel
theorem dMo_deliver_117 : decode cMo_deliver 117 = .ok (.iload 4, 2) := by decide +kernel
theorem dMo_deliver_119 : decode cMo_deliver 119 = .ok (.putfield 28, 3) := by decide +kernel
theorem dMo_deliver_122 : decode cMo_deliver 122 = .ok (.aload_n 0, 1) := by decide +kernel
theorem dMo_deliver_123 : decode cMo_deliver 123 = .ok (.getfield 19, 3) := by decide +kernel
theorem dMo_deliver_126 : decode cMo_deliver 126 = .ok (.iload 4, 2) := by decide +kernel
theorem dMo_deliver_128 : decode cMo_deliver 128 = .ok (.iaload, 1) := by decide +kernel
theorem dMo_deliver_129 : decode cMo_deliver 129 = .ok (.bipush 10, 2) := by decide +kernel
theorem dMo_deliver_131 : decode cMo_deliver 131 = .ok (.idiv, 1) := by decide +kernel
theorem dMo_deliver_132 : decode cMo_deliver 132 = .ok (.istore 5, 2) := by decide +kernel
theorem dMo_deliver_134 : decode cMo_deliver 134 = .ok (.aload_n 0, 1) := by decide +kernel
theorem dMo_deliver_135 : decode cMo_deliver 135 = .ok (.getfield 19, 3) := by decide +kernel
theorem dMo_deliver_138 : decode cMo_deliver 138 = .ok (.iload 4, 2) := by decide +kernel
theorem dMo_deliver_140 : decode cMo_deliver 140 = .ok (.iaload, 1) := by decide +kernel
theorem dMo_deliver_141 : decode cMo_deliver 141 = .ok (.bipush 10, 2) := by decide +kernel
theorem dMo_deliver_143 : decode cMo_deliver 143 = .ok (.irem, 1) := by decide +kernel
theorem dMo_deliver_144 : decode cMo_deliver 144 = .ok (.istore 6, 2) := by decide +kernel
theorem dMo_deliver_146 : decode cMo_deliver 146 = .ok (.aload_n 0, 1) := by decide +kernel
theorem dMo_deliver_147 : decode cMo_deliver 147 = .ok (.getfield 22, 3) := by decide +kernel
theorem dMo_deliver_150 : decode cMo_deliver 150 = .ok (.iload 4, 2) := by decide +kernel
theorem dMo_deliver_152 : decode cMo_deliver 152 = .ok (.iaload, 1) := by decide +kernel
theorem dMo_deliver_153 : decode cMo_deliver 153 = .ok (.istore 7, 2) := by decide +kernel
theorem dMo_deliver_155 : decode cMo_deliver 155 = .ok (.iload 5, 2) := by decide +kernel
theorem dMo_deliver_157 : decode cMo_deliver 157 = .ok (.tableswitch 80 0 3 #[31, 44, 57, 68], 31) := by decide +kernel
theorem dMo_deliver_188 : decode cMo_deliver 188 = .ok (.aload_n 0, 1) := by decide +kernel
theorem dMo_deliver_189 : decode cMo_deliver 189 = .ok (.iload_n 1, 1) := by decide +kernel
theorem dMo_deliver_190 : decode cMo_deliver 190 = .ok (.iload_n 2, 1) := by decide +kernel
theorem dMo_deliver_191 : decode cMo_deliver 191 = .ok (.iload 6, 2) := by decide +kernel
theorem dMo_deliver_193 : decode cMo_deliver 193 = .ok (.iload 7, 2) := by decide +kernel
theorem dMo_deliver_195 : decode cMo_deliver 195 = .ok (.invokevirtual 111, 3) := by decide +kernel
theorem dMo_deliver_198 : decode cMo_deliver 198 = .ok (.goto 47, 3) := by decide +kernel
theorem dMo_deliver_201 : decode cMo_deliver 201 = .ok (.aload_n 0, 1) := by decide +kernel
theorem dMo_deliver_202 : decode cMo_deliver 202 = .ok (.iload_n 1, 1) := by decide +kernel
theorem dMo_deliver_203 : decode cMo_deliver 203 = .ok (.iload_n 2, 1) := by decide +kernel
theorem dMo_deliver_204 : decode cMo_deliver 204 = .ok (.iload 6, 2) := by decide +kernel
theorem dMo_deliver_206 : decode cMo_deliver 206 = .ok (.iload 7, 2) := by decide +kernel
theorem dMo_deliver_208 : decode cMo_deliver 208 = .ok (.invokevirtual 115, 3) := by decide +kernel
theorem dMo_deliver_211 : decode cMo_deliver 211 = .ok (.goto 34, 3) := by decide +kernel
theorem dMo_deliver_214 : decode cMo_deliver 214 = .ok (.aload_n 0, 1) := by decide +kernel
theorem dMo_deliver_215 : decode cMo_deliver 215 = .ok (.iload_n 1, 1) := by decide +kernel
theorem dMo_deliver_216 : decode cMo_deliver 216 = .ok (.iload_n 2, 1) := by decide +kernel
theorem dMo_deliver_217 : decode cMo_deliver 217 = .ok (.iload 6, 2) := by decide +kernel
theorem dMo_deliver_219 : decode cMo_deliver 219 = .ok (.invokevirtual 118, 3) := by decide +kernel
theorem dMo_deliver_222 : decode cMo_deliver 222 = .ok (.goto 23, 3) := by decide +kernel
theorem dMo_deliver_225 : decode cMo_deliver 225 = .ok (.aload_n 0, 1) := by decide +kernel
theorem dMo_deliver_226 : decode cMo_deliver 226 = .ok (.iload_n 2, 1) := by decide +kernel
theorem dMo_deliver_227 : decode cMo_deliver 227 = .ok (.iload 6, 2) := by decide +kernel
theorem dMo_deliver_229 : decode cMo_deliver 229 = .ok (.iload 7, 2) := by decide +kernel
theorem dMo_deliver_231 : decode cMo_deliver 231 = .ok (.invokevirtual 122, 3) := by decide +kernel
theorem dMo_deliver_234 : decode cMo_deliver 234 = .ok (.goto 11, 3) := by decide +kernel
theorem dMo_deliver_237 : decode cMo_deliver 237 = .ok (.aload_n 0, 1) := by decide +kernel
theorem dMo_deliver_238 : decode cMo_deliver 238 = .ok (.iload_n 1, 1) := by decide +kernel
theorem dMo_deliver_239 : decode cMo_deliver 239 = .ok (.iload_n 2, 1) := by decide +kernel
theorem dMo_deliver_240 : decode cMo_deliver 240 = .ok (.iload 6, 2) := by decide +kernel
theorem dMo_deliver_242 : decode cMo_deliver 242 = .ok (.invokevirtual 125, 3) := by decide +kernel
theorem dMo_deliver_245 : decode cMo_deliver 245 = .ok (.iload 5, 2) := by decide +kernel
theorem dMo_deliver_247 : decode cMo_deliver 247 = .ok (.ireturn, 1) := by decide +kernel
theorem dMo_first_0 : decode cMo_first 0 = .ok (.aload_n 0, 1) := by decide +kernel
theorem dMo_first_1 : decode cMo_first 1 = .ok (.iload_n 1, 1) := by decide +kernel
theorem dMo_first_2 : decode cMo_first 2 = .ok (.iload_n 2, 1) := by decide +kernel
theorem dMo_first_3 : decode cMo_first 3 = .ok (.invokestatic 107, 3) := by decide +kernel
theorem dMo_first_6 : decode cMo_first 6 = .ok (.ifCond .eq 7, 3) := by decide +kernel
theorem dMo_first_9 : decode cMo_first 9 = .ok (.iconst 0, 1) := by decide +kernel
theorem dMo_first_10 : decode cMo_first 10 = .ok (.goto 4, 3) := by decide +kernel
theorem dMo_first_13 : decode cMo_first 13 = .ok (.iconst 1, 1) := by decide +kernel
theorem dMo_first_14 : decode cMo_first 14 = .ok (.putfield 90, 3) := by decide +kernel
theorem dMo_first_17 : decode cMo_first 17 = .ok (.aload_n 0, 1) := by decide +kernel
theorem dMo_first_18 : decode cMo_first 18 = .ok (.getfield 90, 3) := by decide +kernel
theorem dMo_first_21 : decode cMo_first 21 = .ok (.ifCond .eq 5, 3) := by decide +kernel
theorem dMo_first_24 : decode cMo_first 24 = .ok (.iconst 0, 1) := by decide +kernel
theorem dMo_first_25 : decode cMo_first 25 = .ok (.ireturn, 1) := by decide +kernel
theorem dMo_first_26 : decode cMo_first 26 = .ok (.iconst 4, 1) := by decide +kernel
theorem dMo_first_27 : decode cMo_first 27 = .ok (.iload_n 1, 1) := by decide +kernel
theorem dMo_first_28 : decode cMo_first 28 = .ok (.imul, 1) := by decide +kernel
theorem dMo_first_29 : decode cMo_first 29 = .ok (.iload_n 2, 1) := by decide +kernel
theorem dMo_first_30 : decode cMo_first 30 = .ok (.iadd, 1) := by decide +kernel
theorem dMo_first_31 : decode cMo_first 31 = .ok (.istore_n 3, 1) := by decide +kernel
theorem dMo_first_32 : decode cMo_first 32 = .ok (.aload_n 0, 1) := by decide +kernel
theorem dMo_first_33 : decode cMo_first 33 = .ok (.getfield 7, 3) := by decide +kernel
theorem dMo_first_36 : decode cMo_first 36 = .ok (.iload_n 3, 1) := by decide +kernel
theorem dMo_first_37 : decode cMo_first 37 = .ok (.iaload, 1) := by decide +kernel
theorem dMo_first_38 : decode cMo_first 38 = .ok (.istore 4, 2) := by decide +kernel
theorem dMo_first_40 : decode cMo_first 40 = .ok (.iload 4, 2) := by decide +kernel
theorem dMo_first_42 : decode cMo_first 42 = .ok (.ifCond .ge 7, 3) := by decide +kernel
theorem dMo_first_45 : decode cMo_first 45 = .ok (.iconst (-1), 1) := by decide +kernel
theorem dMo_first_46 : decode cMo_first 46 = .ok (.goto 46, 3) := by decide +kernel
theorem dMo_first_49 : decode cMo_first 49 = .ok (.bipush 100, 2) := by decide +kernel
theorem dMo_first_51 : decode cMo_first 51 = .ok (.aload_n 0, 1) := by decide +kernel
theorem dMo_first_52 : decode cMo_first 52 = .ok (.getfield 19, 3) := by decide +kernel
theorem dMo_first_55 : decode cMo_first 55 = .ok (.iload 4, 2) := by decide +kernel
theorem dMo_first_57 : decode cMo_first 57 = .ok (.iaload, 1) := by decide +kernel
theorem dMo_first_58 : decode cMo_first 58 = .ok (.bipush 10, 2) := by decide +kernel
theorem dMo_first_60 : decode cMo_first 60 = .ok (.idiv, 1) := by decide +kernel
theorem dMo_first_61 : decode cMo_first 61 = .ok (.imul, 1) := by decide +kernel
theorem dMo_first_62 : decode cMo_first 62 = .ok (.bipush 10, 2) := by decide +kernel
theorem dMo_first_64 : decode cMo_first 64 = .ok (.aload_n 0, 1) := by decide +kernel
theorem dMo_first_65 : decode cMo_first 65 = .ok (.getfield 19, 3) := by decide +kernel
theorem dMo_first_68 : decode cMo_first 68 = .ok (.iload 4, 2) := by decide +kernel
theorem dMo_first_70 : decode cMo_first 70 = .ok (.iaload, 1) := by decide +kernel
theorem dMo_first_71 : decode cMo_first 71 = .ok (.bipush 10, 2) := by decide +kernel
theorem dMo_first_73 : decode cMo_first 73 = .ok (.irem, 1) := by decide +kernel
theorem dMo_first_74 : decode cMo_first 74 = .ok (.imul, 1) := by decide +kernel
theorem dMo_first_75 : decode cMo_first 75 = .ok (.iadd, 1) := by decide +kernel
theorem dMo_first_76 : decode cMo_first 76 = .ok (.aload_n 0, 1) := by decide +kernel
theorem dMo_first_77 : decode cMo_first 77 = .ok (.getfield 16, 3) := by decide +kernel
theorem dMo_first_80 : decode cMo_first 80 = .ok (.iload_n 3, 1) := by decide +kernel
theorem dMo_first_81 : decode cMo_first 81 = .ok (.iaload, 1) := by decide +kernel
theorem dMo_first_82 : decode cMo_first 82 = .ok (.iconst 1, 1) := by decide +kernel
theorem dMo_first_83 : decode cMo_first 83 = .ok (.if_icmp .le 7, 3) := by decide +kernel
theorem dMo_first_86 : decode cMo_first 86 = .ok (.iconst 1, 1) := by decide +kernel
theorem dMo_first_87 : decode cMo_first 87 = .ok (.goto 4, 3) := by decide +kernel
theorem dMo_first_90 : decode cMo_first 90 = .ok (.iconst 0, 1) := by decide +kernel
theorem dMo_first_91 : decode cMo_first 91 = .ok (.iadd, 1) := by decide +kernel
theorem dMo_first_92 : decode cMo_first 92 = .ok (.ireturn, 1) := by decide +kernel
theorem dMo_waiting_0 : decode cMo_waiting 0 = .ok (.aload_n 0, 1) := by decide +kernel
theorem dMo_waiting_1 : decode cMo_waiting 1 = .ok (.iload_n 1, 1) := by decide +kernel
theorem dMo_waiting_2 : decode cMo_waiting 2 = .ok (.iload_n 2, 1) := by decide +kernel
theorem dMo_waiting_3 : decode cMo_waiting 3 = .ok (.invokestatic 107, 3) := by decide +kernel
theorem dMo_waiting_6 : decode cMo_waiting 6 = .ok (.ifCond .eq 7, 3) := by decide +kernel
theorem dMo_waiting_9 : decode cMo_waiting 9 = .ok (.iconst 0, 1) := by decide +kernel
theorem dMo_waiting_10 : decode cMo_waiting 10 = .ok (.goto 4, 3) := by decide +kernel
theorem dMo_waiting_13 : decode cMo_waiting 13 = .ok (.iconst 1, 1) := by decide +kernel
theorem dMo_waiting_14 : decode cMo_waiting 14 = .ok (.putfield 90, 3) := by decide +kernel
theorem dMo_waiting_17 : decode cMo_waiting 17 = .ok (.aload_n 0, 1) := by decide +kernel
theorem dMo_waiting_18 : decode cMo_waiting 18 = .ok (.getfield 90, 3) := by decide +kernel
theorem dMo_waiting_21 : decode cMo_waiting 21 = .ok (.ifCond .ne 16, 3) := by decide +kernel
theorem dMo_waiting_24 : decode cMo_waiting 24 = .ok (.aload_n 0, 1) := by decide +kernel
theorem dMo_waiting_25 : decode cMo_waiting 25 = .ok (.getfield 16, 3) := by decide +kernel
theorem dMo_waiting_28 : decode cMo_waiting 28 = .ok (.iconst 4, 1) := by decide +kernel
theorem dMo_waiting_29 : decode cMo_waiting 29 = .ok (.iload_n 1, 1) := by decide +kernel
theorem dMo_waiting_30 : decode cMo_waiting 30 = .ok (.imul, 1) := by decide +kernel
theorem dMo_waiting_31 : decode cMo_waiting 31 = .ok (.iload_n 2, 1) := by decide +kernel
theorem dMo_waiting_32 : decode cMo_waiting 32 = .ok (.iadd, 1) := by decide +kernel
theorem dMo_waiting_33 : decode cMo_waiting 33 = .ok (.iaload, 1) := by decide +kernel
theorem dMo_waiting_34 : decode cMo_waiting 34 = .ok (.goto 4, 3) := by decide +kernel
theorem dMo_waiting_37 : decode cMo_waiting 37 = .ok (.iconst 0, 1) := by decide +kernel
theorem dMo_waiting_38 : decode cMo_waiting 38 = .ok (.ireturn, 1) := by decide +kernel
theorem dMo_about_0 : decode cMo_about 0 = .ok (.aload_n 0, 1) := by decide +kernel
theorem dMo_about_1 : decode cMo_about 1 = .ok (.iload_n 1, 1) := by decide +kernel
theorem dMo_about_2 : decode cMo_about 2 = .ok (.iload_n 2, 1) := by decide +kernel
theorem dMo_about_3 : decode cMo_about 3 = .ok (.invokestatic 170, 3) := by decide +kernel
theorem dMo_about_6 : decode cMo_about 6 = .ok (.ifCond .eq 7, 3) := by decide +kernel
theorem dMo_about_9 : decode cMo_about 9 = .ok (.iconst 0, 1) := by decide +kernel
theorem dMo_about_10 : decode cMo_about 10 = .ok (.goto 4, 3) := by decide +kernel
theorem dMo_about_13 : decode cMo_about 13 = .ok (.iconst 1, 1) := by decide +kernel
theorem dMo_about_14 : decode cMo_about 14 = .ok (.putfield 90, 3) := by decide +kernel
theorem dMo_about_17 : decode cMo_about 17 = .ok (.aload_n 0, 1) := by decide +kernel
theorem dMo_about_18 : decode cMo_about 18 = .ok (.getfield 90, 3) := by decide +kernel
theorem dMo_about_21 : decode cMo_about 21 = .ok (.ifCond .eq 5, 3) := by decide +kernel
theorem dMo_about_24 : decode cMo_about 24 = .ok (.iconst 0, 1) := by decide +kernel
theorem dMo_about_25 : decode cMo_about 25 = .ok (.ireturn, 1) := by decide +kernel
theorem dMo_about_26 : decode cMo_about 26 = .ok (.iload_n 1, 1) := by decide +kernel
theorem dMo_about_27 : decode cMo_about 27 = .ok (.iconst 3, 1) := by decide +kernel
theorem dMo_about_28 : decode cMo_about 28 = .ok (.if_icmp .ge 14, 3) := by decide +kernel
theorem dMo_about_31 : decode cMo_about 31 = .ok (.aload_n 0, 1) := by decide +kernel
theorem dMo_about_32 : decode cMo_about 32 = .ok (.getfield 32, 3) := by decide +kernel
theorem dMo_about_35 : decode cMo_about 35 = .ok (.iconst 4, 1) := by decide +kernel
theorem dMo_about_36 : decode cMo_about 36 = .ok (.iload_n 1, 1) := by decide +kernel
theorem dMo_about_37 : decode cMo_about 37 = .ok (.imul, 1) := by decide +kernel
theorem dMo_about_38 : decode cMo_about 38 = .ok (.iload_n 2, 1) := by decide +kernel
theorem dMo_about_39 : decode cMo_about 39 = .ok (.iadd, 1) := by decide +kernel
theorem dMo_about_40 : decode cMo_about 40 = .ok (.iaload, 1) := by decide +kernel
theorem dMo_about_41 : decode cMo_about 41 = .ok (.ireturn, 1) := by decide +kernel
theorem dMo_about_42 : decode cMo_about 42 = .ok (.iload_n 1, 1) := by decide +kernel
theorem dMo_about_43 : decode cMo_about 43 = .ok (.iconst 3, 1) := by decide +kernel
theorem dMo_about_44 : decode cMo_about 44 = .ok (.if_icmp .ne 12, 3) := by decide +kernel
theorem dMo_about_47 : decode cMo_about 47 = .ok (.aload_n 0, 1) := by decide +kernel
theorem dMo_about_48 : decode cMo_about 48 = .ok (.getfield 72, 3) := by decide +kernel
theorem dMo_about_51 : decode cMo_about 51 = .ok (.iload_n 2, 1) := by decide +kernel
theorem dMo_about_52 : decode cMo_about 52 = .ok (.iaload, 1) := by decide +kernel
theorem dMo_about_53 : decode cMo_about 53 = .ok (.goto 49, 3) := by decide +kernel
theorem dMo_about_56 : decode cMo_about 56 = .ok (.aload_n 0, 1) := by decide +kernel
theorem dMo_about_57 : decode cMo_about 57 = .ok (.getfield 81, 3) := by decide +kernel
theorem dMo_about_60 : decode cMo_about 60 = .ok (.iload_n 2, 1) := by decide +kernel
theorem dMo_about_61 : decode cMo_about 61 = .ok (.baload, 1) := by decide +kernel
theorem dMo_about_62 : decode cMo_about 62 = .ok (.ifCond .eq 7, 3) := by decide +kernel
theorem dMo_about_65 : decode cMo_about 65 = .ok (.iconst 1, 1) := by decide +kernel
theorem dMo_about_66 : decode cMo_about 66 = .ok (.goto 4, 3) := by decide +kernel
theorem dMo_about_69 : decode cMo_about 69 = .ok (.iconst 0, 1) := by decide +kernel
theorem dMo_about_70 : decode cMo_about 70 = .ok (.aload_n 0, 1) := by decide +kernel
theorem dMo_about_71 : decode cMo_about 71 = .ok (.getfield 84, 3) := by decide +kernel
theorem dMo_about_74 : decode cMo_about 74 = .ok (.iload_n 2, 1) := by decide +kernel
theorem dMo_about_75 : decode cMo_about 75 = .ok (.iaload, 1) := by decide +kernel
theorem dMo_about_76 : decode cMo_about 76 = .ok (.ifCond .ge 11, 3) := by decide +kernel
theorem dMo_about_79 : decode cMo_about 79 = .ok (.aload_n 0, 1) := by decide +kernel
theorem dMo_about_80 : decode cMo_about 80 = .ok (.getfield 78, 3) := by decide +kernel
theorem dMo_about_83 : decode cMo_about 83 = .ok (.iload_n 2, 1) := by decide +kernel
theorem dMo_about_84 : decode cMo_about 84 = .ok (.if_icmp .ne 7, 3) := by decide +kernel
theorem dMo_about_87 : decode cMo_about 87 = .ok (.iconst 2, 1) := by decide +kernel
theorem dMo_about_88 : decode cMo_about 88 = .ok (.goto 4, 3) := by decide +kernel
theorem dMo_about_91 : decode cMo_about 91 = .ok (.iconst 0, 1) := by decide +kernel
theorem dMo_about_92 : decode cMo_about 92 = .ok (.iadd, 1) := by decide +kernel
theorem dMo_about_93 : decode cMo_about 93 = .ok (.iconst 4, 1) := by decide +kernel
theorem dMo_about_94 : decode cMo_about 94 = .ok (.aload_n 0, 1) := by decide +kernel
theorem dMo_about_95 : decode cMo_about 95 = .ok (.getfield 87, 3) := by decide +kernel
theorem dMo_about_98 : decode cMo_about 98 = .ok (.iload_n 2, 1) := by decide +kernel
theorem dMo_about_99 : decode cMo_about 99 = .ok (.iaload, 1) := by decide +kernel
theorem dMo_about_100 : decode cMo_about 100 = .ok (.imul, 1) := by decide +kernel
theorem dMo_about_101 : decode cMo_about 101 = .ok (.iadd, 1) := by decide +kernel
theorem dMo_about_102 : decode cMo_about 102 = .ok (.ireturn, 1) := by decide +kernel
theorem dMo_more_0 : decode cMo_more 0 = .ok (.aload_n 0, 1) := by decide +kernel
theorem dMo_more_1 : decode cMo_more 1 = .ok (.iload_n 1, 1) := by decide +kernel
theorem dMo_more_2 : decode cMo_more 2 = .ok (.iload_n 2, 1) := by decide +kernel
theorem dMo_more_3 : decode cMo_more 3 = .ok (.invokestatic 170, 3) := by decide +kernel
theorem dMo_more_6 : decode cMo_more 6 = .ok (.ifCond .eq 7, 3) := by decide +kernel
theorem dMo_more_9 : decode cMo_more 9 = .ok (.iconst 0, 1) := by decide +kernel
theorem dMo_more_10 : decode cMo_more 10 = .ok (.goto 4, 3) := by decide +kernel
theorem dMo_more_13 : decode cMo_more 13 = .ok (.iconst 1, 1) := by decide +kernel
theorem dMo_more_14 : decode cMo_more 14 = .ok (.putfield 90, 3) := by decide +kernel
theorem dMo_more_17 : decode cMo_more 17 = .ok (.aload_n 0, 1) := by decide +kernel
theorem dMo_more_18 : decode cMo_more 18 = .ok (.getfield 90, 3) := by decide +kernel
theorem dMo_more_21 : decode cMo_more 21 = .ok (.ifCond .eq 5, 3) := by decide +kernel
theorem dMo_more_24 : decode cMo_more 24 = .ok (.iconst 0, 1) := by decide +kernel
theorem dMo_more_25 : decode cMo_more 25 = .ok (.ireturn, 1) := by decide +kernel
theorem dMo_more_26 : decode cMo_more 26 = .ok (.iload_n 1, 1) := by decide +kernel
theorem dMo_more_27 : decode cMo_more 27 = .ok (.tableswitch 76 0 3 #[29, 36, 45, 52], 29) := by decide +kernel
theorem dMo_more_56 : decode cMo_more 56 = .ok (.aload_n 0, 1) := by decide +kernel
theorem dMo_more_57 : decode cMo_more 57 = .ok (.getfield 35, 3) := by decide +kernel
theorem dMo_more_60 : decode cMo_more 60 = .ok (.iload_n 2, 1) := by decide +kernel
theorem dMo_more_61 : decode cMo_more 61 = .ok (.iaload, 1) := by decide +kernel
theorem dMo_more_62 : decode cMo_more 62 = .ok (.ireturn, 1) := by decide +kernel
theorem dMo_more_63 : decode cMo_more 63 = .ok (.aload_n 0, 1) := by decide +kernel
theorem dMo_more_64 : decode cMo_more 64 = .ok (.getfield 47, 3) := by decide +kernel
theorem dMo_more_67 : decode cMo_more 67 = .ok (.iconst 5, 1) := by decide +kernel
theorem dMo_more_68 : decode cMo_more 68 = .ok (.iload_n 2, 1) := by decide +kernel
theorem dMo_more_69 : decode cMo_more 69 = .ok (.imul, 1) := by decide +kernel
theorem dMo_more_70 : decode cMo_more 70 = .ok (.iaload, 1) := by decide +kernel
theorem dMo_more_71 : decode cMo_more 71 = .ok (.ireturn, 1) := by decide +kernel
theorem dMo_more_72 : decode cMo_more 72 = .ok (.aload_n 0, 1) := by decide +kernel
theorem dMo_more_73 : decode cMo_more 73 = .ok (.getfield 56, 3) := by decide +kernel
theorem dMo_more_76 : decode cMo_more 76 = .ok (.iload_n 2, 1) := by decide +kernel
theorem dMo_more_77 : decode cMo_more 77 = .ok (.iaload, 1) := by decide +kernel
theorem dMo_more_78 : decode cMo_more 78 = .ok (.ireturn, 1) := by decide +kernel
theorem dMo_more_79 : decode cMo_more 79 = .ok (.aload_n 0, 1) := by decide +kernel
theorem dMo_more_80 : decode cMo_more 80 = .ok (.getfield 69, 3) := by decide +kernel
theorem dMo_more_83 : decode cMo_more 83 = .ok (.iload_n 2, 1) := by decide +kernel
theorem dMo_more_84 : decode cMo_more 84 = .ok (.iaload, 1) := by decide +kernel
theorem dMo_more_85 : decode cMo_more 85 = .ok (.aload_n 0, 1) := by decide +kernel
theorem dMo_more_86 : decode cMo_more 86 = .ok (.getfield 75, 3) := by decide +kernel
theorem dMo_more_89 : decode cMo_more 89 = .ok (.iload_n 2, 1) := by decide +kernel
theorem dMo_more_90 : decode cMo_more 90 = .ok (.baload, 1) := by decide +kernel
theorem dMo_more_91 : decode cMo_more 91 = .ok (.ifCond .eq 9, 3) := by decide +kernel
theorem dMo_more_94 : decode cMo_more 94 = .ok (.sipush 1000, 3) := by decide +kernel
theorem dMo_more_97 : decode cMo_more 97 = .ok (.goto 4, 3) := by decide +kernel
theorem dMo_more_100 : decode cMo_more 100 = .ok (.iconst 0, 1) := by decide +kernel
theorem dMo_more_101 : decode cMo_more 101 = .ok (.iadd, 1) := by decide +kernel
theorem dMo_more_102 : decode cMo_more 102 = .ok (.ireturn, 1) := by decide +kernel
theorem dMo_more_103 : decode cMo_more 103 = .ok (.aload_n 0, 1) := by decide +kernel
theorem dMo_more_104 : decode cMo_more 104 = .ok (.getfield 84, 3) := by decide +kernel
theorem dMo_more_107 : decode cMo_more 107 = .ok (.iload_n 2, 1) := by decide +kernel
theorem dMo_more_108 : decode cMo_more 108 = .ok (.iaload, 1) := by decide +kernel
theorem dMo_more_109 : decode cMo_more 109 = .ok (.ireturn, 1) := by decide +kernel
theorem dMo_count_0 : decode cMo_count 0 = .ok (.aload_n 0, 1) := by decide +kernel
theorem dMo_count_1 : decode cMo_count 1 = .ok (.iconst 0, 1) := by decide +kernel
theorem dMo_count_2 : decode cMo_count 2 = .ok (.putfield 90, 3) := by decide +kernel
theorem dMo_count_5 : decode cMo_count 5 = .ok (.iload_n 1, 1) := by decide +kernel
theorem dMo_count_6 : decode cMo_count 6 = .ok (.ifCond .ne 10, 3) := by decide +kernel
theorem dMo_count_9 : decode cMo_count 9 = .ok (.aload_n 0, 1) := by decide +kernel
theorem dMo_count_10 : decode cMo_count 10 = .ok (.getfield 128, 3) := by decide +kernel
theorem dMo_count_13 : decode cMo_count 13 = .ok (.goto 40, 3) := by decide +kernel
theorem dMo_count_16 : decode cMo_count 16 = .ok (.iload_n 1, 1) := by decide +kernel
theorem dMo_count_17 : decode cMo_count 17 = .ok (.iconst 1, 1) := by decide +kernel
theorem dMo_count_18 : decode cMo_count 18 = .ok (.if_icmp .ne 10, 3) := by decide +kernel
theorem dMo_count_21 : decode cMo_count 21 = .ok (.aload_n 0, 1) := by decide +kernel
theorem dMo_count_22 : decode cMo_count 22 = .ok (.getfield 96, 3) := by decide +kernel
theorem dMo_count_25 : decode cMo_count 25 = .ok (.goto 28, 3) := by decide +kernel
theorem dMo_count_28 : decode cMo_count 28 = .ok (.iload_n 1, 1) := by decide +kernel
theorem dMo_count_29 : decode cMo_count 29 = .ok (.iconst 2, 1) := by decide +kernel
theorem dMo_count_30 : decode cMo_count 30 = .ok (.if_icmp .ne 10, 3) := by decide +kernel
theorem dMo_count_33 : decode cMo_count 33 = .ok (.aload_n 0, 1) := by decide +kernel
theorem dMo_count_34 : decode cMo_count 34 = .ok (.getfield 164, 3) := by decide +kernel
theorem dMo_count_37 : decode cMo_count 37 = .ok (.goto 16, 3) := by decide +kernel
theorem dMo_count_40 : decode cMo_count 40 = .ok (.iload_n 1, 1) := by decide +kernel
theorem dMo_count_41 : decode cMo_count 41 = .ok (.iconst 3, 1) := by decide +kernel
theorem dMo_count_42 : decode cMo_count 42 = .ok (.if_icmp .ne 10, 3) := by decide +kernel
theorem dMo_count_45 : decode cMo_count 45 = .ok (.aload_n 0, 1) := by decide +kernel
theorem dMo_count_46 : decode cMo_count 46 = .ok (.getfield 78, 3) := by decide +kernel
theorem dMo_count_49 : decode cMo_count 49 = .ok (.goto 4, 3) := by decide +kernel
theorem dMo_count_52 : decode cMo_count 52 = .ok (.iconst (-1), 1) := by decide +kernel
theorem dMo_count_53 : decode cMo_count 53 = .ok (.ireturn, 1) := by decide +kernel
end
section
abbrev mT (tI tZ : ClassId) : List (ClassId × FieldType) := [(tI, .int), (tZ, .boolean)]
def mw (a : Nat → Nat) (tI tZ : ClassId) (σ : MS) : va_W := [(a 0, .inr (0, [.ref (a 1), .ref (a 2), .ref (a 3), .ref (a 4), .ref (a 5), .ref (a 6), .int (σ 6 0), .int (σ 7 0), .ref (a 7), .int (σ 9 0), .int (σ 10 0), .ref (a 8), .ref (a 9), .ref (a 10), .ref (a 11), .ref (a 12), .ref (a 13), .int (σ 17 0), .int (σ 18 0), .ref (a 14), .ref (a 15), .ref (a 16), .ref (a 17), .ref (a 18), .ref (a 19), .ref (a 20), .ref (a 21), .int (σ 27 0), .int (σ 28 0), .ref (a 22), .ref (a 23), .ref (a 24), .int (σ 32 0)])),
  (a 1, .inl (tI, 16, .inl (σ 0))),
  (a 2, .inl (tI, 16, .inl (σ 1))),
  (a 3, .inl (tI, 16, .inl (σ 2))),
  (a 4, .inl (tI, 700, .inl (σ 3))),
  (a 5, .inl (tI, 700, .inl (σ 4))),
  (a 6, .inl (tI, 700, .inl (σ 5))),
  (a 7, .inl (tI, 12, .inl (σ 8))),
  (a 8, .inl (tI, 4, .inl (σ 11))),
  (a 9, .inl (tI, 4, .inl (σ 12))),
  (a 10, .inl (tI, 4, .inl (σ 13))),
  (a 11, .inl (tI, 4, .inl (σ 14))),
  (a 12, .inl (tI, 16, .inl (σ 15))),
  (a 13, .inl (tI, 4, .inl (σ 16))),
  (a 14, .inl (tI, 4, .inl (σ 19))),
  (a 15, .inl (tI, 4, .inl (σ 20))),
  (a 16, .inl (tI, 4, .inl (σ 21))),
  (a 17, .inl (tI, 32, .inl (σ 22))),
  (a 18, .inl (tZ, 4, .inl (σ 23))),
  (a 19, .inl (tI, 4, .inl (σ 24))),
  (a 20, .inl (tI, 4, .inl (σ 25))),
  (a 21, .inl (tZ, 4, .inl (σ 26))),
  (a 22, .inl (tZ, 4, .inl (σ 29))),
  (a 23, .inl (tI, 4, .inl (σ 30))),
  (a 24, .inl (tI, 4, .inl (σ 31)))]
-- public int thrown()
def wM_thrown (R : Int32 → MS → Prop) (σ : MS) : Prop :=
  R (σ 32 0) σ
abbrev wsMo_thrown : List Cond := .code yMo_thrown cMo_thrown 1 (some .int) :: wg
abbrev rmM_thrown : Room := { frames := 0, cells := 0, slots := 0, locals := 0 }
set_option maxHeartbeats 4000000 in
set_option maxRecDepth 100000 in
theorem kM_thrown (l : Launch) (D : va_G) (a : Nat → Nat) (A : Nat → Prop) (tI tZ : ClassId) (σ : MS) (R : Int32 → MS → Prop) (hwp : wM_thrown R σ ) : Met l yMo_thrown wsMo_thrown rmM_thrown (va_Pc [.ref (a 0)] (uI D clA (mT tI tZ) A false (mw a tI tZ) σ)) (va_Qi R (uI D clA (mT tI tZ) A false (mw a tI tZ)) A) 0 0 A := by
  refine Met.ofW (cc := cMo_thrown) (maxL := 1) (ret := (some .int)) (by decide) rfl ?_
  intro p e s m args below meth c s₁ B hml hv
  obtain ⟨rfl, hP, hK, hD, hA⟩ := hv
  have hx := B.exec
  have hb := B.bytes
  have hr := B.returns
  have hts := atoms_spec (ws := wsMo_thrown) B.pre
  have hown : s.vm.findClass RMo = some m.cls := findClass_of_methodNamed B.named
  have hlocks := B.notSynchronized
  have hin0 : ∀ w ∈ u_ws RMo TMo 33, w ∈ wsMo_thrown := fun w h => List.mem_cons_of_mem _ (inMo w h)
  have k90 := hts _ (List.mem_cons_of_mem _ wm_768)
  have hS : va_S A s.heap s.heap [] := va_S.rf
  have hl := lv_entry ([.ref (a 0)]) (n := 1) (Nat.le_of_ble_eq_true rfl)
  rw [lg_entry_eq]
  generalize (lg_sl ([.ref (a 0)]) ++ List.replicate (1 - (lg_sl ([.ref (a 0)])).length) Slot.unset).toArray = ls at hl ⊢
  have hl : lv_has ls 1 [(0, .ref (a 0))] := hl
  refine lv_aload_n hx hb dMo_thrown_0 rfl (lv_at hl 0 rfl) ?_
  refine va_get (D := D) (ci := 0) (C := RMo) (T := TMo) (N := 33) hx hb hts hin0 hown hK hP 0 rfl rfl 32 (by decide) k90 (fun _ h9 => h9) rfl dMo_thrown_1 ?_
  exact W.iret (v := σ 32 0) hx hb hr (fun t ht hW => ⟨⟨σ 32 0, σ, rfl, hwp, uEnd ht hW hP hK hD hS hA⟩, hS.F ht⟩) hS.2.2 dMo_thrown_4
-- private static boolean isNode(int)
def wM_isNode_13 (R : Int32 → MS → Prop) (σ : MS) (y0 : Int32) : Prop :=
  R 0 σ
def wM_isNode (R : Int32 → MS → Prop) (σ : MS) (x1 : Int32) : Prop :=
  (((x1 < 0) → wM_isNode_13 R σ x1) ∧ ((¬ x1 < 0) → (((4 ≤ x1) → wM_isNode_13 R σ x1) ∧ ((¬ 4 ≤ x1) → R 1 σ))))
abbrev wsMo_isNode : List Cond := .code yMo_isNode cMo_isNode 1 (some .boolean) :: wg
abbrev rmM_isNode : Room := { frames := 0, cells := 0, slots := 0, locals := 0 }
set_option maxHeartbeats 4000000 in
set_option maxRecDepth 100000 in
theorem kM_isNode (l : Launch) (D : va_G) (a : Nat → Nat) (A : Nat → Prop) (tI tZ : ClassId) (σ : MS) (x1 : Int32) (R : Int32 → MS → Prop) (hwp : wM_isNode R σ x1) : Met l yMo_isNode wsMo_isNode rmM_isNode (va_Pc [.int x1] (uI D clA (mT tI tZ) A false (mw a tI tZ) σ)) (va_Qi R (uI D clA (mT tI tZ) A false (mw a tI tZ)) A) 0 0 A := by
  refine Met.ofW (cc := cMo_isNode) (maxL := 1) (ret := (some .boolean)) (by decide) rfl ?_
  intro p e s m args below meth c s₁ B hml hv
  obtain ⟨rfl, hP, hK, hD, hA⟩ := hv
  have hx := B.exec
  have hb := B.bytes
  have hr := B.returns
  have hts := atoms_spec (ws := wsMo_isNode) B.pre
  have hown : s.vm.findClass RMo = some m.cls := findClass_of_methodNamed B.named
  have hlocks := B.notSynchronized
  have hS : va_S A s.heap s.heap [] := va_S.rf
  have cut13 : ∀ (σ : MS) (y0 : Int32) (H : Heap) (locs : List Loc) (ls : Array Slot), wM_isNode_13 R σ y0 → va_P D clA (mw a tI tZ σ) H → va_D A (mw a tI tZ σ) → va_S A s.heap H locs → lv_has ls 1 [(0, .int y0)] → W p l e (headSpec wsMo_isNode rmM_isNode).room s m ([.int x1] : List Value).toArray below meth c H locs 0 0 (MQ below (va_Qi R (uI D clA (mT tI tZ) A false (mw a tI tZ)) A) ([.int x1] : List Value).toArray s 0 0 A) (F0 m 13 ls []) := by
    intro σ y0 H locs ls hwp hP hD hS hl
    refine lv_iconst (v := 0) hx hb dMo_isNode_13 (by decide) ?_
    exact W.zret (v := 0) hx hb hr (by decide) (fun t ht hW => ⟨⟨0, σ, rfl, hwp, uEnd ht hW hP hK hD hS hA⟩, hS.F ht⟩) hS.2.2 dMo_isNode_14
  have hl := lv_entry ([.int x1]) (n := 1) (Nat.le_of_ble_eq_true rfl)
  rw [lg_entry_eq]
  generalize (lg_sl ([.int x1]) ++ List.replicate (1 - (lg_sl ([.int x1])).length) Slot.unset).toArray = ls at hl ⊢
  have hl : lv_has ls 1 [(0, .int x1)] := hl
  refine lv_iload_n hx hb dMo_isNode_0 rfl (lv_at hl 0 rfl) ?_
  refine lv_if_lt hx hb dMo_isNode_1 rfl (fun h1 => ?_) (fun h1 => ?_)
  · have hwp := hwp.1 h1
    exact cut13 σ x1 _ _ _ hwp hP hD hS (lv_sub hl [0] rfl)
  · have hwp := hwp.2 h1
    refine lv_iload_n hx hb dMo_isNode_4 rfl (lv_at hl 0 rfl) ?_
    refine lv_iconst (v := 4) hx hb dMo_isNode_5 (by decide) ?_
    refine lv_icmp_ge hx hb dMo_isNode_6 rfl (fun h2 => ?_) (fun h2 => ?_)
    · have hwp := hwp.1 h2
      exact cut13 σ x1 _ _ _ hwp hP hD hS (lv_sub hl [0] rfl)
    · have hwp := hwp.2 h2
      refine lv_iconst (v := 1) hx hb dMo_isNode_9 (by decide) ?_
      refine lv_goto hx hb dMo_isNode_10 rfl ?_
      exact W.zret (v := 1) hx hb hr (by decide) (fun t ht hW => ⟨⟨1, σ, rfl, hwp, uEnd ht hW hP hK hD hS hA⟩, hS.F ht⟩) hS.2.2 dMo_isNode_14
-- private static boolean isChannel(int, int)
def wM_isChannel_23 (R : Int32 → MS → Prop) (σ : MS) (y0 : Int32) (y1 : Int32) : Prop :=
  R 0 σ
def wM_isChannel (R : Int32 → MS → Prop) (σ : MS) (x1 x2 : Int32) : Prop :=
  (∃ P1 : Int32 → MS → Prop, wM_isNode P1 σ x1 ∧ (∀ (r3 : Int32) (u2 : MS), P1 r3 u2 → (((r3 = 0) → wM_isChannel_23 R u2 x1 x2) ∧ ((¬ r3 = 0) → (∃ P5 : Int32 → MS → Prop, wM_isNode P5 u2 x2 ∧ (∀ (r7 : Int32) (u6 : MS), P5 r7 u6 → (((r7 = 0) → wM_isChannel_23 R u6 x1 x2) ∧ ((¬ r7 = 0) → (((x1 = x2) → wM_isChannel_23 R u6 x1 x2) ∧ ((¬ x1 = x2) → R 1 u6))))))))))
abbrev wsMo_isChannel : List Cond := .code yMo_isChannel cMo_isChannel 2 (some .boolean) :: wg
abbrev rmM_isChannel : Room := { frames := 1, cells := 0, slots := 0, locals := 20 }
set_option maxHeartbeats 4000000 in
set_option maxRecDepth 100000 in
theorem kM_isChannel (l : Launch) (D : va_G) (a : Nat → Nat) (A : Nat → Prop) (tI tZ : ClassId) (σ : MS) (x1 x2 : Int32) (R : Int32 → MS → Prop) (hwp : wM_isChannel R σ x1 x2) : Met l yMo_isChannel wsMo_isChannel rmM_isChannel (va_Pc [.int x1, .int x2] (uI D clA (mT tI tZ) A false (mw a tI tZ) σ)) (va_Qi R (uI D clA (mT tI tZ) A false (mw a tI tZ)) A) 0 0 A := by
  refine Met.ofW (cc := cMo_isChannel) (maxL := 2) (ret := (some .boolean)) (by decide) rfl ?_
  intro p e s m args below meth c s₁ B hml hv
  obtain ⟨rfl, hP, hK, hD, hA⟩ := hv
  have hx := B.exec
  have hb := B.bytes
  have hr := B.returns
  have hts := atoms_spec (ws := wsMo_isChannel) B.pre
  have hown : s.vm.findClass RMo = some m.cls := findClass_of_methodNamed B.named
  have hlocks := B.notSynchronized
  have hS : va_S A s.heap s.heap [] := va_S.rf
  have cut23 : ∀ (σ : MS) (y0 : Int32) (y1 : Int32) (H : Heap) (locs : List Loc) (ls : Array Slot), wM_isChannel_23 R σ y0 y1 → va_P D clA (mw a tI tZ σ) H → va_D A (mw a tI tZ σ) → va_S A s.heap H locs → lv_has ls 2 [(0, .int y0), (1, .int y1)] → W p l e (headSpec wsMo_isChannel rmM_isChannel).room s m ([.int x1, .int x2] : List Value).toArray below meth c H locs 0 0 (MQ below (va_Qi R (uI D clA (mT tI tZ) A false (mw a tI tZ)) A) ([.int x1, .int x2] : List Value).toArray s 0 0 A) (F0 m 23 ls []) := by
    intro σ y0 y1 H locs ls hwp hP hD hS hl
    refine lv_iconst (v := 0) hx hb dMo_isChannel_23 (by decide) ?_
    exact W.zret (v := 0) hx hb hr (by decide) (fun t ht hW => ⟨⟨0, σ, rfl, hwp, uEnd ht hW hP hK hD hS hA⟩, hS.F ht⟩) hS.2.2 dMo_isChannel_24
  have hl := lv_entry ([.int x1, .int x2]) (n := 2) (Nat.le_of_ble_eq_true rfl)
  rw [lg_entry_eq]
  generalize (lg_sl ([.int x1, .int x2]) ++ List.replicate (2 - (lg_sl ([.int x1, .int x2])).length) Slot.unset).toArray = ls at hl ⊢
  have hl : lv_has ls 2 [(0, .int x1), (1, .int x2)] := hl
  refine lv_iload_n hx hb dMo_isChannel_0 rfl (lv_at hl 0 rfl) ?_
  obtain ⟨P1, hP1, hwp⟩ := hwp
  refine uCallSi (As := [.int x1]) (rest := []) ⟨hx, hb, hml, hown, hts⟩ (kM_isNode l D a A tI tZ σ x1 P1 hP1) (cwS 1 hts (gdS wm_847 wm_848 wm_13 wm_849) rfl rfl rfl (by decide +kernel) ⟨Nat.le_of_ble_eq_true rfl, Nat.le_of_ble_eq_true rfl⟩) hP hK hD hA hS rfl hl.1 rfl (Nat.le_of_ble_eq_true rfl) dMo_isChannel_1 ⟨Nat.le_of_ble_eq_true rfl, Nat.le_of_ble_eq_true rfl⟩ (fun r3 u2 H locs hu2 hP hD hS => ?_)
  have hwp := hwp r3 u2 hu2
  refine lv_if_eq hx hb dMo_isChannel_4 rfl (fun h4 => ?_) (fun h4 => ?_)
  · have hwp := hwp.1 h4
    exact cut23 u2 x1 x2 _ _ _ hwp hP hD hS (lv_sub hl [0, 1] rfl)
  · have hwp := hwp.2 h4
    refine lv_iload_n hx hb dMo_isChannel_7 rfl (lv_at hl 1 rfl) ?_
    obtain ⟨P5, hP5, hwp⟩ := hwp
    refine uCallSi (As := [.int x2]) (rest := []) ⟨hx, hb, hml, hown, hts⟩ (kM_isNode l D a A tI tZ u2 x2 P5 hP5) (cwS 1 hts (gdS wm_847 wm_848 wm_13 wm_849) rfl rfl rfl (by decide +kernel) ⟨Nat.le_of_ble_eq_true rfl, Nat.le_of_ble_eq_true rfl⟩) hP hK hD hA hS rfl hl.1 rfl (Nat.le_of_ble_eq_true rfl) dMo_isChannel_8 ⟨Nat.le_of_ble_eq_true rfl, Nat.le_of_ble_eq_true rfl⟩ (fun r7 u6 H locs hu6 hP hD hS => ?_)
    have hwp := hwp r7 u6 hu6
    refine lv_if_eq hx hb dMo_isChannel_11 rfl (fun h8 => ?_) (fun h8 => ?_)
    · have hwp := hwp.1 h8
      exact cut23 u6 x1 x2 _ _ _ hwp hP hD hS (lv_sub hl [0, 1] rfl)
    · have hwp := hwp.2 h8
      refine lv_iload_n hx hb dMo_isChannel_14 rfl (lv_at hl 0 rfl) ?_
      refine lv_iload_n hx hb dMo_isChannel_15 rfl (lv_at hl 1 rfl) ?_
      refine lv_icmp_eq hx hb dMo_isChannel_16 rfl (fun h9 => ?_) (fun h9 => ?_)
      · have hwp := hwp.1 h9
        exact cut23 u6 x1 x2 _ _ _ hwp hP hD hS (lv_sub hl [0, 1] rfl)
      · have hwp := hwp.2 h9
        refine lv_iconst (v := 1) hx hb dMo_isChannel_19 (by decide) ?_
        refine lv_goto hx hb dMo_isChannel_20 rfl ?_
        exact W.zret (v := 1) hx hb hr (by decide) (fun t ht hW => ⟨⟨1, u6, rfl, hwp, uEnd ht hW hP hK hD hS hA⟩, hS.F ht⟩) hS.2.2 dMo_isChannel_24
-- private static boolean isLock(int, int)
def wM_isLock_20 (R : Int32 → MS → Prop) (σ : MS) (y0 : Int32) (y1 : Int32) : Prop :=
  R 0 σ
def wM_isLock (R : Int32 → MS → Prop) (σ : MS) (x1 x2 : Int32) : Prop :=
  (((x1 < 0) → wM_isLock_20 R σ x1 x2) ∧ ((¬ x1 < 0) → (((3 ≤ x1) → wM_isLock_20 R σ x1 x2) ∧ ((¬ 3 ≤ x1) → (∃ P3 : Int32 → MS → Prop, wM_isNode P3 σ x2 ∧ (∀ (r5 : Int32) (u4 : MS), P3 r5 u4 → (((r5 = 0) → wM_isLock_20 R u4 x1 x2) ∧ ((¬ r5 = 0) → R 1 u4))))))))
abbrev wsMo_isLock : List Cond := .code yMo_isLock cMo_isLock 2 (some .boolean) :: wg
abbrev rmM_isLock : Room := { frames := 1, cells := 0, slots := 0, locals := 20 }
set_option maxHeartbeats 4000000 in
set_option maxRecDepth 100000 in
theorem kM_isLock (l : Launch) (D : va_G) (a : Nat → Nat) (A : Nat → Prop) (tI tZ : ClassId) (σ : MS) (x1 x2 : Int32) (R : Int32 → MS → Prop) (hwp : wM_isLock R σ x1 x2) : Met l yMo_isLock wsMo_isLock rmM_isLock (va_Pc [.int x1, .int x2] (uI D clA (mT tI tZ) A false (mw a tI tZ) σ)) (va_Qi R (uI D clA (mT tI tZ) A false (mw a tI tZ)) A) 0 0 A := by
  refine Met.ofW (cc := cMo_isLock) (maxL := 2) (ret := (some .boolean)) (by decide) rfl ?_
  intro p e s m args below meth c s₁ B hml hv
  obtain ⟨rfl, hP, hK, hD, hA⟩ := hv
  have hx := B.exec
  have hb := B.bytes
  have hr := B.returns
  have hts := atoms_spec (ws := wsMo_isLock) B.pre
  have hown : s.vm.findClass RMo = some m.cls := findClass_of_methodNamed B.named
  have hlocks := B.notSynchronized
  have hS : va_S A s.heap s.heap [] := va_S.rf
  have cut20 : ∀ (σ : MS) (y0 : Int32) (y1 : Int32) (H : Heap) (locs : List Loc) (ls : Array Slot), wM_isLock_20 R σ y0 y1 → va_P D clA (mw a tI tZ σ) H → va_D A (mw a tI tZ σ) → va_S A s.heap H locs → lv_has ls 2 [(0, .int y0), (1, .int y1)] → W p l e (headSpec wsMo_isLock rmM_isLock).room s m ([.int x1, .int x2] : List Value).toArray below meth c H locs 0 0 (MQ below (va_Qi R (uI D clA (mT tI tZ) A false (mw a tI tZ)) A) ([.int x1, .int x2] : List Value).toArray s 0 0 A) (F0 m 20 ls []) := by
    intro σ y0 y1 H locs ls hwp hP hD hS hl
    refine lv_iconst (v := 0) hx hb dMo_isLock_20 (by decide) ?_
    exact W.zret (v := 0) hx hb hr (by decide) (fun t ht hW => ⟨⟨0, σ, rfl, hwp, uEnd ht hW hP hK hD hS hA⟩, hS.F ht⟩) hS.2.2 dMo_isLock_21
  have hl := lv_entry ([.int x1, .int x2]) (n := 2) (Nat.le_of_ble_eq_true rfl)
  rw [lg_entry_eq]
  generalize (lg_sl ([.int x1, .int x2]) ++ List.replicate (2 - (lg_sl ([.int x1, .int x2])).length) Slot.unset).toArray = ls at hl ⊢
  have hl : lv_has ls 2 [(0, .int x1), (1, .int x2)] := hl
  refine lv_iload_n hx hb dMo_isLock_0 rfl (lv_at hl 0 rfl) ?_
  refine lv_if_lt hx hb dMo_isLock_1 rfl (fun h1 => ?_) (fun h1 => ?_)
  · have hwp := hwp.1 h1
    exact cut20 σ x1 x2 _ _ _ hwp hP hD hS (lv_sub hl [0, 1] rfl)
  · have hwp := hwp.2 h1
    refine lv_iload_n hx hb dMo_isLock_4 rfl (lv_at hl 0 rfl) ?_
    refine lv_iconst (v := 3) hx hb dMo_isLock_5 (by decide) ?_
    refine lv_icmp_ge hx hb dMo_isLock_6 rfl (fun h2 => ?_) (fun h2 => ?_)
    · have hwp := hwp.1 h2
      exact cut20 σ x1 x2 _ _ _ hwp hP hD hS (lv_sub hl [0, 1] rfl)
    · have hwp := hwp.2 h2
      refine lv_iload_n hx hb dMo_isLock_9 rfl (lv_at hl 1 rfl) ?_
      obtain ⟨P3, hP3, hwp⟩ := hwp
      refine uCallSi (As := [.int x2]) (rest := []) ⟨hx, hb, hml, hown, hts⟩ (kM_isNode l D a A tI tZ σ x2 P3 hP3) (cwS 1 hts (gdS wm_847 wm_848 wm_13 wm_849) rfl rfl rfl (by decide +kernel) ⟨Nat.le_of_ble_eq_true rfl, Nat.le_of_ble_eq_true rfl⟩) hP hK hD hA hS rfl hl.1 rfl (Nat.le_of_ble_eq_true rfl) dMo_isLock_10 ⟨Nat.le_of_ble_eq_true rfl, Nat.le_of_ble_eq_true rfl⟩ (fun r5 u4 H locs hu4 hP hD hS => ?_)
      have hwp := hwp r5 u4 hu4
      refine lv_if_eq hx hb dMo_isLock_13 rfl (fun h6 => ?_) (fun h6 => ?_)
      · have hwp := hwp.1 h6
        exact cut20 u4 x1 x2 _ _ _ hwp hP hD hS (lv_sub hl [0, 1] rfl)
      · have hwp := hwp.2 h6
        refine lv_iconst (v := 1) hx hb dMo_isLock_16 (by decide) ?_
        refine lv_goto hx hb dMo_isLock_17 rfl ?_
        exact W.zret (v := 1) hx hb hr (by decide) (fun t ht hW => ⟨⟨1, u4, rfl, hwp, uEnd ht hW hP hK hD hS hA⟩, hS.F ht⟩) hS.2.2 dMo_isLock_21
-- private static boolean isService(int, int)
def wM_isService_20 (R : Int32 → MS → Prop) (σ : MS) (y0 : Int32) (y1 : Int32) : Prop :=
  R 0 σ
def wM_isService (R : Int32 → MS → Prop) (σ : MS) (x1 x2 : Int32) : Prop :=
  (((x1 < 0) → wM_isService_20 R σ x1 x2) ∧ ((¬ x1 < 0) → (((5 ≤ x1) → wM_isService_20 R σ x1 x2) ∧ ((¬ 5 ≤ x1) → (∃ P3 : Int32 → MS → Prop, wM_isNode P3 σ x2 ∧ (∀ (r5 : Int32) (u4 : MS), P3 r5 u4 → (((r5 = 0) → wM_isService_20 R u4 x1 x2) ∧ ((¬ r5 = 0) → R 1 u4))))))))
abbrev wsMo_isService : List Cond := .code yMo_isService cMo_isService 2 (some .boolean) :: wg
abbrev rmM_isService : Room := { frames := 1, cells := 0, slots := 0, locals := 20 }
set_option maxHeartbeats 4000000 in
set_option maxRecDepth 100000 in
theorem kM_isService (l : Launch) (D : va_G) (a : Nat → Nat) (A : Nat → Prop) (tI tZ : ClassId) (σ : MS) (x1 x2 : Int32) (R : Int32 → MS → Prop) (hwp : wM_isService R σ x1 x2) : Met l yMo_isService wsMo_isService rmM_isService (va_Pc [.int x1, .int x2] (uI D clA (mT tI tZ) A false (mw a tI tZ) σ)) (va_Qi R (uI D clA (mT tI tZ) A false (mw a tI tZ)) A) 0 0 A := by
  refine Met.ofW (cc := cMo_isService) (maxL := 2) (ret := (some .boolean)) (by decide) rfl ?_
  intro p e s m args below meth c s₁ B hml hv
  obtain ⟨rfl, hP, hK, hD, hA⟩ := hv
  have hx := B.exec
  have hb := B.bytes
  have hr := B.returns
  have hts := atoms_spec (ws := wsMo_isService) B.pre
  have hown : s.vm.findClass RMo = some m.cls := findClass_of_methodNamed B.named
  have hlocks := B.notSynchronized
  have hS : va_S A s.heap s.heap [] := va_S.rf
  have cut20 : ∀ (σ : MS) (y0 : Int32) (y1 : Int32) (H : Heap) (locs : List Loc) (ls : Array Slot), wM_isService_20 R σ y0 y1 → va_P D clA (mw a tI tZ σ) H → va_D A (mw a tI tZ σ) → va_S A s.heap H locs → lv_has ls 2 [(0, .int y0), (1, .int y1)] → W p l e (headSpec wsMo_isService rmM_isService).room s m ([.int x1, .int x2] : List Value).toArray below meth c H locs 0 0 (MQ below (va_Qi R (uI D clA (mT tI tZ) A false (mw a tI tZ)) A) ([.int x1, .int x2] : List Value).toArray s 0 0 A) (F0 m 20 ls []) := by
    intro σ y0 y1 H locs ls hwp hP hD hS hl
    refine lv_iconst (v := 0) hx hb dMo_isService_20 (by decide) ?_
    exact W.zret (v := 0) hx hb hr (by decide) (fun t ht hW => ⟨⟨0, σ, rfl, hwp, uEnd ht hW hP hK hD hS hA⟩, hS.F ht⟩) hS.2.2 dMo_isService_21
  have hl := lv_entry ([.int x1, .int x2]) (n := 2) (Nat.le_of_ble_eq_true rfl)
  rw [lg_entry_eq]
  generalize (lg_sl ([.int x1, .int x2]) ++ List.replicate (2 - (lg_sl ([.int x1, .int x2])).length) Slot.unset).toArray = ls at hl ⊢
  have hl : lv_has ls 2 [(0, .int x1), (1, .int x2)] := hl
  refine lv_iload_n hx hb dMo_isService_0 rfl (lv_at hl 0 rfl) ?_
  refine lv_if_lt hx hb dMo_isService_1 rfl (fun h1 => ?_) (fun h1 => ?_)
  · have hwp := hwp.1 h1
    exact cut20 σ x1 x2 _ _ _ hwp hP hD hS (lv_sub hl [0, 1] rfl)
  · have hwp := hwp.2 h1
    refine lv_iload_n hx hb dMo_isService_4 rfl (lv_at hl 0 rfl) ?_
    refine lv_iconst (v := 5) hx hb dMo_isService_5 (by decide) ?_
    refine lv_icmp_ge hx hb dMo_isService_6 rfl (fun h2 => ?_) (fun h2 => ?_)
    · have hwp := hwp.1 h2
      exact cut20 σ x1 x2 _ _ _ hwp hP hD hS (lv_sub hl [0, 1] rfl)
    · have hwp := hwp.2 h2
      refine lv_iload_n hx hb dMo_isService_9 rfl (lv_at hl 1 rfl) ?_
      obtain ⟨P3, hP3, hwp⟩ := hwp
      refine uCallSi (As := [.int x2]) (rest := []) ⟨hx, hb, hml, hown, hts⟩ (kM_isNode l D a A tI tZ σ x2 P3 hP3) (cwS 1 hts (gdS wm_847 wm_848 wm_13 wm_849) rfl rfl rfl (by decide +kernel) ⟨Nat.le_of_ble_eq_true rfl, Nat.le_of_ble_eq_true rfl⟩) hP hK hD hA hS rfl hl.1 rfl (Nat.le_of_ble_eq_true rfl) dMo_isService_10 ⟨Nat.le_of_ble_eq_true rfl, Nat.le_of_ble_eq_true rfl⟩ (fun r5 u4 H locs hu4 hP hD hS => ?_)
      have hwp := hwp r5 u4 hu4
      refine lv_if_eq hx hb dMo_isService_13 rfl (fun h6 => ?_) (fun h6 => ?_)
      · have hwp := hwp.1 h6
        exact cut20 u4 x1 x2 _ _ _ hwp hP hD hS (lv_sub hl [0, 1] rfl)
      · have hwp := hwp.2 h6
        refine lv_iconst (v := 1) hx hb dMo_isService_16 (by decide) ?_
        refine lv_goto hx hb dMo_isService_17 rfl ?_
        exact W.zret (v := 1) hx hb hr (by decide) (fun t ht hW => ⟨⟨1, u4, rfl, hwp, uEnd ht hW hP hK hD hS hA⟩, hS.F ht⟩) hS.2.2 dMo_isService_21
-- private void send(int, int, int, int, int)
def wM_send_115 (R : MS → Prop) (σ : MS) (y1 : Int32) (y2 : Int32) (y3 : Int32) (y4 : Int32) (y5 : Int32) (y6 : Int32) (y7 : Int32) : Prop :=
  (vp_in y7 16 ∧ (∀ σ2 : MS, σ2 = up2 σ 1 y7.toNatClampNeg y6 → (vp_in y7 16 ∧ (vp_in y7 16 ∧ (∀ σ5 : MS, σ5 = up2 σ2 2 y7.toNatClampNeg ((σ2 2 y7.toNatClampNeg) + 1) → (∀ σ6 : MS, σ6 = up2 σ5 10 0 ((σ5 10 0) + 1) → R σ6))))))
def wM_send_41 (R : MS → Prop) (σ : MS) (y1 : Int32) (y2 : Int32) (y3 : Int32) (y4 : Int32) (y5 : Int32) (y6 : Int32) : Prop :=
  (vp_in y6 700 ∧ (∀ σ8 : MS, σ8 = up2 σ 3 y6.toNatClampNeg ((10 * y3) + y4) → (vp_in y6 700 ∧ (∀ σ10 : MS, σ10 = up2 σ8 4 y6.toNatClampNeg y5 → (vp_in y6 700 ∧ (∀ σ12 : MS, σ12 = up2 σ10 5 y6.toNatClampNeg (-1) → (∀ v13 : Int32, v13 = (4 * y1) + y2 → (vp_in v13 16 ∧ (((0 ≤ (σ12 0 v13.toNatClampNeg)) → (vp_in v13 16 ∧ (vp_in (σ12 1 v13.toNatClampNeg) 700 ∧ (∀ σ18 : MS, σ18 = up2 σ12 5 (σ12 1 v13.toNatClampNeg).toNatClampNeg y6 → wM_send_115 R σ18 y1 y2 y3 y4 y5 y6 v13)))) ∧ ((¬ 0 ≤ (σ12 0 v13.toNatClampNeg)) → (vp_in v13 16 ∧ (∀ σ20 : MS, σ20 = up2 σ12 0 v13.toNatClampNeg y6 → wM_send_115 R σ20 y1 y2 y3 y4 y5 y6 v13))))))))))))
def wM_send (R : MS → Prop) (σ : MS) (x1 x2 x3 x4 x5 : Int32) : Prop :=
  (∀ v21 : Int32, v21 = σ 7 0 → (((v21 < 0) → (∀ v23 : Int32, v23 = σ 6 0 → (∀ σ24 : MS, σ24 = up2 σ 6 0 ((σ 6 0) + 1) → wM_send_41 R σ24 x1 x2 x3 x4 x5 v23))) ∧ ((¬ v21 < 0) → (vp_in v21 700 ∧ (∀ σ26 : MS, σ26 = up2 σ 7 0 (σ 5 v21.toNatClampNeg) → wM_send_41 R σ26 x1 x2 x3 x4 x5 v21)))))
abbrev wsMo_send : List Cond := .code yMo_send cMo_send 8 none :: wg
abbrev rmM_send : Room := { frames := 0, cells := 0, slots := 0, locals := 0 }
set_option maxHeartbeats 4000000 in
set_option maxRecDepth 100000 in
theorem kM_send (l : Launch) (D : va_G) (a : Nat → Nat) (A : Nat → Prop) (tI tZ : ClassId) (σ : MS) (x1 x2 x3 x4 x5 : Int32) (R : MS → Prop) (hwp : wM_send R σ x1 x2 x3 x4 x5) : Met l yMo_send wsMo_send rmM_send (va_Pc [.ref (a 0), .int x1, .int x2, .int x3, .int x4, .int x5] (uI D clA (mT tI tZ) A false (mw a tI tZ) σ)) (va_Qv R (uI D clA (mT tI tZ) A false (mw a tI tZ)) A) 0 0 A := by
  refine Met.ofW (cc := cMo_send) (maxL := 8) (ret := none) (by decide) rfl ?_
  intro p e s m args below meth c s₁ B hml hv
  obtain ⟨rfl, hP, hK, hD, hA⟩ := hv
  have hx := B.exec
  have hb := B.bytes
  have hr := B.returns
  have hts := atoms_spec (ws := wsMo_send) B.pre
  have hown : s.vm.findClass RMo = some m.cls := findClass_of_methodNamed B.named
  have hlocks := B.notSynchronized
  have hin0 : ∀ w ∈ u_ws RMo TMo 33, w ∈ wsMo_send := fun w h => List.mem_cons_of_mem _ (inMo w h)
  have k13 := hts _ (List.mem_cons_of_mem _ wm_737)
  have k16 := hts _ (List.mem_cons_of_mem _ wm_738)
  have k19 := hts _ (List.mem_cons_of_mem _ wm_739)
  have k22 := hts _ (List.mem_cons_of_mem _ wm_740)
  have k25 := hts _ (List.mem_cons_of_mem _ wm_741)
  have k28 := hts _ (List.mem_cons_of_mem _ wm_743)
  have k7 := hts _ (List.mem_cons_of_mem _ wm_736)
  have k93 := hts _ (List.mem_cons_of_mem _ wm_742)
  have k96 := hts _ (List.mem_cons_of_mem _ wm_746)
  have hS : va_S A s.heap s.heap [] := va_S.rf
  have cut115 : ∀ (σ : MS) (y1 : Int32) (y2 : Int32) (y3 : Int32) (y4 : Int32) (y5 : Int32) (y6 : Int32) (y7 : Int32) (H : Heap) (locs : List Loc) (ls : Array Slot), wM_send_115 R σ y1 y2 y3 y4 y5 y6 y7 → va_P D clA (mw a tI tZ σ) H → va_D A (mw a tI tZ σ) → va_S A s.heap H locs → lv_has ls 8 [(0, .ref (a 0)), (1, .int y1), (2, .int y2), (3, .int y3), (4, .int y4), (5, .int y5), (6, .int y6), (7, .int y7)] → W p l e (headSpec wsMo_send rmM_send).room s m ([.ref (a 0), .int x1, .int x2, .int x3, .int x4, .int x5] : List Value).toArray below meth c H locs 0 0 (MQ below (va_Qv R (uI D clA (mT tI tZ) A false (mw a tI tZ)) A) ([.ref (a 0), .int x1, .int x2, .int x3, .int x4, .int x5] : List Value).toArray s 0 0 A) (F0 m 115 ls []) := by
    intro σ y1 y2 y3 y4 y5 y6 y7 H locs ls hwp hP hD hS hl
    refine lv_aload_n hx hb dMo_send_115 rfl (lv_at hl 0 rfl) ?_
    refine va_get (D := D) (ci := 0) (C := RMo) (T := TMo) (N := 33) hx hb hts hin0 hown hK hP 0 rfl rfl 1 (by decide) k13 (fun _ h9 => h9) rfl dMo_send_116 ?_
    refine lv_iload hx hb dMo_send_119 (lv_at hl 7 rfl) ?_
    refine lv_iload hx hb dMo_send_121 (lv_at hl 6 rfl) ?_
    obtain ⟨hi1, hwp⟩ := hwp
    refine va_iast hx hb hK hP hD hS 2 0 rfl rfl hi1 dMo_send_123 (fun H locs hP hD hS => ?_)
    obtain ⟨σ2, eσ2⟩ : ∃ z, z = up2 σ 1 y7.toNatClampNeg y6 := ⟨_, rfl⟩
    have hwp := hwp σ2 eσ2
    have hP : va_P D clA (mw a tI tZ σ2) H := by rw [eσ2]; exact hP
    have hD : va_D A (mw a tI tZ σ2) := by rw [eσ2]; exact hD
    refine lv_aload_n hx hb dMo_send_124 rfl (lv_at hl 0 rfl) ?_
    refine va_get (D := D) (ci := 0) (C := RMo) (T := TMo) (N := 33) hx hb hts hin0 hown hK hP 0 rfl rfl 2 (by decide) k16 (fun _ h9 => h9) rfl dMo_send_125 ?_
    refine lv_iload hx hb dMo_send_128 (lv_at hl 7 rfl) ?_
    refine lv_dup2_11 hx hb dMo_send_130 rfl rfl ?_
    obtain ⟨hi3, hwp⟩ := hwp
    refine va_iald hx hb hK hP 3 0 rfl rfl hi3 dMo_send_131 ?_
    refine lv_iconst (v := 1) hx hb dMo_send_132 (by decide) ?_
    refine lv_iadd hx hb dMo_send_133 ?_
    obtain ⟨hi4, hwp⟩ := hwp
    refine va_iast hx hb hK hP hD hS 3 0 rfl rfl hi4 dMo_send_134 (fun H locs hP hD hS => ?_)
    obtain ⟨σ5, eσ5⟩ : ∃ z, z = up2 σ2 2 y7.toNatClampNeg ((σ2 2 y7.toNatClampNeg) + 1) := ⟨_, rfl⟩
    have hwp := hwp σ5 eσ5
    have hP : va_P D clA (mw a tI tZ σ5) H := by rw [eσ5]; exact hP
    have hD : va_D A (mw a tI tZ σ5) := by rw [eσ5]; exact hD
    refine lv_aload_n hx hb dMo_send_135 rfl (lv_at hl 0 rfl) ?_
    refine lv_dup hx hb dMo_send_136 rfl ?_
    refine va_get (D := D) (ci := 0) (C := RMo) (T := TMo) (N := 33) hx hb hts hin0 hown hK hP 0 rfl rfl 10 (by decide) k96 (fun _ h9 => h9) rfl dMo_send_137 ?_
    refine lv_iconst (v := 1) hx hb dMo_send_140 (by decide) ?_
    refine lv_iadd hx hb dMo_send_141 ?_
    refine va_put (ty := .int) (D := D) (ci := 0) (C := RMo) (T := TMo) (N := 33) hx hb hts hin0 tyMo tyMo_ok nmMo hown hK hP hD hS 0 rfl rfl 10 (by decide) k96 (fun _ h9 => h9) rfl (by decide +kernel) rfl rfl (Nat.le_of_ble_eq_true rfl) dMo_send_142 (fun H locs hP hD hS => ?_)
    obtain ⟨σ6, eσ6⟩ : ∃ z, z = up2 σ5 10 0 ((σ5 10 0) + 1) := ⟨_, rfl⟩
    have hwp := hwp σ6 eσ6
    have hP : va_P D clA (mw a tI tZ σ6) H := by rw [eσ6]; exact hP
    have hD : va_D A (mw a tI tZ σ6) := by rw [eσ6]; exact hD
    exact W.vret hx hb hr (fun t ht hW => ⟨⟨σ6, rfl, hwp, uEnd ht hW hP hK hD hS hA⟩, hS.F ht⟩) hS.2.2 dMo_send_145
  have cut41 : ∀ (σ : MS) (y1 : Int32) (y2 : Int32) (y3 : Int32) (y4 : Int32) (y5 : Int32) (y6 : Int32) (H : Heap) (locs : List Loc) (ls : Array Slot), wM_send_41 R σ y1 y2 y3 y4 y5 y6 → va_P D clA (mw a tI tZ σ) H → va_D A (mw a tI tZ σ) → va_S A s.heap H locs → lv_has ls 8 [(0, .ref (a 0)), (1, .int y1), (2, .int y2), (3, .int y3), (4, .int y4), (5, .int y5), (6, .int y6)] → W p l e (headSpec wsMo_send rmM_send).room s m ([.ref (a 0), .int x1, .int x2, .int x3, .int x4, .int x5] : List Value).toArray below meth c H locs 0 0 (MQ below (va_Qv R (uI D clA (mT tI tZ) A false (mw a tI tZ)) A) ([.ref (a 0), .int x1, .int x2, .int x3, .int x4, .int x5] : List Value).toArray s 0 0 A) (F0 m 41 ls []) := by
    intro σ y1 y2 y3 y4 y5 y6 H locs ls hwp hP hD hS hl
    refine lv_aload_n hx hb dMo_send_41 rfl (lv_at hl 0 rfl) ?_
    refine va_get (D := D) (ci := 0) (C := RMo) (T := TMo) (N := 33) hx hb hts hin0 hown hK hP 0 rfl rfl 3 (by decide) k19 (fun _ h9 => h9) rfl dMo_send_42 ?_
    refine lv_iload hx hb dMo_send_45 (lv_at hl 6 rfl) ?_
    refine lv_bipush (v := 10) hx hb dMo_send_47 (by decide) ?_
    refine lv_iload_n hx hb dMo_send_49 rfl (lv_at hl 3 rfl) ?_
    refine lv_imul hx hb dMo_send_50 ?_
    refine lv_iload hx hb dMo_send_51 (lv_at hl 4 rfl) ?_
    refine lv_iadd hx hb dMo_send_53 ?_
    obtain ⟨hi7, hwp⟩ := hwp
    refine va_iast hx hb hK hP hD hS 4 0 rfl rfl hi7 dMo_send_54 (fun H locs hP hD hS => ?_)
    obtain ⟨σ8, eσ8⟩ : ∃ z, z = up2 σ 3 y6.toNatClampNeg ((10 * y3) + y4) := ⟨_, rfl⟩
    have hwp := hwp σ8 eσ8
    have hP : va_P D clA (mw a tI tZ σ8) H := by rw [eσ8]; exact hP
    have hD : va_D A (mw a tI tZ σ8) := by rw [eσ8]; exact hD
    refine lv_aload_n hx hb dMo_send_55 rfl (lv_at hl 0 rfl) ?_
    refine va_get (D := D) (ci := 0) (C := RMo) (T := TMo) (N := 33) hx hb hts hin0 hown hK hP 0 rfl rfl 4 (by decide) k22 (fun _ h9 => h9) rfl dMo_send_56 ?_
    refine lv_iload hx hb dMo_send_59 (lv_at hl 6 rfl) ?_
    refine lv_iload hx hb dMo_send_61 (lv_at hl 5 rfl) ?_
    obtain ⟨hi9, hwp⟩ := hwp
    refine va_iast hx hb hK hP hD hS 5 0 rfl rfl hi9 dMo_send_63 (fun H locs hP hD hS => ?_)
    obtain ⟨σ10, eσ10⟩ : ∃ z, z = up2 σ8 4 y6.toNatClampNeg y5 := ⟨_, rfl⟩
    have hwp := hwp σ10 eσ10
    have hP : va_P D clA (mw a tI tZ σ10) H := by rw [eσ10]; exact hP
    have hD : va_D A (mw a tI tZ σ10) := by rw [eσ10]; exact hD
    refine lv_aload_n hx hb dMo_send_64 rfl (lv_at hl 0 rfl) ?_
    refine va_get (D := D) (ci := 0) (C := RMo) (T := TMo) (N := 33) hx hb hts hin0 hown hK hP 0 rfl rfl 5 (by decide) k25 (fun _ h9 => h9) rfl dMo_send_65 ?_
    refine lv_iload hx hb dMo_send_68 (lv_at hl 6 rfl) ?_
    refine lv_iconst (v := (-1)) hx hb dMo_send_70 (by decide) ?_
    obtain ⟨hi11, hwp⟩ := hwp
    refine va_iast hx hb hK hP hD hS 6 0 rfl rfl hi11 dMo_send_71 (fun H locs hP hD hS => ?_)
    obtain ⟨σ12, eσ12⟩ : ∃ z, z = up2 σ10 5 y6.toNatClampNeg (-1) := ⟨_, rfl⟩
    have hwp := hwp σ12 eσ12
    have hP : va_P D clA (mw a tI tZ σ12) H := by rw [eσ12]; exact hP
    have hD : va_D A (mw a tI tZ σ12) := by rw [eσ12]; exact hD
    refine lv_iconst (v := 4) hx hb dMo_send_72 (by decide) ?_
    refine lv_iload_n hx hb dMo_send_73 rfl (lv_at hl 1 rfl) ?_
    refine lv_imul hx hb dMo_send_74 ?_
    refine lv_iload_n hx hb dMo_send_75 rfl (lv_at hl 2 rfl) ?_
    refine lv_iadd hx hb dMo_send_76 ?_
    refine lv_topi (fun v13 ev13 => ?_)
    have hwp := hwp v13 ev13
    refine lv_istore hx hb dMo_send_77 hl (by decide) rfl (fun ls hl => ?_)
    have hl : lv_has ls 8 [(7, .int v13), (0, .ref (a 0)), (1, .int y1), (2, .int y2), (3, .int y3), (4, .int y4), (5, .int y5), (6, .int y6)] := hl
    refine lv_aload_n hx hb dMo_send_79 rfl (lv_at hl 1 rfl) ?_
    refine va_get (D := D) (ci := 0) (C := RMo) (T := TMo) (N := 33) hx hb hts hin0 hown hK hP 0 rfl rfl 0 (by decide) k7 (fun _ h9 => h9) rfl dMo_send_80 ?_
    refine lv_iload hx hb dMo_send_83 (lv_at hl 0 rfl) ?_
    obtain ⟨hi14, hwp⟩ := hwp
    refine va_iald hx hb hK hP 1 0 rfl rfl hi14 dMo_send_85 ?_
    refine lv_if_ge hx hb dMo_send_86 rfl (fun h15 => ?_) (fun h15 => ?_)
    · have hwp := hwp.1 h15
      refine lv_aload_n hx hb dMo_send_101 rfl (lv_at hl 1 rfl) ?_
      refine va_get (D := D) (ci := 0) (C := RMo) (T := TMo) (N := 33) hx hb hts hin0 hown hK hP 0 rfl rfl 5 (by decide) k25 (fun _ h9 => h9) rfl dMo_send_102 ?_
      refine lv_aload_n hx hb dMo_send_105 rfl (lv_at hl 1 rfl) ?_
      refine va_get (D := D) (ci := 0) (C := RMo) (T := TMo) (N := 33) hx hb hts hin0 hown hK hP 0 rfl rfl 1 (by decide) k13 (fun _ h9 => h9) rfl dMo_send_106 ?_
      refine lv_iload hx hb dMo_send_109 (lv_at hl 0 rfl) ?_
      obtain ⟨hi16, hwp⟩ := hwp
      refine va_iald hx hb hK hP 2 0 rfl rfl hi16 dMo_send_111 ?_
      refine lv_iload hx hb dMo_send_112 (lv_at hl 7 rfl) ?_
      obtain ⟨hi17, hwp⟩ := hwp
      refine va_iast hx hb hK hP hD hS 6 0 rfl rfl hi17 dMo_send_114 (fun H locs hP hD hS => ?_)
      obtain ⟨σ18, eσ18⟩ : ∃ z, z = up2 σ12 5 (σ12 1 v13.toNatClampNeg).toNatClampNeg y6 := ⟨_, rfl⟩
      have hwp := hwp σ18 eσ18
      have hP : va_P D clA (mw a tI tZ σ18) H := by rw [eσ18]; exact hP
      have hD : va_D A (mw a tI tZ σ18) := by rw [eσ18]; exact hD
      exact cut115 σ18 y1 y2 y3 y4 y5 y6 v13 _ _ _ hwp hP hD hS (lv_sub hl [1, 2, 3, 4, 5, 6, 7, 0] rfl)
    · have hwp := hwp.2 h15
      refine lv_aload_n hx hb dMo_send_89 rfl (lv_at hl 1 rfl) ?_
      refine va_get (D := D) (ci := 0) (C := RMo) (T := TMo) (N := 33) hx hb hts hin0 hown hK hP 0 rfl rfl 0 (by decide) k7 (fun _ h9 => h9) rfl dMo_send_90 ?_
      refine lv_iload hx hb dMo_send_93 (lv_at hl 0 rfl) ?_
      refine lv_iload hx hb dMo_send_95 (lv_at hl 7 rfl) ?_
      obtain ⟨hi19, hwp⟩ := hwp
      refine va_iast hx hb hK hP hD hS 1 0 rfl rfl hi19 dMo_send_97 (fun H locs hP hD hS => ?_)
      obtain ⟨σ20, eσ20⟩ : ∃ z, z = up2 σ12 0 v13.toNatClampNeg y6 := ⟨_, rfl⟩
      have hwp := hwp σ20 eσ20
      have hP : va_P D clA (mw a tI tZ σ20) H := by rw [eσ20]; exact hP
      have hD : va_D A (mw a tI tZ σ20) := by rw [eσ20]; exact hD
      refine lv_goto hx hb dMo_send_98 rfl ?_
      exact cut115 σ20 y1 y2 y3 y4 y5 y6 v13 _ _ _ hwp hP hD hS (lv_sub hl [1, 2, 3, 4, 5, 6, 7, 0] rfl)
  have hl := lv_entry ([.ref (a 0), .int x1, .int x2, .int x3, .int x4, .int x5]) (n := 8) (Nat.le_of_ble_eq_true rfl)
  rw [lg_entry_eq]
  generalize (lg_sl ([.ref (a 0), .int x1, .int x2, .int x3, .int x4, .int x5]) ++ List.replicate (8 - (lg_sl ([.ref (a 0), .int x1, .int x2, .int x3, .int x4, .int x5])).length) Slot.unset).toArray = ls at hl ⊢
  have hl : lv_has ls 8 [(0, .ref (a 0)), (1, .int x1), (2, .int x2), (3, .int x3), (4, .int x4), (5, .int x5)] := hl
  refine lv_aload_n hx hb dMo_send_0 rfl (lv_at hl 0 rfl) ?_
  refine va_get (D := D) (ci := 0) (C := RMo) (T := TMo) (N := 33) hx hb hts hin0 hown hK hP 0 rfl rfl 7 (by decide) k28 (fun _ h9 => h9) rfl dMo_send_1 ?_
  refine lv_topi (fun v21 ev21 => ?_)
  have hwp := hwp v21 ev21
  refine lv_istore hx hb dMo_send_4 hl (by decide) rfl (fun ls hl => ?_)
  have hl : lv_has ls 8 [(6, .int v21), (0, .ref (a 0)), (1, .int x1), (2, .int x2), (3, .int x3), (4, .int x4), (5, .int x5)] := hl
  refine lv_iload hx hb dMo_send_6 (lv_at hl 0 rfl) ?_
  refine lv_if_lt hx hb dMo_send_8 rfl (fun h22 => ?_) (fun h22 => ?_)
  · have hwp := hwp.1 h22
    refine lv_aload_n hx hb dMo_send_25 rfl (lv_at hl 1 rfl) ?_
    refine va_get (D := D) (ci := 0) (C := RMo) (T := TMo) (N := 33) hx hb hts hin0 hown hK hP 0 rfl rfl 6 (by decide) k93 (fun _ h9 => h9) rfl dMo_send_26 ?_
    refine lv_topi (fun v23 ev23 => ?_)
    have hwp := hwp v23 ev23
    refine lv_istore hx hb dMo_send_29 hl (by decide) rfl (fun ls hl => ?_)
    have hl : lv_has ls 8 [(6, .int v23), (0, .ref (a 0)), (1, .int x1), (2, .int x2), (3, .int x3), (4, .int x4), (5, .int x5)] := hl
    refine lv_aload_n hx hb dMo_send_31 rfl (lv_at hl 1 rfl) ?_
    refine lv_dup hx hb dMo_send_32 rfl ?_
    refine va_get (D := D) (ci := 0) (C := RMo) (T := TMo) (N := 33) hx hb hts hin0 hown hK hP 0 rfl rfl 6 (by decide) k93 (fun _ h9 => h9) rfl dMo_send_33 ?_
    refine lv_iconst (v := 1) hx hb dMo_send_36 (by decide) ?_
    refine lv_iadd hx hb dMo_send_37 ?_
    refine va_put (ty := .int) (D := D) (ci := 0) (C := RMo) (T := TMo) (N := 33) hx hb hts hin0 tyMo tyMo_ok nmMo hown hK hP hD hS 0 rfl rfl 6 (by decide) k93 (fun _ h9 => h9) rfl (by decide +kernel) rfl rfl (Nat.le_of_ble_eq_true rfl) dMo_send_38 (fun H locs hP hD hS => ?_)
    obtain ⟨σ24, eσ24⟩ : ∃ z, z = up2 σ 6 0 ((σ 6 0) + 1) := ⟨_, rfl⟩
    have hwp := hwp σ24 eσ24
    have hP : va_P D clA (mw a tI tZ σ24) H := by rw [eσ24]; exact hP
    have hD : va_D A (mw a tI tZ σ24) := by rw [eσ24]; exact hD
    exact cut41 σ24 x1 x2 x3 x4 x5 v23 _ _ _ hwp hP hD hS (lv_sub hl [1, 2, 3, 4, 5, 6, 0] rfl)
  · have hwp := hwp.2 h22
    refine lv_aload_n hx hb dMo_send_11 rfl (lv_at hl 1 rfl) ?_
    refine lv_aload_n hx hb dMo_send_12 rfl (lv_at hl 1 rfl) ?_
    refine va_get (D := D) (ci := 0) (C := RMo) (T := TMo) (N := 33) hx hb hts hin0 hown hK hP 0 rfl rfl 5 (by decide) k25 (fun _ h9 => h9) rfl dMo_send_13 ?_
    refine lv_iload hx hb dMo_send_16 (lv_at hl 0 rfl) ?_
    obtain ⟨hi25, hwp⟩ := hwp
    refine va_iald hx hb hK hP 6 0 rfl rfl hi25 dMo_send_18 ?_
    refine va_put (ty := .int) (D := D) (ci := 0) (C := RMo) (T := TMo) (N := 33) hx hb hts hin0 tyMo tyMo_ok nmMo hown hK hP hD hS 0 rfl rfl 7 (by decide) k28 (fun _ h9 => h9) rfl (by decide +kernel) rfl rfl (Nat.le_of_ble_eq_true rfl) dMo_send_19 (fun H locs hP hD hS => ?_)
    obtain ⟨σ26, eσ26⟩ : ∃ z, z = up2 σ 7 0 (σ 5 v21.toNatClampNeg) := ⟨_, rfl⟩
    have hwp := hwp σ26 eσ26
    have hP : va_P D clA (mw a tI tZ σ26) H := by rw [eσ26]; exact hP
    have hD : va_D A (mw a tI tZ σ26) := by rw [eσ26]; exact hD
    refine lv_goto hx hb dMo_send_22 rfl ?_
    exact cut41 σ26 x1 x2 x3 x4 x5 v21 _ _ _ hwp hP hD hS (lv_sub hl [1, 2, 3, 4, 5, 6, 0] rfl)
-- private void sendAll(int, int, int, int)
def wM_sendAll_26 (K3 : MS → Int32 → Int32 → Int32 → Int32 → Int32 → Prop) (R : MS → Prop) (σ : MS) (y1 : Int32) (y2 : Int32) (y3 : Int32) (y4 : Int32) (y5 : Int32) : Prop :=
  K3 σ y1 y2 y3 y4 (y5 + 1)
def wM_sendAll_3_step (K3 : MS → Int32 → Int32 → Int32 → Int32 → Int32 → Prop) (R : MS → Prop) (σ : MS) (y1 : Int32) (y2 : Int32) (y3 : Int32) (y4 : Int32) (y5 : Int32) : Prop :=
  (((4 ≤ y5) → R σ) ∧ ((¬ 4 ≤ y5) → (((y5 = y1) → wM_sendAll_26 K3 R σ y1 y2 y3 y4 y5) ∧ ((¬ y5 = y1) → (∃ P3 : MS → Prop, wM_send P3 σ y1 y5 y2 y3 y4 ∧ (∀ (u4 : MS), P3 u4 → wM_sendAll_26 K3 R u4 y1 y2 y3 y4 y5))))))
def wM_sendAll_3 (R : MS → Prop) : Nat → MS → Int32 → Int32 → Int32 → Int32 → Int32 → Prop
  | 0 => fun _ _ _ _ _ _ => False
  | k + 1 => fun σ y1 y2 y3 y4 y5 => wM_sendAll_3_step  (wM_sendAll_3  R k) R σ y1 y2 y3 y4 y5
def wM_sendAll (R : MS → Prop) (σ : MS) (x1 x2 x3 x4 : Int32) : Prop :=
  wM_sendAll_3 R 5 σ x1 x2 x3 x4 0
abbrev wsMo_sendAll : List Cond := .code yMo_sendAll cMo_sendAll 6 none :: wg
abbrev rmM_sendAll : Room := { frames := 1, cells := 0, slots := 0, locals := 27 }
set_option maxHeartbeats 4000000 in
set_option maxRecDepth 100000 in
theorem kM_sendAll (l : Launch) (D : va_G) (a : Nat → Nat) (A : Nat → Prop) (tI tZ : ClassId) (σ : MS) (x1 x2 x3 x4 : Int32) (R : MS → Prop) (hwp : wM_sendAll R σ x1 x2 x3 x4) : Met l yMo_sendAll wsMo_sendAll rmM_sendAll (va_Pc [.ref (a 0), .int x1, .int x2, .int x3, .int x4] (uI D clA (mT tI tZ) A false (mw a tI tZ) σ)) (va_Qv R (uI D clA (mT tI tZ) A false (mw a tI tZ)) A) 0 0 A := by
  refine Met.ofW (cc := cMo_sendAll) (maxL := 6) (ret := none) (by decide) rfl ?_
  intro p e s m args below meth c s₁ B hml hv
  obtain ⟨rfl, hP, hK, hD, hA⟩ := hv
  have hx := B.exec
  have hb := B.bytes
  have hr := B.returns
  have hts := atoms_spec (ws := wsMo_sendAll) B.pre
  have hown : s.vm.findClass RMo = some m.cls := findClass_of_methodNamed B.named
  have hlocks := B.notSynchronized
  have hS : va_S A s.heap s.heap [] := va_S.rf
  have cut3 : ∀ (k3 : Nat) (σ : MS) (y1 : Int32) (y2 : Int32) (y3 : Int32) (y4 : Int32) (y5 : Int32) (H : Heap) (locs : List Loc) (ls : Array Slot), wM_sendAll_3 R k3 σ y1 y2 y3 y4 y5 → va_P D clA (mw a tI tZ σ) H → va_D A (mw a tI tZ σ) → va_S A s.heap H locs → lv_has ls 6 [(0, .ref (a 0)), (1, .int y1), (2, .int y2), (3, .int y3), (4, .int y4), (5, .int y5)] → W p l e (headSpec wsMo_sendAll rmM_sendAll).room s m ([.ref (a 0), .int x1, .int x2, .int x3, .int x4] : List Value).toArray below meth c H locs 0 0 (MQ below (va_Qv R (uI D clA (mT tI tZ) A false (mw a tI tZ)) A) ([.ref (a 0), .int x1, .int x2, .int x3, .int x4] : List Value).toArray s 0 0 A) (F0 m 3 ls []) := by
    intro k3
    induction k3 with
    | zero => intro σ y1 y2 y3 y4 y5 H locs ls hwp hP hD hS hl; exact False.elim hwp
    | succ k3 ih3 =>
      intro σ y1 y2 y3 y4 y5 H locs ls hwp hP hD hS hl
      have cut26 : ∀ (σ : MS) (y1 : Int32) (y2 : Int32) (y3 : Int32) (y4 : Int32) (y5 : Int32) (H : Heap) (locs : List Loc) (ls : Array Slot), wM_sendAll_26 (wM_sendAll_3 R k3) R σ y1 y2 y3 y4 y5 → va_P D clA (mw a tI tZ σ) H → va_D A (mw a tI tZ σ) → va_S A s.heap H locs → lv_has ls 6 [(0, .ref (a 0)), (1, .int y1), (2, .int y2), (3, .int y3), (4, .int y4), (5, .int y5)] → W p l e (headSpec wsMo_sendAll rmM_sendAll).room s m ([.ref (a 0), .int x1, .int x2, .int x3, .int x4] : List Value).toArray below meth c H locs 0 0 (MQ below (va_Qv R (uI D clA (mT tI tZ) A false (mw a tI tZ)) A) ([.ref (a 0), .int x1, .int x2, .int x3, .int x4] : List Value).toArray s 0 0 A) (F0 m 26 ls []) := by
        intro σ y1 y2 y3 y4 y5 H locs ls hwp hP hD hS hl
        refine lv_iinc (k := 5) hx hb dMo_sendAll_26 hl rfl (fx_inc1 _) (by decide) rfl (fun ls hl => ?_)
        have hl : lv_has ls 6 [(5, .int (y5 + 1)), (0, .ref (a 0)), (1, .int y1), (2, .int y2), (3, .int y3), (4, .int y4)] := hl
        refine lv_goto hx hb dMo_sendAll_29 rfl ?_
        exact ih3 σ y1 y2 y3 y4 (y5 + 1) _ _ _ hwp hP hD hS (lv_sub hl [1, 2, 3, 4, 5, 0] rfl)
      have hwp : wM_sendAll_3_step (wM_sendAll_3 R k3) R σ y1 y2 y3 y4 y5 := hwp
      refine lv_iload hx hb dMo_sendAll_3 (lv_at hl 5 rfl) ?_
      refine lv_iconst (v := 4) hx hb dMo_sendAll_5 (by decide) ?_
      refine lv_icmp_ge hx hb dMo_sendAll_6 rfl (fun h1 => ?_) (fun h1 => ?_)
      · have hwp := hwp.1 h1
        exact W.vret hx hb hr (fun t ht hW => ⟨⟨σ, rfl, hwp, uEnd ht hW hP hK hD hS hA⟩, hS.F ht⟩) hS.2.2 dMo_sendAll_32
      · have hwp := hwp.2 h1
        refine lv_iload hx hb dMo_sendAll_9 (lv_at hl 5 rfl) ?_
        refine lv_iload_n hx hb dMo_sendAll_11 rfl (lv_at hl 1 rfl) ?_
        refine lv_icmp_eq hx hb dMo_sendAll_12 rfl (fun h2 => ?_) (fun h2 => ?_)
        · have hwp := hwp.1 h2
          exact cut26 σ y1 y2 y3 y4 y5 _ _ _ hwp hP hD hS (lv_sub hl [0, 1, 2, 3, 4, 5] rfl)
        · have hwp := hwp.2 h2
          refine lv_aload_n hx hb dMo_sendAll_15 rfl (lv_at hl 0 rfl) ?_
          refine lv_iload_n hx hb dMo_sendAll_16 rfl (lv_at hl 1 rfl) ?_
          refine lv_iload hx hb dMo_sendAll_17 (lv_at hl 5 rfl) ?_
          refine lv_iload_n hx hb dMo_sendAll_19 rfl (lv_at hl 2 rfl) ?_
          refine lv_iload_n hx hb dMo_sendAll_20 rfl (lv_at hl 3 rfl) ?_
          refine lv_iload hx hb dMo_sendAll_21 (lv_at hl 4 rfl) ?_
          obtain ⟨P3, hP3, hwp⟩ := hwp
          refine uCallVv (As := [.int y1, .int y5, .int y2, .int y3, .int y4]) (rest := []) (C := RMo) ⟨hx, hb, hml, hown, hts⟩ (kM_send l D a A tI tZ σ y1 y5 y2 y3 y4 P3 hP3) (cwV 5 hts (gdV wm_858 wm_860 wp_18 wm_13 wm_861) rfl rfl rfl (by decide +kernel) ⟨Nat.le_of_ble_eq_true rfl, Nat.le_of_ble_eq_true rfl⟩) (va_recv (ci := 0) (q0 := 0) hK hP rfl rfl) hP hK hD hA hS rfl hl.1 rfl (Nat.le_of_ble_eq_true rfl) dMo_sendAll_23 ⟨Nat.le_of_ble_eq_true rfl, Nat.le_of_ble_eq_true rfl⟩ (fun u4 H locs hu4 hP hD hS => ?_)
          have hwp := hwp u4 hu4
          exact cut26 u4 y1 y2 y3 y4 y5 _ _ _ hwp hP hD hS (lv_sub hl [0, 1, 2, 3, 4, 5] rfl)
  have hl := lv_entry ([.ref (a 0), .int x1, .int x2, .int x3, .int x4]) (n := 6) (Nat.le_of_ble_eq_true rfl)
  rw [lg_entry_eq]
  generalize (lg_sl ([.ref (a 0), .int x1, .int x2, .int x3, .int x4]) ++ List.replicate (6 - (lg_sl ([.ref (a 0), .int x1, .int x2, .int x3, .int x4])).length) Slot.unset).toArray = ls at hl ⊢
  have hl : lv_has ls 6 [(0, .ref (a 0)), (1, .int x1), (2, .int x2), (3, .int x3), (4, .int x4)] := hl
  refine lv_iconst (v := 0) hx hb dMo_sendAll_0 (by decide) ?_
  refine lv_istore hx hb dMo_sendAll_1 hl (by decide) rfl (fun ls hl => ?_)
  have hl : lv_has ls 6 [(5, .int 0), (0, .ref (a 0)), (1, .int x1), (2, .int x2), (3, .int x3), (4, .int x4)] := hl
  exact cut3 5 σ x1 x2 x3 x4 0 _ _ _ hwp hP hD hS (lv_sub hl [1, 2, 3, 4, 5, 0] rfl)
-- private void comeIn(int, int)
def wM_comeIn (R : MS → Prop) (σ : MS) (x1 x2 : Int32) : Prop :=
  (vp_in ((4 * x1) + x2) 12 ∧ (∀ σ2 : MS, σ2 = up2 σ 8 ((4 * x1) + x2).toNatClampNeg 2 → (∀ σ3 : MS, σ3 = up2 σ2 9 0 ((σ2 9 0) + 1) → R σ3)))
abbrev wsMo_comeIn : List Cond := .code yMo_comeIn cMo_comeIn 3 none :: wg
abbrev rmM_comeIn : Room := { frames := 0, cells := 0, slots := 0, locals := 0 }
set_option maxHeartbeats 4000000 in
set_option maxRecDepth 100000 in
theorem kM_comeIn (l : Launch) (D : va_G) (a : Nat → Nat) (A : Nat → Prop) (tI tZ : ClassId) (σ : MS) (x1 x2 : Int32) (R : MS → Prop) (hwp : wM_comeIn R σ x1 x2) : Met l yMo_comeIn wsMo_comeIn rmM_comeIn (va_Pc [.ref (a 0), .int x1, .int x2] (uI D clA (mT tI tZ) A false (mw a tI tZ) σ)) (va_Qv R (uI D clA (mT tI tZ) A false (mw a tI tZ)) A) 0 0 A := by
  refine Met.ofW (cc := cMo_comeIn) (maxL := 3) (ret := none) (by decide) rfl ?_
  intro p e s m args below meth c s₁ B hml hv
  obtain ⟨rfl, hP, hK, hD, hA⟩ := hv
  have hx := B.exec
  have hb := B.bytes
  have hr := B.returns
  have hts := atoms_spec (ws := wsMo_comeIn) B.pre
  have hown : s.vm.findClass RMo = some m.cls := findClass_of_methodNamed B.named
  have hlocks := B.notSynchronized
  have hin0 : ∀ w ∈ u_ws RMo TMo 33, w ∈ wsMo_comeIn := fun w h => List.mem_cons_of_mem _ (inMo w h)
  have k128 := hts _ (List.mem_cons_of_mem _ wm_745)
  have k32 := hts _ (List.mem_cons_of_mem _ wm_744)
  have hS : va_S A s.heap s.heap [] := va_S.rf
  have hl := lv_entry ([.ref (a 0), .int x1, .int x2]) (n := 3) (Nat.le_of_ble_eq_true rfl)
  rw [lg_entry_eq]
  generalize (lg_sl ([.ref (a 0), .int x1, .int x2]) ++ List.replicate (3 - (lg_sl ([.ref (a 0), .int x1, .int x2])).length) Slot.unset).toArray = ls at hl ⊢
  have hl : lv_has ls 3 [(0, .ref (a 0)), (1, .int x1), (2, .int x2)] := hl
  refine lv_aload_n hx hb dMo_comeIn_0 rfl (lv_at hl 0 rfl) ?_
  refine va_get (D := D) (ci := 0) (C := RMo) (T := TMo) (N := 33) hx hb hts hin0 hown hK hP 0 rfl rfl 8 (by decide) k32 (fun _ h9 => h9) rfl dMo_comeIn_1 ?_
  refine lv_iconst (v := 4) hx hb dMo_comeIn_4 (by decide) ?_
  refine lv_iload_n hx hb dMo_comeIn_5 rfl (lv_at hl 1 rfl) ?_
  refine lv_imul hx hb dMo_comeIn_6 ?_
  refine lv_iload_n hx hb dMo_comeIn_7 rfl (lv_at hl 2 rfl) ?_
  refine lv_iadd hx hb dMo_comeIn_8 ?_
  refine lv_iconst (v := 2) hx hb dMo_comeIn_9 (by decide) ?_
  obtain ⟨hi1, hwp⟩ := hwp
  refine va_iast hx hb hK hP hD hS 7 0 rfl rfl hi1 dMo_comeIn_10 (fun H locs hP hD hS => ?_)
  obtain ⟨σ2, eσ2⟩ : ∃ z, z = up2 σ 8 ((4 * x1) + x2).toNatClampNeg 2 := ⟨_, rfl⟩
  have hwp := hwp σ2 eσ2
  have hP : va_P D clA (mw a tI tZ σ2) H := by rw [eσ2]; exact hP
  have hD : va_D A (mw a tI tZ σ2) := by rw [eσ2]; exact hD
  refine lv_aload_n hx hb dMo_comeIn_11 rfl (lv_at hl 0 rfl) ?_
  refine lv_dup hx hb dMo_comeIn_12 rfl ?_
  refine va_get (D := D) (ci := 0) (C := RMo) (T := TMo) (N := 33) hx hb hts hin0 hown hK hP 0 rfl rfl 9 (by decide) k128 (fun _ h9 => h9) rfl dMo_comeIn_13 ?_
  refine lv_iconst (v := 1) hx hb dMo_comeIn_16 (by decide) ?_
  refine lv_iadd hx hb dMo_comeIn_17 ?_
  refine va_put (ty := .int) (D := D) (ci := 0) (C := RMo) (T := TMo) (N := 33) hx hb hts hin0 tyMo tyMo_ok nmMo hown hK hP hD hS 0 rfl rfl 9 (by decide) k128 (fun _ h9 => h9) rfl (by decide +kernel) rfl rfl (Nat.le_of_ble_eq_true rfl) dMo_comeIn_18 (fun H locs hP hD hS => ?_)
  obtain ⟨σ3, eσ3⟩ : ∃ z, z = up2 σ2 9 0 ((σ2 9 0) + 1) := ⟨_, rfl⟩
  have hwp := hwp σ3 eσ3
  have hP : va_P D clA (mw a tI tZ σ3) H := by rw [eσ3]; exact hP
  have hD : va_D A (mw a tI tZ σ3) := by rw [eσ3]; exact hD
  exact W.vret hx hb hr (fun t ht hW => ⟨⟨σ3, rfl, hwp, uEnd ht hW hP hK hD hS hA⟩, hS.F ht⟩) hS.2.2 dMo_comeIn_21
-- private boolean isDue(int, int)
def wM_isDue (R : Int32 → MS → Prop) (σ : MS) (x1 x2 : Int32) : Prop :=
  (vp_in ((4 * x1) + x2) 16 ∧ (vp_in x2 4 ∧ (((¬ (σ 15 ((4 * x1) + x2).toNatClampNeg) = ((σ 16 x2.toNatClampNeg) + 1)) → R 0 σ) ∧ (((σ 15 ((4 * x1) + x2).toNatClampNeg) = ((σ 16 x2.toNatClampNeg) + 1)) → R 1 σ))))
abbrev wsMo_isDue : List Cond := .code yMo_isDue cMo_isDue 3 (some .boolean) :: wg
abbrev rmM_isDue : Room := { frames := 0, cells := 0, slots := 0, locals := 0 }
set_option maxHeartbeats 4000000 in
set_option maxRecDepth 100000 in
theorem kM_isDue (l : Launch) (D : va_G) (a : Nat → Nat) (A : Nat → Prop) (tI tZ : ClassId) (σ : MS) (x1 x2 : Int32) (R : Int32 → MS → Prop) (hwp : wM_isDue R σ x1 x2) : Met l yMo_isDue wsMo_isDue rmM_isDue (va_Pc [.ref (a 0), .int x1, .int x2] (uI D clA (mT tI tZ) A false (mw a tI tZ) σ)) (va_Qi R (uI D clA (mT tI tZ) A false (mw a tI tZ)) A) 0 0 A := by
  refine Met.ofW (cc := cMo_isDue) (maxL := 3) (ret := (some .boolean)) (by decide) rfl ?_
  intro p e s m args below meth c s₁ B hml hv
  obtain ⟨rfl, hP, hK, hD, hA⟩ := hv
  have hx := B.exec
  have hb := B.bytes
  have hr := B.returns
  have hts := atoms_spec (ws := wsMo_isDue) B.pre
  have hown : s.vm.findClass RMo = some m.cls := findClass_of_methodNamed B.named
  have hlocks := B.notSynchronized
  have hin0 : ∀ w ∈ u_ws RMo TMo 33, w ∈ wsMo_isDue := fun w h => List.mem_cons_of_mem _ (inMo w h)
  have k47 := hts _ (List.mem_cons_of_mem _ wm_751)
  have k50 := hts _ (List.mem_cons_of_mem _ wm_752)
  have hS : va_S A s.heap s.heap [] := va_S.rf
  have hl := lv_entry ([.ref (a 0), .int x1, .int x2]) (n := 3) (Nat.le_of_ble_eq_true rfl)
  rw [lg_entry_eq]
  generalize (lg_sl ([.ref (a 0), .int x1, .int x2]) ++ List.replicate (3 - (lg_sl ([.ref (a 0), .int x1, .int x2])).length) Slot.unset).toArray = ls at hl ⊢
  have hl : lv_has ls 3 [(0, .ref (a 0)), (1, .int x1), (2, .int x2)] := hl
  refine lv_aload_n hx hb dMo_isDue_0 rfl (lv_at hl 0 rfl) ?_
  refine va_get (D := D) (ci := 0) (C := RMo) (T := TMo) (N := 33) hx hb hts hin0 hown hK hP 0 rfl rfl 15 (by decide) k47 (fun _ h9 => h9) rfl dMo_isDue_1 ?_
  refine lv_iconst (v := 4) hx hb dMo_isDue_4 (by decide) ?_
  refine lv_iload_n hx hb dMo_isDue_5 rfl (lv_at hl 1 rfl) ?_
  refine lv_imul hx hb dMo_isDue_6 ?_
  refine lv_iload_n hx hb dMo_isDue_7 rfl (lv_at hl 2 rfl) ?_
  refine lv_iadd hx hb dMo_isDue_8 ?_
  obtain ⟨hi1, hwp⟩ := hwp
  refine va_iald hx hb hK hP 12 0 rfl rfl hi1 dMo_isDue_9 ?_
  refine lv_aload_n hx hb dMo_isDue_10 rfl (lv_at hl 0 rfl) ?_
  refine va_get (D := D) (ci := 0) (C := RMo) (T := TMo) (N := 33) hx hb hts hin0 hown hK hP 0 rfl rfl 16 (by decide) k50 (fun _ h9 => h9) rfl dMo_isDue_11 ?_
  refine lv_iload_n hx hb dMo_isDue_14 rfl (lv_at hl 2 rfl) ?_
  obtain ⟨hi2, hwp⟩ := hwp
  refine va_iald hx hb hK hP 13 0 rfl rfl hi2 dMo_isDue_15 ?_
  refine lv_iconst (v := 1) hx hb dMo_isDue_16 (by decide) ?_
  refine lv_iadd hx hb dMo_isDue_17 ?_
  refine lv_icmp_ne hx hb dMo_isDue_18 rfl (fun h3 => ?_) (fun h3 => ?_)
  · have hwp := hwp.1 h3
    refine lv_iconst (v := 0) hx hb dMo_isDue_25 (by decide) ?_
    exact W.zret (v := 0) hx hb hr (by decide) (fun t ht hW => ⟨⟨0, σ, rfl, hwp, uEnd ht hW hP hK hD hS hA⟩, hS.F ht⟩) hS.2.2 dMo_isDue_26
  · have hwp := hwp.2 h3
    refine lv_iconst (v := 1) hx hb dMo_isDue_21 (by decide) ?_
    refine lv_goto hx hb dMo_isDue_22 rfl ?_
    exact W.zret (v := 1) hx hb hr (by decide) (fun t ht hW => ⟨⟨1, σ, rfl, hwp, uEnd ht hW hP hK hD hS hA⟩, hS.F ht⟩) hS.2.2 dMo_isDue_26
-- private void enqueue(int, int)
def wM_enqueue (R : MS → Prop) (σ : MS) (x1 x2 : Int32) : Prop :=
  (vp_in x1 4 ∧ (vp_in ((8 * x1) + (σ 21 x1.toNatClampNeg)) 32 ∧ (∀ σ3 : MS, σ3 = up2 σ 22 ((8 * x1) + (σ 21 x1.toNatClampNeg)).toNatClampNeg x2 → (vp_in x1 4 ∧ (vp_in x1 4 ∧ (∀ σ6 : MS, σ6 = up2 σ3 21 x1.toNatClampNeg ((σ3 21 x1.toNatClampNeg) + 1) → R σ6))))))
abbrev wsMo_enqueue : List Cond := .code yMo_enqueue cMo_enqueue 3 none :: wg
abbrev rmM_enqueue : Room := { frames := 0, cells := 0, slots := 0, locals := 0 }
set_option maxHeartbeats 4000000 in
set_option maxRecDepth 100000 in
theorem kM_enqueue (l : Launch) (D : va_G) (a : Nat → Nat) (A : Nat → Prop) (tI tZ : ClassId) (σ : MS) (x1 x2 : Int32) (R : MS → Prop) (hwp : wM_enqueue R σ x1 x2) : Met l yMo_enqueue wsMo_enqueue rmM_enqueue (va_Pc [.ref (a 0), .int x1, .int x2] (uI D clA (mT tI tZ) A false (mw a tI tZ) σ)) (va_Qv R (uI D clA (mT tI tZ) A false (mw a tI tZ)) A) 0 0 A := by
  refine Met.ofW (cc := cMo_enqueue) (maxL := 3) (ret := none) (by decide) rfl ?_
  intro p e s m args below meth c s₁ B hml hv
  obtain ⟨rfl, hP, hK, hD, hA⟩ := hv
  have hx := B.exec
  have hb := B.bytes
  have hr := B.returns
  have hts := atoms_spec (ws := wsMo_enqueue) B.pre
  have hown : s.vm.findClass RMo = some m.cls := findClass_of_methodNamed B.named
  have hlocks := B.notSynchronized
  have hin0 : ∀ w ∈ u_ws RMo TMo 33, w ∈ wsMo_enqueue := fun w h => List.mem_cons_of_mem _ (inMo w h)
  have k59 := hts _ (List.mem_cons_of_mem _ wm_757)
  have k62 := hts _ (List.mem_cons_of_mem _ wm_758)
  have hS : va_S A s.heap s.heap [] := va_S.rf
  have hl := lv_entry ([.ref (a 0), .int x1, .int x2]) (n := 3) (Nat.le_of_ble_eq_true rfl)
  rw [lg_entry_eq]
  generalize (lg_sl ([.ref (a 0), .int x1, .int x2]) ++ List.replicate (3 - (lg_sl ([.ref (a 0), .int x1, .int x2])).length) Slot.unset).toArray = ls at hl ⊢
  have hl : lv_has ls 3 [(0, .ref (a 0)), (1, .int x1), (2, .int x2)] := hl
  refine lv_aload_n hx hb dMo_enqueue_0 rfl (lv_at hl 0 rfl) ?_
  refine va_get (D := D) (ci := 0) (C := RMo) (T := TMo) (N := 33) hx hb hts hin0 hown hK hP 0 rfl rfl 22 (by decide) k62 (fun _ h9 => h9) rfl dMo_enqueue_1 ?_
  refine lv_bipush (v := 8) hx hb dMo_enqueue_4 (by decide) ?_
  refine lv_iload_n hx hb dMo_enqueue_6 rfl (lv_at hl 1 rfl) ?_
  refine lv_imul hx hb dMo_enqueue_7 ?_
  refine lv_aload_n hx hb dMo_enqueue_8 rfl (lv_at hl 0 rfl) ?_
  refine va_get (D := D) (ci := 0) (C := RMo) (T := TMo) (N := 33) hx hb hts hin0 hown hK hP 0 rfl rfl 21 (by decide) k59 (fun _ h9 => h9) rfl dMo_enqueue_9 ?_
  refine lv_iload_n hx hb dMo_enqueue_12 rfl (lv_at hl 1 rfl) ?_
  obtain ⟨hi1, hwp⟩ := hwp
  refine va_iald hx hb hK hP 16 0 rfl rfl hi1 dMo_enqueue_13 ?_
  refine lv_iadd hx hb dMo_enqueue_14 ?_
  refine lv_iload_n hx hb dMo_enqueue_15 rfl (lv_at hl 2 rfl) ?_
  obtain ⟨hi2, hwp⟩ := hwp
  refine va_iast hx hb hK hP hD hS 17 0 rfl rfl hi2 dMo_enqueue_16 (fun H locs hP hD hS => ?_)
  obtain ⟨σ3, eσ3⟩ : ∃ z, z = up2 σ 22 ((8 * x1) + (σ 21 x1.toNatClampNeg)).toNatClampNeg x2 := ⟨_, rfl⟩
  have hwp := hwp σ3 eσ3
  have hP : va_P D clA (mw a tI tZ σ3) H := by rw [eσ3]; exact hP
  have hD : va_D A (mw a tI tZ σ3) := by rw [eσ3]; exact hD
  refine lv_aload_n hx hb dMo_enqueue_17 rfl (lv_at hl 0 rfl) ?_
  refine va_get (D := D) (ci := 0) (C := RMo) (T := TMo) (N := 33) hx hb hts hin0 hown hK hP 0 rfl rfl 21 (by decide) k59 (fun _ h9 => h9) rfl dMo_enqueue_18 ?_
  refine lv_iload_n hx hb dMo_enqueue_21 rfl (lv_at hl 1 rfl) ?_
  refine lv_dup2_11 hx hb dMo_enqueue_22 rfl rfl ?_
  obtain ⟨hi4, hwp⟩ := hwp
  refine va_iald hx hb hK hP 16 0 rfl rfl hi4 dMo_enqueue_23 ?_
  refine lv_iconst (v := 1) hx hb dMo_enqueue_24 (by decide) ?_
  refine lv_iadd hx hb dMo_enqueue_25 ?_
  obtain ⟨hi5, hwp⟩ := hwp
  refine va_iast hx hb hK hP hD hS 16 0 rfl rfl hi5 dMo_enqueue_26 (fun H locs hP hD hS => ?_)
  obtain ⟨σ6, eσ6⟩ : ∃ z, z = up2 σ3 21 x1.toNatClampNeg ((σ3 21 x1.toNatClampNeg) + 1) := ⟨_, rfl⟩
  have hwp := hwp σ6 eσ6
  have hP : va_P D clA (mw a tI tZ σ6) H := by rw [eσ6]; exact hP
  have hD : va_D A (mw a tI tZ σ6) := by rw [eσ6]; exact hD
  exact W.vret hx hb hr (fun t ht hW => ⟨⟨σ6, rfl, hwp, uEnd ht hW hP hK hD hS hA⟩, hS.F ht⟩) hS.2.2 dMo_enqueue_27
-- private int dequeue(int)
def wM_dequeue_22_step (K22 : MS → Int32 → Int32 → Int32 → Prop) (R : Int32 → MS → Prop) (σ : MS) (y1 : Int32) (y2 : Int32) (y3 : Int32) : Prop :=
  (vp_in y1 4 ∧ ((((σ 21 y1.toNatClampNeg) ≤ y3) → R y2 σ) ∧ ((¬ (σ 21 y1.toNatClampNeg) ≤ y3) → (vp_in (((8 * y1) + y3) + 1) 32 ∧ (vp_in ((8 * y1) + y3) 32 ∧ (∀ σ5 : MS, σ5 = up2 σ 22 ((8 * y1) + y3).toNatClampNeg (σ 22 (((8 * y1) + y3) + 1).toNatClampNeg) → K22 σ5 y1 y2 (y3 + 1)))))))
def wM_dequeue_22 (R : Int32 → MS → Prop) : Nat → MS → Int32 → Int32 → Int32 → Prop
  | 0 => fun _ _ _ _ => False
  | k + 1 => fun σ y1 y2 y3 => wM_dequeue_22_step  (wM_dequeue_22  R k) R σ y1 y2 y3
def wM_dequeue (R : Int32 → MS → Prop) (σ : MS) (x1 : Int32) : Prop :=
  (vp_in (8 * x1) 32 ∧ (∀ v7 : Int32, v7 = σ 22 (8 * x1).toNatClampNeg → (vp_in x1 4 ∧ (vp_in x1 4 ∧ (∀ σ10 : MS, σ10 = up2 σ 21 x1.toNatClampNeg ((σ 21 x1.toNatClampNeg) - 1) → wM_dequeue_22 R 5 σ10 x1 v7 0)))))
abbrev wsMo_dequeue : List Cond := .code yMo_dequeue cMo_dequeue 4 (some .int) :: wg
abbrev rmM_dequeue : Room := { frames := 0, cells := 0, slots := 0, locals := 0 }
set_option maxHeartbeats 4000000 in
set_option maxRecDepth 100000 in
theorem kM_dequeue (l : Launch) (D : va_G) (a : Nat → Nat) (A : Nat → Prop) (tI tZ : ClassId) (σ : MS) (x1 : Int32) (R : Int32 → MS → Prop) (hwp : wM_dequeue R σ x1) : Met l yMo_dequeue wsMo_dequeue rmM_dequeue (va_Pc [.ref (a 0), .int x1] (uI D clA (mT tI tZ) A false (mw a tI tZ) σ)) (va_Qi R (uI D clA (mT tI tZ) A false (mw a tI tZ)) A) 0 0 A := by
  refine Met.ofW (cc := cMo_dequeue) (maxL := 4) (ret := (some .int)) (by decide) rfl ?_
  intro p e s m args below meth c s₁ B hml hv
  obtain ⟨rfl, hP, hK, hD, hA⟩ := hv
  have hx := B.exec
  have hb := B.bytes
  have hr := B.returns
  have hts := atoms_spec (ws := wsMo_dequeue) B.pre
  have hown : s.vm.findClass RMo = some m.cls := findClass_of_methodNamed B.named
  have hlocks := B.notSynchronized
  have hin0 : ∀ w ∈ u_ws RMo TMo 33, w ∈ wsMo_dequeue := fun w h => List.mem_cons_of_mem _ (inMo w h)
  have k59 := hts _ (List.mem_cons_of_mem _ wm_757)
  have k62 := hts _ (List.mem_cons_of_mem _ wm_758)
  have hS : va_S A s.heap s.heap [] := va_S.rf
  have cut22 : ∀ (k22 : Nat) (σ : MS) (y1 : Int32) (y2 : Int32) (y3 : Int32) (H : Heap) (locs : List Loc) (ls : Array Slot), wM_dequeue_22 R k22 σ y1 y2 y3 → va_P D clA (mw a tI tZ σ) H → va_D A (mw a tI tZ σ) → va_S A s.heap H locs → lv_has ls 4 [(0, .ref (a 0)), (1, .int y1), (2, .int y2), (3, .int y3)] → W p l e (headSpec wsMo_dequeue rmM_dequeue).room s m ([.ref (a 0), .int x1] : List Value).toArray below meth c H locs 0 0 (MQ below (va_Qi R (uI D clA (mT tI tZ) A false (mw a tI tZ)) A) ([.ref (a 0), .int x1] : List Value).toArray s 0 0 A) (F0 m 22 ls []) := by
    intro k22
    induction k22 with
    | zero => intro σ y1 y2 y3 H locs ls hwp hP hD hS hl; exact False.elim hwp
    | succ k22 ih22 =>
      intro σ y1 y2 y3 H locs ls hwp hP hD hS hl
      have hwp : wM_dequeue_22_step (wM_dequeue_22 R k22) R σ y1 y2 y3 := hwp
      refine lv_iload_n hx hb dMo_dequeue_22 rfl (lv_at hl 3 rfl) ?_
      refine lv_aload_n hx hb dMo_dequeue_23 rfl (lv_at hl 0 rfl) ?_
      refine va_get (D := D) (ci := 0) (C := RMo) (T := TMo) (N := 33) hx hb hts hin0 hown hK hP 0 rfl rfl 21 (by decide) k59 (fun _ h9 => h9) rfl dMo_dequeue_24 ?_
      refine lv_iload_n hx hb dMo_dequeue_27 rfl (lv_at hl 1 rfl) ?_
      obtain ⟨hi1, hwp⟩ := hwp
      refine va_iald hx hb hK hP 16 0 rfl rfl hi1 dMo_dequeue_28 ?_
      refine lv_icmp_ge hx hb dMo_dequeue_29 rfl (fun h2 => ?_) (fun h2 => ?_)
      · have hwp := hwp.1 h2
        refine lv_iload_n hx hb dMo_dequeue_62 rfl (lv_at hl 2 rfl) ?_
        exact W.iret (v := y2) hx hb hr (fun t ht hW => ⟨⟨y2, σ, rfl, hwp, uEnd ht hW hP hK hD hS hA⟩, hS.F ht⟩) hS.2.2 dMo_dequeue_63
      · have hwp := hwp.2 h2
        refine lv_aload_n hx hb dMo_dequeue_32 rfl (lv_at hl 0 rfl) ?_
        refine va_get (D := D) (ci := 0) (C := RMo) (T := TMo) (N := 33) hx hb hts hin0 hown hK hP 0 rfl rfl 22 (by decide) k62 (fun _ h9 => h9) rfl dMo_dequeue_33 ?_
        refine lv_bipush (v := 8) hx hb dMo_dequeue_36 (by decide) ?_
        refine lv_iload_n hx hb dMo_dequeue_38 rfl (lv_at hl 1 rfl) ?_
        refine lv_imul hx hb dMo_dequeue_39 ?_
        refine lv_iload_n hx hb dMo_dequeue_40 rfl (lv_at hl 3 rfl) ?_
        refine lv_iadd hx hb dMo_dequeue_41 ?_
        refine lv_aload_n hx hb dMo_dequeue_42 rfl (lv_at hl 0 rfl) ?_
        refine va_get (D := D) (ci := 0) (C := RMo) (T := TMo) (N := 33) hx hb hts hin0 hown hK hP 0 rfl rfl 22 (by decide) k62 (fun _ h9 => h9) rfl dMo_dequeue_43 ?_
        refine lv_bipush (v := 8) hx hb dMo_dequeue_46 (by decide) ?_
        refine lv_iload_n hx hb dMo_dequeue_48 rfl (lv_at hl 1 rfl) ?_
        refine lv_imul hx hb dMo_dequeue_49 ?_
        refine lv_iload_n hx hb dMo_dequeue_50 rfl (lv_at hl 3 rfl) ?_
        refine lv_iadd hx hb dMo_dequeue_51 ?_
        refine lv_iconst (v := 1) hx hb dMo_dequeue_52 (by decide) ?_
        refine lv_iadd hx hb dMo_dequeue_53 ?_
        obtain ⟨hi3, hwp⟩ := hwp
        refine va_iald hx hb hK hP 17 0 rfl rfl hi3 dMo_dequeue_54 ?_
        obtain ⟨hi4, hwp⟩ := hwp
        refine va_iast hx hb hK hP hD hS 17 0 rfl rfl hi4 dMo_dequeue_55 (fun H locs hP hD hS => ?_)
        obtain ⟨σ5, eσ5⟩ : ∃ z, z = up2 σ 22 ((8 * y1) + y3).toNatClampNeg (σ 22 (((8 * y1) + y3) + 1).toNatClampNeg) := ⟨_, rfl⟩
        have hwp := hwp σ5 eσ5
        have hP : va_P D clA (mw a tI tZ σ5) H := by rw [eσ5]; exact hP
        have hD : va_D A (mw a tI tZ σ5) := by rw [eσ5]; exact hD
        refine lv_iinc (k := 3) hx hb dMo_dequeue_56 hl rfl (fx_inc1 _) (by decide) rfl (fun ls hl => ?_)
        have hl : lv_has ls 4 [(3, .int (y3 + 1)), (0, .ref (a 0)), (1, .int y1), (2, .int y2)] := hl
        refine lv_goto hx hb dMo_dequeue_59 rfl ?_
        exact ih22 σ5 y1 y2 (y3 + 1) _ _ _ hwp hP hD hS (lv_sub hl [1, 2, 3, 0] rfl)
  have hl := lv_entry ([.ref (a 0), .int x1]) (n := 4) (Nat.le_of_ble_eq_true rfl)
  rw [lg_entry_eq]
  generalize (lg_sl ([.ref (a 0), .int x1]) ++ List.replicate (4 - (lg_sl ([.ref (a 0), .int x1])).length) Slot.unset).toArray = ls at hl ⊢
  have hl : lv_has ls 4 [(0, .ref (a 0)), (1, .int x1)] := hl
  refine lv_aload_n hx hb dMo_dequeue_0 rfl (lv_at hl 0 rfl) ?_
  refine va_get (D := D) (ci := 0) (C := RMo) (T := TMo) (N := 33) hx hb hts hin0 hown hK hP 0 rfl rfl 22 (by decide) k62 (fun _ h9 => h9) rfl dMo_dequeue_1 ?_
  refine lv_bipush (v := 8) hx hb dMo_dequeue_4 (by decide) ?_
  refine lv_iload_n hx hb dMo_dequeue_6 rfl (lv_at hl 1 rfl) ?_
  refine lv_imul hx hb dMo_dequeue_7 ?_
  obtain ⟨hi6, hwp⟩ := hwp
  refine va_iald hx hb hK hP 17 0 rfl rfl hi6 dMo_dequeue_8 ?_
  refine lv_topi (fun v7 ev7 => ?_)
  have hwp := hwp v7 ev7
  refine lv_istore_n hx hb dMo_dequeue_9 rfl hl (by decide) rfl (fun ls hl => ?_)
  have hl : lv_has ls 4 [(2, .int v7), (0, .ref (a 0)), (1, .int x1)] := hl
  refine lv_aload_n hx hb dMo_dequeue_10 rfl (lv_at hl 1 rfl) ?_
  refine va_get (D := D) (ci := 0) (C := RMo) (T := TMo) (N := 33) hx hb hts hin0 hown hK hP 0 rfl rfl 21 (by decide) k59 (fun _ h9 => h9) rfl dMo_dequeue_11 ?_
  refine lv_iload_n hx hb dMo_dequeue_14 rfl (lv_at hl 2 rfl) ?_
  refine lv_dup2_11 hx hb dMo_dequeue_15 rfl rfl ?_
  obtain ⟨hi8, hwp⟩ := hwp
  refine va_iald hx hb hK hP 16 0 rfl rfl hi8 dMo_dequeue_16 ?_
  refine lv_iconst (v := 1) hx hb dMo_dequeue_17 (by decide) ?_
  refine lv_isub hx hb dMo_dequeue_18 ?_
  obtain ⟨hi9, hwp⟩ := hwp
  refine va_iast hx hb hK hP hD hS 16 0 rfl rfl hi9 dMo_dequeue_19 (fun H locs hP hD hS => ?_)
  obtain ⟨σ10, eσ10⟩ : ∃ z, z = up2 σ 21 x1.toNatClampNeg ((σ 21 x1.toNatClampNeg) - 1) := ⟨_, rfl⟩
  have hwp := hwp σ10 eσ10
  have hP : va_P D clA (mw a tI tZ σ10) H := by rw [eσ10]; exact hP
  have hD : va_D A (mw a tI tZ σ10) := by rw [eσ10]; exact hD
  refine lv_iconst (v := 0) hx hb dMo_dequeue_20 (by decide) ?_
  refine lv_istore_n hx hb dMo_dequeue_21 rfl hl (by decide) rfl (fun ls hl => ?_)
  have hl : lv_has ls 4 [(3, .int 0), (2, .int v7), (0, .ref (a 0)), (1, .int x1)] := hl
  exact cut22 5 σ10 x1 v7 0 _ _ _ hwp hP hD hS (lv_sub hl [2, 3, 1, 0] rfl)
-- private void goOn(int)
def wM_goOn_75 (R : MS → Prop) (σ : MS) (y1 : Int32) : Prop :=
  (vp_in y1 4 ∧ ((((σ 20 y1.toNatClampNeg) = y1) → R σ) ∧ ((¬ (σ 20 y1.toNatClampNeg) = y1) → (vp_in y1 4 ∧ ((((σ 21 y1.toNatClampNeg) ≤ 0) → R σ) ∧ ((¬ (σ 21 y1.toNatClampNeg) ≤ 0) → (vp_in y1 4 ∧ (((¬ (σ 23 y1.toNatClampNeg) = 0) → R σ) ∧ (((σ 23 y1.toNatClampNeg) = 0) → (vp_in y1 4 ∧ (∀ σ8 : MS, σ8 = up2 σ 23 y1.toNatClampNeg (vp_nar .boolean 1) → (vp_in y1 4 ∧ (∃ P10 : MS → Prop, wM_send P10 σ8 y1 (σ8 20 y1.toNatClampNeg) 2 0 0 ∧ (∀ (u11 : MS), P10 u11 → R u11))))))))))))))
def wM_goOn (R : MS → Prop) (σ : MS) (x1 : Int32) : Prop :=
  (vp_in x1 4 ∧ (((¬ (σ 20 x1.toNatClampNeg) = x1) → wM_goOn_75 R σ x1) ∧ (((σ 20 x1.toNatClampNeg) = x1) → (vp_in (8 + x1) 12 ∧ ((((σ 8 (8 + x1).toNatClampNeg) = 2) → wM_goOn_75 R σ x1) ∧ ((¬ (σ 8 (8 + x1).toNatClampNeg) = 2) → (vp_in x1 4 ∧ ((((σ 21 x1.toNatClampNeg) ≤ 0) → wM_goOn_75 R σ x1) ∧ ((¬ (σ 21 x1.toNatClampNeg) ≤ 0) → (∃ P18 : Int32 → MS → Prop, wM_dequeue P18 σ x1 ∧ (∀ (r20 : Int32) (u19 : MS), P18 r20 u19 → (vp_in x1 4 ∧ (∀ σ22 : MS, σ22 = up2 u19 23 x1.toNatClampNeg (vp_nar .boolean 0) → (((¬ r20 = x1) → (vp_in x1 4 ∧ (∀ σ25 : MS, σ25 = up2 σ22 20 x1.toNatClampNeg r20 → (∃ P26 : MS → Prop, wM_send P26 σ25 x1 r20 2 1 0 ∧ (∀ (u27 : MS), P26 u27 → wM_goOn_75 R u27 x1))))) ∧ ((r20 = x1) → (∃ P28 : MS → Prop, wM_comeIn P28 σ22 2 x1 ∧ (∀ (u29 : MS), P28 u29 → wM_goOn_75 R u29 x1)))))))))))))))))
abbrev wsMo_goOn : List Cond := .code yMo_goOn cMo_goOn 3 none :: wg
abbrev rmM_goOn : Room := { frames := 1, cells := 0, slots := 0, locals := 27 }
set_option maxHeartbeats 4000000 in
set_option maxRecDepth 100000 in
theorem kM_goOn (l : Launch) (D : va_G) (a : Nat → Nat) (A : Nat → Prop) (tI tZ : ClassId) (σ : MS) (x1 : Int32) (R : MS → Prop) (hwp : wM_goOn R σ x1) : Met l yMo_goOn wsMo_goOn rmM_goOn (va_Pc [.ref (a 0), .int x1] (uI D clA (mT tI tZ) A false (mw a tI tZ) σ)) (va_Qv R (uI D clA (mT tI tZ) A false (mw a tI tZ)) A) 0 0 A := by
  refine Met.ofW (cc := cMo_goOn) (maxL := 3) (ret := none) (by decide) rfl ?_
  intro p e s m args below meth c s₁ B hml hv
  obtain ⟨rfl, hP, hK, hD, hA⟩ := hv
  have hx := B.exec
  have hb := B.bytes
  have hr := B.returns
  have hts := atoms_spec (ws := wsMo_goOn) B.pre
  have hown : s.vm.findClass RMo = some m.cls := findClass_of_methodNamed B.named
  have hlocks := B.notSynchronized
  have hin0 : ∀ w ∈ u_ws RMo TMo 33, w ∈ wsMo_goOn := fun w h => List.mem_cons_of_mem _ (inMo w h)
  have k32 := hts _ (List.mem_cons_of_mem _ wm_744)
  have k56 := hts _ (List.mem_cons_of_mem _ wm_756)
  have k59 := hts _ (List.mem_cons_of_mem _ wm_757)
  have k65 := hts _ (List.mem_cons_of_mem _ wm_759)
  have hS : va_S A s.heap s.heap [] := va_S.rf
  have cut75 : ∀ (σ : MS) (y1 : Int32) (H : Heap) (locs : List Loc) (ls : Array Slot), wM_goOn_75 R σ y1 → va_P D clA (mw a tI tZ σ) H → va_D A (mw a tI tZ σ) → va_S A s.heap H locs → lv_has ls 3 [(0, .ref (a 0)), (1, .int y1)] → W p l e (headSpec wsMo_goOn rmM_goOn).room s m ([.ref (a 0), .int x1] : List Value).toArray below meth c H locs 0 0 (MQ below (va_Qv R (uI D clA (mT tI tZ) A false (mw a tI tZ)) A) ([.ref (a 0), .int x1] : List Value).toArray s 0 0 A) (F0 m 75 ls []) := by
    intro σ y1 H locs ls hwp hP hD hS hl
    refine lv_aload_n hx hb dMo_goOn_75 rfl (lv_at hl 0 rfl) ?_
    refine va_get (D := D) (ci := 0) (C := RMo) (T := TMo) (N := 33) hx hb hts hin0 hown hK hP 0 rfl rfl 20 (by decide) k56 (fun _ h9 => h9) rfl dMo_goOn_76 ?_
    refine lv_iload_n hx hb dMo_goOn_79 rfl (lv_at hl 1 rfl) ?_
    obtain ⟨hi1, hwp⟩ := hwp
    refine va_iald hx hb hK hP 15 0 rfl rfl hi1 dMo_goOn_80 ?_
    refine lv_iload_n hx hb dMo_goOn_81 rfl (lv_at hl 1 rfl) ?_
    refine lv_icmp_eq hx hb dMo_goOn_82 rfl (fun h2 => ?_) (fun h2 => ?_)
    · have hwp := hwp.1 h2
      exact W.vret hx hb hr (fun t ht hW => ⟨⟨σ, rfl, hwp, uEnd ht hW hP hK hD hS hA⟩, hS.F ht⟩) hS.2.2 dMo_goOn_124
    · have hwp := hwp.2 h2
      refine lv_aload_n hx hb dMo_goOn_85 rfl (lv_at hl 0 rfl) ?_
      refine va_get (D := D) (ci := 0) (C := RMo) (T := TMo) (N := 33) hx hb hts hin0 hown hK hP 0 rfl rfl 21 (by decide) k59 (fun _ h9 => h9) rfl dMo_goOn_86 ?_
      refine lv_iload_n hx hb dMo_goOn_89 rfl (lv_at hl 1 rfl) ?_
      obtain ⟨hi3, hwp⟩ := hwp
      refine va_iald hx hb hK hP 16 0 rfl rfl hi3 dMo_goOn_90 ?_
      refine lv_if_le hx hb dMo_goOn_91 rfl (fun h4 => ?_) (fun h4 => ?_)
      · have hwp := hwp.1 h4
        exact W.vret hx hb hr (fun t ht hW => ⟨⟨σ, rfl, hwp, uEnd ht hW hP hK hD hS hA⟩, hS.F ht⟩) hS.2.2 dMo_goOn_124
      · have hwp := hwp.2 h4
        refine lv_aload_n hx hb dMo_goOn_94 rfl (lv_at hl 0 rfl) ?_
        refine va_get (D := D) (ci := 0) (C := RMo) (T := TMo) (N := 33) hx hb hts hin0 hown hK hP 0 rfl rfl 23 (by decide) k65 (fun _ h9 => h9) rfl dMo_goOn_95 ?_
        refine lv_iload_n hx hb dMo_goOn_98 rfl (lv_at hl 1 rfl) ?_
        obtain ⟨hi5, hwp⟩ := hwp
        refine va_zald hx hb hK hP 18 1 rfl rfl hi5 dMo_goOn_99 ?_
        refine lv_if_ne hx hb dMo_goOn_100 rfl (fun h6 => ?_) (fun h6 => ?_)
        · have hwp := hwp.1 h6
          exact W.vret hx hb hr (fun t ht hW => ⟨⟨σ, rfl, hwp, uEnd ht hW hP hK hD hS hA⟩, hS.F ht⟩) hS.2.2 dMo_goOn_124
        · have hwp := hwp.2 h6
          refine lv_aload_n hx hb dMo_goOn_103 rfl (lv_at hl 0 rfl) ?_
          refine va_get (D := D) (ci := 0) (C := RMo) (T := TMo) (N := 33) hx hb hts hin0 hown hK hP 0 rfl rfl 23 (by decide) k65 (fun _ h9 => h9) rfl dMo_goOn_104 ?_
          refine lv_iload_n hx hb dMo_goOn_107 rfl (lv_at hl 1 rfl) ?_
          refine lv_iconst (v := 1) hx hb dMo_goOn_108 (by decide) ?_
          obtain ⟨hi7, hwp⟩ := hwp
          refine va_zast hx hb hK hP hD hS 18 1 rfl rfl hi7 dMo_goOn_109 (fun H locs hP hD hS => ?_)
          obtain ⟨σ8, eσ8⟩ : ∃ z, z = up2 σ 23 y1.toNatClampNeg (vp_nar .boolean 1) := ⟨_, rfl⟩
          have hwp := hwp σ8 eσ8
          have hP : va_P D clA (mw a tI tZ σ8) H := by rw [eσ8]; exact hP
          have hD : va_D A (mw a tI tZ σ8) := by rw [eσ8]; exact hD
          refine lv_aload_n hx hb dMo_goOn_110 rfl (lv_at hl 0 rfl) ?_
          refine lv_iload_n hx hb dMo_goOn_111 rfl (lv_at hl 1 rfl) ?_
          refine lv_aload_n hx hb dMo_goOn_112 rfl (lv_at hl 0 rfl) ?_
          refine va_get (D := D) (ci := 0) (C := RMo) (T := TMo) (N := 33) hx hb hts hin0 hown hK hP 0 rfl rfl 20 (by decide) k56 (fun _ h9 => h9) rfl dMo_goOn_113 ?_
          refine lv_iload_n hx hb dMo_goOn_116 rfl (lv_at hl 1 rfl) ?_
          obtain ⟨hi9, hwp⟩ := hwp
          refine va_iald hx hb hK hP 15 0 rfl rfl hi9 dMo_goOn_117 ?_
          refine lv_iconst (v := 2) hx hb dMo_goOn_118 (by decide) ?_
          refine lv_iconst (v := 0) hx hb dMo_goOn_119 (by decide) ?_
          refine lv_iconst (v := 0) hx hb dMo_goOn_120 (by decide) ?_
          obtain ⟨P10, hP10, hwp⟩ := hwp
          refine uCallVv (As := [.int y1, .int (σ8 20 y1.toNatClampNeg), .int 2, .int 0, .int 0]) (rest := []) (C := RMo) ⟨hx, hb, hml, hown, hts⟩ (kM_send l D a A tI tZ σ8 y1 (σ8 20 y1.toNatClampNeg) 2 0 0 P10 hP10) (cwV 5 hts (gdV wm_858 wm_860 wp_18 wm_13 wm_861) rfl rfl rfl (by decide +kernel) ⟨Nat.le_of_ble_eq_true rfl, Nat.le_of_ble_eq_true rfl⟩) (va_recv (ci := 0) (q0 := 0) hK hP rfl rfl) hP hK hD hA hS rfl hl.1 rfl (Nat.le_of_ble_eq_true rfl) dMo_goOn_121 ⟨Nat.le_of_ble_eq_true rfl, Nat.le_of_ble_eq_true rfl⟩ (fun u11 H locs hu11 hP hD hS => ?_)
          have hwp := hwp u11 hu11
          exact W.vret hx hb hr (fun t ht hW => ⟨⟨u11, rfl, hwp, uEnd ht hW hP hK hD hS hA⟩, hS.F ht⟩) hS.2.2 dMo_goOn_124
  have hl := lv_entry ([.ref (a 0), .int x1]) (n := 3) (Nat.le_of_ble_eq_true rfl)
  rw [lg_entry_eq]
  generalize (lg_sl ([.ref (a 0), .int x1]) ++ List.replicate (3 - (lg_sl ([.ref (a 0), .int x1])).length) Slot.unset).toArray = ls at hl ⊢
  have hl : lv_has ls 3 [(0, .ref (a 0)), (1, .int x1)] := hl
  refine lv_aload_n hx hb dMo_goOn_0 rfl (lv_at hl 0 rfl) ?_
  refine va_get (D := D) (ci := 0) (C := RMo) (T := TMo) (N := 33) hx hb hts hin0 hown hK hP 0 rfl rfl 20 (by decide) k56 (fun _ h9 => h9) rfl dMo_goOn_1 ?_
  refine lv_iload_n hx hb dMo_goOn_4 rfl (lv_at hl 1 rfl) ?_
  obtain ⟨hi12, hwp⟩ := hwp
  refine va_iald hx hb hK hP 15 0 rfl rfl hi12 dMo_goOn_5 ?_
  refine lv_iload_n hx hb dMo_goOn_6 rfl (lv_at hl 1 rfl) ?_
  refine lv_icmp_ne hx hb dMo_goOn_7 rfl (fun h13 => ?_) (fun h13 => ?_)
  · have hwp := hwp.1 h13
    exact cut75 σ x1 _ _ _ hwp hP hD hS (lv_sub hl [0, 1] rfl)
  · have hwp := hwp.2 h13
    refine lv_aload_n hx hb dMo_goOn_10 rfl (lv_at hl 0 rfl) ?_
    refine va_get (D := D) (ci := 0) (C := RMo) (T := TMo) (N := 33) hx hb hts hin0 hown hK hP 0 rfl rfl 8 (by decide) k32 (fun _ h9 => h9) rfl dMo_goOn_11 ?_
    refine lv_bipush (v := 8) hx hb dMo_goOn_14 (by decide) ?_
    refine lv_iload_n hx hb dMo_goOn_16 rfl (lv_at hl 1 rfl) ?_
    refine lv_iadd hx hb dMo_goOn_17 ?_
    obtain ⟨hi14, hwp⟩ := hwp
    refine va_iald hx hb hK hP 7 0 rfl rfl hi14 dMo_goOn_18 ?_
    refine lv_iconst (v := 2) hx hb dMo_goOn_19 (by decide) ?_
    refine lv_icmp_eq hx hb dMo_goOn_20 rfl (fun h15 => ?_) (fun h15 => ?_)
    · have hwp := hwp.1 h15
      exact cut75 σ x1 _ _ _ hwp hP hD hS (lv_sub hl [0, 1] rfl)
    · have hwp := hwp.2 h15
      refine lv_aload_n hx hb dMo_goOn_23 rfl (lv_at hl 0 rfl) ?_
      refine va_get (D := D) (ci := 0) (C := RMo) (T := TMo) (N := 33) hx hb hts hin0 hown hK hP 0 rfl rfl 21 (by decide) k59 (fun _ h9 => h9) rfl dMo_goOn_24 ?_
      refine lv_iload_n hx hb dMo_goOn_27 rfl (lv_at hl 1 rfl) ?_
      obtain ⟨hi16, hwp⟩ := hwp
      refine va_iald hx hb hK hP 16 0 rfl rfl hi16 dMo_goOn_28 ?_
      refine lv_if_le hx hb dMo_goOn_29 rfl (fun h17 => ?_) (fun h17 => ?_)
      · have hwp := hwp.1 h17
        exact cut75 σ x1 _ _ _ hwp hP hD hS (lv_sub hl [0, 1] rfl)
      · have hwp := hwp.2 h17
        refine lv_aload_n hx hb dMo_goOn_32 rfl (lv_at hl 0 rfl) ?_
        refine lv_iload_n hx hb dMo_goOn_33 rfl (lv_at hl 1 rfl) ?_
        obtain ⟨P18, hP18, hwp⟩ := hwp
        refine uCallVi (As := [.int x1]) (rest := []) (C := RMo) ⟨hx, hb, hml, hown, hts⟩ (kM_dequeue l D a A tI tZ σ x1 P18 hP18) (cwV 1 hts (gdV wm_882 wm_884 wp_24 wm_13 wm_885) rfl rfl rfl (by decide +kernel) ⟨Nat.le_of_ble_eq_true rfl, Nat.le_of_ble_eq_true rfl⟩) (va_recv (ci := 0) (q0 := 0) hK hP rfl rfl) hP hK hD hA hS rfl hl.1 rfl (Nat.le_of_ble_eq_true rfl) dMo_goOn_34 ⟨Nat.le_of_ble_eq_true rfl, Nat.le_of_ble_eq_true rfl⟩ (fun r20 u19 H locs hu19 hP hD hS => ?_)
        have hwp := hwp r20 u19 hu19
        refine lv_istore_n hx hb dMo_goOn_37 rfl hl (by decide) rfl (fun ls hl => ?_)
        have hl : lv_has ls 3 [(2, .int r20), (0, .ref (a 0)), (1, .int x1)] := hl
        refine lv_aload_n hx hb dMo_goOn_38 rfl (lv_at hl 1 rfl) ?_
        refine va_get (D := D) (ci := 0) (C := RMo) (T := TMo) (N := 33) hx hb hts hin0 hown hK hP 0 rfl rfl 23 (by decide) k65 (fun _ h9 => h9) rfl dMo_goOn_39 ?_
        refine lv_iload_n hx hb dMo_goOn_42 rfl (lv_at hl 2 rfl) ?_
        refine lv_iconst (v := 0) hx hb dMo_goOn_43 (by decide) ?_
        obtain ⟨hi21, hwp⟩ := hwp
        refine va_zast hx hb hK hP hD hS 18 1 rfl rfl hi21 dMo_goOn_44 (fun H locs hP hD hS => ?_)
        obtain ⟨σ22, eσ22⟩ : ∃ z, z = up2 u19 23 x1.toNatClampNeg (vp_nar .boolean 0) := ⟨_, rfl⟩
        have hwp := hwp σ22 eσ22
        have hP : va_P D clA (mw a tI tZ σ22) H := by rw [eσ22]; exact hP
        have hD : va_D A (mw a tI tZ σ22) := by rw [eσ22]; exact hD
        refine lv_iload_n hx hb dMo_goOn_45 rfl (lv_at hl 0 rfl) ?_
        refine lv_iload_n hx hb dMo_goOn_46 rfl (lv_at hl 2 rfl) ?_
        refine lv_icmp_ne hx hb dMo_goOn_47 rfl (fun h23 => ?_) (fun h23 => ?_)
        · have hwp := hwp.1 h23
          refine lv_aload_n hx hb dMo_goOn_59 rfl (lv_at hl 1 rfl) ?_
          refine va_get (D := D) (ci := 0) (C := RMo) (T := TMo) (N := 33) hx hb hts hin0 hown hK hP 0 rfl rfl 20 (by decide) k56 (fun _ h9 => h9) rfl dMo_goOn_60 ?_
          refine lv_iload_n hx hb dMo_goOn_63 rfl (lv_at hl 2 rfl) ?_
          refine lv_iload_n hx hb dMo_goOn_64 rfl (lv_at hl 0 rfl) ?_
          obtain ⟨hi24, hwp⟩ := hwp
          refine va_iast hx hb hK hP hD hS 15 0 rfl rfl hi24 dMo_goOn_65 (fun H locs hP hD hS => ?_)
          obtain ⟨σ25, eσ25⟩ : ∃ z, z = up2 σ22 20 x1.toNatClampNeg r20 := ⟨_, rfl⟩
          have hwp := hwp σ25 eσ25
          have hP : va_P D clA (mw a tI tZ σ25) H := by rw [eσ25]; exact hP
          have hD : va_D A (mw a tI tZ σ25) := by rw [eσ25]; exact hD
          refine lv_aload_n hx hb dMo_goOn_66 rfl (lv_at hl 1 rfl) ?_
          refine lv_iload_n hx hb dMo_goOn_67 rfl (lv_at hl 2 rfl) ?_
          refine lv_iload_n hx hb dMo_goOn_68 rfl (lv_at hl 0 rfl) ?_
          refine lv_iconst (v := 2) hx hb dMo_goOn_69 (by decide) ?_
          refine lv_iconst (v := 1) hx hb dMo_goOn_70 (by decide) ?_
          refine lv_iconst (v := 0) hx hb dMo_goOn_71 (by decide) ?_
          obtain ⟨P26, hP26, hwp⟩ := hwp
          refine uCallVv (As := [.int x1, .int r20, .int 2, .int 1, .int 0]) (rest := []) (C := RMo) ⟨hx, hb, hml, hown, hts⟩ (kM_send l D a A tI tZ σ25 x1 r20 2 1 0 P26 hP26) (cwV 5 hts (gdV wm_858 wm_860 wp_18 wm_13 wm_861) rfl rfl rfl (by decide +kernel) ⟨Nat.le_of_ble_eq_true rfl, Nat.le_of_ble_eq_true rfl⟩) (va_recv (ci := 0) (q0 := 0) hK hP rfl rfl) hP hK hD hA hS rfl hl.1 rfl (Nat.le_of_ble_eq_true rfl) dMo_goOn_72 ⟨Nat.le_of_ble_eq_true rfl, Nat.le_of_ble_eq_true rfl⟩ (fun u27 H locs hu27 hP hD hS => ?_)
          have hwp := hwp u27 hu27
          exact cut75 u27 x1 _ _ _ hwp hP hD hS (lv_sub hl [1, 2] rfl)
        · have hwp := hwp.2 h23
          refine lv_aload_n hx hb dMo_goOn_50 rfl (lv_at hl 1 rfl) ?_
          refine lv_iconst (v := 2) hx hb dMo_goOn_51 (by decide) ?_
          refine lv_iload_n hx hb dMo_goOn_52 rfl (lv_at hl 2 rfl) ?_
          obtain ⟨P28, hP28, hwp⟩ := hwp
          refine uCallVv (As := [.int 2, .int x1]) (rest := []) (C := RMo) ⟨hx, hb, hml, hown, hts⟩ (kM_comeIn l D a A tI tZ σ22 2 x1 P28 hP28) (cwV 2 hts (gdV wm_854 wm_856 wp_17 wm_13 wm_857) rfl rfl rfl (by decide +kernel) ⟨Nat.le_of_ble_eq_true rfl, Nat.le_of_ble_eq_true rfl⟩) (va_recv (ci := 0) (q0 := 0) hK hP rfl rfl) hP hK hD hA hS rfl hl.1 rfl (Nat.le_of_ble_eq_true rfl) dMo_goOn_53 ⟨Nat.le_of_ble_eq_true rfl, Nat.le_of_ble_eq_true rfl⟩ (fun u29 H locs hu29 hP hD hS => ?_)
          have hwp := hwp u29 hu29
          refine lv_goto hx hb dMo_goOn_56 rfl ?_
          exact cut75 u29 x1 _ _ _ hwp hP hD hS (lv_sub hl [1, 2] rfl)
-- private void passToken(int)
def wM_passToken_127_step (K127 : MS → Int32 → Int32 → Int32 → Prop) (R : MS → Prop) (σ : MS) (y1 : Int32) (y2 : Int32) (y3 : Int32) : Prop :=
  ((((σ 18 0) ≤ y3) → (∀ σ2 : MS, σ2 = up2 σ 17 0 (-1) → (∃ P3 : MS → Prop, wM_send P3 σ2 y1 y2 1 1 0 ∧ (∀ (u4 : MS), P3 u4 → R u4)))) ∧ ((¬ (σ 18 0) ≤ y3) → (vp_in (y3 + 1) 4 ∧ (vp_in y3 4 ∧ (∀ σ7 : MS, σ7 = up2 σ 19 y3.toNatClampNeg (σ 19 (y3 + 1).toNatClampNeg) → K127 σ7 y1 y2 (y3 + 1))))))
def wM_passToken_127 (R : MS → Prop) : Nat → MS → Int32 → Int32 → Int32 → Prop
  | 0 => fun _ _ _ _ => False
  | k + 1 => fun σ y1 y2 y3 => wM_passToken_127_step  (wM_passToken_127  R k) R σ y1 y2 y3
def wM_passToken_95 (K16 : MS → Int32 → Int32 → Prop) (R : MS → Prop) (σ : MS) (y1 : Int32) (y2 : Int32) (y3 : Int32) (y4 : Int32) : Prop :=
  K16 σ y1 (y2 + 1)
def wM_passToken_55 (K16 : MS → Int32 → Int32 → Prop) (K26 : MS → Int32 → Int32 → Int32 → Int32 → Prop) (R : MS → Prop) (σ : MS) (y1 : Int32) (y2 : Int32) (y3 : Int32) (y4 : Int32) (z0 : Int32) : Prop :=
  K26 σ y1 y2 z0 (y4 + 1)
def wM_passToken_50 (K16 : MS → Int32 → Int32 → Prop) (K26 : MS → Int32 → Int32 → Int32 → Int32 → Prop) (R : MS → Prop) (σ : MS) (y1 : Int32) (y2 : Int32) (y3 : Int32) (y4 : Int32) : Prop :=
  wM_passToken_55 K16 K26 R σ y1 y2 y3 y4 1
def wM_passToken_26_step (K16 : MS → Int32 → Int32 → Prop) (K26 : MS → Int32 → Int32 → Int32 → Int32 → Prop) (R : MS → Prop) (σ : MS) (y1 : Int32) (y2 : Int32) (y3 : Int32) (y4 : Int32) : Prop :=
  ((((σ 18 0) ≤ y4) → (((¬ y3 = 0) → wM_passToken_95 K16 R σ y1 y2 y3 y4) ∧ ((y3 = 0) → (∃ P10 : Int32 → MS → Prop, wM_isDue P10 σ y1 y2 ∧ (∀ (r12 : Int32) (u11 : MS), P10 r12 u11 → (((r12 = 0) → wM_passToken_95 K16 R u11 y1 y2 y3 y4) ∧ ((¬ r12 = 0) → (vp_in (u11 18 0) 4 ∧ (∀ σ15 : MS, σ15 = up2 u11 19 (u11 18 0).toNatClampNeg y2 → (∀ σ16 : MS, σ16 = up2 σ15 18 0 ((σ15 18 0) + 1) → wM_passToken_95 K16 R σ16 y1 y2 y3 y4)))))))))) ∧ ((¬ (σ 18 0) ≤ y4) → (((¬ y3 = 0) → wM_passToken_50 K16 K26 R σ y1 y2 y3 y4) ∧ ((y3 = 0) → (vp_in y4 4 ∧ (((¬ (σ 19 y4.toNatClampNeg) = y2) → wM_passToken_55 K16 K26 R σ y1 y2 y3 y4 0) ∧ (((σ 19 y4.toNatClampNeg) = y2) → wM_passToken_50 K16 K26 R σ y1 y2 y3 y4)))))))
def wM_passToken_26 (K16 : MS → Int32 → Int32 → Prop) (R : MS → Prop) : Nat → MS → Int32 → Int32 → Int32 → Int32 → Prop
  | 0 => fun _ _ _ _ _ => False
  | k + 1 => fun σ y1 y2 y3 y4 => wM_passToken_26_step K16 (wM_passToken_26 K16 R k) R σ y1 y2 y3 y4
def wM_passToken_16_step (K16 : MS → Int32 → Int32 → Prop) (R : MS → Prop) (σ : MS) (y1 : Int32) (y2 : Int32) : Prop :=
  (((4 ≤ y2) → ((((σ 18 0) ≤ 0) → R σ) ∧ ((¬ (σ 18 0) ≤ 0) → (∀ v22 : Int32, v22 = σ 19 (0 : Int32).toNatClampNeg → (∀ σ23 : MS, σ23 = up2 σ 18 0 ((σ 18 0) - 1) → wM_passToken_127 R 5 σ23 y1 v22 0))))) ∧ ((¬ 4 ≤ y2) → wM_passToken_26 K16 R 5 σ y1 y2 0 0))
def wM_passToken_16 (R : MS → Prop) : Nat → MS → Int32 → Int32 → Prop
  | 0 => fun _ _ _ => False
  | k + 1 => fun σ y1 y2 => wM_passToken_16_step  (wM_passToken_16  R k) R σ y1 y2
def wM_passToken (R : MS → Prop) (σ : MS) (x1 : Int32) : Prop :=
  (vp_in (5 * x1) 16 ∧ (vp_in x1 4 ∧ (∀ σ26 : MS, σ26 = up2 σ 16 x1.toNatClampNeg (σ 15 (5 * x1).toNatClampNeg) → wM_passToken_16 R 5 σ26 x1 0)))
abbrev wsMo_passToken : List Cond := .code yMo_passToken cMo_passToken 5 none :: wg
abbrev rmM_passToken : Room := { frames := 1, cells := 0, slots := 0, locals := 27 }
set_option maxHeartbeats 4000000 in
set_option maxRecDepth 100000 in
theorem kM_passToken (l : Launch) (D : va_G) (a : Nat → Nat) (A : Nat → Prop) (tI tZ : ClassId) (σ : MS) (x1 : Int32) (R : MS → Prop) (hwp : wM_passToken R σ x1) : Met l yMo_passToken wsMo_passToken rmM_passToken (va_Pc [.ref (a 0), .int x1] (uI D clA (mT tI tZ) A false (mw a tI tZ) σ)) (va_Qv R (uI D clA (mT tI tZ) A false (mw a tI tZ)) A) 0 0 A := by
  refine Met.ofW (cc := cMo_passToken) (maxL := 5) (ret := none) (by decide) rfl ?_
  intro p e s m args below meth c s₁ B hml hv
  obtain ⟨rfl, hP, hK, hD, hA⟩ := hv
  have hx := B.exec
  have hb := B.bytes
  have hr := B.returns
  have hts := atoms_spec (ws := wsMo_passToken) B.pre
  have hown : s.vm.findClass RMo = some m.cls := findClass_of_methodNamed B.named
  have hlocks := B.notSynchronized
  have hin0 : ∀ w ∈ u_ws RMo TMo 33, w ∈ wsMo_passToken := fun w h => List.mem_cons_of_mem _ (inMo w h)
  have k134 := hts _ (List.mem_cons_of_mem _ wm_753)
  have k157 := hts _ (List.mem_cons_of_mem _ wm_754)
  have k47 := hts _ (List.mem_cons_of_mem _ wm_751)
  have k50 := hts _ (List.mem_cons_of_mem _ wm_752)
  have k53 := hts _ (List.mem_cons_of_mem _ wm_755)
  have hS : va_S A s.heap s.heap [] := va_S.rf
  have cut127 : ∀ (k127 : Nat) (σ : MS) (y1 : Int32) (y2 : Int32) (y3 : Int32) (H : Heap) (locs : List Loc) (ls : Array Slot), wM_passToken_127 R k127 σ y1 y2 y3 → va_P D clA (mw a tI tZ σ) H → va_D A (mw a tI tZ σ) → va_S A s.heap H locs → lv_has ls 5 [(0, .ref (a 0)), (1, .int y1), (2, .int y2), (3, .int y3)] → W p l e (headSpec wsMo_passToken rmM_passToken).room s m ([.ref (a 0), .int x1] : List Value).toArray below meth c H locs 0 0 (MQ below (va_Qv R (uI D clA (mT tI tZ) A false (mw a tI tZ)) A) ([.ref (a 0), .int x1] : List Value).toArray s 0 0 A) (F0 m 127 ls []) := by
    intro k127
    induction k127 with
    | zero => intro σ y1 y2 y3 H locs ls hwp hP hD hS hl; exact False.elim hwp
    | succ k127 ih127 =>
      intro σ y1 y2 y3 H locs ls hwp hP hD hS hl
      have hwp : wM_passToken_127_step (wM_passToken_127 R k127) R σ y1 y2 y3 := hwp
      refine lv_iload_n hx hb dMo_passToken_127 rfl (lv_at hl 3 rfl) ?_
      refine lv_aload_n hx hb dMo_passToken_128 rfl (lv_at hl 0 rfl) ?_
      refine va_get (D := D) (ci := 0) (C := RMo) (T := TMo) (N := 33) hx hb hts hin0 hown hK hP 0 rfl rfl 18 (by decide) k157 (fun _ h9 => h9) rfl dMo_passToken_129 ?_
      refine lv_icmp_ge hx hb dMo_passToken_132 rfl (fun h1 => ?_) (fun h1 => ?_)
      · have hwp := hwp.1 h1
        refine lv_aload_n hx hb dMo_passToken_155 rfl (lv_at hl 0 rfl) ?_
        refine lv_iconst (v := (-1)) hx hb dMo_passToken_156 (by decide) ?_
        refine va_put (ty := .int) (D := D) (ci := 0) (C := RMo) (T := TMo) (N := 33) hx hb hts hin0 tyMo tyMo_ok nmMo hown hK hP hD hS 0 rfl rfl 17 (by decide) k134 (fun _ h9 => h9) rfl (by decide +kernel) rfl rfl (Nat.le_of_ble_eq_true rfl) dMo_passToken_157 (fun H locs hP hD hS => ?_)
        obtain ⟨σ2, eσ2⟩ : ∃ z, z = up2 σ 17 0 (-1) := ⟨_, rfl⟩
        have hwp := hwp σ2 eσ2
        have hP : va_P D clA (mw a tI tZ σ2) H := by rw [eσ2]; exact hP
        have hD : va_D A (mw a tI tZ σ2) := by rw [eσ2]; exact hD
        refine lv_aload_n hx hb dMo_passToken_160 rfl (lv_at hl 0 rfl) ?_
        refine lv_iload_n hx hb dMo_passToken_161 rfl (lv_at hl 1 rfl) ?_
        refine lv_iload_n hx hb dMo_passToken_162 rfl (lv_at hl 2 rfl) ?_
        refine lv_iconst (v := 1) hx hb dMo_passToken_163 (by decide) ?_
        refine lv_iconst (v := 1) hx hb dMo_passToken_164 (by decide) ?_
        refine lv_iconst (v := 0) hx hb dMo_passToken_165 (by decide) ?_
        obtain ⟨P3, hP3, hwp⟩ := hwp
        refine uCallVv (As := [.int y1, .int y2, .int 1, .int 1, .int 0]) (rest := []) (C := RMo) ⟨hx, hb, hml, hown, hts⟩ (kM_send l D a A tI tZ σ2 y1 y2 1 1 0 P3 hP3) (cwV 5 hts (gdV wm_858 wm_860 wp_18 wm_13 wm_861) rfl rfl rfl (by decide +kernel) ⟨Nat.le_of_ble_eq_true rfl, Nat.le_of_ble_eq_true rfl⟩) (va_recv (ci := 0) (q0 := 0) hK hP rfl rfl) hP hK hD hA hS rfl hl.1 rfl (Nat.le_of_ble_eq_true rfl) dMo_passToken_166 ⟨Nat.le_of_ble_eq_true rfl, Nat.le_of_ble_eq_true rfl⟩ (fun u4 H locs hu4 hP hD hS => ?_)
        have hwp := hwp u4 hu4
        exact W.vret hx hb hr (fun t ht hW => ⟨⟨u4, rfl, hwp, uEnd ht hW hP hK hD hS hA⟩, hS.F ht⟩) hS.2.2 dMo_passToken_169
      · have hwp := hwp.2 h1
        refine lv_aload_n hx hb dMo_passToken_135 rfl (lv_at hl 0 rfl) ?_
        refine va_get (D := D) (ci := 0) (C := RMo) (T := TMo) (N := 33) hx hb hts hin0 hown hK hP 0 rfl rfl 19 (by decide) k53 (fun _ h9 => h9) rfl dMo_passToken_136 ?_
        refine lv_iload_n hx hb dMo_passToken_139 rfl (lv_at hl 3 rfl) ?_
        refine lv_aload_n hx hb dMo_passToken_140 rfl (lv_at hl 0 rfl) ?_
        refine va_get (D := D) (ci := 0) (C := RMo) (T := TMo) (N := 33) hx hb hts hin0 hown hK hP 0 rfl rfl 19 (by decide) k53 (fun _ h9 => h9) rfl dMo_passToken_141 ?_
        refine lv_iload_n hx hb dMo_passToken_144 rfl (lv_at hl 3 rfl) ?_
        refine lv_iconst (v := 1) hx hb dMo_passToken_145 (by decide) ?_
        refine lv_iadd hx hb dMo_passToken_146 ?_
        obtain ⟨hi5, hwp⟩ := hwp
        refine va_iald hx hb hK hP 14 0 rfl rfl hi5 dMo_passToken_147 ?_
        obtain ⟨hi6, hwp⟩ := hwp
        refine va_iast hx hb hK hP hD hS 14 0 rfl rfl hi6 dMo_passToken_148 (fun H locs hP hD hS => ?_)
        obtain ⟨σ7, eσ7⟩ : ∃ z, z = up2 σ 19 y3.toNatClampNeg (σ 19 (y3 + 1).toNatClampNeg) := ⟨_, rfl⟩
        have hwp := hwp σ7 eσ7
        have hP : va_P D clA (mw a tI tZ σ7) H := by rw [eσ7]; exact hP
        have hD : va_D A (mw a tI tZ σ7) := by rw [eσ7]; exact hD
        refine lv_iinc (k := 3) hx hb dMo_passToken_149 hl rfl (fx_inc1 _) (by decide) rfl (fun ls hl => ?_)
        have hl : lv_has ls 5 [(3, .int (y3 + 1)), (0, .ref (a 0)), (1, .int y1), (2, .int y2)] := hl
        refine lv_goto hx hb dMo_passToken_152 rfl ?_
        exact ih127 σ7 y1 y2 (y3 + 1) _ _ _ hwp hP hD hS (lv_sub hl [1, 2, 3, 0] rfl)
  have cut16 : ∀ (k16 : Nat) (σ : MS) (y1 : Int32) (y2 : Int32) (H : Heap) (locs : List Loc) (ls : Array Slot), wM_passToken_16 R k16 σ y1 y2 → va_P D clA (mw a tI tZ σ) H → va_D A (mw a tI tZ σ) → va_S A s.heap H locs → lv_has ls 5 [(0, .ref (a 0)), (1, .int y1), (2, .int y2)] → W p l e (headSpec wsMo_passToken rmM_passToken).room s m ([.ref (a 0), .int x1] : List Value).toArray below meth c H locs 0 0 (MQ below (va_Qv R (uI D clA (mT tI tZ) A false (mw a tI tZ)) A) ([.ref (a 0), .int x1] : List Value).toArray s 0 0 A) (F0 m 16 ls []) := by
    intro k16
    induction k16 with
    | zero => intro σ y1 y2 H locs ls hwp hP hD hS hl; exact False.elim hwp
    | succ k16 ih16 =>
      intro σ y1 y2 H locs ls hwp hP hD hS hl
      have cut95 : ∀ (σ : MS) (y1 : Int32) (y2 : Int32) (y3 : Int32) (y4 : Int32) (H : Heap) (locs : List Loc) (ls : Array Slot), wM_passToken_95 (wM_passToken_16 R k16) R σ y1 y2 y3 y4 → va_P D clA (mw a tI tZ σ) H → va_D A (mw a tI tZ σ) → va_S A s.heap H locs → lv_has ls 5 [(0, .ref (a 0)), (1, .int y1), (2, .int y2), (3, .int y3), (4, .int y4)] → W p l e (headSpec wsMo_passToken rmM_passToken).room s m ([.ref (a 0), .int x1] : List Value).toArray below meth c H locs 0 0 (MQ below (va_Qv R (uI D clA (mT tI tZ) A false (mw a tI tZ)) A) ([.ref (a 0), .int x1] : List Value).toArray s 0 0 A) (F0 m 95 ls []) := by
        intro σ y1 y2 y3 y4 H locs ls hwp hP hD hS hl
        refine lv_iinc (k := 2) hx hb dMo_passToken_95 hl rfl (fx_inc1 _) (by decide) rfl (fun ls hl => ?_)
        have hl : lv_has ls 5 [(2, .int (y2 + 1)), (0, .ref (a 0)), (1, .int y1), (3, .int y3), (4, .int y4)] := hl
        refine lv_goto hx hb dMo_passToken_98 rfl ?_
        exact ih16 σ y1 (y2 + 1) _ _ _ hwp hP hD hS (lv_sub hl [1, 2, 0] rfl)
      have cut26 : ∀ (k26 : Nat) (σ : MS) (y1 : Int32) (y2 : Int32) (y3 : Int32) (y4 : Int32) (H : Heap) (locs : List Loc) (ls : Array Slot), wM_passToken_26 (wM_passToken_16 R k16) R k26 σ y1 y2 y3 y4 → va_P D clA (mw a tI tZ σ) H → va_D A (mw a tI tZ σ) → va_S A s.heap H locs → lv_has ls 5 [(0, .ref (a 0)), (1, .int y1), (2, .int y2), (3, .int y3), (4, .int y4)] → W p l e (headSpec wsMo_passToken rmM_passToken).room s m ([.ref (a 0), .int x1] : List Value).toArray below meth c H locs 0 0 (MQ below (va_Qv R (uI D clA (mT tI tZ) A false (mw a tI tZ)) A) ([.ref (a 0), .int x1] : List Value).toArray s 0 0 A) (F0 m 26 ls []) := by
        intro k26
        induction k26 with
        | zero => intro σ y1 y2 y3 y4 H locs ls hwp hP hD hS hl; exact False.elim hwp
        | succ k26 ih26 =>
          intro σ y1 y2 y3 y4 H locs ls hwp hP hD hS hl
          have cut55 : ∀ (σ : MS) (y1 : Int32) (y2 : Int32) (y3 : Int32) (y4 : Int32) (z0 : Int32) (H : Heap) (locs : List Loc) (ls : Array Slot), wM_passToken_55 (wM_passToken_16 R k16) (wM_passToken_26 (wM_passToken_16 R k16) R k26) R σ y1 y2 y3 y4 z0 → va_P D clA (mw a tI tZ σ) H → va_D A (mw a tI tZ σ) → va_S A s.heap H locs → lv_has ls 5 [(0, .ref (a 0)), (1, .int y1), (2, .int y2), (3, .int y3), (4, .int y4)] → W p l e (headSpec wsMo_passToken rmM_passToken).room s m ([.ref (a 0), .int x1] : List Value).toArray below meth c H locs 0 0 (MQ below (va_Qv R (uI D clA (mT tI tZ) A false (mw a tI tZ)) A) ([.ref (a 0), .int x1] : List Value).toArray s 0 0 A) (F0 m 55 ls [.int z0]) := by
            intro σ y1 y2 y3 y4 z0 H locs ls hwp hP hD hS hl
            refine lv_istore_n hx hb dMo_passToken_55 rfl hl (by decide) rfl (fun ls hl => ?_)
            have hl : lv_has ls 5 [(3, .int z0), (0, .ref (a 0)), (1, .int y1), (2, .int y2), (4, .int y4)] := hl
            refine lv_iinc (k := 4) hx hb dMo_passToken_56 hl rfl (fx_inc1 _) (by decide) rfl (fun ls hl => ?_)
            have hl : lv_has ls 5 [(4, .int (y4 + 1)), (3, .int z0), (0, .ref (a 0)), (1, .int y1), (2, .int y2)] := hl
            refine lv_goto hx hb dMo_passToken_59 rfl ?_
            exact ih26 σ y1 y2 z0 (y4 + 1) _ _ _ hwp hP hD hS (lv_sub hl [2, 3, 4, 1, 0] rfl)
          have cut50 : ∀ (σ : MS) (y1 : Int32) (y2 : Int32) (y3 : Int32) (y4 : Int32) (H : Heap) (locs : List Loc) (ls : Array Slot), wM_passToken_50 (wM_passToken_16 R k16) (wM_passToken_26 (wM_passToken_16 R k16) R k26) R σ y1 y2 y3 y4 → va_P D clA (mw a tI tZ σ) H → va_D A (mw a tI tZ σ) → va_S A s.heap H locs → lv_has ls 5 [(0, .ref (a 0)), (1, .int y1), (2, .int y2), (3, .int y3), (4, .int y4)] → W p l e (headSpec wsMo_passToken rmM_passToken).room s m ([.ref (a 0), .int x1] : List Value).toArray below meth c H locs 0 0 (MQ below (va_Qv R (uI D clA (mT tI tZ) A false (mw a tI tZ)) A) ([.ref (a 0), .int x1] : List Value).toArray s 0 0 A) (F0 m 50 ls []) := by
            intro σ y1 y2 y3 y4 H locs ls hwp hP hD hS hl
            refine lv_iconst (v := 1) hx hb dMo_passToken_50 (by decide) ?_
            refine lv_goto hx hb dMo_passToken_51 rfl ?_
            exact cut55 σ y1 y2 y3 y4 1 _ _ _ hwp hP hD hS (lv_sub hl [0, 1, 2, 3, 4] rfl)
          have hwp : wM_passToken_26_step (wM_passToken_16 R k16) (wM_passToken_26 (wM_passToken_16 R k16) R k26) R σ y1 y2 y3 y4 := hwp
          refine lv_iload hx hb dMo_passToken_26 (lv_at hl 4 rfl) ?_
          refine lv_aload_n hx hb dMo_passToken_28 rfl (lv_at hl 0 rfl) ?_
          refine va_get (D := D) (ci := 0) (C := RMo) (T := TMo) (N := 33) hx hb hts hin0 hown hK hP 0 rfl rfl 18 (by decide) k157 (fun _ h9 => h9) rfl dMo_passToken_29 ?_
          refine lv_icmp_ge hx hb dMo_passToken_32 rfl (fun h8 => ?_) (fun h8 => ?_)
          · have hwp := hwp.1 h8
            refine lv_iload_n hx hb dMo_passToken_62 rfl (lv_at hl 3 rfl) ?_
            refine lv_if_ne hx hb dMo_passToken_63 rfl (fun h9 => ?_) (fun h9 => ?_)
            · have hwp := hwp.1 h9
              exact cut95 σ y1 y2 y3 y4 _ _ _ hwp hP hD hS (lv_sub hl [0, 1, 2, 3, 4] rfl)
            · have hwp := hwp.2 h9
              refine lv_aload_n hx hb dMo_passToken_66 rfl (lv_at hl 0 rfl) ?_
              refine lv_iload_n hx hb dMo_passToken_67 rfl (lv_at hl 1 rfl) ?_
              refine lv_iload_n hx hb dMo_passToken_68 rfl (lv_at hl 2 rfl) ?_
              obtain ⟨P10, hP10, hwp⟩ := hwp
              refine uCallVi (As := [.int y1, .int y2]) (rest := []) (C := RMo) ⟨hx, hb, hml, hown, hts⟩ (kM_isDue l D a A tI tZ σ y1 y2 P10 hP10) (cwV 2 hts (gdV wm_866 wm_868 wp_20 wm_13 wm_869) rfl rfl rfl (by decide +kernel) ⟨Nat.le_of_ble_eq_true rfl, Nat.le_of_ble_eq_true rfl⟩) (va_recv (ci := 0) (q0 := 0) hK hP rfl rfl) hP hK hD hA hS rfl hl.1 rfl (Nat.le_of_ble_eq_true rfl) dMo_passToken_69 ⟨Nat.le_of_ble_eq_true rfl, Nat.le_of_ble_eq_true rfl⟩ (fun r12 u11 H locs hu11 hP hD hS => ?_)
              have hwp := hwp r12 u11 hu11
              refine lv_if_eq hx hb dMo_passToken_72 rfl (fun h13 => ?_) (fun h13 => ?_)
              · have hwp := hwp.1 h13
                exact cut95 u11 y1 y2 y3 y4 _ _ _ hwp hP hD hS (lv_sub hl [0, 1, 2, 3, 4] rfl)
              · have hwp := hwp.2 h13
                refine lv_aload_n hx hb dMo_passToken_75 rfl (lv_at hl 0 rfl) ?_
                refine va_get (D := D) (ci := 0) (C := RMo) (T := TMo) (N := 33) hx hb hts hin0 hown hK hP 0 rfl rfl 19 (by decide) k53 (fun _ h9 => h9) rfl dMo_passToken_76 ?_
                refine lv_aload_n hx hb dMo_passToken_79 rfl (lv_at hl 0 rfl) ?_
                refine va_get (D := D) (ci := 0) (C := RMo) (T := TMo) (N := 33) hx hb hts hin0 hown hK hP 0 rfl rfl 18 (by decide) k157 (fun _ h9 => h9) rfl dMo_passToken_80 ?_
                refine lv_iload_n hx hb dMo_passToken_83 rfl (lv_at hl 2 rfl) ?_
                obtain ⟨hi14, hwp⟩ := hwp
                refine va_iast hx hb hK hP hD hS 14 0 rfl rfl hi14 dMo_passToken_84 (fun H locs hP hD hS => ?_)
                obtain ⟨σ15, eσ15⟩ : ∃ z, z = up2 u11 19 (u11 18 0).toNatClampNeg y2 := ⟨_, rfl⟩
                have hwp := hwp σ15 eσ15
                have hP : va_P D clA (mw a tI tZ σ15) H := by rw [eσ15]; exact hP
                have hD : va_D A (mw a tI tZ σ15) := by rw [eσ15]; exact hD
                refine lv_aload_n hx hb dMo_passToken_85 rfl (lv_at hl 0 rfl) ?_
                refine lv_dup hx hb dMo_passToken_86 rfl ?_
                refine va_get (D := D) (ci := 0) (C := RMo) (T := TMo) (N := 33) hx hb hts hin0 hown hK hP 0 rfl rfl 18 (by decide) k157 (fun _ h9 => h9) rfl dMo_passToken_87 ?_
                refine lv_iconst (v := 1) hx hb dMo_passToken_90 (by decide) ?_
                refine lv_iadd hx hb dMo_passToken_91 ?_
                refine va_put (ty := .int) (D := D) (ci := 0) (C := RMo) (T := TMo) (N := 33) hx hb hts hin0 tyMo tyMo_ok nmMo hown hK hP hD hS 0 rfl rfl 18 (by decide) k157 (fun _ h9 => h9) rfl (by decide +kernel) rfl rfl (Nat.le_of_ble_eq_true rfl) dMo_passToken_92 (fun H locs hP hD hS => ?_)
                obtain ⟨σ16, eσ16⟩ : ∃ z, z = up2 σ15 18 0 ((σ15 18 0) + 1) := ⟨_, rfl⟩
                have hwp := hwp σ16 eσ16
                have hP : va_P D clA (mw a tI tZ σ16) H := by rw [eσ16]; exact hP
                have hD : va_D A (mw a tI tZ σ16) := by rw [eσ16]; exact hD
                exact cut95 σ16 y1 y2 y3 y4 _ _ _ hwp hP hD hS (lv_sub hl [0, 1, 2, 3, 4] rfl)
          · have hwp := hwp.2 h8
            refine lv_iload_n hx hb dMo_passToken_35 rfl (lv_at hl 3 rfl) ?_
            refine lv_if_ne hx hb dMo_passToken_36 rfl (fun h17 => ?_) (fun h17 => ?_)
            · have hwp := hwp.1 h17
              exact cut50 σ y1 y2 y3 y4 _ _ _ hwp hP hD hS (lv_sub hl [0, 1, 2, 3, 4] rfl)
            · have hwp := hwp.2 h17
              refine lv_aload_n hx hb dMo_passToken_39 rfl (lv_at hl 0 rfl) ?_
              refine va_get (D := D) (ci := 0) (C := RMo) (T := TMo) (N := 33) hx hb hts hin0 hown hK hP 0 rfl rfl 19 (by decide) k53 (fun _ h9 => h9) rfl dMo_passToken_40 ?_
              refine lv_iload hx hb dMo_passToken_43 (lv_at hl 4 rfl) ?_
              obtain ⟨hi18, hwp⟩ := hwp
              refine va_iald hx hb hK hP 14 0 rfl rfl hi18 dMo_passToken_45 ?_
              refine lv_iload_n hx hb dMo_passToken_46 rfl (lv_at hl 2 rfl) ?_
              refine lv_icmp_ne hx hb dMo_passToken_47 rfl (fun h19 => ?_) (fun h19 => ?_)
              · have hwp := hwp.1 h19
                refine lv_iconst (v := 0) hx hb dMo_passToken_54 (by decide) ?_
                exact cut55 σ y1 y2 y3 y4 0 _ _ _ hwp hP hD hS (lv_sub hl [0, 1, 2, 3, 4] rfl)
              · have hwp := hwp.2 h19
                exact cut50 σ y1 y2 y3 y4 _ _ _ hwp hP hD hS (lv_sub hl [0, 1, 2, 3, 4] rfl)
      have hwp : wM_passToken_16_step (wM_passToken_16 R k16) R σ y1 y2 := hwp
      refine lv_iload_n hx hb dMo_passToken_16 rfl (lv_at hl 2 rfl) ?_
      refine lv_iconst (v := 4) hx hb dMo_passToken_17 (by decide) ?_
      refine lv_icmp_ge hx hb dMo_passToken_18 rfl (fun h20 => ?_) (fun h20 => ?_)
      · have hwp := hwp.1 h20
        refine lv_aload_n hx hb dMo_passToken_101 rfl (lv_at hl 0 rfl) ?_
        refine va_get (D := D) (ci := 0) (C := RMo) (T := TMo) (N := 33) hx hb hts hin0 hown hK hP 0 rfl rfl 18 (by decide) k157 (fun _ h9 => h9) rfl dMo_passToken_102 ?_
        refine lv_if_le hx hb dMo_passToken_105 rfl (fun h21 => ?_) (fun h21 => ?_)
        · have hwp := hwp.1 h21
          exact W.vret hx hb hr (fun t ht hW => ⟨⟨σ, rfl, hwp, uEnd ht hW hP hK hD hS hA⟩, hS.F ht⟩) hS.2.2 dMo_passToken_169
        · have hwp := hwp.2 h21
          refine lv_aload_n hx hb dMo_passToken_108 rfl (lv_at hl 0 rfl) ?_
          refine va_get (D := D) (ci := 0) (C := RMo) (T := TMo) (N := 33) hx hb hts hin0 hown hK hP 0 rfl rfl 19 (by decide) k53 (fun _ h9 => h9) rfl dMo_passToken_109 ?_
          refine lv_iconst (v := 0) hx hb dMo_passToken_112 (by decide) ?_
          refine va_iald hx hb hK hP 14 0 rfl rfl (by unfold vp_in; decide) dMo_passToken_113 ?_
          refine lv_topi (fun v22 ev22 => ?_)
          have hwp := hwp v22 ev22
          refine lv_istore_n hx hb dMo_passToken_114 rfl hl (by decide) rfl (fun ls hl => ?_)
          have hl : lv_has ls 5 [(2, .int v22), (0, .ref (a 0)), (1, .int y1)] := hl
          refine lv_aload_n hx hb dMo_passToken_115 rfl (lv_at hl 1 rfl) ?_
          refine lv_dup hx hb dMo_passToken_116 rfl ?_
          refine va_get (D := D) (ci := 0) (C := RMo) (T := TMo) (N := 33) hx hb hts hin0 hown hK hP 0 rfl rfl 18 (by decide) k157 (fun _ h9 => h9) rfl dMo_passToken_117 ?_
          refine lv_iconst (v := 1) hx hb dMo_passToken_120 (by decide) ?_
          refine lv_isub hx hb dMo_passToken_121 ?_
          refine va_put (ty := .int) (D := D) (ci := 0) (C := RMo) (T := TMo) (N := 33) hx hb hts hin0 tyMo tyMo_ok nmMo hown hK hP hD hS 0 rfl rfl 18 (by decide) k157 (fun _ h9 => h9) rfl (by decide +kernel) rfl rfl (Nat.le_of_ble_eq_true rfl) dMo_passToken_122 (fun H locs hP hD hS => ?_)
          obtain ⟨σ23, eσ23⟩ : ∃ z, z = up2 σ 18 0 ((σ 18 0) - 1) := ⟨_, rfl⟩
          have hwp := hwp σ23 eσ23
          have hP : va_P D clA (mw a tI tZ σ23) H := by rw [eσ23]; exact hP
          have hD : va_D A (mw a tI tZ σ23) := by rw [eσ23]; exact hD
          refine lv_iconst (v := 0) hx hb dMo_passToken_125 (by decide) ?_
          refine lv_istore_n hx hb dMo_passToken_126 rfl hl (by decide) rfl (fun ls hl => ?_)
          have hl : lv_has ls 5 [(3, .int 0), (2, .int v22), (0, .ref (a 0)), (1, .int y1)] := hl
          exact cut127 5 σ23 y1 v22 0 _ _ _ hwp hP hD hS (lv_sub hl [2, 3, 1, 0] rfl)
      · have hwp := hwp.2 h20
        refine lv_iconst (v := 0) hx hb dMo_passToken_21 (by decide) ?_
        refine lv_istore_n hx hb dMo_passToken_22 rfl hl (by decide) rfl (fun ls hl => ?_)
        have hl : lv_has ls 5 [(3, .int 0), (0, .ref (a 0)), (1, .int y1), (2, .int y2)] := hl
        refine lv_iconst (v := 0) hx hb dMo_passToken_23 (by decide) ?_
        refine lv_istore hx hb dMo_passToken_24 hl (by decide) rfl (fun ls hl => ?_)
        have hl : lv_has ls 5 [(4, .int 0), (3, .int 0), (0, .ref (a 0)), (1, .int y1), (2, .int y2)] := hl
        exact cut26 5 σ y1 y2 0 0 _ _ _ hwp hP hD hS (lv_sub hl [2, 3, 4, 1, 0] rfl)
  have hl := lv_entry ([.ref (a 0), .int x1]) (n := 5) (Nat.le_of_ble_eq_true rfl)
  rw [lg_entry_eq]
  generalize (lg_sl ([.ref (a 0), .int x1]) ++ List.replicate (5 - (lg_sl ([.ref (a 0), .int x1])).length) Slot.unset).toArray = ls at hl ⊢
  have hl : lv_has ls 5 [(0, .ref (a 0)), (1, .int x1)] := hl
  refine lv_aload_n hx hb dMo_passToken_0 rfl (lv_at hl 0 rfl) ?_
  refine va_get (D := D) (ci := 0) (C := RMo) (T := TMo) (N := 33) hx hb hts hin0 hown hK hP 0 rfl rfl 16 (by decide) k50 (fun _ h9 => h9) rfl dMo_passToken_1 ?_
  refine lv_iload_n hx hb dMo_passToken_4 rfl (lv_at hl 1 rfl) ?_
  refine lv_aload_n hx hb dMo_passToken_5 rfl (lv_at hl 0 rfl) ?_
  refine va_get (D := D) (ci := 0) (C := RMo) (T := TMo) (N := 33) hx hb hts hin0 hown hK hP 0 rfl rfl 15 (by decide) k47 (fun _ h9 => h9) rfl dMo_passToken_6 ?_
  refine lv_iconst (v := 5) hx hb dMo_passToken_9 (by decide) ?_
  refine lv_iload_n hx hb dMo_passToken_10 rfl (lv_at hl 1 rfl) ?_
  refine lv_imul hx hb dMo_passToken_11 ?_
  obtain ⟨hi24, hwp⟩ := hwp
  refine va_iald hx hb hK hP 12 0 rfl rfl hi24 dMo_passToken_12 ?_
  obtain ⟨hi25, hwp⟩ := hwp
  refine va_iast hx hb hK hP hD hS 13 0 rfl rfl hi25 dMo_passToken_13 (fun H locs hP hD hS => ?_)
  obtain ⟨σ26, eσ26⟩ : ∃ z, z = up2 σ 16 x1.toNatClampNeg (σ 15 (5 * x1).toNatClampNeg) := ⟨_, rfl⟩
  have hwp := hwp σ26 eσ26
  have hP : va_P D clA (mw a tI tZ σ26) H := by rw [eσ26]; exact hP
  have hD : va_D A (mw a tI tZ σ26) := by rw [eσ26]; exact hD
  refine lv_iconst (v := 0) hx hb dMo_passToken_14 (by decide) ?_
  refine lv_istore_n hx hb dMo_passToken_15 rfl hl (by decide) rfl (fun ls hl => ?_)
  have hl : lv_has ls 5 [(2, .int 0), (0, .ref (a 0)), (1, .int x1)] := hl
  exact cut16 5 σ26 x1 0 _ _ _ hwp hP hD hS (lv_sub hl [1, 2, 0] rfl)
-- private void settle(int)
def wM_settle (R : MS → Prop) (σ : MS) (x1 : Int32) : Prop :=
  (vp_in x1 4 ∧ (((¬ (σ 29 x1.toNatClampNeg) = 0) → R σ) ∧ (((σ 29 x1.toNatClampNeg) = 0) → (vp_in x1 4 ∧ ((((σ 31 x1.toNatClampNeg) ≤ 0) → (vp_in x1 4 ∧ ((((σ 30 x1.toNatClampNeg) < 0) → (((¬ (σ 27 0) = x1) → R σ) ∧ (((σ 27 0) = x1) → (∀ σ8 : MS, σ8 = up2 σ 27 0 (-1) → (∀ σ9 : MS, σ9 = up2 σ8 28 0 ((σ8 28 0) + 1) → R σ9))))) ∧ ((¬ (σ 30 x1.toNatClampNeg) < 0) → (vp_in x1 4 ∧ (∀ v11 : Int32, v11 = σ 30 x1.toNatClampNeg → (vp_in x1 4 ∧ (∀ σ13 : MS, σ13 = up2 σ 30 x1.toNatClampNeg (-1) → (∃ P14 : MS → Prop, wM_send P14 σ13 x1 v11 4 1 0 ∧ (∀ (u15 : MS), P14 u15 → R u15)))))))))) ∧ ((¬ (σ 31 x1.toNatClampNeg) ≤ 0) → R σ))))))
abbrev wsMo_settle : List Cond := .code yMo_settle cMo_settle 3 none :: wg
abbrev rmM_settle : Room := { frames := 1, cells := 0, slots := 0, locals := 27 }
set_option maxHeartbeats 4000000 in
set_option maxRecDepth 100000 in
theorem kM_settle (l : Launch) (D : va_G) (a : Nat → Nat) (A : Nat → Prop) (tI tZ : ClassId) (σ : MS) (x1 : Int32) (R : MS → Prop) (hwp : wM_settle R σ x1) : Met l yMo_settle wsMo_settle rmM_settle (va_Pc [.ref (a 0), .int x1] (uI D clA (mT tI tZ) A false (mw a tI tZ) σ)) (va_Qv R (uI D clA (mT tI tZ) A false (mw a tI tZ)) A) 0 0 A := by
  refine Met.ofW (cc := cMo_settle) (maxL := 3) (ret := none) (by decide) rfl ?_
  intro p e s m args below meth c s₁ B hml hv
  obtain ⟨rfl, hP, hK, hD, hA⟩ := hv
  have hx := B.exec
  have hb := B.bytes
  have hr := B.returns
  have hts := atoms_spec (ws := wsMo_settle) B.pre
  have hown : s.vm.findClass RMo = some m.cls := findClass_of_methodNamed B.named
  have hlocks := B.notSynchronized
  have hin0 : ∀ w ∈ u_ws RMo TMo 33, w ∈ wsMo_settle := fun w h => List.mem_cons_of_mem _ (inMo w h)
  have k164 := hts _ (List.mem_cons_of_mem _ wm_764)
  have k78 := hts _ (List.mem_cons_of_mem _ wm_763)
  have k81 := hts _ (List.mem_cons_of_mem _ wm_765)
  have k84 := hts _ (List.mem_cons_of_mem _ wm_766)
  have k87 := hts _ (List.mem_cons_of_mem _ wm_767)
  have hS : va_S A s.heap s.heap [] := va_S.rf
  have hl := lv_entry ([.ref (a 0), .int x1]) (n := 3) (Nat.le_of_ble_eq_true rfl)
  rw [lg_entry_eq]
  generalize (lg_sl ([.ref (a 0), .int x1]) ++ List.replicate (3 - (lg_sl ([.ref (a 0), .int x1])).length) Slot.unset).toArray = ls at hl ⊢
  have hl : lv_has ls 3 [(0, .ref (a 0)), (1, .int x1)] := hl
  refine lv_aload_n hx hb dMo_settle_0 rfl (lv_at hl 0 rfl) ?_
  refine va_get (D := D) (ci := 0) (C := RMo) (T := TMo) (N := 33) hx hb hts hin0 hown hK hP 0 rfl rfl 29 (by decide) k81 (fun _ h9 => h9) rfl dMo_settle_1 ?_
  refine lv_iload_n hx hb dMo_settle_4 rfl (lv_at hl 1 rfl) ?_
  obtain ⟨hi1, hwp⟩ := hwp
  refine va_zald hx hb hK hP 22 1 rfl rfl hi1 dMo_settle_5 ?_
  refine lv_if_ne hx hb dMo_settle_6 rfl (fun h2 => ?_) (fun h2 => ?_)
  · have hwp := hwp.1 h2
    exact W.vret hx hb hr (fun t ht hW => ⟨⟨σ, rfl, hwp, uEnd ht hW hP hK hD hS hA⟩, hS.F ht⟩) hS.2.2 dMo_settle_18
  · have hwp := hwp.2 h2
    refine lv_aload_n hx hb dMo_settle_9 rfl (lv_at hl 0 rfl) ?_
    refine va_get (D := D) (ci := 0) (C := RMo) (T := TMo) (N := 33) hx hb hts hin0 hown hK hP 0 rfl rfl 31 (by decide) k87 (fun _ h9 => h9) rfl dMo_settle_10 ?_
    refine lv_iload_n hx hb dMo_settle_13 rfl (lv_at hl 1 rfl) ?_
    obtain ⟨hi3, hwp⟩ := hwp
    refine va_iald hx hb hK hP 24 0 rfl rfl hi3 dMo_settle_14 ?_
    refine lv_if_le hx hb dMo_settle_15 rfl (fun h4 => ?_) (fun h4 => ?_)
    · have hwp := hwp.1 h4
      refine lv_aload_n hx hb dMo_settle_19 rfl (lv_at hl 0 rfl) ?_
      refine va_get (D := D) (ci := 0) (C := RMo) (T := TMo) (N := 33) hx hb hts hin0 hown hK hP 0 rfl rfl 30 (by decide) k84 (fun _ h9 => h9) rfl dMo_settle_20 ?_
      refine lv_iload_n hx hb dMo_settle_23 rfl (lv_at hl 1 rfl) ?_
      obtain ⟨hi5, hwp⟩ := hwp
      refine va_iald hx hb hK hP 23 0 rfl rfl hi5 dMo_settle_24 ?_
      refine lv_if_lt hx hb dMo_settle_25 rfl (fun h6 => ?_) (fun h6 => ?_)
      · have hwp := hwp.1 h6
        refine lv_aload_n hx hb dMo_settle_54 rfl (lv_at hl 0 rfl) ?_
        refine va_get (D := D) (ci := 0) (C := RMo) (T := TMo) (N := 33) hx hb hts hin0 hown hK hP 0 rfl rfl 27 (by decide) k78 (fun _ h9 => h9) rfl dMo_settle_55 ?_
        refine lv_iload_n hx hb dMo_settle_58 rfl (lv_at hl 1 rfl) ?_
        refine lv_icmp_ne hx hb dMo_settle_59 rfl (fun h7 => ?_) (fun h7 => ?_)
        · have hwp := hwp.1 h7
          exact W.vret hx hb hr (fun t ht hW => ⟨⟨σ, rfl, hwp, uEnd ht hW hP hK hD hS hA⟩, hS.F ht⟩) hS.2.2 dMo_settle_77
        · have hwp := hwp.2 h7
          refine lv_aload_n hx hb dMo_settle_62 rfl (lv_at hl 0 rfl) ?_
          refine lv_iconst (v := (-1)) hx hb dMo_settle_63 (by decide) ?_
          refine va_put (ty := .int) (D := D) (ci := 0) (C := RMo) (T := TMo) (N := 33) hx hb hts hin0 tyMo tyMo_ok nmMo hown hK hP hD hS 0 rfl rfl 27 (by decide) k78 (fun _ h9 => h9) rfl (by decide +kernel) rfl rfl (Nat.le_of_ble_eq_true rfl) dMo_settle_64 (fun H locs hP hD hS => ?_)
          obtain ⟨σ8, eσ8⟩ : ∃ z, z = up2 σ 27 0 (-1) := ⟨_, rfl⟩
          have hwp := hwp σ8 eσ8
          have hP : va_P D clA (mw a tI tZ σ8) H := by rw [eσ8]; exact hP
          have hD : va_D A (mw a tI tZ σ8) := by rw [eσ8]; exact hD
          refine lv_aload_n hx hb dMo_settle_67 rfl (lv_at hl 0 rfl) ?_
          refine lv_dup hx hb dMo_settle_68 rfl ?_
          refine va_get (D := D) (ci := 0) (C := RMo) (T := TMo) (N := 33) hx hb hts hin0 hown hK hP 0 rfl rfl 28 (by decide) k164 (fun _ h9 => h9) rfl dMo_settle_69 ?_
          refine lv_iconst (v := 1) hx hb dMo_settle_72 (by decide) ?_
          refine lv_iadd hx hb dMo_settle_73 ?_
          refine va_put (ty := .int) (D := D) (ci := 0) (C := RMo) (T := TMo) (N := 33) hx hb hts hin0 tyMo tyMo_ok nmMo hown hK hP hD hS 0 rfl rfl 28 (by decide) k164 (fun _ h9 => h9) rfl (by decide +kernel) rfl rfl (Nat.le_of_ble_eq_true rfl) dMo_settle_74 (fun H locs hP hD hS => ?_)
          obtain ⟨σ9, eσ9⟩ : ∃ z, z = up2 σ8 28 0 ((σ8 28 0) + 1) := ⟨_, rfl⟩
          have hwp := hwp σ9 eσ9
          have hP : va_P D clA (mw a tI tZ σ9) H := by rw [eσ9]; exact hP
          have hD : va_D A (mw a tI tZ σ9) := by rw [eσ9]; exact hD
          exact W.vret hx hb hr (fun t ht hW => ⟨⟨σ9, rfl, hwp, uEnd ht hW hP hK hD hS hA⟩, hS.F ht⟩) hS.2.2 dMo_settle_77
      · have hwp := hwp.2 h6
        refine lv_aload_n hx hb dMo_settle_28 rfl (lv_at hl 0 rfl) ?_
        refine va_get (D := D) (ci := 0) (C := RMo) (T := TMo) (N := 33) hx hb hts hin0 hown hK hP 0 rfl rfl 30 (by decide) k84 (fun _ h9 => h9) rfl dMo_settle_29 ?_
        refine lv_iload_n hx hb dMo_settle_32 rfl (lv_at hl 1 rfl) ?_
        obtain ⟨hi10, hwp⟩ := hwp
        refine va_iald hx hb hK hP 23 0 rfl rfl hi10 dMo_settle_33 ?_
        refine lv_topi (fun v11 ev11 => ?_)
        have hwp := hwp v11 ev11
        refine lv_istore_n hx hb dMo_settle_34 rfl hl (by decide) rfl (fun ls hl => ?_)
        have hl : lv_has ls 3 [(2, .int v11), (0, .ref (a 0)), (1, .int x1)] := hl
        refine lv_aload_n hx hb dMo_settle_35 rfl (lv_at hl 1 rfl) ?_
        refine va_get (D := D) (ci := 0) (C := RMo) (T := TMo) (N := 33) hx hb hts hin0 hown hK hP 0 rfl rfl 30 (by decide) k84 (fun _ h9 => h9) rfl dMo_settle_36 ?_
        refine lv_iload_n hx hb dMo_settle_39 rfl (lv_at hl 2 rfl) ?_
        refine lv_iconst (v := (-1)) hx hb dMo_settle_40 (by decide) ?_
        obtain ⟨hi12, hwp⟩ := hwp
        refine va_iast hx hb hK hP hD hS 23 0 rfl rfl hi12 dMo_settle_41 (fun H locs hP hD hS => ?_)
        obtain ⟨σ13, eσ13⟩ : ∃ z, z = up2 σ 30 x1.toNatClampNeg (-1) := ⟨_, rfl⟩
        have hwp := hwp σ13 eσ13
        have hP : va_P D clA (mw a tI tZ σ13) H := by rw [eσ13]; exact hP
        have hD : va_D A (mw a tI tZ σ13) := by rw [eσ13]; exact hD
        refine lv_aload_n hx hb dMo_settle_42 rfl (lv_at hl 1 rfl) ?_
        refine lv_iload_n hx hb dMo_settle_43 rfl (lv_at hl 2 rfl) ?_
        refine lv_iload_n hx hb dMo_settle_44 rfl (lv_at hl 0 rfl) ?_
        refine lv_iconst (v := 4) hx hb dMo_settle_45 (by decide) ?_
        refine lv_iconst (v := 1) hx hb dMo_settle_46 (by decide) ?_
        refine lv_iconst (v := 0) hx hb dMo_settle_47 (by decide) ?_
        obtain ⟨P14, hP14, hwp⟩ := hwp
        refine uCallVv (As := [.int x1, .int v11, .int 4, .int 1, .int 0]) (rest := []) (C := RMo) ⟨hx, hb, hml, hown, hts⟩ (kM_send l D a A tI tZ σ13 x1 v11 4 1 0 P14 hP14) (cwV 5 hts (gdV wm_858 wm_860 wp_18 wm_13 wm_861) rfl rfl rfl (by decide +kernel) ⟨Nat.le_of_ble_eq_true rfl, Nat.le_of_ble_eq_true rfl⟩) (va_recv (ci := 0) (q0 := 0) hK hP rfl rfl) hP hK hD hA hS rfl hl.1 rfl (Nat.le_of_ble_eq_true rfl) dMo_settle_48 ⟨Nat.le_of_ble_eq_true rfl, Nat.le_of_ble_eq_true rfl⟩ (fun u15 H locs hu15 hP hD hS => ?_)
        have hwp := hwp u15 hu15
        refine lv_goto hx hb dMo_settle_51 rfl ?_
        exact W.vret hx hb hr (fun t ht hW => ⟨⟨u15, rfl, hwp, uEnd ht hW hP hK hD hS hA⟩, hS.F ht⟩) hS.2.2 dMo_settle_77
    · have hwp := hwp.2 h4
      exact W.vret hx hb hr (fun t ht hW => ⟨⟨σ, rfl, hwp, uEnd ht hW hP hK hD hS hA⟩, hS.F ht⟩) hS.2.2 dMo_settle_18
-- private void stampArrives(int, int, int, int)
def wM_stampArrives_144 (R : MS → Prop) (σ : MS) (y1 : Int32) (y2 : Int32) (y3 : Int32) (y4 : Int32) (y5 : Int32) : Prop :=
  (∃ P1 : MS → Prop, wM_send P1 σ y2 y1 0 1 0 ∧ (∀ (u2 : MS), P1 u2 → R u2))
def wM_stampArrives_129 (R : MS → Prop) (σ : MS) (y1 : Int32) (y2 : Int32) (y3 : Int32) (y4 : Int32) (y5 : Int32) : Prop :=
  (vp_in y2 4 ∧ (vp_in y2 4 ∧ (∀ σ5 : MS, σ5 = up2 σ 14 y2.toNatClampNeg ((σ 14 y2.toNatClampNeg) ||| (1 <<< (y1 &&& 31))) → R σ5)))
def wM_stampArrives_102 (R : MS → Prop) (σ : MS) (y1 : Int32) (y2 : Int32) (y3 : Int32) (y4 : Int32) (z0 : Int32) : Prop :=
  (vp_in y2 12 ∧ ((((σ 8 y2.toNatClampNeg) = 2) → wM_stampArrives_129 R σ y1 y2 y3 y4 z0) ∧ ((¬ (σ 8 y2.toNatClampNeg) = 2) → (vp_in y2 12 ∧ (((¬ (σ 8 y2.toNatClampNeg) = 1) → wM_stampArrives_144 R σ y1 y2 y3 y4 z0) ∧ (((σ 8 y2.toNatClampNeg) = 1) → (((z0 = 0) → wM_stampArrives_144 R σ y1 y2 y3 y4 z0) ∧ ((¬ z0 = 0) → wM_stampArrives_129 R σ y1 y2 y3 y4 z0))))))))
def wM_stampArrives_101 (R : MS → Prop) (σ : MS) (y1 : Int32) (y2 : Int32) (y3 : Int32) (y4 : Int32) : Prop :=
  wM_stampArrives_102 R σ y1 y2 y3 y4 0
def wM_stampArrives_97 (R : MS → Prop) (σ : MS) (y1 : Int32) (y2 : Int32) (y3 : Int32) (y4 : Int32) : Prop :=
  wM_stampArrives_102 R σ y1 y2 y3 y4 1
def wM_stampArrives_69 (R : MS → Prop) (σ : MS) (y1 : Int32) (y2 : Int32) (y3 : Int32) (y4 : Int32) (z1 : Int32) (z2 : Int32) : Prop :=
  (vp_in z1 4 ∧ (∀ σ12 : MS, σ12 = up2 σ 11 z1.toNatClampNeg z2 → (vp_in y2 4 ∧ ((((σ12 12 y2.toNatClampNeg) < y4) → wM_stampArrives_97 R σ12 y1 y2 y3 y4) ∧ ((¬ (σ12 12 y2.toNatClampNeg) < y4) → (vp_in y2 4 ∧ (((¬ (σ12 12 y2.toNatClampNeg) = y4) → wM_stampArrives_101 R σ12 y1 y2 y3 y4) ∧ (((σ12 12 y2.toNatClampNeg) = y4) → (((y1 ≤ y2) → wM_stampArrives_101 R σ12 y1 y2 y3 y4) ∧ ((¬ y1 ≤ y2) → wM_stampArrives_97 R σ12 y1 y2 y3 y4))))))))))
def wM_stampArrives (R : MS → Prop) (σ : MS) (x1 x2 x3 x4 : Int32) : Prop :=
  (((¬ x3 = 1) → (vp_in x2 4 ∧ (((x4 ≤ (σ 11 x2.toNatClampNeg)) → (vp_in x2 4 ∧ wM_stampArrives_69 R σ x1 x2 x3 x4 x2 (σ 11 x2.toNatClampNeg))) ∧ ((¬ x4 ≤ (σ 11 x2.toNatClampNeg)) → wM_stampArrives_69 R σ x1 x2 x3 x4 x2 x4)))) ∧ ((x3 = 1) → (vp_in x2 4 ∧ (vp_in x2 4 ∧ (∀ σ24 : MS, σ24 = up2 σ 13 x2.toNatClampNeg ((σ 13 x2.toNatClampNeg) + 1) → (vp_in x2 4 ∧ (((¬ (σ24 13 x2.toNatClampNeg) = 3) → R σ24) ∧ (((σ24 13 x2.toNatClampNeg) = 3) → (vp_in x2 12 ∧ (((¬ (σ24 8 x2.toNatClampNeg) = 1) → R σ24) ∧ (((σ24 8 x2.toNatClampNeg) = 1) → (∃ P29 : MS → Prop, wM_comeIn P29 σ24 0 x2 ∧ (∀ (u30 : MS), P29 u30 → R u30)))))))))))))
abbrev wsMo_stampArrives : List Cond := .code yMo_stampArrives cMo_stampArrives 6 none :: wg
abbrev rmM_stampArrives : Room := { frames := 1, cells := 0, slots := 0, locals := 27 }
set_option maxHeartbeats 4000000 in
set_option maxRecDepth 100000 in
theorem kM_stampArrives (l : Launch) (D : va_G) (a : Nat → Nat) (A : Nat → Prop) (tI tZ : ClassId) (σ : MS) (x1 x2 x3 x4 : Int32) (R : MS → Prop) (hwp : wM_stampArrives R σ x1 x2 x3 x4) : Met l yMo_stampArrives wsMo_stampArrives rmM_stampArrives (va_Pc [.ref (a 0), .int x1, .int x2, .int x3, .int x4] (uI D clA (mT tI tZ) A false (mw a tI tZ) σ)) (va_Qv R (uI D clA (mT tI tZ) A false (mw a tI tZ)) A) 0 0 A := by
  refine Met.ofW (cc := cMo_stampArrives) (maxL := 6) (ret := none) (by decide) rfl ?_
  intro p e s m args below meth c s₁ B hml hv
  obtain ⟨rfl, hP, hK, hD, hA⟩ := hv
  have hx := B.exec
  have hb := B.bytes
  have hr := B.returns
  have hts := atoms_spec (ws := wsMo_stampArrives) B.pre
  have hown : s.vm.findClass RMo = some m.cls := findClass_of_methodNamed B.named
  have hlocks := B.notSynchronized
  have hin0 : ∀ w ∈ u_ws RMo TMo 33, w ∈ wsMo_stampArrives := fun w h => List.mem_cons_of_mem _ (inMo w h)
  have k32 := hts _ (List.mem_cons_of_mem _ wm_744)
  have k35 := hts _ (List.mem_cons_of_mem _ wm_747)
  have k38 := hts _ (List.mem_cons_of_mem _ wm_748)
  have k41 := hts _ (List.mem_cons_of_mem _ wm_749)
  have k44 := hts _ (List.mem_cons_of_mem _ wm_750)
  have hS : va_S A s.heap s.heap [] := va_S.rf
  have cut144 : ∀ (σ : MS) (y1 : Int32) (y2 : Int32) (y3 : Int32) (y4 : Int32) (y5 : Int32) (H : Heap) (locs : List Loc) (ls : Array Slot), wM_stampArrives_144 R σ y1 y2 y3 y4 y5 → va_P D clA (mw a tI tZ σ) H → va_D A (mw a tI tZ σ) → va_S A s.heap H locs → lv_has ls 6 [(0, .ref (a 0)), (1, .int y1), (2, .int y2), (3, .int y3), (4, .int y4), (5, .int y5)] → W p l e (headSpec wsMo_stampArrives rmM_stampArrives).room s m ([.ref (a 0), .int x1, .int x2, .int x3, .int x4] : List Value).toArray below meth c H locs 0 0 (MQ below (va_Qv R (uI D clA (mT tI tZ) A false (mw a tI tZ)) A) ([.ref (a 0), .int x1, .int x2, .int x3, .int x4] : List Value).toArray s 0 0 A) (F0 m 144 ls []) := by
    intro σ y1 y2 y3 y4 y5 H locs ls hwp hP hD hS hl
    refine lv_aload_n hx hb dMo_stampArrives_144 rfl (lv_at hl 0 rfl) ?_
    refine lv_iload_n hx hb dMo_stampArrives_145 rfl (lv_at hl 2 rfl) ?_
    refine lv_iload_n hx hb dMo_stampArrives_146 rfl (lv_at hl 1 rfl) ?_
    refine lv_iconst (v := 0) hx hb dMo_stampArrives_147 (by decide) ?_
    refine lv_iconst (v := 1) hx hb dMo_stampArrives_148 (by decide) ?_
    refine lv_iconst (v := 0) hx hb dMo_stampArrives_149 (by decide) ?_
    obtain ⟨P1, hP1, hwp⟩ := hwp
    refine uCallVv (As := [.int y2, .int y1, .int 0, .int 1, .int 0]) (rest := []) (C := RMo) ⟨hx, hb, hml, hown, hts⟩ (kM_send l D a A tI tZ σ y2 y1 0 1 0 P1 hP1) (cwV 5 hts (gdV wm_858 wm_860 wp_18 wm_13 wm_861) rfl rfl rfl (by decide +kernel) ⟨Nat.le_of_ble_eq_true rfl, Nat.le_of_ble_eq_true rfl⟩) (va_recv (ci := 0) (q0 := 0) hK hP rfl rfl) hP hK hD hA hS rfl hl.1 rfl (Nat.le_of_ble_eq_true rfl) dMo_stampArrives_150 ⟨Nat.le_of_ble_eq_true rfl, Nat.le_of_ble_eq_true rfl⟩ (fun u2 H locs hu2 hP hD hS => ?_)
    have hwp := hwp u2 hu2
    exact W.vret hx hb hr (fun t ht hW => ⟨⟨u2, rfl, hwp, uEnd ht hW hP hK hD hS hA⟩, hS.F ht⟩) hS.2.2 dMo_stampArrives_153
  have cut129 : ∀ (σ : MS) (y1 : Int32) (y2 : Int32) (y3 : Int32) (y4 : Int32) (y5 : Int32) (H : Heap) (locs : List Loc) (ls : Array Slot), wM_stampArrives_129 R σ y1 y2 y3 y4 y5 → va_P D clA (mw a tI tZ σ) H → va_D A (mw a tI tZ σ) → va_S A s.heap H locs → lv_has ls 6 [(0, .ref (a 0)), (1, .int y1), (2, .int y2), (3, .int y3), (4, .int y4), (5, .int y5)] → W p l e (headSpec wsMo_stampArrives rmM_stampArrives).room s m ([.ref (a 0), .int x1, .int x2, .int x3, .int x4] : List Value).toArray below meth c H locs 0 0 (MQ below (va_Qv R (uI D clA (mT tI tZ) A false (mw a tI tZ)) A) ([.ref (a 0), .int x1, .int x2, .int x3, .int x4] : List Value).toArray s 0 0 A) (F0 m 129 ls []) := by
    intro σ y1 y2 y3 y4 y5 H locs ls hwp hP hD hS hl
    refine lv_aload_n hx hb dMo_stampArrives_129 rfl (lv_at hl 0 rfl) ?_
    refine va_get (D := D) (ci := 0) (C := RMo) (T := TMo) (N := 33) hx hb hts hin0 hown hK hP 0 rfl rfl 14 (by decide) k44 (fun _ h9 => h9) rfl dMo_stampArrives_130 ?_
    refine lv_iload_n hx hb dMo_stampArrives_133 rfl (lv_at hl 2 rfl) ?_
    refine lv_dup2_11 hx hb dMo_stampArrives_134 rfl rfl ?_
    obtain ⟨hi3, hwp⟩ := hwp
    refine va_iald hx hb hK hP 11 0 rfl rfl hi3 dMo_stampArrives_135 ?_
    refine lv_iconst (v := 1) hx hb dMo_stampArrives_136 (by decide) ?_
    refine lv_iload_n hx hb dMo_stampArrives_137 rfl (lv_at hl 1 rfl) ?_
    refine lv_ishl hx hb dMo_stampArrives_138 ?_
    refine lv_ior hx hb dMo_stampArrives_139 ?_
    obtain ⟨hi4, hwp⟩ := hwp
    refine va_iast hx hb hK hP hD hS 11 0 rfl rfl hi4 dMo_stampArrives_140 (fun H locs hP hD hS => ?_)
    obtain ⟨σ5, eσ5⟩ : ∃ z, z = up2 σ 14 y2.toNatClampNeg ((σ 14 y2.toNatClampNeg) ||| (1 <<< (y1 &&& 31))) := ⟨_, rfl⟩
    have hwp := hwp σ5 eσ5
    have hP : va_P D clA (mw a tI tZ σ5) H := by rw [eσ5]; exact hP
    have hD : va_D A (mw a tI tZ σ5) := by rw [eσ5]; exact hD
    refine lv_goto hx hb dMo_stampArrives_141 rfl ?_
    exact W.vret hx hb hr (fun t ht hW => ⟨⟨σ5, rfl, hwp, uEnd ht hW hP hK hD hS hA⟩, hS.F ht⟩) hS.2.2 dMo_stampArrives_153
  have cut102 : ∀ (σ : MS) (y1 : Int32) (y2 : Int32) (y3 : Int32) (y4 : Int32) (z0 : Int32) (H : Heap) (locs : List Loc) (ls : Array Slot), wM_stampArrives_102 R σ y1 y2 y3 y4 z0 → va_P D clA (mw a tI tZ σ) H → va_D A (mw a tI tZ σ) → va_S A s.heap H locs → lv_has ls 6 [(0, .ref (a 0)), (1, .int y1), (2, .int y2), (3, .int y3), (4, .int y4)] → W p l e (headSpec wsMo_stampArrives rmM_stampArrives).room s m ([.ref (a 0), .int x1, .int x2, .int x3, .int x4] : List Value).toArray below meth c H locs 0 0 (MQ below (va_Qv R (uI D clA (mT tI tZ) A false (mw a tI tZ)) A) ([.ref (a 0), .int x1, .int x2, .int x3, .int x4] : List Value).toArray s 0 0 A) (F0 m 102 ls [.int z0]) := by
    intro σ y1 y2 y3 y4 z0 H locs ls hwp hP hD hS hl
    refine lv_istore hx hb dMo_stampArrives_102 hl (by decide) rfl (fun ls hl => ?_)
    have hl : lv_has ls 6 [(5, .int z0), (0, .ref (a 0)), (1, .int y1), (2, .int y2), (3, .int y3), (4, .int y4)] := hl
    refine lv_aload_n hx hb dMo_stampArrives_104 rfl (lv_at hl 1 rfl) ?_
    refine va_get (D := D) (ci := 0) (C := RMo) (T := TMo) (N := 33) hx hb hts hin0 hown hK hP 0 rfl rfl 8 (by decide) k32 (fun _ h9 => h9) rfl dMo_stampArrives_105 ?_
    refine lv_iload_n hx hb dMo_stampArrives_108 rfl (lv_at hl 3 rfl) ?_
    obtain ⟨hi6, hwp⟩ := hwp
    refine va_iald hx hb hK hP 7 0 rfl rfl hi6 dMo_stampArrives_109 ?_
    refine lv_iconst (v := 2) hx hb dMo_stampArrives_110 (by decide) ?_
    refine lv_icmp_eq hx hb dMo_stampArrives_111 rfl (fun h7 => ?_) (fun h7 => ?_)
    · have hwp := hwp.1 h7
      exact cut129 σ y1 y2 y3 y4 z0 _ _ _ hwp hP hD hS (lv_sub hl [1, 2, 3, 4, 5, 0] rfl)
    · have hwp := hwp.2 h7
      refine lv_aload_n hx hb dMo_stampArrives_114 rfl (lv_at hl 1 rfl) ?_
      refine va_get (D := D) (ci := 0) (C := RMo) (T := TMo) (N := 33) hx hb hts hin0 hown hK hP 0 rfl rfl 8 (by decide) k32 (fun _ h9 => h9) rfl dMo_stampArrives_115 ?_
      refine lv_iload_n hx hb dMo_stampArrives_118 rfl (lv_at hl 3 rfl) ?_
      obtain ⟨hi8, hwp⟩ := hwp
      refine va_iald hx hb hK hP 7 0 rfl rfl hi8 dMo_stampArrives_119 ?_
      refine lv_iconst (v := 1) hx hb dMo_stampArrives_120 (by decide) ?_
      refine lv_icmp_ne hx hb dMo_stampArrives_121 rfl (fun h9 => ?_) (fun h9 => ?_)
      · have hwp := hwp.1 h9
        exact cut144 σ y1 y2 y3 y4 z0 _ _ _ hwp hP hD hS (lv_sub hl [1, 2, 3, 4, 5, 0] rfl)
      · have hwp := hwp.2 h9
        refine lv_iload hx hb dMo_stampArrives_124 (lv_at hl 0 rfl) ?_
        refine lv_if_eq hx hb dMo_stampArrives_126 rfl (fun h10 => ?_) (fun h10 => ?_)
        · have hwp := hwp.1 h10
          exact cut144 σ y1 y2 y3 y4 z0 _ _ _ hwp hP hD hS (lv_sub hl [1, 2, 3, 4, 5, 0] rfl)
        · have hwp := hwp.2 h10
          exact cut129 σ y1 y2 y3 y4 z0 _ _ _ hwp hP hD hS (lv_sub hl [1, 2, 3, 4, 5, 0] rfl)
  have cut101 : ∀ (σ : MS) (y1 : Int32) (y2 : Int32) (y3 : Int32) (y4 : Int32) (H : Heap) (locs : List Loc) (ls : Array Slot), wM_stampArrives_101 R σ y1 y2 y3 y4 → va_P D clA (mw a tI tZ σ) H → va_D A (mw a tI tZ σ) → va_S A s.heap H locs → lv_has ls 6 [(0, .ref (a 0)), (1, .int y1), (2, .int y2), (3, .int y3), (4, .int y4)] → W p l e (headSpec wsMo_stampArrives rmM_stampArrives).room s m ([.ref (a 0), .int x1, .int x2, .int x3, .int x4] : List Value).toArray below meth c H locs 0 0 (MQ below (va_Qv R (uI D clA (mT tI tZ) A false (mw a tI tZ)) A) ([.ref (a 0), .int x1, .int x2, .int x3, .int x4] : List Value).toArray s 0 0 A) (F0 m 101 ls []) := by
    intro σ y1 y2 y3 y4 H locs ls hwp hP hD hS hl
    refine lv_iconst (v := 0) hx hb dMo_stampArrives_101 (by decide) ?_
    exact cut102 σ y1 y2 y3 y4 0 _ _ _ hwp hP hD hS (lv_sub hl [0, 1, 2, 3, 4] rfl)
  have cut97 : ∀ (σ : MS) (y1 : Int32) (y2 : Int32) (y3 : Int32) (y4 : Int32) (H : Heap) (locs : List Loc) (ls : Array Slot), wM_stampArrives_97 R σ y1 y2 y3 y4 → va_P D clA (mw a tI tZ σ) H → va_D A (mw a tI tZ σ) → va_S A s.heap H locs → lv_has ls 6 [(0, .ref (a 0)), (1, .int y1), (2, .int y2), (3, .int y3), (4, .int y4)] → W p l e (headSpec wsMo_stampArrives rmM_stampArrives).room s m ([.ref (a 0), .int x1, .int x2, .int x3, .int x4] : List Value).toArray below meth c H locs 0 0 (MQ below (va_Qv R (uI D clA (mT tI tZ) A false (mw a tI tZ)) A) ([.ref (a 0), .int x1, .int x2, .int x3, .int x4] : List Value).toArray s 0 0 A) (F0 m 97 ls []) := by
    intro σ y1 y2 y3 y4 H locs ls hwp hP hD hS hl
    refine lv_iconst (v := 1) hx hb dMo_stampArrives_97 (by decide) ?_
    refine lv_goto hx hb dMo_stampArrives_98 rfl ?_
    exact cut102 σ y1 y2 y3 y4 1 _ _ _ hwp hP hD hS (lv_sub hl [0, 1, 2, 3, 4] rfl)
  have cut69 : ∀ (σ : MS) (y1 : Int32) (y2 : Int32) (y3 : Int32) (y4 : Int32) (z1 : Int32) (z2 : Int32) (H : Heap) (locs : List Loc) (ls : Array Slot), wM_stampArrives_69 R σ y1 y2 y3 y4 z1 z2 → va_P D clA (mw a tI tZ σ) H → va_D A (mw a tI tZ σ) → va_S A s.heap H locs → lv_has ls 6 [(0, .ref (a 0)), (1, .int y1), (2, .int y2), (3, .int y3), (4, .int y4)] → W p l e (headSpec wsMo_stampArrives rmM_stampArrives).room s m ([.ref (a 0), .int x1, .int x2, .int x3, .int x4] : List Value).toArray below meth c H locs 0 0 (MQ below (va_Qv R (uI D clA (mT tI tZ) A false (mw a tI tZ)) A) ([.ref (a 0), .int x1, .int x2, .int x3, .int x4] : List Value).toArray s 0 0 A) (F0 m 69 ls [.int z2, .int z1, .ref (a 8)]) := by
    intro σ y1 y2 y3 y4 z1 z2 H locs ls hwp hP hD hS hl
    obtain ⟨hi11, hwp⟩ := hwp
    refine va_iast hx hb hK hP hD hS 8 0 rfl rfl hi11 dMo_stampArrives_69 (fun H locs hP hD hS => ?_)
    obtain ⟨σ12, eσ12⟩ : ∃ z, z = up2 σ 11 z1.toNatClampNeg z2 := ⟨_, rfl⟩
    have hwp := hwp σ12 eσ12
    have hP : va_P D clA (mw a tI tZ σ12) H := by rw [eσ12]; exact hP
    have hD : va_D A (mw a tI tZ σ12) := by rw [eσ12]; exact hD
    refine lv_aload_n hx hb dMo_stampArrives_70 rfl (lv_at hl 0 rfl) ?_
    refine va_get (D := D) (ci := 0) (C := RMo) (T := TMo) (N := 33) hx hb hts hin0 hown hK hP 0 rfl rfl 12 (by decide) k38 (fun _ h9 => h9) rfl dMo_stampArrives_71 ?_
    refine lv_iload_n hx hb dMo_stampArrives_74 rfl (lv_at hl 2 rfl) ?_
    obtain ⟨hi13, hwp⟩ := hwp
    refine va_iald hx hb hK hP 9 0 rfl rfl hi13 dMo_stampArrives_75 ?_
    refine lv_iload hx hb dMo_stampArrives_76 (lv_at hl 4 rfl) ?_
    refine lv_icmp_lt hx hb dMo_stampArrives_78 rfl (fun h14 => ?_) (fun h14 => ?_)
    · have hwp := hwp.1 h14
      exact cut97 σ12 y1 y2 y3 y4 _ _ _ hwp hP hD hS (lv_sub hl [0, 1, 2, 3, 4] rfl)
    · have hwp := hwp.2 h14
      refine lv_aload_n hx hb dMo_stampArrives_81 rfl (lv_at hl 0 rfl) ?_
      refine va_get (D := D) (ci := 0) (C := RMo) (T := TMo) (N := 33) hx hb hts hin0 hown hK hP 0 rfl rfl 12 (by decide) k38 (fun _ h9 => h9) rfl dMo_stampArrives_82 ?_
      refine lv_iload_n hx hb dMo_stampArrives_85 rfl (lv_at hl 2 rfl) ?_
      obtain ⟨hi15, hwp⟩ := hwp
      refine va_iald hx hb hK hP 9 0 rfl rfl hi15 dMo_stampArrives_86 ?_
      refine lv_iload hx hb dMo_stampArrives_87 (lv_at hl 4 rfl) ?_
      refine lv_icmp_ne hx hb dMo_stampArrives_89 rfl (fun h16 => ?_) (fun h16 => ?_)
      · have hwp := hwp.1 h16
        exact cut101 σ12 y1 y2 y3 y4 _ _ _ hwp hP hD hS (lv_sub hl [0, 1, 2, 3, 4] rfl)
      · have hwp := hwp.2 h16
        refine lv_iload_n hx hb dMo_stampArrives_92 rfl (lv_at hl 2 rfl) ?_
        refine lv_iload_n hx hb dMo_stampArrives_93 rfl (lv_at hl 1 rfl) ?_
        refine lv_icmp_ge hx hb dMo_stampArrives_94 rfl (fun h17 => ?_) (fun h17 => ?_)
        · have hwp := hwp.1 h17
          exact cut101 σ12 y1 y2 y3 y4 _ _ _ hwp hP hD hS (lv_sub hl [0, 1, 2, 3, 4] rfl)
        · have hwp := hwp.2 h17
          exact cut97 σ12 y1 y2 y3 y4 _ _ _ hwp hP hD hS (lv_sub hl [0, 1, 2, 3, 4] rfl)
  have hl := lv_entry ([.ref (a 0), .int x1, .int x2, .int x3, .int x4]) (n := 6) (Nat.le_of_ble_eq_true rfl)
  rw [lg_entry_eq]
  generalize (lg_sl ([.ref (a 0), .int x1, .int x2, .int x3, .int x4]) ++ List.replicate (6 - (lg_sl ([.ref (a 0), .int x1, .int x2, .int x3, .int x4])).length) Slot.unset).toArray = ls at hl ⊢
  have hl : lv_has ls 6 [(0, .ref (a 0)), (1, .int x1), (2, .int x2), (3, .int x3), (4, .int x4)] := hl
  refine lv_iload_n hx hb dMo_stampArrives_0 rfl (lv_at hl 3 rfl) ?_
  refine lv_iconst (v := 1) hx hb dMo_stampArrives_1 (by decide) ?_
  refine lv_icmp_ne hx hb dMo_stampArrives_2 rfl (fun h18 => ?_) (fun h18 => ?_)
  · have hwp := hwp.1 h18
    refine lv_aload_n hx hb dMo_stampArrives_42 rfl (lv_at hl 0 rfl) ?_
    refine va_get (D := D) (ci := 0) (C := RMo) (T := TMo) (N := 33) hx hb hts hin0 hown hK hP 0 rfl rfl 11 (by decide) k35 (fun _ h9 => h9) rfl dMo_stampArrives_43 ?_
    refine lv_iload_n hx hb dMo_stampArrives_46 rfl (lv_at hl 2 rfl) ?_
    refine lv_iload hx hb dMo_stampArrives_47 (lv_at hl 4 rfl) ?_
    refine lv_aload_n hx hb dMo_stampArrives_49 rfl (lv_at hl 0 rfl) ?_
    refine va_get (D := D) (ci := 0) (C := RMo) (T := TMo) (N := 33) hx hb hts hin0 hown hK hP 0 rfl rfl 11 (by decide) k35 (fun _ h9 => h9) rfl dMo_stampArrives_50 ?_
    refine lv_iload_n hx hb dMo_stampArrives_53 rfl (lv_at hl 2 rfl) ?_
    obtain ⟨hi19, hwp⟩ := hwp
    refine va_iald hx hb hK hP 8 0 rfl rfl hi19 dMo_stampArrives_54 ?_
    refine lv_icmp_le hx hb dMo_stampArrives_55 rfl (fun h20 => ?_) (fun h20 => ?_)
    · have hwp := hwp.1 h20
      refine lv_aload_n hx hb dMo_stampArrives_63 rfl (lv_at hl 0 rfl) ?_
      refine va_get (D := D) (ci := 0) (C := RMo) (T := TMo) (N := 33) hx hb hts hin0 hown hK hP 0 rfl rfl 11 (by decide) k35 (fun _ h9 => h9) rfl dMo_stampArrives_64 ?_
      refine lv_iload_n hx hb dMo_stampArrives_67 rfl (lv_at hl 2 rfl) ?_
      obtain ⟨hi21, hwp⟩ := hwp
      refine va_iald hx hb hK hP 8 0 rfl rfl hi21 dMo_stampArrives_68 ?_
      exact cut69 σ x1 x2 x3 x4 x2 (σ 11 x2.toNatClampNeg) _ _ _ hwp hP hD hS (lv_sub hl [0, 1, 2, 3, 4] rfl)
    · have hwp := hwp.2 h20
      refine lv_iload hx hb dMo_stampArrives_58 (lv_at hl 4 rfl) ?_
      refine lv_goto hx hb dMo_stampArrives_60 rfl ?_
      exact cut69 σ x1 x2 x3 x4 x2 x4 _ _ _ hwp hP hD hS (lv_sub hl [0, 1, 2, 3, 4] rfl)
  · have hwp := hwp.2 h18
    refine lv_aload_n hx hb dMo_stampArrives_5 rfl (lv_at hl 0 rfl) ?_
    refine va_get (D := D) (ci := 0) (C := RMo) (T := TMo) (N := 33) hx hb hts hin0 hown hK hP 0 rfl rfl 13 (by decide) k41 (fun _ h9 => h9) rfl dMo_stampArrives_6 ?_
    refine lv_iload_n hx hb dMo_stampArrives_9 rfl (lv_at hl 2 rfl) ?_
    refine lv_dup2_11 hx hb dMo_stampArrives_10 rfl rfl ?_
    obtain ⟨hi22, hwp⟩ := hwp
    refine va_iald hx hb hK hP 10 0 rfl rfl hi22 dMo_stampArrives_11 ?_
    refine lv_iconst (v := 1) hx hb dMo_stampArrives_12 (by decide) ?_
    refine lv_iadd hx hb dMo_stampArrives_13 ?_
    obtain ⟨hi23, hwp⟩ := hwp
    refine va_iast hx hb hK hP hD hS 10 0 rfl rfl hi23 dMo_stampArrives_14 (fun H locs hP hD hS => ?_)
    obtain ⟨σ24, eσ24⟩ : ∃ z, z = up2 σ 13 x2.toNatClampNeg ((σ 13 x2.toNatClampNeg) + 1) := ⟨_, rfl⟩
    have hwp := hwp σ24 eσ24
    have hP : va_P D clA (mw a tI tZ σ24) H := by rw [eσ24]; exact hP
    have hD : va_D A (mw a tI tZ σ24) := by rw [eσ24]; exact hD
    refine lv_aload_n hx hb dMo_stampArrives_15 rfl (lv_at hl 0 rfl) ?_
    refine va_get (D := D) (ci := 0) (C := RMo) (T := TMo) (N := 33) hx hb hts hin0 hown hK hP 0 rfl rfl 13 (by decide) k41 (fun _ h9 => h9) rfl dMo_stampArrives_16 ?_
    refine lv_iload_n hx hb dMo_stampArrives_19 rfl (lv_at hl 2 rfl) ?_
    obtain ⟨hi25, hwp⟩ := hwp
    refine va_iald hx hb hK hP 10 0 rfl rfl hi25 dMo_stampArrives_20 ?_
    refine lv_iconst (v := 3) hx hb dMo_stampArrives_21 (by decide) ?_
    refine lv_icmp_ne hx hb dMo_stampArrives_22 rfl (fun h26 => ?_) (fun h26 => ?_)
    · have hwp := hwp.1 h26
      exact W.vret hx hb hr (fun t ht hW => ⟨⟨σ24, rfl, hwp, uEnd ht hW hP hK hD hS hA⟩, hS.F ht⟩) hS.2.2 dMo_stampArrives_41
    · have hwp := hwp.2 h26
      refine lv_aload_n hx hb dMo_stampArrives_25 rfl (lv_at hl 0 rfl) ?_
      refine va_get (D := D) (ci := 0) (C := RMo) (T := TMo) (N := 33) hx hb hts hin0 hown hK hP 0 rfl rfl 8 (by decide) k32 (fun _ h9 => h9) rfl dMo_stampArrives_26 ?_
      refine lv_iload_n hx hb dMo_stampArrives_29 rfl (lv_at hl 2 rfl) ?_
      obtain ⟨hi27, hwp⟩ := hwp
      refine va_iald hx hb hK hP 7 0 rfl rfl hi27 dMo_stampArrives_30 ?_
      refine lv_iconst (v := 1) hx hb dMo_stampArrives_31 (by decide) ?_
      refine lv_icmp_ne hx hb dMo_stampArrives_32 rfl (fun h28 => ?_) (fun h28 => ?_)
      · have hwp := hwp.1 h28
        exact W.vret hx hb hr (fun t ht hW => ⟨⟨σ24, rfl, hwp, uEnd ht hW hP hK hD hS hA⟩, hS.F ht⟩) hS.2.2 dMo_stampArrives_41
      · have hwp := hwp.2 h28
        refine lv_aload_n hx hb dMo_stampArrives_35 rfl (lv_at hl 0 rfl) ?_
        refine lv_iconst (v := 0) hx hb dMo_stampArrives_36 (by decide) ?_
        refine lv_iload_n hx hb dMo_stampArrives_37 rfl (lv_at hl 2 rfl) ?_
        obtain ⟨P29, hP29, hwp⟩ := hwp
        refine uCallVv (As := [.int 0, .int x2]) (rest := []) (C := RMo) ⟨hx, hb, hml, hown, hts⟩ (kM_comeIn l D a A tI tZ σ24 0 x2 P29 hP29) (cwV 2 hts (gdV wm_854 wm_856 wp_17 wm_13 wm_857) rfl rfl rfl (by decide +kernel) ⟨Nat.le_of_ble_eq_true rfl, Nat.le_of_ble_eq_true rfl⟩) (va_recv (ci := 0) (q0 := 0) hK hP rfl rfl) hP hK hD hA hS rfl hl.1 rfl (Nat.le_of_ble_eq_true rfl) dMo_stampArrives_38 ⟨Nat.le_of_ble_eq_true rfl, Nat.le_of_ble_eq_true rfl⟩ (fun u30 H locs hu30 hP hD hS => ?_)
        have hwp := hwp u30 hu30
        exact W.vret hx hb hr (fun t ht hW => ⟨⟨u30, rfl, hwp, uEnd ht hW hP hK hD hS hA⟩, hS.F ht⟩) hS.2.2 dMo_stampArrives_41
-- private void tokenArrives(int, int, int, int)
def wM_tokenArrives_56 (R : MS → Prop) (σ : MS) (y1 : Int32) (y2 : Int32) (y3 : Int32) (y4 : Int32) (z1 : Int32) (z2 : Int32) : Prop :=
  (vp_in z1 16 ∧ (∀ σ2 : MS, σ2 = up2 σ 15 z1.toNatClampNeg z2 → (((¬ (σ2 17 0) = y2) → R σ2) ∧ (((σ2 17 0) = y2) → (vp_in (4 + y2) 12 ∧ (((¬ (σ2 8 (4 + y2).toNatClampNeg) = 0) → R σ2) ∧ (((σ2 8 (4 + y2).toNatClampNeg) = 0) → (∃ P6 : Int32 → MS → Prop, wM_isDue P6 σ2 y2 y1 ∧ (∀ (r8 : Int32) (u7 : MS), P6 r8 u7 → (((r8 = 0) → R u7) ∧ ((¬ r8 = 0) → (∀ σ10 : MS, σ10 = up2 u7 17 0 (-1) → (∃ P11 : MS → Prop, wM_send P11 σ10 y2 y1 1 1 0 ∧ (∀ (u12 : MS), P11 u12 → R u12))))))))))))))
def wM_tokenArrives (R : MS → Prop) (σ : MS) (x1 x2 x3 x4 : Int32) : Prop :=
  (((¬ x3 = 1) → (vp_in ((4 * x2) + x1) 16 ∧ (((x4 ≤ (σ 15 ((4 * x2) + x1).toNatClampNeg)) → (vp_in ((4 * x2) + x1) 16 ∧ wM_tokenArrives_56 R σ x1 x2 x3 x4 ((4 * x2) + x1) (σ 15 ((4 * x2) + x1).toNatClampNeg))) ∧ ((¬ x4 ≤ (σ 15 ((4 * x2) + x1).toNatClampNeg)) → wM_tokenArrives_56 R σ x1 x2 x3 x4 ((4 * x2) + x1) x4)))) ∧ ((x3 = 1) → (∀ σ17 : MS, σ17 = up2 σ 17 0 x2 → (∃ P18 : MS → Prop, wM_comeIn P18 σ17 1 x2 ∧ (∀ (u19 : MS), P18 u19 → R u19)))))
abbrev wsMo_tokenArrives : List Cond := .code yMo_tokenArrives cMo_tokenArrives 5 none :: wg
abbrev rmM_tokenArrives : Room := { frames := 1, cells := 0, slots := 0, locals := 27 }
set_option maxHeartbeats 4000000 in
set_option maxRecDepth 100000 in
theorem kM_tokenArrives (l : Launch) (D : va_G) (a : Nat → Nat) (A : Nat → Prop) (tI tZ : ClassId) (σ : MS) (x1 x2 x3 x4 : Int32) (R : MS → Prop) (hwp : wM_tokenArrives R σ x1 x2 x3 x4) : Met l yMo_tokenArrives wsMo_tokenArrives rmM_tokenArrives (va_Pc [.ref (a 0), .int x1, .int x2, .int x3, .int x4] (uI D clA (mT tI tZ) A false (mw a tI tZ) σ)) (va_Qv R (uI D clA (mT tI tZ) A false (mw a tI tZ)) A) 0 0 A := by
  refine Met.ofW (cc := cMo_tokenArrives) (maxL := 5) (ret := none) (by decide) rfl ?_
  intro p e s m args below meth c s₁ B hml hv
  obtain ⟨rfl, hP, hK, hD, hA⟩ := hv
  have hx := B.exec
  have hb := B.bytes
  have hr := B.returns
  have hts := atoms_spec (ws := wsMo_tokenArrives) B.pre
  have hown : s.vm.findClass RMo = some m.cls := findClass_of_methodNamed B.named
  have hlocks := B.notSynchronized
  have hin0 : ∀ w ∈ u_ws RMo TMo 33, w ∈ wsMo_tokenArrives := fun w h => List.mem_cons_of_mem _ (inMo w h)
  have k134 := hts _ (List.mem_cons_of_mem _ wm_753)
  have k32 := hts _ (List.mem_cons_of_mem _ wm_744)
  have k47 := hts _ (List.mem_cons_of_mem _ wm_751)
  have hS : va_S A s.heap s.heap [] := va_S.rf
  have cut56 : ∀ (σ : MS) (y1 : Int32) (y2 : Int32) (y3 : Int32) (y4 : Int32) (z1 : Int32) (z2 : Int32) (H : Heap) (locs : List Loc) (ls : Array Slot), wM_tokenArrives_56 R σ y1 y2 y3 y4 z1 z2 → va_P D clA (mw a tI tZ σ) H → va_D A (mw a tI tZ σ) → va_S A s.heap H locs → lv_has ls 5 [(0, .ref (a 0)), (1, .int y1), (2, .int y2), (3, .int y3), (4, .int y4)] → W p l e (headSpec wsMo_tokenArrives rmM_tokenArrives).room s m ([.ref (a 0), .int x1, .int x2, .int x3, .int x4] : List Value).toArray below meth c H locs 0 0 (MQ below (va_Qv R (uI D clA (mT tI tZ) A false (mw a tI tZ)) A) ([.ref (a 0), .int x1, .int x2, .int x3, .int x4] : List Value).toArray s 0 0 A) (F0 m 56 ls [.int z2, .int z1, .ref (a 12)]) := by
    intro σ y1 y2 y3 y4 z1 z2 H locs ls hwp hP hD hS hl
    obtain ⟨hi1, hwp⟩ := hwp
    refine va_iast hx hb hK hP hD hS 12 0 rfl rfl hi1 dMo_tokenArrives_56 (fun H locs hP hD hS => ?_)
    obtain ⟨σ2, eσ2⟩ : ∃ z, z = up2 σ 15 z1.toNatClampNeg z2 := ⟨_, rfl⟩
    have hwp := hwp σ2 eσ2
    have hP : va_P D clA (mw a tI tZ σ2) H := by rw [eσ2]; exact hP
    have hD : va_D A (mw a tI tZ σ2) := by rw [eσ2]; exact hD
    refine lv_aload_n hx hb dMo_tokenArrives_57 rfl (lv_at hl 0 rfl) ?_
    refine va_get (D := D) (ci := 0) (C := RMo) (T := TMo) (N := 33) hx hb hts hin0 hown hK hP 0 rfl rfl 17 (by decide) k134 (fun _ h9 => h9) rfl dMo_tokenArrives_58 ?_
    refine lv_iload_n hx hb dMo_tokenArrives_61 rfl (lv_at hl 2 rfl) ?_
    refine lv_icmp_ne hx hb dMo_tokenArrives_62 rfl (fun h3 => ?_) (fun h3 => ?_)
    · have hwp := hwp.1 h3
      exact W.vret hx hb hr (fun t ht hW => ⟨⟨σ2, rfl, hwp, uEnd ht hW hP hK hD hS hA⟩, hS.F ht⟩) hS.2.2 dMo_tokenArrives_99
    · have hwp := hwp.2 h3
      refine lv_aload_n hx hb dMo_tokenArrives_65 rfl (lv_at hl 0 rfl) ?_
      refine va_get (D := D) (ci := 0) (C := RMo) (T := TMo) (N := 33) hx hb hts hin0 hown hK hP 0 rfl rfl 8 (by decide) k32 (fun _ h9 => h9) rfl dMo_tokenArrives_66 ?_
      refine lv_iconst (v := 4) hx hb dMo_tokenArrives_69 (by decide) ?_
      refine lv_iload_n hx hb dMo_tokenArrives_70 rfl (lv_at hl 2 rfl) ?_
      refine lv_iadd hx hb dMo_tokenArrives_71 ?_
      obtain ⟨hi4, hwp⟩ := hwp
      refine va_iald hx hb hK hP 7 0 rfl rfl hi4 dMo_tokenArrives_72 ?_
      refine lv_if_ne hx hb dMo_tokenArrives_73 rfl (fun h5 => ?_) (fun h5 => ?_)
      · have hwp := hwp.1 h5
        exact W.vret hx hb hr (fun t ht hW => ⟨⟨σ2, rfl, hwp, uEnd ht hW hP hK hD hS hA⟩, hS.F ht⟩) hS.2.2 dMo_tokenArrives_99
      · have hwp := hwp.2 h5
        refine lv_aload_n hx hb dMo_tokenArrives_76 rfl (lv_at hl 0 rfl) ?_
        refine lv_iload_n hx hb dMo_tokenArrives_77 rfl (lv_at hl 2 rfl) ?_
        refine lv_iload_n hx hb dMo_tokenArrives_78 rfl (lv_at hl 1 rfl) ?_
        obtain ⟨P6, hP6, hwp⟩ := hwp
        refine uCallVi (As := [.int y2, .int y1]) (rest := []) (C := RMo) ⟨hx, hb, hml, hown, hts⟩ (kM_isDue l D a A tI tZ σ2 y2 y1 P6 hP6) (cwV 2 hts (gdV wm_866 wm_868 wp_20 wm_13 wm_869) rfl rfl rfl (by decide +kernel) ⟨Nat.le_of_ble_eq_true rfl, Nat.le_of_ble_eq_true rfl⟩) (va_recv (ci := 0) (q0 := 0) hK hP rfl rfl) hP hK hD hA hS rfl hl.1 rfl (Nat.le_of_ble_eq_true rfl) dMo_tokenArrives_79 ⟨Nat.le_of_ble_eq_true rfl, Nat.le_of_ble_eq_true rfl⟩ (fun r8 u7 H locs hu7 hP hD hS => ?_)
        have hwp := hwp r8 u7 hu7
        refine lv_if_eq hx hb dMo_tokenArrives_82 rfl (fun h9 => ?_) (fun h9 => ?_)
        · have hwp := hwp.1 h9
          exact W.vret hx hb hr (fun t ht hW => ⟨⟨u7, rfl, hwp, uEnd ht hW hP hK hD hS hA⟩, hS.F ht⟩) hS.2.2 dMo_tokenArrives_99
        · have hwp := hwp.2 h9
          refine lv_aload_n hx hb dMo_tokenArrives_85 rfl (lv_at hl 0 rfl) ?_
          refine lv_iconst (v := (-1)) hx hb dMo_tokenArrives_86 (by decide) ?_
          refine va_put (ty := .int) (D := D) (ci := 0) (C := RMo) (T := TMo) (N := 33) hx hb hts hin0 tyMo tyMo_ok nmMo hown hK hP hD hS 0 rfl rfl 17 (by decide) k134 (fun _ h9 => h9) rfl (by decide +kernel) rfl rfl (Nat.le_of_ble_eq_true rfl) dMo_tokenArrives_87 (fun H locs hP hD hS => ?_)
          obtain ⟨σ10, eσ10⟩ : ∃ z, z = up2 u7 17 0 (-1) := ⟨_, rfl⟩
          have hwp := hwp σ10 eσ10
          have hP : va_P D clA (mw a tI tZ σ10) H := by rw [eσ10]; exact hP
          have hD : va_D A (mw a tI tZ σ10) := by rw [eσ10]; exact hD
          refine lv_aload_n hx hb dMo_tokenArrives_90 rfl (lv_at hl 0 rfl) ?_
          refine lv_iload_n hx hb dMo_tokenArrives_91 rfl (lv_at hl 2 rfl) ?_
          refine lv_iload_n hx hb dMo_tokenArrives_92 rfl (lv_at hl 1 rfl) ?_
          refine lv_iconst (v := 1) hx hb dMo_tokenArrives_93 (by decide) ?_
          refine lv_iconst (v := 1) hx hb dMo_tokenArrives_94 (by decide) ?_
          refine lv_iconst (v := 0) hx hb dMo_tokenArrives_95 (by decide) ?_
          obtain ⟨P11, hP11, hwp⟩ := hwp
          refine uCallVv (As := [.int y2, .int y1, .int 1, .int 1, .int 0]) (rest := []) (C := RMo) ⟨hx, hb, hml, hown, hts⟩ (kM_send l D a A tI tZ σ10 y2 y1 1 1 0 P11 hP11) (cwV 5 hts (gdV wm_858 wm_860 wp_18 wm_13 wm_861) rfl rfl rfl (by decide +kernel) ⟨Nat.le_of_ble_eq_true rfl, Nat.le_of_ble_eq_true rfl⟩) (va_recv (ci := 0) (q0 := 0) hK hP rfl rfl) hP hK hD hA hS rfl hl.1 rfl (Nat.le_of_ble_eq_true rfl) dMo_tokenArrives_96 ⟨Nat.le_of_ble_eq_true rfl, Nat.le_of_ble_eq_true rfl⟩ (fun u12 H locs hu12 hP hD hS => ?_)
          have hwp := hwp u12 hu12
          exact W.vret hx hb hr (fun t ht hW => ⟨⟨u12, rfl, hwp, uEnd ht hW hP hK hD hS hA⟩, hS.F ht⟩) hS.2.2 dMo_tokenArrives_99
  have hl := lv_entry ([.ref (a 0), .int x1, .int x2, .int x3, .int x4]) (n := 5) (Nat.le_of_ble_eq_true rfl)
  rw [lg_entry_eq]
  generalize (lg_sl ([.ref (a 0), .int x1, .int x2, .int x3, .int x4]) ++ List.replicate (5 - (lg_sl ([.ref (a 0), .int x1, .int x2, .int x3, .int x4])).length) Slot.unset).toArray = ls at hl ⊢
  have hl : lv_has ls 5 [(0, .ref (a 0)), (1, .int x1), (2, .int x2), (3, .int x3), (4, .int x4)] := hl
  refine lv_iload_n hx hb dMo_tokenArrives_0 rfl (lv_at hl 3 rfl) ?_
  refine lv_iconst (v := 1) hx hb dMo_tokenArrives_1 (by decide) ?_
  refine lv_icmp_ne hx hb dMo_tokenArrives_2 rfl (fun h13 => ?_) (fun h13 => ?_)
  · have hwp := hwp.1 h13
    refine lv_aload_n hx hb dMo_tokenArrives_17 rfl (lv_at hl 0 rfl) ?_
    refine va_get (D := D) (ci := 0) (C := RMo) (T := TMo) (N := 33) hx hb hts hin0 hown hK hP 0 rfl rfl 15 (by decide) k47 (fun _ h9 => h9) rfl dMo_tokenArrives_18 ?_
    refine lv_iconst (v := 4) hx hb dMo_tokenArrives_21 (by decide) ?_
    refine lv_iload_n hx hb dMo_tokenArrives_22 rfl (lv_at hl 2 rfl) ?_
    refine lv_imul hx hb dMo_tokenArrives_23 ?_
    refine lv_iload_n hx hb dMo_tokenArrives_24 rfl (lv_at hl 1 rfl) ?_
    refine lv_iadd hx hb dMo_tokenArrives_25 ?_
    refine lv_iload hx hb dMo_tokenArrives_26 (lv_at hl 4 rfl) ?_
    refine lv_aload_n hx hb dMo_tokenArrives_28 rfl (lv_at hl 0 rfl) ?_
    refine va_get (D := D) (ci := 0) (C := RMo) (T := TMo) (N := 33) hx hb hts hin0 hown hK hP 0 rfl rfl 15 (by decide) k47 (fun _ h9 => h9) rfl dMo_tokenArrives_29 ?_
    refine lv_iconst (v := 4) hx hb dMo_tokenArrives_32 (by decide) ?_
    refine lv_iload_n hx hb dMo_tokenArrives_33 rfl (lv_at hl 2 rfl) ?_
    refine lv_imul hx hb dMo_tokenArrives_34 ?_
    refine lv_iload_n hx hb dMo_tokenArrives_35 rfl (lv_at hl 1 rfl) ?_
    refine lv_iadd hx hb dMo_tokenArrives_36 ?_
    obtain ⟨hi14, hwp⟩ := hwp
    refine va_iald hx hb hK hP 12 0 rfl rfl hi14 dMo_tokenArrives_37 ?_
    refine lv_icmp_le hx hb dMo_tokenArrives_38 rfl (fun h15 => ?_) (fun h15 => ?_)
    · have hwp := hwp.1 h15
      refine lv_aload_n hx hb dMo_tokenArrives_46 rfl (lv_at hl 0 rfl) ?_
      refine va_get (D := D) (ci := 0) (C := RMo) (T := TMo) (N := 33) hx hb hts hin0 hown hK hP 0 rfl rfl 15 (by decide) k47 (fun _ h9 => h9) rfl dMo_tokenArrives_47 ?_
      refine lv_iconst (v := 4) hx hb dMo_tokenArrives_50 (by decide) ?_
      refine lv_iload_n hx hb dMo_tokenArrives_51 rfl (lv_at hl 2 rfl) ?_
      refine lv_imul hx hb dMo_tokenArrives_52 ?_
      refine lv_iload_n hx hb dMo_tokenArrives_53 rfl (lv_at hl 1 rfl) ?_
      refine lv_iadd hx hb dMo_tokenArrives_54 ?_
      obtain ⟨hi16, hwp⟩ := hwp
      refine va_iald hx hb hK hP 12 0 rfl rfl hi16 dMo_tokenArrives_55 ?_
      exact cut56 σ x1 x2 x3 x4 ((4 * x2) + x1) (σ 15 ((4 * x2) + x1).toNatClampNeg) _ _ _ hwp hP hD hS (lv_sub hl [0, 1, 2, 3, 4] rfl)
    · have hwp := hwp.2 h15
      refine lv_iload hx hb dMo_tokenArrives_41 (lv_at hl 4 rfl) ?_
      refine lv_goto hx hb dMo_tokenArrives_43 rfl ?_
      exact cut56 σ x1 x2 x3 x4 ((4 * x2) + x1) x4 _ _ _ hwp hP hD hS (lv_sub hl [0, 1, 2, 3, 4] rfl)
  · have hwp := hwp.2 h13
    refine lv_aload_n hx hb dMo_tokenArrives_5 rfl (lv_at hl 0 rfl) ?_
    refine lv_iload_n hx hb dMo_tokenArrives_6 rfl (lv_at hl 2 rfl) ?_
    refine va_put (ty := .int) (D := D) (ci := 0) (C := RMo) (T := TMo) (N := 33) hx hb hts hin0 tyMo tyMo_ok nmMo hown hK hP hD hS 0 rfl rfl 17 (by decide) k134 (fun _ h9 => h9) rfl (by decide +kernel) rfl rfl (Nat.le_of_ble_eq_true rfl) dMo_tokenArrives_7 (fun H locs hP hD hS => ?_)
    obtain ⟨σ17, eσ17⟩ : ∃ z, z = up2 σ 17 0 x2 := ⟨_, rfl⟩
    have hwp := hwp σ17 eσ17
    have hP : va_P D clA (mw a tI tZ σ17) H := by rw [eσ17]; exact hP
    have hD : va_D A (mw a tI tZ σ17) := by rw [eσ17]; exact hD
    refine lv_aload_n hx hb dMo_tokenArrives_10 rfl (lv_at hl 0 rfl) ?_
    refine lv_iconst (v := 1) hx hb dMo_tokenArrives_11 (by decide) ?_
    refine lv_iload_n hx hb dMo_tokenArrives_12 rfl (lv_at hl 2 rfl) ?_
    obtain ⟨P18, hP18, hwp⟩ := hwp
    refine uCallVv (As := [.int 1, .int x2]) (rest := []) (C := RMo) ⟨hx, hb, hml, hown, hts⟩ (kM_comeIn l D a A tI tZ σ17 1 x2 P18 hP18) (cwV 2 hts (gdV wm_854 wm_856 wp_17 wm_13 wm_857) rfl rfl rfl (by decide +kernel) ⟨Nat.le_of_ble_eq_true rfl, Nat.le_of_ble_eq_true rfl⟩) (va_recv (ci := 0) (q0 := 0) hK hP rfl rfl) hP hK hD hA hS rfl hl.1 rfl (Nat.le_of_ble_eq_true rfl) dMo_tokenArrives_13 ⟨Nat.le_of_ble_eq_true rfl, Nat.le_of_ble_eq_true rfl⟩ (fun u19 H locs hu19 hP hD hS => ?_)
    have hwp := hwp u19 hu19
    exact W.vret hx hb hr (fun t ht hW => ⟨⟨u19, rfl, hwp, uEnd ht hW hP hK hD hS hA⟩, hS.F ht⟩) hS.2.2 dMo_tokenArrives_16
-- private void treeArrives(int, int, int)
def wM_treeArrives_20 (R : MS → Prop) (σ : MS) (y1 : Int32) (y2 : Int32) (y3 : Int32) : Prop :=
  (∃ P1 : MS → Prop, wM_goOn P1 σ y2 ∧ (∀ (u2 : MS), P1 u2 → R u2))
def wM_treeArrives (R : MS → Prop) (σ : MS) (x1 x2 x3 : Int32) : Prop :=
  (((¬ x3 = 0) → (vp_in x2 4 ∧ (∀ σ5 : MS, σ5 = up2 σ 20 x2.toNatClampNeg x2 → wM_treeArrives_20 R σ5 x1 x2 x3))) ∧ ((x3 = 0) → (∃ P6 : MS → Prop, wM_enqueue P6 σ x2 x1 ∧ (∀ (u7 : MS), P6 u7 → wM_treeArrives_20 R u7 x1 x2 x3))))
abbrev wsMo_treeArrives : List Cond := .code yMo_treeArrives cMo_treeArrives 4 none :: wg
abbrev rmM_treeArrives : Room := { frames := 2, cells := 0, slots := 0, locals := 49 }
set_option maxHeartbeats 4000000 in
set_option maxRecDepth 100000 in
theorem kM_treeArrives (l : Launch) (D : va_G) (a : Nat → Nat) (A : Nat → Prop) (tI tZ : ClassId) (σ : MS) (x1 x2 x3 : Int32) (R : MS → Prop) (hwp : wM_treeArrives R σ x1 x2 x3) : Met l yMo_treeArrives wsMo_treeArrives rmM_treeArrives (va_Pc [.ref (a 0), .int x1, .int x2, .int x3] (uI D clA (mT tI tZ) A false (mw a tI tZ) σ)) (va_Qv R (uI D clA (mT tI tZ) A false (mw a tI tZ)) A) 0 0 A := by
  refine Met.ofW (cc := cMo_treeArrives) (maxL := 4) (ret := none) (by decide) rfl ?_
  intro p e s m args below meth c s₁ B hml hv
  obtain ⟨rfl, hP, hK, hD, hA⟩ := hv
  have hx := B.exec
  have hb := B.bytes
  have hr := B.returns
  have hts := atoms_spec (ws := wsMo_treeArrives) B.pre
  have hown : s.vm.findClass RMo = some m.cls := findClass_of_methodNamed B.named
  have hlocks := B.notSynchronized
  have hin0 : ∀ w ∈ u_ws RMo TMo 33, w ∈ wsMo_treeArrives := fun w h => List.mem_cons_of_mem _ (inMo w h)
  have k56 := hts _ (List.mem_cons_of_mem _ wm_756)
  have hS : va_S A s.heap s.heap [] := va_S.rf
  have cut20 : ∀ (σ : MS) (y1 : Int32) (y2 : Int32) (y3 : Int32) (H : Heap) (locs : List Loc) (ls : Array Slot), wM_treeArrives_20 R σ y1 y2 y3 → va_P D clA (mw a tI tZ σ) H → va_D A (mw a tI tZ σ) → va_S A s.heap H locs → lv_has ls 4 [(0, .ref (a 0)), (1, .int y1), (2, .int y2), (3, .int y3)] → W p l e (headSpec wsMo_treeArrives rmM_treeArrives).room s m ([.ref (a 0), .int x1, .int x2, .int x3] : List Value).toArray below meth c H locs 0 0 (MQ below (va_Qv R (uI D clA (mT tI tZ) A false (mw a tI tZ)) A) ([.ref (a 0), .int x1, .int x2, .int x3] : List Value).toArray s 0 0 A) (F0 m 20 ls []) := by
    intro σ y1 y2 y3 H locs ls hwp hP hD hS hl
    refine lv_aload_n hx hb dMo_treeArrives_20 rfl (lv_at hl 0 rfl) ?_
    refine lv_iload_n hx hb dMo_treeArrives_21 rfl (lv_at hl 2 rfl) ?_
    obtain ⟨P1, hP1, hwp⟩ := hwp
    refine uCallVv (As := [.int y2]) (rest := []) (C := RMo) ⟨hx, hb, hml, hown, hts⟩ (kM_goOn l D a A tI tZ σ y2 P1 hP1) (cwV 1 hts (gdV wm_878 wm_880 wp_23 wm_13 wm_881) rfl rfl rfl (by decide +kernel) ⟨Nat.le_of_ble_eq_true rfl, Nat.le_of_ble_eq_true rfl⟩) (va_recv (ci := 0) (q0 := 0) hK hP rfl rfl) hP hK hD hA hS rfl hl.1 rfl (Nat.le_of_ble_eq_true rfl) dMo_treeArrives_22 ⟨Nat.le_of_ble_eq_true rfl, Nat.le_of_ble_eq_true rfl⟩ (fun u2 H locs hu2 hP hD hS => ?_)
    have hwp := hwp u2 hu2
    exact W.vret hx hb hr (fun t ht hW => ⟨⟨u2, rfl, hwp, uEnd ht hW hP hK hD hS hA⟩, hS.F ht⟩) hS.2.2 dMo_treeArrives_25
  have hl := lv_entry ([.ref (a 0), .int x1, .int x2, .int x3]) (n := 4) (Nat.le_of_ble_eq_true rfl)
  rw [lg_entry_eq]
  generalize (lg_sl ([.ref (a 0), .int x1, .int x2, .int x3]) ++ List.replicate (4 - (lg_sl ([.ref (a 0), .int x1, .int x2, .int x3])).length) Slot.unset).toArray = ls at hl ⊢
  have hl : lv_has ls 4 [(0, .ref (a 0)), (1, .int x1), (2, .int x2), (3, .int x3)] := hl
  refine lv_iload_n hx hb dMo_treeArrives_0 rfl (lv_at hl 3 rfl) ?_
  refine lv_if_ne hx hb dMo_treeArrives_1 rfl (fun h3 => ?_) (fun h3 => ?_)
  · have hwp := hwp.1 h3
    refine lv_aload_n hx hb dMo_treeArrives_13 rfl (lv_at hl 0 rfl) ?_
    refine va_get (D := D) (ci := 0) (C := RMo) (T := TMo) (N := 33) hx hb hts hin0 hown hK hP 0 rfl rfl 20 (by decide) k56 (fun _ h9 => h9) rfl dMo_treeArrives_14 ?_
    refine lv_iload_n hx hb dMo_treeArrives_17 rfl (lv_at hl 2 rfl) ?_
    refine lv_iload_n hx hb dMo_treeArrives_18 rfl (lv_at hl 2 rfl) ?_
    obtain ⟨hi4, hwp⟩ := hwp
    refine va_iast hx hb hK hP hD hS 15 0 rfl rfl hi4 dMo_treeArrives_19 (fun H locs hP hD hS => ?_)
    obtain ⟨σ5, eσ5⟩ : ∃ z, z = up2 σ 20 x2.toNatClampNeg x2 := ⟨_, rfl⟩
    have hwp := hwp σ5 eσ5
    have hP : va_P D clA (mw a tI tZ σ5) H := by rw [eσ5]; exact hP
    have hD : va_D A (mw a tI tZ σ5) := by rw [eσ5]; exact hD
    exact cut20 σ5 x1 x2 x3 _ _ _ hwp hP hD hS (lv_sub hl [0, 1, 2, 3] rfl)
  · have hwp := hwp.2 h3
    refine lv_aload_n hx hb dMo_treeArrives_4 rfl (lv_at hl 0 rfl) ?_
    refine lv_iload_n hx hb dMo_treeArrives_5 rfl (lv_at hl 2 rfl) ?_
    refine lv_iload_n hx hb dMo_treeArrives_6 rfl (lv_at hl 1 rfl) ?_
    obtain ⟨P6, hP6, hwp⟩ := hwp
    refine uCallVv (As := [.int x2, .int x1]) (rest := []) (C := RMo) ⟨hx, hb, hml, hown, hts⟩ (kM_enqueue l D a A tI tZ σ x2 x1 P6 hP6) (cwV 2 hts (gdV wm_874 wm_876 wp_22 wm_13 wm_877) rfl rfl rfl (by decide +kernel) ⟨Nat.le_of_ble_eq_true rfl, Nat.le_of_ble_eq_true rfl⟩) (va_recv (ci := 0) (q0 := 0) hK hP rfl rfl) hP hK hD hA hS rfl hl.1 rfl (Nat.le_of_ble_eq_true rfl) dMo_treeArrives_7 ⟨Nat.le_of_ble_eq_true rfl, Nat.le_of_ble_eq_true rfl⟩ (fun u7 H locs hu7 hP hD hS => ?_)
    have hwp := hwp u7 hu7
    refine lv_goto hx hb dMo_treeArrives_10 rfl ?_
    exact cut20 u7 x1 x2 x3 _ _ _ hwp hP hD hS (lv_sub hl [0, 1, 2, 3] rfl)
-- private void ringArrives(int, int, int)
def wM_ringArrives_136 (R : MS → Prop) (σ : MS) (y1 : Int32) (y2 : Int32) (y3 : Int32) (y4 : Int32) (z1 : Int32) (z2 : Int32) (z3 : Int32) (z4 : Int32) (z5 : Int32) : Prop :=
  (∃ P1 : MS → Prop, wM_send P1 σ z1 z2 z3 z4 z5 ∧ (∀ (u2 : MS), P1 u2 → R u2))
def wM_ringArrives_103 (R : MS → Prop) (σ : MS) (y1 : Int32) (y2 : Int32) (y3 : Int32) (y4 : Int32) : Prop :=
  (vp_in y1 4 ∧ (∀ σ4 : MS, σ4 = up2 σ 26 y1.toNatClampNeg (vp_nar .boolean 1) → (vp_in y1 4 ∧ (((y3 ≤ (σ4 24 y1.toNatClampNeg)) → (vp_in y1 4 ∧ wM_ringArrives_136 R σ4 y1 y2 y3 y4 y1 y4 3 0 (σ4 24 y1.toNatClampNeg))) ∧ ((¬ y3 ≤ (σ4 24 y1.toNatClampNeg)) → wM_ringArrives_136 R σ4 y1 y2 y3 y4 y1 y4 3 0 y3)))))
def wM_ringArrives (R : MS → Prop) (σ : MS) (x1 x2 x3 : Int32) : Prop :=
  (∀ v8 : Int32, v8 = (x1 + 1) - (x1 + 1) / 4 * 4 → (((¬ x2 = 1) → (vp_in x1 4 ∧ (((¬ x3 = (σ 24 x1.toNatClampNeg)) → (vp_in x1 4 ∧ ((((σ 24 x1.toNatClampNeg) < x3) → wM_ringArrives_103 R σ x1 x2 x3 v8) ∧ ((¬ (σ 24 x1.toNatClampNeg) < x3) → (vp_in x1 4 ∧ (((¬ (σ 26 x1.toNatClampNeg) = 0) → R σ) ∧ (((σ 26 x1.toNatClampNeg) = 0) → wM_ringArrives_103 R σ x1 x2 x3 v8))))))) ∧ ((x3 = (σ 24 x1.toNatClampNeg)) → (vp_in x1 4 ∧ (∀ σ17 : MS, σ17 = up2 σ 26 x1.toNatClampNeg (vp_nar .boolean 0) → (vp_in x1 4 ∧ (∀ σ19 : MS, σ19 = up2 σ17 25 x1.toNatClampNeg x3 → (∃ P20 : MS → Prop, wM_send P20 σ19 x1 v8 3 1 x3 ∧ (∀ (u21 : MS), P20 u21 → R u21)))))))))) ∧ ((x2 = 1) → (vp_in x1 4 ∧ (((x3 = (σ 24 x1.toNatClampNeg)) → R σ) ∧ ((¬ x3 = (σ 24 x1.toNatClampNeg)) → (vp_in x1 4 ∧ (∀ σ25 : MS, σ25 = up2 σ 25 x1.toNatClampNeg x3 → (vp_in x1 4 ∧ (∀ σ27 : MS, σ27 = up2 σ25 26 x1.toNatClampNeg (vp_nar .boolean 0) → (∃ P28 : MS → Prop, wM_send P28 σ27 x1 v8 3 1 x3 ∧ (∀ (u29 : MS), P28 u29 → R u29))))))))))))
abbrev wsMo_ringArrives : List Cond := .code yMo_ringArrives cMo_ringArrives 5 none :: wg
abbrev rmM_ringArrives : Room := { frames := 1, cells := 0, slots := 0, locals := 27 }
set_option maxHeartbeats 4000000 in
set_option maxRecDepth 100000 in
theorem kM_ringArrives (l : Launch) (D : va_G) (a : Nat → Nat) (A : Nat → Prop) (tI tZ : ClassId) (σ : MS) (x1 x2 x3 : Int32) (R : MS → Prop) (hwp : wM_ringArrives R σ x1 x2 x3) : Met l yMo_ringArrives wsMo_ringArrives rmM_ringArrives (va_Pc [.ref (a 0), .int x1, .int x2, .int x3] (uI D clA (mT tI tZ) A false (mw a tI tZ) σ)) (va_Qv R (uI D clA (mT tI tZ) A false (mw a tI tZ)) A) 0 0 A := by
  refine Met.ofW (cc := cMo_ringArrives) (maxL := 5) (ret := none) (by decide) rfl ?_
  intro p e s m args below meth c s₁ B hml hv
  obtain ⟨rfl, hP, hK, hD, hA⟩ := hv
  have hx := B.exec
  have hb := B.bytes
  have hr := B.returns
  have hts := atoms_spec (ws := wsMo_ringArrives) B.pre
  have hown : s.vm.findClass RMo = some m.cls := findClass_of_methodNamed B.named
  have hlocks := B.notSynchronized
  have hin0 : ∀ w ∈ u_ws RMo TMo 33, w ∈ wsMo_ringArrives := fun w h => List.mem_cons_of_mem _ (inMo w h)
  have k69 := hts _ (List.mem_cons_of_mem _ wm_760)
  have k72 := hts _ (List.mem_cons_of_mem _ wm_761)
  have k75 := hts _ (List.mem_cons_of_mem _ wm_762)
  have hS : va_S A s.heap s.heap [] := va_S.rf
  have cut136 : ∀ (σ : MS) (y1 : Int32) (y2 : Int32) (y3 : Int32) (y4 : Int32) (z1 : Int32) (z2 : Int32) (z3 : Int32) (z4 : Int32) (z5 : Int32) (H : Heap) (locs : List Loc) (ls : Array Slot), wM_ringArrives_136 R σ y1 y2 y3 y4 z1 z2 z3 z4 z5 → va_P D clA (mw a tI tZ σ) H → va_D A (mw a tI tZ σ) → va_S A s.heap H locs → lv_has ls 5 [(0, .ref (a 0)), (1, .int y1), (2, .int y2), (3, .int y3), (4, .int y4)] → W p l e (headSpec wsMo_ringArrives rmM_ringArrives).room s m ([.ref (a 0), .int x1, .int x2, .int x3] : List Value).toArray below meth c H locs 0 0 (MQ below (va_Qv R (uI D clA (mT tI tZ) A false (mw a tI tZ)) A) ([.ref (a 0), .int x1, .int x2, .int x3] : List Value).toArray s 0 0 A) (F0 m 136 ls [.int z5, .int z4, .int z3, .int z2, .int z1, .ref (a 0)]) := by
    intro σ y1 y2 y3 y4 z1 z2 z3 z4 z5 H locs ls hwp hP hD hS hl
    obtain ⟨P1, hP1, hwp⟩ := hwp
    refine uCallVv (As := [.int z1, .int z2, .int z3, .int z4, .int z5]) (rest := []) (C := RMo) ⟨hx, hb, hml, hown, hts⟩ (kM_send l D a A tI tZ σ z1 z2 z3 z4 z5 P1 hP1) (cwV 5 hts (gdV wm_858 wm_860 wp_18 wm_13 wm_861) rfl rfl rfl (by decide +kernel) ⟨Nat.le_of_ble_eq_true rfl, Nat.le_of_ble_eq_true rfl⟩) (va_recv (ci := 0) (q0 := 0) hK hP rfl rfl) hP hK hD hA hS rfl hl.1 rfl (Nat.le_of_ble_eq_true rfl) dMo_ringArrives_136 ⟨Nat.le_of_ble_eq_true rfl, Nat.le_of_ble_eq_true rfl⟩ (fun u2 H locs hu2 hP hD hS => ?_)
    have hwp := hwp u2 hu2
    exact W.vret hx hb hr (fun t ht hW => ⟨⟨u2, rfl, hwp, uEnd ht hW hP hK hD hS hA⟩, hS.F ht⟩) hS.2.2 dMo_ringArrives_139
  have cut103 : ∀ (σ : MS) (y1 : Int32) (y2 : Int32) (y3 : Int32) (y4 : Int32) (H : Heap) (locs : List Loc) (ls : Array Slot), wM_ringArrives_103 R σ y1 y2 y3 y4 → va_P D clA (mw a tI tZ σ) H → va_D A (mw a tI tZ σ) → va_S A s.heap H locs → lv_has ls 5 [(0, .ref (a 0)), (1, .int y1), (2, .int y2), (3, .int y3), (4, .int y4)] → W p l e (headSpec wsMo_ringArrives rmM_ringArrives).room s m ([.ref (a 0), .int x1, .int x2, .int x3] : List Value).toArray below meth c H locs 0 0 (MQ below (va_Qv R (uI D clA (mT tI tZ) A false (mw a tI tZ)) A) ([.ref (a 0), .int x1, .int x2, .int x3] : List Value).toArray s 0 0 A) (F0 m 103 ls []) := by
    intro σ y1 y2 y3 y4 H locs ls hwp hP hD hS hl
    refine lv_aload_n hx hb dMo_ringArrives_103 rfl (lv_at hl 0 rfl) ?_
    refine va_get (D := D) (ci := 0) (C := RMo) (T := TMo) (N := 33) hx hb hts hin0 hown hK hP 0 rfl rfl 26 (by decide) k75 (fun _ h9 => h9) rfl dMo_ringArrives_104 ?_
    refine lv_iload_n hx hb dMo_ringArrives_107 rfl (lv_at hl 1 rfl) ?_
    refine lv_iconst (v := 1) hx hb dMo_ringArrives_108 (by decide) ?_
    obtain ⟨hi3, hwp⟩ := hwp
    refine va_zast hx hb hK hP hD hS 21 1 rfl rfl hi3 dMo_ringArrives_109 (fun H locs hP hD hS => ?_)
    obtain ⟨σ4, eσ4⟩ : ∃ z, z = up2 σ 26 y1.toNatClampNeg (vp_nar .boolean 1) := ⟨_, rfl⟩
    have hwp := hwp σ4 eσ4
    have hP : va_P D clA (mw a tI tZ σ4) H := by rw [eσ4]; exact hP
    have hD : va_D A (mw a tI tZ σ4) := by rw [eσ4]; exact hD
    refine lv_aload_n hx hb dMo_ringArrives_110 rfl (lv_at hl 0 rfl) ?_
    refine lv_iload_n hx hb dMo_ringArrives_111 rfl (lv_at hl 1 rfl) ?_
    refine lv_iload hx hb dMo_ringArrives_112 (lv_at hl 4 rfl) ?_
    refine lv_iconst (v := 3) hx hb dMo_ringArrives_114 (by decide) ?_
    refine lv_iconst (v := 0) hx hb dMo_ringArrives_115 (by decide) ?_
    refine lv_iload_n hx hb dMo_ringArrives_116 rfl (lv_at hl 3 rfl) ?_
    refine lv_aload_n hx hb dMo_ringArrives_117 rfl (lv_at hl 0 rfl) ?_
    refine va_get (D := D) (ci := 0) (C := RMo) (T := TMo) (N := 33) hx hb hts hin0 hown hK hP 0 rfl rfl 24 (by decide) k69 (fun _ h9 => h9) rfl dMo_ringArrives_118 ?_
    refine lv_iload_n hx hb dMo_ringArrives_121 rfl (lv_at hl 1 rfl) ?_
    obtain ⟨hi5, hwp⟩ := hwp
    refine va_iald hx hb hK hP 19 0 rfl rfl hi5 dMo_ringArrives_122 ?_
    refine lv_icmp_le hx hb dMo_ringArrives_123 rfl (fun h6 => ?_) (fun h6 => ?_)
    · have hwp := hwp.1 h6
      refine lv_aload_n hx hb dMo_ringArrives_130 rfl (lv_at hl 0 rfl) ?_
      refine va_get (D := D) (ci := 0) (C := RMo) (T := TMo) (N := 33) hx hb hts hin0 hown hK hP 0 rfl rfl 24 (by decide) k69 (fun _ h9 => h9) rfl dMo_ringArrives_131 ?_
      refine lv_iload_n hx hb dMo_ringArrives_134 rfl (lv_at hl 1 rfl) ?_
      obtain ⟨hi7, hwp⟩ := hwp
      refine va_iald hx hb hK hP 19 0 rfl rfl hi7 dMo_ringArrives_135 ?_
      exact cut136 σ4 y1 y2 y3 y4 y1 y4 3 0 (σ4 24 y1.toNatClampNeg) _ _ _ hwp hP hD hS (lv_sub hl [0, 1, 2, 3, 4] rfl)
    · have hwp := hwp.2 h6
      refine lv_iload_n hx hb dMo_ringArrives_126 rfl (lv_at hl 3 rfl) ?_
      refine lv_goto hx hb dMo_ringArrives_127 rfl ?_
      exact cut136 σ4 y1 y2 y3 y4 y1 y4 3 0 y3 _ _ _ hwp hP hD hS (lv_sub hl [0, 1, 2, 3, 4] rfl)
  have hl := lv_entry ([.ref (a 0), .int x1, .int x2, .int x3]) (n := 5) (Nat.le_of_ble_eq_true rfl)
  rw [lg_entry_eq]
  generalize (lg_sl ([.ref (a 0), .int x1, .int x2, .int x3]) ++ List.replicate (5 - (lg_sl ([.ref (a 0), .int x1, .int x2, .int x3])).length) Slot.unset).toArray = ls at hl ⊢
  have hl : lv_has ls 5 [(0, .ref (a 0)), (1, .int x1), (2, .int x2), (3, .int x3)] := hl
  refine lv_iload_n hx hb dMo_ringArrives_0 rfl (lv_at hl 1 rfl) ?_
  refine lv_iconst (v := 1) hx hb dMo_ringArrives_1 (by decide) ?_
  refine lv_iadd hx hb dMo_ringArrives_2 ?_
  refine lv_iconst (v := 4) hx hb dMo_ringArrives_3 (by decide) ?_
  refine lv_irem hx hb dMo_ringArrives_4 (by decide) ?_
  refine lv_topi (fun v8 ev8 => ?_)
  have hwp := hwp v8 ev8
  refine lv_istore hx hb dMo_ringArrives_5 hl (by decide) rfl (fun ls hl => ?_)
  have hl : lv_has ls 5 [(4, .int v8), (0, .ref (a 0)), (1, .int x1), (2, .int x2), (3, .int x3)] := hl
  refine lv_iload_n hx hb dMo_ringArrives_7 rfl (lv_at hl 3 rfl) ?_
  refine lv_iconst (v := 1) hx hb dMo_ringArrives_8 (by decide) ?_
  refine lv_icmp_ne hx hb dMo_ringArrives_9 rfl (fun h9 => ?_) (fun h9 => ?_)
  · have hwp := hwp.1 h9
    refine lv_iload_n hx hb dMo_ringArrives_47 rfl (lv_at hl 4 rfl) ?_
    refine lv_aload_n hx hb dMo_ringArrives_48 rfl (lv_at hl 1 rfl) ?_
    refine va_get (D := D) (ci := 0) (C := RMo) (T := TMo) (N := 33) hx hb hts hin0 hown hK hP 0 rfl rfl 24 (by decide) k69 (fun _ h9 => h9) rfl dMo_ringArrives_49 ?_
    refine lv_iload_n hx hb dMo_ringArrives_52 rfl (lv_at hl 2 rfl) ?_
    obtain ⟨hi10, hwp⟩ := hwp
    refine va_iald hx hb hK hP 19 0 rfl rfl hi10 dMo_ringArrives_53 ?_
    refine lv_icmp_ne hx hb dMo_ringArrives_54 rfl (fun h11 => ?_) (fun h11 => ?_)
    · have hwp := hwp.1 h11
      refine lv_iload_n hx hb dMo_ringArrives_84 rfl (lv_at hl 4 rfl) ?_
      refine lv_aload_n hx hb dMo_ringArrives_85 rfl (lv_at hl 1 rfl) ?_
      refine va_get (D := D) (ci := 0) (C := RMo) (T := TMo) (N := 33) hx hb hts hin0 hown hK hP 0 rfl rfl 24 (by decide) k69 (fun _ h9 => h9) rfl dMo_ringArrives_86 ?_
      refine lv_iload_n hx hb dMo_ringArrives_89 rfl (lv_at hl 2 rfl) ?_
      obtain ⟨hi12, hwp⟩ := hwp
      refine va_iald hx hb hK hP 19 0 rfl rfl hi12 dMo_ringArrives_90 ?_
      refine lv_icmp_gt hx hb dMo_ringArrives_91 rfl (fun h13 => ?_) (fun h13 => ?_)
      · have hwp := hwp.1 h13
        exact cut103 σ x1 x2 x3 v8 _ _ _ hwp hP hD hS (lv_sub hl [1, 2, 3, 4, 0] rfl)
      · have hwp := hwp.2 h13
        refine lv_aload_n hx hb dMo_ringArrives_94 rfl (lv_at hl 1 rfl) ?_
        refine va_get (D := D) (ci := 0) (C := RMo) (T := TMo) (N := 33) hx hb hts hin0 hown hK hP 0 rfl rfl 26 (by decide) k75 (fun _ h9 => h9) rfl dMo_ringArrives_95 ?_
        refine lv_iload_n hx hb dMo_ringArrives_98 rfl (lv_at hl 2 rfl) ?_
        obtain ⟨hi14, hwp⟩ := hwp
        refine va_zald hx hb hK hP 21 1 rfl rfl hi14 dMo_ringArrives_99 ?_
        refine lv_if_ne hx hb dMo_ringArrives_100 rfl (fun h15 => ?_) (fun h15 => ?_)
        · have hwp := hwp.1 h15
          exact W.vret hx hb hr (fun t ht hW => ⟨⟨σ, rfl, hwp, uEnd ht hW hP hK hD hS hA⟩, hS.F ht⟩) hS.2.2 dMo_ringArrives_139
        · have hwp := hwp.2 h15
          exact cut103 σ x1 x2 x3 v8 _ _ _ hwp hP hD hS (lv_sub hl [1, 2, 3, 4, 0] rfl)
    · have hwp := hwp.2 h11
      refine lv_aload_n hx hb dMo_ringArrives_57 rfl (lv_at hl 1 rfl) ?_
      refine va_get (D := D) (ci := 0) (C := RMo) (T := TMo) (N := 33) hx hb hts hin0 hown hK hP 0 rfl rfl 26 (by decide) k75 (fun _ h9 => h9) rfl dMo_ringArrives_58 ?_
      refine lv_iload_n hx hb dMo_ringArrives_61 rfl (lv_at hl 2 rfl) ?_
      refine lv_iconst (v := 0) hx hb dMo_ringArrives_62 (by decide) ?_
      obtain ⟨hi16, hwp⟩ := hwp
      refine va_zast hx hb hK hP hD hS 21 1 rfl rfl hi16 dMo_ringArrives_63 (fun H locs hP hD hS => ?_)
      obtain ⟨σ17, eσ17⟩ : ∃ z, z = up2 σ 26 x1.toNatClampNeg (vp_nar .boolean 0) := ⟨_, rfl⟩
      have hwp := hwp σ17 eσ17
      have hP : va_P D clA (mw a tI tZ σ17) H := by rw [eσ17]; exact hP
      have hD : va_D A (mw a tI tZ σ17) := by rw [eσ17]; exact hD
      refine lv_aload_n hx hb dMo_ringArrives_64 rfl (lv_at hl 1 rfl) ?_
      refine va_get (D := D) (ci := 0) (C := RMo) (T := TMo) (N := 33) hx hb hts hin0 hown hK hP 0 rfl rfl 25 (by decide) k72 (fun _ h9 => h9) rfl dMo_ringArrives_65 ?_
      refine lv_iload_n hx hb dMo_ringArrives_68 rfl (lv_at hl 2 rfl) ?_
      refine lv_iload_n hx hb dMo_ringArrives_69 rfl (lv_at hl 4 rfl) ?_
      obtain ⟨hi18, hwp⟩ := hwp
      refine va_iast hx hb hK hP hD hS 20 0 rfl rfl hi18 dMo_ringArrives_70 (fun H locs hP hD hS => ?_)
      obtain ⟨σ19, eσ19⟩ : ∃ z, z = up2 σ17 25 x1.toNatClampNeg x3 := ⟨_, rfl⟩
      have hwp := hwp σ19 eσ19
      have hP : va_P D clA (mw a tI tZ σ19) H := by rw [eσ19]; exact hP
      have hD : va_D A (mw a tI tZ σ19) := by rw [eσ19]; exact hD
      refine lv_aload_n hx hb dMo_ringArrives_71 rfl (lv_at hl 1 rfl) ?_
      refine lv_iload_n hx hb dMo_ringArrives_72 rfl (lv_at hl 2 rfl) ?_
      refine lv_iload hx hb dMo_ringArrives_73 (lv_at hl 0 rfl) ?_
      refine lv_iconst (v := 3) hx hb dMo_ringArrives_75 (by decide) ?_
      refine lv_iconst (v := 1) hx hb dMo_ringArrives_76 (by decide) ?_
      refine lv_iload_n hx hb dMo_ringArrives_77 rfl (lv_at hl 4 rfl) ?_
      obtain ⟨P20, hP20, hwp⟩ := hwp
      refine uCallVv (As := [.int x1, .int v8, .int 3, .int 1, .int x3]) (rest := []) (C := RMo) ⟨hx, hb, hml, hown, hts⟩ (kM_send l D a A tI tZ σ19 x1 v8 3 1 x3 P20 hP20) (cwV 5 hts (gdV wm_858 wm_860 wp_18 wm_13 wm_861) rfl rfl rfl (by decide +kernel) ⟨Nat.le_of_ble_eq_true rfl, Nat.le_of_ble_eq_true rfl⟩) (va_recv (ci := 0) (q0 := 0) hK hP rfl rfl) hP hK hD hA hS rfl hl.1 rfl (Nat.le_of_ble_eq_true rfl) dMo_ringArrives_78 ⟨Nat.le_of_ble_eq_true rfl, Nat.le_of_ble_eq_true rfl⟩ (fun u21 H locs hu21 hP hD hS => ?_)
      have hwp := hwp u21 hu21
      refine lv_goto hx hb dMo_ringArrives_81 rfl ?_
      exact W.vret hx hb hr (fun t ht hW => ⟨⟨u21, rfl, hwp, uEnd ht hW hP hK hD hS hA⟩, hS.F ht⟩) hS.2.2 dMo_ringArrives_139
  · have hwp := hwp.2 h9
    refine lv_iload_n hx hb dMo_ringArrives_12 rfl (lv_at hl 4 rfl) ?_
    refine lv_aload_n hx hb dMo_ringArrives_13 rfl (lv_at hl 1 rfl) ?_
    refine va_get (D := D) (ci := 0) (C := RMo) (T := TMo) (N := 33) hx hb hts hin0 hown hK hP 0 rfl rfl 24 (by decide) k69 (fun _ h9 => h9) rfl dMo_ringArrives_14 ?_
    refine lv_iload_n hx hb dMo_ringArrives_17 rfl (lv_at hl 2 rfl) ?_
    obtain ⟨hi22, hwp⟩ := hwp
    refine va_iald hx hb hK hP 19 0 rfl rfl hi22 dMo_ringArrives_18 ?_
    refine lv_icmp_eq hx hb dMo_ringArrives_19 rfl (fun h23 => ?_) (fun h23 => ?_)
    · have hwp := hwp.1 h23
      exact W.vret hx hb hr (fun t ht hW => ⟨⟨σ, rfl, hwp, uEnd ht hW hP hK hD hS hA⟩, hS.F ht⟩) hS.2.2 dMo_ringArrives_46
    · have hwp := hwp.2 h23
      refine lv_aload_n hx hb dMo_ringArrives_22 rfl (lv_at hl 1 rfl) ?_
      refine va_get (D := D) (ci := 0) (C := RMo) (T := TMo) (N := 33) hx hb hts hin0 hown hK hP 0 rfl rfl 25 (by decide) k72 (fun _ h9 => h9) rfl dMo_ringArrives_23 ?_
      refine lv_iload_n hx hb dMo_ringArrives_26 rfl (lv_at hl 2 rfl) ?_
      refine lv_iload_n hx hb dMo_ringArrives_27 rfl (lv_at hl 4 rfl) ?_
      obtain ⟨hi24, hwp⟩ := hwp
      refine va_iast hx hb hK hP hD hS 20 0 rfl rfl hi24 dMo_ringArrives_28 (fun H locs hP hD hS => ?_)
      obtain ⟨σ25, eσ25⟩ : ∃ z, z = up2 σ 25 x1.toNatClampNeg x3 := ⟨_, rfl⟩
      have hwp := hwp σ25 eσ25
      have hP : va_P D clA (mw a tI tZ σ25) H := by rw [eσ25]; exact hP
      have hD : va_D A (mw a tI tZ σ25) := by rw [eσ25]; exact hD
      refine lv_aload_n hx hb dMo_ringArrives_29 rfl (lv_at hl 1 rfl) ?_
      refine va_get (D := D) (ci := 0) (C := RMo) (T := TMo) (N := 33) hx hb hts hin0 hown hK hP 0 rfl rfl 26 (by decide) k75 (fun _ h9 => h9) rfl dMo_ringArrives_30 ?_
      refine lv_iload_n hx hb dMo_ringArrives_33 rfl (lv_at hl 2 rfl) ?_
      refine lv_iconst (v := 0) hx hb dMo_ringArrives_34 (by decide) ?_
      obtain ⟨hi26, hwp⟩ := hwp
      refine va_zast hx hb hK hP hD hS 21 1 rfl rfl hi26 dMo_ringArrives_35 (fun H locs hP hD hS => ?_)
      obtain ⟨σ27, eσ27⟩ : ∃ z, z = up2 σ25 26 x1.toNatClampNeg (vp_nar .boolean 0) := ⟨_, rfl⟩
      have hwp := hwp σ27 eσ27
      have hP : va_P D clA (mw a tI tZ σ27) H := by rw [eσ27]; exact hP
      have hD : va_D A (mw a tI tZ σ27) := by rw [eσ27]; exact hD
      refine lv_aload_n hx hb dMo_ringArrives_36 rfl (lv_at hl 1 rfl) ?_
      refine lv_iload_n hx hb dMo_ringArrives_37 rfl (lv_at hl 2 rfl) ?_
      refine lv_iload hx hb dMo_ringArrives_38 (lv_at hl 0 rfl) ?_
      refine lv_iconst (v := 3) hx hb dMo_ringArrives_40 (by decide) ?_
      refine lv_iconst (v := 1) hx hb dMo_ringArrives_41 (by decide) ?_
      refine lv_iload_n hx hb dMo_ringArrives_42 rfl (lv_at hl 4 rfl) ?_
      obtain ⟨P28, hP28, hwp⟩ := hwp
      refine uCallVv (As := [.int x1, .int v8, .int 3, .int 1, .int x3]) (rest := []) (C := RMo) ⟨hx, hb, hml, hown, hts⟩ (kM_send l D a A tI tZ σ27 x1 v8 3 1 x3 P28 hP28) (cwV 5 hts (gdV wm_858 wm_860 wp_18 wm_13 wm_861) rfl rfl rfl (by decide +kernel) ⟨Nat.le_of_ble_eq_true rfl, Nat.le_of_ble_eq_true rfl⟩) (va_recv (ci := 0) (q0 := 0) hK hP rfl rfl) hP hK hD hA hS rfl hl.1 rfl (Nat.le_of_ble_eq_true rfl) dMo_ringArrives_43 ⟨Nat.le_of_ble_eq_true rfl, Nat.le_of_ble_eq_true rfl⟩ (fun u29 H locs hu29 hP hD hS => ?_)
      have hwp := hwp u29 hu29
      exact W.vret hx hb hr (fun t ht hW => ⟨⟨u29, rfl, hwp, uEnd ht hW hP hK hD hS hA⟩, hS.F ht⟩) hS.2.2 dMo_ringArrives_46
-- private void workArrives(int, int, int)
def wM_workArrives_61 (R : MS → Prop) (σ : MS) (y1 : Int32) (y2 : Int32) (y3 : Int32) : Prop :=
  (∃ P1 : MS → Prop, wM_settle P1 σ y2 ∧ (∀ (u2 : MS), P1 u2 → R u2))
def wM_workArrives_54 (R : MS → Prop) (σ : MS) (y1 : Int32) (y2 : Int32) (y3 : Int32) : Prop :=
  (vp_in y2 4 ∧ (∀ σ4 : MS, σ4 = up2 σ 29 y2.toNatClampNeg (vp_nar .boolean 1) → wM_workArrives_61 R σ4 y1 y2 y3))
def wM_workArrives_35 (R : MS → Prop) (σ : MS) (y1 : Int32) (y2 : Int32) (y3 : Int32) : Prop :=
  (∃ P5 : MS → Prop, wM_send P5 σ y2 y1 4 1 0 ∧ (∀ (u6 : MS), P5 u6 → wM_workArrives_54 R u6 y1 y2 y3))
def wM_workArrives (R : MS → Prop) (σ : MS) (x1 x2 x3 : Int32) : Prop :=
  (((¬ x3 = 1) → ((((σ 27 0) = x2) → wM_workArrives_35 R σ x1 x2 x3) ∧ ((¬ (σ 27 0) = x2) → (vp_in x2 4 ∧ ((((σ 30 x2.toNatClampNeg) < 0) → (vp_in x2 4 ∧ (∀ σ12 : MS, σ12 = up2 σ 30 x2.toNatClampNeg x1 → wM_workArrives_54 R σ12 x1 x2 x3))) ∧ ((¬ (σ 30 x2.toNatClampNeg) < 0) → wM_workArrives_35 R σ x1 x2 x3)))))) ∧ ((x3 = 1) → (vp_in x2 4 ∧ (vp_in x2 4 ∧ (∀ σ15 : MS, σ15 = up2 σ 31 x2.toNatClampNeg ((σ 31 x2.toNatClampNeg) - 1) → wM_workArrives_61 R σ15 x1 x2 x3)))))
abbrev wsMo_workArrives : List Cond := .code yMo_workArrives cMo_workArrives 4 none :: wg
abbrev rmM_workArrives : Room := { frames := 2, cells := 0, slots := 0, locals := 49 }
set_option maxHeartbeats 4000000 in
set_option maxRecDepth 100000 in
theorem kM_workArrives (l : Launch) (D : va_G) (a : Nat → Nat) (A : Nat → Prop) (tI tZ : ClassId) (σ : MS) (x1 x2 x3 : Int32) (R : MS → Prop) (hwp : wM_workArrives R σ x1 x2 x3) : Met l yMo_workArrives wsMo_workArrives rmM_workArrives (va_Pc [.ref (a 0), .int x1, .int x2, .int x3] (uI D clA (mT tI tZ) A false (mw a tI tZ) σ)) (va_Qv R (uI D clA (mT tI tZ) A false (mw a tI tZ)) A) 0 0 A := by
  refine Met.ofW (cc := cMo_workArrives) (maxL := 4) (ret := none) (by decide) rfl ?_
  intro p e s m args below meth c s₁ B hml hv
  obtain ⟨rfl, hP, hK, hD, hA⟩ := hv
  have hx := B.exec
  have hb := B.bytes
  have hr := B.returns
  have hts := atoms_spec (ws := wsMo_workArrives) B.pre
  have hown : s.vm.findClass RMo = some m.cls := findClass_of_methodNamed B.named
  have hlocks := B.notSynchronized
  have hin0 : ∀ w ∈ u_ws RMo TMo 33, w ∈ wsMo_workArrives := fun w h => List.mem_cons_of_mem _ (inMo w h)
  have k78 := hts _ (List.mem_cons_of_mem _ wm_763)
  have k81 := hts _ (List.mem_cons_of_mem _ wm_765)
  have k84 := hts _ (List.mem_cons_of_mem _ wm_766)
  have k87 := hts _ (List.mem_cons_of_mem _ wm_767)
  have hS : va_S A s.heap s.heap [] := va_S.rf
  have cut61 : ∀ (σ : MS) (y1 : Int32) (y2 : Int32) (y3 : Int32) (H : Heap) (locs : List Loc) (ls : Array Slot), wM_workArrives_61 R σ y1 y2 y3 → va_P D clA (mw a tI tZ σ) H → va_D A (mw a tI tZ σ) → va_S A s.heap H locs → lv_has ls 4 [(0, .ref (a 0)), (1, .int y1), (2, .int y2), (3, .int y3)] → W p l e (headSpec wsMo_workArrives rmM_workArrives).room s m ([.ref (a 0), .int x1, .int x2, .int x3] : List Value).toArray below meth c H locs 0 0 (MQ below (va_Qv R (uI D clA (mT tI tZ) A false (mw a tI tZ)) A) ([.ref (a 0), .int x1, .int x2, .int x3] : List Value).toArray s 0 0 A) (F0 m 61 ls []) := by
    intro σ y1 y2 y3 H locs ls hwp hP hD hS hl
    refine lv_aload_n hx hb dMo_workArrives_61 rfl (lv_at hl 0 rfl) ?_
    refine lv_iload_n hx hb dMo_workArrives_62 rfl (lv_at hl 2 rfl) ?_
    obtain ⟨P1, hP1, hwp⟩ := hwp
    refine uCallVv (As := [.int y2]) (rest := []) (C := RMo) ⟨hx, hb, hml, hown, hts⟩ (kM_settle l D a A tI tZ σ y2 P1 hP1) (cwV 1 hts (gdV wm_894 wm_896 wp_27 wm_13 wm_897) rfl rfl rfl (by decide +kernel) ⟨Nat.le_of_ble_eq_true rfl, Nat.le_of_ble_eq_true rfl⟩) (va_recv (ci := 0) (q0 := 0) hK hP rfl rfl) hP hK hD hA hS rfl hl.1 rfl (Nat.le_of_ble_eq_true rfl) dMo_workArrives_63 ⟨Nat.le_of_ble_eq_true rfl, Nat.le_of_ble_eq_true rfl⟩ (fun u2 H locs hu2 hP hD hS => ?_)
    have hwp := hwp u2 hu2
    exact W.vret hx hb hr (fun t ht hW => ⟨⟨u2, rfl, hwp, uEnd ht hW hP hK hD hS hA⟩, hS.F ht⟩) hS.2.2 dMo_workArrives_66
  have cut54 : ∀ (σ : MS) (y1 : Int32) (y2 : Int32) (y3 : Int32) (H : Heap) (locs : List Loc) (ls : Array Slot), wM_workArrives_54 R σ y1 y2 y3 → va_P D clA (mw a tI tZ σ) H → va_D A (mw a tI tZ σ) → va_S A s.heap H locs → lv_has ls 4 [(0, .ref (a 0)), (1, .int y1), (2, .int y2), (3, .int y3)] → W p l e (headSpec wsMo_workArrives rmM_workArrives).room s m ([.ref (a 0), .int x1, .int x2, .int x3] : List Value).toArray below meth c H locs 0 0 (MQ below (va_Qv R (uI D clA (mT tI tZ) A false (mw a tI tZ)) A) ([.ref (a 0), .int x1, .int x2, .int x3] : List Value).toArray s 0 0 A) (F0 m 54 ls []) := by
    intro σ y1 y2 y3 H locs ls hwp hP hD hS hl
    refine lv_aload_n hx hb dMo_workArrives_54 rfl (lv_at hl 0 rfl) ?_
    refine va_get (D := D) (ci := 0) (C := RMo) (T := TMo) (N := 33) hx hb hts hin0 hown hK hP 0 rfl rfl 29 (by decide) k81 (fun _ h9 => h9) rfl dMo_workArrives_55 ?_
    refine lv_iload_n hx hb dMo_workArrives_58 rfl (lv_at hl 2 rfl) ?_
    refine lv_iconst (v := 1) hx hb dMo_workArrives_59 (by decide) ?_
    obtain ⟨hi3, hwp⟩ := hwp
    refine va_zast hx hb hK hP hD hS 22 1 rfl rfl hi3 dMo_workArrives_60 (fun H locs hP hD hS => ?_)
    obtain ⟨σ4, eσ4⟩ : ∃ z, z = up2 σ 29 y2.toNatClampNeg (vp_nar .boolean 1) := ⟨_, rfl⟩
    have hwp := hwp σ4 eσ4
    have hP : va_P D clA (mw a tI tZ σ4) H := by rw [eσ4]; exact hP
    have hD : va_D A (mw a tI tZ σ4) := by rw [eσ4]; exact hD
    exact cut61 σ4 y1 y2 y3 _ _ _ hwp hP hD hS (lv_sub hl [0, 1, 2, 3] rfl)
  have cut35 : ∀ (σ : MS) (y1 : Int32) (y2 : Int32) (y3 : Int32) (H : Heap) (locs : List Loc) (ls : Array Slot), wM_workArrives_35 R σ y1 y2 y3 → va_P D clA (mw a tI tZ σ) H → va_D A (mw a tI tZ σ) → va_S A s.heap H locs → lv_has ls 4 [(0, .ref (a 0)), (1, .int y1), (2, .int y2), (3, .int y3)] → W p l e (headSpec wsMo_workArrives rmM_workArrives).room s m ([.ref (a 0), .int x1, .int x2, .int x3] : List Value).toArray below meth c H locs 0 0 (MQ below (va_Qv R (uI D clA (mT tI tZ) A false (mw a tI tZ)) A) ([.ref (a 0), .int x1, .int x2, .int x3] : List Value).toArray s 0 0 A) (F0 m 35 ls []) := by
    intro σ y1 y2 y3 H locs ls hwp hP hD hS hl
    refine lv_aload_n hx hb dMo_workArrives_35 rfl (lv_at hl 0 rfl) ?_
    refine lv_iload_n hx hb dMo_workArrives_36 rfl (lv_at hl 2 rfl) ?_
    refine lv_iload_n hx hb dMo_workArrives_37 rfl (lv_at hl 1 rfl) ?_
    refine lv_iconst (v := 4) hx hb dMo_workArrives_38 (by decide) ?_
    refine lv_iconst (v := 1) hx hb dMo_workArrives_39 (by decide) ?_
    refine lv_iconst (v := 0) hx hb dMo_workArrives_40 (by decide) ?_
    obtain ⟨P5, hP5, hwp⟩ := hwp
    refine uCallVv (As := [.int y2, .int y1, .int 4, .int 1, .int 0]) (rest := []) (C := RMo) ⟨hx, hb, hml, hown, hts⟩ (kM_send l D a A tI tZ σ y2 y1 4 1 0 P5 hP5) (cwV 5 hts (gdV wm_858 wm_860 wp_18 wm_13 wm_861) rfl rfl rfl (by decide +kernel) ⟨Nat.le_of_ble_eq_true rfl, Nat.le_of_ble_eq_true rfl⟩) (va_recv (ci := 0) (q0 := 0) hK hP rfl rfl) hP hK hD hA hS rfl hl.1 rfl (Nat.le_of_ble_eq_true rfl) dMo_workArrives_41 ⟨Nat.le_of_ble_eq_true rfl, Nat.le_of_ble_eq_true rfl⟩ (fun u6 H locs hu6 hP hD hS => ?_)
    have hwp := hwp u6 hu6
    refine lv_goto hx hb dMo_workArrives_44 rfl ?_
    exact cut54 u6 y1 y2 y3 _ _ _ hwp hP hD hS (lv_sub hl [0, 1, 2, 3] rfl)
  have hl := lv_entry ([.ref (a 0), .int x1, .int x2, .int x3]) (n := 4) (Nat.le_of_ble_eq_true rfl)
  rw [lg_entry_eq]
  generalize (lg_sl ([.ref (a 0), .int x1, .int x2, .int x3]) ++ List.replicate (4 - (lg_sl ([.ref (a 0), .int x1, .int x2, .int x3])).length) Slot.unset).toArray = ls at hl ⊢
  have hl : lv_has ls 4 [(0, .ref (a 0)), (1, .int x1), (2, .int x2), (3, .int x3)] := hl
  refine lv_iload_n hx hb dMo_workArrives_0 rfl (lv_at hl 3 rfl) ?_
  refine lv_iconst (v := 1) hx hb dMo_workArrives_1 (by decide) ?_
  refine lv_icmp_ne hx hb dMo_workArrives_2 rfl (fun h7 => ?_) (fun h7 => ?_)
  · have hwp := hwp.1 h7
    refine lv_aload_n hx hb dMo_workArrives_18 rfl (lv_at hl 0 rfl) ?_
    refine va_get (D := D) (ci := 0) (C := RMo) (T := TMo) (N := 33) hx hb hts hin0 hown hK hP 0 rfl rfl 27 (by decide) k78 (fun _ h9 => h9) rfl dMo_workArrives_19 ?_
    refine lv_iload_n hx hb dMo_workArrives_22 rfl (lv_at hl 2 rfl) ?_
    refine lv_icmp_eq hx hb dMo_workArrives_23 rfl (fun h8 => ?_) (fun h8 => ?_)
    · have hwp := hwp.1 h8
      exact cut35 σ x1 x2 x3 _ _ _ hwp hP hD hS (lv_sub hl [0, 1, 2, 3] rfl)
    · have hwp := hwp.2 h8
      refine lv_aload_n hx hb dMo_workArrives_26 rfl (lv_at hl 0 rfl) ?_
      refine va_get (D := D) (ci := 0) (C := RMo) (T := TMo) (N := 33) hx hb hts hin0 hown hK hP 0 rfl rfl 30 (by decide) k84 (fun _ h9 => h9) rfl dMo_workArrives_27 ?_
      refine lv_iload_n hx hb dMo_workArrives_30 rfl (lv_at hl 2 rfl) ?_
      obtain ⟨hi9, hwp⟩ := hwp
      refine va_iald hx hb hK hP 23 0 rfl rfl hi9 dMo_workArrives_31 ?_
      refine lv_if_lt hx hb dMo_workArrives_32 rfl (fun h10 => ?_) (fun h10 => ?_)
      · have hwp := hwp.1 h10
        refine lv_aload_n hx hb dMo_workArrives_47 rfl (lv_at hl 0 rfl) ?_
        refine va_get (D := D) (ci := 0) (C := RMo) (T := TMo) (N := 33) hx hb hts hin0 hown hK hP 0 rfl rfl 30 (by decide) k84 (fun _ h9 => h9) rfl dMo_workArrives_48 ?_
        refine lv_iload_n hx hb dMo_workArrives_51 rfl (lv_at hl 2 rfl) ?_
        refine lv_iload_n hx hb dMo_workArrives_52 rfl (lv_at hl 1 rfl) ?_
        obtain ⟨hi11, hwp⟩ := hwp
        refine va_iast hx hb hK hP hD hS 23 0 rfl rfl hi11 dMo_workArrives_53 (fun H locs hP hD hS => ?_)
        obtain ⟨σ12, eσ12⟩ : ∃ z, z = up2 σ 30 x2.toNatClampNeg x1 := ⟨_, rfl⟩
        have hwp := hwp σ12 eσ12
        have hP : va_P D clA (mw a tI tZ σ12) H := by rw [eσ12]; exact hP
        have hD : va_D A (mw a tI tZ σ12) := by rw [eσ12]; exact hD
        exact cut54 σ12 x1 x2 x3 _ _ _ hwp hP hD hS (lv_sub hl [0, 1, 2, 3] rfl)
      · have hwp := hwp.2 h10
        exact cut35 σ x1 x2 x3 _ _ _ hwp hP hD hS (lv_sub hl [0, 1, 2, 3] rfl)
  · have hwp := hwp.2 h7
    refine lv_aload_n hx hb dMo_workArrives_5 rfl (lv_at hl 0 rfl) ?_
    refine va_get (D := D) (ci := 0) (C := RMo) (T := TMo) (N := 33) hx hb hts hin0 hown hK hP 0 rfl rfl 31 (by decide) k87 (fun _ h9 => h9) rfl dMo_workArrives_6 ?_
    refine lv_iload_n hx hb dMo_workArrives_9 rfl (lv_at hl 2 rfl) ?_
    refine lv_dup2_11 hx hb dMo_workArrives_10 rfl rfl ?_
    obtain ⟨hi13, hwp⟩ := hwp
    refine va_iald hx hb hK hP 24 0 rfl rfl hi13 dMo_workArrives_11 ?_
    refine lv_iconst (v := 1) hx hb dMo_workArrives_12 (by decide) ?_
    refine lv_isub hx hb dMo_workArrives_13 ?_
    obtain ⟨hi14, hwp⟩ := hwp
    refine va_iast hx hb hK hP hD hS 24 0 rfl rfl hi14 dMo_workArrives_14 (fun H locs hP hD hS => ?_)
    obtain ⟨σ15, eσ15⟩ : ∃ z, z = up2 σ 31 x2.toNatClampNeg ((σ 31 x2.toNatClampNeg) - 1) := ⟨_, rfl⟩
    have hwp := hwp σ15 eσ15
    have hP : va_P D clA (mw a tI tZ σ15) H := by rw [eσ15]; exact hP
    have hD : va_D A (mw a tI tZ σ15) := by rw [eσ15]; exact hD
    refine lv_goto hx hb dMo_workArrives_15 rfl ?_
    exact cut61 σ15 x1 x2 x3 _ _ _ hwp hP hD hS (lv_sub hl [0, 1, 2, 3] rfl)
-- public void want(int, int)
def wM_want_62 (R : MS → Prop) (σ : MS) (y1 : Int32) (y2 : Int32) : Prop :=
  (vp_in ((4 * y1) + y2) 12 ∧ (∀ σ2 : MS, σ2 = up2 σ 8 ((4 * y1) + y2).toNatClampNeg 1 → (((¬ y1 = 0) → (((¬ y1 = 1) → (∃ P5 : MS → Prop, wM_enqueue P5 σ2 y2 y2 ∧ (∀ (u6 : MS), P5 u6 → (∃ P7 : MS → Prop, wM_goOn P7 u6 y2 ∧ (∀ (u8 : MS), P7 u8 → R u8))))) ∧ ((y1 = 1) → (vp_in (5 * y2) 16 ∧ (vp_in (5 * y2) 16 ∧ (∀ σ11 : MS, σ11 = up2 σ2 15 (5 * y2).toNatClampNeg ((σ2 15 (5 * y2).toNatClampNeg) + 1) → (vp_in (5 * y2) 16 ∧ (∃ P13 : MS → Prop, wM_sendAll P13 σ11 y2 1 0 (σ11 15 (5 * y2).toNatClampNeg) ∧ (∀ (u14 : MS), P13 u14 → R u14))))))))) ∧ ((y1 = 0) → (vp_in y2 4 ∧ (vp_in y2 4 ∧ (∀ σ17 : MS, σ17 = up2 σ2 11 y2.toNatClampNeg ((σ2 11 y2.toNatClampNeg) + 1) → (vp_in y2 4 ∧ (vp_in y2 4 ∧ (∀ σ20 : MS, σ20 = up2 σ17 12 y2.toNatClampNeg (σ17 11 y2.toNatClampNeg) → (vp_in y2 4 ∧ (∀ σ22 : MS, σ22 = up2 σ20 13 y2.toNatClampNeg 0 → (vp_in y2 4 ∧ (∃ P24 : MS → Prop, wM_sendAll P24 σ22 y2 0 0 (σ22 12 y2.toNatClampNeg) ∧ (∀ (u25 : MS), P24 u25 → R u25)))))))))))))))
def wM_want_31 (R : MS → Prop) (σ : MS) (y1 : Int32) (y2 : Int32) (z1 : Int32) : Prop :=
  (∀ σ26 : MS, σ26 = up2 σ 32 0 z1 → ((((σ26 32 0) = 0) → (((¬ y1 = 1) → wM_want_62 R σ26 y1 y2) ∧ ((y1 = 1) → (((¬ (σ26 17 0) = y2) → wM_want_62 R σ26 y1 y2) ∧ (((σ26 17 0) = y2) → (∃ P30 : MS → Prop, wM_comeIn P30 σ26 1 y2 ∧ (∀ (u31 : MS), P30 u31 → R u31))))))) ∧ ((¬ (σ26 32 0) = 0) → R σ26)))
def wM_want (R : MS → Prop) (σ : MS) (x1 x2 : Int32) : Prop :=
  (∃ P32 : Int32 → MS → Prop, wM_isLock P32 σ x1 x2 ∧ (∀ (r34 : Int32) (u33 : MS), P32 r34 u33 → (((¬ r34 = 0) → (vp_in ((4 * x1) + x2) 12 ∧ ((((u33 8 ((4 * x1) + x2).toNatClampNeg) = 0) → wM_want_31 R u33 x1 x2 0) ∧ ((¬ (u33 8 ((4 * x1) + x2).toNatClampNeg) = 0) → wM_want_31 R u33 x1 x2 2)))) ∧ ((r34 = 0) → wM_want_31 R u33 x1 x2 1))))
abbrev wsMo_want : List Cond := .code yMo_want cMo_want 3 none :: wg
abbrev rmM_want : Room := { frames := 2, cells := 0, slots := 0, locals := 52 }
set_option maxHeartbeats 4000000 in
set_option maxRecDepth 100000 in
theorem kM_want (l : Launch) (D : va_G) (a : Nat → Nat) (A : Nat → Prop) (tI tZ : ClassId) (σ : MS) (x1 x2 : Int32) (R : MS → Prop) (hwp : wM_want R σ x1 x2) : Met l yMo_want wsMo_want rmM_want (va_Pc [.ref (a 0), .int x1, .int x2] (uI D clA (mT tI tZ) A false (mw a tI tZ) σ)) (va_Qv R (uI D clA (mT tI tZ) A false (mw a tI tZ)) A) 0 0 A := by
  refine Met.ofW (cc := cMo_want) (maxL := 3) (ret := none) (by decide) rfl ?_
  intro p e s m args below meth c s₁ B hml hv
  obtain ⟨rfl, hP, hK, hD, hA⟩ := hv
  have hx := B.exec
  have hb := B.bytes
  have hr := B.returns
  have hts := atoms_spec (ws := wsMo_want) B.pre
  have hown : s.vm.findClass RMo = some m.cls := findClass_of_methodNamed B.named
  have hlocks := B.notSynchronized
  have hin0 : ∀ w ∈ u_ws RMo TMo 33, w ∈ wsMo_want := fun w h => List.mem_cons_of_mem _ (inMo w h)
  have k134 := hts _ (List.mem_cons_of_mem _ wm_753)
  have k32 := hts _ (List.mem_cons_of_mem _ wm_744)
  have k35 := hts _ (List.mem_cons_of_mem _ wm_747)
  have k38 := hts _ (List.mem_cons_of_mem _ wm_748)
  have k41 := hts _ (List.mem_cons_of_mem _ wm_749)
  have k47 := hts _ (List.mem_cons_of_mem _ wm_751)
  have k90 := hts _ (List.mem_cons_of_mem _ wm_768)
  have hS : va_S A s.heap s.heap [] := va_S.rf
  have cut62 : ∀ (σ : MS) (y1 : Int32) (y2 : Int32) (H : Heap) (locs : List Loc) (ls : Array Slot), wM_want_62 R σ y1 y2 → va_P D clA (mw a tI tZ σ) H → va_D A (mw a tI tZ σ) → va_S A s.heap H locs → lv_has ls 3 [(0, .ref (a 0)), (1, .int y1), (2, .int y2)] → W p l e (headSpec wsMo_want rmM_want).room s m ([.ref (a 0), .int x1, .int x2] : List Value).toArray below meth c H locs 0 0 (MQ below (va_Qv R (uI D clA (mT tI tZ) A false (mw a tI tZ)) A) ([.ref (a 0), .int x1, .int x2] : List Value).toArray s 0 0 A) (F0 m 62 ls []) := by
    intro σ y1 y2 H locs ls hwp hP hD hS hl
    refine lv_aload_n hx hb dMo_want_62 rfl (lv_at hl 0 rfl) ?_
    refine va_get (D := D) (ci := 0) (C := RMo) (T := TMo) (N := 33) hx hb hts hin0 hown hK hP 0 rfl rfl 8 (by decide) k32 (fun _ h9 => h9) rfl dMo_want_63 ?_
    refine lv_iconst (v := 4) hx hb dMo_want_66 (by decide) ?_
    refine lv_iload_n hx hb dMo_want_67 rfl (lv_at hl 1 rfl) ?_
    refine lv_imul hx hb dMo_want_68 ?_
    refine lv_iload_n hx hb dMo_want_69 rfl (lv_at hl 2 rfl) ?_
    refine lv_iadd hx hb dMo_want_70 ?_
    refine lv_iconst (v := 1) hx hb dMo_want_71 (by decide) ?_
    obtain ⟨hi1, hwp⟩ := hwp
    refine va_iast hx hb hK hP hD hS 7 0 rfl rfl hi1 dMo_want_72 (fun H locs hP hD hS => ?_)
    obtain ⟨σ2, eσ2⟩ : ∃ z, z = up2 σ 8 ((4 * y1) + y2).toNatClampNeg 1 := ⟨_, rfl⟩
    have hwp := hwp σ2 eσ2
    have hP : va_P D clA (mw a tI tZ σ2) H := by rw [eσ2]; exact hP
    have hD : va_D A (mw a tI tZ σ2) := by rw [eσ2]; exact hD
    refine lv_iload_n hx hb dMo_want_73 rfl (lv_at hl 1 rfl) ?_
    refine lv_if_ne hx hb dMo_want_74 rfl (fun h3 => ?_) (fun h3 => ?_)
    · have hwp := hwp.1 h3
      refine lv_iload_n hx hb dMo_want_122 rfl (lv_at hl 1 rfl) ?_
      refine lv_iconst (v := 1) hx hb dMo_want_123 (by decide) ?_
      refine lv_icmp_ne hx hb dMo_want_124 rfl (fun h4 => ?_) (fun h4 => ?_)
      · have hwp := hwp.1 h4
        refine lv_aload_n hx hb dMo_want_157 rfl (lv_at hl 0 rfl) ?_
        refine lv_iload_n hx hb dMo_want_158 rfl (lv_at hl 2 rfl) ?_
        refine lv_iload_n hx hb dMo_want_159 rfl (lv_at hl 2 rfl) ?_
        obtain ⟨P5, hP5, hwp⟩ := hwp
        refine uCallVv (As := [.int y2, .int y2]) (rest := []) (C := RMo) ⟨hx, hb, hml, hown, hts⟩ (kM_enqueue l D a A tI tZ σ2 y2 y2 P5 hP5) (cwV 2 hts (gdV wm_874 wm_876 wp_22 wm_13 wm_877) rfl rfl rfl (by decide +kernel) ⟨Nat.le_of_ble_eq_true rfl, Nat.le_of_ble_eq_true rfl⟩) (va_recv (ci := 0) (q0 := 0) hK hP rfl rfl) hP hK hD hA hS rfl hl.1 rfl (Nat.le_of_ble_eq_true rfl) dMo_want_160 ⟨Nat.le_of_ble_eq_true rfl, Nat.le_of_ble_eq_true rfl⟩ (fun u6 H locs hu6 hP hD hS => ?_)
        have hwp := hwp u6 hu6
        refine lv_aload_n hx hb dMo_want_163 rfl (lv_at hl 0 rfl) ?_
        refine lv_iload_n hx hb dMo_want_164 rfl (lv_at hl 2 rfl) ?_
        obtain ⟨P7, hP7, hwp⟩ := hwp
        refine uCallVv (As := [.int y2]) (rest := []) (C := RMo) ⟨hx, hb, hml, hown, hts⟩ (kM_goOn l D a A tI tZ u6 y2 P7 hP7) (cwV 1 hts (gdV wm_878 wm_880 wp_23 wm_13 wm_881) rfl rfl rfl (by decide +kernel) ⟨Nat.le_of_ble_eq_true rfl, Nat.le_of_ble_eq_true rfl⟩) (va_recv (ci := 0) (q0 := 0) hK hP rfl rfl) hP hK hD hA hS rfl hl.1 rfl (Nat.le_of_ble_eq_true rfl) dMo_want_165 ⟨Nat.le_of_ble_eq_true rfl, Nat.le_of_ble_eq_true rfl⟩ (fun u8 H locs hu8 hP hD hS => ?_)
        have hwp := hwp u8 hu8
        exact W.vret hx hb hr (fun t ht hW => ⟨⟨u8, rfl, hwp, uEnd ht hW hP hK hD hS hA⟩, hS.F ht⟩) hS.2.2 dMo_want_168
      · have hwp := hwp.2 h4
        refine lv_aload_n hx hb dMo_want_127 rfl (lv_at hl 0 rfl) ?_
        refine va_get (D := D) (ci := 0) (C := RMo) (T := TMo) (N := 33) hx hb hts hin0 hown hK hP 0 rfl rfl 15 (by decide) k47 (fun _ h9 => h9) rfl dMo_want_128 ?_
        refine lv_iconst (v := 5) hx hb dMo_want_131 (by decide) ?_
        refine lv_iload_n hx hb dMo_want_132 rfl (lv_at hl 2 rfl) ?_
        refine lv_imul hx hb dMo_want_133 ?_
        refine lv_dup2_11 hx hb dMo_want_134 rfl rfl ?_
        obtain ⟨hi9, hwp⟩ := hwp
        refine va_iald hx hb hK hP 12 0 rfl rfl hi9 dMo_want_135 ?_
        refine lv_iconst (v := 1) hx hb dMo_want_136 (by decide) ?_
        refine lv_iadd hx hb dMo_want_137 ?_
        obtain ⟨hi10, hwp⟩ := hwp
        refine va_iast hx hb hK hP hD hS 12 0 rfl rfl hi10 dMo_want_138 (fun H locs hP hD hS => ?_)
        obtain ⟨σ11, eσ11⟩ : ∃ z, z = up2 σ2 15 (5 * y2).toNatClampNeg ((σ2 15 (5 * y2).toNatClampNeg) + 1) := ⟨_, rfl⟩
        have hwp := hwp σ11 eσ11
        have hP : va_P D clA (mw a tI tZ σ11) H := by rw [eσ11]; exact hP
        have hD : va_D A (mw a tI tZ σ11) := by rw [eσ11]; exact hD
        refine lv_aload_n hx hb dMo_want_139 rfl (lv_at hl 0 rfl) ?_
        refine lv_iload_n hx hb dMo_want_140 rfl (lv_at hl 2 rfl) ?_
        refine lv_iconst (v := 1) hx hb dMo_want_141 (by decide) ?_
        refine lv_iconst (v := 0) hx hb dMo_want_142 (by decide) ?_
        refine lv_aload_n hx hb dMo_want_143 rfl (lv_at hl 0 rfl) ?_
        refine va_get (D := D) (ci := 0) (C := RMo) (T := TMo) (N := 33) hx hb hts hin0 hown hK hP 0 rfl rfl 15 (by decide) k47 (fun _ h9 => h9) rfl dMo_want_144 ?_
        refine lv_iconst (v := 5) hx hb dMo_want_147 (by decide) ?_
        refine lv_iload_n hx hb dMo_want_148 rfl (lv_at hl 2 rfl) ?_
        refine lv_imul hx hb dMo_want_149 ?_
        obtain ⟨hi12, hwp⟩ := hwp
        refine va_iald hx hb hK hP 12 0 rfl rfl hi12 dMo_want_150 ?_
        obtain ⟨P13, hP13, hwp⟩ := hwp
        refine uCallVv (As := [.int y2, .int 1, .int 0, .int (σ11 15 (5 * y2).toNatClampNeg)]) (rest := []) (C := RMo) ⟨hx, hb, hml, hown, hts⟩ (kM_sendAll l D a A tI tZ σ11 y2 1 0 (σ11 15 (5 * y2).toNatClampNeg) P13 hP13) (cwV 4 hts (gdV wm_913 wm_915 wp_28 wm_13 wm_916) rfl rfl rfl (by decide +kernel) ⟨Nat.le_of_ble_eq_true rfl, Nat.le_of_ble_eq_true rfl⟩) (va_recv (ci := 0) (q0 := 0) hK hP rfl rfl) hP hK hD hA hS rfl hl.1 rfl (Nat.le_of_ble_eq_true rfl) dMo_want_151 ⟨Nat.le_of_ble_eq_true rfl, Nat.le_of_ble_eq_true rfl⟩ (fun u14 H locs hu14 hP hD hS => ?_)
        have hwp := hwp u14 hu14
        refine lv_goto hx hb dMo_want_154 rfl ?_
        exact W.vret hx hb hr (fun t ht hW => ⟨⟨u14, rfl, hwp, uEnd ht hW hP hK hD hS hA⟩, hS.F ht⟩) hS.2.2 dMo_want_168
    · have hwp := hwp.2 h3
      refine lv_aload_n hx hb dMo_want_77 rfl (lv_at hl 0 rfl) ?_
      refine va_get (D := D) (ci := 0) (C := RMo) (T := TMo) (N := 33) hx hb hts hin0 hown hK hP 0 rfl rfl 11 (by decide) k35 (fun _ h9 => h9) rfl dMo_want_78 ?_
      refine lv_iload_n hx hb dMo_want_81 rfl (lv_at hl 2 rfl) ?_
      refine lv_dup2_11 hx hb dMo_want_82 rfl rfl ?_
      obtain ⟨hi15, hwp⟩ := hwp
      refine va_iald hx hb hK hP 8 0 rfl rfl hi15 dMo_want_83 ?_
      refine lv_iconst (v := 1) hx hb dMo_want_84 (by decide) ?_
      refine lv_iadd hx hb dMo_want_85 ?_
      obtain ⟨hi16, hwp⟩ := hwp
      refine va_iast hx hb hK hP hD hS 8 0 rfl rfl hi16 dMo_want_86 (fun H locs hP hD hS => ?_)
      obtain ⟨σ17, eσ17⟩ : ∃ z, z = up2 σ2 11 y2.toNatClampNeg ((σ2 11 y2.toNatClampNeg) + 1) := ⟨_, rfl⟩
      have hwp := hwp σ17 eσ17
      have hP : va_P D clA (mw a tI tZ σ17) H := by rw [eσ17]; exact hP
      have hD : va_D A (mw a tI tZ σ17) := by rw [eσ17]; exact hD
      refine lv_aload_n hx hb dMo_want_87 rfl (lv_at hl 0 rfl) ?_
      refine va_get (D := D) (ci := 0) (C := RMo) (T := TMo) (N := 33) hx hb hts hin0 hown hK hP 0 rfl rfl 12 (by decide) k38 (fun _ h9 => h9) rfl dMo_want_88 ?_
      refine lv_iload_n hx hb dMo_want_91 rfl (lv_at hl 2 rfl) ?_
      refine lv_aload_n hx hb dMo_want_92 rfl (lv_at hl 0 rfl) ?_
      refine va_get (D := D) (ci := 0) (C := RMo) (T := TMo) (N := 33) hx hb hts hin0 hown hK hP 0 rfl rfl 11 (by decide) k35 (fun _ h9 => h9) rfl dMo_want_93 ?_
      refine lv_iload_n hx hb dMo_want_96 rfl (lv_at hl 2 rfl) ?_
      obtain ⟨hi18, hwp⟩ := hwp
      refine va_iald hx hb hK hP 8 0 rfl rfl hi18 dMo_want_97 ?_
      obtain ⟨hi19, hwp⟩ := hwp
      refine va_iast hx hb hK hP hD hS 9 0 rfl rfl hi19 dMo_want_98 (fun H locs hP hD hS => ?_)
      obtain ⟨σ20, eσ20⟩ : ∃ z, z = up2 σ17 12 y2.toNatClampNeg (σ17 11 y2.toNatClampNeg) := ⟨_, rfl⟩
      have hwp := hwp σ20 eσ20
      have hP : va_P D clA (mw a tI tZ σ20) H := by rw [eσ20]; exact hP
      have hD : va_D A (mw a tI tZ σ20) := by rw [eσ20]; exact hD
      refine lv_aload_n hx hb dMo_want_99 rfl (lv_at hl 0 rfl) ?_
      refine va_get (D := D) (ci := 0) (C := RMo) (T := TMo) (N := 33) hx hb hts hin0 hown hK hP 0 rfl rfl 13 (by decide) k41 (fun _ h9 => h9) rfl dMo_want_100 ?_
      refine lv_iload_n hx hb dMo_want_103 rfl (lv_at hl 2 rfl) ?_
      refine lv_iconst (v := 0) hx hb dMo_want_104 (by decide) ?_
      obtain ⟨hi21, hwp⟩ := hwp
      refine va_iast hx hb hK hP hD hS 10 0 rfl rfl hi21 dMo_want_105 (fun H locs hP hD hS => ?_)
      obtain ⟨σ22, eσ22⟩ : ∃ z, z = up2 σ20 13 y2.toNatClampNeg 0 := ⟨_, rfl⟩
      have hwp := hwp σ22 eσ22
      have hP : va_P D clA (mw a tI tZ σ22) H := by rw [eσ22]; exact hP
      have hD : va_D A (mw a tI tZ σ22) := by rw [eσ22]; exact hD
      refine lv_aload_n hx hb dMo_want_106 rfl (lv_at hl 0 rfl) ?_
      refine lv_iload_n hx hb dMo_want_107 rfl (lv_at hl 2 rfl) ?_
      refine lv_iconst (v := 0) hx hb dMo_want_108 (by decide) ?_
      refine lv_iconst (v := 0) hx hb dMo_want_109 (by decide) ?_
      refine lv_aload_n hx hb dMo_want_110 rfl (lv_at hl 0 rfl) ?_
      refine va_get (D := D) (ci := 0) (C := RMo) (T := TMo) (N := 33) hx hb hts hin0 hown hK hP 0 rfl rfl 12 (by decide) k38 (fun _ h9 => h9) rfl dMo_want_111 ?_
      refine lv_iload_n hx hb dMo_want_114 rfl (lv_at hl 2 rfl) ?_
      obtain ⟨hi23, hwp⟩ := hwp
      refine va_iald hx hb hK hP 9 0 rfl rfl hi23 dMo_want_115 ?_
      obtain ⟨P24, hP24, hwp⟩ := hwp
      refine uCallVv (As := [.int y2, .int 0, .int 0, .int (σ22 12 y2.toNatClampNeg)]) (rest := []) (C := RMo) ⟨hx, hb, hml, hown, hts⟩ (kM_sendAll l D a A tI tZ σ22 y2 0 0 (σ22 12 y2.toNatClampNeg) P24 hP24) (cwV 4 hts (gdV wm_913 wm_915 wp_28 wm_13 wm_916) rfl rfl rfl (by decide +kernel) ⟨Nat.le_of_ble_eq_true rfl, Nat.le_of_ble_eq_true rfl⟩) (va_recv (ci := 0) (q0 := 0) hK hP rfl rfl) hP hK hD hA hS rfl hl.1 rfl (Nat.le_of_ble_eq_true rfl) dMo_want_116 ⟨Nat.le_of_ble_eq_true rfl, Nat.le_of_ble_eq_true rfl⟩ (fun u25 H locs hu25 hP hD hS => ?_)
      have hwp := hwp u25 hu25
      refine lv_goto hx hb dMo_want_119 rfl ?_
      exact W.vret hx hb hr (fun t ht hW => ⟨⟨u25, rfl, hwp, uEnd ht hW hP hK hD hS hA⟩, hS.F ht⟩) hS.2.2 dMo_want_168
  have cut31 : ∀ (σ : MS) (y1 : Int32) (y2 : Int32) (z1 : Int32) (H : Heap) (locs : List Loc) (ls : Array Slot), wM_want_31 R σ y1 y2 z1 → va_P D clA (mw a tI tZ σ) H → va_D A (mw a tI tZ σ) → va_S A s.heap H locs → lv_has ls 3 [(0, .ref (a 0)), (1, .int y1), (2, .int y2)] → W p l e (headSpec wsMo_want rmM_want).room s m ([.ref (a 0), .int x1, .int x2] : List Value).toArray below meth c H locs 0 0 (MQ below (va_Qv R (uI D clA (mT tI tZ) A false (mw a tI tZ)) A) ([.ref (a 0), .int x1, .int x2] : List Value).toArray s 0 0 A) (F0 m 31 ls [.int z1, .ref (a 0)]) := by
    intro σ y1 y2 z1 H locs ls hwp hP hD hS hl
    refine va_put (ty := .int) (D := D) (ci := 0) (C := RMo) (T := TMo) (N := 33) hx hb hts hin0 tyMo tyMo_ok nmMo hown hK hP hD hS 0 rfl rfl 32 (by decide) k90 (fun _ h9 => h9) rfl (by decide +kernel) rfl rfl (Nat.le_of_ble_eq_true rfl) dMo_want_31 (fun H locs hP hD hS => ?_)
    obtain ⟨σ26, eσ26⟩ : ∃ z, z = up2 σ 32 0 z1 := ⟨_, rfl⟩
    have hwp := hwp σ26 eσ26
    have hP : va_P D clA (mw a tI tZ σ26) H := by rw [eσ26]; exact hP
    have hD : va_D A (mw a tI tZ σ26) := by rw [eσ26]; exact hD
    refine lv_aload_n hx hb dMo_want_34 rfl (lv_at hl 0 rfl) ?_
    refine va_get (D := D) (ci := 0) (C := RMo) (T := TMo) (N := 33) hx hb hts hin0 hown hK hP 0 rfl rfl 32 (by decide) k90 (fun _ h9 => h9) rfl dMo_want_35 ?_
    refine lv_if_eq hx hb dMo_want_38 rfl (fun h27 => ?_) (fun h27 => ?_)
    · have hwp := hwp.1 h27
      refine lv_iload_n hx hb dMo_want_42 rfl (lv_at hl 1 rfl) ?_
      refine lv_iconst (v := 1) hx hb dMo_want_43 (by decide) ?_
      refine lv_icmp_ne hx hb dMo_want_44 rfl (fun h28 => ?_) (fun h28 => ?_)
      · have hwp := hwp.1 h28
        exact cut62 σ26 y1 y2 _ _ _ hwp hP hD hS (lv_sub hl [0, 1, 2] rfl)
      · have hwp := hwp.2 h28
        refine lv_aload_n hx hb dMo_want_47 rfl (lv_at hl 0 rfl) ?_
        refine va_get (D := D) (ci := 0) (C := RMo) (T := TMo) (N := 33) hx hb hts hin0 hown hK hP 0 rfl rfl 17 (by decide) k134 (fun _ h9 => h9) rfl dMo_want_48 ?_
        refine lv_iload_n hx hb dMo_want_51 rfl (lv_at hl 2 rfl) ?_
        refine lv_icmp_ne hx hb dMo_want_52 rfl (fun h29 => ?_) (fun h29 => ?_)
        · have hwp := hwp.1 h29
          exact cut62 σ26 y1 y2 _ _ _ hwp hP hD hS (lv_sub hl [0, 1, 2] rfl)
        · have hwp := hwp.2 h29
          refine lv_aload_n hx hb dMo_want_55 rfl (lv_at hl 0 rfl) ?_
          refine lv_iconst (v := 1) hx hb dMo_want_56 (by decide) ?_
          refine lv_iload_n hx hb dMo_want_57 rfl (lv_at hl 2 rfl) ?_
          obtain ⟨P30, hP30, hwp⟩ := hwp
          refine uCallVv (As := [.int 1, .int y2]) (rest := []) (C := RMo) ⟨hx, hb, hml, hown, hts⟩ (kM_comeIn l D a A tI tZ σ26 1 y2 P30 hP30) (cwV 2 hts (gdV wm_854 wm_856 wp_17 wm_13 wm_857) rfl rfl rfl (by decide +kernel) ⟨Nat.le_of_ble_eq_true rfl, Nat.le_of_ble_eq_true rfl⟩) (va_recv (ci := 0) (q0 := 0) hK hP rfl rfl) hP hK hD hA hS rfl hl.1 rfl (Nat.le_of_ble_eq_true rfl) dMo_want_58 ⟨Nat.le_of_ble_eq_true rfl, Nat.le_of_ble_eq_true rfl⟩ (fun u31 H locs hu31 hP hD hS => ?_)
          have hwp := hwp u31 hu31
          exact W.vret hx hb hr (fun t ht hW => ⟨⟨u31, rfl, hwp, uEnd ht hW hP hK hD hS hA⟩, hS.F ht⟩) hS.2.2 dMo_want_61
    · have hwp := hwp.2 h27
      exact W.vret hx hb hr (fun t ht hW => ⟨⟨σ26, rfl, hwp, uEnd ht hW hP hK hD hS hA⟩, hS.F ht⟩) hS.2.2 dMo_want_41
  have hl := lv_entry ([.ref (a 0), .int x1, .int x2]) (n := 3) (Nat.le_of_ble_eq_true rfl)
  rw [lg_entry_eq]
  generalize (lg_sl ([.ref (a 0), .int x1, .int x2]) ++ List.replicate (3 - (lg_sl ([.ref (a 0), .int x1, .int x2])).length) Slot.unset).toArray = ls at hl ⊢
  have hl : lv_has ls 3 [(0, .ref (a 0)), (1, .int x1), (2, .int x2)] := hl
  refine lv_aload_n hx hb dMo_want_0 rfl (lv_at hl 0 rfl) ?_
  refine lv_iload_n hx hb dMo_want_1 rfl (lv_at hl 1 rfl) ?_
  refine lv_iload_n hx hb dMo_want_2 rfl (lv_at hl 2 rfl) ?_
  obtain ⟨P32, hP32, hwp⟩ := hwp
  refine uCallSi (As := [.int x1, .int x2]) (rest := [.ref (a 0)]) ⟨hx, hb, hml, hown, hts⟩ (kM_isLock l D a A tI tZ σ x1 x2 P32 hP32) (cwS 2 hts (gdS wm_910 wm_911 wm_13 wm_912) rfl rfl rfl (by decide +kernel) ⟨Nat.le_of_ble_eq_true rfl, Nat.le_of_ble_eq_true rfl⟩) hP hK hD hA hS rfl hl.1 rfl (Nat.le_of_ble_eq_true rfl) dMo_want_3 ⟨Nat.le_of_ble_eq_true rfl, Nat.le_of_ble_eq_true rfl⟩ (fun r34 u33 H locs hu33 hP hD hS => ?_)
  have hwp := hwp r34 u33 hu33
  refine lv_if_ne hx hb dMo_want_6 rfl (fun h35 => ?_) (fun h35 => ?_)
  · have hwp := hwp.1 h35
    refine lv_aload_n hx hb dMo_want_13 rfl (lv_at hl 0 rfl) ?_
    refine va_get (D := D) (ci := 0) (C := RMo) (T := TMo) (N := 33) hx hb hts hin0 hown hK hP 0 rfl rfl 8 (by decide) k32 (fun _ h9 => h9) rfl dMo_want_14 ?_
    refine lv_iconst (v := 4) hx hb dMo_want_17 (by decide) ?_
    refine lv_iload_n hx hb dMo_want_18 rfl (lv_at hl 1 rfl) ?_
    refine lv_imul hx hb dMo_want_19 ?_
    refine lv_iload_n hx hb dMo_want_20 rfl (lv_at hl 2 rfl) ?_
    refine lv_iadd hx hb dMo_want_21 ?_
    obtain ⟨hi36, hwp⟩ := hwp
    refine va_iald hx hb hK hP 7 0 rfl rfl hi36 dMo_want_22 ?_
    refine lv_if_eq hx hb dMo_want_23 rfl (fun h37 => ?_) (fun h37 => ?_)
    · have hwp := hwp.1 h37
      refine lv_iconst (v := 0) hx hb dMo_want_30 (by decide) ?_
      exact cut31 u33 x1 x2 0 _ _ _ hwp hP hD hS (lv_sub hl [0, 1, 2] rfl)
    · have hwp := hwp.2 h37
      refine lv_iconst (v := 2) hx hb dMo_want_26 (by decide) ?_
      refine lv_goto hx hb dMo_want_27 rfl ?_
      exact cut31 u33 x1 x2 2 _ _ _ hwp hP hD hS (lv_sub hl [0, 1, 2] rfl)
  · have hwp := hwp.2 h35
    refine lv_iconst (v := 1) hx hb dMo_want_9 (by decide) ?_
    refine lv_goto hx hb dMo_want_10 rfl ?_
    exact cut31 u33 x1 x2 1 _ _ _ hwp hP hD hS (lv_sub hl [0, 1, 2] rfl)
-- public void leave(int, int)
def wM_leave_101 (K75 : MS → Int32 → Int32 → Int32 → Int32 → Prop) (R : MS → Prop) (σ : MS) (y1 : Int32) (y2 : Int32) (y3 : Int32) (y4 : Int32) : Prop :=
  K75 σ y1 y2 y3 (y4 + 1)
def wM_leave_75_step (K75 : MS → Int32 → Int32 → Int32 → Int32 → Prop) (R : MS → Prop) (σ : MS) (y1 : Int32) (y2 : Int32) (y3 : Int32) (y4 : Int32) : Prop :=
  (((4 ≤ y4) → R σ) ∧ ((¬ 4 ≤ y4) → (((¬ ((y3 >>> (y4 &&& 31)) &&& 1) = 1) → wM_leave_101 K75 R σ y1 y2 y3 y4) ∧ ((((y3 >>> (y4 &&& 31)) &&& 1) = 1) → (∃ P3 : MS → Prop, wM_send P3 σ y2 y4 0 1 0 ∧ (∀ (u4 : MS), P3 u4 → wM_leave_101 K75 R u4 y1 y2 y3 y4))))))
def wM_leave_75 (R : MS → Prop) : Nat → MS → Int32 → Int32 → Int32 → Int32 → Prop
  | 0 => fun _ _ _ _ _ => False
  | k + 1 => fun σ y1 y2 y3 y4 => wM_leave_75_step  (wM_leave_75  R k) R σ y1 y2 y3 y4
def wM_leave_32 (R : MS → Prop) (σ : MS) (y1 : Int32) (y2 : Int32) (z1 : Int32) : Prop :=
  (∀ σ5 : MS, σ5 = up2 σ 32 0 z1 → ((((σ5 32 0) = 0) → (vp_in ((4 * y1) + y2) 12 ∧ (∀ σ8 : MS, σ8 = up2 σ5 8 ((4 * y1) + y2).toNatClampNeg 0 → (((¬ y1 = 0) → (((¬ y1 = 1) → (∃ P11 : MS → Prop, wM_goOn P11 σ8 y2 ∧ (∀ (u12 : MS), P11 u12 → R u12))) ∧ ((y1 = 1) → (∃ P13 : MS → Prop, wM_passToken P13 σ8 y2 ∧ (∀ (u14 : MS), P13 u14 → R u14))))) ∧ ((y1 = 0) → (vp_in y2 4 ∧ (∀ v16 : Int32, v16 = σ8 14 y2.toNatClampNeg → (vp_in y2 4 ∧ (∀ σ18 : MS, σ18 = up2 σ8 14 y2.toNatClampNeg 0 → wM_leave_75 R 5 σ18 y1 y2 v16 0))))))))) ∧ ((¬ (σ5 32 0) = 0) → R σ5)))
def wM_leave (R : MS → Prop) (σ : MS) (x1 x2 : Int32) : Prop :=
  (∃ P19 : Int32 → MS → Prop, wM_isLock P19 σ x1 x2 ∧ (∀ (r21 : Int32) (u20 : MS), P19 r21 u20 → (((¬ r21 = 0) → (vp_in ((4 * x1) + x2) 12 ∧ ((((u20 8 ((4 * x1) + x2).toNatClampNeg) = 2) → wM_leave_32 R u20 x1 x2 0) ∧ ((¬ (u20 8 ((4 * x1) + x2).toNatClampNeg) = 2) → wM_leave_32 R u20 x1 x2 2)))) ∧ ((r21 = 0) → wM_leave_32 R u20 x1 x2 1))))
abbrev wsMo_leave : List Cond := .code yMo_leave cMo_leave 5 none :: wg
abbrev rmM_leave : Room := { frames := 2, cells := 0, slots := 0, locals := 51 }
set_option maxHeartbeats 4000000 in
set_option maxRecDepth 100000 in
theorem kM_leave (l : Launch) (D : va_G) (a : Nat → Nat) (A : Nat → Prop) (tI tZ : ClassId) (σ : MS) (x1 x2 : Int32) (R : MS → Prop) (hwp : wM_leave R σ x1 x2) : Met l yMo_leave wsMo_leave rmM_leave (va_Pc [.ref (a 0), .int x1, .int x2] (uI D clA (mT tI tZ) A false (mw a tI tZ) σ)) (va_Qv R (uI D clA (mT tI tZ) A false (mw a tI tZ)) A) 0 0 A := by
  refine Met.ofW (cc := cMo_leave) (maxL := 5) (ret := none) (by decide) rfl ?_
  intro p e s m args below meth c s₁ B hml hv
  obtain ⟨rfl, hP, hK, hD, hA⟩ := hv
  have hx := B.exec
  have hb := B.bytes
  have hr := B.returns
  have hts := atoms_spec (ws := wsMo_leave) B.pre
  have hown : s.vm.findClass RMo = some m.cls := findClass_of_methodNamed B.named
  have hlocks := B.notSynchronized
  have hin0 : ∀ w ∈ u_ws RMo TMo 33, w ∈ wsMo_leave := fun w h => List.mem_cons_of_mem _ (inMo w h)
  have k32 := hts _ (List.mem_cons_of_mem _ wm_744)
  have k44 := hts _ (List.mem_cons_of_mem _ wm_750)
  have k90 := hts _ (List.mem_cons_of_mem _ wm_768)
  have hS : va_S A s.heap s.heap [] := va_S.rf
  have cut75 : ∀ (k75 : Nat) (σ : MS) (y1 : Int32) (y2 : Int32) (y3 : Int32) (y4 : Int32) (H : Heap) (locs : List Loc) (ls : Array Slot), wM_leave_75 R k75 σ y1 y2 y3 y4 → va_P D clA (mw a tI tZ σ) H → va_D A (mw a tI tZ σ) → va_S A s.heap H locs → lv_has ls 5 [(0, .ref (a 0)), (1, .int y1), (2, .int y2), (3, .int y3), (4, .int y4)] → W p l e (headSpec wsMo_leave rmM_leave).room s m ([.ref (a 0), .int x1, .int x2] : List Value).toArray below meth c H locs 0 0 (MQ below (va_Qv R (uI D clA (mT tI tZ) A false (mw a tI tZ)) A) ([.ref (a 0), .int x1, .int x2] : List Value).toArray s 0 0 A) (F0 m 75 ls []) := by
    intro k75
    induction k75 with
    | zero => intro σ y1 y2 y3 y4 H locs ls hwp hP hD hS hl; exact False.elim hwp
    | succ k75 ih75 =>
      intro σ y1 y2 y3 y4 H locs ls hwp hP hD hS hl
      have cut101 : ∀ (σ : MS) (y1 : Int32) (y2 : Int32) (y3 : Int32) (y4 : Int32) (H : Heap) (locs : List Loc) (ls : Array Slot), wM_leave_101 (wM_leave_75 R k75) R σ y1 y2 y3 y4 → va_P D clA (mw a tI tZ σ) H → va_D A (mw a tI tZ σ) → va_S A s.heap H locs → lv_has ls 5 [(0, .ref (a 0)), (1, .int y1), (2, .int y2), (3, .int y3), (4, .int y4)] → W p l e (headSpec wsMo_leave rmM_leave).room s m ([.ref (a 0), .int x1, .int x2] : List Value).toArray below meth c H locs 0 0 (MQ below (va_Qv R (uI D clA (mT tI tZ) A false (mw a tI tZ)) A) ([.ref (a 0), .int x1, .int x2] : List Value).toArray s 0 0 A) (F0 m 101 ls []) := by
        intro σ y1 y2 y3 y4 H locs ls hwp hP hD hS hl
        refine lv_iinc (k := 4) hx hb dMo_leave_101 hl rfl (fx_inc1 _) (by decide) rfl (fun ls hl => ?_)
        have hl : lv_has ls 5 [(4, .int (y4 + 1)), (0, .ref (a 0)), (1, .int y1), (2, .int y2), (3, .int y3)] := hl
        refine lv_goto hx hb dMo_leave_104 rfl ?_
        exact ih75 σ y1 y2 y3 (y4 + 1) _ _ _ hwp hP hD hS (lv_sub hl [1, 2, 3, 4, 0] rfl)
      have hwp : wM_leave_75_step (wM_leave_75 R k75) R σ y1 y2 y3 y4 := hwp
      refine lv_iload hx hb dMo_leave_75 (lv_at hl 4 rfl) ?_
      refine lv_iconst (v := 4) hx hb dMo_leave_77 (by decide) ?_
      refine lv_icmp_ge hx hb dMo_leave_78 rfl (fun h1 => ?_) (fun h1 => ?_)
      · have hwp := hwp.1 h1
        refine lv_goto hx hb dMo_leave_107 rfl ?_
        exact W.vret hx hb hr (fun t ht hW => ⟨⟨σ, rfl, hwp, uEnd ht hW hP hK hD hS hA⟩, hS.F ht⟩) hS.2.2 dMo_leave_128
      · have hwp := hwp.2 h1
        refine lv_iload_n hx hb dMo_leave_81 rfl (lv_at hl 3 rfl) ?_
        refine lv_iload hx hb dMo_leave_82 (lv_at hl 4 rfl) ?_
        refine lv_ishr hx hb dMo_leave_84 ?_
        refine lv_iconst (v := 1) hx hb dMo_leave_85 (by decide) ?_
        refine lv_iand hx hb dMo_leave_86 ?_
        refine lv_iconst (v := 1) hx hb dMo_leave_87 (by decide) ?_
        refine lv_icmp_ne hx hb dMo_leave_88 rfl (fun h2 => ?_) (fun h2 => ?_)
        · have hwp := hwp.1 h2
          exact cut101 σ y1 y2 y3 y4 _ _ _ hwp hP hD hS (lv_sub hl [0, 1, 2, 3, 4] rfl)
        · have hwp := hwp.2 h2
          refine lv_aload_n hx hb dMo_leave_91 rfl (lv_at hl 0 rfl) ?_
          refine lv_iload_n hx hb dMo_leave_92 rfl (lv_at hl 2 rfl) ?_
          refine lv_iload hx hb dMo_leave_93 (lv_at hl 4 rfl) ?_
          refine lv_iconst (v := 0) hx hb dMo_leave_95 (by decide) ?_
          refine lv_iconst (v := 1) hx hb dMo_leave_96 (by decide) ?_
          refine lv_iconst (v := 0) hx hb dMo_leave_97 (by decide) ?_
          obtain ⟨P3, hP3, hwp⟩ := hwp
          refine uCallVv (As := [.int y2, .int y4, .int 0, .int 1, .int 0]) (rest := []) (C := RMo) ⟨hx, hb, hml, hown, hts⟩ (kM_send l D a A tI tZ σ y2 y4 0 1 0 P3 hP3) (cwV 5 hts (gdV wm_858 wm_860 wp_18 wm_13 wm_861) rfl rfl rfl (by decide +kernel) ⟨Nat.le_of_ble_eq_true rfl, Nat.le_of_ble_eq_true rfl⟩) (va_recv (ci := 0) (q0 := 0) hK hP rfl rfl) hP hK hD hA hS rfl hl.1 rfl (Nat.le_of_ble_eq_true rfl) dMo_leave_98 ⟨Nat.le_of_ble_eq_true rfl, Nat.le_of_ble_eq_true rfl⟩ (fun u4 H locs hu4 hP hD hS => ?_)
          have hwp := hwp u4 hu4
          exact cut101 u4 y1 y2 y3 y4 _ _ _ hwp hP hD hS (lv_sub hl [0, 1, 2, 3, 4] rfl)
  have cut32 : ∀ (σ : MS) (y1 : Int32) (y2 : Int32) (z1 : Int32) (H : Heap) (locs : List Loc) (ls : Array Slot), wM_leave_32 R σ y1 y2 z1 → va_P D clA (mw a tI tZ σ) H → va_D A (mw a tI tZ σ) → va_S A s.heap H locs → lv_has ls 5 [(0, .ref (a 0)), (1, .int y1), (2, .int y2)] → W p l e (headSpec wsMo_leave rmM_leave).room s m ([.ref (a 0), .int x1, .int x2] : List Value).toArray below meth c H locs 0 0 (MQ below (va_Qv R (uI D clA (mT tI tZ) A false (mw a tI tZ)) A) ([.ref (a 0), .int x1, .int x2] : List Value).toArray s 0 0 A) (F0 m 32 ls [.int z1, .ref (a 0)]) := by
    intro σ y1 y2 z1 H locs ls hwp hP hD hS hl
    refine va_put (ty := .int) (D := D) (ci := 0) (C := RMo) (T := TMo) (N := 33) hx hb hts hin0 tyMo tyMo_ok nmMo hown hK hP hD hS 0 rfl rfl 32 (by decide) k90 (fun _ h9 => h9) rfl (by decide +kernel) rfl rfl (Nat.le_of_ble_eq_true rfl) dMo_leave_32 (fun H locs hP hD hS => ?_)
    obtain ⟨σ5, eσ5⟩ : ∃ z, z = up2 σ 32 0 z1 := ⟨_, rfl⟩
    have hwp := hwp σ5 eσ5
    have hP : va_P D clA (mw a tI tZ σ5) H := by rw [eσ5]; exact hP
    have hD : va_D A (mw a tI tZ σ5) := by rw [eσ5]; exact hD
    refine lv_aload_n hx hb dMo_leave_35 rfl (lv_at hl 0 rfl) ?_
    refine va_get (D := D) (ci := 0) (C := RMo) (T := TMo) (N := 33) hx hb hts hin0 hown hK hP 0 rfl rfl 32 (by decide) k90 (fun _ h9 => h9) rfl dMo_leave_36 ?_
    refine lv_if_eq hx hb dMo_leave_39 rfl (fun h6 => ?_) (fun h6 => ?_)
    · have hwp := hwp.1 h6
      refine lv_aload_n hx hb dMo_leave_43 rfl (lv_at hl 0 rfl) ?_
      refine va_get (D := D) (ci := 0) (C := RMo) (T := TMo) (N := 33) hx hb hts hin0 hown hK hP 0 rfl rfl 8 (by decide) k32 (fun _ h9 => h9) rfl dMo_leave_44 ?_
      refine lv_iconst (v := 4) hx hb dMo_leave_47 (by decide) ?_
      refine lv_iload_n hx hb dMo_leave_48 rfl (lv_at hl 1 rfl) ?_
      refine lv_imul hx hb dMo_leave_49 ?_
      refine lv_iload_n hx hb dMo_leave_50 rfl (lv_at hl 2 rfl) ?_
      refine lv_iadd hx hb dMo_leave_51 ?_
      refine lv_iconst (v := 0) hx hb dMo_leave_52 (by decide) ?_
      obtain ⟨hi7, hwp⟩ := hwp
      refine va_iast hx hb hK hP hD hS 7 0 rfl rfl hi7 dMo_leave_53 (fun H locs hP hD hS => ?_)
      obtain ⟨σ8, eσ8⟩ : ∃ z, z = up2 σ5 8 ((4 * y1) + y2).toNatClampNeg 0 := ⟨_, rfl⟩
      have hwp := hwp σ8 eσ8
      have hP : va_P D clA (mw a tI tZ σ8) H := by rw [eσ8]; exact hP
      have hD : va_D A (mw a tI tZ σ8) := by rw [eσ8]; exact hD
      refine lv_iload_n hx hb dMo_leave_54 rfl (lv_at hl 1 rfl) ?_
      refine lv_if_ne hx hb dMo_leave_55 rfl (fun h9 => ?_) (fun h9 => ?_)
      · have hwp := hwp.1 h9
        refine lv_iload_n hx hb dMo_leave_110 rfl (lv_at hl 1 rfl) ?_
        refine lv_iconst (v := 1) hx hb dMo_leave_111 (by decide) ?_
        refine lv_icmp_ne hx hb dMo_leave_112 rfl (fun h10 => ?_) (fun h10 => ?_)
        · have hwp := hwp.1 h10
          refine lv_aload_n hx hb dMo_leave_123 rfl (lv_at hl 0 rfl) ?_
          refine lv_iload_n hx hb dMo_leave_124 rfl (lv_at hl 2 rfl) ?_
          obtain ⟨P11, hP11, hwp⟩ := hwp
          refine uCallVv (As := [.int y2]) (rest := []) (C := RMo) ⟨hx, hb, hml, hown, hts⟩ (kM_goOn l D a A tI tZ σ8 y2 P11 hP11) (cwV 1 hts (gdV wm_878 wm_880 wp_23 wm_13 wm_881) rfl rfl rfl (by decide +kernel) ⟨Nat.le_of_ble_eq_true rfl, Nat.le_of_ble_eq_true rfl⟩) (va_recv (ci := 0) (q0 := 0) hK hP rfl rfl) hP hK hD hA hS rfl hl.1 rfl (Nat.le_of_ble_eq_true rfl) dMo_leave_125 ⟨Nat.le_of_ble_eq_true rfl, Nat.le_of_ble_eq_true rfl⟩ (fun u12 H locs hu12 hP hD hS => ?_)
          have hwp := hwp u12 hu12
          exact W.vret hx hb hr (fun t ht hW => ⟨⟨u12, rfl, hwp, uEnd ht hW hP hK hD hS hA⟩, hS.F ht⟩) hS.2.2 dMo_leave_128
        · have hwp := hwp.2 h10
          refine lv_aload_n hx hb dMo_leave_115 rfl (lv_at hl 0 rfl) ?_
          refine lv_iload_n hx hb dMo_leave_116 rfl (lv_at hl 2 rfl) ?_
          obtain ⟨P13, hP13, hwp⟩ := hwp
          refine uCallVv (As := [.int y2]) (rest := []) (C := RMo) ⟨hx, hb, hml, hown, hts⟩ (kM_passToken l D a A tI tZ σ8 y2 P13 hP13) (cwV 1 hts (gdV wm_921 wm_923 wp_29 wm_13 wm_924) rfl rfl rfl (by decide +kernel) ⟨Nat.le_of_ble_eq_true rfl, Nat.le_of_ble_eq_true rfl⟩) (va_recv (ci := 0) (q0 := 0) hK hP rfl rfl) hP hK hD hA hS rfl hl.1 rfl (Nat.le_of_ble_eq_true rfl) dMo_leave_117 ⟨Nat.le_of_ble_eq_true rfl, Nat.le_of_ble_eq_true rfl⟩ (fun u14 H locs hu14 hP hD hS => ?_)
          have hwp := hwp u14 hu14
          refine lv_goto hx hb dMo_leave_120 rfl ?_
          exact W.vret hx hb hr (fun t ht hW => ⟨⟨u14, rfl, hwp, uEnd ht hW hP hK hD hS hA⟩, hS.F ht⟩) hS.2.2 dMo_leave_128
      · have hwp := hwp.2 h9
        refine lv_aload_n hx hb dMo_leave_58 rfl (lv_at hl 0 rfl) ?_
        refine va_get (D := D) (ci := 0) (C := RMo) (T := TMo) (N := 33) hx hb hts hin0 hown hK hP 0 rfl rfl 14 (by decide) k44 (fun _ h9 => h9) rfl dMo_leave_59 ?_
        refine lv_iload_n hx hb dMo_leave_62 rfl (lv_at hl 2 rfl) ?_
        obtain ⟨hi15, hwp⟩ := hwp
        refine va_iald hx hb hK hP 11 0 rfl rfl hi15 dMo_leave_63 ?_
        refine lv_topi (fun v16 ev16 => ?_)
        have hwp := hwp v16 ev16
        refine lv_istore_n hx hb dMo_leave_64 rfl hl (by decide) rfl (fun ls hl => ?_)
        have hl : lv_has ls 5 [(3, .int v16), (0, .ref (a 0)), (1, .int y1), (2, .int y2)] := hl
        refine lv_aload_n hx hb dMo_leave_65 rfl (lv_at hl 1 rfl) ?_
        refine va_get (D := D) (ci := 0) (C := RMo) (T := TMo) (N := 33) hx hb hts hin0 hown hK hP 0 rfl rfl 14 (by decide) k44 (fun _ h9 => h9) rfl dMo_leave_66 ?_
        refine lv_iload_n hx hb dMo_leave_69 rfl (lv_at hl 3 rfl) ?_
        refine lv_iconst (v := 0) hx hb dMo_leave_70 (by decide) ?_
        obtain ⟨hi17, hwp⟩ := hwp
        refine va_iast hx hb hK hP hD hS 11 0 rfl rfl hi17 dMo_leave_71 (fun H locs hP hD hS => ?_)
        obtain ⟨σ18, eσ18⟩ : ∃ z, z = up2 σ8 14 y2.toNatClampNeg 0 := ⟨_, rfl⟩
        have hwp := hwp σ18 eσ18
        have hP : va_P D clA (mw a tI tZ σ18) H := by rw [eσ18]; exact hP
        have hD : va_D A (mw a tI tZ σ18) := by rw [eσ18]; exact hD
        refine lv_iconst (v := 0) hx hb dMo_leave_72 (by decide) ?_
        refine lv_istore hx hb dMo_leave_73 hl (by decide) rfl (fun ls hl => ?_)
        have hl : lv_has ls 5 [(4, .int 0), (3, .int v16), (0, .ref (a 0)), (1, .int y1), (2, .int y2)] := hl
        exact cut75 5 σ18 y1 y2 v16 0 _ _ _ hwp hP hD hS (lv_sub hl [2, 3, 4, 1, 0] rfl)
    · have hwp := hwp.2 h6
      exact W.vret hx hb hr (fun t ht hW => ⟨⟨σ5, rfl, hwp, uEnd ht hW hP hK hD hS hA⟩, hS.F ht⟩) hS.2.2 dMo_leave_42
  have hl := lv_entry ([.ref (a 0), .int x1, .int x2]) (n := 5) (Nat.le_of_ble_eq_true rfl)
  rw [lg_entry_eq]
  generalize (lg_sl ([.ref (a 0), .int x1, .int x2]) ++ List.replicate (5 - (lg_sl ([.ref (a 0), .int x1, .int x2])).length) Slot.unset).toArray = ls at hl ⊢
  have hl : lv_has ls 5 [(0, .ref (a 0)), (1, .int x1), (2, .int x2)] := hl
  refine lv_aload_n hx hb dMo_leave_0 rfl (lv_at hl 0 rfl) ?_
  refine lv_iload_n hx hb dMo_leave_1 rfl (lv_at hl 1 rfl) ?_
  refine lv_iload_n hx hb dMo_leave_2 rfl (lv_at hl 2 rfl) ?_
  obtain ⟨P19, hP19, hwp⟩ := hwp
  refine uCallSi (As := [.int x1, .int x2]) (rest := [.ref (a 0)]) ⟨hx, hb, hml, hown, hts⟩ (kM_isLock l D a A tI tZ σ x1 x2 P19 hP19) (cwS 2 hts (gdS wm_910 wm_911 wm_13 wm_912) rfl rfl rfl (by decide +kernel) ⟨Nat.le_of_ble_eq_true rfl, Nat.le_of_ble_eq_true rfl⟩) hP hK hD hA hS rfl hl.1 rfl (Nat.le_of_ble_eq_true rfl) dMo_leave_3 ⟨Nat.le_of_ble_eq_true rfl, Nat.le_of_ble_eq_true rfl⟩ (fun r21 u20 H locs hu20 hP hD hS => ?_)
  have hwp := hwp r21 u20 hu20
  refine lv_if_ne hx hb dMo_leave_6 rfl (fun h22 => ?_) (fun h22 => ?_)
  · have hwp := hwp.1 h22
    refine lv_aload_n hx hb dMo_leave_13 rfl (lv_at hl 0 rfl) ?_
    refine va_get (D := D) (ci := 0) (C := RMo) (T := TMo) (N := 33) hx hb hts hin0 hown hK hP 0 rfl rfl 8 (by decide) k32 (fun _ h9 => h9) rfl dMo_leave_14 ?_
    refine lv_iconst (v := 4) hx hb dMo_leave_17 (by decide) ?_
    refine lv_iload_n hx hb dMo_leave_18 rfl (lv_at hl 1 rfl) ?_
    refine lv_imul hx hb dMo_leave_19 ?_
    refine lv_iload_n hx hb dMo_leave_20 rfl (lv_at hl 2 rfl) ?_
    refine lv_iadd hx hb dMo_leave_21 ?_
    obtain ⟨hi23, hwp⟩ := hwp
    refine va_iald hx hb hK hP 7 0 rfl rfl hi23 dMo_leave_22 ?_
    refine lv_iconst (v := 2) hx hb dMo_leave_23 (by decide) ?_
    refine lv_icmp_eq hx hb dMo_leave_24 rfl (fun h24 => ?_) (fun h24 => ?_)
    · have hwp := hwp.1 h24
      refine lv_iconst (v := 0) hx hb dMo_leave_31 (by decide) ?_
      exact cut32 u20 x1 x2 0 _ _ _ hwp hP hD hS (lv_sub hl [0, 1, 2] rfl)
    · have hwp := hwp.2 h24
      refine lv_iconst (v := 2) hx hb dMo_leave_27 (by decide) ?_
      refine lv_goto hx hb dMo_leave_28 rfl ?_
      exact cut32 u20 x1 x2 2 _ _ _ hwp hP hD hS (lv_sub hl [0, 1, 2] rfl)
  · have hwp := hwp.2 h22
    refine lv_iconst (v := 1) hx hb dMo_leave_9 (by decide) ?_
    refine lv_goto hx hb dMo_leave_10 rfl ?_
    exact cut32 u20 x1 x2 1 _ _ _ hwp hP hD hS (lv_sub hl [0, 1, 2] rfl)
-- public void start(int)
def wM_start_26 (R : MS → Prop) (σ : MS) (y1 : Int32) (z1 : Int32) : Prop :=
  (∀ σ1 : MS, σ1 = up2 σ 32 0 z1 → (((¬ (σ1 32 0) = 0) → R σ1) ∧ (((σ1 32 0) = 0) → (vp_in y1 4 ∧ (∀ σ4 : MS, σ4 = up2 σ1 26 y1.toNatClampNeg (vp_nar .boolean 1) → (vp_in y1 4 ∧ (∃ P6 : MS → Prop, wM_send P6 σ4 y1 ((y1 + 1) - (y1 + 1) / 4 * 4) 3 0 (σ4 24 y1.toNatClampNeg) ∧ (∀ (u7 : MS), P6 u7 → R u7))))))))
def wM_start (R : MS → Prop) (σ : MS) (x1 : Int32) : Prop :=
  (∃ P8 : Int32 → MS → Prop, wM_isNode P8 σ x1 ∧ (∀ (r10 : Int32) (u9 : MS), P8 r10 u9 → (((¬ r10 = 0) → (vp_in x1 4 ∧ ((((u9 26 x1.toNatClampNeg) = 0) → wM_start_26 R u9 x1 0) ∧ ((¬ (u9 26 x1.toNatClampNeg) = 0) → wM_start_26 R u9 x1 2)))) ∧ ((r10 = 0) → wM_start_26 R u9 x1 1))))
abbrev wsMo_start : List Cond := .code yMo_start cMo_start 2 none :: wg
abbrev rmM_start : Room := { frames := 1, cells := 0, slots := 0, locals := 27 }
set_option maxHeartbeats 4000000 in
set_option maxRecDepth 100000 in
theorem kM_start (l : Launch) (D : va_G) (a : Nat → Nat) (A : Nat → Prop) (tI tZ : ClassId) (σ : MS) (x1 : Int32) (R : MS → Prop) (hwp : wM_start R σ x1) : Met l yMo_start wsMo_start rmM_start (va_Pc [.ref (a 0), .int x1] (uI D clA (mT tI tZ) A false (mw a tI tZ) σ)) (va_Qv R (uI D clA (mT tI tZ) A false (mw a tI tZ)) A) 0 0 A := by
  refine Met.ofW (cc := cMo_start) (maxL := 2) (ret := none) (by decide) rfl ?_
  intro p e s m args below meth c s₁ B hml hv
  obtain ⟨rfl, hP, hK, hD, hA⟩ := hv
  have hx := B.exec
  have hb := B.bytes
  have hr := B.returns
  have hts := atoms_spec (ws := wsMo_start) B.pre
  have hown : s.vm.findClass RMo = some m.cls := findClass_of_methodNamed B.named
  have hlocks := B.notSynchronized
  have hin0 : ∀ w ∈ u_ws RMo TMo 33, w ∈ wsMo_start := fun w h => List.mem_cons_of_mem _ (inMo w h)
  have k69 := hts _ (List.mem_cons_of_mem _ wm_760)
  have k75 := hts _ (List.mem_cons_of_mem _ wm_762)
  have k90 := hts _ (List.mem_cons_of_mem _ wm_768)
  have hS : va_S A s.heap s.heap [] := va_S.rf
  have cut26 : ∀ (σ : MS) (y1 : Int32) (z1 : Int32) (H : Heap) (locs : List Loc) (ls : Array Slot), wM_start_26 R σ y1 z1 → va_P D clA (mw a tI tZ σ) H → va_D A (mw a tI tZ σ) → va_S A s.heap H locs → lv_has ls 2 [(0, .ref (a 0)), (1, .int y1)] → W p l e (headSpec wsMo_start rmM_start).room s m ([.ref (a 0), .int x1] : List Value).toArray below meth c H locs 0 0 (MQ below (va_Qv R (uI D clA (mT tI tZ) A false (mw a tI tZ)) A) ([.ref (a 0), .int x1] : List Value).toArray s 0 0 A) (F0 m 26 ls [.int z1, .ref (a 0)]) := by
    intro σ y1 z1 H locs ls hwp hP hD hS hl
    refine va_put (ty := .int) (D := D) (ci := 0) (C := RMo) (T := TMo) (N := 33) hx hb hts hin0 tyMo tyMo_ok nmMo hown hK hP hD hS 0 rfl rfl 32 (by decide) k90 (fun _ h9 => h9) rfl (by decide +kernel) rfl rfl (Nat.le_of_ble_eq_true rfl) dMo_start_26 (fun H locs hP hD hS => ?_)
    obtain ⟨σ1, eσ1⟩ : ∃ z, z = up2 σ 32 0 z1 := ⟨_, rfl⟩
    have hwp := hwp σ1 eσ1
    have hP : va_P D clA (mw a tI tZ σ1) H := by rw [eσ1]; exact hP
    have hD : va_D A (mw a tI tZ σ1) := by rw [eσ1]; exact hD
    refine lv_aload_n hx hb dMo_start_29 rfl (lv_at hl 0 rfl) ?_
    refine va_get (D := D) (ci := 0) (C := RMo) (T := TMo) (N := 33) hx hb hts hin0 hown hK hP 0 rfl rfl 32 (by decide) k90 (fun _ h9 => h9) rfl dMo_start_30 ?_
    refine lv_if_ne hx hb dMo_start_33 rfl (fun h2 => ?_) (fun h2 => ?_)
    · have hwp := hwp.1 h2
      exact W.vret hx hb hr (fun t ht hW => ⟨⟨σ1, rfl, hwp, uEnd ht hW hP hK hD hS hA⟩, hS.F ht⟩) hS.2.2 dMo_start_61
    · have hwp := hwp.2 h2
      refine lv_aload_n hx hb dMo_start_36 rfl (lv_at hl 0 rfl) ?_
      refine va_get (D := D) (ci := 0) (C := RMo) (T := TMo) (N := 33) hx hb hts hin0 hown hK hP 0 rfl rfl 26 (by decide) k75 (fun _ h9 => h9) rfl dMo_start_37 ?_
      refine lv_iload_n hx hb dMo_start_40 rfl (lv_at hl 1 rfl) ?_
      refine lv_iconst (v := 1) hx hb dMo_start_41 (by decide) ?_
      obtain ⟨hi3, hwp⟩ := hwp
      refine va_zast hx hb hK hP hD hS 21 1 rfl rfl hi3 dMo_start_42 (fun H locs hP hD hS => ?_)
      obtain ⟨σ4, eσ4⟩ : ∃ z, z = up2 σ1 26 y1.toNatClampNeg (vp_nar .boolean 1) := ⟨_, rfl⟩
      have hwp := hwp σ4 eσ4
      have hP : va_P D clA (mw a tI tZ σ4) H := by rw [eσ4]; exact hP
      have hD : va_D A (mw a tI tZ σ4) := by rw [eσ4]; exact hD
      refine lv_aload_n hx hb dMo_start_43 rfl (lv_at hl 0 rfl) ?_
      refine lv_iload_n hx hb dMo_start_44 rfl (lv_at hl 1 rfl) ?_
      refine lv_iload_n hx hb dMo_start_45 rfl (lv_at hl 1 rfl) ?_
      refine lv_iconst (v := 1) hx hb dMo_start_46 (by decide) ?_
      refine lv_iadd hx hb dMo_start_47 ?_
      refine lv_iconst (v := 4) hx hb dMo_start_48 (by decide) ?_
      refine lv_irem hx hb dMo_start_49 (by decide) ?_
      refine lv_iconst (v := 3) hx hb dMo_start_50 (by decide) ?_
      refine lv_iconst (v := 0) hx hb dMo_start_51 (by decide) ?_
      refine lv_aload_n hx hb dMo_start_52 rfl (lv_at hl 0 rfl) ?_
      refine va_get (D := D) (ci := 0) (C := RMo) (T := TMo) (N := 33) hx hb hts hin0 hown hK hP 0 rfl rfl 24 (by decide) k69 (fun _ h9 => h9) rfl dMo_start_53 ?_
      refine lv_iload_n hx hb dMo_start_56 rfl (lv_at hl 1 rfl) ?_
      obtain ⟨hi5, hwp⟩ := hwp
      refine va_iald hx hb hK hP 19 0 rfl rfl hi5 dMo_start_57 ?_
      obtain ⟨P6, hP6, hwp⟩ := hwp
      refine uCallVv (As := [.int y1, .int ((y1 + 1) - (y1 + 1) / 4 * 4), .int 3, .int 0, .int (σ4 24 y1.toNatClampNeg)]) (rest := []) (C := RMo) ⟨hx, hb, hml, hown, hts⟩ (kM_send l D a A tI tZ σ4 y1 ((y1 + 1) - (y1 + 1) / 4 * 4) 3 0 (σ4 24 y1.toNatClampNeg) P6 hP6) (cwV 5 hts (gdV wm_858 wm_860 wp_18 wm_13 wm_861) rfl rfl rfl (by decide +kernel) ⟨Nat.le_of_ble_eq_true rfl, Nat.le_of_ble_eq_true rfl⟩) (va_recv (ci := 0) (q0 := 0) hK hP rfl rfl) hP hK hD hA hS rfl hl.1 rfl (Nat.le_of_ble_eq_true rfl) dMo_start_58 ⟨Nat.le_of_ble_eq_true rfl, Nat.le_of_ble_eq_true rfl⟩ (fun u7 H locs hu7 hP hD hS => ?_)
      have hwp := hwp u7 hu7
      exact W.vret hx hb hr (fun t ht hW => ⟨⟨u7, rfl, hwp, uEnd ht hW hP hK hD hS hA⟩, hS.F ht⟩) hS.2.2 dMo_start_61
  have hl := lv_entry ([.ref (a 0), .int x1]) (n := 2) (Nat.le_of_ble_eq_true rfl)
  rw [lg_entry_eq]
  generalize (lg_sl ([.ref (a 0), .int x1]) ++ List.replicate (2 - (lg_sl ([.ref (a 0), .int x1])).length) Slot.unset).toArray = ls at hl ⊢
  have hl : lv_has ls 2 [(0, .ref (a 0)), (1, .int x1)] := hl
  refine lv_aload_n hx hb dMo_start_0 rfl (lv_at hl 0 rfl) ?_
  refine lv_iload_n hx hb dMo_start_1 rfl (lv_at hl 1 rfl) ?_
  obtain ⟨P8, hP8, hwp⟩ := hwp
  refine uCallSi (As := [.int x1]) (rest := [.ref (a 0)]) ⟨hx, hb, hml, hown, hts⟩ (kM_isNode l D a A tI tZ σ x1 P8 hP8) (cwS 1 hts (gdS wm_847 wm_848 wm_13 wm_849) rfl rfl rfl (by decide +kernel) ⟨Nat.le_of_ble_eq_true rfl, Nat.le_of_ble_eq_true rfl⟩) hP hK hD hA hS rfl hl.1 rfl (Nat.le_of_ble_eq_true rfl) dMo_start_2 ⟨Nat.le_of_ble_eq_true rfl, Nat.le_of_ble_eq_true rfl⟩ (fun r10 u9 H locs hu9 hP hD hS => ?_)
  have hwp := hwp r10 u9 hu9
  refine lv_if_ne hx hb dMo_start_5 rfl (fun h11 => ?_) (fun h11 => ?_)
  · have hwp := hwp.1 h11
    refine lv_aload_n hx hb dMo_start_12 rfl (lv_at hl 0 rfl) ?_
    refine va_get (D := D) (ci := 0) (C := RMo) (T := TMo) (N := 33) hx hb hts hin0 hown hK hP 0 rfl rfl 26 (by decide) k75 (fun _ h9 => h9) rfl dMo_start_13 ?_
    refine lv_iload_n hx hb dMo_start_16 rfl (lv_at hl 1 rfl) ?_
    obtain ⟨hi12, hwp⟩ := hwp
    refine va_zald hx hb hK hP 21 1 rfl rfl hi12 dMo_start_17 ?_
    refine lv_if_eq hx hb dMo_start_18 rfl (fun h13 => ?_) (fun h13 => ?_)
    · have hwp := hwp.1 h13
      refine lv_iconst (v := 0) hx hb dMo_start_25 (by decide) ?_
      exact cut26 u9 x1 0 _ _ _ hwp hP hD hS (lv_sub hl [0, 1] rfl)
    · have hwp := hwp.2 h13
      refine lv_iconst (v := 2) hx hb dMo_start_21 (by decide) ?_
      refine lv_goto hx hb dMo_start_22 rfl ?_
      exact cut26 u9 x1 2 _ _ _ hwp hP hD hS (lv_sub hl [0, 1] rfl)
  · have hwp := hwp.2 h11
    refine lv_iconst (v := 1) hx hb dMo_start_8 (by decide) ?_
    refine lv_goto hx hb dMo_start_9 rfl ?_
    exact cut26 u9 x1 1 _ _ _ hwp hP hD hS (lv_sub hl [0, 1] rfl)
-- public void begin(int)
def wM_begin_84 (R : MS → Prop) (σ : MS) (y1 : Int32) (y2 : Int32) (y3 : Int32) (z1 : Int32) : Prop :=
  (∀ σ1 : MS, σ1 = up2 σ 32 0 z1 → (((¬ (σ1 32 0) = 0) → R σ1) ∧ (((σ1 32 0) = 0) → (∀ σ3 : MS, σ3 = up2 σ1 27 0 y1 → (vp_in y1 4 ∧ (∀ σ5 : MS, σ5 = up2 σ3 29 y1.toNatClampNeg (vp_nar .boolean 1) → R σ5))))))
def wM_begin_56 (K15 : MS → Int32 → Int32 → Int32 → Prop) (R : MS → Prop) (σ : MS) (y1 : Int32) (y2 : Int32) (y3 : Int32) (z0 : Int32) : Prop :=
  K15 σ y1 z0 (y3 + 1)
def wM_begin_51 (K15 : MS → Int32 → Int32 → Int32 → Prop) (R : MS → Prop) (σ : MS) (y1 : Int32) (y2 : Int32) (y3 : Int32) : Prop :=
  wM_begin_56 K15 R σ y1 y2 y3 1
def wM_begin_15_step (K15 : MS → Int32 → Int32 → Int32 → Prop) (R : MS → Prop) (σ : MS) (y1 : Int32) (y2 : Int32) (y3 : Int32) : Prop :=
  (((4 ≤ y3) → (∃ P7 : Int32 → MS → Prop, wM_isNode P7 σ y1 ∧ (∀ (r9 : Int32) (u8 : MS), P7 r9 u8 → (((¬ r9 = 0) → (((y2 = 0) → wM_begin_84 R u8 y1 y2 y3 0) ∧ ((¬ y2 = 0) → wM_begin_84 R u8 y1 y2 y3 2))) ∧ ((r9 = 0) → wM_begin_84 R u8 y1 y2 y3 1))))) ∧ ((¬ 4 ≤ y3) → (((¬ y2 = 0) → wM_begin_51 K15 R σ y1 y2 y3) ∧ ((y2 = 0) → (vp_in y3 4 ∧ (((¬ (σ 29 y3.toNatClampNeg) = 0) → wM_begin_51 K15 R σ y1 y2 y3) ∧ (((σ 29 y3.toNatClampNeg) = 0) → (vp_in y3 4 ∧ (((0 ≤ (σ 30 y3.toNatClampNeg)) → wM_begin_51 K15 R σ y1 y2 y3) ∧ ((¬ 0 ≤ (σ 30 y3.toNatClampNeg)) → (vp_in y3 4 ∧ ((((σ 31 y3.toNatClampNeg) ≤ 0) → wM_begin_56 K15 R σ y1 y2 y3 0) ∧ ((¬ (σ 31 y3.toNatClampNeg) ≤ 0) → wM_begin_51 K15 R σ y1 y2 y3)))))))))))))
def wM_begin_15 (R : MS → Prop) : Nat → MS → Int32 → Int32 → Int32 → Prop
  | 0 => fun _ _ _ _ => False
  | k + 1 => fun σ y1 y2 y3 => wM_begin_15_step  (wM_begin_15  R k) R σ y1 y2 y3
def wM_begin_12 (R : MS → Prop) (σ : MS) (y1 : Int32) (z0 : Int32) : Prop :=
  wM_begin_15 R 5 σ y1 z0 0
def wM_begin (R : MS → Prop) (σ : MS) (x1 : Int32) : Prop :=
  ((((σ 27 0) < 0) → wM_begin_12 R σ x1 0) ∧ ((¬ (σ 27 0) < 0) → wM_begin_12 R σ x1 1))
abbrev wsMo_begin : List Cond := .code yMo_begin cMo_begin 4 none :: wg
abbrev rmM_begin : Room := { frames := 1, cells := 0, slots := 0, locals := 20 }
set_option maxHeartbeats 4000000 in
set_option maxRecDepth 100000 in
theorem kM_begin (l : Launch) (D : va_G) (a : Nat → Nat) (A : Nat → Prop) (tI tZ : ClassId) (σ : MS) (x1 : Int32) (R : MS → Prop) (hwp : wM_begin R σ x1) : Met l yMo_begin wsMo_begin rmM_begin (va_Pc [.ref (a 0), .int x1] (uI D clA (mT tI tZ) A false (mw a tI tZ) σ)) (va_Qv R (uI D clA (mT tI tZ) A false (mw a tI tZ)) A) 0 0 A := by
  refine Met.ofW (cc := cMo_begin) (maxL := 4) (ret := none) (by decide) rfl ?_
  intro p e s m args below meth c s₁ B hml hv
  obtain ⟨rfl, hP, hK, hD, hA⟩ := hv
  have hx := B.exec
  have hb := B.bytes
  have hr := B.returns
  have hts := atoms_spec (ws := wsMo_begin) B.pre
  have hown : s.vm.findClass RMo = some m.cls := findClass_of_methodNamed B.named
  have hlocks := B.notSynchronized
  have hin0 : ∀ w ∈ u_ws RMo TMo 33, w ∈ wsMo_begin := fun w h => List.mem_cons_of_mem _ (inMo w h)
  have k78 := hts _ (List.mem_cons_of_mem _ wm_763)
  have k81 := hts _ (List.mem_cons_of_mem _ wm_765)
  have k84 := hts _ (List.mem_cons_of_mem _ wm_766)
  have k87 := hts _ (List.mem_cons_of_mem _ wm_767)
  have k90 := hts _ (List.mem_cons_of_mem _ wm_768)
  have hS : va_S A s.heap s.heap [] := va_S.rf
  have cut84 : ∀ (σ : MS) (y1 : Int32) (y2 : Int32) (y3 : Int32) (z1 : Int32) (H : Heap) (locs : List Loc) (ls : Array Slot), wM_begin_84 R σ y1 y2 y3 z1 → va_P D clA (mw a tI tZ σ) H → va_D A (mw a tI tZ σ) → va_S A s.heap H locs → lv_has ls 4 [(0, .ref (a 0)), (1, .int y1), (2, .int y2), (3, .int y3)] → W p l e (headSpec wsMo_begin rmM_begin).room s m ([.ref (a 0), .int x1] : List Value).toArray below meth c H locs 0 0 (MQ below (va_Qv R (uI D clA (mT tI tZ) A false (mw a tI tZ)) A) ([.ref (a 0), .int x1] : List Value).toArray s 0 0 A) (F0 m 84 ls [.int z1, .ref (a 0)]) := by
    intro σ y1 y2 y3 z1 H locs ls hwp hP hD hS hl
    refine va_put (ty := .int) (D := D) (ci := 0) (C := RMo) (T := TMo) (N := 33) hx hb hts hin0 tyMo tyMo_ok nmMo hown hK hP hD hS 0 rfl rfl 32 (by decide) k90 (fun _ h9 => h9) rfl (by decide +kernel) rfl rfl (Nat.le_of_ble_eq_true rfl) dMo_begin_84 (fun H locs hP hD hS => ?_)
    obtain ⟨σ1, eσ1⟩ : ∃ z, z = up2 σ 32 0 z1 := ⟨_, rfl⟩
    have hwp := hwp σ1 eσ1
    have hP : va_P D clA (mw a tI tZ σ1) H := by rw [eσ1]; exact hP
    have hD : va_D A (mw a tI tZ σ1) := by rw [eσ1]; exact hD
    refine lv_aload_n hx hb dMo_begin_87 rfl (lv_at hl 0 rfl) ?_
    refine va_get (D := D) (ci := 0) (C := RMo) (T := TMo) (N := 33) hx hb hts hin0 hown hK hP 0 rfl rfl 32 (by decide) k90 (fun _ h9 => h9) rfl dMo_begin_88 ?_
    refine lv_if_ne hx hb dMo_begin_91 rfl (fun h2 => ?_) (fun h2 => ?_)
    · have hwp := hwp.1 h2
      exact W.vret hx hb hr (fun t ht hW => ⟨⟨σ1, rfl, hwp, uEnd ht hW hP hK hD hS hA⟩, hS.F ht⟩) hS.2.2 dMo_begin_106
    · have hwp := hwp.2 h2
      refine lv_aload_n hx hb dMo_begin_94 rfl (lv_at hl 0 rfl) ?_
      refine lv_iload_n hx hb dMo_begin_95 rfl (lv_at hl 1 rfl) ?_
      refine va_put (ty := .int) (D := D) (ci := 0) (C := RMo) (T := TMo) (N := 33) hx hb hts hin0 tyMo tyMo_ok nmMo hown hK hP hD hS 0 rfl rfl 27 (by decide) k78 (fun _ h9 => h9) rfl (by decide +kernel) rfl rfl (Nat.le_of_ble_eq_true rfl) dMo_begin_96 (fun H locs hP hD hS => ?_)
      obtain ⟨σ3, eσ3⟩ : ∃ z, z = up2 σ1 27 0 y1 := ⟨_, rfl⟩
      have hwp := hwp σ3 eσ3
      have hP : va_P D clA (mw a tI tZ σ3) H := by rw [eσ3]; exact hP
      have hD : va_D A (mw a tI tZ σ3) := by rw [eσ3]; exact hD
      refine lv_aload_n hx hb dMo_begin_99 rfl (lv_at hl 0 rfl) ?_
      refine va_get (D := D) (ci := 0) (C := RMo) (T := TMo) (N := 33) hx hb hts hin0 hown hK hP 0 rfl rfl 29 (by decide) k81 (fun _ h9 => h9) rfl dMo_begin_100 ?_
      refine lv_iload_n hx hb dMo_begin_103 rfl (lv_at hl 1 rfl) ?_
      refine lv_iconst (v := 1) hx hb dMo_begin_104 (by decide) ?_
      obtain ⟨hi4, hwp⟩ := hwp
      refine va_zast hx hb hK hP hD hS 22 1 rfl rfl hi4 dMo_begin_105 (fun H locs hP hD hS => ?_)
      obtain ⟨σ5, eσ5⟩ : ∃ z, z = up2 σ3 29 y1.toNatClampNeg (vp_nar .boolean 1) := ⟨_, rfl⟩
      have hwp := hwp σ5 eσ5
      have hP : va_P D clA (mw a tI tZ σ5) H := by rw [eσ5]; exact hP
      have hD : va_D A (mw a tI tZ σ5) := by rw [eσ5]; exact hD
      exact W.vret hx hb hr (fun t ht hW => ⟨⟨σ5, rfl, hwp, uEnd ht hW hP hK hD hS hA⟩, hS.F ht⟩) hS.2.2 dMo_begin_106
  have cut15 : ∀ (k15 : Nat) (σ : MS) (y1 : Int32) (y2 : Int32) (y3 : Int32) (H : Heap) (locs : List Loc) (ls : Array Slot), wM_begin_15 R k15 σ y1 y2 y3 → va_P D clA (mw a tI tZ σ) H → va_D A (mw a tI tZ σ) → va_S A s.heap H locs → lv_has ls 4 [(0, .ref (a 0)), (1, .int y1), (2, .int y2), (3, .int y3)] → W p l e (headSpec wsMo_begin rmM_begin).room s m ([.ref (a 0), .int x1] : List Value).toArray below meth c H locs 0 0 (MQ below (va_Qv R (uI D clA (mT tI tZ) A false (mw a tI tZ)) A) ([.ref (a 0), .int x1] : List Value).toArray s 0 0 A) (F0 m 15 ls []) := by
    intro k15
    induction k15 with
    | zero => intro σ y1 y2 y3 H locs ls hwp hP hD hS hl; exact False.elim hwp
    | succ k15 ih15 =>
      intro σ y1 y2 y3 H locs ls hwp hP hD hS hl
      have cut56 : ∀ (σ : MS) (y1 : Int32) (y2 : Int32) (y3 : Int32) (z0 : Int32) (H : Heap) (locs : List Loc) (ls : Array Slot), wM_begin_56 (wM_begin_15 R k15) R σ y1 y2 y3 z0 → va_P D clA (mw a tI tZ σ) H → va_D A (mw a tI tZ σ) → va_S A s.heap H locs → lv_has ls 4 [(0, .ref (a 0)), (1, .int y1), (2, .int y2), (3, .int y3)] → W p l e (headSpec wsMo_begin rmM_begin).room s m ([.ref (a 0), .int x1] : List Value).toArray below meth c H locs 0 0 (MQ below (va_Qv R (uI D clA (mT tI tZ) A false (mw a tI tZ)) A) ([.ref (a 0), .int x1] : List Value).toArray s 0 0 A) (F0 m 56 ls [.int z0]) := by
        intro σ y1 y2 y3 z0 H locs ls hwp hP hD hS hl
        refine lv_istore_n hx hb dMo_begin_56 rfl hl (by decide) rfl (fun ls hl => ?_)
        have hl : lv_has ls 4 [(2, .int z0), (0, .ref (a 0)), (1, .int y1), (3, .int y3)] := hl
        refine lv_iinc (k := 3) hx hb dMo_begin_57 hl rfl (fx_inc1 _) (by decide) rfl (fun ls hl => ?_)
        have hl : lv_has ls 4 [(3, .int (y3 + 1)), (2, .int z0), (0, .ref (a 0)), (1, .int y1)] := hl
        refine lv_goto hx hb dMo_begin_60 rfl ?_
        exact ih15 σ y1 z0 (y3 + 1) _ _ _ hwp hP hD hS (lv_sub hl [2, 3, 1, 0] rfl)
      have cut51 : ∀ (σ : MS) (y1 : Int32) (y2 : Int32) (y3 : Int32) (H : Heap) (locs : List Loc) (ls : Array Slot), wM_begin_51 (wM_begin_15 R k15) R σ y1 y2 y3 → va_P D clA (mw a tI tZ σ) H → va_D A (mw a tI tZ σ) → va_S A s.heap H locs → lv_has ls 4 [(0, .ref (a 0)), (1, .int y1), (2, .int y2), (3, .int y3)] → W p l e (headSpec wsMo_begin rmM_begin).room s m ([.ref (a 0), .int x1] : List Value).toArray below meth c H locs 0 0 (MQ below (va_Qv R (uI D clA (mT tI tZ) A false (mw a tI tZ)) A) ([.ref (a 0), .int x1] : List Value).toArray s 0 0 A) (F0 m 51 ls []) := by
        intro σ y1 y2 y3 H locs ls hwp hP hD hS hl
        refine lv_iconst (v := 1) hx hb dMo_begin_51 (by decide) ?_
        refine lv_goto hx hb dMo_begin_52 rfl ?_
        exact cut56 σ y1 y2 y3 1 _ _ _ hwp hP hD hS (lv_sub hl [0, 1, 2, 3] rfl)
      have hwp : wM_begin_15_step (wM_begin_15 R k15) R σ y1 y2 y3 := hwp
      refine lv_iload_n hx hb dMo_begin_15 rfl (lv_at hl 3 rfl) ?_
      refine lv_iconst (v := 4) hx hb dMo_begin_16 (by decide) ?_
      refine lv_icmp_ge hx hb dMo_begin_17 rfl (fun h6 => ?_) (fun h6 => ?_)
      · have hwp := hwp.1 h6
        refine lv_aload_n hx hb dMo_begin_63 rfl (lv_at hl 0 rfl) ?_
        refine lv_iload_n hx hb dMo_begin_64 rfl (lv_at hl 1 rfl) ?_
        obtain ⟨P7, hP7, hwp⟩ := hwp
        refine uCallSi (As := [.int y1]) (rest := [.ref (a 0)]) ⟨hx, hb, hml, hown, hts⟩ (kM_isNode l D a A tI tZ σ y1 P7 hP7) (cwS 1 hts (gdS wm_847 wm_848 wm_13 wm_849) rfl rfl rfl (by decide +kernel) ⟨Nat.le_of_ble_eq_true rfl, Nat.le_of_ble_eq_true rfl⟩) hP hK hD hA hS rfl hl.1 rfl (Nat.le_of_ble_eq_true rfl) dMo_begin_65 ⟨Nat.le_of_ble_eq_true rfl, Nat.le_of_ble_eq_true rfl⟩ (fun r9 u8 H locs hu8 hP hD hS => ?_)
        have hwp := hwp r9 u8 hu8
        refine lv_if_ne hx hb dMo_begin_68 rfl (fun h10 => ?_) (fun h10 => ?_)
        · have hwp := hwp.1 h10
          refine lv_iload_n hx hb dMo_begin_75 rfl (lv_at hl 2 rfl) ?_
          refine lv_if_eq hx hb dMo_begin_76 rfl (fun h11 => ?_) (fun h11 => ?_)
          · have hwp := hwp.1 h11
            refine lv_iconst (v := 0) hx hb dMo_begin_83 (by decide) ?_
            exact cut84 u8 y1 y2 y3 0 _ _ _ hwp hP hD hS (lv_sub hl [0, 1, 2, 3] rfl)
          · have hwp := hwp.2 h11
            refine lv_iconst (v := 2) hx hb dMo_begin_79 (by decide) ?_
            refine lv_goto hx hb dMo_begin_80 rfl ?_
            exact cut84 u8 y1 y2 y3 2 _ _ _ hwp hP hD hS (lv_sub hl [0, 1, 2, 3] rfl)
        · have hwp := hwp.2 h10
          refine lv_iconst (v := 1) hx hb dMo_begin_71 (by decide) ?_
          refine lv_goto hx hb dMo_begin_72 rfl ?_
          exact cut84 u8 y1 y2 y3 1 _ _ _ hwp hP hD hS (lv_sub hl [0, 1, 2, 3] rfl)
      · have hwp := hwp.2 h6
        refine lv_iload_n hx hb dMo_begin_20 rfl (lv_at hl 2 rfl) ?_
        refine lv_if_ne hx hb dMo_begin_21 rfl (fun h12 => ?_) (fun h12 => ?_)
        · have hwp := hwp.1 h12
          exact cut51 σ y1 y2 y3 _ _ _ hwp hP hD hS (lv_sub hl [0, 1, 2, 3] rfl)
        · have hwp := hwp.2 h12
          refine lv_aload_n hx hb dMo_begin_24 rfl (lv_at hl 0 rfl) ?_
          refine va_get (D := D) (ci := 0) (C := RMo) (T := TMo) (N := 33) hx hb hts hin0 hown hK hP 0 rfl rfl 29 (by decide) k81 (fun _ h9 => h9) rfl dMo_begin_25 ?_
          refine lv_iload_n hx hb dMo_begin_28 rfl (lv_at hl 3 rfl) ?_
          obtain ⟨hi13, hwp⟩ := hwp
          refine va_zald hx hb hK hP 22 1 rfl rfl hi13 dMo_begin_29 ?_
          refine lv_if_ne hx hb dMo_begin_30 rfl (fun h14 => ?_) (fun h14 => ?_)
          · have hwp := hwp.1 h14
            exact cut51 σ y1 y2 y3 _ _ _ hwp hP hD hS (lv_sub hl [0, 1, 2, 3] rfl)
          · have hwp := hwp.2 h14
            refine lv_aload_n hx hb dMo_begin_33 rfl (lv_at hl 0 rfl) ?_
            refine va_get (D := D) (ci := 0) (C := RMo) (T := TMo) (N := 33) hx hb hts hin0 hown hK hP 0 rfl rfl 30 (by decide) k84 (fun _ h9 => h9) rfl dMo_begin_34 ?_
            refine lv_iload_n hx hb dMo_begin_37 rfl (lv_at hl 3 rfl) ?_
            obtain ⟨hi15, hwp⟩ := hwp
            refine va_iald hx hb hK hP 23 0 rfl rfl hi15 dMo_begin_38 ?_
            refine lv_if_ge hx hb dMo_begin_39 rfl (fun h16 => ?_) (fun h16 => ?_)
            · have hwp := hwp.1 h16
              exact cut51 σ y1 y2 y3 _ _ _ hwp hP hD hS (lv_sub hl [0, 1, 2, 3] rfl)
            · have hwp := hwp.2 h16
              refine lv_aload_n hx hb dMo_begin_42 rfl (lv_at hl 0 rfl) ?_
              refine va_get (D := D) (ci := 0) (C := RMo) (T := TMo) (N := 33) hx hb hts hin0 hown hK hP 0 rfl rfl 31 (by decide) k87 (fun _ h9 => h9) rfl dMo_begin_43 ?_
              refine lv_iload_n hx hb dMo_begin_46 rfl (lv_at hl 3 rfl) ?_
              obtain ⟨hi17, hwp⟩ := hwp
              refine va_iald hx hb hK hP 24 0 rfl rfl hi17 dMo_begin_47 ?_
              refine lv_if_le hx hb dMo_begin_48 rfl (fun h18 => ?_) (fun h18 => ?_)
              · have hwp := hwp.1 h18
                refine lv_iconst (v := 0) hx hb dMo_begin_55 (by decide) ?_
                exact cut56 σ y1 y2 y3 0 _ _ _ hwp hP hD hS (lv_sub hl [0, 1, 2, 3] rfl)
              · have hwp := hwp.2 h18
                exact cut51 σ y1 y2 y3 _ _ _ hwp hP hD hS (lv_sub hl [0, 1, 2, 3] rfl)
  have cut12 : ∀ (σ : MS) (y1 : Int32) (z0 : Int32) (H : Heap) (locs : List Loc) (ls : Array Slot), wM_begin_12 R σ y1 z0 → va_P D clA (mw a tI tZ σ) H → va_D A (mw a tI tZ σ) → va_S A s.heap H locs → lv_has ls 4 [(0, .ref (a 0)), (1, .int y1)] → W p l e (headSpec wsMo_begin rmM_begin).room s m ([.ref (a 0), .int x1] : List Value).toArray below meth c H locs 0 0 (MQ below (va_Qv R (uI D clA (mT tI tZ) A false (mw a tI tZ)) A) ([.ref (a 0), .int x1] : List Value).toArray s 0 0 A) (F0 m 12 ls [.int z0]) := by
    intro σ y1 z0 H locs ls hwp hP hD hS hl
    refine lv_istore_n hx hb dMo_begin_12 rfl hl (by decide) rfl (fun ls hl => ?_)
    have hl : lv_has ls 4 [(2, .int z0), (0, .ref (a 0)), (1, .int y1)] := hl
    refine lv_iconst (v := 0) hx hb dMo_begin_13 (by decide) ?_
    refine lv_istore_n hx hb dMo_begin_14 rfl hl (by decide) rfl (fun ls hl => ?_)
    have hl : lv_has ls 4 [(3, .int 0), (2, .int z0), (0, .ref (a 0)), (1, .int y1)] := hl
    exact cut15 5 σ y1 z0 0 _ _ _ hwp hP hD hS (lv_sub hl [2, 3, 1, 0] rfl)
  have hl := lv_entry ([.ref (a 0), .int x1]) (n := 4) (Nat.le_of_ble_eq_true rfl)
  rw [lg_entry_eq]
  generalize (lg_sl ([.ref (a 0), .int x1]) ++ List.replicate (4 - (lg_sl ([.ref (a 0), .int x1])).length) Slot.unset).toArray = ls at hl ⊢
  have hl : lv_has ls 4 [(0, .ref (a 0)), (1, .int x1)] := hl
  refine lv_aload_n hx hb dMo_begin_0 rfl (lv_at hl 0 rfl) ?_
  refine va_get (D := D) (ci := 0) (C := RMo) (T := TMo) (N := 33) hx hb hts hin0 hown hK hP 0 rfl rfl 27 (by decide) k78 (fun _ h9 => h9) rfl dMo_begin_1 ?_
  refine lv_if_lt hx hb dMo_begin_4 rfl (fun h19 => ?_) (fun h19 => ?_)
  · have hwp := hwp.1 h19
    refine lv_iconst (v := 0) hx hb dMo_begin_11 (by decide) ?_
    exact cut12 σ x1 0 _ _ _ hwp hP hD hS (lv_sub hl [0, 1] rfl)
  · have hwp := hwp.2 h19
    refine lv_iconst (v := 1) hx hb dMo_begin_7 (by decide) ?_
    refine lv_goto hx hb dMo_begin_8 rfl ?_
    exact cut12 σ x1 1 _ _ _ hwp hP hD hS (lv_sub hl [0, 1] rfl)
-- public void spread(int, int)
def wM_spread_38 (R : MS → Prop) (σ : MS) (y1 : Int32) (y2 : Int32) (z1 : Int32) : Prop :=
  (∀ σ1 : MS, σ1 = up2 σ 32 0 z1 → (((¬ (σ1 32 0) = 0) → R σ1) ∧ (((σ1 32 0) = 0) → (vp_in y1 4 ∧ (vp_in y1 4 ∧ (∀ σ5 : MS, σ5 = up2 σ1 31 y1.toNatClampNeg ((σ1 31 y1.toNatClampNeg) + 1) → (∃ P6 : MS → Prop, wM_send P6 σ5 y1 y2 4 0 0 ∧ (∀ (u7 : MS), P6 u7 → R u7))))))))
def wM_spread_33 (R : MS → Prop) (σ : MS) (y1 : Int32) (y2 : Int32) : Prop :=
  wM_spread_38 R σ y1 y2 2
def wM_spread (R : MS → Prop) (σ : MS) (x1 x2 : Int32) : Prop :=
  (∃ P8 : Int32 → MS → Prop, wM_isChannel P8 σ x1 x2 ∧ (∀ (r10 : Int32) (u9 : MS), P8 r10 u9 → (((¬ r10 = 0) → (vp_in x1 4 ∧ ((((u9 29 x1.toNatClampNeg) = 0) → wM_spread_33 R u9 x1 x2) ∧ ((¬ (u9 29 x1.toNatClampNeg) = 0) → (vp_in x1 4 ∧ (((¬ (u9 31 x1.toNatClampNeg) = 20) → wM_spread_38 R u9 x1 x2 0) ∧ (((u9 31 x1.toNatClampNeg) = 20) → wM_spread_33 R u9 x1 x2))))))) ∧ ((r10 = 0) → wM_spread_38 R u9 x1 x2 1))))
abbrev wsMo_spread : List Cond := .code yMo_spread cMo_spread 3 none :: wg
abbrev rmM_spread : Room := { frames := 2, cells := 0, slots := 0, locals := 41 }
set_option maxHeartbeats 4000000 in
set_option maxRecDepth 100000 in
theorem kM_spread (l : Launch) (D : va_G) (a : Nat → Nat) (A : Nat → Prop) (tI tZ : ClassId) (σ : MS) (x1 x2 : Int32) (R : MS → Prop) (hwp : wM_spread R σ x1 x2) : Met l yMo_spread wsMo_spread rmM_spread (va_Pc [.ref (a 0), .int x1, .int x2] (uI D clA (mT tI tZ) A false (mw a tI tZ) σ)) (va_Qv R (uI D clA (mT tI tZ) A false (mw a tI tZ)) A) 0 0 A := by
  refine Met.ofW (cc := cMo_spread) (maxL := 3) (ret := none) (by decide) rfl ?_
  intro p e s m args below meth c s₁ B hml hv
  obtain ⟨rfl, hP, hK, hD, hA⟩ := hv
  have hx := B.exec
  have hb := B.bytes
  have hr := B.returns
  have hts := atoms_spec (ws := wsMo_spread) B.pre
  have hown : s.vm.findClass RMo = some m.cls := findClass_of_methodNamed B.named
  have hlocks := B.notSynchronized
  have hin0 : ∀ w ∈ u_ws RMo TMo 33, w ∈ wsMo_spread := fun w h => List.mem_cons_of_mem _ (inMo w h)
  have k81 := hts _ (List.mem_cons_of_mem _ wm_765)
  have k87 := hts _ (List.mem_cons_of_mem _ wm_767)
  have k90 := hts _ (List.mem_cons_of_mem _ wm_768)
  have hS : va_S A s.heap s.heap [] := va_S.rf
  have cut38 : ∀ (σ : MS) (y1 : Int32) (y2 : Int32) (z1 : Int32) (H : Heap) (locs : List Loc) (ls : Array Slot), wM_spread_38 R σ y1 y2 z1 → va_P D clA (mw a tI tZ σ) H → va_D A (mw a tI tZ σ) → va_S A s.heap H locs → lv_has ls 3 [(0, .ref (a 0)), (1, .int y1), (2, .int y2)] → W p l e (headSpec wsMo_spread rmM_spread).room s m ([.ref (a 0), .int x1, .int x2] : List Value).toArray below meth c H locs 0 0 (MQ below (va_Qv R (uI D clA (mT tI tZ) A false (mw a tI tZ)) A) ([.ref (a 0), .int x1, .int x2] : List Value).toArray s 0 0 A) (F0 m 38 ls [.int z1, .ref (a 0)]) := by
    intro σ y1 y2 z1 H locs ls hwp hP hD hS hl
    refine va_put (ty := .int) (D := D) (ci := 0) (C := RMo) (T := TMo) (N := 33) hx hb hts hin0 tyMo tyMo_ok nmMo hown hK hP hD hS 0 rfl rfl 32 (by decide) k90 (fun _ h9 => h9) rfl (by decide +kernel) rfl rfl (Nat.le_of_ble_eq_true rfl) dMo_spread_38 (fun H locs hP hD hS => ?_)
    obtain ⟨σ1, eσ1⟩ : ∃ z, z = up2 σ 32 0 z1 := ⟨_, rfl⟩
    have hwp := hwp σ1 eσ1
    have hP : va_P D clA (mw a tI tZ σ1) H := by rw [eσ1]; exact hP
    have hD : va_D A (mw a tI tZ σ1) := by rw [eσ1]; exact hD
    refine lv_aload_n hx hb dMo_spread_41 rfl (lv_at hl 0 rfl) ?_
    refine va_get (D := D) (ci := 0) (C := RMo) (T := TMo) (N := 33) hx hb hts hin0 hown hK hP 0 rfl rfl 32 (by decide) k90 (fun _ h9 => h9) rfl dMo_spread_42 ?_
    refine lv_if_ne hx hb dMo_spread_45 rfl (fun h2 => ?_) (fun h2 => ?_)
    · have hwp := hwp.1 h2
      exact W.vret hx hb hr (fun t ht hW => ⟨⟨σ1, rfl, hwp, uEnd ht hW hP hK hD hS hA⟩, hS.F ht⟩) hS.2.2 dMo_spread_67
    · have hwp := hwp.2 h2
      refine lv_aload_n hx hb dMo_spread_48 rfl (lv_at hl 0 rfl) ?_
      refine va_get (D := D) (ci := 0) (C := RMo) (T := TMo) (N := 33) hx hb hts hin0 hown hK hP 0 rfl rfl 31 (by decide) k87 (fun _ h9 => h9) rfl dMo_spread_49 ?_
      refine lv_iload_n hx hb dMo_spread_52 rfl (lv_at hl 1 rfl) ?_
      refine lv_dup2_11 hx hb dMo_spread_53 rfl rfl ?_
      obtain ⟨hi3, hwp⟩ := hwp
      refine va_iald hx hb hK hP 24 0 rfl rfl hi3 dMo_spread_54 ?_
      refine lv_iconst (v := 1) hx hb dMo_spread_55 (by decide) ?_
      refine lv_iadd hx hb dMo_spread_56 ?_
      obtain ⟨hi4, hwp⟩ := hwp
      refine va_iast hx hb hK hP hD hS 24 0 rfl rfl hi4 dMo_spread_57 (fun H locs hP hD hS => ?_)
      obtain ⟨σ5, eσ5⟩ : ∃ z, z = up2 σ1 31 y1.toNatClampNeg ((σ1 31 y1.toNatClampNeg) + 1) := ⟨_, rfl⟩
      have hwp := hwp σ5 eσ5
      have hP : va_P D clA (mw a tI tZ σ5) H := by rw [eσ5]; exact hP
      have hD : va_D A (mw a tI tZ σ5) := by rw [eσ5]; exact hD
      refine lv_aload_n hx hb dMo_spread_58 rfl (lv_at hl 0 rfl) ?_
      refine lv_iload_n hx hb dMo_spread_59 rfl (lv_at hl 1 rfl) ?_
      refine lv_iload_n hx hb dMo_spread_60 rfl (lv_at hl 2 rfl) ?_
      refine lv_iconst (v := 4) hx hb dMo_spread_61 (by decide) ?_
      refine lv_iconst (v := 0) hx hb dMo_spread_62 (by decide) ?_
      refine lv_iconst (v := 0) hx hb dMo_spread_63 (by decide) ?_
      obtain ⟨P6, hP6, hwp⟩ := hwp
      refine uCallVv (As := [.int y1, .int y2, .int 4, .int 0, .int 0]) (rest := []) (C := RMo) ⟨hx, hb, hml, hown, hts⟩ (kM_send l D a A tI tZ σ5 y1 y2 4 0 0 P6 hP6) (cwV 5 hts (gdV wm_858 wm_860 wp_18 wm_13 wm_861) rfl rfl rfl (by decide +kernel) ⟨Nat.le_of_ble_eq_true rfl, Nat.le_of_ble_eq_true rfl⟩) (va_recv (ci := 0) (q0 := 0) hK hP rfl rfl) hP hK hD hA hS rfl hl.1 rfl (Nat.le_of_ble_eq_true rfl) dMo_spread_64 ⟨Nat.le_of_ble_eq_true rfl, Nat.le_of_ble_eq_true rfl⟩ (fun u7 H locs hu7 hP hD hS => ?_)
      have hwp := hwp u7 hu7
      exact W.vret hx hb hr (fun t ht hW => ⟨⟨u7, rfl, hwp, uEnd ht hW hP hK hD hS hA⟩, hS.F ht⟩) hS.2.2 dMo_spread_67
  have cut33 : ∀ (σ : MS) (y1 : Int32) (y2 : Int32) (H : Heap) (locs : List Loc) (ls : Array Slot), wM_spread_33 R σ y1 y2 → va_P D clA (mw a tI tZ σ) H → va_D A (mw a tI tZ σ) → va_S A s.heap H locs → lv_has ls 3 [(0, .ref (a 0)), (1, .int y1), (2, .int y2)] → W p l e (headSpec wsMo_spread rmM_spread).room s m ([.ref (a 0), .int x1, .int x2] : List Value).toArray below meth c H locs 0 0 (MQ below (va_Qv R (uI D clA (mT tI tZ) A false (mw a tI tZ)) A) ([.ref (a 0), .int x1, .int x2] : List Value).toArray s 0 0 A) (F0 m 33 ls [.ref (a 0)]) := by
    intro σ y1 y2 H locs ls hwp hP hD hS hl
    refine lv_iconst (v := 2) hx hb dMo_spread_33 (by decide) ?_
    refine lv_goto hx hb dMo_spread_34 rfl ?_
    exact cut38 σ y1 y2 2 _ _ _ hwp hP hD hS (lv_sub hl [0, 1, 2] rfl)
  have hl := lv_entry ([.ref (a 0), .int x1, .int x2]) (n := 3) (Nat.le_of_ble_eq_true rfl)
  rw [lg_entry_eq]
  generalize (lg_sl ([.ref (a 0), .int x1, .int x2]) ++ List.replicate (3 - (lg_sl ([.ref (a 0), .int x1, .int x2])).length) Slot.unset).toArray = ls at hl ⊢
  have hl : lv_has ls 3 [(0, .ref (a 0)), (1, .int x1), (2, .int x2)] := hl
  refine lv_aload_n hx hb dMo_spread_0 rfl (lv_at hl 0 rfl) ?_
  refine lv_iload_n hx hb dMo_spread_1 rfl (lv_at hl 1 rfl) ?_
  refine lv_iload_n hx hb dMo_spread_2 rfl (lv_at hl 2 rfl) ?_
  obtain ⟨P8, hP8, hwp⟩ := hwp
  refine uCallSi (As := [.int x1, .int x2]) (rest := [.ref (a 0)]) ⟨hx, hb, hml, hown, hts⟩ (kM_isChannel l D a A tI tZ σ x1 x2 P8 hP8) (cwS 2 hts (gdS wm_844 wm_845 wm_13 wm_846) rfl rfl rfl (by decide +kernel) ⟨Nat.le_of_ble_eq_true rfl, Nat.le_of_ble_eq_true rfl⟩) hP hK hD hA hS rfl hl.1 rfl (Nat.le_of_ble_eq_true rfl) dMo_spread_3 ⟨Nat.le_of_ble_eq_true rfl, Nat.le_of_ble_eq_true rfl⟩ (fun r10 u9 H locs hu9 hP hD hS => ?_)
  have hwp := hwp r10 u9 hu9
  refine lv_if_ne hx hb dMo_spread_6 rfl (fun h11 => ?_) (fun h11 => ?_)
  · have hwp := hwp.1 h11
    refine lv_aload_n hx hb dMo_spread_13 rfl (lv_at hl 0 rfl) ?_
    refine va_get (D := D) (ci := 0) (C := RMo) (T := TMo) (N := 33) hx hb hts hin0 hown hK hP 0 rfl rfl 29 (by decide) k81 (fun _ h9 => h9) rfl dMo_spread_14 ?_
    refine lv_iload_n hx hb dMo_spread_17 rfl (lv_at hl 1 rfl) ?_
    obtain ⟨hi12, hwp⟩ := hwp
    refine va_zald hx hb hK hP 22 1 rfl rfl hi12 dMo_spread_18 ?_
    refine lv_if_eq hx hb dMo_spread_19 rfl (fun h13 => ?_) (fun h13 => ?_)
    · have hwp := hwp.1 h13
      exact cut33 u9 x1 x2 _ _ _ hwp hP hD hS (lv_sub hl [0, 1, 2] rfl)
    · have hwp := hwp.2 h13
      refine lv_aload_n hx hb dMo_spread_22 rfl (lv_at hl 0 rfl) ?_
      refine va_get (D := D) (ci := 0) (C := RMo) (T := TMo) (N := 33) hx hb hts hin0 hown hK hP 0 rfl rfl 31 (by decide) k87 (fun _ h9 => h9) rfl dMo_spread_23 ?_
      refine lv_iload_n hx hb dMo_spread_26 rfl (lv_at hl 1 rfl) ?_
      obtain ⟨hi14, hwp⟩ := hwp
      refine va_iald hx hb hK hP 24 0 rfl rfl hi14 dMo_spread_27 ?_
      refine lv_bipush (v := 20) hx hb dMo_spread_28 (by decide) ?_
      refine lv_icmp_ne hx hb dMo_spread_30 rfl (fun h15 => ?_) (fun h15 => ?_)
      · have hwp := hwp.1 h15
        refine lv_iconst (v := 0) hx hb dMo_spread_37 (by decide) ?_
        exact cut38 u9 x1 x2 0 _ _ _ hwp hP hD hS (lv_sub hl [0, 1, 2] rfl)
      · have hwp := hwp.2 h15
        exact cut33 u9 x1 x2 _ _ _ hwp hP hD hS (lv_sub hl [0, 1, 2] rfl)
  · have hwp := hwp.2 h11
    refine lv_iconst (v := 1) hx hb dMo_spread_9 (by decide) ?_
    refine lv_goto hx hb dMo_spread_10 rfl ?_
    exact cut38 u9 x1 x2 1 _ _ _ hwp hP hD hS (lv_sub hl [0, 1, 2] rfl)
-- public void rest(int)
def wM_rest_26 (R : MS → Prop) (σ : MS) (y1 : Int32) (z1 : Int32) : Prop :=
  (∀ σ1 : MS, σ1 = up2 σ 32 0 z1 → (((¬ (σ1 32 0) = 0) → R σ1) ∧ (((σ1 32 0) = 0) → (vp_in y1 4 ∧ (∀ σ4 : MS, σ4 = up2 σ1 29 y1.toNatClampNeg (vp_nar .boolean 0) → (∃ P5 : MS → Prop, wM_settle P5 σ4 y1 ∧ (∀ (u6 : MS), P5 u6 → R u6)))))))
def wM_rest (R : MS → Prop) (σ : MS) (x1 : Int32) : Prop :=
  (∃ P7 : Int32 → MS → Prop, wM_isNode P7 σ x1 ∧ (∀ (r9 : Int32) (u8 : MS), P7 r9 u8 → (((¬ r9 = 0) → (vp_in x1 4 ∧ (((¬ (u8 29 x1.toNatClampNeg) = 0) → wM_rest_26 R u8 x1 0) ∧ (((u8 29 x1.toNatClampNeg) = 0) → wM_rest_26 R u8 x1 2)))) ∧ ((r9 = 0) → wM_rest_26 R u8 x1 1))))
abbrev wsMo_rest : List Cond := .code yMo_rest cMo_rest 2 none :: wg
abbrev rmM_rest : Room := { frames := 2, cells := 0, slots := 0, locals := 49 }
set_option maxHeartbeats 4000000 in
set_option maxRecDepth 100000 in
theorem kM_rest (l : Launch) (D : va_G) (a : Nat → Nat) (A : Nat → Prop) (tI tZ : ClassId) (σ : MS) (x1 : Int32) (R : MS → Prop) (hwp : wM_rest R σ x1) : Met l yMo_rest wsMo_rest rmM_rest (va_Pc [.ref (a 0), .int x1] (uI D clA (mT tI tZ) A false (mw a tI tZ) σ)) (va_Qv R (uI D clA (mT tI tZ) A false (mw a tI tZ)) A) 0 0 A := by
  refine Met.ofW (cc := cMo_rest) (maxL := 2) (ret := none) (by decide) rfl ?_
  intro p e s m args below meth c s₁ B hml hv
  obtain ⟨rfl, hP, hK, hD, hA⟩ := hv
  have hx := B.exec
  have hb := B.bytes
  have hr := B.returns
  have hts := atoms_spec (ws := wsMo_rest) B.pre
  have hown : s.vm.findClass RMo = some m.cls := findClass_of_methodNamed B.named
  have hlocks := B.notSynchronized
  have hin0 : ∀ w ∈ u_ws RMo TMo 33, w ∈ wsMo_rest := fun w h => List.mem_cons_of_mem _ (inMo w h)
  have k81 := hts _ (List.mem_cons_of_mem _ wm_765)
  have k90 := hts _ (List.mem_cons_of_mem _ wm_768)
  have hS : va_S A s.heap s.heap [] := va_S.rf
  have cut26 : ∀ (σ : MS) (y1 : Int32) (z1 : Int32) (H : Heap) (locs : List Loc) (ls : Array Slot), wM_rest_26 R σ y1 z1 → va_P D clA (mw a tI tZ σ) H → va_D A (mw a tI tZ σ) → va_S A s.heap H locs → lv_has ls 2 [(0, .ref (a 0)), (1, .int y1)] → W p l e (headSpec wsMo_rest rmM_rest).room s m ([.ref (a 0), .int x1] : List Value).toArray below meth c H locs 0 0 (MQ below (va_Qv R (uI D clA (mT tI tZ) A false (mw a tI tZ)) A) ([.ref (a 0), .int x1] : List Value).toArray s 0 0 A) (F0 m 26 ls [.int z1, .ref (a 0)]) := by
    intro σ y1 z1 H locs ls hwp hP hD hS hl
    refine va_put (ty := .int) (D := D) (ci := 0) (C := RMo) (T := TMo) (N := 33) hx hb hts hin0 tyMo tyMo_ok nmMo hown hK hP hD hS 0 rfl rfl 32 (by decide) k90 (fun _ h9 => h9) rfl (by decide +kernel) rfl rfl (Nat.le_of_ble_eq_true rfl) dMo_rest_26 (fun H locs hP hD hS => ?_)
    obtain ⟨σ1, eσ1⟩ : ∃ z, z = up2 σ 32 0 z1 := ⟨_, rfl⟩
    have hwp := hwp σ1 eσ1
    have hP : va_P D clA (mw a tI tZ σ1) H := by rw [eσ1]; exact hP
    have hD : va_D A (mw a tI tZ σ1) := by rw [eσ1]; exact hD
    refine lv_aload_n hx hb dMo_rest_29 rfl (lv_at hl 0 rfl) ?_
    refine va_get (D := D) (ci := 0) (C := RMo) (T := TMo) (N := 33) hx hb hts hin0 hown hK hP 0 rfl rfl 32 (by decide) k90 (fun _ h9 => h9) rfl dMo_rest_30 ?_
    refine lv_if_ne hx hb dMo_rest_33 rfl (fun h2 => ?_) (fun h2 => ?_)
    · have hwp := hwp.1 h2
      exact W.vret hx hb hr (fun t ht hW => ⟨⟨σ1, rfl, hwp, uEnd ht hW hP hK hD hS hA⟩, hS.F ht⟩) hS.2.2 dMo_rest_48
    · have hwp := hwp.2 h2
      refine lv_aload_n hx hb dMo_rest_36 rfl (lv_at hl 0 rfl) ?_
      refine va_get (D := D) (ci := 0) (C := RMo) (T := TMo) (N := 33) hx hb hts hin0 hown hK hP 0 rfl rfl 29 (by decide) k81 (fun _ h9 => h9) rfl dMo_rest_37 ?_
      refine lv_iload_n hx hb dMo_rest_40 rfl (lv_at hl 1 rfl) ?_
      refine lv_iconst (v := 0) hx hb dMo_rest_41 (by decide) ?_
      obtain ⟨hi3, hwp⟩ := hwp
      refine va_zast hx hb hK hP hD hS 22 1 rfl rfl hi3 dMo_rest_42 (fun H locs hP hD hS => ?_)
      obtain ⟨σ4, eσ4⟩ : ∃ z, z = up2 σ1 29 y1.toNatClampNeg (vp_nar .boolean 0) := ⟨_, rfl⟩
      have hwp := hwp σ4 eσ4
      have hP : va_P D clA (mw a tI tZ σ4) H := by rw [eσ4]; exact hP
      have hD : va_D A (mw a tI tZ σ4) := by rw [eσ4]; exact hD
      refine lv_aload_n hx hb dMo_rest_43 rfl (lv_at hl 0 rfl) ?_
      refine lv_iload_n hx hb dMo_rest_44 rfl (lv_at hl 1 rfl) ?_
      obtain ⟨P5, hP5, hwp⟩ := hwp
      refine uCallVv (As := [.int y1]) (rest := []) (C := RMo) ⟨hx, hb, hml, hown, hts⟩ (kM_settle l D a A tI tZ σ4 y1 P5 hP5) (cwV 1 hts (gdV wm_894 wm_896 wp_27 wm_13 wm_897) rfl rfl rfl (by decide +kernel) ⟨Nat.le_of_ble_eq_true rfl, Nat.le_of_ble_eq_true rfl⟩) (va_recv (ci := 0) (q0 := 0) hK hP rfl rfl) hP hK hD hA hS rfl hl.1 rfl (Nat.le_of_ble_eq_true rfl) dMo_rest_45 ⟨Nat.le_of_ble_eq_true rfl, Nat.le_of_ble_eq_true rfl⟩ (fun u6 H locs hu6 hP hD hS => ?_)
      have hwp := hwp u6 hu6
      exact W.vret hx hb hr (fun t ht hW => ⟨⟨u6, rfl, hwp, uEnd ht hW hP hK hD hS hA⟩, hS.F ht⟩) hS.2.2 dMo_rest_48
  have hl := lv_entry ([.ref (a 0), .int x1]) (n := 2) (Nat.le_of_ble_eq_true rfl)
  rw [lg_entry_eq]
  generalize (lg_sl ([.ref (a 0), .int x1]) ++ List.replicate (2 - (lg_sl ([.ref (a 0), .int x1])).length) Slot.unset).toArray = ls at hl ⊢
  have hl : lv_has ls 2 [(0, .ref (a 0)), (1, .int x1)] := hl
  refine lv_aload_n hx hb dMo_rest_0 rfl (lv_at hl 0 rfl) ?_
  refine lv_iload_n hx hb dMo_rest_1 rfl (lv_at hl 1 rfl) ?_
  obtain ⟨P7, hP7, hwp⟩ := hwp
  refine uCallSi (As := [.int x1]) (rest := [.ref (a 0)]) ⟨hx, hb, hml, hown, hts⟩ (kM_isNode l D a A tI tZ σ x1 P7 hP7) (cwS 1 hts (gdS wm_847 wm_848 wm_13 wm_849) rfl rfl rfl (by decide +kernel) ⟨Nat.le_of_ble_eq_true rfl, Nat.le_of_ble_eq_true rfl⟩) hP hK hD hA hS rfl hl.1 rfl (Nat.le_of_ble_eq_true rfl) dMo_rest_2 ⟨Nat.le_of_ble_eq_true rfl, Nat.le_of_ble_eq_true rfl⟩ (fun r9 u8 H locs hu8 hP hD hS => ?_)
  have hwp := hwp r9 u8 hu8
  refine lv_if_ne hx hb dMo_rest_5 rfl (fun h10 => ?_) (fun h10 => ?_)
  · have hwp := hwp.1 h10
    refine lv_aload_n hx hb dMo_rest_12 rfl (lv_at hl 0 rfl) ?_
    refine va_get (D := D) (ci := 0) (C := RMo) (T := TMo) (N := 33) hx hb hts hin0 hown hK hP 0 rfl rfl 29 (by decide) k81 (fun _ h9 => h9) rfl dMo_rest_13 ?_
    refine lv_iload_n hx hb dMo_rest_16 rfl (lv_at hl 1 rfl) ?_
    obtain ⟨hi11, hwp⟩ := hwp
    refine va_zald hx hb hK hP 22 1 rfl rfl hi11 dMo_rest_17 ?_
    refine lv_if_ne hx hb dMo_rest_18 rfl (fun h12 => ?_) (fun h12 => ?_)
    · have hwp := hwp.1 h12
      refine lv_iconst (v := 0) hx hb dMo_rest_25 (by decide) ?_
      exact cut26 u8 x1 0 _ _ _ hwp hP hD hS (lv_sub hl [0, 1] rfl)
    · have hwp := hwp.2 h12
      refine lv_iconst (v := 2) hx hb dMo_rest_21 (by decide) ?_
      refine lv_goto hx hb dMo_rest_22 rfl ?_
      exact cut26 u8 x1 2 _ _ _ hwp hP hD hS (lv_sub hl [0, 1] rfl)
  · have hwp := hwp.2 h10
    refine lv_iconst (v := 1) hx hb dMo_rest_8 (by decide) ?_
    refine lv_goto hx hb dMo_rest_9 rfl ?_
    exact cut26 u8 x1 1 _ _ _ hwp hP hD hS (lv_sub hl [0, 1] rfl)
-- public int deliver(int, int)
def wM_deliver_245 (R : Int32 → MS → Prop) (σ : MS) (y1 : Int32) (y2 : Int32) (y3 : Int32) (y4 : Int32) (y5 : Int32) (y6 : Int32) (y7 : Int32) : Prop :=
  R y5 σ
def wM_deliver_94 (R : Int32 → MS → Prop) (σ : MS) (y1 : Int32) (y2 : Int32) (y3 : Int32) (y4 : Int32) (z1 : Int32) (z2 : Int32) : Prop :=
  (vp_in z1 16 ∧ (∀ σ2 : MS, σ2 = up2 σ 1 z1.toNatClampNeg z2 → (vp_in y3 16 ∧ (vp_in y3 16 ∧ (∀ σ5 : MS, σ5 = up2 σ2 2 y3.toNatClampNeg ((σ2 2 y3.toNatClampNeg) - 1) → (vp_in y4 700 ∧ (∀ σ7 : MS, σ7 = up2 σ5 5 y4.toNatClampNeg (σ5 7 0) → (∀ σ8 : MS, σ8 = up2 σ7 7 0 y4 → (vp_in y4 700 ∧ (∀ v10 : Int32, v10 = (σ8 3 y4.toNatClampNeg) / 10 → (vp_in y4 700 ∧ (∀ v12 : Int32, v12 = (σ8 3 y4.toNatClampNeg) - (σ8 3 y4.toNatClampNeg) / 10 * 10 → (vp_in y4 700 ∧ (∀ v14 : Int32, v14 = σ8 4 y4.toNatClampNeg → (((v10 = 0) → (∃ P16 : MS → Prop, wM_stampArrives P16 σ8 y1 y2 v12 v14 ∧ (∀ (u17 : MS), P16 u17 → wM_deliver_245 R u17 y1 y2 y3 y4 v10 v12 v14))) ∧ ((¬ v10 = 0) → (((v10 = 1) → (∃ P19 : MS → Prop, wM_tokenArrives P19 σ8 y1 y2 v12 v14 ∧ (∀ (u20 : MS), P19 u20 → wM_deliver_245 R u20 y1 y2 y3 y4 v10 v12 v14))) ∧ ((¬ v10 = 1) → (((v10 = 2) → (∃ P22 : MS → Prop, wM_treeArrives P22 σ8 y1 y2 v12 ∧ (∀ (u23 : MS), P22 u23 → wM_deliver_245 R u23 y1 y2 y3 y4 v10 v12 v14))) ∧ ((¬ v10 = 2) → (((v10 = 3) → (∃ P25 : MS → Prop, wM_ringArrives P25 σ8 y2 v12 v14 ∧ (∀ (u26 : MS), P25 u26 → wM_deliver_245 R u26 y1 y2 y3 y4 v10 v12 v14))) ∧ ((¬ v10 = 3) → (∃ P27 : MS → Prop, wM_workArrives P27 σ8 y1 y2 v12 ∧ (∀ (u28 : MS), P27 u28 → wM_deliver_245 R u28 y1 y2 y3 y4 v10 v12 v14))))))))))))))))))))))))
def wM_deliver_31 (R : Int32 → MS → Prop) (σ : MS) (y1 : Int32) (y2 : Int32) (z1 : Int32) : Prop :=
  (∀ σ29 : MS, σ29 = up2 σ 32 0 z1 → ((((σ29 32 0) = 0) → (∀ v31 : Int32, v31 = (4 * y1) + y2 → (vp_in v31 16 ∧ (∀ v33 : Int32, v33 = σ29 0 v31.toNatClampNeg → (vp_in v33 700 ∧ (vp_in v31 16 ∧ (∀ σ36 : MS, σ36 = up2 σ29 0 v31.toNatClampNeg (σ29 5 v33.toNatClampNeg) → (vp_in v31 16 ∧ (((0 ≤ (σ36 0 v31.toNatClampNeg)) → (vp_in v31 16 ∧ wM_deliver_94 R σ36 y1 y2 v31 v33 v31 (σ36 1 v31.toNatClampNeg))) ∧ ((¬ 0 ≤ (σ36 0 v31.toNatClampNeg)) → wM_deliver_94 R σ36 y1 y2 v31 v33 v31 (-1))))))))))) ∧ ((¬ (σ29 32 0) = 0) → R 0 σ29)))
def wM_deliver (R : Int32 → MS → Prop) (σ : MS) (x1 x2 : Int32) : Prop :=
  (∃ P40 : Int32 → MS → Prop, wM_isChannel P40 σ x1 x2 ∧ (∀ (r42 : Int32) (u41 : MS), P40 r42 u41 → (((¬ r42 = 0) → (vp_in ((4 * x1) + x2) 16 ∧ (((0 ≤ (u41 0 ((4 * x1) + x2).toNatClampNeg)) → wM_deliver_31 R u41 x1 x2 0) ∧ ((¬ 0 ≤ (u41 0 ((4 * x1) + x2).toNatClampNeg)) → wM_deliver_31 R u41 x1 x2 2)))) ∧ ((r42 = 0) → wM_deliver_31 R u41 x1 x2 1))))
abbrev wsMo_deliver : List Cond := .code yMo_deliver cMo_deliver 8 (some .int) :: wg
abbrev rmM_deliver : Room := { frames := 3, cells := 0, slots := 0, locals := 72 }
set_option maxHeartbeats 4000000 in
set_option maxRecDepth 100000 in
theorem kM_deliver (l : Launch) (D : va_G) (a : Nat → Nat) (A : Nat → Prop) (tI tZ : ClassId) (σ : MS) (x1 x2 : Int32) (R : Int32 → MS → Prop) (hwp : wM_deliver R σ x1 x2) : Met l yMo_deliver wsMo_deliver rmM_deliver (va_Pc [.ref (a 0), .int x1, .int x2] (uI D clA (mT tI tZ) A false (mw a tI tZ) σ)) (va_Qi R (uI D clA (mT tI tZ) A false (mw a tI tZ)) A) 0 0 A := by
  refine Met.ofW (cc := cMo_deliver) (maxL := 8) (ret := (some .int)) (by decide) rfl ?_
  intro p e s m args below meth c s₁ B hml hv
  obtain ⟨rfl, hP, hK, hD, hA⟩ := hv
  have hx := B.exec
  have hb := B.bytes
  have hr := B.returns
  have hts := atoms_spec (ws := wsMo_deliver) B.pre
  have hown : s.vm.findClass RMo = some m.cls := findClass_of_methodNamed B.named
  have hlocks := B.notSynchronized
  have hin0 : ∀ w ∈ u_ws RMo TMo 33, w ∈ wsMo_deliver := fun w h => List.mem_cons_of_mem _ (inMo w h)
  have k13 := hts _ (List.mem_cons_of_mem _ wm_737)
  have k16 := hts _ (List.mem_cons_of_mem _ wm_738)
  have k19 := hts _ (List.mem_cons_of_mem _ wm_739)
  have k22 := hts _ (List.mem_cons_of_mem _ wm_740)
  have k25 := hts _ (List.mem_cons_of_mem _ wm_741)
  have k28 := hts _ (List.mem_cons_of_mem _ wm_743)
  have k7 := hts _ (List.mem_cons_of_mem _ wm_736)
  have k90 := hts _ (List.mem_cons_of_mem _ wm_768)
  have hS : va_S A s.heap s.heap [] := va_S.rf
  have cut245 : ∀ (σ : MS) (y1 : Int32) (y2 : Int32) (y3 : Int32) (y4 : Int32) (y5 : Int32) (y6 : Int32) (y7 : Int32) (H : Heap) (locs : List Loc) (ls : Array Slot), wM_deliver_245 R σ y1 y2 y3 y4 y5 y6 y7 → va_P D clA (mw a tI tZ σ) H → va_D A (mw a tI tZ σ) → va_S A s.heap H locs → lv_has ls 8 [(0, .ref (a 0)), (1, .int y1), (2, .int y2), (3, .int y3), (4, .int y4), (5, .int y5), (6, .int y6), (7, .int y7)] → W p l e (headSpec wsMo_deliver rmM_deliver).room s m ([.ref (a 0), .int x1, .int x2] : List Value).toArray below meth c H locs 0 0 (MQ below (va_Qi R (uI D clA (mT tI tZ) A false (mw a tI tZ)) A) ([.ref (a 0), .int x1, .int x2] : List Value).toArray s 0 0 A) (F0 m 245 ls []) := by
    intro σ y1 y2 y3 y4 y5 y6 y7 H locs ls hwp hP hD hS hl
    refine lv_iload hx hb dMo_deliver_245 (lv_at hl 5 rfl) ?_
    exact W.iret (v := y5) hx hb hr (fun t ht hW => ⟨⟨y5, σ, rfl, hwp, uEnd ht hW hP hK hD hS hA⟩, hS.F ht⟩) hS.2.2 dMo_deliver_247
  have cut94 : ∀ (σ : MS) (y1 : Int32) (y2 : Int32) (y3 : Int32) (y4 : Int32) (z1 : Int32) (z2 : Int32) (H : Heap) (locs : List Loc) (ls : Array Slot), wM_deliver_94 R σ y1 y2 y3 y4 z1 z2 → va_P D clA (mw a tI tZ σ) H → va_D A (mw a tI tZ σ) → va_S A s.heap H locs → lv_has ls 8 [(0, .ref (a 0)), (1, .int y1), (2, .int y2), (3, .int y3), (4, .int y4)] → W p l e (headSpec wsMo_deliver rmM_deliver).room s m ([.ref (a 0), .int x1, .int x2] : List Value).toArray below meth c H locs 0 0 (MQ below (va_Qi R (uI D clA (mT tI tZ) A false (mw a tI tZ)) A) ([.ref (a 0), .int x1, .int x2] : List Value).toArray s 0 0 A) (F0 m 94 ls [.int z2, .int z1, .ref (a 2)]) := by
    intro σ y1 y2 y3 y4 z1 z2 H locs ls hwp hP hD hS hl
    obtain ⟨hi1, hwp⟩ := hwp
    refine va_iast hx hb hK hP hD hS 2 0 rfl rfl hi1 dMo_deliver_94 (fun H locs hP hD hS => ?_)
    obtain ⟨σ2, eσ2⟩ : ∃ z, z = up2 σ 1 z1.toNatClampNeg z2 := ⟨_, rfl⟩
    have hwp := hwp σ2 eσ2
    have hP : va_P D clA (mw a tI tZ σ2) H := by rw [eσ2]; exact hP
    have hD : va_D A (mw a tI tZ σ2) := by rw [eσ2]; exact hD
    refine lv_aload_n hx hb dMo_deliver_95 rfl (lv_at hl 0 rfl) ?_
    refine va_get (D := D) (ci := 0) (C := RMo) (T := TMo) (N := 33) hx hb hts hin0 hown hK hP 0 rfl rfl 2 (by decide) k16 (fun _ h9 => h9) rfl dMo_deliver_96 ?_
    refine lv_iload_n hx hb dMo_deliver_99 rfl (lv_at hl 3 rfl) ?_
    refine lv_dup2_11 hx hb dMo_deliver_100 rfl rfl ?_
    obtain ⟨hi3, hwp⟩ := hwp
    refine va_iald hx hb hK hP 3 0 rfl rfl hi3 dMo_deliver_101 ?_
    refine lv_iconst (v := 1) hx hb dMo_deliver_102 (by decide) ?_
    refine lv_isub hx hb dMo_deliver_103 ?_
    obtain ⟨hi4, hwp⟩ := hwp
    refine va_iast hx hb hK hP hD hS 3 0 rfl rfl hi4 dMo_deliver_104 (fun H locs hP hD hS => ?_)
    obtain ⟨σ5, eσ5⟩ : ∃ z, z = up2 σ2 2 y3.toNatClampNeg ((σ2 2 y3.toNatClampNeg) - 1) := ⟨_, rfl⟩
    have hwp := hwp σ5 eσ5
    have hP : va_P D clA (mw a tI tZ σ5) H := by rw [eσ5]; exact hP
    have hD : va_D A (mw a tI tZ σ5) := by rw [eσ5]; exact hD
    refine lv_aload_n hx hb dMo_deliver_105 rfl (lv_at hl 0 rfl) ?_
    refine va_get (D := D) (ci := 0) (C := RMo) (T := TMo) (N := 33) hx hb hts hin0 hown hK hP 0 rfl rfl 5 (by decide) k25 (fun _ h9 => h9) rfl dMo_deliver_106 ?_
    refine lv_iload hx hb dMo_deliver_109 (lv_at hl 4 rfl) ?_
    refine lv_aload_n hx hb dMo_deliver_111 rfl (lv_at hl 0 rfl) ?_
    refine va_get (D := D) (ci := 0) (C := RMo) (T := TMo) (N := 33) hx hb hts hin0 hown hK hP 0 rfl rfl 7 (by decide) k28 (fun _ h9 => h9) rfl dMo_deliver_112 ?_
    obtain ⟨hi6, hwp⟩ := hwp
    refine va_iast hx hb hK hP hD hS 6 0 rfl rfl hi6 dMo_deliver_115 (fun H locs hP hD hS => ?_)
    obtain ⟨σ7, eσ7⟩ : ∃ z, z = up2 σ5 5 y4.toNatClampNeg (σ5 7 0) := ⟨_, rfl⟩
    have hwp := hwp σ7 eσ7
    have hP : va_P D clA (mw a tI tZ σ7) H := by rw [eσ7]; exact hP
    have hD : va_D A (mw a tI tZ σ7) := by rw [eσ7]; exact hD
    refine lv_aload_n hx hb dMo_deliver_116 rfl (lv_at hl 0 rfl) ?_
    refine lv_iload hx hb dMo_deliver_117 (lv_at hl 4 rfl) ?_
    refine va_put (ty := .int) (D := D) (ci := 0) (C := RMo) (T := TMo) (N := 33) hx hb hts hin0 tyMo tyMo_ok nmMo hown hK hP hD hS 0 rfl rfl 7 (by decide) k28 (fun _ h9 => h9) rfl (by decide +kernel) rfl rfl (Nat.le_of_ble_eq_true rfl) dMo_deliver_119 (fun H locs hP hD hS => ?_)
    obtain ⟨σ8, eσ8⟩ : ∃ z, z = up2 σ7 7 0 y4 := ⟨_, rfl⟩
    have hwp := hwp σ8 eσ8
    have hP : va_P D clA (mw a tI tZ σ8) H := by rw [eσ8]; exact hP
    have hD : va_D A (mw a tI tZ σ8) := by rw [eσ8]; exact hD
    refine lv_aload_n hx hb dMo_deliver_122 rfl (lv_at hl 0 rfl) ?_
    refine va_get (D := D) (ci := 0) (C := RMo) (T := TMo) (N := 33) hx hb hts hin0 hown hK hP 0 rfl rfl 3 (by decide) k19 (fun _ h9 => h9) rfl dMo_deliver_123 ?_
    refine lv_iload hx hb dMo_deliver_126 (lv_at hl 4 rfl) ?_
    obtain ⟨hi9, hwp⟩ := hwp
    refine va_iald hx hb hK hP 4 0 rfl rfl hi9 dMo_deliver_128 ?_
    refine lv_bipush (v := 10) hx hb dMo_deliver_129 (by decide) ?_
    refine lv_idiv hx hb dMo_deliver_131 (by decide) ?_
    refine lv_topi (fun v10 ev10 => ?_)
    have hwp := hwp v10 ev10
    refine lv_istore hx hb dMo_deliver_132 hl (by decide) rfl (fun ls hl => ?_)
    have hl : lv_has ls 8 [(5, .int v10), (0, .ref (a 0)), (1, .int y1), (2, .int y2), (3, .int y3), (4, .int y4)] := hl
    refine lv_aload_n hx hb dMo_deliver_134 rfl (lv_at hl 1 rfl) ?_
    refine va_get (D := D) (ci := 0) (C := RMo) (T := TMo) (N := 33) hx hb hts hin0 hown hK hP 0 rfl rfl 3 (by decide) k19 (fun _ h9 => h9) rfl dMo_deliver_135 ?_
    refine lv_iload hx hb dMo_deliver_138 (lv_at hl 5 rfl) ?_
    obtain ⟨hi11, hwp⟩ := hwp
    refine va_iald hx hb hK hP 4 0 rfl rfl hi11 dMo_deliver_140 ?_
    refine lv_bipush (v := 10) hx hb dMo_deliver_141 (by decide) ?_
    refine lv_irem hx hb dMo_deliver_143 (by decide) ?_
    refine lv_topi (fun v12 ev12 => ?_)
    have hwp := hwp v12 ev12
    refine lv_istore hx hb dMo_deliver_144 hl (by decide) rfl (fun ls hl => ?_)
    have hl : lv_has ls 8 [(6, .int v12), (5, .int v10), (0, .ref (a 0)), (1, .int y1), (2, .int y2), (3, .int y3), (4, .int y4)] := hl
    refine lv_aload_n hx hb dMo_deliver_146 rfl (lv_at hl 2 rfl) ?_
    refine va_get (D := D) (ci := 0) (C := RMo) (T := TMo) (N := 33) hx hb hts hin0 hown hK hP 0 rfl rfl 4 (by decide) k22 (fun _ h9 => h9) rfl dMo_deliver_147 ?_
    refine lv_iload hx hb dMo_deliver_150 (lv_at hl 6 rfl) ?_
    obtain ⟨hi13, hwp⟩ := hwp
    refine va_iald hx hb hK hP 5 0 rfl rfl hi13 dMo_deliver_152 ?_
    refine lv_topi (fun v14 ev14 => ?_)
    have hwp := hwp v14 ev14
    refine lv_istore hx hb dMo_deliver_153 hl (by decide) rfl (fun ls hl => ?_)
    have hl : lv_has ls 8 [(7, .int v14), (6, .int v12), (5, .int v10), (0, .ref (a 0)), (1, .int y1), (2, .int y2), (3, .int y3), (4, .int y4)] := hl
    refine lv_iload hx hb dMo_deliver_155 (lv_at hl 2 rfl) ?_
    by_cases h15 : v10 = 0
    · have hwp := hwp.1 h15
      refine lv_tableIn hx hb dMo_deliver_157 (by rw [h15]; decide) (by rw [h15]; decide) (by rw [h15]; rfl) rfl ?_
      refine lv_aload_n hx hb dMo_deliver_188 rfl (lv_at hl 3 rfl) ?_
      refine lv_iload_n hx hb dMo_deliver_189 rfl (lv_at hl 4 rfl) ?_
      refine lv_iload_n hx hb dMo_deliver_190 rfl (lv_at hl 5 rfl) ?_
      refine lv_iload hx hb dMo_deliver_191 (lv_at hl 1 rfl) ?_
      refine lv_iload hx hb dMo_deliver_193 (lv_at hl 0 rfl) ?_
      obtain ⟨P16, hP16, hwp⟩ := hwp
      refine uCallVv (As := [.int y1, .int y2, .int v12, .int v14]) (rest := []) (C := RMo) ⟨hx, hb, hml, hown, hts⟩ (kM_stampArrives l D a A tI tZ σ8 y1 y2 v12 v14 P16 hP16) (cwV 4 hts (gdV wm_850 wm_852 wp_16 wm_13 wm_853) rfl rfl rfl (by decide +kernel) ⟨Nat.le_of_ble_eq_true rfl, Nat.le_of_ble_eq_true rfl⟩) (va_recv (ci := 0) (q0 := 0) hK hP rfl rfl) hP hK hD hA hS rfl hl.1 rfl (Nat.le_of_ble_eq_true rfl) dMo_deliver_195 ⟨Nat.le_of_ble_eq_true rfl, Nat.le_of_ble_eq_true rfl⟩ (fun u17 H locs hu17 hP hD hS => ?_)
      have hwp := hwp u17 hu17
      refine lv_goto hx hb dMo_deliver_198 rfl ?_
      exact cut245 u17 y1 y2 y3 y4 v10 v12 v14 _ _ _ hwp hP hD hS (lv_sub hl [3, 4, 5, 6, 7, 2, 1, 0] rfl)
    have hwp := hwp.2 h15
    by_cases h18 : v10 = 1
    · have hwp := hwp.1 h18
      refine lv_tableIn hx hb dMo_deliver_157 (by rw [h18]; decide) (by rw [h18]; decide) (by rw [h18]; rfl) rfl ?_
      refine lv_aload_n hx hb dMo_deliver_201 rfl (lv_at hl 3 rfl) ?_
      refine lv_iload_n hx hb dMo_deliver_202 rfl (lv_at hl 4 rfl) ?_
      refine lv_iload_n hx hb dMo_deliver_203 rfl (lv_at hl 5 rfl) ?_
      refine lv_iload hx hb dMo_deliver_204 (lv_at hl 1 rfl) ?_
      refine lv_iload hx hb dMo_deliver_206 (lv_at hl 0 rfl) ?_
      obtain ⟨P19, hP19, hwp⟩ := hwp
      refine uCallVv (As := [.int y1, .int y2, .int v12, .int v14]) (rest := []) (C := RMo) ⟨hx, hb, hml, hown, hts⟩ (kM_tokenArrives l D a A tI tZ σ8 y1 y2 v12 v14 P19 hP19) (cwV 4 hts (gdV wm_862 wm_864 wp_19 wm_13 wm_865) rfl rfl rfl (by decide +kernel) ⟨Nat.le_of_ble_eq_true rfl, Nat.le_of_ble_eq_true rfl⟩) (va_recv (ci := 0) (q0 := 0) hK hP rfl rfl) hP hK hD hA hS rfl hl.1 rfl (Nat.le_of_ble_eq_true rfl) dMo_deliver_208 ⟨Nat.le_of_ble_eq_true rfl, Nat.le_of_ble_eq_true rfl⟩ (fun u20 H locs hu20 hP hD hS => ?_)
      have hwp := hwp u20 hu20
      refine lv_goto hx hb dMo_deliver_211 rfl ?_
      exact cut245 u20 y1 y2 y3 y4 v10 v12 v14 _ _ _ hwp hP hD hS (lv_sub hl [3, 4, 5, 6, 7, 2, 1, 0] rfl)
    have hwp := hwp.2 h18
    by_cases h21 : v10 = 2
    · have hwp := hwp.1 h21
      refine lv_tableIn hx hb dMo_deliver_157 (by rw [h21]; decide) (by rw [h21]; decide) (by rw [h21]; rfl) rfl ?_
      refine lv_aload_n hx hb dMo_deliver_214 rfl (lv_at hl 3 rfl) ?_
      refine lv_iload_n hx hb dMo_deliver_215 rfl (lv_at hl 4 rfl) ?_
      refine lv_iload_n hx hb dMo_deliver_216 rfl (lv_at hl 5 rfl) ?_
      refine lv_iload hx hb dMo_deliver_217 (lv_at hl 1 rfl) ?_
      obtain ⟨P22, hP22, hwp⟩ := hwp
      refine uCallVv (As := [.int y1, .int y2, .int v12]) (rest := []) (C := RMo) ⟨hx, hb, hml, hown, hts⟩ (kM_treeArrives l D a A tI tZ σ8 y1 y2 v12 P22 hP22) (cwV 3 hts (gdV wm_870 wm_872 wp_21 wm_13 wm_873) rfl rfl rfl (by decide +kernel) ⟨Nat.le_of_ble_eq_true rfl, Nat.le_of_ble_eq_true rfl⟩) (va_recv (ci := 0) (q0 := 0) hK hP rfl rfl) hP hK hD hA hS rfl hl.1 rfl (Nat.le_of_ble_eq_true rfl) dMo_deliver_219 ⟨Nat.le_of_ble_eq_true rfl, Nat.le_of_ble_eq_true rfl⟩ (fun u23 H locs hu23 hP hD hS => ?_)
      have hwp := hwp u23 hu23
      refine lv_goto hx hb dMo_deliver_222 rfl ?_
      exact cut245 u23 y1 y2 y3 y4 v10 v12 v14 _ _ _ hwp hP hD hS (lv_sub hl [3, 4, 5, 6, 7, 2, 1, 0] rfl)
    have hwp := hwp.2 h21
    by_cases h24 : v10 = 3
    · have hwp := hwp.1 h24
      refine lv_tableIn hx hb dMo_deliver_157 (by rw [h24]; decide) (by rw [h24]; decide) (by rw [h24]; rfl) rfl ?_
      refine lv_aload_n hx hb dMo_deliver_225 rfl (lv_at hl 3 rfl) ?_
      refine lv_iload_n hx hb dMo_deliver_226 rfl (lv_at hl 5 rfl) ?_
      refine lv_iload hx hb dMo_deliver_227 (lv_at hl 1 rfl) ?_
      refine lv_iload hx hb dMo_deliver_229 (lv_at hl 0 rfl) ?_
      obtain ⟨P25, hP25, hwp⟩ := hwp
      refine uCallVv (As := [.int y2, .int v12, .int v14]) (rest := []) (C := RMo) ⟨hx, hb, hml, hown, hts⟩ (kM_ringArrives l D a A tI tZ σ8 y2 v12 v14 P25 hP25) (cwV 3 hts (gdV wm_886 wm_888 wp_25 wm_13 wm_889) rfl rfl rfl (by decide +kernel) ⟨Nat.le_of_ble_eq_true rfl, Nat.le_of_ble_eq_true rfl⟩) (va_recv (ci := 0) (q0 := 0) hK hP rfl rfl) hP hK hD hA hS rfl hl.1 rfl (Nat.le_of_ble_eq_true rfl) dMo_deliver_231 ⟨Nat.le_of_ble_eq_true rfl, Nat.le_of_ble_eq_true rfl⟩ (fun u26 H locs hu26 hP hD hS => ?_)
      have hwp := hwp u26 hu26
      refine lv_goto hx hb dMo_deliver_234 rfl ?_
      exact cut245 u26 y1 y2 y3 y4 v10 v12 v14 _ _ _ hwp hP hD hS (lv_sub hl [3, 4, 5, 6, 7, 2, 1, 0] rfl)
    have hwp := hwp.2 h24
    refine lv_tableOut hx hb dMo_deliver_157 (fx_out4 h15 h18 h21 h24) rfl ?_
    refine lv_aload_n hx hb dMo_deliver_237 rfl (lv_at hl 3 rfl) ?_
    refine lv_iload_n hx hb dMo_deliver_238 rfl (lv_at hl 4 rfl) ?_
    refine lv_iload_n hx hb dMo_deliver_239 rfl (lv_at hl 5 rfl) ?_
    refine lv_iload hx hb dMo_deliver_240 (lv_at hl 1 rfl) ?_
    obtain ⟨P27, hP27, hwp⟩ := hwp
    refine uCallVv (As := [.int y1, .int y2, .int v12]) (rest := []) (C := RMo) ⟨hx, hb, hml, hown, hts⟩ (kM_workArrives l D a A tI tZ σ8 y1 y2 v12 P27 hP27) (cwV 3 hts (gdV wm_890 wm_892 wp_26 wm_13 wm_893) rfl rfl rfl (by decide +kernel) ⟨Nat.le_of_ble_eq_true rfl, Nat.le_of_ble_eq_true rfl⟩) (va_recv (ci := 0) (q0 := 0) hK hP rfl rfl) hP hK hD hA hS rfl hl.1 rfl (Nat.le_of_ble_eq_true rfl) dMo_deliver_242 ⟨Nat.le_of_ble_eq_true rfl, Nat.le_of_ble_eq_true rfl⟩ (fun u28 H locs hu28 hP hD hS => ?_)
    have hwp := hwp u28 hu28
    exact cut245 u28 y1 y2 y3 y4 v10 v12 v14 _ _ _ hwp hP hD hS (lv_sub hl [3, 4, 5, 6, 7, 2, 1, 0] rfl)
  have cut31 : ∀ (σ : MS) (y1 : Int32) (y2 : Int32) (z1 : Int32) (H : Heap) (locs : List Loc) (ls : Array Slot), wM_deliver_31 R σ y1 y2 z1 → va_P D clA (mw a tI tZ σ) H → va_D A (mw a tI tZ σ) → va_S A s.heap H locs → lv_has ls 8 [(0, .ref (a 0)), (1, .int y1), (2, .int y2)] → W p l e (headSpec wsMo_deliver rmM_deliver).room s m ([.ref (a 0), .int x1, .int x2] : List Value).toArray below meth c H locs 0 0 (MQ below (va_Qi R (uI D clA (mT tI tZ) A false (mw a tI tZ)) A) ([.ref (a 0), .int x1, .int x2] : List Value).toArray s 0 0 A) (F0 m 31 ls [.int z1, .ref (a 0)]) := by
    intro σ y1 y2 z1 H locs ls hwp hP hD hS hl
    refine va_put (ty := .int) (D := D) (ci := 0) (C := RMo) (T := TMo) (N := 33) hx hb hts hin0 tyMo tyMo_ok nmMo hown hK hP hD hS 0 rfl rfl 32 (by decide) k90 (fun _ h9 => h9) rfl (by decide +kernel) rfl rfl (Nat.le_of_ble_eq_true rfl) dMo_deliver_31 (fun H locs hP hD hS => ?_)
    obtain ⟨σ29, eσ29⟩ : ∃ z, z = up2 σ 32 0 z1 := ⟨_, rfl⟩
    have hwp := hwp σ29 eσ29
    have hP : va_P D clA (mw a tI tZ σ29) H := by rw [eσ29]; exact hP
    have hD : va_D A (mw a tI tZ σ29) := by rw [eσ29]; exact hD
    refine lv_aload_n hx hb dMo_deliver_34 rfl (lv_at hl 0 rfl) ?_
    refine va_get (D := D) (ci := 0) (C := RMo) (T := TMo) (N := 33) hx hb hts hin0 hown hK hP 0 rfl rfl 32 (by decide) k90 (fun _ h9 => h9) rfl dMo_deliver_35 ?_
    refine lv_if_eq hx hb dMo_deliver_38 rfl (fun h30 => ?_) (fun h30 => ?_)
    · have hwp := hwp.1 h30
      refine lv_iconst (v := 4) hx hb dMo_deliver_43 (by decide) ?_
      refine lv_iload_n hx hb dMo_deliver_44 rfl (lv_at hl 1 rfl) ?_
      refine lv_imul hx hb dMo_deliver_45 ?_
      refine lv_iload_n hx hb dMo_deliver_46 rfl (lv_at hl 2 rfl) ?_
      refine lv_iadd hx hb dMo_deliver_47 ?_
      refine lv_topi (fun v31 ev31 => ?_)
      have hwp := hwp v31 ev31
      refine lv_istore_n hx hb dMo_deliver_48 rfl hl (by decide) rfl (fun ls hl => ?_)
      have hl : lv_has ls 8 [(3, .int v31), (0, .ref (a 0)), (1, .int y1), (2, .int y2)] := hl
      refine lv_aload_n hx hb dMo_deliver_49 rfl (lv_at hl 1 rfl) ?_
      refine va_get (D := D) (ci := 0) (C := RMo) (T := TMo) (N := 33) hx hb hts hin0 hown hK hP 0 rfl rfl 0 (by decide) k7 (fun _ h9 => h9) rfl dMo_deliver_50 ?_
      refine lv_iload_n hx hb dMo_deliver_53 rfl (lv_at hl 0 rfl) ?_
      obtain ⟨hi32, hwp⟩ := hwp
      refine va_iald hx hb hK hP 1 0 rfl rfl hi32 dMo_deliver_54 ?_
      refine lv_topi (fun v33 ev33 => ?_)
      have hwp := hwp v33 ev33
      refine lv_istore hx hb dMo_deliver_55 hl (by decide) rfl (fun ls hl => ?_)
      have hl : lv_has ls 8 [(4, .int v33), (3, .int v31), (0, .ref (a 0)), (1, .int y1), (2, .int y2)] := hl
      refine lv_aload_n hx hb dMo_deliver_57 rfl (lv_at hl 2 rfl) ?_
      refine va_get (D := D) (ci := 0) (C := RMo) (T := TMo) (N := 33) hx hb hts hin0 hown hK hP 0 rfl rfl 0 (by decide) k7 (fun _ h9 => h9) rfl dMo_deliver_58 ?_
      refine lv_iload_n hx hb dMo_deliver_61 rfl (lv_at hl 1 rfl) ?_
      refine lv_aload_n hx hb dMo_deliver_62 rfl (lv_at hl 2 rfl) ?_
      refine va_get (D := D) (ci := 0) (C := RMo) (T := TMo) (N := 33) hx hb hts hin0 hown hK hP 0 rfl rfl 5 (by decide) k25 (fun _ h9 => h9) rfl dMo_deliver_63 ?_
      refine lv_iload hx hb dMo_deliver_66 (lv_at hl 0 rfl) ?_
      obtain ⟨hi34, hwp⟩ := hwp
      refine va_iald hx hb hK hP 6 0 rfl rfl hi34 dMo_deliver_68 ?_
      obtain ⟨hi35, hwp⟩ := hwp
      refine va_iast hx hb hK hP hD hS 1 0 rfl rfl hi35 dMo_deliver_69 (fun H locs hP hD hS => ?_)
      obtain ⟨σ36, eσ36⟩ : ∃ z, z = up2 σ29 0 v31.toNatClampNeg (σ29 5 v33.toNatClampNeg) := ⟨_, rfl⟩
      have hwp := hwp σ36 eσ36
      have hP : va_P D clA (mw a tI tZ σ36) H := by rw [eσ36]; exact hP
      have hD : va_D A (mw a tI tZ σ36) := by rw [eσ36]; exact hD
      refine lv_aload_n hx hb dMo_deliver_70 rfl (lv_at hl 2 rfl) ?_
      refine va_get (D := D) (ci := 0) (C := RMo) (T := TMo) (N := 33) hx hb hts hin0 hown hK hP 0 rfl rfl 1 (by decide) k13 (fun _ h9 => h9) rfl dMo_deliver_71 ?_
      refine lv_iload_n hx hb dMo_deliver_74 rfl (lv_at hl 1 rfl) ?_
      refine lv_aload_n hx hb dMo_deliver_75 rfl (lv_at hl 2 rfl) ?_
      refine va_get (D := D) (ci := 0) (C := RMo) (T := TMo) (N := 33) hx hb hts hin0 hown hK hP 0 rfl rfl 0 (by decide) k7 (fun _ h9 => h9) rfl dMo_deliver_76 ?_
      refine lv_iload_n hx hb dMo_deliver_79 rfl (lv_at hl 1 rfl) ?_
      obtain ⟨hi37, hwp⟩ := hwp
      refine va_iald hx hb hK hP 1 0 rfl rfl hi37 dMo_deliver_80 ?_
      refine lv_if_ge hx hb dMo_deliver_81 rfl (fun h38 => ?_) (fun h38 => ?_)
      · have hwp := hwp.1 h38
        refine lv_aload_n hx hb dMo_deliver_88 rfl (lv_at hl 2 rfl) ?_
        refine va_get (D := D) (ci := 0) (C := RMo) (T := TMo) (N := 33) hx hb hts hin0 hown hK hP 0 rfl rfl 1 (by decide) k13 (fun _ h9 => h9) rfl dMo_deliver_89 ?_
        refine lv_iload_n hx hb dMo_deliver_92 rfl (lv_at hl 1 rfl) ?_
        obtain ⟨hi39, hwp⟩ := hwp
        refine va_iald hx hb hK hP 2 0 rfl rfl hi39 dMo_deliver_93 ?_
        exact cut94 σ36 y1 y2 v31 v33 v31 (σ36 1 v31.toNatClampNeg) _ _ _ hwp hP hD hS (lv_sub hl [2, 3, 4, 1, 0] rfl)
      · have hwp := hwp.2 h38
        refine lv_iconst (v := (-1)) hx hb dMo_deliver_84 (by decide) ?_
        refine lv_goto hx hb dMo_deliver_85 rfl ?_
        exact cut94 σ36 y1 y2 v31 v33 v31 (-1) _ _ _ hwp hP hD hS (lv_sub hl [2, 3, 4, 1, 0] rfl)
    · have hwp := hwp.2 h30
      refine lv_iconst (v := 0) hx hb dMo_deliver_41 (by decide) ?_
      exact W.iret (v := 0) hx hb hr (fun t ht hW => ⟨⟨0, σ29, rfl, hwp, uEnd ht hW hP hK hD hS hA⟩, hS.F ht⟩) hS.2.2 dMo_deliver_42
  have hl := lv_entry ([.ref (a 0), .int x1, .int x2]) (n := 8) (Nat.le_of_ble_eq_true rfl)
  rw [lg_entry_eq]
  generalize (lg_sl ([.ref (a 0), .int x1, .int x2]) ++ List.replicate (8 - (lg_sl ([.ref (a 0), .int x1, .int x2])).length) Slot.unset).toArray = ls at hl ⊢
  have hl : lv_has ls 8 [(0, .ref (a 0)), (1, .int x1), (2, .int x2)] := hl
  refine lv_aload_n hx hb dMo_deliver_0 rfl (lv_at hl 0 rfl) ?_
  refine lv_iload_n hx hb dMo_deliver_1 rfl (lv_at hl 1 rfl) ?_
  refine lv_iload_n hx hb dMo_deliver_2 rfl (lv_at hl 2 rfl) ?_
  obtain ⟨P40, hP40, hwp⟩ := hwp
  refine uCallSi (As := [.int x1, .int x2]) (rest := [.ref (a 0)]) ⟨hx, hb, hml, hown, hts⟩ (kM_isChannel l D a A tI tZ σ x1 x2 P40 hP40) (cwS 2 hts (gdS wm_844 wm_845 wm_13 wm_846) rfl rfl rfl (by decide +kernel) ⟨Nat.le_of_ble_eq_true rfl, Nat.le_of_ble_eq_true rfl⟩) hP hK hD hA hS rfl hl.1 rfl (Nat.le_of_ble_eq_true rfl) dMo_deliver_3 ⟨Nat.le_of_ble_eq_true rfl, Nat.le_of_ble_eq_true rfl⟩ (fun r42 u41 H locs hu41 hP hD hS => ?_)
  have hwp := hwp r42 u41 hu41
  refine lv_if_ne hx hb dMo_deliver_6 rfl (fun h43 => ?_) (fun h43 => ?_)
  · have hwp := hwp.1 h43
    refine lv_aload_n hx hb dMo_deliver_13 rfl (lv_at hl 0 rfl) ?_
    refine va_get (D := D) (ci := 0) (C := RMo) (T := TMo) (N := 33) hx hb hts hin0 hown hK hP 0 rfl rfl 0 (by decide) k7 (fun _ h9 => h9) rfl dMo_deliver_14 ?_
    refine lv_iconst (v := 4) hx hb dMo_deliver_17 (by decide) ?_
    refine lv_iload_n hx hb dMo_deliver_18 rfl (lv_at hl 1 rfl) ?_
    refine lv_imul hx hb dMo_deliver_19 ?_
    refine lv_iload_n hx hb dMo_deliver_20 rfl (lv_at hl 2 rfl) ?_
    refine lv_iadd hx hb dMo_deliver_21 ?_
    obtain ⟨hi44, hwp⟩ := hwp
    refine va_iald hx hb hK hP 1 0 rfl rfl hi44 dMo_deliver_22 ?_
    refine lv_if_ge hx hb dMo_deliver_23 rfl (fun h45 => ?_) (fun h45 => ?_)
    · have hwp := hwp.1 h45
      refine lv_iconst (v := 0) hx hb dMo_deliver_30 (by decide) ?_
      exact cut31 u41 x1 x2 0 _ _ _ hwp hP hD hS (lv_sub hl [0, 1, 2] rfl)
    · have hwp := hwp.2 h45
      refine lv_iconst (v := 2) hx hb dMo_deliver_26 (by decide) ?_
      refine lv_goto hx hb dMo_deliver_27 rfl ?_
      exact cut31 u41 x1 x2 2 _ _ _ hwp hP hD hS (lv_sub hl [0, 1, 2] rfl)
  · have hwp := hwp.2 h43
    refine lv_iconst (v := 1) hx hb dMo_deliver_9 (by decide) ?_
    refine lv_goto hx hb dMo_deliver_10 rfl ?_
    exact cut31 u41 x1 x2 1 _ _ _ hwp hP hD hS (lv_sub hl [0, 1, 2] rfl)
-- public int first(int, int)
def wM_first_91 (R : Int32 → MS → Prop) (σ : MS) (y1 : Int32) (y2 : Int32) (y3 : Int32) (y4 : Int32) (z0 : Int32) (z1 : Int32) : Prop :=
  R (z0 + z1) σ
def wM_first_14 (R : Int32 → MS → Prop) (σ : MS) (y1 : Int32) (y2 : Int32) (z1 : Int32) : Prop :=
  (∀ σ1 : MS, σ1 = up2 σ 32 0 z1 → ((((σ1 32 0) = 0) → (∀ v3 : Int32, v3 = (4 * y1) + y2 → (vp_in v3 16 ∧ (∀ v5 : Int32, v5 = σ1 0 v3.toNatClampNeg → (((0 ≤ v5) → (vp_in v5 700 ∧ (vp_in v5 700 ∧ (vp_in v3 16 ∧ ((((σ1 2 v3.toNatClampNeg) ≤ 1) → wM_first_91 R σ1 y1 y2 v3 v5 ((100 * ((σ1 3 v5.toNatClampNeg) / 10)) + (10 * ((σ1 3 v5.toNatClampNeg) - (σ1 3 v5.toNatClampNeg) / 10 * 10))) 0) ∧ ((¬ (σ1 2 v3.toNatClampNeg) ≤ 1) → wM_first_91 R σ1 y1 y2 v3 v5 ((100 * ((σ1 3 v5.toNatClampNeg) / 10)) + (10 * ((σ1 3 v5.toNatClampNeg) - (σ1 3 v5.toNatClampNeg) / 10 * 10))) 1)))))) ∧ ((¬ 0 ≤ v5) → R (-1) σ1)))))) ∧ ((¬ (σ1 32 0) = 0) → R 0 σ1)))
def wM_first (R : Int32 → MS → Prop) (σ : MS) (x1 x2 : Int32) : Prop :=
  (∃ P11 : Int32 → MS → Prop, wM_isChannel P11 σ x1 x2 ∧ (∀ (r13 : Int32) (u12 : MS), P11 r13 u12 → (((r13 = 0) → wM_first_14 R u12 x1 x2 1) ∧ ((¬ r13 = 0) → wM_first_14 R u12 x1 x2 0))))
abbrev wsMo_first : List Cond := .code yMo_first cMo_first 5 (some .int) :: wg
abbrev rmM_first : Room := { frames := 2, cells := 0, slots := 0, locals := 41 }
set_option maxHeartbeats 4000000 in
set_option maxRecDepth 100000 in
theorem kM_first (l : Launch) (D : va_G) (a : Nat → Nat) (A : Nat → Prop) (tI tZ : ClassId) (σ : MS) (x1 x2 : Int32) (R : Int32 → MS → Prop) (hwp : wM_first R σ x1 x2) : Met l yMo_first wsMo_first rmM_first (va_Pc [.ref (a 0), .int x1, .int x2] (uI D clA (mT tI tZ) A false (mw a tI tZ) σ)) (va_Qi R (uI D clA (mT tI tZ) A false (mw a tI tZ)) A) 0 0 A := by
  refine Met.ofW (cc := cMo_first) (maxL := 5) (ret := (some .int)) (by decide) rfl ?_
  intro p e s m args below meth c s₁ B hml hv
  obtain ⟨rfl, hP, hK, hD, hA⟩ := hv
  have hx := B.exec
  have hb := B.bytes
  have hr := B.returns
  have hts := atoms_spec (ws := wsMo_first) B.pre
  have hown : s.vm.findClass RMo = some m.cls := findClass_of_methodNamed B.named
  have hlocks := B.notSynchronized
  have hin0 : ∀ w ∈ u_ws RMo TMo 33, w ∈ wsMo_first := fun w h => List.mem_cons_of_mem _ (inMo w h)
  have k16 := hts _ (List.mem_cons_of_mem _ wm_738)
  have k19 := hts _ (List.mem_cons_of_mem _ wm_739)
  have k7 := hts _ (List.mem_cons_of_mem _ wm_736)
  have k90 := hts _ (List.mem_cons_of_mem _ wm_768)
  have hS : va_S A s.heap s.heap [] := va_S.rf
  have cut91 : ∀ (σ : MS) (y1 : Int32) (y2 : Int32) (y3 : Int32) (y4 : Int32) (z0 : Int32) (z1 : Int32) (H : Heap) (locs : List Loc) (ls : Array Slot), wM_first_91 R σ y1 y2 y3 y4 z0 z1 → va_P D clA (mw a tI tZ σ) H → va_D A (mw a tI tZ σ) → va_S A s.heap H locs → lv_has ls 5 [(0, .ref (a 0)), (1, .int y1), (2, .int y2), (3, .int y3), (4, .int y4)] → W p l e (headSpec wsMo_first rmM_first).room s m ([.ref (a 0), .int x1, .int x2] : List Value).toArray below meth c H locs 0 0 (MQ below (va_Qi R (uI D clA (mT tI tZ) A false (mw a tI tZ)) A) ([.ref (a 0), .int x1, .int x2] : List Value).toArray s 0 0 A) (F0 m 91 ls [.int z1, .int z0]) := by
    intro σ y1 y2 y3 y4 z0 z1 H locs ls hwp hP hD hS hl
    refine lv_iadd hx hb dMo_first_91 ?_
    exact W.iret (v := z0 + z1) hx hb hr (fun t ht hW => ⟨⟨z0 + z1, σ, rfl, hwp, uEnd ht hW hP hK hD hS hA⟩, hS.F ht⟩) hS.2.2 dMo_first_92
  have cut14 : ∀ (σ : MS) (y1 : Int32) (y2 : Int32) (z1 : Int32) (H : Heap) (locs : List Loc) (ls : Array Slot), wM_first_14 R σ y1 y2 z1 → va_P D clA (mw a tI tZ σ) H → va_D A (mw a tI tZ σ) → va_S A s.heap H locs → lv_has ls 5 [(0, .ref (a 0)), (1, .int y1), (2, .int y2)] → W p l e (headSpec wsMo_first rmM_first).room s m ([.ref (a 0), .int x1, .int x2] : List Value).toArray below meth c H locs 0 0 (MQ below (va_Qi R (uI D clA (mT tI tZ) A false (mw a tI tZ)) A) ([.ref (a 0), .int x1, .int x2] : List Value).toArray s 0 0 A) (F0 m 14 ls [.int z1, .ref (a 0)]) := by
    intro σ y1 y2 z1 H locs ls hwp hP hD hS hl
    refine va_put (ty := .int) (D := D) (ci := 0) (C := RMo) (T := TMo) (N := 33) hx hb hts hin0 tyMo tyMo_ok nmMo hown hK hP hD hS 0 rfl rfl 32 (by decide) k90 (fun _ h9 => h9) rfl (by decide +kernel) rfl rfl (Nat.le_of_ble_eq_true rfl) dMo_first_14 (fun H locs hP hD hS => ?_)
    obtain ⟨σ1, eσ1⟩ : ∃ z, z = up2 σ 32 0 z1 := ⟨_, rfl⟩
    have hwp := hwp σ1 eσ1
    have hP : va_P D clA (mw a tI tZ σ1) H := by rw [eσ1]; exact hP
    have hD : va_D A (mw a tI tZ σ1) := by rw [eσ1]; exact hD
    refine lv_aload_n hx hb dMo_first_17 rfl (lv_at hl 0 rfl) ?_
    refine va_get (D := D) (ci := 0) (C := RMo) (T := TMo) (N := 33) hx hb hts hin0 hown hK hP 0 rfl rfl 32 (by decide) k90 (fun _ h9 => h9) rfl dMo_first_18 ?_
    refine lv_if_eq hx hb dMo_first_21 rfl (fun h2 => ?_) (fun h2 => ?_)
    · have hwp := hwp.1 h2
      refine lv_iconst (v := 4) hx hb dMo_first_26 (by decide) ?_
      refine lv_iload_n hx hb dMo_first_27 rfl (lv_at hl 1 rfl) ?_
      refine lv_imul hx hb dMo_first_28 ?_
      refine lv_iload_n hx hb dMo_first_29 rfl (lv_at hl 2 rfl) ?_
      refine lv_iadd hx hb dMo_first_30 ?_
      refine lv_topi (fun v3 ev3 => ?_)
      have hwp := hwp v3 ev3
      refine lv_istore_n hx hb dMo_first_31 rfl hl (by decide) rfl (fun ls hl => ?_)
      have hl : lv_has ls 5 [(3, .int v3), (0, .ref (a 0)), (1, .int y1), (2, .int y2)] := hl
      refine lv_aload_n hx hb dMo_first_32 rfl (lv_at hl 1 rfl) ?_
      refine va_get (D := D) (ci := 0) (C := RMo) (T := TMo) (N := 33) hx hb hts hin0 hown hK hP 0 rfl rfl 0 (by decide) k7 (fun _ h9 => h9) rfl dMo_first_33 ?_
      refine lv_iload_n hx hb dMo_first_36 rfl (lv_at hl 0 rfl) ?_
      obtain ⟨hi4, hwp⟩ := hwp
      refine va_iald hx hb hK hP 1 0 rfl rfl hi4 dMo_first_37 ?_
      refine lv_topi (fun v5 ev5 => ?_)
      have hwp := hwp v5 ev5
      refine lv_istore hx hb dMo_first_38 hl (by decide) rfl (fun ls hl => ?_)
      have hl : lv_has ls 5 [(4, .int v5), (3, .int v3), (0, .ref (a 0)), (1, .int y1), (2, .int y2)] := hl
      refine lv_iload hx hb dMo_first_40 (lv_at hl 0 rfl) ?_
      refine lv_if_ge hx hb dMo_first_42 rfl (fun h6 => ?_) (fun h6 => ?_)
      · have hwp := hwp.1 h6
        refine lv_bipush (v := 100) hx hb dMo_first_49 (by decide) ?_
        refine lv_aload_n hx hb dMo_first_51 rfl (lv_at hl 2 rfl) ?_
        refine va_get (D := D) (ci := 0) (C := RMo) (T := TMo) (N := 33) hx hb hts hin0 hown hK hP 0 rfl rfl 3 (by decide) k19 (fun _ h9 => h9) rfl dMo_first_52 ?_
        refine lv_iload hx hb dMo_first_55 (lv_at hl 0 rfl) ?_
        obtain ⟨hi7, hwp⟩ := hwp
        refine va_iald hx hb hK hP 4 0 rfl rfl hi7 dMo_first_57 ?_
        refine lv_bipush (v := 10) hx hb dMo_first_58 (by decide) ?_
        refine lv_idiv hx hb dMo_first_60 (by decide) ?_
        refine lv_imul hx hb dMo_first_61 ?_
        refine lv_bipush (v := 10) hx hb dMo_first_62 (by decide) ?_
        refine lv_aload_n hx hb dMo_first_64 rfl (lv_at hl 2 rfl) ?_
        refine va_get (D := D) (ci := 0) (C := RMo) (T := TMo) (N := 33) hx hb hts hin0 hown hK hP 0 rfl rfl 3 (by decide) k19 (fun _ h9 => h9) rfl dMo_first_65 ?_
        refine lv_iload hx hb dMo_first_68 (lv_at hl 0 rfl) ?_
        obtain ⟨hi8, hwp⟩ := hwp
        refine va_iald hx hb hK hP 4 0 rfl rfl hi8 dMo_first_70 ?_
        refine lv_bipush (v := 10) hx hb dMo_first_71 (by decide) ?_
        refine lv_irem hx hb dMo_first_73 (by decide) ?_
        refine lv_imul hx hb dMo_first_74 ?_
        refine lv_iadd hx hb dMo_first_75 ?_
        refine lv_aload_n hx hb dMo_first_76 rfl (lv_at hl 2 rfl) ?_
        refine va_get (D := D) (ci := 0) (C := RMo) (T := TMo) (N := 33) hx hb hts hin0 hown hK hP 0 rfl rfl 2 (by decide) k16 (fun _ h9 => h9) rfl dMo_first_77 ?_
        refine lv_iload_n hx hb dMo_first_80 rfl (lv_at hl 1 rfl) ?_
        obtain ⟨hi9, hwp⟩ := hwp
        refine va_iald hx hb hK hP 3 0 rfl rfl hi9 dMo_first_81 ?_
        refine lv_iconst (v := 1) hx hb dMo_first_82 (by decide) ?_
        refine lv_icmp_le hx hb dMo_first_83 rfl (fun h10 => ?_) (fun h10 => ?_)
        · have hwp := hwp.1 h10
          refine lv_iconst (v := 0) hx hb dMo_first_90 (by decide) ?_
          exact cut91 σ1 y1 y2 v3 v5 ((100 * ((σ1 3 v5.toNatClampNeg) / 10)) + (10 * ((σ1 3 v5.toNatClampNeg) - (σ1 3 v5.toNatClampNeg) / 10 * 10))) 0 _ _ _ hwp hP hD hS (lv_sub hl [2, 3, 4, 1, 0] rfl)
        · have hwp := hwp.2 h10
          refine lv_iconst (v := 1) hx hb dMo_first_86 (by decide) ?_
          refine lv_goto hx hb dMo_first_87 rfl ?_
          exact cut91 σ1 y1 y2 v3 v5 ((100 * ((σ1 3 v5.toNatClampNeg) / 10)) + (10 * ((σ1 3 v5.toNatClampNeg) - (σ1 3 v5.toNatClampNeg) / 10 * 10))) 1 _ _ _ hwp hP hD hS (lv_sub hl [2, 3, 4, 1, 0] rfl)
      · have hwp := hwp.2 h6
        refine lv_iconst (v := (-1)) hx hb dMo_first_45 (by decide) ?_
        refine lv_goto hx hb dMo_first_46 rfl ?_
        exact W.iret (v := (-1)) hx hb hr (fun t ht hW => ⟨⟨(-1), σ1, rfl, hwp, uEnd ht hW hP hK hD hS hA⟩, hS.F ht⟩) hS.2.2 dMo_first_92
    · have hwp := hwp.2 h2
      refine lv_iconst (v := 0) hx hb dMo_first_24 (by decide) ?_
      exact W.iret (v := 0) hx hb hr (fun t ht hW => ⟨⟨0, σ1, rfl, hwp, uEnd ht hW hP hK hD hS hA⟩, hS.F ht⟩) hS.2.2 dMo_first_25
  have hl := lv_entry ([.ref (a 0), .int x1, .int x2]) (n := 5) (Nat.le_of_ble_eq_true rfl)
  rw [lg_entry_eq]
  generalize (lg_sl ([.ref (a 0), .int x1, .int x2]) ++ List.replicate (5 - (lg_sl ([.ref (a 0), .int x1, .int x2])).length) Slot.unset).toArray = ls at hl ⊢
  have hl : lv_has ls 5 [(0, .ref (a 0)), (1, .int x1), (2, .int x2)] := hl
  refine lv_aload_n hx hb dMo_first_0 rfl (lv_at hl 0 rfl) ?_
  refine lv_iload_n hx hb dMo_first_1 rfl (lv_at hl 1 rfl) ?_
  refine lv_iload_n hx hb dMo_first_2 rfl (lv_at hl 2 rfl) ?_
  obtain ⟨P11, hP11, hwp⟩ := hwp
  refine uCallSi (As := [.int x1, .int x2]) (rest := [.ref (a 0)]) ⟨hx, hb, hml, hown, hts⟩ (kM_isChannel l D a A tI tZ σ x1 x2 P11 hP11) (cwS 2 hts (gdS wm_844 wm_845 wm_13 wm_846) rfl rfl rfl (by decide +kernel) ⟨Nat.le_of_ble_eq_true rfl, Nat.le_of_ble_eq_true rfl⟩) hP hK hD hA hS rfl hl.1 rfl (Nat.le_of_ble_eq_true rfl) dMo_first_3 ⟨Nat.le_of_ble_eq_true rfl, Nat.le_of_ble_eq_true rfl⟩ (fun r13 u12 H locs hu12 hP hD hS => ?_)
  have hwp := hwp r13 u12 hu12
  refine lv_if_eq hx hb dMo_first_6 rfl (fun h14 => ?_) (fun h14 => ?_)
  · have hwp := hwp.1 h14
    refine lv_iconst (v := 1) hx hb dMo_first_13 (by decide) ?_
    exact cut14 u12 x1 x2 1 _ _ _ hwp hP hD hS (lv_sub hl [0, 1, 2] rfl)
  · have hwp := hwp.2 h14
    refine lv_iconst (v := 0) hx hb dMo_first_9 (by decide) ?_
    refine lv_goto hx hb dMo_first_10 rfl ?_
    exact cut14 u12 x1 x2 0 _ _ _ hwp hP hD hS (lv_sub hl [0, 1, 2] rfl)
-- public int waiting(int, int)
def wM_waiting_14 (R : Int32 → MS → Prop) (σ : MS) (y1 : Int32) (y2 : Int32) (z1 : Int32) : Prop :=
  (∀ σ1 : MS, σ1 = up2 σ 32 0 z1 → (((¬ (σ1 32 0) = 0) → R 0 σ1) ∧ (((σ1 32 0) = 0) → (vp_in ((4 * y1) + y2) 16 ∧ R (σ1 2 ((4 * y1) + y2).toNatClampNeg) σ1))))
def wM_waiting (R : Int32 → MS → Prop) (σ : MS) (x1 x2 : Int32) : Prop :=
  (∃ P4 : Int32 → MS → Prop, wM_isChannel P4 σ x1 x2 ∧ (∀ (r6 : Int32) (u5 : MS), P4 r6 u5 → (((r6 = 0) → wM_waiting_14 R u5 x1 x2 1) ∧ ((¬ r6 = 0) → wM_waiting_14 R u5 x1 x2 0))))
abbrev wsMo_waiting : List Cond := .code yMo_waiting cMo_waiting 3 (some .int) :: wg
abbrev rmM_waiting : Room := { frames := 2, cells := 0, slots := 0, locals := 41 }
set_option maxHeartbeats 4000000 in
set_option maxRecDepth 100000 in
theorem kM_waiting (l : Launch) (D : va_G) (a : Nat → Nat) (A : Nat → Prop) (tI tZ : ClassId) (σ : MS) (x1 x2 : Int32) (R : Int32 → MS → Prop) (hwp : wM_waiting R σ x1 x2) : Met l yMo_waiting wsMo_waiting rmM_waiting (va_Pc [.ref (a 0), .int x1, .int x2] (uI D clA (mT tI tZ) A false (mw a tI tZ) σ)) (va_Qi R (uI D clA (mT tI tZ) A false (mw a tI tZ)) A) 0 0 A := by
  refine Met.ofW (cc := cMo_waiting) (maxL := 3) (ret := (some .int)) (by decide) rfl ?_
  intro p e s m args below meth c s₁ B hml hv
  obtain ⟨rfl, hP, hK, hD, hA⟩ := hv
  have hx := B.exec
  have hb := B.bytes
  have hr := B.returns
  have hts := atoms_spec (ws := wsMo_waiting) B.pre
  have hown : s.vm.findClass RMo = some m.cls := findClass_of_methodNamed B.named
  have hlocks := B.notSynchronized
  have hin0 : ∀ w ∈ u_ws RMo TMo 33, w ∈ wsMo_waiting := fun w h => List.mem_cons_of_mem _ (inMo w h)
  have k16 := hts _ (List.mem_cons_of_mem _ wm_738)
  have k90 := hts _ (List.mem_cons_of_mem _ wm_768)
  have hS : va_S A s.heap s.heap [] := va_S.rf
  have cut14 : ∀ (σ : MS) (y1 : Int32) (y2 : Int32) (z1 : Int32) (H : Heap) (locs : List Loc) (ls : Array Slot), wM_waiting_14 R σ y1 y2 z1 → va_P D clA (mw a tI tZ σ) H → va_D A (mw a tI tZ σ) → va_S A s.heap H locs → lv_has ls 3 [(0, .ref (a 0)), (1, .int y1), (2, .int y2)] → W p l e (headSpec wsMo_waiting rmM_waiting).room s m ([.ref (a 0), .int x1, .int x2] : List Value).toArray below meth c H locs 0 0 (MQ below (va_Qi R (uI D clA (mT tI tZ) A false (mw a tI tZ)) A) ([.ref (a 0), .int x1, .int x2] : List Value).toArray s 0 0 A) (F0 m 14 ls [.int z1, .ref (a 0)]) := by
    intro σ y1 y2 z1 H locs ls hwp hP hD hS hl
    refine va_put (ty := .int) (D := D) (ci := 0) (C := RMo) (T := TMo) (N := 33) hx hb hts hin0 tyMo tyMo_ok nmMo hown hK hP hD hS 0 rfl rfl 32 (by decide) k90 (fun _ h9 => h9) rfl (by decide +kernel) rfl rfl (Nat.le_of_ble_eq_true rfl) dMo_waiting_14 (fun H locs hP hD hS => ?_)
    obtain ⟨σ1, eσ1⟩ : ∃ z, z = up2 σ 32 0 z1 := ⟨_, rfl⟩
    have hwp := hwp σ1 eσ1
    have hP : va_P D clA (mw a tI tZ σ1) H := by rw [eσ1]; exact hP
    have hD : va_D A (mw a tI tZ σ1) := by rw [eσ1]; exact hD
    refine lv_aload_n hx hb dMo_waiting_17 rfl (lv_at hl 0 rfl) ?_
    refine va_get (D := D) (ci := 0) (C := RMo) (T := TMo) (N := 33) hx hb hts hin0 hown hK hP 0 rfl rfl 32 (by decide) k90 (fun _ h9 => h9) rfl dMo_waiting_18 ?_
    refine lv_if_ne hx hb dMo_waiting_21 rfl (fun h2 => ?_) (fun h2 => ?_)
    · have hwp := hwp.1 h2
      refine lv_iconst (v := 0) hx hb dMo_waiting_37 (by decide) ?_
      exact W.iret (v := 0) hx hb hr (fun t ht hW => ⟨⟨0, σ1, rfl, hwp, uEnd ht hW hP hK hD hS hA⟩, hS.F ht⟩) hS.2.2 dMo_waiting_38
    · have hwp := hwp.2 h2
      refine lv_aload_n hx hb dMo_waiting_24 rfl (lv_at hl 0 rfl) ?_
      refine va_get (D := D) (ci := 0) (C := RMo) (T := TMo) (N := 33) hx hb hts hin0 hown hK hP 0 rfl rfl 2 (by decide) k16 (fun _ h9 => h9) rfl dMo_waiting_25 ?_
      refine lv_iconst (v := 4) hx hb dMo_waiting_28 (by decide) ?_
      refine lv_iload_n hx hb dMo_waiting_29 rfl (lv_at hl 1 rfl) ?_
      refine lv_imul hx hb dMo_waiting_30 ?_
      refine lv_iload_n hx hb dMo_waiting_31 rfl (lv_at hl 2 rfl) ?_
      refine lv_iadd hx hb dMo_waiting_32 ?_
      obtain ⟨hi3, hwp⟩ := hwp
      refine va_iald hx hb hK hP 3 0 rfl rfl hi3 dMo_waiting_33 ?_
      refine lv_goto hx hb dMo_waiting_34 rfl ?_
      exact W.iret (v := σ1 2 ((4 * y1) + y2).toNatClampNeg) hx hb hr (fun t ht hW => ⟨⟨σ1 2 ((4 * y1) + y2).toNatClampNeg, σ1, rfl, hwp, uEnd ht hW hP hK hD hS hA⟩, hS.F ht⟩) hS.2.2 dMo_waiting_38
  have hl := lv_entry ([.ref (a 0), .int x1, .int x2]) (n := 3) (Nat.le_of_ble_eq_true rfl)
  rw [lg_entry_eq]
  generalize (lg_sl ([.ref (a 0), .int x1, .int x2]) ++ List.replicate (3 - (lg_sl ([.ref (a 0), .int x1, .int x2])).length) Slot.unset).toArray = ls at hl ⊢
  have hl : lv_has ls 3 [(0, .ref (a 0)), (1, .int x1), (2, .int x2)] := hl
  refine lv_aload_n hx hb dMo_waiting_0 rfl (lv_at hl 0 rfl) ?_
  refine lv_iload_n hx hb dMo_waiting_1 rfl (lv_at hl 1 rfl) ?_
  refine lv_iload_n hx hb dMo_waiting_2 rfl (lv_at hl 2 rfl) ?_
  obtain ⟨P4, hP4, hwp⟩ := hwp
  refine uCallSi (As := [.int x1, .int x2]) (rest := [.ref (a 0)]) ⟨hx, hb, hml, hown, hts⟩ (kM_isChannel l D a A tI tZ σ x1 x2 P4 hP4) (cwS 2 hts (gdS wm_844 wm_845 wm_13 wm_846) rfl rfl rfl (by decide +kernel) ⟨Nat.le_of_ble_eq_true rfl, Nat.le_of_ble_eq_true rfl⟩) hP hK hD hA hS rfl hl.1 rfl (Nat.le_of_ble_eq_true rfl) dMo_waiting_3 ⟨Nat.le_of_ble_eq_true rfl, Nat.le_of_ble_eq_true rfl⟩ (fun r6 u5 H locs hu5 hP hD hS => ?_)
  have hwp := hwp r6 u5 hu5
  refine lv_if_eq hx hb dMo_waiting_6 rfl (fun h7 => ?_) (fun h7 => ?_)
  · have hwp := hwp.1 h7
    refine lv_iconst (v := 1) hx hb dMo_waiting_13 (by decide) ?_
    exact cut14 u5 x1 x2 1 _ _ _ hwp hP hD hS (lv_sub hl [0, 1, 2] rfl)
  · have hwp := hwp.2 h7
    refine lv_iconst (v := 0) hx hb dMo_waiting_9 (by decide) ?_
    refine lv_goto hx hb dMo_waiting_10 rfl ?_
    exact cut14 u5 x1 x2 0 _ _ _ hwp hP hD hS (lv_sub hl [0, 1, 2] rfl)
-- public int about(int, int)
def wM_about_92 (R : Int32 → MS → Prop) (σ : MS) (y1 : Int32) (y2 : Int32) (z0 : Int32) (z1 : Int32) : Prop :=
  (vp_in y2 4 ∧ R ((z0 + z1) + (4 * (σ 31 y2.toNatClampNeg))) σ)
def wM_about_87 (R : Int32 → MS → Prop) (σ : MS) (y1 : Int32) (y2 : Int32) (z0 : Int32) : Prop :=
  wM_about_92 R σ y1 y2 z0 2
def wM_about_70 (R : Int32 → MS → Prop) (σ : MS) (y1 : Int32) (y2 : Int32) (z0 : Int32) : Prop :=
  (vp_in y2 4 ∧ (((0 ≤ (σ 30 y2.toNatClampNeg)) → wM_about_87 R σ y1 y2 z0) ∧ ((¬ 0 ≤ (σ 30 y2.toNatClampNeg)) → (((¬ (σ 27 0) = y2) → wM_about_92 R σ y1 y2 z0 0) ∧ (((σ 27 0) = y2) → wM_about_87 R σ y1 y2 z0)))))
def wM_about_14 (R : Int32 → MS → Prop) (σ : MS) (y1 : Int32) (y2 : Int32) (z1 : Int32) : Prop :=
  (∀ σ5 : MS, σ5 = up2 σ 32 0 z1 → ((((σ5 32 0) = 0) → (((3 ≤ y1) → (((¬ y1 = 3) → (vp_in y2 4 ∧ ((((σ5 29 y2.toNatClampNeg) = 0) → wM_about_70 R σ5 y1 y2 0) ∧ ((¬ (σ5 29 y2.toNatClampNeg) = 0) → wM_about_70 R σ5 y1 y2 1)))) ∧ ((y1 = 3) → (vp_in y2 4 ∧ R (σ5 25 y2.toNatClampNeg) σ5)))) ∧ ((¬ 3 ≤ y1) → (vp_in ((4 * y1) + y2) 12 ∧ R (σ5 8 ((4 * y1) + y2).toNatClampNeg) σ5)))) ∧ ((¬ (σ5 32 0) = 0) → R 0 σ5)))
def wM_about (R : Int32 → MS → Prop) (σ : MS) (x1 x2 : Int32) : Prop :=
  (∃ P13 : Int32 → MS → Prop, wM_isService P13 σ x1 x2 ∧ (∀ (r15 : Int32) (u14 : MS), P13 r15 u14 → (((r15 = 0) → wM_about_14 R u14 x1 x2 1) ∧ ((¬ r15 = 0) → wM_about_14 R u14 x1 x2 0))))
abbrev wsMo_about : List Cond := .code yMo_about cMo_about 3 (some .int) :: wg
abbrev rmM_about : Room := { frames := 2, cells := 0, slots := 0, locals := 41 }
set_option maxHeartbeats 4000000 in
set_option maxRecDepth 100000 in
theorem kM_about (l : Launch) (D : va_G) (a : Nat → Nat) (A : Nat → Prop) (tI tZ : ClassId) (σ : MS) (x1 x2 : Int32) (R : Int32 → MS → Prop) (hwp : wM_about R σ x1 x2) : Met l yMo_about wsMo_about rmM_about (va_Pc [.ref (a 0), .int x1, .int x2] (uI D clA (mT tI tZ) A false (mw a tI tZ) σ)) (va_Qi R (uI D clA (mT tI tZ) A false (mw a tI tZ)) A) 0 0 A := by
  refine Met.ofW (cc := cMo_about) (maxL := 3) (ret := (some .int)) (by decide) rfl ?_
  intro p e s m args below meth c s₁ B hml hv
  obtain ⟨rfl, hP, hK, hD, hA⟩ := hv
  have hx := B.exec
  have hb := B.bytes
  have hr := B.returns
  have hts := atoms_spec (ws := wsMo_about) B.pre
  have hown : s.vm.findClass RMo = some m.cls := findClass_of_methodNamed B.named
  have hlocks := B.notSynchronized
  have hin0 : ∀ w ∈ u_ws RMo TMo 33, w ∈ wsMo_about := fun w h => List.mem_cons_of_mem _ (inMo w h)
  have k32 := hts _ (List.mem_cons_of_mem _ wm_744)
  have k72 := hts _ (List.mem_cons_of_mem _ wm_761)
  have k78 := hts _ (List.mem_cons_of_mem _ wm_763)
  have k81 := hts _ (List.mem_cons_of_mem _ wm_765)
  have k84 := hts _ (List.mem_cons_of_mem _ wm_766)
  have k87 := hts _ (List.mem_cons_of_mem _ wm_767)
  have k90 := hts _ (List.mem_cons_of_mem _ wm_768)
  have hS : va_S A s.heap s.heap [] := va_S.rf
  have cut92 : ∀ (σ : MS) (y1 : Int32) (y2 : Int32) (z0 : Int32) (z1 : Int32) (H : Heap) (locs : List Loc) (ls : Array Slot), wM_about_92 R σ y1 y2 z0 z1 → va_P D clA (mw a tI tZ σ) H → va_D A (mw a tI tZ σ) → va_S A s.heap H locs → lv_has ls 3 [(0, .ref (a 0)), (1, .int y1), (2, .int y2)] → W p l e (headSpec wsMo_about rmM_about).room s m ([.ref (a 0), .int x1, .int x2] : List Value).toArray below meth c H locs 0 0 (MQ below (va_Qi R (uI D clA (mT tI tZ) A false (mw a tI tZ)) A) ([.ref (a 0), .int x1, .int x2] : List Value).toArray s 0 0 A) (F0 m 92 ls [.int z1, .int z0]) := by
    intro σ y1 y2 z0 z1 H locs ls hwp hP hD hS hl
    refine lv_iadd hx hb dMo_about_92 ?_
    refine lv_iconst (v := 4) hx hb dMo_about_93 (by decide) ?_
    refine lv_aload_n hx hb dMo_about_94 rfl (lv_at hl 0 rfl) ?_
    refine va_get (D := D) (ci := 0) (C := RMo) (T := TMo) (N := 33) hx hb hts hin0 hown hK hP 0 rfl rfl 31 (by decide) k87 (fun _ h9 => h9) rfl dMo_about_95 ?_
    refine lv_iload_n hx hb dMo_about_98 rfl (lv_at hl 2 rfl) ?_
    obtain ⟨hi1, hwp⟩ := hwp
    refine va_iald hx hb hK hP 24 0 rfl rfl hi1 dMo_about_99 ?_
    refine lv_imul hx hb dMo_about_100 ?_
    refine lv_iadd hx hb dMo_about_101 ?_
    exact W.iret (v := (z0 + z1) + (4 * (σ 31 y2.toNatClampNeg))) hx hb hr (fun t ht hW => ⟨⟨(z0 + z1) + (4 * (σ 31 y2.toNatClampNeg)), σ, rfl, hwp, uEnd ht hW hP hK hD hS hA⟩, hS.F ht⟩) hS.2.2 dMo_about_102
  have cut87 : ∀ (σ : MS) (y1 : Int32) (y2 : Int32) (z0 : Int32) (H : Heap) (locs : List Loc) (ls : Array Slot), wM_about_87 R σ y1 y2 z0 → va_P D clA (mw a tI tZ σ) H → va_D A (mw a tI tZ σ) → va_S A s.heap H locs → lv_has ls 3 [(0, .ref (a 0)), (1, .int y1), (2, .int y2)] → W p l e (headSpec wsMo_about rmM_about).room s m ([.ref (a 0), .int x1, .int x2] : List Value).toArray below meth c H locs 0 0 (MQ below (va_Qi R (uI D clA (mT tI tZ) A false (mw a tI tZ)) A) ([.ref (a 0), .int x1, .int x2] : List Value).toArray s 0 0 A) (F0 m 87 ls [.int z0]) := by
    intro σ y1 y2 z0 H locs ls hwp hP hD hS hl
    refine lv_iconst (v := 2) hx hb dMo_about_87 (by decide) ?_
    refine lv_goto hx hb dMo_about_88 rfl ?_
    exact cut92 σ y1 y2 z0 2 _ _ _ hwp hP hD hS (lv_sub hl [0, 1, 2] rfl)
  have cut70 : ∀ (σ : MS) (y1 : Int32) (y2 : Int32) (z0 : Int32) (H : Heap) (locs : List Loc) (ls : Array Slot), wM_about_70 R σ y1 y2 z0 → va_P D clA (mw a tI tZ σ) H → va_D A (mw a tI tZ σ) → va_S A s.heap H locs → lv_has ls 3 [(0, .ref (a 0)), (1, .int y1), (2, .int y2)] → W p l e (headSpec wsMo_about rmM_about).room s m ([.ref (a 0), .int x1, .int x2] : List Value).toArray below meth c H locs 0 0 (MQ below (va_Qi R (uI D clA (mT tI tZ) A false (mw a tI tZ)) A) ([.ref (a 0), .int x1, .int x2] : List Value).toArray s 0 0 A) (F0 m 70 ls [.int z0]) := by
    intro σ y1 y2 z0 H locs ls hwp hP hD hS hl
    refine lv_aload_n hx hb dMo_about_70 rfl (lv_at hl 0 rfl) ?_
    refine va_get (D := D) (ci := 0) (C := RMo) (T := TMo) (N := 33) hx hb hts hin0 hown hK hP 0 rfl rfl 30 (by decide) k84 (fun _ h9 => h9) rfl dMo_about_71 ?_
    refine lv_iload_n hx hb dMo_about_74 rfl (lv_at hl 2 rfl) ?_
    obtain ⟨hi2, hwp⟩ := hwp
    refine va_iald hx hb hK hP 23 0 rfl rfl hi2 dMo_about_75 ?_
    refine lv_if_ge hx hb dMo_about_76 rfl (fun h3 => ?_) (fun h3 => ?_)
    · have hwp := hwp.1 h3
      exact cut87 σ y1 y2 z0 _ _ _ hwp hP hD hS (lv_sub hl [0, 1, 2] rfl)
    · have hwp := hwp.2 h3
      refine lv_aload_n hx hb dMo_about_79 rfl (lv_at hl 0 rfl) ?_
      refine va_get (D := D) (ci := 0) (C := RMo) (T := TMo) (N := 33) hx hb hts hin0 hown hK hP 0 rfl rfl 27 (by decide) k78 (fun _ h9 => h9) rfl dMo_about_80 ?_
      refine lv_iload_n hx hb dMo_about_83 rfl (lv_at hl 2 rfl) ?_
      refine lv_icmp_ne hx hb dMo_about_84 rfl (fun h4 => ?_) (fun h4 => ?_)
      · have hwp := hwp.1 h4
        refine lv_iconst (v := 0) hx hb dMo_about_91 (by decide) ?_
        exact cut92 σ y1 y2 z0 0 _ _ _ hwp hP hD hS (lv_sub hl [0, 1, 2] rfl)
      · have hwp := hwp.2 h4
        exact cut87 σ y1 y2 z0 _ _ _ hwp hP hD hS (lv_sub hl [0, 1, 2] rfl)
  have cut14 : ∀ (σ : MS) (y1 : Int32) (y2 : Int32) (z1 : Int32) (H : Heap) (locs : List Loc) (ls : Array Slot), wM_about_14 R σ y1 y2 z1 → va_P D clA (mw a tI tZ σ) H → va_D A (mw a tI tZ σ) → va_S A s.heap H locs → lv_has ls 3 [(0, .ref (a 0)), (1, .int y1), (2, .int y2)] → W p l e (headSpec wsMo_about rmM_about).room s m ([.ref (a 0), .int x1, .int x2] : List Value).toArray below meth c H locs 0 0 (MQ below (va_Qi R (uI D clA (mT tI tZ) A false (mw a tI tZ)) A) ([.ref (a 0), .int x1, .int x2] : List Value).toArray s 0 0 A) (F0 m 14 ls [.int z1, .ref (a 0)]) := by
    intro σ y1 y2 z1 H locs ls hwp hP hD hS hl
    refine va_put (ty := .int) (D := D) (ci := 0) (C := RMo) (T := TMo) (N := 33) hx hb hts hin0 tyMo tyMo_ok nmMo hown hK hP hD hS 0 rfl rfl 32 (by decide) k90 (fun _ h9 => h9) rfl (by decide +kernel) rfl rfl (Nat.le_of_ble_eq_true rfl) dMo_about_14 (fun H locs hP hD hS => ?_)
    obtain ⟨σ5, eσ5⟩ : ∃ z, z = up2 σ 32 0 z1 := ⟨_, rfl⟩
    have hwp := hwp σ5 eσ5
    have hP : va_P D clA (mw a tI tZ σ5) H := by rw [eσ5]; exact hP
    have hD : va_D A (mw a tI tZ σ5) := by rw [eσ5]; exact hD
    refine lv_aload_n hx hb dMo_about_17 rfl (lv_at hl 0 rfl) ?_
    refine va_get (D := D) (ci := 0) (C := RMo) (T := TMo) (N := 33) hx hb hts hin0 hown hK hP 0 rfl rfl 32 (by decide) k90 (fun _ h9 => h9) rfl dMo_about_18 ?_
    refine lv_if_eq hx hb dMo_about_21 rfl (fun h6 => ?_) (fun h6 => ?_)
    · have hwp := hwp.1 h6
      refine lv_iload_n hx hb dMo_about_26 rfl (lv_at hl 1 rfl) ?_
      refine lv_iconst (v := 3) hx hb dMo_about_27 (by decide) ?_
      refine lv_icmp_ge hx hb dMo_about_28 rfl (fun h7 => ?_) (fun h7 => ?_)
      · have hwp := hwp.1 h7
        refine lv_iload_n hx hb dMo_about_42 rfl (lv_at hl 1 rfl) ?_
        refine lv_iconst (v := 3) hx hb dMo_about_43 (by decide) ?_
        refine lv_icmp_ne hx hb dMo_about_44 rfl (fun h8 => ?_) (fun h8 => ?_)
        · have hwp := hwp.1 h8
          refine lv_aload_n hx hb dMo_about_56 rfl (lv_at hl 0 rfl) ?_
          refine va_get (D := D) (ci := 0) (C := RMo) (T := TMo) (N := 33) hx hb hts hin0 hown hK hP 0 rfl rfl 29 (by decide) k81 (fun _ h9 => h9) rfl dMo_about_57 ?_
          refine lv_iload_n hx hb dMo_about_60 rfl (lv_at hl 2 rfl) ?_
          obtain ⟨hi9, hwp⟩ := hwp
          refine va_zald hx hb hK hP 22 1 rfl rfl hi9 dMo_about_61 ?_
          refine lv_if_eq hx hb dMo_about_62 rfl (fun h10 => ?_) (fun h10 => ?_)
          · have hwp := hwp.1 h10
            refine lv_iconst (v := 0) hx hb dMo_about_69 (by decide) ?_
            exact cut70 σ5 y1 y2 0 _ _ _ hwp hP hD hS (lv_sub hl [0, 1, 2] rfl)
          · have hwp := hwp.2 h10
            refine lv_iconst (v := 1) hx hb dMo_about_65 (by decide) ?_
            refine lv_goto hx hb dMo_about_66 rfl ?_
            exact cut70 σ5 y1 y2 1 _ _ _ hwp hP hD hS (lv_sub hl [0, 1, 2] rfl)
        · have hwp := hwp.2 h8
          refine lv_aload_n hx hb dMo_about_47 rfl (lv_at hl 0 rfl) ?_
          refine va_get (D := D) (ci := 0) (C := RMo) (T := TMo) (N := 33) hx hb hts hin0 hown hK hP 0 rfl rfl 25 (by decide) k72 (fun _ h9 => h9) rfl dMo_about_48 ?_
          refine lv_iload_n hx hb dMo_about_51 rfl (lv_at hl 2 rfl) ?_
          obtain ⟨hi11, hwp⟩ := hwp
          refine va_iald hx hb hK hP 20 0 rfl rfl hi11 dMo_about_52 ?_
          refine lv_goto hx hb dMo_about_53 rfl ?_
          exact W.iret (v := σ5 25 y2.toNatClampNeg) hx hb hr (fun t ht hW => ⟨⟨σ5 25 y2.toNatClampNeg, σ5, rfl, hwp, uEnd ht hW hP hK hD hS hA⟩, hS.F ht⟩) hS.2.2 dMo_about_102
      · have hwp := hwp.2 h7
        refine lv_aload_n hx hb dMo_about_31 rfl (lv_at hl 0 rfl) ?_
        refine va_get (D := D) (ci := 0) (C := RMo) (T := TMo) (N := 33) hx hb hts hin0 hown hK hP 0 rfl rfl 8 (by decide) k32 (fun _ h9 => h9) rfl dMo_about_32 ?_
        refine lv_iconst (v := 4) hx hb dMo_about_35 (by decide) ?_
        refine lv_iload_n hx hb dMo_about_36 rfl (lv_at hl 1 rfl) ?_
        refine lv_imul hx hb dMo_about_37 ?_
        refine lv_iload_n hx hb dMo_about_38 rfl (lv_at hl 2 rfl) ?_
        refine lv_iadd hx hb dMo_about_39 ?_
        obtain ⟨hi12, hwp⟩ := hwp
        refine va_iald hx hb hK hP 7 0 rfl rfl hi12 dMo_about_40 ?_
        exact W.iret (v := σ5 8 ((4 * y1) + y2).toNatClampNeg) hx hb hr (fun t ht hW => ⟨⟨σ5 8 ((4 * y1) + y2).toNatClampNeg, σ5, rfl, hwp, uEnd ht hW hP hK hD hS hA⟩, hS.F ht⟩) hS.2.2 dMo_about_41
    · have hwp := hwp.2 h6
      refine lv_iconst (v := 0) hx hb dMo_about_24 (by decide) ?_
      exact W.iret (v := 0) hx hb hr (fun t ht hW => ⟨⟨0, σ5, rfl, hwp, uEnd ht hW hP hK hD hS hA⟩, hS.F ht⟩) hS.2.2 dMo_about_25
  have hl := lv_entry ([.ref (a 0), .int x1, .int x2]) (n := 3) (Nat.le_of_ble_eq_true rfl)
  rw [lg_entry_eq]
  generalize (lg_sl ([.ref (a 0), .int x1, .int x2]) ++ List.replicate (3 - (lg_sl ([.ref (a 0), .int x1, .int x2])).length) Slot.unset).toArray = ls at hl ⊢
  have hl : lv_has ls 3 [(0, .ref (a 0)), (1, .int x1), (2, .int x2)] := hl
  refine lv_aload_n hx hb dMo_about_0 rfl (lv_at hl 0 rfl) ?_
  refine lv_iload_n hx hb dMo_about_1 rfl (lv_at hl 1 rfl) ?_
  refine lv_iload_n hx hb dMo_about_2 rfl (lv_at hl 2 rfl) ?_
  obtain ⟨P13, hP13, hwp⟩ := hwp
  refine uCallSi (As := [.int x1, .int x2]) (rest := [.ref (a 0)]) ⟨hx, hb, hml, hown, hts⟩ (kM_isService l D a A tI tZ σ x1 x2 P13 hP13) (cwS 2 hts (gdS wm_945 wm_946 wm_13 wm_947) rfl rfl rfl (by decide +kernel) ⟨Nat.le_of_ble_eq_true rfl, Nat.le_of_ble_eq_true rfl⟩) hP hK hD hA hS rfl hl.1 rfl (Nat.le_of_ble_eq_true rfl) dMo_about_3 ⟨Nat.le_of_ble_eq_true rfl, Nat.le_of_ble_eq_true rfl⟩ (fun r15 u14 H locs hu14 hP hD hS => ?_)
  have hwp := hwp r15 u14 hu14
  refine lv_if_eq hx hb dMo_about_6 rfl (fun h16 => ?_) (fun h16 => ?_)
  · have hwp := hwp.1 h16
    refine lv_iconst (v := 1) hx hb dMo_about_13 (by decide) ?_
    exact cut14 u14 x1 x2 1 _ _ _ hwp hP hD hS (lv_sub hl [0, 1, 2] rfl)
  · have hwp := hwp.2 h16
    refine lv_iconst (v := 0) hx hb dMo_about_9 (by decide) ?_
    refine lv_goto hx hb dMo_about_10 rfl ?_
    exact cut14 u14 x1 x2 0 _ _ _ hwp hP hD hS (lv_sub hl [0, 1, 2] rfl)
-- public int more(int, int)
def wM_more_101 (R : Int32 → MS → Prop) (σ : MS) (y1 : Int32) (y2 : Int32) (z0 : Int32) (z1 : Int32) : Prop :=
  R (z0 + z1) σ
def wM_more_14 (R : Int32 → MS → Prop) (σ : MS) (y1 : Int32) (y2 : Int32) (z1 : Int32) : Prop :=
  (∀ σ1 : MS, σ1 = up2 σ 32 0 z1 → ((((σ1 32 0) = 0) → (((y1 = 0) → (vp_in y2 4 ∧ R (σ1 11 y2.toNatClampNeg) σ1)) ∧ ((¬ y1 = 0) → (((y1 = 1) → (vp_in (5 * y2) 16 ∧ R (σ1 15 (5 * y2).toNatClampNeg) σ1)) ∧ ((¬ y1 = 1) → (((y1 = 2) → (vp_in y2 4 ∧ R (σ1 20 y2.toNatClampNeg) σ1)) ∧ ((¬ y1 = 2) → (((y1 = 3) → (vp_in y2 4 ∧ (vp_in y2 4 ∧ ((((σ1 26 y2.toNatClampNeg) = 0) → wM_more_101 R σ1 y1 y2 (σ1 24 y2.toNatClampNeg) 0) ∧ ((¬ (σ1 26 y2.toNatClampNeg) = 0) → wM_more_101 R σ1 y1 y2 (σ1 24 y2.toNatClampNeg) 1000))))) ∧ ((¬ y1 = 3) → (vp_in y2 4 ∧ R (σ1 30 y2.toNatClampNeg) σ1)))))))))) ∧ ((¬ (σ1 32 0) = 0) → R 0 σ1)))
def wM_more (R : Int32 → MS → Prop) (σ : MS) (x1 x2 : Int32) : Prop :=
  (∃ P14 : Int32 → MS → Prop, wM_isService P14 σ x1 x2 ∧ (∀ (r16 : Int32) (u15 : MS), P14 r16 u15 → (((r16 = 0) → wM_more_14 R u15 x1 x2 1) ∧ ((¬ r16 = 0) → wM_more_14 R u15 x1 x2 0))))
abbrev wsMo_more : List Cond := .code yMo_more cMo_more 3 (some .int) :: wg
abbrev rmM_more : Room := { frames := 2, cells := 0, slots := 0, locals := 41 }
set_option maxHeartbeats 4000000 in
set_option maxRecDepth 100000 in
theorem kM_more (l : Launch) (D : va_G) (a : Nat → Nat) (A : Nat → Prop) (tI tZ : ClassId) (σ : MS) (x1 x2 : Int32) (R : Int32 → MS → Prop) (hwp : wM_more R σ x1 x2) : Met l yMo_more wsMo_more rmM_more (va_Pc [.ref (a 0), .int x1, .int x2] (uI D clA (mT tI tZ) A false (mw a tI tZ) σ)) (va_Qi R (uI D clA (mT tI tZ) A false (mw a tI tZ)) A) 0 0 A := by
  refine Met.ofW (cc := cMo_more) (maxL := 3) (ret := (some .int)) (by decide) rfl ?_
  intro p e s m args below meth c s₁ B hml hv
  obtain ⟨rfl, hP, hK, hD, hA⟩ := hv
  have hx := B.exec
  have hb := B.bytes
  have hr := B.returns
  have hts := atoms_spec (ws := wsMo_more) B.pre
  have hown : s.vm.findClass RMo = some m.cls := findClass_of_methodNamed B.named
  have hlocks := B.notSynchronized
  have hin0 : ∀ w ∈ u_ws RMo TMo 33, w ∈ wsMo_more := fun w h => List.mem_cons_of_mem _ (inMo w h)
  have k35 := hts _ (List.mem_cons_of_mem _ wm_747)
  have k47 := hts _ (List.mem_cons_of_mem _ wm_751)
  have k56 := hts _ (List.mem_cons_of_mem _ wm_756)
  have k69 := hts _ (List.mem_cons_of_mem _ wm_760)
  have k75 := hts _ (List.mem_cons_of_mem _ wm_762)
  have k84 := hts _ (List.mem_cons_of_mem _ wm_766)
  have k90 := hts _ (List.mem_cons_of_mem _ wm_768)
  have hS : va_S A s.heap s.heap [] := va_S.rf
  have cut101 : ∀ (σ : MS) (y1 : Int32) (y2 : Int32) (z0 : Int32) (z1 : Int32) (H : Heap) (locs : List Loc) (ls : Array Slot), wM_more_101 R σ y1 y2 z0 z1 → va_P D clA (mw a tI tZ σ) H → va_D A (mw a tI tZ σ) → va_S A s.heap H locs → lv_has ls 3 [(0, .ref (a 0)), (1, .int y1), (2, .int y2)] → W p l e (headSpec wsMo_more rmM_more).room s m ([.ref (a 0), .int x1, .int x2] : List Value).toArray below meth c H locs 0 0 (MQ below (va_Qi R (uI D clA (mT tI tZ) A false (mw a tI tZ)) A) ([.ref (a 0), .int x1, .int x2] : List Value).toArray s 0 0 A) (F0 m 101 ls [.int z1, .int z0]) := by
    intro σ y1 y2 z0 z1 H locs ls hwp hP hD hS hl
    refine lv_iadd hx hb dMo_more_101 ?_
    exact W.iret (v := z0 + z1) hx hb hr (fun t ht hW => ⟨⟨z0 + z1, σ, rfl, hwp, uEnd ht hW hP hK hD hS hA⟩, hS.F ht⟩) hS.2.2 dMo_more_102
  have cut14 : ∀ (σ : MS) (y1 : Int32) (y2 : Int32) (z1 : Int32) (H : Heap) (locs : List Loc) (ls : Array Slot), wM_more_14 R σ y1 y2 z1 → va_P D clA (mw a tI tZ σ) H → va_D A (mw a tI tZ σ) → va_S A s.heap H locs → lv_has ls 3 [(0, .ref (a 0)), (1, .int y1), (2, .int y2)] → W p l e (headSpec wsMo_more rmM_more).room s m ([.ref (a 0), .int x1, .int x2] : List Value).toArray below meth c H locs 0 0 (MQ below (va_Qi R (uI D clA (mT tI tZ) A false (mw a tI tZ)) A) ([.ref (a 0), .int x1, .int x2] : List Value).toArray s 0 0 A) (F0 m 14 ls [.int z1, .ref (a 0)]) := by
    intro σ y1 y2 z1 H locs ls hwp hP hD hS hl
    refine va_put (ty := .int) (D := D) (ci := 0) (C := RMo) (T := TMo) (N := 33) hx hb hts hin0 tyMo tyMo_ok nmMo hown hK hP hD hS 0 rfl rfl 32 (by decide) k90 (fun _ h9 => h9) rfl (by decide +kernel) rfl rfl (Nat.le_of_ble_eq_true rfl) dMo_more_14 (fun H locs hP hD hS => ?_)
    obtain ⟨σ1, eσ1⟩ : ∃ z, z = up2 σ 32 0 z1 := ⟨_, rfl⟩
    have hwp := hwp σ1 eσ1
    have hP : va_P D clA (mw a tI tZ σ1) H := by rw [eσ1]; exact hP
    have hD : va_D A (mw a tI tZ σ1) := by rw [eσ1]; exact hD
    refine lv_aload_n hx hb dMo_more_17 rfl (lv_at hl 0 rfl) ?_
    refine va_get (D := D) (ci := 0) (C := RMo) (T := TMo) (N := 33) hx hb hts hin0 hown hK hP 0 rfl rfl 32 (by decide) k90 (fun _ h9 => h9) rfl dMo_more_18 ?_
    refine lv_if_eq hx hb dMo_more_21 rfl (fun h2 => ?_) (fun h2 => ?_)
    · have hwp := hwp.1 h2
      refine lv_iload_n hx hb dMo_more_26 rfl (lv_at hl 1 rfl) ?_
      by_cases h3 : y1 = 0
      · have hwp := hwp.1 h3
        refine lv_tableIn hx hb dMo_more_27 (by rw [h3]; decide) (by rw [h3]; decide) (by rw [h3]; rfl) rfl ?_
        refine lv_aload_n hx hb dMo_more_56 rfl (lv_at hl 0 rfl) ?_
        refine va_get (D := D) (ci := 0) (C := RMo) (T := TMo) (N := 33) hx hb hts hin0 hown hK hP 0 rfl rfl 11 (by decide) k35 (fun _ h9 => h9) rfl dMo_more_57 ?_
        refine lv_iload_n hx hb dMo_more_60 rfl (lv_at hl 2 rfl) ?_
        obtain ⟨hi4, hwp⟩ := hwp
        refine va_iald hx hb hK hP 8 0 rfl rfl hi4 dMo_more_61 ?_
        exact W.iret (v := σ1 11 y2.toNatClampNeg) hx hb hr (fun t ht hW => ⟨⟨σ1 11 y2.toNatClampNeg, σ1, rfl, hwp, uEnd ht hW hP hK hD hS hA⟩, hS.F ht⟩) hS.2.2 dMo_more_62
      have hwp := hwp.2 h3
      by_cases h5 : y1 = 1
      · have hwp := hwp.1 h5
        refine lv_tableIn hx hb dMo_more_27 (by rw [h5]; decide) (by rw [h5]; decide) (by rw [h5]; rfl) rfl ?_
        refine lv_aload_n hx hb dMo_more_63 rfl (lv_at hl 0 rfl) ?_
        refine va_get (D := D) (ci := 0) (C := RMo) (T := TMo) (N := 33) hx hb hts hin0 hown hK hP 0 rfl rfl 15 (by decide) k47 (fun _ h9 => h9) rfl dMo_more_64 ?_
        refine lv_iconst (v := 5) hx hb dMo_more_67 (by decide) ?_
        refine lv_iload_n hx hb dMo_more_68 rfl (lv_at hl 2 rfl) ?_
        refine lv_imul hx hb dMo_more_69 ?_
        obtain ⟨hi6, hwp⟩ := hwp
        refine va_iald hx hb hK hP 12 0 rfl rfl hi6 dMo_more_70 ?_
        exact W.iret (v := σ1 15 (5 * y2).toNatClampNeg) hx hb hr (fun t ht hW => ⟨⟨σ1 15 (5 * y2).toNatClampNeg, σ1, rfl, hwp, uEnd ht hW hP hK hD hS hA⟩, hS.F ht⟩) hS.2.2 dMo_more_71
      have hwp := hwp.2 h5
      by_cases h7 : y1 = 2
      · have hwp := hwp.1 h7
        refine lv_tableIn hx hb dMo_more_27 (by rw [h7]; decide) (by rw [h7]; decide) (by rw [h7]; rfl) rfl ?_
        refine lv_aload_n hx hb dMo_more_72 rfl (lv_at hl 0 rfl) ?_
        refine va_get (D := D) (ci := 0) (C := RMo) (T := TMo) (N := 33) hx hb hts hin0 hown hK hP 0 rfl rfl 20 (by decide) k56 (fun _ h9 => h9) rfl dMo_more_73 ?_
        refine lv_iload_n hx hb dMo_more_76 rfl (lv_at hl 2 rfl) ?_
        obtain ⟨hi8, hwp⟩ := hwp
        refine va_iald hx hb hK hP 15 0 rfl rfl hi8 dMo_more_77 ?_
        exact W.iret (v := σ1 20 y2.toNatClampNeg) hx hb hr (fun t ht hW => ⟨⟨σ1 20 y2.toNatClampNeg, σ1, rfl, hwp, uEnd ht hW hP hK hD hS hA⟩, hS.F ht⟩) hS.2.2 dMo_more_78
      have hwp := hwp.2 h7
      by_cases h9 : y1 = 3
      · have hwp := hwp.1 h9
        refine lv_tableIn hx hb dMo_more_27 (by rw [h9]; decide) (by rw [h9]; decide) (by rw [h9]; rfl) rfl ?_
        refine lv_aload_n hx hb dMo_more_79 rfl (lv_at hl 0 rfl) ?_
        refine va_get (D := D) (ci := 0) (C := RMo) (T := TMo) (N := 33) hx hb hts hin0 hown hK hP 0 rfl rfl 24 (by decide) k69 (fun _ h9 => h9) rfl dMo_more_80 ?_
        refine lv_iload_n hx hb dMo_more_83 rfl (lv_at hl 2 rfl) ?_
        obtain ⟨hi10, hwp⟩ := hwp
        refine va_iald hx hb hK hP 19 0 rfl rfl hi10 dMo_more_84 ?_
        refine lv_aload_n hx hb dMo_more_85 rfl (lv_at hl 0 rfl) ?_
        refine va_get (D := D) (ci := 0) (C := RMo) (T := TMo) (N := 33) hx hb hts hin0 hown hK hP 0 rfl rfl 26 (by decide) k75 (fun _ h9 => h9) rfl dMo_more_86 ?_
        refine lv_iload_n hx hb dMo_more_89 rfl (lv_at hl 2 rfl) ?_
        obtain ⟨hi11, hwp⟩ := hwp
        refine va_zald hx hb hK hP 21 1 rfl rfl hi11 dMo_more_90 ?_
        refine lv_if_eq hx hb dMo_more_91 rfl (fun h12 => ?_) (fun h12 => ?_)
        · have hwp := hwp.1 h12
          refine lv_iconst (v := 0) hx hb dMo_more_100 (by decide) ?_
          exact cut101 σ1 y1 y2 (σ1 24 y2.toNatClampNeg) 0 _ _ _ hwp hP hD hS (lv_sub hl [0, 1, 2] rfl)
        · have hwp := hwp.2 h12
          refine lv_sipush (v := 1000) hx hb dMo_more_94 (by decide) ?_
          refine lv_goto hx hb dMo_more_97 rfl ?_
          exact cut101 σ1 y1 y2 (σ1 24 y2.toNatClampNeg) 1000 _ _ _ hwp hP hD hS (lv_sub hl [0, 1, 2] rfl)
      have hwp := hwp.2 h9
      refine lv_tableOut hx hb dMo_more_27 (fx_out4 h3 h5 h7 h9) rfl ?_
      refine lv_aload_n hx hb dMo_more_103 rfl (lv_at hl 0 rfl) ?_
      refine va_get (D := D) (ci := 0) (C := RMo) (T := TMo) (N := 33) hx hb hts hin0 hown hK hP 0 rfl rfl 30 (by decide) k84 (fun _ h9 => h9) rfl dMo_more_104 ?_
      refine lv_iload_n hx hb dMo_more_107 rfl (lv_at hl 2 rfl) ?_
      obtain ⟨hi13, hwp⟩ := hwp
      refine va_iald hx hb hK hP 23 0 rfl rfl hi13 dMo_more_108 ?_
      exact W.iret (v := σ1 30 y2.toNatClampNeg) hx hb hr (fun t ht hW => ⟨⟨σ1 30 y2.toNatClampNeg, σ1, rfl, hwp, uEnd ht hW hP hK hD hS hA⟩, hS.F ht⟩) hS.2.2 dMo_more_109
    · have hwp := hwp.2 h2
      refine lv_iconst (v := 0) hx hb dMo_more_24 (by decide) ?_
      exact W.iret (v := 0) hx hb hr (fun t ht hW => ⟨⟨0, σ1, rfl, hwp, uEnd ht hW hP hK hD hS hA⟩, hS.F ht⟩) hS.2.2 dMo_more_25
  have hl := lv_entry ([.ref (a 0), .int x1, .int x2]) (n := 3) (Nat.le_of_ble_eq_true rfl)
  rw [lg_entry_eq]
  generalize (lg_sl ([.ref (a 0), .int x1, .int x2]) ++ List.replicate (3 - (lg_sl ([.ref (a 0), .int x1, .int x2])).length) Slot.unset).toArray = ls at hl ⊢
  have hl : lv_has ls 3 [(0, .ref (a 0)), (1, .int x1), (2, .int x2)] := hl
  refine lv_aload_n hx hb dMo_more_0 rfl (lv_at hl 0 rfl) ?_
  refine lv_iload_n hx hb dMo_more_1 rfl (lv_at hl 1 rfl) ?_
  refine lv_iload_n hx hb dMo_more_2 rfl (lv_at hl 2 rfl) ?_
  obtain ⟨P14, hP14, hwp⟩ := hwp
  refine uCallSi (As := [.int x1, .int x2]) (rest := [.ref (a 0)]) ⟨hx, hb, hml, hown, hts⟩ (kM_isService l D a A tI tZ σ x1 x2 P14 hP14) (cwS 2 hts (gdS wm_945 wm_946 wm_13 wm_947) rfl rfl rfl (by decide +kernel) ⟨Nat.le_of_ble_eq_true rfl, Nat.le_of_ble_eq_true rfl⟩) hP hK hD hA hS rfl hl.1 rfl (Nat.le_of_ble_eq_true rfl) dMo_more_3 ⟨Nat.le_of_ble_eq_true rfl, Nat.le_of_ble_eq_true rfl⟩ (fun r16 u15 H locs hu15 hP hD hS => ?_)
  have hwp := hwp r16 u15 hu15
  refine lv_if_eq hx hb dMo_more_6 rfl (fun h17 => ?_) (fun h17 => ?_)
  · have hwp := hwp.1 h17
    refine lv_iconst (v := 1) hx hb dMo_more_13 (by decide) ?_
    exact cut14 u15 x1 x2 1 _ _ _ hwp hP hD hS (lv_sub hl [0, 1, 2] rfl)
  · have hwp := hwp.2 h17
    refine lv_iconst (v := 0) hx hb dMo_more_9 (by decide) ?_
    refine lv_goto hx hb dMo_more_10 rfl ?_
    exact cut14 u15 x1 x2 0 _ _ _ hwp hP hD hS (lv_sub hl [0, 1, 2] rfl)
-- public int count(int)
def wM_count (R : Int32 → MS → Prop) (σ : MS) (x1 : Int32) : Prop :=
  (∀ σ1 : MS, σ1 = up2 σ 32 0 0 → (((¬ x1 = 0) → (((¬ x1 = 1) → (((¬ x1 = 2) → (((¬ x1 = 3) → R (-1) σ1) ∧ ((x1 = 3) → R (σ1 27 0) σ1))) ∧ ((x1 = 2) → R (σ1 28 0) σ1))) ∧ ((x1 = 1) → R (σ1 10 0) σ1))) ∧ ((x1 = 0) → R (σ1 9 0) σ1)))
abbrev wsMo_count : List Cond := .code yMo_count cMo_count 2 (some .int) :: wg
abbrev rmM_count : Room := { frames := 0, cells := 0, slots := 0, locals := 0 }
set_option maxHeartbeats 4000000 in
set_option maxRecDepth 100000 in
theorem kM_count (l : Launch) (D : va_G) (a : Nat → Nat) (A : Nat → Prop) (tI tZ : ClassId) (σ : MS) (x1 : Int32) (R : Int32 → MS → Prop) (hwp : wM_count R σ x1) : Met l yMo_count wsMo_count rmM_count (va_Pc [.ref (a 0), .int x1] (uI D clA (mT tI tZ) A false (mw a tI tZ) σ)) (va_Qi R (uI D clA (mT tI tZ) A false (mw a tI tZ)) A) 0 0 A := by
  refine Met.ofW (cc := cMo_count) (maxL := 2) (ret := (some .int)) (by decide) rfl ?_
  intro p e s m args below meth c s₁ B hml hv
  obtain ⟨rfl, hP, hK, hD, hA⟩ := hv
  have hx := B.exec
  have hb := B.bytes
  have hr := B.returns
  have hts := atoms_spec (ws := wsMo_count) B.pre
  have hown : s.vm.findClass RMo = some m.cls := findClass_of_methodNamed B.named
  have hlocks := B.notSynchronized
  have hin0 : ∀ w ∈ u_ws RMo TMo 33, w ∈ wsMo_count := fun w h => List.mem_cons_of_mem _ (inMo w h)
  have k128 := hts _ (List.mem_cons_of_mem _ wm_745)
  have k164 := hts _ (List.mem_cons_of_mem _ wm_764)
  have k78 := hts _ (List.mem_cons_of_mem _ wm_763)
  have k90 := hts _ (List.mem_cons_of_mem _ wm_768)
  have k96 := hts _ (List.mem_cons_of_mem _ wm_746)
  have hS : va_S A s.heap s.heap [] := va_S.rf
  have hl := lv_entry ([.ref (a 0), .int x1]) (n := 2) (Nat.le_of_ble_eq_true rfl)
  rw [lg_entry_eq]
  generalize (lg_sl ([.ref (a 0), .int x1]) ++ List.replicate (2 - (lg_sl ([.ref (a 0), .int x1])).length) Slot.unset).toArray = ls at hl ⊢
  have hl : lv_has ls 2 [(0, .ref (a 0)), (1, .int x1)] := hl
  refine lv_aload_n hx hb dMo_count_0 rfl (lv_at hl 0 rfl) ?_
  refine lv_iconst (v := 0) hx hb dMo_count_1 (by decide) ?_
  refine va_put (ty := .int) (D := D) (ci := 0) (C := RMo) (T := TMo) (N := 33) hx hb hts hin0 tyMo tyMo_ok nmMo hown hK hP hD hS 0 rfl rfl 32 (by decide) k90 (fun _ h9 => h9) rfl (by decide +kernel) rfl rfl (Nat.le_of_ble_eq_true rfl) dMo_count_2 (fun H locs hP hD hS => ?_)
  obtain ⟨σ1, eσ1⟩ : ∃ z, z = up2 σ 32 0 0 := ⟨_, rfl⟩
  have hwp := hwp σ1 eσ1
  have hP : va_P D clA (mw a tI tZ σ1) H := by rw [eσ1]; exact hP
  have hD : va_D A (mw a tI tZ σ1) := by rw [eσ1]; exact hD
  refine lv_iload_n hx hb dMo_count_5 rfl (lv_at hl 1 rfl) ?_
  refine lv_if_ne hx hb dMo_count_6 rfl (fun h2 => ?_) (fun h2 => ?_)
  · have hwp := hwp.1 h2
    refine lv_iload_n hx hb dMo_count_16 rfl (lv_at hl 1 rfl) ?_
    refine lv_iconst (v := 1) hx hb dMo_count_17 (by decide) ?_
    refine lv_icmp_ne hx hb dMo_count_18 rfl (fun h3 => ?_) (fun h3 => ?_)
    · have hwp := hwp.1 h3
      refine lv_iload_n hx hb dMo_count_28 rfl (lv_at hl 1 rfl) ?_
      refine lv_iconst (v := 2) hx hb dMo_count_29 (by decide) ?_
      refine lv_icmp_ne hx hb dMo_count_30 rfl (fun h4 => ?_) (fun h4 => ?_)
      · have hwp := hwp.1 h4
        refine lv_iload_n hx hb dMo_count_40 rfl (lv_at hl 1 rfl) ?_
        refine lv_iconst (v := 3) hx hb dMo_count_41 (by decide) ?_
        refine lv_icmp_ne hx hb dMo_count_42 rfl (fun h5 => ?_) (fun h5 => ?_)
        · have hwp := hwp.1 h5
          refine lv_iconst (v := (-1)) hx hb dMo_count_52 (by decide) ?_
          exact W.iret (v := (-1)) hx hb hr (fun t ht hW => ⟨⟨(-1), σ1, rfl, hwp, uEnd ht hW hP hK hD hS hA⟩, hS.F ht⟩) hS.2.2 dMo_count_53
        · have hwp := hwp.2 h5
          refine lv_aload_n hx hb dMo_count_45 rfl (lv_at hl 0 rfl) ?_
          refine va_get (D := D) (ci := 0) (C := RMo) (T := TMo) (N := 33) hx hb hts hin0 hown hK hP 0 rfl rfl 27 (by decide) k78 (fun _ h9 => h9) rfl dMo_count_46 ?_
          refine lv_goto hx hb dMo_count_49 rfl ?_
          exact W.iret (v := σ1 27 0) hx hb hr (fun t ht hW => ⟨⟨σ1 27 0, σ1, rfl, hwp, uEnd ht hW hP hK hD hS hA⟩, hS.F ht⟩) hS.2.2 dMo_count_53
      · have hwp := hwp.2 h4
        refine lv_aload_n hx hb dMo_count_33 rfl (lv_at hl 0 rfl) ?_
        refine va_get (D := D) (ci := 0) (C := RMo) (T := TMo) (N := 33) hx hb hts hin0 hown hK hP 0 rfl rfl 28 (by decide) k164 (fun _ h9 => h9) rfl dMo_count_34 ?_
        refine lv_goto hx hb dMo_count_37 rfl ?_
        exact W.iret (v := σ1 28 0) hx hb hr (fun t ht hW => ⟨⟨σ1 28 0, σ1, rfl, hwp, uEnd ht hW hP hK hD hS hA⟩, hS.F ht⟩) hS.2.2 dMo_count_53
    · have hwp := hwp.2 h3
      refine lv_aload_n hx hb dMo_count_21 rfl (lv_at hl 0 rfl) ?_
      refine va_get (D := D) (ci := 0) (C := RMo) (T := TMo) (N := 33) hx hb hts hin0 hown hK hP 0 rfl rfl 10 (by decide) k96 (fun _ h9 => h9) rfl dMo_count_22 ?_
      refine lv_goto hx hb dMo_count_25 rfl ?_
      exact W.iret (v := σ1 10 0) hx hb hr (fun t ht hW => ⟨⟨σ1 10 0, σ1, rfl, hwp, uEnd ht hW hP hK hD hS hA⟩, hS.F ht⟩) hS.2.2 dMo_count_53
  · have hwp := hwp.2 h2
    refine lv_aload_n hx hb dMo_count_9 rfl (lv_at hl 0 rfl) ?_
    refine va_get (D := D) (ci := 0) (C := RMo) (T := TMo) (N := 33) hx hb hts hin0 hown hK hP 0 rfl rfl 9 (by decide) k128 (fun _ h9 => h9) rfl dMo_count_10 ?_
    refine lv_goto hx hb dMo_count_13 rfl ?_
    exact W.iret (v := σ1 9 0) hx hb hr (fun t ht hW => ⟨⟨σ1 9 0, σ1, rfl, hwp, uEnd ht hW hP hK hD hS hA⟩, hS.F ht⟩) hS.2.2 dMo_count_53
end
