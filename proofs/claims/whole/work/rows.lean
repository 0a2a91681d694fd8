section
-- ===== PART A: goes FIRST, ahead of the names: the tables' words, and 'selects' of the private methods out of them =====
/-- a private method of a class that the tables say can be made, by its rows of tables_1 -/
def lw_okq (q : MethodName × Nat) : Prop := (q.1.cls ≠ "java/lang/invoke/MethodHandle" ∧ q.1.cls ≠ "java/lang/invoke/VarHandle") ∧ Cond.instantiable q.1.cls q.2 ∈ tables_1 ∧ Cond.privateMethod q.1 ∈ tables_1 ∧ Cond.instanceMethod q.1 ∈ tables_1
theorem lw_p0 : lw_okq (⟨"NodeServices", "entriesOfAllLocks", "()I"⟩, 5) := ⟨⟨by decide +kernel, by decide +kernel⟩, List.mem_of_getElem? (i := 22) (by decide +kernel), List.mem_of_getElem? (i := 253) (by decide +kernel), List.mem_of_getElem? (i := 254) (by decide +kernel)⟩
theorem lw_p1 : lw_okq (⟨"java/lang/Throwable", "fillInStackTrace", "(I)Ljava/lang/Throwable;"⟩, 6) := ⟨⟨by decide +kernel, by decide +kernel⟩, List.mem_of_getElem? (i := 310) (by decide +kernel), List.mem_of_getElem? (i := 308) (by decide +kernel), List.mem_of_getElem? (i := 309) (by decide +kernel)⟩
theorem lw_p2 : lw_okq (⟨"NodeServices$TreeLock", "goOn", "(I)V"⟩, 7) := ⟨⟨by decide +kernel, by decide +kernel⟩, List.mem_of_getElem? (i := 150) (by decide +kernel), List.mem_of_getElem? (i := 442) (by decide +kernel), List.mem_of_getElem? (i := 443) (by decide +kernel)⟩
theorem lw_p3 : lw_okq (⟨"NodeServices$TreeLock", "serve", "(II)V"⟩, 7) := ⟨⟨by decide +kernel, by decide +kernel⟩, List.mem_of_getElem? (i := 150) (by decide +kernel), List.mem_of_getElem? (i := 454) (by decide +kernel), List.mem_of_getElem? (i := 455) (by decide +kernel)⟩
theorem lw_p4 : lw_okq (⟨"NodeServices$TokenLock", "isOwed", "(II)Z"⟩, 8) := ⟨⟨by decide +kernel, by decide +kernel⟩, List.mem_of_getElem? (i := 112) (by decide +kernel), List.mem_of_getElem? (i := 489) (by decide +kernel), List.mem_of_getElem? (i := 490) (by decide +kernel)⟩
theorem lw_p5 : lw_okq (⟨"NodeServices$TokenLock", "passToken", "(II)V"⟩, 8) := ⟨⟨by decide +kernel, by decide +kernel⟩, List.mem_of_getElem? (i := 112) (by decide +kernel), List.mem_of_getElem? (i := 496) (by decide +kernel), List.mem_of_getElem? (i := 497) (by decide +kernel)⟩
theorem lw_p6 : lw_okq (⟨"NodeServices$Election", "sendOn", "(III)V"⟩, 5) := ⟨⟨by decide +kernel, by decide +kernel⟩, List.mem_of_getElem? (i := 182) (by decide +kernel), List.mem_of_getElem? (i := 518) (by decide +kernel), List.mem_of_getElem? (i := 519) (by decide +kernel)⟩
theorem lw_p7 : lw_okq (⟨"NodeServices$Work", "isEngaged", "(I)Z"⟩, 7) := ⟨⟨by decide +kernel, by decide +kernel⟩, List.mem_of_getElem? (i := 204) (by decide +kernel), List.mem_of_getElem? (i := 536) (by decide +kernel), List.mem_of_getElem? (i := 537) (by decide +kernel)⟩
theorem lw_p8 : lw_okq (⟨"NodeServices$Work", "settle", "(I)V"⟩, 7) := ⟨⟨by decide +kernel, by decide +kernel⟩, List.mem_of_getElem? (i := 204) (by decide +kernel), List.mem_of_getElem? (i := 580) (by decide +kernel), List.mem_of_getElem? (i := 581) (by decide +kernel)⟩
theorem lw_p9 : lw_okq (⟨"NodeServices$Election", "takeElect", "(II)V"⟩, 5) := ⟨⟨by decide +kernel, by decide +kernel⟩, List.mem_of_getElem? (i := 182) (by decide +kernel), List.mem_of_getElem? (i := 619) (by decide +kernel), List.mem_of_getElem? (i := 620) (by decide +kernel)⟩
theorem lw_p10 : lw_okq (⟨"NodeServices$Election", "takeLeader", "(II)V"⟩, 5) := ⟨⟨by decide +kernel, by decide +kernel⟩, List.mem_of_getElem? (i := 182) (by decide +kernel), List.mem_of_getElem? (i := 624) (by decide +kernel), List.mem_of_getElem? (i := 625) (by decide +kernel)⟩
theorem lw_p11 : lw_okq (⟨"NodeServices$StampLock", "takeRequest", "(III)V"⟩, 8) := ⟨⟨by decide +kernel, by decide +kernel⟩, List.mem_of_getElem? (i := 65) (by decide +kernel), List.mem_of_getElem? (i := 631) (by decide +kernel), List.mem_of_getElem? (i := 632) (by decide +kernel)⟩
theorem lw_p12 : lw_okq (⟨"NodeServices$StampLock", "isBefore", "(III)Z"⟩, 8) := ⟨⟨by decide +kernel, by decide +kernel⟩, List.mem_of_getElem? (i := 65) (by decide +kernel), List.mem_of_getElem? (i := 638) (by decide +kernel), List.mem_of_getElem? (i := 639) (by decide +kernel)⟩
theorem lw_p13 : lw_okq (⟨"NodeServices$StampLock", "takeReply", "(I)V"⟩, 8) := ⟨⟨by decide +kernel, by decide +kernel⟩, List.mem_of_getElem? (i := 65) (by decide +kernel), List.mem_of_getElem? (i := 642) (by decide +kernel), List.mem_of_getElem? (i := 643) (by decide +kernel)⟩
theorem lw_p14 : lw_okq (⟨"NodeServices$TokenLock", "takeRequest", "(III)V"⟩, 8) := ⟨⟨by decide +kernel, by decide +kernel⟩, List.mem_of_getElem? (i := 112) (by decide +kernel), List.mem_of_getElem? (i := 652) (by decide +kernel), List.mem_of_getElem? (i := 653) (by decide +kernel)⟩
theorem lw_p15 : lw_okq (⟨"NodeServices$Work", "takeWork", "(II)V"⟩, 7) := ⟨⟨by decide +kernel, by decide +kernel⟩, List.mem_of_getElem? (i := 204) (by decide +kernel), List.mem_of_getElem? (i := 663) (by decide +kernel), List.mem_of_getElem? (i := 664) (by decide +kernel)⟩
def lw_privs_1 : List (MethodName × Nat) := [(⟨"NodeServices", "entriesOfAllLocks", "()I"⟩, 5), (⟨"java/lang/Throwable", "fillInStackTrace", "(I)Ljava/lang/Throwable;"⟩, 6), (⟨"NodeServices$TreeLock", "goOn", "(I)V"⟩, 7), (⟨"NodeServices$TreeLock", "serve", "(II)V"⟩, 7), (⟨"NodeServices$TokenLock", "isOwed", "(II)Z"⟩, 8), (⟨"NodeServices$TokenLock", "passToken", "(II)V"⟩, 8), (⟨"NodeServices$Election", "sendOn", "(III)V"⟩, 5), (⟨"NodeServices$Work", "isEngaged", "(I)Z"⟩, 7), (⟨"NodeServices$Work", "settle", "(I)V"⟩, 7), (⟨"NodeServices$Election", "takeElect", "(II)V"⟩, 5), (⟨"NodeServices$Election", "takeLeader", "(II)V"⟩, 5), (⟨"NodeServices$StampLock", "takeRequest", "(III)V"⟩, 8), (⟨"NodeServices$StampLock", "isBefore", "(III)Z"⟩, 8), (⟨"NodeServices$StampLock", "takeReply", "(I)V"⟩, 8), (⟨"NodeServices$TokenLock", "takeRequest", "(III)V"⟩, 8), (⟨"NodeServices$Work", "takeWork", "(II)V"⟩, 7)]
theorem lw_r1 : ∀ q ∈ lw_privs_1, lw_okq q := List.forall_mem_cons.mpr ⟨lw_p0, List.forall_mem_cons.mpr ⟨lw_p1, List.forall_mem_cons.mpr ⟨lw_p2, List.forall_mem_cons.mpr ⟨lw_p3, List.forall_mem_cons.mpr ⟨lw_p4, List.forall_mem_cons.mpr ⟨lw_p5, List.forall_mem_cons.mpr ⟨lw_p6, List.forall_mem_cons.mpr ⟨lw_p7, List.forall_mem_cons.mpr ⟨lw_p8, List.forall_mem_cons.mpr ⟨lw_p9, List.forall_mem_cons.mpr ⟨lw_p10, List.forall_mem_cons.mpr ⟨lw_p11, List.forall_mem_cons.mpr ⟨lw_p12, List.forall_mem_cons.mpr ⟨lw_p13, List.forall_mem_cons.mpr ⟨lw_p14, List.forall_mem_cons.mpr ⟨lw_p15, fun _ h => absurd h List.not_mem_nil⟩⟩⟩⟩⟩⟩⟩⟩⟩⟩⟩⟩⟩⟩⟩⟩
theorem lw_p16 : lw_okq (⟨"NodeServicesModel", "stampArrives", "(IIII)V"⟩, 33) := ⟨⟨by decide +kernel, by decide +kernel⟩, List.mem_of_getElem? (i := 731) (by decide +kernel), List.mem_of_getElem? (i := 851) (by decide +kernel), List.mem_of_getElem? (i := 852) (by decide +kernel)⟩
theorem lw_p17 : lw_okq (⟨"NodeServicesModel", "comeIn", "(II)V"⟩, 33) := ⟨⟨by decide +kernel, by decide +kernel⟩, List.mem_of_getElem? (i := 731) (by decide +kernel), List.mem_of_getElem? (i := 855) (by decide +kernel), List.mem_of_getElem? (i := 856) (by decide +kernel)⟩
theorem lw_p18 : lw_okq (⟨"NodeServicesModel", "send", "(IIIII)V"⟩, 33) := ⟨⟨by decide +kernel, by decide +kernel⟩, List.mem_of_getElem? (i := 731) (by decide +kernel), List.mem_of_getElem? (i := 859) (by decide +kernel), List.mem_of_getElem? (i := 860) (by decide +kernel)⟩
theorem lw_p19 : lw_okq (⟨"NodeServicesModel", "tokenArrives", "(IIII)V"⟩, 33) := ⟨⟨by decide +kernel, by decide +kernel⟩, List.mem_of_getElem? (i := 731) (by decide +kernel), List.mem_of_getElem? (i := 863) (by decide +kernel), List.mem_of_getElem? (i := 864) (by decide +kernel)⟩
theorem lw_p20 : lw_okq (⟨"NodeServicesModel", "isDue", "(II)Z"⟩, 33) := ⟨⟨by decide +kernel, by decide +kernel⟩, List.mem_of_getElem? (i := 731) (by decide +kernel), List.mem_of_getElem? (i := 867) (by decide +kernel), List.mem_of_getElem? (i := 868) (by decide +kernel)⟩
theorem lw_p21 : lw_okq (⟨"NodeServicesModel", "treeArrives", "(III)V"⟩, 33) := ⟨⟨by decide +kernel, by decide +kernel⟩, List.mem_of_getElem? (i := 731) (by decide +kernel), List.mem_of_getElem? (i := 871) (by decide +kernel), List.mem_of_getElem? (i := 872) (by decide +kernel)⟩
theorem lw_p22 : lw_okq (⟨"NodeServicesModel", "enqueue", "(II)V"⟩, 33) := ⟨⟨by decide +kernel, by decide +kernel⟩, List.mem_of_getElem? (i := 731) (by decide +kernel), List.mem_of_getElem? (i := 875) (by decide +kernel), List.mem_of_getElem? (i := 876) (by decide +kernel)⟩
theorem lw_p23 : lw_okq (⟨"NodeServicesModel", "goOn", "(I)V"⟩, 33) := ⟨⟨by decide +kernel, by decide +kernel⟩, List.mem_of_getElem? (i := 731) (by decide +kernel), List.mem_of_getElem? (i := 879) (by decide +kernel), List.mem_of_getElem? (i := 880) (by decide +kernel)⟩
theorem lw_p24 : lw_okq (⟨"NodeServicesModel", "dequeue", "(I)I"⟩, 33) := ⟨⟨by decide +kernel, by decide +kernel⟩, List.mem_of_getElem? (i := 731) (by decide +kernel), List.mem_of_getElem? (i := 883) (by decide +kernel), List.mem_of_getElem? (i := 884) (by decide +kernel)⟩
theorem lw_p25 : lw_okq (⟨"NodeServicesModel", "ringArrives", "(III)V"⟩, 33) := ⟨⟨by decide +kernel, by decide +kernel⟩, List.mem_of_getElem? (i := 731) (by decide +kernel), List.mem_of_getElem? (i := 887) (by decide +kernel), List.mem_of_getElem? (i := 888) (by decide +kernel)⟩
theorem lw_p26 : lw_okq (⟨"NodeServicesModel", "workArrives", "(III)V"⟩, 33) := ⟨⟨by decide +kernel, by decide +kernel⟩, List.mem_of_getElem? (i := 731) (by decide +kernel), List.mem_of_getElem? (i := 891) (by decide +kernel), List.mem_of_getElem? (i := 892) (by decide +kernel)⟩
theorem lw_p27 : lw_okq (⟨"NodeServicesModel", "settle", "(I)V"⟩, 33) := ⟨⟨by decide +kernel, by decide +kernel⟩, List.mem_of_getElem? (i := 731) (by decide +kernel), List.mem_of_getElem? (i := 895) (by decide +kernel), List.mem_of_getElem? (i := 896) (by decide +kernel)⟩
theorem lw_p28 : lw_okq (⟨"NodeServicesModel", "sendAll", "(IIII)V"⟩, 33) := ⟨⟨by decide +kernel, by decide +kernel⟩, List.mem_of_getElem? (i := 731) (by decide +kernel), List.mem_of_getElem? (i := 914) (by decide +kernel), List.mem_of_getElem? (i := 915) (by decide +kernel)⟩
theorem lw_p29 : lw_okq (⟨"NodeServicesModel", "passToken", "(I)V"⟩, 33) := ⟨⟨by decide +kernel, by decide +kernel⟩, List.mem_of_getElem? (i := 731) (by decide +kernel), List.mem_of_getElem? (i := 922) (by decide +kernel), List.mem_of_getElem? (i := 923) (by decide +kernel)⟩
def lw_privs_2 : List (MethodName × Nat) := [(⟨"NodeServicesModel", "stampArrives", "(IIII)V"⟩, 33), (⟨"NodeServicesModel", "comeIn", "(II)V"⟩, 33), (⟨"NodeServicesModel", "send", "(IIIII)V"⟩, 33), (⟨"NodeServicesModel", "tokenArrives", "(IIII)V"⟩, 33), (⟨"NodeServicesModel", "isDue", "(II)Z"⟩, 33), (⟨"NodeServicesModel", "treeArrives", "(III)V"⟩, 33), (⟨"NodeServicesModel", "enqueue", "(II)V"⟩, 33), (⟨"NodeServicesModel", "goOn", "(I)V"⟩, 33), (⟨"NodeServicesModel", "dequeue", "(I)I"⟩, 33), (⟨"NodeServicesModel", "ringArrives", "(III)V"⟩, 33), (⟨"NodeServicesModel", "workArrives", "(III)V"⟩, 33), (⟨"NodeServicesModel", "settle", "(I)V"⟩, 33), (⟨"NodeServicesModel", "sendAll", "(IIII)V"⟩, 33), (⟨"NodeServicesModel", "passToken", "(I)V"⟩, 33)]
theorem lw_r2 : ∀ q ∈ lw_privs_2, lw_okq q := List.forall_mem_cons.mpr ⟨lw_p16, List.forall_mem_cons.mpr ⟨lw_p17, List.forall_mem_cons.mpr ⟨lw_p18, List.forall_mem_cons.mpr ⟨lw_p19, List.forall_mem_cons.mpr ⟨lw_p20, List.forall_mem_cons.mpr ⟨lw_p21, List.forall_mem_cons.mpr ⟨lw_p22, List.forall_mem_cons.mpr ⟨lw_p23, List.forall_mem_cons.mpr ⟨lw_p24, List.forall_mem_cons.mpr ⟨lw_p25, List.forall_mem_cons.mpr ⟨lw_p26, List.forall_mem_cons.mpr ⟨lw_p27, List.forall_mem_cons.mpr ⟨lw_p28, List.forall_mem_cons.mpr ⟨lw_p29, fun _ h => absurd h List.not_mem_nil⟩⟩⟩⟩⟩⟩⟩⟩⟩⟩⟩⟩⟩⟩
def lw_privs : List (MethodName × Nat) := lw_privs_1 ++ (lw_privs_2)
def lw_tbl : List Cond := k2_sels lw_privs ++ tables_1
theorem lw_privs_ok : ∀ q ∈ lw_privs, lw_okq q := by
  show ∀ q ∈ lw_privs_1 ++ (lw_privs_2), lw_okq q
  exact List.forall_mem_append.mpr ⟨lw_r1, lw_r2⟩
-- the words of the tables that a callee may be given
def wg : List Cond := lw_tbl.filter goodWord
theorem mem_wg {w : Cond} (h : w ∈ k2_sels lw_privs ++ tables_1) (g : goodWord w = true) : w ∈ wg := List.mem_filter.mpr ⟨h, g⟩
theorem mem_ws {ws : List Cond} (ps : List Nat) (h : ws = ps.filterMap (fun i => tables_1[i]?)) (g : ws.all goodWord = true) : ∀ w ∈ ws, w ∈ wg := fun w hw => by
  have g1 := List.all_eq_true.mp g w hw
  rw [h] at hw
  obtain ⟨i, -, hi⟩ := List.mem_filterMap.mp hw
  exact mem_wg (List.mem_append_right _ (List.mem_of_getElem? hi)) g1
theorem wg_good {w : Cond} (h : w ∈ wg) : (w.onTables && w.keeps) = true ∨ ∃ ty, w = .arrayClass ty := good_of_word (List.mem_filter.mp h).2
theorem gdw {c0 w : Cond} (h : w ∈ wg) : w ∈ c0 :: wg ∧ ((w.onTables && w.keeps) = true ∨ ∃ ty, w = .arrayClass ty) := ⟨List.mem_cons_of_mem _ h, wg_good h⟩
theorem gdc {c0 w : Cond} (h : w ∈ wg) : GoodIn (c0 :: wg) (w :: wg) := fun v hv => (List.mem_cons.mp hv).elim (fun e => by rw [e]; exact gdw h) (fun q => gdw q)
theorem gdV {c0 w : Cond} {own C : String} {idx : Nat} {y : MethodName} (h1 : Cond.methodLink own idx y ∈ wg) (h2 : Cond.instanceMethod y ∈ wg) (h3 : Cond.selects C y y ∈ wg) (h4 : Cond.initialized C ∈ wg) (h5 : w ∈ wg) : GoodIn (c0 :: wg) (wsV own idx C y (w :: wg)) := fun v hv => by
  rcases List.mem_append.mp hv with h | h
  · simp only [List.mem_cons, List.not_mem_nil, or_false] at h
    rcases h with rfl | rfl | rfl | rfl
    · exact gdw h1
    · exact gdw h2
    · exact gdw h3
    · exact gdw h4
  · exact gdc h5 v h
theorem gdS {c0 w : Cond} {own : String} {idx : Nat} {y : MethodName} (h1 : Cond.methodLink own idx y ∈ wg) (h2 : Cond.static y ∈ wg) (h3 : Cond.initialized own ∈ wg) (h5 : w ∈ wg) : GoodIn (c0 :: wg) (wsS own idx y (w :: wg)) := fun v hv => by
  rcases List.mem_append.mp hv with h | h
  · simp only [List.mem_cons, List.not_mem_nil, or_false] at h
    rcases h with rfl | rfl | rfl
    · exact gdw h1
    · exact gdw h2
    · exact gdw h3
  · exact gdc h5 v h
end
section
-- a state of a class: field number, place, value
abbrev MS : Type := Nat → Nat → Int32
def up2 (f : MS) (k i : Nat) (v : Int32) : MS := fun j => cond (Nat.beq j k) (upd (f k) i v) (f j)
theorem fx_beq (j k : Nat) : Nat.beq j k = decide (j = k) := by
  by_cases h : j = k
  · subst h
    simp [Nat.beq_refl]
  · cases hb : Nat.beq j k
    · simp [h]
    · exact absurd (Nat.eq_of_beq_eq_true hb) h
theorem up2_at (f : MS) (k i : Nat) (v : Int32) (j : Nat) : up2 f k i v j = if j = k then upd (f k) i v else f j := by
  unfold up2
  rw [fx_beq]
  by_cases h : j = k <;> simp [h]
theorem fx_inc1 (x : Int32) : x + Int32.ofInt 1 = x + 1 := by
  have h : Int32.ofInt 1 = 1 := by decide
  rw [h]
theorem fx_inc3 (x : Int32) : x + Int32.ofInt 3 = x + 3 := by
  have h : Int32.ofInt 3 = 3 := by decide
  rw [h]
theorem fx_out4 {x : Int32} (h0 : ¬ x = 0) (h1 : ¬ x = 1) (h2 : ¬ x = 2) (h3 : ¬ x = 3) : x.toInt < 0 ∨ 3 < x.toInt := by
  by_cases ha : x.toInt < 0
  · exact Or.inl ha
  · by_cases hb : 3 < x.toInt
    · exact Or.inr hb
    · exfalso
      have hq : x.toInt = 0 ∨ x.toInt = 1 ∨ x.toInt = 2 ∨ x.toInt = 3 := by omega
      rcases hq with q | q | q | q
      · exact h0 (Int32.toInt_inj.mp (q.trans (by decide)))
      · exact h1 (Int32.toInt_inj.mp (q.trans (by decide)))
      · exact h2 (Int32.toInt_inj.mp (q.trans (by decide)))
      · exact h3 (Int32.toInt_inj.mp (q.trans (by decide)))
/-- the invariant of a method's world: wd says which cells stand for a state u; nw: the method may make cells -/
def uI {S : Type} (D : va_G) (cl : List vw_C) (tys : List (ClassId × FieldType)) (A : Nat → Prop) (nw : Bool) (wd : S → va_W) (u : S) (U : State) : Prop :=
  va_P D cl (wd u) U.heap ∧ va_K D cl tys U ∧ va_D A (wd u) ∧ (nw = true → ∀ q, U.heap.size ≤ q → A q)
theorem uI_blind {S : Type} {D : va_G} {cl : List vw_C} {tys : List (ClassId × FieldType)} {A : Nat → Prop} {nw : Bool} {wd : S → va_W} {u : S} {av : List Value} : FrameBlind (va_Pc av (uI D cl tys A nw wd u)) := fun a U g mk q => by
  obtain ⟨q0, qP, qK, qD, qN⟩ := q
  exact ⟨q0, qP, va_K.moved (u := U) (U := U.calling g mk a) (Vm.Alike.refl U.vm) qK, qD, qN⟩
section UC
variable {p : Program} {l : Launch} {e : Env} {R : Room} {s : State} {m : MethodId} {args : Array Value} {below : List Frame} {meth : Method} {c : Code} {H : Heap} {locs : List Loc} {cells slots : Nat} {Q : State → Prop}
variable {y : MethodName} {bytes cc : ByteArray} {maxL nL mc ms n index pc : Nat} {ret : Option FieldType} {ws : List Cond} {rm : Room} {Ts : List Cond} {own C : String} {b : Addr} {As rest st0 : List Value} {ls : Array Slot}
variable {S : Type} {D : va_G} {cl : List vw_C} {tys : List (ClassId × FieldType)} {A : Nat → Prop} {nw : Bool} {wd : S → va_W} {u0 : S} {H0 : Heap}
theorem uPre (hP : va_P D cl (wd u0) H) (hK : va_K D cl tys s) (hD : va_D A (wd u0)) (hN : nw = true → ∀ q, H.size ≤ q → A q) {av : List Value} (U : State) (hU : U.heap = H) (hW : s.WarmedH U.vm) : va_Pc av (uI D cl tys A nw wd u0) av.toArray U :=
  ⟨rfl, by rw [hU]; exact hP, va_K.moved hW.alike hK, hD, by rw [hU]; exact hN⟩
/-- what a return gives -/
theorem uEnd {t : State} {u : S} (ht : t.heap = H) (hW : s.WarmedH t.vm) (hP : va_P D cl (wd u) H) (hK : va_K D cl tys s) (hD : va_D A (wd u)) (hS : va_S A s.heap H locs) (hA : nw = true → ∀ q, s.heap.size ≤ q → A q) : uI D cl tys A nw wd u t :=
  ⟨by rw [ht]; exact hP, va_K.moved hW.alike hK, hD, fun h q hq => hA h q (Nat.le_trans hS.1 (by rw [ht] at hq; exact hq))⟩
/-- an instance method of the same world, no answer -/
theorem uCallVv {post : S → Prop} (F : CallFix p m c cc nL s args Ts own) (hM : Met l y ws rm (va_Pc (.ref b :: As) (uI D cl tys A nw wd u0)) (va_Qv post (uI D cl tys A nw wd) A) mc ms A) (cw : CallW R s args own C index y bytes maxL ret ws rm mc ms n)
    (hrec : ∃ cellB : Cell, H[b]? = some cellB ∧ cellB.vm.isStatics = false ∧ s.vm.findClass C = some cellB.cls)
    (hP : va_P D cl (wd u0) H) (hK : va_K D cl tys s) (hD : va_D A (wd u0)) (hA : nw = true → ∀ q, s.heap.size ≤ q → A q) (hS : va_S A s.heap H locs)
    (hn : As.length = n) (hsize : ls.size = nL) (hst : st0 = As.reverse ++ .ref b :: rest) (hW : (rest.map fun v => v.category).sum ≤ 8) (hdg : decode cc pc = .ok (.invokevirtual index, 3)) (hf : cells + mc ≤ R.cells ∧ slots + ms ≤ R.slots)
    (kk : ∀ (u : S) (H1 : Heap) (locs1 : List Loc), post u → va_P D cl (wd u) H1 → va_D A (wd u) → va_S A s.heap H1 locs1 → W p l e R s m args below meth c H1 locs1 (cells + mc) (slots + ms) Q (F0 m (pc + 3) ls rest)) :
    W p l e R s m args below meth c H locs cells slots Q (F0 m pc ls st0) := by
  subst hst
  exact va_callv (va_runV F hM cw ⟨uI_blind, hrec, uPre hP hK hD (fun h q hq => hA h q (Nat.le_trans hS.1 hq))⟩ rfl hn hsize rfl (lv_room hW) hdg hf) hS (fun q _ h => h) (fun q h => h)
    (fun u t H1 locs1 ht hvm hw hB hz hk hS1 => kk u H1 locs1 hw (by rw [← ht]; exact hB.1) hB.2.2.1 hS1)
theorem uCallVi {post : Int32 → S → Prop} (F : CallFix p m c cc nL s args Ts own) (hM : Met l y ws rm (va_Pc (.ref b :: As) (uI D cl tys A nw wd u0)) (va_Qi post (uI D cl tys A nw wd) A) mc ms A) (cw : CallW R s args own C index y bytes maxL ret ws rm mc ms n)
    (hrec : ∃ cellB : Cell, H[b]? = some cellB ∧ cellB.vm.isStatics = false ∧ s.vm.findClass C = some cellB.cls)
    (hP : va_P D cl (wd u0) H) (hK : va_K D cl tys s) (hD : va_D A (wd u0)) (hA : nw = true → ∀ q, s.heap.size ≤ q → A q) (hS : va_S A s.heap H locs)
    (hn : As.length = n) (hsize : ls.size = nL) (hst : st0 = As.reverse ++ .ref b :: rest) (hW : (rest.map fun v => v.category).sum ≤ 8) (hdg : decode cc pc = .ok (.invokevirtual index, 3)) (hf : cells + mc ≤ R.cells ∧ slots + ms ≤ R.slots)
    (kk : ∀ (r : Int32) (u : S) (H1 : Heap) (locs1 : List Loc), post r u → va_P D cl (wd u) H1 → va_D A (wd u) → va_S A s.heap H1 locs1 → W p l e R s m args below meth c H1 locs1 (cells + mc) (slots + ms) Q (F0 m (pc + 3) ls (.int r :: rest))) :
    W p l e R s m args below meth c H locs cells slots Q (F0 m pc ls st0) := by
  subst hst
  exact va_calli (va_runV F hM cw ⟨uI_blind, hrec, uPre hP hK hD (fun h q hq => hA h q (Nat.le_trans hS.1 hq))⟩ rfl hn hsize rfl (lv_room hW) hdg hf) hS (fun q _ h => h) (fun q h => h)
    (fun r u t H1 locs1 ht hvm hw hB hz hk hS1 => kk r u H1 locs1 hw (by rw [← ht]; exact hB.1) hB.2.2.1 hS1)
/-- a static method of the same class, an int for an answer -/
theorem uCallSi {post : Int32 → S → Prop} (F : CallFix p m c cc nL s args Ts own) (hM : Met l y ws rm (va_Pc As (uI D cl tys A nw wd u0)) (va_Qi post (uI D cl tys A nw wd) A) mc ms A) (cw : CallB R s args own index y bytes maxL ret ws rm mc ms n ∧ (Cond.static y).before args s = true)
    (hP : va_P D cl (wd u0) H) (hK : va_K D cl tys s) (hD : va_D A (wd u0)) (hA : nw = true → ∀ q, s.heap.size ≤ q → A q) (hS : va_S A s.heap H locs)
    (hn : As.length = n) (hsize : ls.size = nL) (hst : st0 = As.reverse ++ rest) (hW : (rest.map fun v => v.category).sum ≤ 8) (hdg : decode cc pc = .ok (.invokestatic index, 3)) (hf : cells + mc ≤ R.cells ∧ slots + ms ≤ R.slots)
    (kk : ∀ (r : Int32) (u : S) (H1 : Heap) (locs1 : List Loc), post r u → va_P D cl (wd u) H1 → va_D A (wd u) → va_S A s.heap H1 locs1 → W p l e R s m args below meth c H1 locs1 (cells + mc) (slots + ms) Q (F0 m (pc + 3) ls (.int r :: rest))) :
    W p l e R s m args below meth c H locs cells slots Q (F0 m pc ls st0) := by
  subst hst
  exact va_calli (va_runS F hM cw ⟨uI_blind, uPre hP hK hD (fun h q hq => hA h q (Nat.le_trans hS.1 hq))⟩ rfl hn hsize rfl (lv_room hW) hdg hf) hS (fun q _ h => h) (fun q h => h)
    (fun r u t H1 locs1 ht hvm hw hB hz hk hS1 => kk r u H1 locs1 hw (by rw [← ht]; exact hB.1) hB.2.2.1 hS1)
end UC
end
section
def RMo : String := "NodeServicesModel"
def TMo : u_T := fun k => match k with
  | 0 => ("NodeServicesModel", "head", "[I", true)
  | 1 => ("NodeServicesModel", "tail", "[I", true)
  | 2 => ("NodeServicesModel", "many", "[I", true)
  | 3 => ("NodeServicesModel", "sort", "[I", true)
  | 4 => ("NodeServicesModel", "amount", "[I", true)
  | 5 => ("NodeServicesModel", "behind", "[I", true)
  | 6 => ("NodeServicesModel", "used", "I", false)
  | 7 => ("NodeServicesModel", "free", "I", false)
  | 8 => ("NodeServicesModel", "state", "[I", true)
  | 9 => ("NodeServicesModel", "cameIn", "I", false)
  | 10 => ("NodeServicesModel", "sent", "I", false)
  | 11 => ("NodeServicesModel", "clock", "[I", true)
  | 12 => ("NodeServicesModel", "stamp", "[I", true)
  | 13 => ("NodeServicesModel", "replies", "[I", true)
  | 14 => ("NodeServicesModel", "putOff", "[I", true)
  | 15 => ("NodeServicesModel", "known", "[I", true)
  | 16 => ("NodeServicesModel", "tokenDone", "[I", true)
  | 17 => ("NodeServicesModel", "holder", "I", false)
  | 18 => ("NodeServicesModel", "rowSize", "I", false)
  | 19 => ("NodeServicesModel", "row", "[I", true)
  | 20 => ("NodeServicesModel", "towards", "[I", true)
  | 21 => ("NodeServicesModel", "queueSize", "[I", true)
  | 22 => ("NodeServicesModel", "queue", "[I", true)
  | 23 => ("NodeServicesModel", "asked", "[Z", true)
  | 24 => ("NodeServicesModel", "id", "[I", true)
  | 25 => ("NodeServicesModel", "leader", "[I", true)
  | 26 => ("NodeServicesModel", "part", "[Z", true)
  | 27 => ("NodeServicesModel", "root", "I", false)
  | 28 => ("NodeServicesModel", "ends", "I", false)
  | 29 => ("NodeServicesModel", "busy", "[Z", true)
  | 30 => ("NodeServicesModel", "parent", "[I", true)
  | 31 => ("NodeServicesModel", "open", "[I", true)
  | _ => ("NodeServicesModel", "thrown", "I", false)
def tyMo : Nat → FieldType := fun k => match k with
  | 0 => .array .int
  | 1 => .array .int
  | 2 => .array .int
  | 3 => .array .int
  | 4 => .array .int
  | 5 => .array .int
  | 6 => .int
  | 7 => .int
  | 8 => .array .int
  | 9 => .int
  | 10 => .int
  | 11 => .array .int
  | 12 => .array .int
  | 13 => .array .int
  | 14 => .array .int
  | 15 => .array .int
  | 16 => .array .int
  | 17 => .int
  | 18 => .int
  | 19 => .array .int
  | 20 => .array .int
  | 21 => .array .int
  | 22 => .array .int
  | 23 => .array .boolean
  | 24 => .array .int
  | 25 => .array .int
  | 26 => .array .boolean
  | 27 => .int
  | 28 => .int
  | 29 => .array .boolean
  | 30 => .array .int
  | 31 => .array .int
  | _ => .int
theorem nmMo : ∀ a, a < 33 → ∀ b, b < 33 → a ≠ b → (TMo a).2.1 ≠ (TMo b).2.1 := by decide +kernel
theorem tyMo_ok : ∀ k, k < 33 → parseFieldDescriptor (TMo k).2.2.1 = some (tyMo k) := by decide +kernel
theorem inMo : ∀ w ∈ u_ws RMo TMo 33, w ∈ wg := mem_ws [769, 771, 773, 775, 777, 779, 781, 783, 785, 787, 789, 791, 793, 795, 797, 799, 801, 803, 805, 807, 809, 811, 813, 815, 817, 819, 821, 823, 825, 827, 829, 831, 833] (by decide +kernel) (by decide +kernel)
abbrev cMo_init : ByteArray := prog_14_method_1_code
def yMo_init : MethodName := ⟨RMo, "<init>", "(II)V"⟩
abbrev cMo_thrown : ByteArray := prog_14_method_2_code
def yMo_thrown : MethodName := ⟨RMo, "thrown", "()I"⟩
abbrev cMo_deliver : ByteArray := prog_14_method_7_code
def yMo_deliver : MethodName := ⟨RMo, "deliver", "(II)I"⟩
abbrev cMo_isChannel : ByteArray := prog_14_method_6_code
def yMo_isChannel : MethodName := ⟨RMo, "isChannel", "(II)Z"⟩
abbrev cMo_isNode : ByteArray := prog_14_method_3_code
def yMo_isNode : MethodName := ⟨RMo, "isNode", "(I)Z"⟩
abbrev cMo_stampArrives : ByteArray := prog_14_method_14_code
def yMo_stampArrives : MethodName := ⟨RMo, "stampArrives", "(IIII)V"⟩
abbrev cMo_comeIn : ByteArray := prog_14_method_10_code
def yMo_comeIn : MethodName := ⟨RMo, "comeIn", "(II)V"⟩
abbrev cMo_send : ByteArray := prog_14_method_4_code
def yMo_send : MethodName := ⟨RMo, "send", "(IIIII)V"⟩
abbrev cMo_tokenArrives : ByteArray := prog_14_method_16_code
def yMo_tokenArrives : MethodName := ⟨RMo, "tokenArrives", "(IIII)V"⟩
abbrev cMo_isDue : ByteArray := prog_14_method_15_code
def yMo_isDue : MethodName := ⟨RMo, "isDue", "(II)Z"⟩
abbrev cMo_treeArrives : ByteArray := prog_14_method_21_code
def yMo_treeArrives : MethodName := ⟨RMo, "treeArrives", "(III)V"⟩
abbrev cMo_enqueue : ByteArray := prog_14_method_18_code
def yMo_enqueue : MethodName := ⟨RMo, "enqueue", "(II)V"⟩
abbrev cMo_goOn : ByteArray := prog_14_method_20_code
def yMo_goOn : MethodName := ⟨RMo, "goOn", "(I)V"⟩
abbrev cMo_dequeue : ByteArray := prog_14_method_19_code
def yMo_dequeue : MethodName := ⟨RMo, "dequeue", "(I)I"⟩
abbrev cMo_ringArrives : ByteArray := prog_14_method_23_code
def yMo_ringArrives : MethodName := ⟨RMo, "ringArrives", "(III)V"⟩
abbrev cMo_workArrives : ByteArray := prog_14_method_28_code
def yMo_workArrives : MethodName := ⟨RMo, "workArrives", "(III)V"⟩
abbrev cMo_settle : ByteArray := prog_14_method_24_code
def yMo_settle : MethodName := ⟨RMo, "settle", "(I)V"⟩
abbrev cMo_first : ByteArray := prog_14_method_8_code
def yMo_first : MethodName := ⟨RMo, "first", "(II)I"⟩
abbrev cMo_waiting : ByteArray := prog_14_method_9_code
def yMo_waiting : MethodName := ⟨RMo, "waiting", "(II)I"⟩
abbrev cMo_want : ByteArray := prog_14_method_12_code
def yMo_want : MethodName := ⟨RMo, "want", "(II)V"⟩
abbrev cMo_isLock : ByteArray := prog_14_method_11_code
def yMo_isLock : MethodName := ⟨RMo, "isLock", "(II)Z"⟩
abbrev cMo_sendAll : ByteArray := prog_14_method_5_code
def yMo_sendAll : MethodName := ⟨RMo, "sendAll", "(IIII)V"⟩
abbrev cMo_leave : ByteArray := prog_14_method_13_code
def yMo_leave : MethodName := ⟨RMo, "leave", "(II)V"⟩
abbrev cMo_passToken : ByteArray := prog_14_method_17_code
def yMo_passToken : MethodName := ⟨RMo, "passToken", "(I)V"⟩
abbrev cMo_start : ByteArray := prog_14_method_22_code
def yMo_start : MethodName := ⟨RMo, "start", "(I)V"⟩
abbrev cMo_begin : ByteArray := prog_14_method_25_code
def yMo_begin : MethodName := ⟨RMo, "begin", "(I)V"⟩
abbrev cMo_spread : ByteArray := prog_14_method_26_code
def yMo_spread : MethodName := ⟨RMo, "spread", "(II)V"⟩
abbrev cMo_rest : ByteArray := prog_14_method_27_code
def yMo_rest : MethodName := ⟨RMo, "rest", "(I)V"⟩
abbrev cMo_about : ByteArray := prog_14_method_30_code
def yMo_about : MethodName := ⟨RMo, "about", "(II)I"⟩
abbrev cMo_isService : ByteArray := prog_14_method_29_code
def yMo_isService : MethodName := ⟨RMo, "isService", "(II)Z"⟩
abbrev cMo_more : ByteArray := prog_14_method_31_code
def yMo_more : MethodName := ⟨RMo, "more", "(II)I"⟩
abbrev cMo_count : ByteArray := prog_14_method_32_code
def yMo_count : MethodName := ⟨RMo, "count", "(I)I"⟩
def RNs : String := "NodeServices"
def TNs : u_T := fun k => match k with
  | 0 => ("NodeServices", "network", "LNodeServices$Network;", true)
  | 1 => ("NodeServices", "locks", "[LNodeServices$Lock;", true)
  | 2 => ("NodeServices", "election", "LNodeServices$Election;", true)
  | 3 => ("NodeServices", "work", "LNodeServices$Work;", true)
  | _ => ("NodeServices", "services", "[LNodeServices$Service;", true)
def tyNs : Nat → FieldType := fun k => match k with
  | 0 => .object "NodeServices$Network"
  | 1 => .array (.object "NodeServices$Lock")
  | 2 => .object "NodeServices$Election"
  | 3 => .object "NodeServices$Work"
  | _ => .array (.object "NodeServices$Service")
theorem nmNs : ∀ a, a < 5 → ∀ b, b < 5 → a ≠ b → (TNs a).2.1 ≠ (TNs b).2.1 := by decide +kernel
theorem tyNs_ok : ∀ k, k < 5 → parseFieldDescriptor (TNs k).2.2.1 = some (tyNs k) := by decide +kernel
theorem inNs : ∀ w ∈ u_ws RNs TNs 5, w ∈ wg := mem_ws [237, 239, 241, 243, 245] (by decide +kernel) (by decide +kernel)
abbrev cNs_init : ByteArray := prog_1_method_1_code
def yNs_init : MethodName := ⟨RNs, "<init>", "(II)V"⟩
abbrev cNs_count : ByteArray := prog_1_method_13_code
def yNs_count : MethodName := ⟨RNs, "count", "(I)I"⟩
abbrev cNs_entriesOfAllLocks : ByteArray := prog_1_method_14_code
def yNs_entriesOfAllLocks : MethodName := ⟨RNs, "entriesOfAllLocks", "()I"⟩
abbrev cNs_want : ByteArray := prog_1_method_2_code
def yNs_want : MethodName := ⟨RNs, "want", "(II)V"⟩
abbrev cNs_requireLock : ByteArray := prog_1_method_15_code
def yNs_requireLock : MethodName := ⟨RNs, "requireLock", "(I)V"⟩
abbrev cNs_requireNode : ByteArray := prog_1_method_17_code
def yNs_requireNode : MethodName := ⟨RNs, "requireNode", "(I)V"⟩
abbrev cNs_leave : ByteArray := prog_1_method_3_code
def yNs_leave : MethodName := ⟨RNs, "leave", "(II)V"⟩
abbrev cNs_start : ByteArray := prog_1_method_4_code
def yNs_start : MethodName := ⟨RNs, "start", "(I)V"⟩
abbrev cNs_begin : ByteArray := prog_1_method_5_code
def yNs_begin : MethodName := ⟨RNs, "begin", "(I)V"⟩
abbrev cNs_spread : ByteArray := prog_1_method_6_code
def yNs_spread : MethodName := ⟨RNs, "spread", "(II)V"⟩
abbrev cNs_requireChannel : ByteArray := prog_1_method_18_code
def yNs_requireChannel : MethodName := ⟨RNs, "requireChannel", "(II)V"⟩
abbrev cNs_rest : ByteArray := prog_1_method_7_code
def yNs_rest : MethodName := ⟨RNs, "rest", "(I)V"⟩
abbrev cNs_deliver : ByteArray := prog_1_method_8_code
def yNs_deliver : MethodName := ⟨RNs, "deliver", "(II)I"⟩
abbrev cNs_first : ByteArray := prog_1_method_9_code
def yNs_first : MethodName := ⟨RNs, "first", "(II)I"⟩
abbrev cNs_waiting : ByteArray := prog_1_method_10_code
def yNs_waiting : MethodName := ⟨RNs, "waiting", "(II)I"⟩
abbrev cNs_about : ByteArray := prog_1_method_11_code
def yNs_about : MethodName := ⟨RNs, "about", "(II)I"⟩
abbrev cNs_requireService : ByteArray := prog_1_method_16_code
def yNs_requireService : MethodName := ⟨RNs, "requireService", "(I)V"⟩
abbrev cNs_more : ByteArray := prog_1_method_12_code
def yNs_more : MethodName := ⟨RNs, "more", "(II)I"⟩
def RNw : String := "NodeServices$Network"
def TNw : u_T := fun k => match k with
  | 0 => ("NodeServices$Network", "channels", "[LNodeServices$Channel;", true)
  | _ => ("NodeServices$Network", "sent", "I", false)
def tyNw : Nat → FieldType := fun k => match k with
  | 0 => .array (.object "NodeServices$Channel")
  | _ => .int
theorem nmNw : ∀ a, a < 2 → ∀ b, b < 2 → a ≠ b → (TNw a).2.1 ≠ (TNw b).2.1 := by decide +kernel
theorem tyNw_ok : ∀ k, k < 2 → parseFieldDescriptor (TNw k).2.2.1 = some (tyNw k) := by decide +kernel
theorem inNw : ∀ w ∈ u_ws RNw TNw 2, w ∈ wg := mem_ws [57, 59] (by decide +kernel) (by decide +kernel)
abbrev cNw_init : ByteArray := prog_6_method_1_code
def yNw_init : MethodName := ⟨RNw, "<init>", "()V"⟩
abbrev cNw_post : ByteArray := prog_6_method_3_code
def yNw_post : MethodName := ⟨RNw, "post", "(IILNodeServices$Message;)V"⟩
abbrev cNw_channel : ByteArray := prog_6_method_2_code
def yNw_channel : MethodName := ⟨RNw, "channel", "(II)LNodeServices$Channel;"⟩
def RCh : String := "NodeServices$Channel"
def TCh : u_T := fun k => match k with
  | 0 => ("NodeServices$Channel", "head", "LNodeServices$Message;", false)
  | 1 => ("NodeServices$Channel", "tail", "LNodeServices$Message;", false)
  | _ => ("NodeServices$Channel", "size", "I", false)
def tyCh : Nat → FieldType := fun k => match k with
  | 0 => .object "NodeServices$Message"
  | 1 => .object "NodeServices$Message"
  | _ => .int
theorem nmCh : ∀ a, a < 3 → ∀ b, b < 3 → a ≠ b → (TCh a).2.1 ≠ (TCh b).2.1 := by decide +kernel
theorem tyCh_ok : ∀ k, k < 3 → parseFieldDescriptor (TCh k).2.2.1 = some (tyCh k) := by decide +kernel
theorem inCh : ∀ w ∈ u_ws RCh TCh 3, w ∈ wg := mem_ws [47, 49, 51] (by decide +kernel) (by decide +kernel)
abbrev cCh_init : ByteArray := prog_2_method_1_code
def yCh_init : MethodName := ⟨RCh, "<init>", "()V"⟩
abbrev cCh_append : ByteArray := prog_2_method_2_code
def yCh_append : MethodName := ⟨RCh, "append", "(LNodeServices$Message;)V"⟩
abbrev cCh_takeHead : ByteArray := prog_2_method_3_code
def yCh_takeHead : MethodName := ⟨RCh, "takeHead", "()LNodeServices$Message;"⟩
def RMs : String := "NodeServices$Message"
def TMs : u_T := fun k => match k with
  | 0 => ("NodeServices$Message", "service", "I", true)
  | 1 => ("NodeServices$Message", "kind", "I", true)
  | 2 => ("NodeServices$Message", "value", "I", true)
  | _ => ("NodeServices$Message", "next", "LNodeServices$Message;", false)
def tyMs : Nat → FieldType := fun k => match k with
  | 0 => .int
  | 1 => .int
  | 2 => .int
  | _ => .object "NodeServices$Message"
theorem nmMs : ∀ a, a < 4 → ∀ b, b < 4 → a ≠ b → (TMs a).2.1 ≠ (TMs b).2.1 := by decide +kernel
theorem tyMs_ok : ∀ k, k < 4 → parseFieldDescriptor (TMs k).2.2.1 = some (tyMs k) := by decide +kernel
theorem inMs : ∀ w ∈ u_ws RMs TMs 4, w ∈ wg := mem_ws [401, 403, 405, 407] (by decide +kernel) (by decide +kernel)
abbrev cMs_init : ByteArray := prog_5_method_1_code
def yMs_init : MethodName := ⟨RMs, "<init>", "(III)V"⟩
def RRo : String := "NodeServices$NodeRow"
def TRo : u_T := fun k => match k with
  | 0 => ("NodeServices$NodeRow", "nodes", "[I", true)
  | _ => ("NodeServices$NodeRow", "size", "I", false)
def tyRo : Nat → FieldType := fun k => match k with
  | 0 => .array .int
  | _ => .int
theorem nmRo : ∀ a, a < 2 → ∀ b, b < 2 → a ≠ b → (TRo a).2.1 ≠ (TRo b).2.1 := by decide +kernel
theorem tyRo_ok : ∀ k, k < 2 → parseFieldDescriptor (TRo k).2.2.1 = some (tyRo k) := by decide +kernel
theorem inRo : ∀ w ∈ u_ws RRo TRo 2, w ∈ wg := mem_ws [127, 129] (by decide +kernel) (by decide +kernel)
abbrev cRo_init : ByteArray := prog_7_method_1_code
def yRo_init : MethodName := ⟨RRo, "<init>", "()V"⟩
abbrev cRo_append : ByteArray := prog_7_method_4_code
def yRo_append : MethodName := ⟨RRo, "append", "(I)V"⟩
abbrev cRo_isEmpty : ByteArray := prog_7_method_2_code
def yRo_isEmpty : MethodName := ⟨RRo, "isEmpty", "()Z"⟩
abbrev cRo_takeHead : ByteArray := prog_7_method_5_code
def yRo_takeHead : MethodName := ⟨RRo, "takeHead", "()I"⟩
abbrev cRo_contains : ByteArray := prog_7_method_3_code
def yRo_contains : MethodName := ⟨RRo, "contains", "(I)Z"⟩
def RSt : String := "NodeServices$StampLock"
def TSt : u_T := fun k => match k with
  | 0 => ("NodeServices$StampLock", "clock", "[I", true)
  | 1 => ("NodeServices$StampLock", "stamp", "[I", true)
  | 2 => ("NodeServices$StampLock", "replies", "[I", true)
  | 3 => ("NodeServices$StampLock", "putOff", "[Z", true)
  | 4 => ("NodeServices$Lock", "state", "[I", true)
  | 5 => ("NodeServices$Lock", "entries", "I", false)
  | 6 => ("NodeServices$Service", "network", "LNodeServices$Network;", true)
  | _ => ("NodeServices$Service", "number", "I", true)
def tySt : Nat → FieldType := fun k => match k with
  | 0 => .array .int
  | 1 => .array .int
  | 2 => .array .int
  | 3 => .array .boolean
  | 4 => .array .int
  | 5 => .int
  | 6 => .object "NodeServices$Network"
  | _ => .int
theorem nmSt : ∀ a, a < 8 → ∀ b, b < 8 → a ≠ b → (TSt a).2.1 ≠ (TSt b).2.1 := by decide +kernel
theorem tySt_ok : ∀ k, k < 8 → parseFieldDescriptor (TSt k).2.2.1 = some (tySt k) := by decide +kernel
theorem inSt : ∀ w ∈ u_ws RSt TSt 8, w ∈ wg := mem_ws [92, 94, 96, 98, 100, 102, 104, 106] (by decide +kernel) (by decide +kernel)
abbrev cSt_init : ByteArray := prog_9_method_1_code
def ySt_init : MethodName := ⟨RSt, "<init>", "(LNodeServices$Network;)V"⟩
abbrev cSt_ask : ByteArray := prog_9_method_3_code
def ySt_ask : MethodName := ⟨RSt, "ask", "(I)V"⟩
abbrev cSt_release : ByteArray := prog_9_method_4_code
def ySt_release : MethodName := ⟨RSt, "release", "(I)V"⟩
abbrev cSt_receive : ByteArray := prog_9_method_5_code
def ySt_receive : MethodName := ⟨RSt, "receive", "(IILNodeServices$Message;)V"⟩
abbrev cSt_takeRequest : ByteArray := prog_9_method_6_code
def ySt_takeRequest : MethodName := ⟨RSt, "takeRequest", "(III)V"⟩
abbrev cSt_isBefore : ByteArray := prog_9_method_7_code
def ySt_isBefore : MethodName := ⟨RSt, "isBefore", "(III)Z"⟩
abbrev cSt_takeReply : ByteArray := prog_9_method_8_code
def ySt_takeReply : MethodName := ⟨RSt, "takeReply", "(I)V"⟩
abbrev cSt_detail : ByteArray := prog_9_method_2_code
def ySt_detail : MethodName := ⟨RSt, "detail", "(I)I"⟩
def RTk : String := "NodeServices$TokenLock"
def TTk : u_T := fun k => match k with
  | 0 => ("NodeServices$TokenLock", "known", "[[I", true)
  | 1 => ("NodeServices$TokenLock", "done", "[I", true)
  | 2 => ("NodeServices$TokenLock", "row", "LNodeServices$NodeRow;", true)
  | 3 => ("NodeServices$TokenLock", "keeper", "I", false)
  | 4 => ("NodeServices$Lock", "state", "[I", true)
  | 5 => ("NodeServices$Lock", "entries", "I", false)
  | 6 => ("NodeServices$Service", "network", "LNodeServices$Network;", true)
  | _ => ("NodeServices$Service", "number", "I", true)
def tyTk : Nat → FieldType := fun k => match k with
  | 0 => .array (.array .int)
  | 1 => .array .int
  | 2 => .object "NodeServices$NodeRow"
  | 3 => .int
  | 4 => .array .int
  | 5 => .int
  | 6 => .object "NodeServices$Network"
  | _ => .int
theorem nmTk : ∀ a, a < 8 → ∀ b, b < 8 → a ≠ b → (TTk a).2.1 ≠ (TTk b).2.1 := by decide +kernel
theorem tyTk_ok : ∀ k, k < 8 → parseFieldDescriptor (TTk k).2.2.1 = some (tyTk k) := by decide +kernel
theorem inTk : ∀ w ∈ u_ws RTk TTk 8, w ∈ wg := mem_ws [136, 138, 140, 142, 144, 145, 146, 147] (by decide +kernel) (by decide +kernel)
abbrev cTk_init : ByteArray := prog_10_method_1_code
def yTk_init : MethodName := ⟨RTk, "<init>", "(LNodeServices$Network;)V"⟩
abbrev cTk_ask : ByteArray := prog_10_method_3_code
def yTk_ask : MethodName := ⟨RTk, "ask", "(I)V"⟩
abbrev cTk_release : ByteArray := prog_10_method_4_code
def yTk_release : MethodName := ⟨RTk, "release", "(I)V"⟩
abbrev cTk_isOwed : ByteArray := prog_10_method_7_code
def yTk_isOwed : MethodName := ⟨RTk, "isOwed", "(II)Z"⟩
abbrev cTk_passToken : ByteArray := prog_10_method_8_code
def yTk_passToken : MethodName := ⟨RTk, "passToken", "(II)V"⟩
abbrev cTk_receive : ByteArray := prog_10_method_5_code
def yTk_receive : MethodName := ⟨RTk, "receive", "(IILNodeServices$Message;)V"⟩
abbrev cTk_takeRequest : ByteArray := prog_10_method_6_code
def yTk_takeRequest : MethodName := ⟨RTk, "takeRequest", "(III)V"⟩
abbrev cTk_detail : ByteArray := prog_10_method_2_code
def yTk_detail : MethodName := ⟨RTk, "detail", "(I)I"⟩
def RTr : String := "NodeServices$TreeLock"
def TTr : u_T := fun k => match k with
  | 0 => ("NodeServices$TreeLock", "holder", "[I", true)
  | 1 => ("NodeServices$TreeLock", "queues", "[LNodeServices$NodeRow;", true)
  | 2 => ("NodeServices$TreeLock", "asked", "[Z", true)
  | 3 => ("NodeServices$Lock", "state", "[I", true)
  | 4 => ("NodeServices$Lock", "entries", "I", false)
  | 5 => ("NodeServices$Service", "network", "LNodeServices$Network;", true)
  | _ => ("NodeServices$Service", "number", "I", true)
def tyTr : Nat → FieldType := fun k => match k with
  | 0 => .array .int
  | 1 => .array (.object "NodeServices$NodeRow")
  | 2 => .array .boolean
  | 3 => .array .int
  | 4 => .int
  | 5 => .object "NodeServices$Network"
  | _ => .int
theorem nmTr : ∀ a, a < 7 → ∀ b, b < 7 → a ≠ b → (TTr a).2.1 ≠ (TTr b).2.1 := by decide +kernel
theorem tyTr_ok : ∀ k, k < 7 → parseFieldDescriptor (TTr k).2.2.1 = some (tyTr k) := by decide +kernel
theorem inTr : ∀ w ∈ u_ws RTr TTr 7, w ∈ wg := mem_ws [170, 172, 174, 176, 177, 178, 179] (by decide +kernel) (by decide +kernel)
abbrev cTr_init : ByteArray := prog_11_method_1_code
def yTr_init : MethodName := ⟨RTr, "<init>", "(LNodeServices$Network;)V"⟩
abbrev cTr_ask : ByteArray := prog_11_method_3_code
def yTr_ask : MethodName := ⟨RTr, "ask", "(I)V"⟩
abbrev cTr_goOn : ByteArray := prog_11_method_6_code
def yTr_goOn : MethodName := ⟨RTr, "goOn", "(I)V"⟩
abbrev cTr_serve : ByteArray := prog_11_method_7_code
def yTr_serve : MethodName := ⟨RTr, "serve", "(II)V"⟩
abbrev cTr_release : ByteArray := prog_11_method_4_code
def yTr_release : MethodName := ⟨RTr, "release", "(I)V"⟩
abbrev cTr_receive : ByteArray := prog_11_method_5_code
def yTr_receive : MethodName := ⟨RTr, "receive", "(IILNodeServices$Message;)V"⟩
abbrev cTr_detail : ByteArray := prog_11_method_2_code
def yTr_detail : MethodName := ⟨RTr, "detail", "(I)I"⟩
def REl : String := "NodeServices$Election"
def TEl : u_T := fun k => match k with
  | 0 => ("NodeServices$Election", "takesPart", "[Z", true)
  | 1 => ("NodeServices$Election", "ids", "[I", true)
  | 2 => ("NodeServices$Election", "leader", "[I", true)
  | 3 => ("NodeServices$Service", "network", "LNodeServices$Network;", true)
  | _ => ("NodeServices$Service", "number", "I", true)
def tyEl : Nat → FieldType := fun k => match k with
  | 0 => .array .boolean
  | 1 => .array .int
  | 2 => .array .int
  | 3 => .object "NodeServices$Network"
  | _ => .int
theorem nmEl : ∀ a, a < 5 → ∀ b, b < 5 → a ≠ b → (TEl a).2.1 ≠ (TEl b).2.1 := by decide +kernel
theorem tyEl_ok : ∀ k, k < 5 → parseFieldDescriptor (TEl k).2.2.1 = some (tyEl k) := by decide +kernel
theorem inEl : ∀ w ∈ u_ws REl TEl 5, w ∈ wg := mem_ws [194, 196, 198, 200, 201] (by decide +kernel) (by decide +kernel)
abbrev cEl_init : ByteArray := prog_3_method_1_code
def yEl_init : MethodName := ⟨REl, "<init>", "(LNodeServices$Network;II)V"⟩
abbrev cEl_stand : ByteArray := prog_3_method_4_code
def yEl_stand : MethodName := ⟨REl, "stand", "(I)V"⟩
abbrev cEl_sendOn : ByteArray := prog_3_method_8_code
def yEl_sendOn : MethodName := ⟨REl, "sendOn", "(III)V"⟩
abbrev cEl_receive : ByteArray := prog_3_method_5_code
def yEl_receive : MethodName := ⟨REl, "receive", "(IILNodeServices$Message;)V"⟩
abbrev cEl_takeElect : ByteArray := prog_3_method_6_code
def yEl_takeElect : MethodName := ⟨REl, "takeElect", "(II)V"⟩
abbrev cEl_takeLeader : ByteArray := prog_3_method_7_code
def yEl_takeLeader : MethodName := ⟨REl, "takeLeader", "(II)V"⟩
abbrev cEl_condition : ByteArray := prog_3_method_2_code
def yEl_condition : MethodName := ⟨REl, "condition", "(I)I"⟩
abbrev cEl_detail : ByteArray := prog_3_method_3_code
def yEl_detail : MethodName := ⟨REl, "detail", "(I)I"⟩
def RWk : String := "NodeServices$Work"
def TWk : u_T := fun k => match k with
  | 0 => ("NodeServices$Work", "busy", "[Z", true)
  | 1 => ("NodeServices$Work", "root", "I", false)
  | 2 => ("NodeServices$Work", "ends", "I", false)
  | 3 => ("NodeServices$Work", "parent", "[I", true)
  | 4 => ("NodeServices$Work", "unanswered", "[I", true)
  | 5 => ("NodeServices$Service", "network", "LNodeServices$Network;", true)
  | _ => ("NodeServices$Service", "number", "I", true)
def tyWk : Nat → FieldType := fun k => match k with
  | 0 => .array .boolean
  | 1 => .int
  | 2 => .int
  | 3 => .array .int
  | 4 => .array .int
  | 5 => .object "NodeServices$Network"
  | _ => .int
theorem nmWk : ∀ a, a < 7 → ∀ b, b < 7 → a ≠ b → (TWk a).2.1 ≠ (TWk b).2.1 := by decide +kernel
theorem tyWk_ok : ∀ k, k < 7 → parseFieldDescriptor (TWk k).2.2.1 = some (tyWk k) := by decide +kernel
theorem inWk : ∀ w ∈ u_ws RWk TWk 7, w ∈ wg := mem_ws [217, 219, 221, 223, 225, 227, 228] (by decide +kernel) (by decide +kernel)
abbrev cWk_init : ByteArray := prog_12_method_1_code
def yWk_init : MethodName := ⟨RWk, "<init>", "(LNodeServices$Network;)V"⟩
abbrev cWk_isOver : ByteArray := prog_12_method_4_code
def yWk_isOver : MethodName := ⟨RWk, "isOver", "()Z"⟩
abbrev cWk_isEngaged : ByteArray := prog_12_method_11_code
def yWk_isEngaged : MethodName := ⟨RWk, "isEngaged", "(I)Z"⟩
abbrev cWk_plant : ByteArray := prog_12_method_6_code
def yWk_plant : MethodName := ⟨RWk, "plant", "(I)V"⟩
abbrev cWk_hasMostUnanswered : ByteArray := prog_12_method_5_code
def yWk_hasMostUnanswered : MethodName := ⟨RWk, "hasMostUnanswered", "(I)Z"⟩
abbrev cWk_share : ByteArray := prog_12_method_7_code
def yWk_share : MethodName := ⟨RWk, "share", "(II)V"⟩
abbrev cWk_pause : ByteArray := prog_12_method_8_code
def yWk_pause : MethodName := ⟨RWk, "pause", "(I)V"⟩
abbrev cWk_settle : ByteArray := prog_12_method_12_code
def yWk_settle : MethodName := ⟨RWk, "settle", "(I)V"⟩
abbrev cWk_receive : ByteArray := prog_12_method_9_code
def yWk_receive : MethodName := ⟨RWk, "receive", "(IILNodeServices$Message;)V"⟩
abbrev cWk_takeWork : ByteArray := prog_12_method_10_code
def yWk_takeWork : MethodName := ⟨RWk, "takeWork", "(II)V"⟩
abbrev cWk_condition : ByteArray := prog_12_method_2_code
def yWk_condition : MethodName := ⟨RWk, "condition", "(I)I"⟩
abbrev cWk_detail : ByteArray := prog_12_method_3_code
def yWk_detail : MethodName := ⟨RWk, "detail", "(I)I"⟩
def RSv : String := "NodeServices$Service"
abbrev cSv_init : ByteArray := prog_8_method_1_code
def ySv_init : MethodName := ⟨RSv, "<init>", "(LNodeServices$Network;I)V"⟩
abbrev cSv_sendToAllOthers : ByteArray := prog_8_method_6_code
def ySv_sendToAllOthers : MethodName := ⟨RSv, "sendToAllOthers", "(III)V"⟩
abbrev cSv_send : ByteArray := prog_8_method_5_code
def ySv_send : MethodName := ⟨RSv, "send", "(IIII)V"⟩
def RLk : String := "NodeServices$Lock"
abbrev cLk_init : ByteArray := prog_4_method_1_code
def yLk_init : MethodName := ⟨RLk, "<init>", "(LNodeServices$Network;I)V"⟩
abbrev cLk_enter : ByteArray := prog_4_method_5_code
def yLk_enter : MethodName := ⟨RLk, "enter", "(I)V"⟩
abbrev cLk_condition : ByteArray := prog_4_method_4_code
def yLk_condition : MethodName := ⟨RLk, "condition", "(I)I"⟩
def RLw : String := "NodeServicesLaw"
abbrev cLw_cell : ByteArray := method_2_code
def yLw_cell : MethodName := ⟨RLw, "cell", "([II)I"⟩
abbrev cLw_want : ByteArray := method_3_code
def yLw_want : MethodName := ⟨RLw, "want", "(LNodeServices;II)I"⟩
abbrev cLw_leave : ByteArray := method_4_code
def yLw_leave : MethodName := ⟨RLw, "leave", "(LNodeServices;II)I"⟩
abbrev cLw_start : ByteArray := method_5_code
def yLw_start : MethodName := ⟨RLw, "start", "(LNodeServices;I)I"⟩
abbrev cLw_begin : ByteArray := method_6_code
def yLw_begin : MethodName := ⟨RLw, "begin", "(LNodeServices;I)I"⟩
abbrev cLw_spread : ByteArray := method_7_code
def yLw_spread : MethodName := ⟨RLw, "spread", "(LNodeServices;II)I"⟩
abbrev cLw_rest : ByteArray := method_8_code
def yLw_rest : MethodName := ⟨RLw, "rest", "(LNodeServices;I)I"⟩
abbrev cLw_deliver : ByteArray := method_9_code
def yLw_deliver : MethodName := ⟨RLw, "deliver", "(LNodeServices;II[J)I"⟩
abbrev cLw_first : ByteArray := method_10_code
def yLw_first : MethodName := ⟨RLw, "first", "(LNodeServices;II[J)I"⟩
abbrev cLw_waiting : ByteArray := method_11_code
def yLw_waiting : MethodName := ⟨RLw, "waiting", "(LNodeServices;II[J)I"⟩
abbrev cLw_about : ByteArray := method_12_code
def yLw_about : MethodName := ⟨RLw, "about", "(LNodeServices;II[J)I"⟩
abbrev cLw_more : ByteArray := method_13_code
def yLw_more : MethodName := ⟨RLw, "more", "(LNodeServices;II[J)I"⟩
abbrev clA : List vw_C := [(RMo, TMo, 33), (RNs, TNs, 5), (RNw, TNw, 2), (RCh, TCh, 3), (RMs, TMs, 4), (RRo, TRo, 2), (RSt, TSt, 8), (RTk, TTk, 8), (RTr, TTr, 7), (REl, TEl, 5), (RWk, TWk, 7)]
end
section
theorem wm_13 : Cond.initialized "NodeServicesModel" ∈ wg := mem_wg (List.mem_append_right _ (List.mem_of_getElem? (i := 13) (by decide +kernel))) (by decide +kernel)
theorem wm_736 : Cond.fieldLink "NodeServicesModel" 7 "NodeServicesModel" "head" "[I" ∈ wg := mem_wg (List.mem_append_right _ (List.mem_of_getElem? (i := 736) (by decide +kernel))) (by decide +kernel)
theorem wm_737 : Cond.fieldLink "NodeServicesModel" 13 "NodeServicesModel" "tail" "[I" ∈ wg := mem_wg (List.mem_append_right _ (List.mem_of_getElem? (i := 737) (by decide +kernel))) (by decide +kernel)
theorem wm_738 : Cond.fieldLink "NodeServicesModel" 16 "NodeServicesModel" "many" "[I" ∈ wg := mem_wg (List.mem_append_right _ (List.mem_of_getElem? (i := 738) (by decide +kernel))) (by decide +kernel)
theorem wm_739 : Cond.fieldLink "NodeServicesModel" 19 "NodeServicesModel" "sort" "[I" ∈ wg := mem_wg (List.mem_append_right _ (List.mem_of_getElem? (i := 739) (by decide +kernel))) (by decide +kernel)
theorem wm_740 : Cond.fieldLink "NodeServicesModel" 22 "NodeServicesModel" "amount" "[I" ∈ wg := mem_wg (List.mem_append_right _ (List.mem_of_getElem? (i := 740) (by decide +kernel))) (by decide +kernel)
theorem wm_741 : Cond.fieldLink "NodeServicesModel" 25 "NodeServicesModel" "behind" "[I" ∈ wg := mem_wg (List.mem_append_right _ (List.mem_of_getElem? (i := 741) (by decide +kernel))) (by decide +kernel)
theorem wm_742 : Cond.fieldLink "NodeServicesModel" 93 "NodeServicesModel" "used" "I" ∈ wg := mem_wg (List.mem_append_right _ (List.mem_of_getElem? (i := 742) (by decide +kernel))) (by decide +kernel)
theorem wm_743 : Cond.fieldLink "NodeServicesModel" 28 "NodeServicesModel" "free" "I" ∈ wg := mem_wg (List.mem_append_right _ (List.mem_of_getElem? (i := 743) (by decide +kernel))) (by decide +kernel)
theorem wm_744 : Cond.fieldLink "NodeServicesModel" 32 "NodeServicesModel" "state" "[I" ∈ wg := mem_wg (List.mem_append_right _ (List.mem_of_getElem? (i := 744) (by decide +kernel))) (by decide +kernel)
theorem wm_745 : Cond.fieldLink "NodeServicesModel" 128 "NodeServicesModel" "cameIn" "I" ∈ wg := mem_wg (List.mem_append_right _ (List.mem_of_getElem? (i := 745) (by decide +kernel))) (by decide +kernel)
theorem wm_746 : Cond.fieldLink "NodeServicesModel" 96 "NodeServicesModel" "sent" "I" ∈ wg := mem_wg (List.mem_append_right _ (List.mem_of_getElem? (i := 746) (by decide +kernel))) (by decide +kernel)
theorem wm_747 : Cond.fieldLink "NodeServicesModel" 35 "NodeServicesModel" "clock" "[I" ∈ wg := mem_wg (List.mem_append_right _ (List.mem_of_getElem? (i := 747) (by decide +kernel))) (by decide +kernel)
theorem wm_748 : Cond.fieldLink "NodeServicesModel" 38 "NodeServicesModel" "stamp" "[I" ∈ wg := mem_wg (List.mem_append_right _ (List.mem_of_getElem? (i := 748) (by decide +kernel))) (by decide +kernel)
theorem wm_749 : Cond.fieldLink "NodeServicesModel" 41 "NodeServicesModel" "replies" "[I" ∈ wg := mem_wg (List.mem_append_right _ (List.mem_of_getElem? (i := 749) (by decide +kernel))) (by decide +kernel)
theorem wm_750 : Cond.fieldLink "NodeServicesModel" 44 "NodeServicesModel" "putOff" "[I" ∈ wg := mem_wg (List.mem_append_right _ (List.mem_of_getElem? (i := 750) (by decide +kernel))) (by decide +kernel)
theorem wm_751 : Cond.fieldLink "NodeServicesModel" 47 "NodeServicesModel" "known" "[I" ∈ wg := mem_wg (List.mem_append_right _ (List.mem_of_getElem? (i := 751) (by decide +kernel))) (by decide +kernel)
theorem wm_752 : Cond.fieldLink "NodeServicesModel" 50 "NodeServicesModel" "tokenDone" "[I" ∈ wg := mem_wg (List.mem_append_right _ (List.mem_of_getElem? (i := 752) (by decide +kernel))) (by decide +kernel)
theorem wm_753 : Cond.fieldLink "NodeServicesModel" 134 "NodeServicesModel" "holder" "I" ∈ wg := mem_wg (List.mem_append_right _ (List.mem_of_getElem? (i := 753) (by decide +kernel))) (by decide +kernel)
theorem wm_754 : Cond.fieldLink "NodeServicesModel" 157 "NodeServicesModel" "rowSize" "I" ∈ wg := mem_wg (List.mem_append_right _ (List.mem_of_getElem? (i := 754) (by decide +kernel))) (by decide +kernel)
theorem wm_755 : Cond.fieldLink "NodeServicesModel" 53 "NodeServicesModel" "row" "[I" ∈ wg := mem_wg (List.mem_append_right _ (List.mem_of_getElem? (i := 755) (by decide +kernel))) (by decide +kernel)
theorem wm_756 : Cond.fieldLink "NodeServicesModel" 56 "NodeServicesModel" "towards" "[I" ∈ wg := mem_wg (List.mem_append_right _ (List.mem_of_getElem? (i := 756) (by decide +kernel))) (by decide +kernel)
theorem wm_757 : Cond.fieldLink "NodeServicesModel" 59 "NodeServicesModel" "queueSize" "[I" ∈ wg := mem_wg (List.mem_append_right _ (List.mem_of_getElem? (i := 757) (by decide +kernel))) (by decide +kernel)
theorem wm_758 : Cond.fieldLink "NodeServicesModel" 62 "NodeServicesModel" "queue" "[I" ∈ wg := mem_wg (List.mem_append_right _ (List.mem_of_getElem? (i := 758) (by decide +kernel))) (by decide +kernel)
theorem wm_759 : Cond.fieldLink "NodeServicesModel" 65 "NodeServicesModel" "asked" "[Z" ∈ wg := mem_wg (List.mem_append_right _ (List.mem_of_getElem? (i := 759) (by decide +kernel))) (by decide +kernel)
theorem wm_760 : Cond.fieldLink "NodeServicesModel" 69 "NodeServicesModel" "id" "[I" ∈ wg := mem_wg (List.mem_append_right _ (List.mem_of_getElem? (i := 760) (by decide +kernel))) (by decide +kernel)
theorem wm_761 : Cond.fieldLink "NodeServicesModel" 72 "NodeServicesModel" "leader" "[I" ∈ wg := mem_wg (List.mem_append_right _ (List.mem_of_getElem? (i := 761) (by decide +kernel))) (by decide +kernel)
theorem wm_762 : Cond.fieldLink "NodeServicesModel" 75 "NodeServicesModel" "part" "[Z" ∈ wg := mem_wg (List.mem_append_right _ (List.mem_of_getElem? (i := 762) (by decide +kernel))) (by decide +kernel)
theorem wm_763 : Cond.fieldLink "NodeServicesModel" 78 "NodeServicesModel" "root" "I" ∈ wg := mem_wg (List.mem_append_right _ (List.mem_of_getElem? (i := 763) (by decide +kernel))) (by decide +kernel)
theorem wm_764 : Cond.fieldLink "NodeServicesModel" 164 "NodeServicesModel" "ends" "I" ∈ wg := mem_wg (List.mem_append_right _ (List.mem_of_getElem? (i := 764) (by decide +kernel))) (by decide +kernel)
theorem wm_765 : Cond.fieldLink "NodeServicesModel" 81 "NodeServicesModel" "busy" "[Z" ∈ wg := mem_wg (List.mem_append_right _ (List.mem_of_getElem? (i := 765) (by decide +kernel))) (by decide +kernel)
theorem wm_766 : Cond.fieldLink "NodeServicesModel" 84 "NodeServicesModel" "parent" "[I" ∈ wg := mem_wg (List.mem_append_right _ (List.mem_of_getElem? (i := 766) (by decide +kernel))) (by decide +kernel)
theorem wm_767 : Cond.fieldLink "NodeServicesModel" 87 "NodeServicesModel" "open" "[I" ∈ wg := mem_wg (List.mem_append_right _ (List.mem_of_getElem? (i := 767) (by decide +kernel))) (by decide +kernel)
theorem wm_768 : Cond.fieldLink "NodeServicesModel" 90 "NodeServicesModel" "thrown" "I" ∈ wg := mem_wg (List.mem_append_right _ (List.mem_of_getElem? (i := 768) (by decide +kernel))) (by decide +kernel)
theorem wm_844 : Cond.methodLink "NodeServicesModel" 107 yMo_isChannel ∈ wg := mem_wg (List.mem_append_right _ (List.mem_of_getElem? (i := 844) (by decide +kernel))) (by decide +kernel)
theorem wm_845 : Cond.static yMo_isChannel ∈ wg := mem_wg (List.mem_append_right _ (List.mem_of_getElem? (i := 845) (by decide +kernel))) (by decide +kernel)
theorem wm_846 : Cond.code yMo_isChannel cMo_isChannel 2 (some .boolean) ∈ wg := mem_wg (List.mem_append_right _ (List.mem_of_getElem? (i := 846) (by decide +kernel))) (by decide +kernel)
theorem wm_847 : Cond.methodLink "NodeServicesModel" 103 yMo_isNode ∈ wg := mem_wg (List.mem_append_right _ (List.mem_of_getElem? (i := 847) (by decide +kernel))) (by decide +kernel)
theorem wm_848 : Cond.static yMo_isNode ∈ wg := mem_wg (List.mem_append_right _ (List.mem_of_getElem? (i := 848) (by decide +kernel))) (by decide +kernel)
theorem wm_849 : Cond.code yMo_isNode cMo_isNode 1 (some .boolean) ∈ wg := mem_wg (List.mem_append_right _ (List.mem_of_getElem? (i := 849) (by decide +kernel))) (by decide +kernel)
theorem wm_850 : Cond.methodLink "NodeServicesModel" 111 yMo_stampArrives ∈ wg := mem_wg (List.mem_append_right _ (List.mem_of_getElem? (i := 850) (by decide +kernel))) (by decide +kernel)
theorem wm_852 : Cond.instanceMethod yMo_stampArrives ∈ wg := mem_wg (List.mem_append_right _ (List.mem_of_getElem? (i := 852) (by decide +kernel))) (by decide +kernel)
theorem wm_853 : Cond.code yMo_stampArrives cMo_stampArrives 6 none ∈ wg := mem_wg (List.mem_append_right _ (List.mem_of_getElem? (i := 853) (by decide +kernel))) (by decide +kernel)
theorem wm_854 : Cond.methodLink "NodeServicesModel" 137 yMo_comeIn ∈ wg := mem_wg (List.mem_append_right _ (List.mem_of_getElem? (i := 854) (by decide +kernel))) (by decide +kernel)
theorem wm_856 : Cond.instanceMethod yMo_comeIn ∈ wg := mem_wg (List.mem_append_right _ (List.mem_of_getElem? (i := 856) (by decide +kernel))) (by decide +kernel)
theorem wm_857 : Cond.code yMo_comeIn cMo_comeIn 3 none ∈ wg := mem_wg (List.mem_append_right _ (List.mem_of_getElem? (i := 857) (by decide +kernel))) (by decide +kernel)
theorem wm_858 : Cond.methodLink "NodeServicesModel" 99 yMo_send ∈ wg := mem_wg (List.mem_append_right _ (List.mem_of_getElem? (i := 858) (by decide +kernel))) (by decide +kernel)
theorem wm_860 : Cond.instanceMethod yMo_send ∈ wg := mem_wg (List.mem_append_right _ (List.mem_of_getElem? (i := 860) (by decide +kernel))) (by decide +kernel)
theorem wm_861 : Cond.code yMo_send cMo_send 8 none ∈ wg := mem_wg (List.mem_append_right _ (List.mem_of_getElem? (i := 861) (by decide +kernel))) (by decide +kernel)
theorem wm_862 : Cond.methodLink "NodeServicesModel" 115 yMo_tokenArrives ∈ wg := mem_wg (List.mem_append_right _ (List.mem_of_getElem? (i := 862) (by decide +kernel))) (by decide +kernel)
theorem wm_864 : Cond.instanceMethod yMo_tokenArrives ∈ wg := mem_wg (List.mem_append_right _ (List.mem_of_getElem? (i := 864) (by decide +kernel))) (by decide +kernel)
theorem wm_865 : Cond.code yMo_tokenArrives cMo_tokenArrives 5 none ∈ wg := mem_wg (List.mem_append_right _ (List.mem_of_getElem? (i := 865) (by decide +kernel))) (by decide +kernel)
theorem wm_866 : Cond.methodLink "NodeServicesModel" 154 yMo_isDue ∈ wg := mem_wg (List.mem_append_right _ (List.mem_of_getElem? (i := 866) (by decide +kernel))) (by decide +kernel)
theorem wm_868 : Cond.instanceMethod yMo_isDue ∈ wg := mem_wg (List.mem_append_right _ (List.mem_of_getElem? (i := 868) (by decide +kernel))) (by decide +kernel)
theorem wm_869 : Cond.code yMo_isDue cMo_isDue 3 (some .boolean) ∈ wg := mem_wg (List.mem_append_right _ (List.mem_of_getElem? (i := 869) (by decide +kernel))) (by decide +kernel)
theorem wm_870 : Cond.methodLink "NodeServicesModel" 118 yMo_treeArrives ∈ wg := mem_wg (List.mem_append_right _ (List.mem_of_getElem? (i := 870) (by decide +kernel))) (by decide +kernel)
theorem wm_872 : Cond.instanceMethod yMo_treeArrives ∈ wg := mem_wg (List.mem_append_right _ (List.mem_of_getElem? (i := 872) (by decide +kernel))) (by decide +kernel)
theorem wm_873 : Cond.code yMo_treeArrives cMo_treeArrives 4 none ∈ wg := mem_wg (List.mem_append_right _ (List.mem_of_getElem? (i := 873) (by decide +kernel))) (by decide +kernel)
theorem wm_874 : Cond.methodLink "NodeServicesModel" 144 yMo_enqueue ∈ wg := mem_wg (List.mem_append_right _ (List.mem_of_getElem? (i := 874) (by decide +kernel))) (by decide +kernel)
theorem wm_876 : Cond.instanceMethod yMo_enqueue ∈ wg := mem_wg (List.mem_append_right _ (List.mem_of_getElem? (i := 876) (by decide +kernel))) (by decide +kernel)
theorem wm_877 : Cond.code yMo_enqueue cMo_enqueue 3 none ∈ wg := mem_wg (List.mem_append_right _ (List.mem_of_getElem? (i := 877) (by decide +kernel))) (by decide +kernel)
theorem wm_878 : Cond.methodLink "NodeServicesModel" 147 yMo_goOn ∈ wg := mem_wg (List.mem_append_right _ (List.mem_of_getElem? (i := 878) (by decide +kernel))) (by decide +kernel)
theorem wm_880 : Cond.instanceMethod yMo_goOn ∈ wg := mem_wg (List.mem_append_right _ (List.mem_of_getElem? (i := 880) (by decide +kernel))) (by decide +kernel)
theorem wm_881 : Cond.code yMo_goOn cMo_goOn 3 none ∈ wg := mem_wg (List.mem_append_right _ (List.mem_of_getElem? (i := 881) (by decide +kernel))) (by decide +kernel)
theorem wm_882 : Cond.methodLink "NodeServicesModel" 160 yMo_dequeue ∈ wg := mem_wg (List.mem_append_right _ (List.mem_of_getElem? (i := 882) (by decide +kernel))) (by decide +kernel)
theorem wm_884 : Cond.instanceMethod yMo_dequeue ∈ wg := mem_wg (List.mem_append_right _ (List.mem_of_getElem? (i := 884) (by decide +kernel))) (by decide +kernel)
theorem wm_885 : Cond.code yMo_dequeue cMo_dequeue 4 (some .int) ∈ wg := mem_wg (List.mem_append_right _ (List.mem_of_getElem? (i := 885) (by decide +kernel))) (by decide +kernel)
theorem wm_886 : Cond.methodLink "NodeServicesModel" 122 yMo_ringArrives ∈ wg := mem_wg (List.mem_append_right _ (List.mem_of_getElem? (i := 886) (by decide +kernel))) (by decide +kernel)
theorem wm_888 : Cond.instanceMethod yMo_ringArrives ∈ wg := mem_wg (List.mem_append_right _ (List.mem_of_getElem? (i := 888) (by decide +kernel))) (by decide +kernel)
theorem wm_889 : Cond.code yMo_ringArrives cMo_ringArrives 5 none ∈ wg := mem_wg (List.mem_append_right _ (List.mem_of_getElem? (i := 889) (by decide +kernel))) (by decide +kernel)
theorem wm_890 : Cond.methodLink "NodeServicesModel" 125 yMo_workArrives ∈ wg := mem_wg (List.mem_append_right _ (List.mem_of_getElem? (i := 890) (by decide +kernel))) (by decide +kernel)
theorem wm_892 : Cond.instanceMethod yMo_workArrives ∈ wg := mem_wg (List.mem_append_right _ (List.mem_of_getElem? (i := 892) (by decide +kernel))) (by decide +kernel)
theorem wm_893 : Cond.code yMo_workArrives cMo_workArrives 4 none ∈ wg := mem_wg (List.mem_append_right _ (List.mem_of_getElem? (i := 893) (by decide +kernel))) (by decide +kernel)
theorem wm_894 : Cond.methodLink "NodeServicesModel" 167 yMo_settle ∈ wg := mem_wg (List.mem_append_right _ (List.mem_of_getElem? (i := 894) (by decide +kernel))) (by decide +kernel)
theorem wm_896 : Cond.instanceMethod yMo_settle ∈ wg := mem_wg (List.mem_append_right _ (List.mem_of_getElem? (i := 896) (by decide +kernel))) (by decide +kernel)
theorem wm_897 : Cond.code yMo_settle cMo_settle 3 none ∈ wg := mem_wg (List.mem_append_right _ (List.mem_of_getElem? (i := 897) (by decide +kernel))) (by decide +kernel)
theorem wm_910 : Cond.methodLink "NodeServicesModel" 131 yMo_isLock ∈ wg := mem_wg (List.mem_append_right _ (List.mem_of_getElem? (i := 910) (by decide +kernel))) (by decide +kernel)
theorem wm_911 : Cond.static yMo_isLock ∈ wg := mem_wg (List.mem_append_right _ (List.mem_of_getElem? (i := 911) (by decide +kernel))) (by decide +kernel)
theorem wm_912 : Cond.code yMo_isLock cMo_isLock 2 (some .boolean) ∈ wg := mem_wg (List.mem_append_right _ (List.mem_of_getElem? (i := 912) (by decide +kernel))) (by decide +kernel)
theorem wm_913 : Cond.methodLink "NodeServicesModel" 141 yMo_sendAll ∈ wg := mem_wg (List.mem_append_right _ (List.mem_of_getElem? (i := 913) (by decide +kernel))) (by decide +kernel)
theorem wm_915 : Cond.instanceMethod yMo_sendAll ∈ wg := mem_wg (List.mem_append_right _ (List.mem_of_getElem? (i := 915) (by decide +kernel))) (by decide +kernel)
theorem wm_916 : Cond.code yMo_sendAll cMo_sendAll 6 none ∈ wg := mem_wg (List.mem_append_right _ (List.mem_of_getElem? (i := 916) (by decide +kernel))) (by decide +kernel)
theorem wm_921 : Cond.methodLink "NodeServicesModel" 151 yMo_passToken ∈ wg := mem_wg (List.mem_append_right _ (List.mem_of_getElem? (i := 921) (by decide +kernel))) (by decide +kernel)
theorem wm_923 : Cond.instanceMethod yMo_passToken ∈ wg := mem_wg (List.mem_append_right _ (List.mem_of_getElem? (i := 923) (by decide +kernel))) (by decide +kernel)
theorem wm_924 : Cond.code yMo_passToken cMo_passToken 5 none ∈ wg := mem_wg (List.mem_append_right _ (List.mem_of_getElem? (i := 924) (by decide +kernel))) (by decide +kernel)
theorem wm_945 : Cond.methodLink "NodeServicesModel" 170 yMo_isService ∈ wg := mem_wg (List.mem_append_right _ (List.mem_of_getElem? (i := 945) (by decide +kernel))) (by decide +kernel)
theorem wm_946 : Cond.static yMo_isService ∈ wg := mem_wg (List.mem_append_right _ (List.mem_of_getElem? (i := 946) (by decide +kernel))) (by decide +kernel)
theorem wm_947 : Cond.code yMo_isService cMo_isService 2 (some .boolean) ∈ wg := mem_wg (List.mem_append_right _ (List.mem_of_getElem? (i := 947) (by decide +kernel))) (by decide +kernel)
theorem wp_16 : Cond.selects "NodeServicesModel" yMo_stampArrives yMo_stampArrives ∈ wg := mem_wg (List.mem_append_left _ (List.mem_of_getElem? (i := 16) (by decide +kernel))) (by decide +kernel)
theorem wp_17 : Cond.selects "NodeServicesModel" yMo_comeIn yMo_comeIn ∈ wg := mem_wg (List.mem_append_left _ (List.mem_of_getElem? (i := 17) (by decide +kernel))) (by decide +kernel)
theorem wp_18 : Cond.selects "NodeServicesModel" yMo_send yMo_send ∈ wg := mem_wg (List.mem_append_left _ (List.mem_of_getElem? (i := 18) (by decide +kernel))) (by decide +kernel)
theorem wp_19 : Cond.selects "NodeServicesModel" yMo_tokenArrives yMo_tokenArrives ∈ wg := mem_wg (List.mem_append_left _ (List.mem_of_getElem? (i := 19) (by decide +kernel))) (by decide +kernel)
theorem wp_20 : Cond.selects "NodeServicesModel" yMo_isDue yMo_isDue ∈ wg := mem_wg (List.mem_append_left _ (List.mem_of_getElem? (i := 20) (by decide +kernel))) (by decide +kernel)
theorem wp_21 : Cond.selects "NodeServicesModel" yMo_treeArrives yMo_treeArrives ∈ wg := mem_wg (List.mem_append_left _ (List.mem_of_getElem? (i := 21) (by decide +kernel))) (by decide +kernel)
theorem wp_22 : Cond.selects "NodeServicesModel" yMo_enqueue yMo_enqueue ∈ wg := mem_wg (List.mem_append_left _ (List.mem_of_getElem? (i := 22) (by decide +kernel))) (by decide +kernel)
theorem wp_23 : Cond.selects "NodeServicesModel" yMo_goOn yMo_goOn ∈ wg := mem_wg (List.mem_append_left _ (List.mem_of_getElem? (i := 23) (by decide +kernel))) (by decide +kernel)
theorem wp_24 : Cond.selects "NodeServicesModel" yMo_dequeue yMo_dequeue ∈ wg := mem_wg (List.mem_append_left _ (List.mem_of_getElem? (i := 24) (by decide +kernel))) (by decide +kernel)
theorem wp_25 : Cond.selects "NodeServicesModel" yMo_ringArrives yMo_ringArrives ∈ wg := mem_wg (List.mem_append_left _ (List.mem_of_getElem? (i := 25) (by decide +kernel))) (by decide +kernel)
theorem wp_26 : Cond.selects "NodeServicesModel" yMo_workArrives yMo_workArrives ∈ wg := mem_wg (List.mem_append_left _ (List.mem_of_getElem? (i := 26) (by decide +kernel))) (by decide +kernel)
theorem wp_27 : Cond.selects "NodeServicesModel" yMo_settle yMo_settle ∈ wg := mem_wg (List.mem_append_left _ (List.mem_of_getElem? (i := 27) (by decide +kernel))) (by decide +kernel)
theorem wp_28 : Cond.selects "NodeServicesModel" yMo_sendAll yMo_sendAll ∈ wg := mem_wg (List.mem_append_left _ (List.mem_of_getElem? (i := 28) (by decide +kernel))) (by decide +kernel)
theorem wp_29 : Cond.selects "NodeServicesModel" yMo_passToken yMo_passToken ∈ wg := mem_wg (List.mem_append_left _ (List.mem_of_getElem? (i := 29) (by decide +kernel))) (by decide +kernel)
end
section
theorem dMo_thrown_0 : decode cMo_thrown 0 = .ok (.aload_n 0, 1) := by decide +kernel
theorem dMo_thrown_1 : decode cMo_thrown 1 = .ok (.getfield 90, 3) := by decide +kernel
theorem dMo_thrown_4 : decode cMo_thrown 4 = .ok (.ireturn, 1) := by decide +kernel
theorem dMo_isNode_0 : decode cMo_isNode 0 = .ok (.iload_n 0, 1) := by decide +kernel
theorem dMo_isNode_1 : decode cMo_isNode 1 = .ok (.ifCond .lt 12, 3) := by decide +kernel
theorem dMo_isNode_4 : decode cMo_isNode 4 = .ok (.iload_n 0, 1) := by decide +kernel
theorem dMo_isNode_5 : decode cMo_isNode 5 = .ok (.iconst 4, 1) := by decide +kernel
theorem dMo_isNode_6 : decode cMo_isNode 6 = .ok (.if_icmp .ge 7, 3) := by decide +kernel
theorem dMo_isNode_9 : decode cMo_isNode 9 = .ok (.iconst 1, 1) := by decide +kernel
theorem dMo_isNode_10 : decode cMo_isNode 10 = .ok (.goto 4, 3) := by decide +kernel
theorem dMo_isNode_13 : decode cMo_isNode 13 = .ok (.iconst 0, 1) := by decide +kernel
theorem dMo_isNode_14 : decode cMo_isNode 14 = .ok (.ireturn, 1) := by decide +kernel
theorem dMo_isChannel_0 : decode cMo_isChannel 0 = .ok (.iload_n 0, 1) := by decide +kernel
theorem dMo_isChannel_1 : decode cMo_isChannel 1 = .ok (.invokestatic 103, 3) := by decide +kernel
theorem dMo_isChannel_4 : decode cMo_isChannel 4 = .ok (.ifCond .eq 19, 3) := by decide +kernel
theorem dMo_isChannel_7 : decode cMo_isChannel 7 = .ok (.iload_n 1, 1) := by decide +kernel
theorem dMo_isChannel_8 : decode cMo_isChannel 8 = .ok (.invokestatic 103, 3) := by decide +kernel
theorem dMo_isChannel_11 : decode cMo_isChannel 11 = .ok (.ifCond .eq 12, 3) := by decide +kernel
theorem dMo_isChannel_14 : decode cMo_isChannel 14 = .ok (.iload_n 0, 1) := by decide +kernel
theorem dMo_isChannel_15 : decode cMo_isChannel 15 = .ok (.iload_n 1, 1) := by decide +kernel
theorem dMo_isChannel_16 : decode cMo_isChannel 16 = .ok (.if_icmp .eq 7, 3) := by decide +kernel
theorem dMo_isChannel_19 : decode cMo_isChannel 19 = .ok (.iconst 1, 1) := by decide +kernel
theorem dMo_isChannel_20 : decode cMo_isChannel 20 = .ok (.goto 4, 3) := by decide +kernel
theorem dMo_isChannel_23 : decode cMo_isChannel 23 = .ok (.iconst 0, 1) := by decide +kernel
theorem dMo_isChannel_24 : decode cMo_isChannel 24 = .ok (.ireturn, 1) := by decide +kernel
theorem dMo_isLock_0 : decode cMo_isLock 0 = .ok (.iload_n 0, 1) := by decide +kernel
theorem dMo_isLock_1 : decode cMo_isLock 1 = .ok (.ifCond .lt 19, 3) := by decide +kernel
theorem dMo_isLock_4 : decode cMo_isLock 4 = .ok (.iload_n 0, 1) := by decide +kernel
theorem dMo_isLock_5 : decode cMo_isLock 5 = .ok (.iconst 3, 1) := by decide +kernel
theorem dMo_isLock_6 : decode cMo_isLock 6 = .ok (.if_icmp .ge 14, 3) := by decide +kernel
theorem dMo_isLock_9 : decode cMo_isLock 9 = .ok (.iload_n 1, 1) := by decide +kernel
theorem dMo_isLock_10 : decode cMo_isLock 10 = .ok (.invokestatic 103, 3) := by decide +kernel
theorem dMo_isLock_13 : decode cMo_isLock 13 = .ok (.ifCond .eq 7, 3) := by decide +kernel
theorem dMo_isLock_16 : decode cMo_isLock 16 = .ok (.iconst 1, 1) := by decide +kernel
theorem dMo_isLock_17 : decode cMo_isLock 17 = .ok (.goto 4, 3) := by decide +kernel
theorem dMo_isLock_20 : decode cMo_isLock 20 = .ok (.iconst 0, 1) := by decide +kernel
theorem dMo_isLock_21 : decode cMo_isLock 21 = .ok (.ireturn, 1) := by decide +kernel
theorem dMo_isService_0 : decode cMo_isService 0 = .ok (.iload_n 0, 1) := by decide +kernel
theorem dMo_isService_1 : decode cMo_isService 1 = .ok (.ifCond .lt 19, 3) := by decide +kernel
theorem dMo_isService_4 : decode cMo_isService 4 = .ok (.iload_n 0, 1) := by decide +kernel
theorem dMo_isService_5 : decode cMo_isService 5 = .ok (.iconst 5, 1) := by decide +kernel
theorem dMo_isService_6 : decode cMo_isService 6 = .ok (.if_icmp .ge 14, 3) := by decide +kernel
theorem dMo_isService_9 : decode cMo_isService 9 = .ok (.iload_n 1, 1) := by decide +kernel
theorem dMo_isService_10 : decode cMo_isService 10 = .ok (.invokestatic 103, 3) := by decide +kernel
theorem dMo_isService_13 : decode cMo_isService 13 = .ok (.ifCond .eq 7, 3) := by decide +kernel
theorem dMo_isService_16 : decode cMo_isService 16 = .ok (.iconst 1, 1) := by decide +kernel
theorem dMo_isService_17 : decode cMo_isService 17 = .ok (.goto 4, 3) := by decide +kernel
theorem dMo_isService_20 : decode cMo_isService 20 = .ok (.iconst 0, 1) := by decide +kernel
theorem dMo_isService_21 : decode cMo_isService 21 = .ok (.ireturn, 1) := by decide +kernel
theorem dMo_send_0 : decode cMo_send 0 = .ok (.aload_n 0, 1) := by decide +kernel
theorem dMo_send_1 : decode cMo_send 1 = .ok (.getfield 28, 3) := by decide +kernel
theorem dMo_send_4 : decode cMo_send 4 = .ok (.istore 6, 2) := by decide +kernel
theorem dMo_send_6 : decode cMo_send 6 = .ok (.iload 6, 2) := by decide +kernel
theorem dMo_send_8 : decode cMo_send 8 = .ok (.ifCond .lt 17, 3) := by decide +kernel
theorem dMo_send_11 : decode cMo_send 11 = .ok (.aload_n 0, 1) := by decide +kernel
theorem dMo_send_12 : decode cMo_send 12 = .ok (.aload_n 0, 1) := by decide +kernel
theorem dMo_send_13 : decode cMo_send 13 = .ok (.getfield 25, 3) := by decide +kernel
theorem dMo_send_16 : decode cMo_send 16 = .ok (.iload 6, 2) := by decide +kernel
theorem dMo_send_18 : decode cMo_send 18 = .ok (.iaload, 1) := by decide +kernel
theorem dMo_send_19 : decode cMo_send 19 = .ok (.putfield 28, 3) := by decide +kernel
theorem dMo_send_22 : decode cMo_send 22 = .ok (.goto 19, 3) := by decide +kernel
theorem dMo_send_25 : decode cMo_send 25 = .ok (.aload_n 0, 1) := by decide +kernel
theorem dMo_send_26 : decode cMo_send 26 = .ok (.getfield 93, 3) := by decide +kernel
theorem dMo_send_29 : decode cMo_send 29 = .ok (.istore 6, 2) := by decide +kernel
theorem dMo_send_31 : decode cMo_send 31 = .ok (.aload_n 0, 1) := by decide +kernel
theorem dMo_send_32 : decode cMo_send 32 = .ok (.dup, 1) := by decide +kernel
theorem dMo_send_33 : decode cMo_send 33 = .ok (.getfield 93, 3) := by decide +kernel
theorem dMo_send_36 : decode cMo_send 36 = .ok (.iconst 1, 1) := by decide +kernel
theorem dMo_send_37 : decode cMo_send 37 = .ok (.iadd, 1) := by decide +kernel
theorem dMo_send_38 : decode cMo_send 38 = .ok (.putfield 93, 3) := by decide +kernel
theorem dMo_send_41 : decode cMo_send 41 = .ok (.aload_n 0, 1) := by decide +kernel
theorem dMo_send_42 : decode cMo_send 42 = .ok (.getfield 19, 3) := by decide +kernel
theorem dMo_send_45 : decode cMo_send 45 = .ok (.iload 6, 2) := by decide +kernel
theorem dMo_send_47 : decode cMo_send 47 = .ok (.bipush 10, 2) := by decide +kernel
theorem dMo_send_49 : decode cMo_send 49 = .ok (.iload_n 3, 1) := by decide +kernel
theorem dMo_send_50 : decode cMo_send 50 = .ok (.imul, 1) := by decide +kernel
theorem dMo_send_51 : decode cMo_send 51 = .ok (.iload 4, 2) := by decide +kernel
theorem dMo_send_53 : decode cMo_send 53 = .ok (.iadd, 1) := by decide +kernel
theorem dMo_send_54 : decode cMo_send 54 = .ok (.iastore, 1) := by decide +kernel
theorem dMo_send_55 : decode cMo_send 55 = .ok (.aload_n 0, 1) := by decide +kernel
theorem dMo_send_56 : decode cMo_send 56 = .ok (.getfield 22, 3) := by decide +kernel
theorem dMo_send_59 : decode cMo_send 59 = .ok (.iload 6, 2) := by decide +kernel
theorem dMo_send_61 : decode cMo_send 61 = .ok (.iload 5, 2) := by decide +kernel
theorem dMo_send_63 : decode cMo_send 63 = .ok (.iastore, 1) := by decide +kernel
theorem dMo_send_64 : decode cMo_send 64 = .ok (.aload_n 0, 1) := by decide +kernel
theorem dMo_send_65 : decode cMo_send 65 = .ok (.getfield 25, 3) := by decide +kernel
theorem dMo_send_68 : decode cMo_send 68 = .ok (.iload 6, 2) := by decide +kernel
theorem dMo_send_70 : decode cMo_send 70 = .ok (.iconst (-1), 1) := by decide +kernel
theorem dMo_send_71 : decode cMo_send 71 = .ok (.iastore, 1) := by decide +kernel
theorem dMo_send_72 : decode cMo_send 72 = .ok (.iconst 4, 1) := by decide +kernel
theorem dMo_send_73 : decode cMo_send 73 = .ok (.iload_n 1, 1) := by decide +kernel
theorem dMo_send_74 : decode cMo_send 74 = .ok (.imul, 1) := by decide +kernel
theorem dMo_send_75 : decode cMo_send 75 = .ok (.iload_n 2, 1) := by decide +kernel
theorem dMo_send_76 : decode cMo_send 76 = .ok (.iadd, 1) := by decide +kernel
theorem dMo_send_77 : decode cMo_send 77 = .ok (.istore 7, 2) := by decide +kernel
theorem dMo_send_79 : decode cMo_send 79 = .ok (.aload_n 0, 1) := by decide +kernel
theorem dMo_send_80 : decode cMo_send 80 = .ok (.getfield 7, 3) := by decide +kernel
theorem dMo_send_83 : decode cMo_send 83 = .ok (.iload 7, 2) := by decide +kernel
theorem dMo_send_85 : decode cMo_send 85 = .ok (.iaload, 1) := by decide +kernel
theorem dMo_send_86 : decode cMo_send 86 = .ok (.ifCond .ge 15, 3) := by decide +kernel
theorem dMo_send_89 : decode cMo_send 89 = .ok (.aload_n 0, 1) := by decide +kernel
theorem dMo_send_90 : decode cMo_send 90 = .ok (.getfield 7, 3) := by decide +kernel
theorem dMo_send_93 : decode cMo_send 93 = .ok (.iload 7, 2) := by decide +kernel
theorem dMo_send_95 : decode cMo_send 95 = .ok (.iload 6, 2) := by decide +kernel
theorem dMo_send_97 : decode cMo_send 97 = .ok (.iastore, 1) := by decide +kernel
theorem dMo_send_98 : decode cMo_send 98 = .ok (.goto 17, 3) := by decide +kernel
theorem dMo_send_101 : decode cMo_send 101 = .ok (.aload_n 0, 1) := by decide +kernel
theorem dMo_send_102 : decode cMo_send 102 = .ok (.getfield 25, 3) := by decide +kernel
theorem dMo_send_105 : decode cMo_send 105 = .ok (.aload_n 0, 1) := by decide +kernel
theorem dMo_send_106 : decode cMo_send 106 = .ok (.getfield 13, 3) := by decide +kernel
theorem dMo_send_109 : decode cMo_send 109 = .ok (.iload 7, 2) := by decide +kernel
theorem dMo_send_111 : decode cMo_send 111 = .ok (.iaload, 1) := by decide +kernel
theorem dMo_send_112 : decode cMo_send 112 = .ok (.iload 6, 2) := by decide +kernel
theorem dMo_send_114 : decode cMo_send 114 = .ok (.iastore, 1) := by decide +kernel
theorem dMo_send_115 : decode cMo_send 115 = .ok (.aload_n 0, 1) := by decide +kernel
theorem dMo_send_116 : decode cMo_send 116 = .ok (.getfield 13, 3) := by decide +kernel
theorem dMo_send_119 : decode cMo_send 119 = .ok (.iload 7, 2) := by decide +kernel
theorem dMo_send_121 : decode cMo_send 121 = .ok (.iload 6, 2) := by decide +kernel
theorem dMo_send_123 : decode cMo_send 123 = .ok (.iastore, 1) := by decide +kernel
theorem dMo_send_124 : decode cMo_send 124 = .ok (.aload_n 0, 1) := by decide +kernel
theorem dMo_send_125 : decode cMo_send 125 = .ok (.getfield 16, 3) := by decide +kernel
theorem dMo_send_128 : decode cMo_send 128 = .ok (.iload 7, 2) := by decide +kernel
theorem dMo_send_130 : decode cMo_send 130 = .ok (.dup2, 1) := by decide +kernel
theorem dMo_send_131 : decode cMo_send 131 = .ok (.iaload, 1) := by decide +kernel
theorem dMo_send_132 : decode cMo_send 132 = .ok (.iconst 1, 1) := by decide +kernel
theorem dMo_send_133 : decode cMo_send 133 = .ok (.iadd, 1) := by decide +kernel
theorem dMo_send_134 : decode cMo_send 134 = .ok (.iastore, 1) := by decide +kernel
theorem dMo_send_135 : decode cMo_send 135 = .ok (.aload_n 0, 1) := by decide +kernel
theorem dMo_send_136 : decode cMo_send 136 = .ok (.dup, 1) := by decide +kernel
theorem dMo_send_137 : decode cMo_send 137 = .ok (.getfield 96, 3) := by decide +kernel
theorem dMo_send_140 : decode cMo_send 140 = .ok (.iconst 1, 1) := by decide +kernel
theorem dMo_send_141 : decode cMo_send 141 = .ok (.iadd, 1) := by decide +kernel
theorem dMo_send_142 : decode cMo_send 142 = .ok (.putfield 96, 3) := by decide +kernel
theorem dMo_send_145 : decode cMo_send 145 = .ok (.return_, 1) := by decide +kernel
theorem dMo_sendAll_0 : decode cMo_sendAll 0 = .ok (.iconst 0, 1) := by decide +kernel
theorem dMo_sendAll_1 : decode cMo_sendAll 1 = .ok (.istore 5, 2) := by decide +kernel
theorem dMo_sendAll_3 : decode cMo_sendAll 3 = .ok (.iload 5, 2) := by decide +kernel
theorem dMo_sendAll_5 : decode cMo_sendAll 5 = .ok (.iconst 4, 1) := by decide +kernel
theorem dMo_sendAll_6 : decode cMo_sendAll 6 = .ok (.if_icmp .ge 26, 3) := by decide +kernel
theorem dMo_sendAll_9 : decode cMo_sendAll 9 = .ok (.iload 5, 2) := by decide +kernel
theorem dMo_sendAll_11 : decode cMo_sendAll 11 = .ok (.iload_n 1, 1) := by decide +kernel
theorem dMo_sendAll_12 : decode cMo_sendAll 12 = .ok (.if_icmp .eq 14, 3) := by decide +kernel
theorem dMo_sendAll_15 : decode cMo_sendAll 15 = .ok (.aload_n 0, 1) := by decide +kernel
theorem dMo_sendAll_16 : decode cMo_sendAll 16 = .ok (.iload_n 1, 1) := by decide +kernel
theorem dMo_sendAll_17 : decode cMo_sendAll 17 = .ok (.iload 5, 2) := by decide +kernel
theorem dMo_sendAll_19 : decode cMo_sendAll 19 = .ok (.iload_n 2, 1) := by decide +kernel
theorem dMo_sendAll_20 : decode cMo_sendAll 20 = .ok (.iload_n 3, 1) := by decide +kernel
theorem dMo_sendAll_21 : decode cMo_sendAll 21 = .ok (.iload 4, 2) := by decide +kernel
theorem dMo_sendAll_23 : decode cMo_sendAll 23 = .ok (.invokevirtual 99, 3) := by decide +kernel
theorem dMo_sendAll_26 : decode cMo_sendAll 26 = .ok (.iinc 5 1, 3) := by decide +kernel
theorem dMo_sendAll_29 : decode cMo_sendAll 29 = .ok (.goto (-26), 3) := by decide +kernel
theorem dMo_sendAll_32 : decode cMo_sendAll 32 = .ok (.return_, 1) := by decide +kernel
theorem dMo_comeIn_0 : decode cMo_comeIn 0 = .ok (.aload_n 0, 1) := by decide +kernel
theorem dMo_comeIn_1 : decode cMo_comeIn 1 = .ok (.getfield 32, 3) := by decide +kernel
theorem dMo_comeIn_4 : decode cMo_comeIn 4 = .ok (.iconst 4, 1) := by decide +kernel
theorem dMo_comeIn_5 : decode cMo_comeIn 5 = .ok (.iload_n 1, 1) := by decide +kernel
theorem dMo_comeIn_6 : decode cMo_comeIn 6 = .ok (.imul, 1) := by decide +kernel
theorem dMo_comeIn_7 : decode cMo_comeIn 7 = .ok (.iload_n 2, 1) := by decide +kernel
theorem dMo_comeIn_8 : decode cMo_comeIn 8 = .ok (.iadd, 1) := by decide +kernel
theorem dMo_comeIn_9 : decode cMo_comeIn 9 = .ok (.iconst 2, 1) := by decide +kernel
theorem dMo_comeIn_10 : decode cMo_comeIn 10 = .ok (.iastore, 1) := by decide +kernel
theorem dMo_comeIn_11 : decode cMo_comeIn 11 = .ok (.aload_n 0, 1) := by decide +kernel
theorem dMo_comeIn_12 : decode cMo_comeIn 12 = .ok (.dup, 1) := by decide +kernel
theorem dMo_comeIn_13 : decode cMo_comeIn 13 = .ok (.getfield 128, 3) := by decide +kernel
theorem dMo_comeIn_16 : decode cMo_comeIn 16 = .ok (.iconst 1, 1) := by decide +kernel
theorem dMo_comeIn_17 : decode cMo_comeIn 17 = .ok (.iadd, 1) := by decide +kernel
theorem dMo_comeIn_18 : decode cMo_comeIn 18 = .ok (.putfield 128, 3) := by decide +kernel
theorem dMo_comeIn_21 : decode cMo_comeIn 21 = .ok (.return_, 1) := by decide +kernel
theorem dMo_isDue_0 : decode cMo_isDue 0 = .ok (.aload_n 0, 1) := by decide +kernel
theorem dMo_isDue_1 : decode cMo_isDue 1 = .ok (.getfield 47, 3) := by decide +kernel
theorem dMo_isDue_4 : decode cMo_isDue 4 = .ok (.iconst 4, 1) := by decide +kernel
theorem dMo_isDue_5 : decode cMo_isDue 5 = .ok (.iload_n 1, 1) := by decide +kernel
theorem dMo_isDue_6 : decode cMo_isDue 6 = .ok (.imul, 1) := by decide +kernel
theorem dMo_isDue_7 : decode cMo_isDue 7 = .ok (.iload_n 2, 1) := by decide +kernel
theorem dMo_isDue_8 : decode cMo_isDue 8 = .ok (.iadd, 1) := by decide +kernel
theorem dMo_isDue_9 : decode cMo_isDue 9 = .ok (.iaload, 1) := by decide +kernel
theorem dMo_isDue_10 : decode cMo_isDue 10 = .ok (.aload_n 0, 1) := by decide +kernel
theorem dMo_isDue_11 : decode cMo_isDue 11 = .ok (.getfield 50, 3) := by decide +kernel
theorem dMo_isDue_14 : decode cMo_isDue 14 = .ok (.iload_n 2, 1) := by decide +kernel
theorem dMo_isDue_15 : decode cMo_isDue 15 = .ok (.iaload, 1) := by decide +kernel
theorem dMo_isDue_16 : decode cMo_isDue 16 = .ok (.iconst 1, 1) := by decide +kernel
theorem dMo_isDue_17 : decode cMo_isDue 17 = .ok (.iadd, 1) := by decide +kernel
theorem dMo_isDue_18 : decode cMo_isDue 18 = .ok (.if_icmp .ne 7, 3) := by decide +kernel
theorem dMo_isDue_21 : decode cMo_isDue 21 = .ok (.iconst 1, 1) := by decide +kernel
theorem dMo_isDue_22 : decode cMo_isDue 22 = .ok (.goto 4, 3) := by decide +kernel
theorem dMo_isDue_25 : decode cMo_isDue 25 = .ok (.iconst 0, 1) := by decide +kernel
theorem dMo_isDue_26 : decode cMo_isDue 26 = .ok (.ireturn, 1) := by decide +kernel
theorem dMo_enqueue_0 : decode cMo_enqueue 0 = .ok (.aload_n 0, 1) := by decide +kernel
theorem dMo_enqueue_1 : decode cMo_enqueue 1 = .ok (.getfield 62, 3) := by decide +kernel
theorem dMo_enqueue_4 : decode cMo_enqueue 4 = .ok (.bipush 8, 2) := by decide +kernel
theorem dMo_enqueue_6 : decode cMo_enqueue 6 = .ok (.iload_n 1, 1) := by decide +kernel
theorem dMo_enqueue_7 : decode cMo_enqueue 7 = .ok (.imul, 1) := by decide +kernel
theorem dMo_enqueue_8 : decode cMo_enqueue 8 = .ok (.aload_n 0, 1) := by decide +kernel
theorem dMo_enqueue_9 : decode cMo_enqueue 9 = .ok (.getfield 59, 3) := by decide +kernel
theorem dMo_enqueue_12 : decode cMo_enqueue 12 = .ok (.iload_n 1, 1) := by decide +kernel
theorem dMo_enqueue_13 : decode cMo_enqueue 13 = .ok (.iaload, 1) := by decide +kernel
theorem dMo_enqueue_14 : decode cMo_enqueue 14 = .ok (.iadd, 1) := by decide +kernel
theorem dMo_enqueue_15 : decode cMo_enqueue 15 = .ok (.iload_n 2, 1) := by decide +kernel
theorem dMo_enqueue_16 : decode cMo_enqueue 16 = .ok (.iastore, 1) := by decide +kernel
theorem dMo_enqueue_17 : decode cMo_enqueue 17 = .ok (.aload_n 0, 1) := by decide +kernel
theorem dMo_enqueue_18 : decode cMo_enqueue 18 = .ok (.getfield 59, 3) := by decide +kernel
theorem dMo_enqueue_21 : decode cMo_enqueue 21 = .ok (.iload_n 1, 1) := by decide +kernel
theorem dMo_enqueue_22 : decode cMo_enqueue 22 = .ok (.dup2, 1) := by decide +kernel
theorem dMo_enqueue_23 : decode cMo_enqueue 23 = .ok (.iaload, 1) := by decide +kernel
theorem dMo_enqueue_24 : decode cMo_enqueue 24 = .ok (.iconst 1, 1) := by decide +kernel
theorem dMo_enqueue_25 : decode cMo_enqueue 25 = .ok (.iadd, 1) := by decide +kernel
theorem dMo_enqueue_26 : decode cMo_enqueue 26 = .ok (.iastore, 1) := by decide +kernel
theorem dMo_enqueue_27 : decode cMo_enqueue 27 = .ok (.return_, 1) := by decide +kernel
theorem dMo_dequeue_0 : decode cMo_dequeue 0 = .ok (.aload_n 0, 1) := by decide +kernel
theorem dMo_dequeue_1 : decode cMo_dequeue 1 = .ok (.getfield 62, 3) := by decide +kernel
theorem dMo_dequeue_4 : decode cMo_dequeue 4 = .ok (.bipush 8, 2) := by decide +kernel
theorem dMo_dequeue_6 : decode cMo_dequeue 6 = .ok (.iload_n 1, 1) := by decide +kernel
theorem dMo_dequeue_7 : decode cMo_dequeue 7 = .ok (.imul, 1) := by decide +kernel
theorem dMo_dequeue_8 : decode cMo_dequeue 8 = .ok (.iaload, 1) := by decide +kernel
theorem dMo_dequeue_9 : decode cMo_dequeue 9 = .ok (.istore_n 2, 1) := by decide +kernel
theorem dMo_dequeue_10 : decode cMo_dequeue 10 = .ok (.aload_n 0, 1) := by decide +kernel
theorem dMo_dequeue_11 : decode cMo_dequeue 11 = .ok (.getfield 59, 3) := by decide +kernel
theorem dMo_dequeue_14 : decode cMo_dequeue 14 = .ok (.iload_n 1, 1) := by decide +kernel
theorem dMo_dequeue_15 : decode cMo_dequeue 15 = .ok (.dup2, 1) := by decide +kernel
theorem dMo_dequeue_16 : decode cMo_dequeue 16 = .ok (.iaload, 1) := by decide +kernel
theorem dMo_dequeue_17 : decode cMo_dequeue 17 = .ok (.iconst 1, 1) := by decide +kernel
theorem dMo_dequeue_18 : decode cMo_dequeue 18 = .ok (.isub, 1) := by decide +kernel
theorem dMo_dequeue_19 : decode cMo_dequeue 19 = .ok (.iastore, 1) := by decide +kernel
theorem dMo_dequeue_20 : decode cMo_dequeue 20 = .ok (.iconst 0, 1) := by decide +kernel
theorem dMo_dequeue_21 : decode cMo_dequeue 21 = .ok (.istore_n 3, 1) := by decide +kernel
theorem dMo_dequeue_22 : decode cMo_dequeue 22 = .ok (.iload_n 3, 1) := by decide +kernel
theorem dMo_dequeue_23 : decode cMo_dequeue 23 = .ok (.aload_n 0, 1) := by decide +kernel
theorem dMo_dequeue_24 : decode cMo_dequeue 24 = .ok (.getfield 59, 3) := by decide +kernel
theorem dMo_dequeue_27 : decode cMo_dequeue 27 = .ok (.iload_n 1, 1) := by decide +kernel
theorem dMo_dequeue_28 : decode cMo_dequeue 28 = .ok (.iaload, 1) := by decide +kernel
theorem dMo_dequeue_29 : decode cMo_dequeue 29 = .ok (.if_icmp .ge 33, 3) := by decide +kernel
theorem dMo_dequeue_32 : decode cMo_dequeue 32 = .ok (.aload_n 0, 1) := by decide +kernel
theorem dMo_dequeue_33 : decode cMo_dequeue 33 = .ok (.getfield 62, 3) := by decide +kernel
theorem dMo_dequeue_36 : decode cMo_dequeue 36 = .ok (.bipush 8, 2) := by decide +kernel
theorem dMo_dequeue_38 : decode cMo_dequeue 38 = .ok (.iload_n 1, 1) := by decide +kernel
theorem dMo_dequeue_39 : decode cMo_dequeue 39 = .ok (.imul, 1) := by decide +kernel
theorem dMo_dequeue_40 : decode cMo_dequeue 40 = .ok (.iload_n 3, 1) := by decide +kernel
theorem dMo_dequeue_41 : decode cMo_dequeue 41 = .ok (.iadd, 1) := by decide +kernel
theorem dMo_dequeue_42 : decode cMo_dequeue 42 = .ok (.aload_n 0, 1) := by decide +kernel
theorem dMo_dequeue_43 : decode cMo_dequeue 43 = .ok (.getfield 62, 3) := by decide +kernel
theorem dMo_dequeue_46 : decode cMo_dequeue 46 = .ok (.bipush 8, 2) := by decide +kernel
theorem dMo_dequeue_48 : decode cMo_dequeue 48 = .ok (.iload_n 1, 1) := by decide +kernel
theorem dMo_dequeue_49 : decode cMo_dequeue 49 = .ok (.imul, 1) := by decide +kernel
theorem dMo_dequeue_50 : decode cMo_dequeue 50 = .ok (.iload_n 3, 1) := by decide +kernel
theorem dMo_dequeue_51 : decode cMo_dequeue 51 = .ok (.iadd, 1) := by decide +kernel
theorem dMo_dequeue_52 : decode cMo_dequeue 52 = .ok (.iconst 1, 1) := by decide +kernel
theorem dMo_dequeue_53 : decode cMo_dequeue 53 = .ok (.iadd, 1) := by decide +kernel
theorem dMo_dequeue_54 : decode cMo_dequeue 54 = .ok (.iaload, 1) := by decide +kernel
theorem dMo_dequeue_55 : decode cMo_dequeue 55 = .ok (.iastore, 1) := by decide +kernel
theorem dMo_dequeue_56 : decode cMo_dequeue 56 = .ok (.iinc 3 1, 3) := by decide +kernel
theorem dMo_dequeue_59 : decode cMo_dequeue 59 = .ok (.goto (-37), 3) := by decide +kernel
theorem dMo_dequeue_62 : decode cMo_dequeue 62 = .ok (.iload_n 2, 1) := by decide +kernel
theorem dMo_dequeue_63 : decode cMo_dequeue 63 = .ok (.ireturn, 1) := by decide +kernel
theorem dMo_goOn_0 : decode cMo_goOn 0 = .ok (.aload_n 0, 1) := by decide +kernel
theorem dMo_goOn_1 : decode cMo_goOn 1 = .ok (.getfield 56, 3) := by decide +kernel
theorem dMo_goOn_4 : decode cMo_goOn 4 = .ok (.iload_n 1, 1) := by decide +kernel
theorem dMo_goOn_5 : decode cMo_goOn 5 = .ok (.iaload, 1) := by decide +kernel
theorem dMo_goOn_6 : decode cMo_goOn 6 = .ok (.iload_n 1, 1) := by decide +kernel
theorem dMo_goOn_7 : decode cMo_goOn 7 = .ok (.if_icmp .ne 68, 3) := by decide +kernel
theorem dMo_goOn_10 : decode cMo_goOn 10 = .ok (.aload_n 0, 1) := by decide +kernel
theorem dMo_goOn_11 : decode cMo_goOn 11 = .ok (.getfield 32, 3) := by decide +kernel
theorem dMo_goOn_14 : decode cMo_goOn 14 = .ok (.bipush 8, 2) := by decide +kernel
theorem dMo_goOn_16 : decode cMo_goOn 16 = .ok (.iload_n 1, 1) := by decide +kernel
theorem dMo_goOn_17 : decode cMo_goOn 17 = .ok (.iadd, 1) := by decide +kernel
theorem dMo_goOn_18 : decode cMo_goOn 18 = .ok (.iaload, 1) := by decide +kernel
theorem dMo_goOn_19 : decode cMo_goOn 19 = .ok (.iconst 2, 1) := by decide +kernel
theorem dMo_goOn_20 : decode cMo_goOn 20 = .ok (.if_icmp .eq 55, 3) := by decide +kernel
theorem dMo_goOn_23 : decode cMo_goOn 23 = .ok (.aload_n 0, 1) := by decide +kernel
theorem dMo_goOn_24 : decode cMo_goOn 24 = .ok (.getfield 59, 3) := by decide +kernel
theorem dMo_goOn_27 : decode cMo_goOn 27 = .ok (.iload_n 1, 1) := by decide +kernel
theorem dMo_goOn_28 : decode cMo_goOn 28 = .ok (.iaload, 1) := by decide +kernel
theorem dMo_goOn_29 : decode cMo_goOn 29 = .ok (.ifCond .le 46, 3) := by decide +kernel
theorem dMo_goOn_32 : decode cMo_goOn 32 = .ok (.aload_n 0, 1) := by decide +kernel
theorem dMo_goOn_33 : decode cMo_goOn 33 = .ok (.iload_n 1, 1) := by decide +kernel
theorem dMo_goOn_34 : decode cMo_goOn 34 = .ok (.invokevirtual 160, 3) := by decide +kernel
theorem dMo_goOn_37 : decode cMo_goOn 37 = .ok (.istore_n 2, 1) := by decide +kernel
theorem dMo_goOn_38 : decode cMo_goOn 38 = .ok (.aload_n 0, 1) := by decide +kernel
theorem dMo_goOn_39 : decode cMo_goOn 39 = .ok (.getfield 65, 3) := by decide +kernel
theorem dMo_goOn_42 : decode cMo_goOn 42 = .ok (.iload_n 1, 1) := by decide +kernel
theorem dMo_goOn_43 : decode cMo_goOn 43 = .ok (.iconst 0, 1) := by decide +kernel
theorem dMo_goOn_44 : decode cMo_goOn 44 = .ok (.bastore, 1) := by decide +kernel
theorem dMo_goOn_45 : decode cMo_goOn 45 = .ok (.iload_n 2, 1) := by decide +kernel
theorem dMo_goOn_46 : decode cMo_goOn 46 = .ok (.iload_n 1, 1) := by decide +kernel
theorem dMo_goOn_47 : decode cMo_goOn 47 = .ok (.if_icmp .ne 12, 3) := by decide +kernel
theorem dMo_goOn_50 : decode cMo_goOn 50 = .ok (.aload_n 0, 1) := by decide +kernel
theorem dMo_goOn_51 : decode cMo_goOn 51 = .ok (.iconst 2, 1) := by decide +kernel
theorem dMo_goOn_52 : decode cMo_goOn 52 = .ok (.iload_n 1, 1) := by decide +kernel
theorem dMo_goOn_53 : decode cMo_goOn 53 = .ok (.invokevirtual 137, 3) := by decide +kernel
theorem dMo_goOn_56 : decode cMo_goOn 56 = .ok (.goto 19, 3) := by decide +kernel
theorem dMo_goOn_59 : decode cMo_goOn 59 = .ok (.aload_n 0, 1) := by decide +kernel
theorem dMo_goOn_60 : decode cMo_goOn 60 = .ok (.getfield 56, 3) := by decide +kernel
theorem dMo_goOn_63 : decode cMo_goOn 63 = .ok (.iload_n 1, 1) := by decide +kernel
theorem dMo_goOn_64 : decode cMo_goOn 64 = .ok (.iload_n 2, 1) := by decide +kernel
theorem dMo_goOn_65 : decode cMo_goOn 65 = .ok (.iastore, 1) := by decide +kernel
theorem dMo_goOn_66 : decode cMo_goOn 66 = .ok (.aload_n 0, 1) := by decide +kernel
theorem dMo_goOn_67 : decode cMo_goOn 67 = .ok (.iload_n 1, 1) := by decide +kernel
theorem dMo_goOn_68 : decode cMo_goOn 68 = .ok (.iload_n 2, 1) := by decide +kernel
theorem dMo_goOn_69 : decode cMo_goOn 69 = .ok (.iconst 2, 1) := by decide +kernel
theorem dMo_goOn_70 : decode cMo_goOn 70 = .ok (.iconst 1, 1) := by decide +kernel
theorem dMo_goOn_71 : decode cMo_goOn 71 = .ok (.iconst 0, 1) := by decide +kernel
theorem dMo_goOn_72 : decode cMo_goOn 72 = .ok (.invokevirtual 99, 3) := by decide +kernel
theorem dMo_goOn_75 : decode cMo_goOn 75 = .ok (.aload_n 0, 1) := by decide +kernel
theorem dMo_goOn_76 : decode cMo_goOn 76 = .ok (.getfield 56, 3) := by decide +kernel
theorem dMo_goOn_79 : decode cMo_goOn 79 = .ok (.iload_n 1, 1) := by decide +kernel
theorem dMo_goOn_80 : decode cMo_goOn 80 = .ok (.iaload, 1) := by decide +kernel
theorem dMo_goOn_81 : decode cMo_goOn 81 = .ok (.iload_n 1, 1) := by decide +kernel
theorem dMo_goOn_82 : decode cMo_goOn 82 = .ok (.if_icmp .eq 42, 3) := by decide +kernel
theorem dMo_goOn_85 : decode cMo_goOn 85 = .ok (.aload_n 0, 1) := by decide +kernel
theorem dMo_goOn_86 : decode cMo_goOn 86 = .ok (.getfield 59, 3) := by decide +kernel
theorem dMo_goOn_89 : decode cMo_goOn 89 = .ok (.iload_n 1, 1) := by decide +kernel
theorem dMo_goOn_90 : decode cMo_goOn 90 = .ok (.iaload, 1) := by decide +kernel
theorem dMo_goOn_91 : decode cMo_goOn 91 = .ok (.ifCond .le 33, 3) := by decide +kernel
theorem dMo_goOn_94 : decode cMo_goOn 94 = .ok (.aload_n 0, 1) := by decide +kernel
theorem dMo_goOn_95 : decode cMo_goOn 95 = .ok (.getfield 65, 3) := by decide +kernel
theorem dMo_goOn_98 : decode cMo_goOn 98 = .ok (.iload_n 1, 1) := by decide +kernel
theorem dMo_goOn_99 : decode cMo_goOn 99 = .ok (.baload, 1) := by decide +kernel
theorem dMo_goOn_100 : decode cMo_goOn 100 = .ok (.ifCond .ne 24, 3) := by decide +kernel
theorem dMo_goOn_103 : decode cMo_goOn 103 = .ok (.aload_n 0, 1) := by decide +kernel
theorem dMo_goOn_104 : decode cMo_goOn 104 = .ok (.getfield 65, 3) := by decide +kernel
theorem dMo_goOn_107 : decode cMo_goOn 107 = .ok (.iload_n 1, 1) := by decide +kernel
theorem dMo_goOn_108 : decode cMo_goOn 108 = .ok (.iconst 1, 1) := by decide +kernel
theorem dMo_goOn_109 : decode cMo_goOn 109 = .ok (.bastore, 1) := by decide +kernel
theorem dMo_goOn_110 : decode cMo_goOn 110 = .ok (.aload_n 0, 1) := by decide +kernel
theorem dMo_goOn_111 : decode cMo_goOn 111 = .ok (.iload_n 1, 1) := by decide +kernel
theorem dMo_goOn_112 : decode cMo_goOn 112 = .ok (.aload_n 0, 1) := by decide +kernel
theorem dMo_goOn_113 : decode cMo_goOn 113 = .ok (.getfield 56, 3) := by decide +kernel
theorem dMo_goOn_116 : decode cMo_goOn 116 = .ok (.iload_n 1, 1) := by decide +kernel
theorem dMo_goOn_117 : decode cMo_goOn 117 = .ok (.iaload, 1) := by decide +kernel
theorem dMo_goOn_118 : decode cMo_goOn 118 = .ok (.iconst 2, 1) := by decide +kernel
theorem dMo_goOn_119 : decode cMo_goOn 119 = .ok (.iconst 0, 1) := by decide +kernel
theorem dMo_goOn_120 : decode cMo_goOn 120 = .ok (.iconst 0, 1) := by decide +kernel
theorem dMo_goOn_121 : decode cMo_goOn 121 = .ok (.invokevirtual 99, 3) := by decide +kernel
theorem dMo_goOn_124 : decode cMo_goOn 124 = .ok (.return_, 1) := by decide +kernel
theorem dMo_passToken_0 : decode cMo_passToken 0 = .ok (.aload_n 0, 1) := by decide +kernel
theorem dMo_passToken_1 : decode cMo_passToken 1 = .ok (.getfield 50, 3) := by decide +kernel
theorem dMo_passToken_4 : decode cMo_passToken 4 = .ok (.iload_n 1, 1) := by decide +kernel
theorem dMo_passToken_5 : decode cMo_passToken 5 = .ok (.aload_n 0, 1) := by decide +kernel
theorem dMo_passToken_6 : decode cMo_passToken 6 = .ok (.getfield 47, 3) := by decide +kernel
theorem dMo_passToken_9 : decode cMo_passToken 9 = .ok (.iconst 5, 1) := by decide +kernel
theorem dMo_passToken_10 : decode cMo_passToken 10 = .ok (.iload_n 1, 1) := by decide +kernel
theorem dMo_passToken_11 : decode cMo_passToken 11 = .ok (.imul, 1) := by decide +kernel
theorem dMo_passToken_12 : decode cMo_passToken 12 = .ok (.iaload, 1) := by decide +kernel
theorem dMo_passToken_13 : decode cMo_passToken 13 = .ok (.iastore, 1) := by decide +kernel
theorem dMo_passToken_14 : decode cMo_passToken 14 = .ok (.iconst 0, 1) := by decide +kernel
theorem dMo_passToken_15 : decode cMo_passToken 15 = .ok (.istore_n 2, 1) := by decide +kernel
theorem dMo_passToken_16 : decode cMo_passToken 16 = .ok (.iload_n 2, 1) := by decide +kernel
theorem dMo_passToken_17 : decode cMo_passToken 17 = .ok (.iconst 4, 1) := by decide +kernel
theorem dMo_passToken_18 : decode cMo_passToken 18 = .ok (.if_icmp .ge 83, 3) := by decide +kernel
theorem dMo_passToken_21 : decode cMo_passToken 21 = .ok (.iconst 0, 1) := by decide +kernel
theorem dMo_passToken_22 : decode cMo_passToken 22 = .ok (.istore_n 3, 1) := by decide +kernel
theorem dMo_passToken_23 : decode cMo_passToken 23 = .ok (.iconst 0, 1) := by decide +kernel
theorem dMo_passToken_24 : decode cMo_passToken 24 = .ok (.istore 4, 2) := by decide +kernel
theorem dMo_passToken_26 : decode cMo_passToken 26 = .ok (.iload 4, 2) := by decide +kernel
theorem dMo_passToken_28 : decode cMo_passToken 28 = .ok (.aload_n 0, 1) := by decide +kernel
theorem dMo_passToken_29 : decode cMo_passToken 29 = .ok (.getfield 157, 3) := by decide +kernel
theorem dMo_passToken_32 : decode cMo_passToken 32 = .ok (.if_icmp .ge 30, 3) := by decide +kernel
theorem dMo_passToken_35 : decode cMo_passToken 35 = .ok (.iload_n 3, 1) := by decide +kernel
theorem dMo_passToken_36 : decode cMo_passToken 36 = .ok (.ifCond .ne 14, 3) := by decide +kernel
theorem dMo_passToken_39 : decode cMo_passToken 39 = .ok (.aload_n 0, 1) := by decide +kernel
theorem dMo_passToken_40 : decode cMo_passToken 40 = .ok (.getfield 53, 3) := by decide +kernel
theorem dMo_passToken_43 : decode cMo_passToken 43 = .ok (.iload 4, 2) := by decide +kernel
theorem dMo_passToken_45 : decode cMo_passToken 45 = .ok (.iaload, 1) := by decide +kernel
theorem dMo_passToken_46 : decode cMo_passToken 46 = .ok (.iload_n 2, 1) := by decide +kernel
theorem dMo_passToken_47 : decode cMo_passToken 47 = .ok (.if_icmp .ne 7, 3) := by decide +kernel
theorem dMo_passToken_50 : decode cMo_passToken 50 = .ok (.iconst 1, 1) := by decide +kernel
theorem dMo_passToken_51 : decode cMo_passToken 51 = .ok (.goto 4, 3) := by decide +kernel
theorem dMo_passToken_54 : decode cMo_passToken 54 = .ok (.iconst 0, 1) := by decide +kernel
theorem dMo_passToken_55 : decode cMo_passToken 55 = .ok (.istore_n 3, 1) := by decide +kernel
theorem dMo_passToken_56 : decode cMo_passToken 56 = .ok (.iinc 4 1, 3) := by decide +kernel
theorem dMo_passToken_59 : decode cMo_passToken 59 = .ok (.goto (-33), 3) := by decide +kernel
theorem dMo_passToken_62 : decode cMo_passToken 62 = .ok (.iload_n 3, 1) := by decide +kernel
theorem dMo_passToken_63 : decode cMo_passToken 63 = .ok (.ifCond .ne 32, 3) := by decide +kernel
theorem dMo_passToken_66 : decode cMo_passToken 66 = .ok (.aload_n 0, 1) := by decide +kernel
theorem dMo_passToken_67 : decode cMo_passToken 67 = .ok (.iload_n 1, 1) := by decide +kernel
theorem dMo_passToken_68 : decode cMo_passToken 68 = .ok (.iload_n 2, 1) := by decide +kernel
theorem dMo_passToken_69 : decode cMo_passToken 69 = .ok (.invokevirtual 154, 3) := by decide +kernel
theorem dMo_passToken_72 : decode cMo_passToken 72 = .ok (.ifCond .eq 23, 3) := by decide +kernel
theorem dMo_passToken_75 : decode cMo_passToken 75 = .ok (.aload_n 0, 1) := by decide +kernel
theorem dMo_passToken_76 : decode cMo_passToken 76 = .ok (.getfield 53, 3) := by decide +kernel
theorem dMo_passToken_79 : decode cMo_passToken 79 = .ok (.aload_n 0, 1) := by decide +kernel
theorem dMo_passToken_80 : decode cMo_passToken 80 = .ok (.getfield 157, 3) := by decide +kernel
theorem dMo_passToken_83 : decode cMo_passToken 83 = .ok (.iload_n 2, 1) := by decide +kernel
theorem dMo_passToken_84 : decode cMo_passToken 84 = .ok (.iastore, 1) := by decide +kernel
theorem dMo_passToken_85 : decode cMo_passToken 85 = .ok (.aload_n 0, 1) := by decide +kernel
theorem dMo_passToken_86 : decode cMo_passToken 86 = .ok (.dup, 1) := by decide +kernel
theorem dMo_passToken_87 : decode cMo_passToken 87 = .ok (.getfield 157, 3) := by decide +kernel
theorem dMo_passToken_90 : decode cMo_passToken 90 = .ok (.iconst 1, 1) := by decide +kernel
theorem dMo_passToken_91 : decode cMo_passToken 91 = .ok (.iadd, 1) := by decide +kernel
theorem dMo_passToken_92 : decode cMo_passToken 92 = .ok (.putfield 157, 3) := by decide +kernel
theorem dMo_passToken_95 : decode cMo_passToken 95 = .ok (.iinc 2 1, 3) := by decide +kernel
theorem dMo_passToken_98 : decode cMo_passToken 98 = .ok (.goto (-82), 3) := by decide +kernel
theorem dMo_passToken_101 : decode cMo_passToken 101 = .ok (.aload_n 0, 1) := by decide +kernel
theorem dMo_passToken_102 : decode cMo_passToken 102 = .ok (.getfield 157, 3) := by decide +kernel
theorem dMo_passToken_105 : decode cMo_passToken 105 = .ok (.ifCond .le 64, 3) := by decide +kernel
theorem dMo_passToken_108 : decode cMo_passToken 108 = .ok (.aload_n 0, 1) := by decide +kernel
theorem dMo_passToken_109 : decode cMo_passToken 109 = .ok (.getfield 53, 3) := by decide +kernel
theorem dMo_passToken_112 : decode cMo_passToken 112 = .ok (.iconst 0, 1) := by decide +kernel
theorem dMo_passToken_113 : decode cMo_passToken 113 = .ok (.iaload, 1) := by decide +kernel
theorem dMo_passToken_114 : decode cMo_passToken 114 = .ok (.istore_n 2, 1) := by decide +kernel
theorem dMo_passToken_115 : decode cMo_passToken 115 = .ok (.aload_n 0, 1) := by decide +kernel
theorem dMo_passToken_116 : decode cMo_passToken 116 = .ok (.dup, 1) := by decide +kernel
theorem dMo_passToken_117 : decode cMo_passToken 117 = .ok (.getfield 157, 3) := by decide +kernel
theorem dMo_passToken_120 : decode cMo_passToken 120 = .ok (.iconst 1, 1) := by decide +kernel
theorem dMo_passToken_121 : decode cMo_passToken 121 = .ok (.isub, 1) := by decide +kernel
theorem dMo_passToken_122 : decode cMo_passToken 122 = .ok (.putfield 157, 3) := by decide +kernel
theorem dMo_passToken_125 : decode cMo_passToken 125 = .ok (.iconst 0, 1) := by decide +kernel
theorem dMo_passToken_126 : decode cMo_passToken 126 = .ok (.istore_n 3, 1) := by decide +kernel
theorem dMo_passToken_127 : decode cMo_passToken 127 = .ok (.iload_n 3, 1) := by decide +kernel
theorem dMo_passToken_128 : decode cMo_passToken 128 = .ok (.aload_n 0, 1) := by decide +kernel
theorem dMo_passToken_129 : decode cMo_passToken 129 = .ok (.getfield 157, 3) := by decide +kernel
theorem dMo_passToken_132 : decode cMo_passToken 132 = .ok (.if_icmp .ge 23, 3) := by decide +kernel
theorem dMo_passToken_135 : decode cMo_passToken 135 = .ok (.aload_n 0, 1) := by decide +kernel
theorem dMo_passToken_136 : decode cMo_passToken 136 = .ok (.getfield 53, 3) := by decide +kernel
theorem dMo_passToken_139 : decode cMo_passToken 139 = .ok (.iload_n 3, 1) := by decide +kernel
theorem dMo_passToken_140 : decode cMo_passToken 140 = .ok (.aload_n 0, 1) := by decide +kernel
theorem dMo_passToken_141 : decode cMo_passToken 141 = .ok (.getfield 53, 3) := by decide +kernel
theorem dMo_passToken_144 : decode cMo_passToken 144 = .ok (.iload_n 3, 1) := by decide +kernel
theorem dMo_passToken_145 : decode cMo_passToken 145 = .ok (.iconst 1, 1) := by decide +kernel
theorem dMo_passToken_146 : decode cMo_passToken 146 = .ok (.iadd, 1) := by decide +kernel
theorem dMo_passToken_147 : decode cMo_passToken 147 = .ok (.iaload, 1) := by decide +kernel
theorem dMo_passToken_148 : decode cMo_passToken 148 = .ok (.iastore, 1) := by decide +kernel
theorem dMo_passToken_149 : decode cMo_passToken 149 = .ok (.iinc 3 1, 3) := by decide +kernel
theorem dMo_passToken_152 : decode cMo_passToken 152 = .ok (.goto (-25), 3) := by decide +kernel
theorem dMo_passToken_155 : decode cMo_passToken 155 = .ok (.aload_n 0, 1) := by decide +kernel
theorem dMo_passToken_156 : decode cMo_passToken 156 = .ok (.iconst (-1), 1) := by decide +kernel
theorem dMo_passToken_157 : decode cMo_passToken 157 = .ok (.putfield 134, 3) := by decide +kernel
theorem dMo_passToken_160 : decode cMo_passToken 160 = .ok (.aload_n 0, 1) := by decide +kernel
theorem dMo_passToken_161 : decode cMo_passToken 161 = .ok (.iload_n 1, 1) := by decide +kernel
theorem dMo_passToken_162 : decode cMo_passToken 162 = .ok (.iload_n 2, 1) := by decide +kernel
theorem dMo_passToken_163 : decode cMo_passToken 163 = .ok (.iconst 1, 1) := by decide +kernel
theorem dMo_passToken_164 : decode cMo_passToken 164 = .ok (.iconst 1, 1) := by decide +kernel
theorem dMo_passToken_165 : decode cMo_passToken 165 = .ok (.iconst 0, 1) := by decide +kernel
theorem dMo_passToken_166 : decode cMo_passToken 166 = .ok (.invokevirtual 99, 3) := by decide +kernel
theorem dMo_passToken_169 : decode cMo_passToken 169 = .ok (.return_, 1) := by decide +kernel
theorem dMo_settle_0 : decode cMo_settle 0 = .ok (.aload_n 0, 1) := by decide +kernel
theorem dMo_settle_1 : decode cMo_settle 1 = .ok (.getfield 81, 3) := by decide +kernel
theorem dMo_settle_4 : decode cMo_settle 4 = .ok (.iload_n 1, 1) := by decide +kernel
theorem dMo_settle_5 : decode cMo_settle 5 = .ok (.baload, 1) := by decide +kernel
theorem dMo_settle_6 : decode cMo_settle 6 = .ok (.ifCond .ne 12, 3) := by decide +kernel
theorem dMo_settle_9 : decode cMo_settle 9 = .ok (.aload_n 0, 1) := by decide +kernel
theorem dMo_settle_10 : decode cMo_settle 10 = .ok (.getfield 87, 3) := by decide +kernel
theorem dMo_settle_13 : decode cMo_settle 13 = .ok (.iload_n 1, 1) := by decide +kernel
theorem dMo_settle_14 : decode cMo_settle 14 = .ok (.iaload, 1) := by decide +kernel
theorem dMo_settle_15 : decode cMo_settle 15 = .ok (.ifCond .le 4, 3) := by decide +kernel
theorem dMo_settle_18 : decode cMo_settle 18 = .ok (.return_, 1) := by decide +kernel
theorem dMo_settle_19 : decode cMo_settle 19 = .ok (.aload_n 0, 1) := by decide +kernel
theorem dMo_settle_20 : decode cMo_settle 20 = .ok (.getfield 84, 3) := by decide +kernel
theorem dMo_settle_23 : decode cMo_settle 23 = .ok (.iload_n 1, 1) := by decide +kernel
theorem dMo_settle_24 : decode cMo_settle 24 = .ok (.iaload, 1) := by decide +kernel
theorem dMo_settle_25 : decode cMo_settle 25 = .ok (.ifCond .lt 29, 3) := by decide +kernel
theorem dMo_settle_28 : decode cMo_settle 28 = .ok (.aload_n 0, 1) := by decide +kernel
theorem dMo_settle_29 : decode cMo_settle 29 = .ok (.getfield 84, 3) := by decide +kernel
theorem dMo_settle_32 : decode cMo_settle 32 = .ok (.iload_n 1, 1) := by decide +kernel
theorem dMo_settle_33 : decode cMo_settle 33 = .ok (.iaload, 1) := by decide +kernel
theorem dMo_settle_34 : decode cMo_settle 34 = .ok (.istore_n 2, 1) := by decide +kernel
theorem dMo_settle_35 : decode cMo_settle 35 = .ok (.aload_n 0, 1) := by decide +kernel
theorem dMo_settle_36 : decode cMo_settle 36 = .ok (.getfield 84, 3) := by decide +kernel
theorem dMo_settle_39 : decode cMo_settle 39 = .ok (.iload_n 1, 1) := by decide +kernel
theorem dMo_settle_40 : decode cMo_settle 40 = .ok (.iconst (-1), 1) := by decide +kernel
theorem dMo_settle_41 : decode cMo_settle 41 = .ok (.iastore, 1) := by decide +kernel
theorem dMo_settle_42 : decode cMo_settle 42 = .ok (.aload_n 0, 1) := by decide +kernel
theorem dMo_settle_43 : decode cMo_settle 43 = .ok (.iload_n 1, 1) := by decide +kernel
theorem dMo_settle_44 : decode cMo_settle 44 = .ok (.iload_n 2, 1) := by decide +kernel
theorem dMo_settle_45 : decode cMo_settle 45 = .ok (.iconst 4, 1) := by decide +kernel
theorem dMo_settle_46 : decode cMo_settle 46 = .ok (.iconst 1, 1) := by decide +kernel
theorem dMo_settle_47 : decode cMo_settle 47 = .ok (.iconst 0, 1) := by decide +kernel
theorem dMo_settle_48 : decode cMo_settle 48 = .ok (.invokevirtual 99, 3) := by decide +kernel
theorem dMo_settle_51 : decode cMo_settle 51 = .ok (.goto 26, 3) := by decide +kernel
theorem dMo_settle_54 : decode cMo_settle 54 = .ok (.aload_n 0, 1) := by decide +kernel
theorem dMo_settle_55 : decode cMo_settle 55 = .ok (.getfield 78, 3) := by decide +kernel
theorem dMo_settle_58 : decode cMo_settle 58 = .ok (.iload_n 1, 1) := by decide +kernel
theorem dMo_settle_59 : decode cMo_settle 59 = .ok (.if_icmp .ne 18, 3) := by decide +kernel
theorem dMo_settle_62 : decode cMo_settle 62 = .ok (.aload_n 0, 1) := by decide +kernel
theorem dMo_settle_63 : decode cMo_settle 63 = .ok (.iconst (-1), 1) := by decide +kernel
theorem dMo_settle_64 : decode cMo_settle 64 = .ok (.putfield 78, 3) := by decide +kernel
theorem dMo_settle_67 : decode cMo_settle 67 = .ok (.aload_n 0, 1) := by decide +kernel
theorem dMo_settle_68 : decode cMo_settle 68 = .ok (.dup, 1) := by decide +kernel
theorem dMo_settle_69 : decode cMo_settle 69 = .ok (.getfield 164, 3) := by decide +kernel
theorem dMo_settle_72 : decode cMo_settle 72 = .ok (.iconst 1, 1) := by decide +kernel
theorem dMo_settle_73 : decode cMo_settle 73 = .ok (.iadd, 1) := by decide +kernel
theorem dMo_settle_74 : decode cMo_settle 74 = .ok (.putfield 164, 3) := by decide +kernel
theorem dMo_settle_77 : decode cMo_settle 77 = .ok (.return_, 1) := by decide +kernel
theorem dMo_stampArrives_0 : decode cMo_stampArrives 0 = .ok (.iload_n 3, 1) := by decide +kernel
theorem dMo_stampArrives_1 : decode cMo_stampArrives 1 = .ok (.iconst 1, 1) := by decide +kernel
theorem dMo_stampArrives_2 : decode cMo_stampArrives 2 = .ok (.if_icmp .ne 40, 3) := by decide +kernel
theorem dMo_stampArrives_5 : decode cMo_stampArrives 5 = .ok (.aload_n 0, 1) := by decide +kernel
theorem dMo_stampArrives_6 : decode cMo_stampArrives 6 = .ok (.getfield 41, 3) := by decide +kernel
theorem dMo_stampArrives_9 : decode cMo_stampArrives 9 = .ok (.iload_n 2, 1) := by decide +kernel
theorem dMo_stampArrives_10 : decode cMo_stampArrives 10 = .ok (.dup2, 1) := by decide +kernel
theorem dMo_stampArrives_11 : decode cMo_stampArrives 11 = .ok (.iaload, 1) := by decide +kernel
theorem dMo_stampArrives_12 : decode cMo_stampArrives 12 = .ok (.iconst 1, 1) := by decide +kernel
theorem dMo_stampArrives_13 : decode cMo_stampArrives 13 = .ok (.iadd, 1) := by decide +kernel
theorem dMo_stampArrives_14 : decode cMo_stampArrives 14 = .ok (.iastore, 1) := by decide +kernel
theorem dMo_stampArrives_15 : decode cMo_stampArrives 15 = .ok (.aload_n 0, 1) := by decide +kernel
theorem dMo_stampArrives_16 : decode cMo_stampArrives 16 = .ok (.getfield 41, 3) := by decide +kernel
theorem dMo_stampArrives_19 : decode cMo_stampArrives 19 = .ok (.iload_n 2, 1) := by decide +kernel
theorem dMo_stampArrives_20 : decode cMo_stampArrives 20 = .ok (.iaload, 1) := by decide +kernel
theorem dMo_stampArrives_21 : decode cMo_stampArrives 21 = .ok (.iconst 3, 1) := by decide +kernel
theorem dMo_stampArrives_22 : decode cMo_stampArrives 22 = .ok (.if_icmp .ne 19, 3) := by decide +kernel
theorem dMo_stampArrives_25 : decode cMo_stampArrives 25 = .ok (.aload_n 0, 1) := by decide +kernel
theorem dMo_stampArrives_26 : decode cMo_stampArrives 26 = .ok (.getfield 32, 3) := by decide +kernel
theorem dMo_stampArrives_29 : decode cMo_stampArrives 29 = .ok (.iload_n 2, 1) := by decide +kernel
theorem dMo_stampArrives_30 : decode cMo_stampArrives 30 = .ok (.iaload, 1) := by decide +kernel
theorem dMo_stampArrives_31 : decode cMo_stampArrives 31 = .ok (.iconst 1, 1) := by decide +kernel
theorem dMo_stampArrives_32 : decode cMo_stampArrives 32 = .ok (.if_icmp .ne 9, 3) := by decide +kernel
theorem dMo_stampArrives_35 : decode cMo_stampArrives 35 = .ok (.aload_n 0, 1) := by decide +kernel
theorem dMo_stampArrives_36 : decode cMo_stampArrives 36 = .ok (.iconst 0, 1) := by decide +kernel
theorem dMo_stampArrives_37 : decode cMo_stampArrives 37 = .ok (.iload_n 2, 1) := by decide +kernel
theorem dMo_stampArrives_38 : decode cMo_stampArrives 38 = .ok (.invokevirtual 137, 3) := by decide +kernel
theorem dMo_stampArrives_41 : decode cMo_stampArrives 41 = .ok (.return_, 1) := by decide +kernel
theorem dMo_stampArrives_42 : decode cMo_stampArrives 42 = .ok (.aload_n 0, 1) := by decide +kernel
theorem dMo_stampArrives_43 : decode cMo_stampArrives 43 = .ok (.getfield 35, 3) := by decide +kernel
theorem dMo_stampArrives_46 : decode cMo_stampArrives 46 = .ok (.iload_n 2, 1) := by decide +kernel
theorem dMo_stampArrives_47 : decode cMo_stampArrives 47 = .ok (.iload 4, 2) := by decide +kernel
theorem dMo_stampArrives_49 : decode cMo_stampArrives 49 = .ok (.aload_n 0, 1) := by decide +kernel
theorem dMo_stampArrives_50 : decode cMo_stampArrives 50 = .ok (.getfield 35, 3) := by decide +kernel
theorem dMo_stampArrives_53 : decode cMo_stampArrives 53 = .ok (.iload_n 2, 1) := by decide +kernel
theorem dMo_stampArrives_54 : decode cMo_stampArrives 54 = .ok (.iaload, 1) := by decide +kernel
theorem dMo_stampArrives_55 : decode cMo_stampArrives 55 = .ok (.if_icmp .le 8, 3) := by decide +kernel
theorem dMo_stampArrives_58 : decode cMo_stampArrives 58 = .ok (.iload 4, 2) := by decide +kernel
theorem dMo_stampArrives_60 : decode cMo_stampArrives 60 = .ok (.goto 9, 3) := by decide +kernel
theorem dMo_stampArrives_63 : decode cMo_stampArrives 63 = .ok (.aload_n 0, 1) := by decide +kernel
theorem dMo_stampArrives_64 : decode cMo_stampArrives 64 = .ok (.getfield 35, 3) := by decide +kernel
theorem dMo_stampArrives_67 : decode cMo_stampArrives 67 = .ok (.iload_n 2, 1) := by decide +kernel
theorem dMo_stampArrives_68 : decode cMo_stampArrives 68 = .ok (.iaload, 1) := by decide +kernel
theorem dMo_stampArrives_69 : decode cMo_stampArrives 69 = .ok (.iastore, 1) := by decide +kernel
theorem dMo_stampArrives_70 : decode cMo_stampArrives 70 = .ok (.aload_n 0, 1) := by decide +kernel
theorem dMo_stampArrives_71 : decode cMo_stampArrives 71 = .ok (.getfield 38, 3) := by decide +kernel
theorem dMo_stampArrives_74 : decode cMo_stampArrives 74 = .ok (.iload_n 2, 1) := by decide +kernel
theorem dMo_stampArrives_75 : decode cMo_stampArrives 75 = .ok (.iaload, 1) := by decide +kernel
theorem dMo_stampArrives_76 : decode cMo_stampArrives 76 = .ok (.iload 4, 2) := by decide +kernel
theorem dMo_stampArrives_78 : decode cMo_stampArrives 78 = .ok (.if_icmp .lt 19, 3) := by decide +kernel
theorem dMo_stampArrives_81 : decode cMo_stampArrives 81 = .ok (.aload_n 0, 1) := by decide +kernel
theorem dMo_stampArrives_82 : decode cMo_stampArrives 82 = .ok (.getfield 38, 3) := by decide +kernel
theorem dMo_stampArrives_85 : decode cMo_stampArrives 85 = .ok (.iload_n 2, 1) := by decide +kernel
theorem dMo_stampArrives_86 : decode cMo_stampArrives 86 = .ok (.iaload, 1) := by decide +kernel
theorem dMo_stampArrives_87 : decode cMo_stampArrives 87 = .ok (.iload 4, 2) := by decide +kernel
theorem dMo_stampArrives_89 : decode cMo_stampArrives 89 = .ok (.if_icmp .ne 12, 3) := by decide +kernel
theorem dMo_stampArrives_92 : decode cMo_stampArrives 92 = .ok (.iload_n 2, 1) := by decide +kernel
theorem dMo_stampArrives_93 : decode cMo_stampArrives 93 = .ok (.iload_n 1, 1) := by decide +kernel
theorem dMo_stampArrives_94 : decode cMo_stampArrives 94 = .ok (.if_icmp .ge 7, 3) := by decide +kernel
theorem dMo_stampArrives_97 : decode cMo_stampArrives 97 = .ok (.iconst 1, 1) := by decide +kernel
theorem dMo_stampArrives_98 : decode cMo_stampArrives 98 = .ok (.goto 4, 3) := by decide +kernel
theorem dMo_stampArrives_101 : decode cMo_stampArrives 101 = .ok (.iconst 0, 1) := by decide +kernel
theorem dMo_stampArrives_102 : decode cMo_stampArrives 102 = .ok (.istore 5, 2) := by decide +kernel
theorem dMo_stampArrives_104 : decode cMo_stampArrives 104 = .ok (.aload_n 0, 1) := by decide +kernel
theorem dMo_stampArrives_105 : decode cMo_stampArrives 105 = .ok (.getfield 32, 3) := by decide +kernel
theorem dMo_stampArrives_108 : decode cMo_stampArrives 108 = .ok (.iload_n 2, 1) := by decide +kernel
theorem dMo_stampArrives_109 : decode cMo_stampArrives 109 = .ok (.iaload, 1) := by decide +kernel
theorem dMo_stampArrives_110 : decode cMo_stampArrives 110 = .ok (.iconst 2, 1) := by decide +kernel
theorem dMo_stampArrives_111 : decode cMo_stampArrives 111 = .ok (.if_icmp .eq 18, 3) := by decide +kernel
theorem dMo_stampArrives_114 : decode cMo_stampArrives 114 = .ok (.aload_n 0, 1) := by decide +kernel
theorem dMo_stampArrives_115 : decode cMo_stampArrives 115 = .ok (.getfield 32, 3) := by decide +kernel
theorem dMo_stampArrives_118 : decode cMo_stampArrives 118 = .ok (.iload_n 2, 1) := by decide +kernel
theorem dMo_stampArrives_119 : decode cMo_stampArrives 119 = .ok (.iaload, 1) := by decide +kernel
theorem dMo_stampArrives_120 : decode cMo_stampArrives 120 = .ok (.iconst 1, 1) := by decide +kernel
theorem dMo_stampArrives_121 : decode cMo_stampArrives 121 = .ok (.if_icmp .ne 23, 3) := by decide +kernel
theorem dMo_stampArrives_124 : decode cMo_stampArrives 124 = .ok (.iload 5, 2) := by decide +kernel
theorem dMo_stampArrives_126 : decode cMo_stampArrives 126 = .ok (.ifCond .eq 18, 3) := by decide +kernel
theorem dMo_stampArrives_129 : decode cMo_stampArrives 129 = .ok (.aload_n 0, 1) := by decide +kernel
theorem dMo_stampArrives_130 : decode cMo_stampArrives 130 = .ok (.getfield 44, 3) := by decide +kernel
theorem dMo_stampArrives_133 : decode cMo_stampArrives 133 = .ok (.iload_n 2, 1) := by decide +kernel
theorem dMo_stampArrives_134 : decode cMo_stampArrives 134 = .ok (.dup2, 1) := by decide +kernel
theorem dMo_stampArrives_135 : decode cMo_stampArrives 135 = .ok (.iaload, 1) := by decide +kernel
theorem dMo_stampArrives_136 : decode cMo_stampArrives 136 = .ok (.iconst 1, 1) := by decide +kernel
theorem dMo_stampArrives_137 : decode cMo_stampArrives 137 = .ok (.iload_n 1, 1) := by decide +kernel
theorem dMo_stampArrives_138 : decode cMo_stampArrives 138 = .ok (.ishl, 1) := by decide +kernel
theorem dMo_stampArrives_139 : decode cMo_stampArrives 139 = .ok (.ior, 1) := by decide +kernel
theorem dMo_stampArrives_140 : decode cMo_stampArrives 140 = .ok (.iastore, 1) := by decide +kernel
theorem dMo_stampArrives_141 : decode cMo_stampArrives 141 = .ok (.goto 12, 3) := by decide +kernel
theorem dMo_stampArrives_144 : decode cMo_stampArrives 144 = .ok (.aload_n 0, 1) := by decide +kernel
theorem dMo_stampArrives_145 : decode cMo_stampArrives 145 = .ok (.iload_n 2, 1) := by decide +kernel
theorem dMo_stampArrives_146 : decode cMo_stampArrives 146 = .ok (.iload_n 1, 1) := by decide +kernel
theorem dMo_stampArrives_147 : decode cMo_stampArrives 147 = .ok (.iconst 0, 1) := by decide +kernel
theorem dMo_stampArrives_148 : decode cMo_stampArrives 148 = .ok (.iconst 1, 1) := by decide +kernel
theorem dMo_stampArrives_149 : decode cMo_stampArrives 149 = .ok (.iconst 0, 1) := by decide +kernel
theorem dMo_stampArrives_150 : decode cMo_stampArrives 150 = .ok (.invokevirtual 99, 3) := by decide +kernel
theorem dMo_stampArrives_153 : decode cMo_stampArrives 153 = .ok (.return_, 1) := by decide +kernel
theorem dMo_tokenArrives_0 : decode cMo_tokenArrives 0 = .ok (.iload_n 3, 1) := by decide +kernel
theorem dMo_tokenArrives_1 : decode cMo_tokenArrives 1 = .ok (.iconst 1, 1) := by decide +kernel
theorem dMo_tokenArrives_2 : decode cMo_tokenArrives 2 = .ok (.if_icmp .ne 15, 3) := by decide +kernel
theorem dMo_tokenArrives_5 : decode cMo_tokenArrives 5 = .ok (.aload_n 0, 1) := by decide +kernel
theorem dMo_tokenArrives_6 : decode cMo_tokenArrives 6 = .ok (.iload_n 2, 1) := by decide +kernel
theorem dMo_tokenArrives_7 : decode cMo_tokenArrives 7 = .ok (.putfield 134, 3) := by decide +kernel
theorem dMo_tokenArrives_10 : decode cMo_tokenArrives 10 = .ok (.aload_n 0, 1) := by decide +kernel
theorem dMo_tokenArrives_11 : decode cMo_tokenArrives 11 = .ok (.iconst 1, 1) := by decide +kernel
theorem dMo_tokenArrives_12 : decode cMo_tokenArrives 12 = .ok (.iload_n 2, 1) := by decide +kernel
theorem dMo_tokenArrives_13 : decode cMo_tokenArrives 13 = .ok (.invokevirtual 137, 3) := by decide +kernel
theorem dMo_tokenArrives_16 : decode cMo_tokenArrives 16 = .ok (.return_, 1) := by decide +kernel
theorem dMo_tokenArrives_17 : decode cMo_tokenArrives 17 = .ok (.aload_n 0, 1) := by decide +kernel
theorem dMo_tokenArrives_18 : decode cMo_tokenArrives 18 = .ok (.getfield 47, 3) := by decide +kernel
theorem dMo_tokenArrives_21 : decode cMo_tokenArrives 21 = .ok (.iconst 4, 1) := by decide +kernel
theorem dMo_tokenArrives_22 : decode cMo_tokenArrives 22 = .ok (.iload_n 2, 1) := by decide +kernel
theorem dMo_tokenArrives_23 : decode cMo_tokenArrives 23 = .ok (.imul, 1) := by decide +kernel
theorem dMo_tokenArrives_24 : decode cMo_tokenArrives 24 = .ok (.iload_n 1, 1) := by decide +kernel
theorem dMo_tokenArrives_25 : decode cMo_tokenArrives 25 = .ok (.iadd, 1) := by decide +kernel
theorem dMo_tokenArrives_26 : decode cMo_tokenArrives 26 = .ok (.iload 4, 2) := by decide +kernel
theorem dMo_tokenArrives_28 : decode cMo_tokenArrives 28 = .ok (.aload_n 0, 1) := by decide +kernel
theorem dMo_tokenArrives_29 : decode cMo_tokenArrives 29 = .ok (.getfield 47, 3) := by decide +kernel
theorem dMo_tokenArrives_32 : decode cMo_tokenArrives 32 = .ok (.iconst 4, 1) := by decide +kernel
theorem dMo_tokenArrives_33 : decode cMo_tokenArrives 33 = .ok (.iload_n 2, 1) := by decide +kernel
theorem dMo_tokenArrives_34 : decode cMo_tokenArrives 34 = .ok (.imul, 1) := by decide +kernel
theorem dMo_tokenArrives_35 : decode cMo_tokenArrives 35 = .ok (.iload_n 1, 1) := by decide +kernel
theorem dMo_tokenArrives_36 : decode cMo_tokenArrives 36 = .ok (.iadd, 1) := by decide +kernel
theorem dMo_tokenArrives_37 : decode cMo_tokenArrives 37 = .ok (.iaload, 1) := by decide +kernel
theorem dMo_tokenArrives_38 : decode cMo_tokenArrives 38 = .ok (.if_icmp .le 8, 3) := by decide +kernel
theorem dMo_tokenArrives_41 : decode cMo_tokenArrives 41 = .ok (.iload 4, 2) := by decide +kernel
theorem dMo_tokenArrives_43 : decode cMo_tokenArrives 43 = .ok (.goto 13, 3) := by decide +kernel
theorem dMo_tokenArrives_46 : decode cMo_tokenArrives 46 = .ok (.aload_n 0, 1) := by decide +kernel
theorem dMo_tokenArrives_47 : decode cMo_tokenArrives 47 = .ok (.getfield 47, 3) := by decide +kernel
theorem dMo_tokenArrives_50 : decode cMo_tokenArrives 50 = .ok (.iconst 4, 1) := by decide +kernel
theorem dMo_tokenArrives_51 : decode cMo_tokenArrives 51 = .ok (.iload_n 2, 1) := by decide +kernel
theorem dMo_tokenArrives_52 : decode cMo_tokenArrives 52 = .ok (.imul, 1) := by decide +kernel
theorem dMo_tokenArrives_53 : decode cMo_tokenArrives 53 = .ok (.iload_n 1, 1) := by decide +kernel
theorem dMo_tokenArrives_54 : decode cMo_tokenArrives 54 = .ok (.iadd, 1) := by decide +kernel
theorem dMo_tokenArrives_55 : decode cMo_tokenArrives 55 = .ok (.iaload, 1) := by decide +kernel
theorem dMo_tokenArrives_56 : decode cMo_tokenArrives 56 = .ok (.iastore, 1) := by decide +kernel
theorem dMo_tokenArrives_57 : decode cMo_tokenArrives 57 = .ok (.aload_n 0, 1) := by decide +kernel
theorem dMo_tokenArrives_58 : decode cMo_tokenArrives 58 = .ok (.getfield 134, 3) := by decide +kernel
theorem dMo_tokenArrives_61 : decode cMo_tokenArrives 61 = .ok (.iload_n 2, 1) := by decide +kernel
theorem dMo_tokenArrives_62 : decode cMo_tokenArrives 62 = .ok (.if_icmp .ne 37, 3) := by decide +kernel
theorem dMo_tokenArrives_65 : decode cMo_tokenArrives 65 = .ok (.aload_n 0, 1) := by decide +kernel
theorem dMo_tokenArrives_66 : decode cMo_tokenArrives 66 = .ok (.getfield 32, 3) := by decide +kernel
theorem dMo_tokenArrives_69 : decode cMo_tokenArrives 69 = .ok (.iconst 4, 1) := by decide +kernel
theorem dMo_tokenArrives_70 : decode cMo_tokenArrives 70 = .ok (.iload_n 2, 1) := by decide +kernel
theorem dMo_tokenArrives_71 : decode cMo_tokenArrives 71 = .ok (.iadd, 1) := by decide +kernel
theorem dMo_tokenArrives_72 : decode cMo_tokenArrives 72 = .ok (.iaload, 1) := by decide +kernel
theorem dMo_tokenArrives_73 : decode cMo_tokenArrives 73 = .ok (.ifCond .ne 26, 3) := by decide +kernel
theorem dMo_tokenArrives_76 : decode cMo_tokenArrives 76 = .ok (.aload_n 0, 1) := by decide +kernel
theorem dMo_tokenArrives_77 : decode cMo_tokenArrives 77 = .ok (.iload_n 2, 1) := by decide +kernel
theorem dMo_tokenArrives_78 : decode cMo_tokenArrives 78 = .ok (.iload_n 1, 1) := by decide +kernel
theorem dMo_tokenArrives_79 : decode cMo_tokenArrives 79 = .ok (.invokevirtual 154, 3) := by decide +kernel
theorem dMo_tokenArrives_82 : decode cMo_tokenArrives 82 = .ok (.ifCond .eq 17, 3) := by decide +kernel
theorem dMo_tokenArrives_85 : decode cMo_tokenArrives 85 = .ok (.aload_n 0, 1) := by decide +kernel
theorem dMo_tokenArrives_86 : decode cMo_tokenArrives 86 = .ok (.iconst (-1), 1) := by decide +kernel
theorem dMo_tokenArrives_87 : decode cMo_tokenArrives 87 = .ok (.putfield 134, 3) := by decide +kernel
theorem dMo_tokenArrives_90 : decode cMo_tokenArrives 90 = .ok (.aload_n 0, 1) := by decide +kernel
theorem dMo_tokenArrives_91 : decode cMo_tokenArrives 91 = .ok (.iload_n 2, 1) := by decide +kernel
theorem dMo_tokenArrives_92 : decode cMo_tokenArrives 92 = .ok (.iload_n 1, 1) := by decide +kernel
theorem dMo_tokenArrives_93 : decode cMo_tokenArrives 93 = .ok (.iconst 1, 1) := by decide +kernel
theorem dMo_tokenArrives_94 : decode cMo_tokenArrives 94 = .ok (.iconst 1, 1) := by decide +kernel
theorem dMo_tokenArrives_95 : decode cMo_tokenArrives 95 = .ok (.iconst 0, 1) := by decide +kernel
theorem dMo_tokenArrives_96 : decode cMo_tokenArrives 96 = .ok (.invokevirtual 99, 3) := by decide +kernel
theorem dMo_tokenArrives_99 : decode cMo_tokenArrives 99 = .ok (.return_, 1) := by decide +kernel
theorem dMo_treeArrives_0 : decode cMo_treeArrives 0 = .ok (.iload_n 3, 1) := by decide +kernel
theorem dMo_treeArrives_1 : decode cMo_treeArrives 1 = .ok (.ifCond .ne 12, 3) := by decide +kernel
theorem dMo_treeArrives_4 : decode cMo_treeArrives 4 = .ok (.aload_n 0, 1) := by decide +kernel
theorem dMo_treeArrives_5 : decode cMo_treeArrives 5 = .ok (.iload_n 2, 1) := by decide +kernel
theorem dMo_treeArrives_6 : decode cMo_treeArrives 6 = .ok (.iload_n 1, 1) := by decide +kernel
theorem dMo_treeArrives_7 : decode cMo_treeArrives 7 = .ok (.invokevirtual 144, 3) := by decide +kernel
theorem dMo_treeArrives_10 : decode cMo_treeArrives 10 = .ok (.goto 10, 3) := by decide +kernel
theorem dMo_treeArrives_13 : decode cMo_treeArrives 13 = .ok (.aload_n 0, 1) := by decide +kernel
theorem dMo_treeArrives_14 : decode cMo_treeArrives 14 = .ok (.getfield 56, 3) := by decide +kernel
theorem dMo_treeArrives_17 : decode cMo_treeArrives 17 = .ok (.iload_n 2, 1) := by decide +kernel
theorem dMo_treeArrives_18 : decode cMo_treeArrives 18 = .ok (.iload_n 2, 1) := by decide +kernel
theorem dMo_treeArrives_19 : decode cMo_treeArrives 19 = .ok (.iastore, 1) := by decide +kernel
theorem dMo_treeArrives_20 : decode cMo_treeArrives 20 = .ok (.aload_n 0, 1) := by decide +kernel
theorem dMo_treeArrives_21 : decode cMo_treeArrives 21 = .ok (.iload_n 2, 1) := by decide +kernel
theorem dMo_treeArrives_22 : decode cMo_treeArrives 22 = .ok (.invokevirtual 147, 3) := by decide +kernel
theorem dMo_treeArrives_25 : decode cMo_treeArrives 25 = .ok (.return_, 1) := by decide +kernel
theorem dMo_ringArrives_0 : decode cMo_ringArrives 0 = .ok (.iload_n 1, 1) := by decide +kernel
theorem dMo_ringArrives_1 : decode cMo_ringArrives 1 = .ok (.iconst 1, 1) := by decide +kernel
theorem dMo_ringArrives_2 : decode cMo_ringArrives 2 = .ok (.iadd, 1) := by decide +kernel
theorem dMo_ringArrives_3 : decode cMo_ringArrives 3 = .ok (.iconst 4, 1) := by decide +kernel
theorem dMo_ringArrives_4 : decode cMo_ringArrives 4 = .ok (.irem, 1) := by decide +kernel
theorem dMo_ringArrives_5 : decode cMo_ringArrives 5 = .ok (.istore 4, 2) := by decide +kernel
theorem dMo_ringArrives_7 : decode cMo_ringArrives 7 = .ok (.iload_n 2, 1) := by decide +kernel
theorem dMo_ringArrives_8 : decode cMo_ringArrives 8 = .ok (.iconst 1, 1) := by decide +kernel
theorem dMo_ringArrives_9 : decode cMo_ringArrives 9 = .ok (.if_icmp .ne 38, 3) := by decide +kernel
theorem dMo_ringArrives_12 : decode cMo_ringArrives 12 = .ok (.iload_n 3, 1) := by decide +kernel
theorem dMo_ringArrives_13 : decode cMo_ringArrives 13 = .ok (.aload_n 0, 1) := by decide +kernel
theorem dMo_ringArrives_14 : decode cMo_ringArrives 14 = .ok (.getfield 69, 3) := by decide +kernel
theorem dMo_ringArrives_17 : decode cMo_ringArrives 17 = .ok (.iload_n 1, 1) := by decide +kernel
theorem dMo_ringArrives_18 : decode cMo_ringArrives 18 = .ok (.iaload, 1) := by decide +kernel
theorem dMo_ringArrives_19 : decode cMo_ringArrives 19 = .ok (.if_icmp .eq 27, 3) := by decide +kernel
theorem dMo_ringArrives_22 : decode cMo_ringArrives 22 = .ok (.aload_n 0, 1) := by decide +kernel
theorem dMo_ringArrives_23 : decode cMo_ringArrives 23 = .ok (.getfield 72, 3) := by decide +kernel
theorem dMo_ringArrives_26 : decode cMo_ringArrives 26 = .ok (.iload_n 1, 1) := by decide +kernel
theorem dMo_ringArrives_27 : decode cMo_ringArrives 27 = .ok (.iload_n 3, 1) := by decide +kernel
theorem dMo_ringArrives_28 : decode cMo_ringArrives 28 = .ok (.iastore, 1) := by decide +kernel
theorem dMo_ringArrives_29 : decode cMo_ringArrives 29 = .ok (.aload_n 0, 1) := by decide +kernel
theorem dMo_ringArrives_30 : decode cMo_ringArrives 30 = .ok (.getfield 75, 3) := by decide +kernel
theorem dMo_ringArrives_33 : decode cMo_ringArrives 33 = .ok (.iload_n 1, 1) := by decide +kernel
theorem dMo_ringArrives_34 : decode cMo_ringArrives 34 = .ok (.iconst 0, 1) := by decide +kernel
theorem dMo_ringArrives_35 : decode cMo_ringArrives 35 = .ok (.bastore, 1) := by decide +kernel
theorem dMo_ringArrives_36 : decode cMo_ringArrives 36 = .ok (.aload_n 0, 1) := by decide +kernel
theorem dMo_ringArrives_37 : decode cMo_ringArrives 37 = .ok (.iload_n 1, 1) := by decide +kernel
theorem dMo_ringArrives_38 : decode cMo_ringArrives 38 = .ok (.iload 4, 2) := by decide +kernel
theorem dMo_ringArrives_40 : decode cMo_ringArrives 40 = .ok (.iconst 3, 1) := by decide +kernel
theorem dMo_ringArrives_41 : decode cMo_ringArrives 41 = .ok (.iconst 1, 1) := by decide +kernel
theorem dMo_ringArrives_42 : decode cMo_ringArrives 42 = .ok (.iload_n 3, 1) := by decide +kernel
theorem dMo_ringArrives_43 : decode cMo_ringArrives 43 = .ok (.invokevirtual 99, 3) := by decide +kernel
theorem dMo_ringArrives_46 : decode cMo_ringArrives 46 = .ok (.return_, 1) := by decide +kernel
theorem dMo_ringArrives_47 : decode cMo_ringArrives 47 = .ok (.iload_n 3, 1) := by decide +kernel
theorem dMo_ringArrives_48 : decode cMo_ringArrives 48 = .ok (.aload_n 0, 1) := by decide +kernel
theorem dMo_ringArrives_49 : decode cMo_ringArrives 49 = .ok (.getfield 69, 3) := by decide +kernel
theorem dMo_ringArrives_52 : decode cMo_ringArrives 52 = .ok (.iload_n 1, 1) := by decide +kernel
theorem dMo_ringArrives_53 : decode cMo_ringArrives 53 = .ok (.iaload, 1) := by decide +kernel
theorem dMo_ringArrives_54 : decode cMo_ringArrives 54 = .ok (.if_icmp .ne 30, 3) := by decide +kernel
theorem dMo_ringArrives_57 : decode cMo_ringArrives 57 = .ok (.aload_n 0, 1) := by decide +kernel
theorem dMo_ringArrives_58 : decode cMo_ringArrives 58 = .ok (.getfield 75, 3) := by decide +kernel
theorem dMo_ringArrives_61 : decode cMo_ringArrives 61 = .ok (.iload_n 1, 1) := by decide +kernel
theorem dMo_ringArrives_62 : decode cMo_ringArrives 62 = .ok (.iconst 0, 1) := by decide +kernel
theorem dMo_ringArrives_63 : decode cMo_ringArrives 63 = .ok (.bastore, 1) := by decide +kernel
theorem dMo_ringArrives_64 : decode cMo_ringArrives 64 = .ok (.aload_n 0, 1) := by decide +kernel
theorem dMo_ringArrives_65 : decode cMo_ringArrives 65 = .ok (.getfield 72, 3) := by decide +kernel
theorem dMo_ringArrives_68 : decode cMo_ringArrives 68 = .ok (.iload_n 1, 1) := by decide +kernel
theorem dMo_ringArrives_69 : decode cMo_ringArrives 69 = .ok (.iload_n 3, 1) := by decide +kernel
theorem dMo_ringArrives_70 : decode cMo_ringArrives 70 = .ok (.iastore, 1) := by decide +kernel
theorem dMo_ringArrives_71 : decode cMo_ringArrives 71 = .ok (.aload_n 0, 1) := by decide +kernel
theorem dMo_ringArrives_72 : decode cMo_ringArrives 72 = .ok (.iload_n 1, 1) := by decide +kernel
theorem dMo_ringArrives_73 : decode cMo_ringArrives 73 = .ok (.iload 4, 2) := by decide +kernel
theorem dMo_ringArrives_75 : decode cMo_ringArrives 75 = .ok (.iconst 3, 1) := by decide +kernel
theorem dMo_ringArrives_76 : decode cMo_ringArrives 76 = .ok (.iconst 1, 1) := by decide +kernel
theorem dMo_ringArrives_77 : decode cMo_ringArrives 77 = .ok (.iload_n 3, 1) := by decide +kernel
theorem dMo_ringArrives_78 : decode cMo_ringArrives 78 = .ok (.invokevirtual 99, 3) := by decide +kernel
theorem dMo_ringArrives_81 : decode cMo_ringArrives 81 = .ok (.goto 58, 3) := by decide +kernel
theorem dMo_ringArrives_84 : decode cMo_ringArrives 84 = .ok (.iload_n 3, 1) := by decide +kernel
theorem dMo_ringArrives_85 : decode cMo_ringArrives 85 = .ok (.aload_n 0, 1) := by decide +kernel
theorem dMo_ringArrives_86 : decode cMo_ringArrives 86 = .ok (.getfield 69, 3) := by decide +kernel
theorem dMo_ringArrives_89 : decode cMo_ringArrives 89 = .ok (.iload_n 1, 1) := by decide +kernel
theorem dMo_ringArrives_90 : decode cMo_ringArrives 90 = .ok (.iaload, 1) := by decide +kernel
theorem dMo_ringArrives_91 : decode cMo_ringArrives 91 = .ok (.if_icmp .gt 12, 3) := by decide +kernel
theorem dMo_ringArrives_94 : decode cMo_ringArrives 94 = .ok (.aload_n 0, 1) := by decide +kernel
theorem dMo_ringArrives_95 : decode cMo_ringArrives 95 = .ok (.getfield 75, 3) := by decide +kernel
theorem dMo_ringArrives_98 : decode cMo_ringArrives 98 = .ok (.iload_n 1, 1) := by decide +kernel
theorem dMo_ringArrives_99 : decode cMo_ringArrives 99 = .ok (.baload, 1) := by decide +kernel
theorem dMo_ringArrives_100 : decode cMo_ringArrives 100 = .ok (.ifCond .ne 39, 3) := by decide +kernel
theorem dMo_ringArrives_103 : decode cMo_ringArrives 103 = .ok (.aload_n 0, 1) := by decide +kernel
theorem dMo_ringArrives_104 : decode cMo_ringArrives 104 = .ok (.getfield 75, 3) := by decide +kernel
theorem dMo_ringArrives_107 : decode cMo_ringArrives 107 = .ok (.iload_n 1, 1) := by decide +kernel
theorem dMo_ringArrives_108 : decode cMo_ringArrives 108 = .ok (.iconst 1, 1) := by decide +kernel
theorem dMo_ringArrives_109 : decode cMo_ringArrives 109 = .ok (.bastore, 1) := by decide +kernel
theorem dMo_ringArrives_110 : decode cMo_ringArrives 110 = .ok (.aload_n 0, 1) := by decide +kernel
theorem dMo_ringArrives_111 : decode cMo_ringArrives 111 = .ok (.iload_n 1, 1) := by decide +kernel
theorem dMo_ringArrives_112 : decode cMo_ringArrives 112 = .ok (.iload 4, 2) := by decide +kernel
theorem dMo_ringArrives_114 : decode cMo_ringArrives 114 = .ok (.iconst 3, 1) := by decide +kernel
theorem dMo_ringArrives_115 : decode cMo_ringArrives 115 = .ok (.iconst 0, 1) := by decide +kernel
theorem dMo_ringArrives_116 : decode cMo_ringArrives 116 = .ok (.iload_n 3, 1) := by decide +kernel
theorem dMo_ringArrives_117 : decode cMo_ringArrives 117 = .ok (.aload_n 0, 1) := by decide +kernel
theorem dMo_ringArrives_118 : decode cMo_ringArrives 118 = .ok (.getfield 69, 3) := by decide +kernel
theorem dMo_ringArrives_121 : decode cMo_ringArrives 121 = .ok (.iload_n 1, 1) := by decide +kernel
theorem dMo_ringArrives_122 : decode cMo_ringArrives 122 = .ok (.iaload, 1) := by decide +kernel
theorem dMo_ringArrives_123 : decode cMo_ringArrives 123 = .ok (.if_icmp .le 7, 3) := by decide +kernel
theorem dMo_ringArrives_126 : decode cMo_ringArrives 126 = .ok (.iload_n 3, 1) := by decide +kernel
theorem dMo_ringArrives_127 : decode cMo_ringArrives 127 = .ok (.goto 9, 3) := by decide +kernel
theorem dMo_ringArrives_130 : decode cMo_ringArrives 130 = .ok (.aload_n 0, 1) := by decide +kernel
theorem dMo_ringArrives_131 : decode cMo_ringArrives 131 = .ok (.getfield 69, 3) := by decide +kernel
theorem dMo_ringArrives_134 : decode cMo_ringArrives 134 = .ok (.iload_n 1, 1) := by decide +kernel
theorem dMo_ringArrives_135 : decode cMo_ringArrives 135 = .ok (.iaload, 1) := by decide +kernel
theorem dMo_ringArrives_136 : decode cMo_ringArrives 136 = .ok (.invokevirtual 99, 3) := by decide +kernel
theorem dMo_ringArrives_139 : decode cMo_ringArrives 139 = .ok (.return_, 1) := by decide +kernel
theorem dMo_workArrives_0 : decode cMo_workArrives 0 = .ok (.iload_n 3, 1) := by decide +kernel
theorem dMo_workArrives_1 : decode cMo_workArrives 1 = .ok (.iconst 1, 1) := by decide +kernel
theorem dMo_workArrives_2 : decode cMo_workArrives 2 = .ok (.if_icmp .ne 16, 3) := by decide +kernel
theorem dMo_workArrives_5 : decode cMo_workArrives 5 = .ok (.aload_n 0, 1) := by decide +kernel
theorem dMo_workArrives_6 : decode cMo_workArrives 6 = .ok (.getfield 87, 3) := by decide +kernel
theorem dMo_workArrives_9 : decode cMo_workArrives 9 = .ok (.iload_n 2, 1) := by decide +kernel
theorem dMo_workArrives_10 : decode cMo_workArrives 10 = .ok (.dup2, 1) := by decide +kernel
theorem dMo_workArrives_11 : decode cMo_workArrives 11 = .ok (.iaload, 1) := by decide +kernel
theorem dMo_workArrives_12 : decode cMo_workArrives 12 = .ok (.iconst 1, 1) := by decide +kernel
theorem dMo_workArrives_13 : decode cMo_workArrives 13 = .ok (.isub, 1) := by decide +kernel
theorem dMo_workArrives_14 : decode cMo_workArrives 14 = .ok (.iastore, 1) := by decide +kernel
theorem dMo_workArrives_15 : decode cMo_workArrives 15 = .ok (.goto 46, 3) := by decide +kernel
theorem dMo_workArrives_18 : decode cMo_workArrives 18 = .ok (.aload_n 0, 1) := by decide +kernel
theorem dMo_workArrives_19 : decode cMo_workArrives 19 = .ok (.getfield 78, 3) := by decide +kernel
theorem dMo_workArrives_22 : decode cMo_workArrives 22 = .ok (.iload_n 2, 1) := by decide +kernel
theorem dMo_workArrives_23 : decode cMo_workArrives 23 = .ok (.if_icmp .eq 12, 3) := by decide +kernel
theorem dMo_workArrives_26 : decode cMo_workArrives 26 = .ok (.aload_n 0, 1) := by decide +kernel
theorem dMo_workArrives_27 : decode cMo_workArrives 27 = .ok (.getfield 84, 3) := by decide +kernel
theorem dMo_workArrives_30 : decode cMo_workArrives 30 = .ok (.iload_n 2, 1) := by decide +kernel
theorem dMo_workArrives_31 : decode cMo_workArrives 31 = .ok (.iaload, 1) := by decide +kernel
theorem dMo_workArrives_32 : decode cMo_workArrives 32 = .ok (.ifCond .lt 15, 3) := by decide +kernel
theorem dMo_workArrives_35 : decode cMo_workArrives 35 = .ok (.aload_n 0, 1) := by decide +kernel
theorem dMo_workArrives_36 : decode cMo_workArrives 36 = .ok (.iload_n 2, 1) := by decide +kernel
theorem dMo_workArrives_37 : decode cMo_workArrives 37 = .ok (.iload_n 1, 1) := by decide +kernel
theorem dMo_workArrives_38 : decode cMo_workArrives 38 = .ok (.iconst 4, 1) := by decide +kernel
theorem dMo_workArrives_39 : decode cMo_workArrives 39 = .ok (.iconst 1, 1) := by decide +kernel
theorem dMo_workArrives_40 : decode cMo_workArrives 40 = .ok (.iconst 0, 1) := by decide +kernel
theorem dMo_workArrives_41 : decode cMo_workArrives 41 = .ok (.invokevirtual 99, 3) := by decide +kernel
theorem dMo_workArrives_44 : decode cMo_workArrives 44 = .ok (.goto 10, 3) := by decide +kernel
theorem dMo_workArrives_47 : decode cMo_workArrives 47 = .ok (.aload_n 0, 1) := by decide +kernel
theorem dMo_workArrives_48 : decode cMo_workArrives 48 = .ok (.getfield 84, 3) := by decide +kernel
theorem dMo_workArrives_51 : decode cMo_workArrives 51 = .ok (.iload_n 2, 1) := by decide +kernel
theorem dMo_workArrives_52 : decode cMo_workArrives 52 = .ok (.iload_n 1, 1) := by decide +kernel
theorem dMo_workArrives_53 : decode cMo_workArrives 53 = .ok (.iastore, 1) := by decide +kernel
theorem dMo_workArrives_54 : decode cMo_workArrives 54 = .ok (.aload_n 0, 1) := by decide +kernel
theorem dMo_workArrives_55 : decode cMo_workArrives 55 = .ok (.getfield 81, 3) := by decide +kernel
theorem dMo_workArrives_58 : decode cMo_workArrives 58 = .ok (.iload_n 2, 1) := by decide +kernel
theorem dMo_workArrives_59 : decode cMo_workArrives 59 = .ok (.iconst 1, 1) := by decide +kernel
theorem dMo_workArrives_60 : decode cMo_workArrives 60 = .ok (.bastore, 1) := by decide +kernel
theorem dMo_workArrives_61 : decode cMo_workArrives 61 = .ok (.aload_n 0, 1) := by decide +kernel
theorem dMo_workArrives_62 : decode cMo_workArrives 62 = .ok (.iload_n 2, 1) := by decide +kernel
theorem dMo_workArrives_63 : decode cMo_workArrives 63 = .ok (.invokevirtual 167, 3) := by decide +kernel
theorem dMo_workArrives_66 : decode cMo_workArrives 66 = .ok (.return_, 1) := by decide +kernel
theorem dMo_want_0 : decode cMo_want 0 = .ok (.aload_n 0, 1) := by decide +kernel
theorem dMo_want_1 : decode cMo_want 1 = .ok (.iload_n 1, 1) := by decide +kernel
theorem dMo_want_2 : decode cMo_want 2 = .ok (.iload_n 2, 1) := by decide +kernel
theorem dMo_want_3 : decode cMo_want 3 = .ok (.invokestatic 131, 3) := by decide +kernel
theorem dMo_want_6 : decode cMo_want 6 = .ok (.ifCond .ne 7, 3) := by decide +kernel
theorem dMo_want_9 : decode cMo_want 9 = .ok (.iconst 1, 1) := by decide +kernel
theorem dMo_want_10 : decode cMo_want 10 = .ok (.goto 21, 3) := by decide +kernel
theorem dMo_want_13 : decode cMo_want 13 = .ok (.aload_n 0, 1) := by decide +kernel
theorem dMo_want_14 : decode cMo_want 14 = .ok (.getfield 32, 3) := by decide +kernel
theorem dMo_want_17 : decode cMo_want 17 = .ok (.iconst 4, 1) := by decide +kernel
theorem dMo_want_18 : decode cMo_want 18 = .ok (.iload_n 1, 1) := by decide +kernel
theorem dMo_want_19 : decode cMo_want 19 = .ok (.imul, 1) := by decide +kernel
theorem dMo_want_20 : decode cMo_want 20 = .ok (.iload_n 2, 1) := by decide +kernel
theorem dMo_want_21 : decode cMo_want 21 = .ok (.iadd, 1) := by decide +kernel
theorem dMo_want_22 : decode cMo_want 22 = .ok (.iaload, 1) := by decide +kernel
theorem dMo_want_23 : decode cMo_want 23 = .ok (.ifCond .eq 7, 3) := by decide +kernel
theorem dMo_want_26 : decode cMo_want 26 = .ok (.iconst 2, 1) := by decide +kernel
theorem dMo_want_27 : decode cMo_want 27 = .ok (.goto 4, 3) := by decide +kernel
theorem dMo_want_30 : decode cMo_want 30 = .ok (.iconst 0, 1) := by decide +kernel
theorem dMo_want_31 : decode cMo_want 31 = .ok (.putfield 90, 3) := by decide +kernel
theorem dMo_want_34 : decode cMo_want 34 = .ok (.aload_n 0, 1) := by decide +kernel
theorem dMo_want_35 : decode cMo_want 35 = .ok (.getfield 90, 3) := by decide +kernel
theorem dMo_want_38 : decode cMo_want 38 = .ok (.ifCond .eq 4, 3) := by decide +kernel
theorem dMo_want_41 : decode cMo_want 41 = .ok (.return_, 1) := by decide +kernel
theorem dMo_want_42 : decode cMo_want 42 = .ok (.iload_n 1, 1) := by decide +kernel
theorem dMo_want_43 : decode cMo_want 43 = .ok (.iconst 1, 1) := by decide +kernel
theorem dMo_want_44 : decode cMo_want 44 = .ok (.if_icmp .ne 18, 3) := by decide +kernel
theorem dMo_want_47 : decode cMo_want 47 = .ok (.aload_n 0, 1) := by decide +kernel
theorem dMo_want_48 : decode cMo_want 48 = .ok (.getfield 134, 3) := by decide +kernel
theorem dMo_want_51 : decode cMo_want 51 = .ok (.iload_n 2, 1) := by decide +kernel
theorem dMo_want_52 : decode cMo_want 52 = .ok (.if_icmp .ne 10, 3) := by decide +kernel
theorem dMo_want_55 : decode cMo_want 55 = .ok (.aload_n 0, 1) := by decide +kernel
theorem dMo_want_56 : decode cMo_want 56 = .ok (.iconst 1, 1) := by decide +kernel
theorem dMo_want_57 : decode cMo_want 57 = .ok (.iload_n 2, 1) := by decide +kernel
theorem dMo_want_58 : decode cMo_want 58 = .ok (.invokevirtual 137, 3) := by decide +kernel
theorem dMo_want_61 : decode cMo_want 61 = .ok (.return_, 1) := by decide +kernel
theorem dMo_want_62 : decode cMo_want 62 = .ok (.aload_n 0, 1) := by decide +kernel
theorem dMo_want_63 : decode cMo_want 63 = .ok (.getfield 32, 3) := by decide +kernel
theorem dMo_want_66 : decode cMo_want 66 = .ok (.iconst 4, 1) := by decide +kernel
theorem dMo_want_67 : decode cMo_want 67 = .ok (.iload_n 1, 1) := by decide +kernel
theorem dMo_want_68 : decode cMo_want 68 = .ok (.imul, 1) := by decide +kernel
theorem dMo_want_69 : decode cMo_want 69 = .ok (.iload_n 2, 1) := by decide +kernel
theorem dMo_want_70 : decode cMo_want 70 = .ok (.iadd, 1) := by decide +kernel
theorem dMo_want_71 : decode cMo_want 71 = .ok (.iconst 1, 1) := by decide +kernel
theorem dMo_want_72 : decode cMo_want 72 = .ok (.iastore, 1) := by decide +kernel
theorem dMo_want_73 : decode cMo_want 73 = .ok (.iload_n 1, 1) := by decide +kernel
theorem dMo_want_74 : decode cMo_want 74 = .ok (.ifCond .ne 48, 3) := by decide +kernel
theorem dMo_want_77 : decode cMo_want 77 = .ok (.aload_n 0, 1) := by decide +kernel
theorem dMo_want_78 : decode cMo_want 78 = .ok (.getfield 35, 3) := by decide +kernel
theorem dMo_want_81 : decode cMo_want 81 = .ok (.iload_n 2, 1) := by decide +kernel
theorem dMo_want_82 : decode cMo_want 82 = .ok (.dup2, 1) := by decide +kernel
theorem dMo_want_83 : decode cMo_want 83 = .ok (.iaload, 1) := by decide +kernel
theorem dMo_want_84 : decode cMo_want 84 = .ok (.iconst 1, 1) := by decide +kernel
theorem dMo_want_85 : decode cMo_want 85 = .ok (.iadd, 1) := by decide +kernel
theorem dMo_want_86 : decode cMo_want 86 = .ok (.iastore, 1) := by decide +kernel
theorem dMo_want_87 : decode cMo_want 87 = .ok (.aload_n 0, 1) := by decide +kernel
theorem dMo_want_88 : decode cMo_want 88 = .ok (.getfield 38, 3) := by decide +kernel
theorem dMo_want_91 : decode cMo_want 91 = .ok (.iload_n 2, 1) := by decide +kernel
theorem dMo_want_92 : decode cMo_want 92 = .ok (.aload_n 0, 1) := by decide +kernel
theorem dMo_want_93 : decode cMo_want 93 = .ok (.getfield 35, 3) := by decide +kernel
theorem dMo_want_96 : decode cMo_want 96 = .ok (.iload_n 2, 1) := by decide +kernel
theorem dMo_want_97 : decode cMo_want 97 = .ok (.iaload, 1) := by decide +kernel
theorem dMo_want_98 : decode cMo_want 98 = .ok (.iastore, 1) := by decide +kernel
theorem dMo_want_99 : decode cMo_want 99 = .ok (.aload_n 0, 1) := by decide +kernel
theorem dMo_want_100 : decode cMo_want 100 = .ok (.getfield 41, 3) := by decide +kernel
theorem dMo_want_103 : decode cMo_want 103 = .ok (.iload_n 2, 1) := by decide +kernel
theorem dMo_want_104 : decode cMo_want 104 = .ok (.iconst 0, 1) := by decide +kernel
theorem dMo_want_105 : decode cMo_want 105 = .ok (.iastore, 1) := by decide +kernel
theorem dMo_want_106 : decode cMo_want 106 = .ok (.aload_n 0, 1) := by decide +kernel
theorem dMo_want_107 : decode cMo_want 107 = .ok (.iload_n 2, 1) := by decide +kernel
theorem dMo_want_108 : decode cMo_want 108 = .ok (.iconst 0, 1) := by decide +kernel
theorem dMo_want_109 : decode cMo_want 109 = .ok (.iconst 0, 1) := by decide +kernel
theorem dMo_want_110 : decode cMo_want 110 = .ok (.aload_n 0, 1) := by decide +kernel
theorem dMo_want_111 : decode cMo_want 111 = .ok (.getfield 38, 3) := by decide +kernel
theorem dMo_want_114 : decode cMo_want 114 = .ok (.iload_n 2, 1) := by decide +kernel
theorem dMo_want_115 : decode cMo_want 115 = .ok (.iaload, 1) := by decide +kernel
theorem dMo_want_116 : decode cMo_want 116 = .ok (.invokevirtual 141, 3) := by decide +kernel
theorem dMo_want_119 : decode cMo_want 119 = .ok (.goto 49, 3) := by decide +kernel
theorem dMo_want_122 : decode cMo_want 122 = .ok (.iload_n 1, 1) := by decide +kernel
theorem dMo_want_123 : decode cMo_want 123 = .ok (.iconst 1, 1) := by decide +kernel
theorem dMo_want_124 : decode cMo_want 124 = .ok (.if_icmp .ne 33, 3) := by decide +kernel
theorem dMo_want_127 : decode cMo_want 127 = .ok (.aload_n 0, 1) := by decide +kernel
theorem dMo_want_128 : decode cMo_want 128 = .ok (.getfield 47, 3) := by decide +kernel
theorem dMo_want_131 : decode cMo_want 131 = .ok (.iconst 5, 1) := by decide +kernel
theorem dMo_want_132 : decode cMo_want 132 = .ok (.iload_n 2, 1) := by decide +kernel
theorem dMo_want_133 : decode cMo_want 133 = .ok (.imul, 1) := by decide +kernel
theorem dMo_want_134 : decode cMo_want 134 = .ok (.dup2, 1) := by decide +kernel
theorem dMo_want_135 : decode cMo_want 135 = .ok (.iaload, 1) := by decide +kernel
theorem dMo_want_136 : decode cMo_want 136 = .ok (.iconst 1, 1) := by decide +kernel
theorem dMo_want_137 : decode cMo_want 137 = .ok (.iadd, 1) := by decide +kernel
theorem dMo_want_138 : decode cMo_want 138 = .ok (.iastore, 1) := by decide +kernel
theorem dMo_want_139 : decode cMo_want 139 = .ok (.aload_n 0, 1) := by decide +kernel
theorem dMo_want_140 : decode cMo_want 140 = .ok (.iload_n 2, 1) := by decide +kernel
theorem dMo_want_141 : decode cMo_want 141 = .ok (.iconst 1, 1) := by decide +kernel
theorem dMo_want_142 : decode cMo_want 142 = .ok (.iconst 0, 1) := by decide +kernel
theorem dMo_want_143 : decode cMo_want 143 = .ok (.aload_n 0, 1) := by decide +kernel
theorem dMo_want_144 : decode cMo_want 144 = .ok (.getfield 47, 3) := by decide +kernel
theorem dMo_want_147 : decode cMo_want 147 = .ok (.iconst 5, 1) := by decide +kernel
theorem dMo_want_148 : decode cMo_want 148 = .ok (.iload_n 2, 1) := by decide +kernel
theorem dMo_want_149 : decode cMo_want 149 = .ok (.imul, 1) := by decide +kernel
theorem dMo_want_150 : decode cMo_want 150 = .ok (.iaload, 1) := by decide +kernel
theorem dMo_want_151 : decode cMo_want 151 = .ok (.invokevirtual 141, 3) := by decide +kernel
theorem dMo_want_154 : decode cMo_want 154 = .ok (.goto 14, 3) := by decide +kernel
theorem dMo_want_157 : decode cMo_want 157 = .ok (.aload_n 0, 1) := by decide +kernel
theorem dMo_want_158 : decode cMo_want 158 = .ok (.iload_n 2, 1) := by decide +kernel
theorem dMo_want_159 : decode cMo_want 159 = .ok (.iload_n 2, 1) := by decide +kernel
theorem dMo_want_160 : decode cMo_want 160 = .ok (.invokevirtual 144, 3) := by decide +kernel
theorem dMo_want_163 : decode cMo_want 163 = .ok (.aload_n 0, 1) := by decide +kernel
theorem dMo_want_164 : decode cMo_want 164 = .ok (.iload_n 2, 1) := by decide +kernel
theorem dMo_want_165 : decode cMo_want 165 = .ok (.invokevirtual 147, 3) := by decide +kernel
theorem dMo_want_168 : decode cMo_want 168 = .ok (.return_, 1) := by decide +kernel
theorem dMo_leave_0 : decode cMo_leave 0 = .ok (.aload_n 0, 1) := by decide +kernel
theorem dMo_leave_1 : decode cMo_leave 1 = .ok (.iload_n 1, 1) := by decide +kernel
theorem dMo_leave_2 : decode cMo_leave 2 = .ok (.iload_n 2, 1) := by decide +kernel
theorem dMo_leave_3 : decode cMo_leave 3 = .ok (.invokestatic 131, 3) := by decide +kernel
theorem dMo_leave_6 : decode cMo_leave 6 = .ok (.ifCond .ne 7, 3) := by decide +kernel
theorem dMo_leave_9 : decode cMo_leave 9 = .ok (.iconst 1, 1) := by decide +kernel
theorem dMo_leave_10 : decode cMo_leave 10 = .ok (.goto 22, 3) := by decide +kernel
theorem dMo_leave_13 : decode cMo_leave 13 = .ok (.aload_n 0, 1) := by decide +kernel
theorem dMo_leave_14 : decode cMo_leave 14 = .ok (.getfield 32, 3) := by decide +kernel
theorem dMo_leave_17 : decode cMo_leave 17 = .ok (.iconst 4, 1) := by decide +kernel
theorem dMo_leave_18 : decode cMo_leave 18 = .ok (.iload_n 1, 1) := by decide +kernel
theorem dMo_leave_19 : decode cMo_leave 19 = .ok (.imul, 1) := by decide +kernel
theorem dMo_leave_20 : decode cMo_leave 20 = .ok (.iload_n 2, 1) := by decide +kernel
theorem dMo_leave_21 : decode cMo_leave 21 = .ok (.iadd, 1) := by decide +kernel
theorem dMo_leave_22 : decode cMo_leave 22 = .ok (.iaload, 1) := by decide +kernel
theorem dMo_leave_23 : decode cMo_leave 23 = .ok (.iconst 2, 1) := by decide +kernel
theorem dMo_leave_24 : decode cMo_leave 24 = .ok (.if_icmp .eq 7, 3) := by decide +kernel
theorem dMo_leave_27 : decode cMo_leave 27 = .ok (.iconst 2, 1) := by decide +kernel
theorem dMo_leave_28 : decode cMo_leave 28 = .ok (.goto 4, 3) := by decide +kernel
theorem dMo_leave_31 : decode cMo_leave 31 = .ok (.iconst 0, 1) := by decide +kernel
theorem dMo_leave_32 : decode cMo_leave 32 = .ok (.putfield 90, 3) := by decide +kernel
theorem dMo_leave_35 : decode cMo_leave 35 = .ok (.aload_n 0, 1) := by decide +kernel
theorem dMo_leave_36 : decode cMo_leave 36 = .ok (.getfield 90, 3) := by decide +kernel
theorem dMo_leave_39 : decode cMo_leave 39 = .ok (.ifCond .eq 4, 3) := by decide +kernel
theorem dMo_leave_42 : decode cMo_leave 42 = .ok (.return_, 1) := by decide +kernel
theorem dMo_leave_43 : decode cMo_leave 43 = .ok (.aload_n 0, 1) := by decide +kernel
theorem dMo_leave_44 : decode cMo_leave 44 = .ok (.getfield 32, 3) := by decide +kernel
theorem dMo_leave_47 : decode cMo_leave 47 = .ok (.iconst 4, 1) := by decide +kernel
theorem dMo_leave_48 : decode cMo_leave 48 = .ok (.iload_n 1, 1) := by decide +kernel
theorem dMo_leave_49 : decode cMo_leave 49 = .ok (.imul, 1) := by decide +kernel
theorem dMo_leave_50 : decode cMo_leave 50 = .ok (.iload_n 2, 1) := by decide +kernel
theorem dMo_leave_51 : decode cMo_leave 51 = .ok (.iadd, 1) := by decide +kernel
theorem dMo_leave_52 : decode cMo_leave 52 = .ok (.iconst 0, 1) := by decide +kernel
theorem dMo_leave_53 : decode cMo_leave 53 = .ok (.iastore, 1) := by decide +kernel
theorem dMo_leave_54 : decode cMo_leave 54 = .ok (.iload_n 1, 1) := by decide +kernel
theorem dMo_leave_55 : decode cMo_leave 55 = .ok (.ifCond .ne 55, 3) := by decide +kernel
theorem dMo_leave_58 : decode cMo_leave 58 = .ok (.aload_n 0, 1) := by decide +kernel
theorem dMo_leave_59 : decode cMo_leave 59 = .ok (.getfield 44, 3) := by decide +kernel
theorem dMo_leave_62 : decode cMo_leave 62 = .ok (.iload_n 2, 1) := by decide +kernel
theorem dMo_leave_63 : decode cMo_leave 63 = .ok (.iaload, 1) := by decide +kernel
theorem dMo_leave_64 : decode cMo_leave 64 = .ok (.istore_n 3, 1) := by decide +kernel
theorem dMo_leave_65 : decode cMo_leave 65 = .ok (.aload_n 0, 1) := by decide +kernel
theorem dMo_leave_66 : decode cMo_leave 66 = .ok (.getfield 44, 3) := by decide +kernel
theorem dMo_leave_69 : decode cMo_leave 69 = .ok (.iload_n 2, 1) := by decide +kernel
theorem dMo_leave_70 : decode cMo_leave 70 = .ok (.iconst 0, 1) := by decide +kernel
theorem dMo_leave_71 : decode cMo_leave 71 = .ok (.iastore, 1) := by decide +kernel
theorem dMo_leave_72 : decode cMo_leave 72 = .ok (.iconst 0, 1) := by decide +kernel
theorem dMo_leave_73 : decode cMo_leave 73 = .ok (.istore 4, 2) := by decide +kernel
theorem dMo_leave_75 : decode cMo_leave 75 = .ok (.iload 4, 2) := by decide +kernel
theorem dMo_leave_77 : decode cMo_leave 77 = .ok (.iconst 4, 1) := by decide +kernel
theorem dMo_leave_78 : decode cMo_leave 78 = .ok (.if_icmp .ge 29, 3) := by decide +kernel
theorem dMo_leave_81 : decode cMo_leave 81 = .ok (.iload_n 3, 1) := by decide +kernel
theorem dMo_leave_82 : decode cMo_leave 82 = .ok (.iload 4, 2) := by decide +kernel
theorem dMo_leave_84 : decode cMo_leave 84 = .ok (.ishr, 1) := by decide +kernel
theorem dMo_leave_85 : decode cMo_leave 85 = .ok (.iconst 1, 1) := by decide +kernel
theorem dMo_leave_86 : decode cMo_leave 86 = .ok (.iand, 1) := by decide +kernel
theorem dMo_leave_87 : decode cMo_leave 87 = .ok (.iconst 1, 1) := by decide +kernel
theorem dMo_leave_88 : decode cMo_leave 88 = .ok (.if_icmp .ne 13, 3) := by decide +kernel
theorem dMo_leave_91 : decode cMo_leave 91 = .ok (.aload_n 0, 1) := by decide +kernel
theorem dMo_leave_92 : decode cMo_leave 92 = .ok (.iload_n 2, 1) := by decide +kernel
theorem dMo_leave_93 : decode cMo_leave 93 = .ok (.iload 4, 2) := by decide +kernel
theorem dMo_leave_95 : decode cMo_leave 95 = .ok (.iconst 0, 1) := by decide +kernel
theorem dMo_leave_96 : decode cMo_leave 96 = .ok (.iconst 1, 1) := by decide +kernel
theorem dMo_leave_97 : decode cMo_leave 97 = .ok (.iconst 0, 1) := by decide +kernel
theorem dMo_leave_98 : decode cMo_leave 98 = .ok (.invokevirtual 99, 3) := by decide +kernel
theorem dMo_leave_101 : decode cMo_leave 101 = .ok (.iinc 4 1, 3) := by decide +kernel
theorem dMo_leave_104 : decode cMo_leave 104 = .ok (.goto (-29), 3) := by decide +kernel
theorem dMo_leave_107 : decode cMo_leave 107 = .ok (.goto 21, 3) := by decide +kernel
theorem dMo_leave_110 : decode cMo_leave 110 = .ok (.iload_n 1, 1) := by decide +kernel
theorem dMo_leave_111 : decode cMo_leave 111 = .ok (.iconst 1, 1) := by decide +kernel
theorem dMo_leave_112 : decode cMo_leave 112 = .ok (.if_icmp .ne 11, 3) := by decide +kernel
theorem dMo_leave_115 : decode cMo_leave 115 = .ok (.aload_n 0, 1) := by decide +kernel
theorem dMo_leave_116 : decode cMo_leave 116 = .ok (.iload_n 2, 1) := by decide +kernel
theorem dMo_leave_117 : decode cMo_leave 117 = .ok (.invokevirtual 151, 3) := by decide +kernel
theorem dMo_leave_120 : decode cMo_leave 120 = .ok (.goto 8, 3) := by decide +kernel
theorem dMo_leave_123 : decode cMo_leave 123 = .ok (.aload_n 0, 1) := by decide +kernel
theorem dMo_leave_124 : decode cMo_leave 124 = .ok (.iload_n 2, 1) := by decide +kernel
theorem dMo_leave_125 : decode cMo_leave 125 = .ok (.invokevirtual 147, 3) := by decide +kernel
theorem dMo_leave_128 : decode cMo_leave 128 = .ok (.return_, 1) := by decide +kernel
theorem dMo_start_0 : decode cMo_start 0 = .ok (.aload_n 0, 1) := by decide +kernel
theorem dMo_start_1 : decode cMo_start 1 = .ok (.iload_n 1, 1) := by decide +kernel
theorem dMo_start_2 : decode cMo_start 2 = .ok (.invokestatic 103, 3) := by decide +kernel
theorem dMo_start_5 : decode cMo_start 5 = .ok (.ifCond .ne 7, 3) := by decide +kernel
theorem dMo_start_8 : decode cMo_start 8 = .ok (.iconst 1, 1) := by decide +kernel
theorem dMo_start_9 : decode cMo_start 9 = .ok (.goto 17, 3) := by decide +kernel
theorem dMo_start_12 : decode cMo_start 12 = .ok (.aload_n 0, 1) := by decide +kernel
theorem dMo_start_13 : decode cMo_start 13 = .ok (.getfield 75, 3) := by decide +kernel
theorem dMo_start_16 : decode cMo_start 16 = .ok (.iload_n 1, 1) := by decide +kernel
theorem dMo_start_17 : decode cMo_start 17 = .ok (.baload, 1) := by decide +kernel
theorem dMo_start_18 : decode cMo_start 18 = .ok (.ifCond .eq 7, 3) := by decide +kernel
theorem dMo_start_21 : decode cMo_start 21 = .ok (.iconst 2, 1) := by decide +kernel
theorem dMo_start_22 : decode cMo_start 22 = .ok (.goto 4, 3) := by decide +kernel
theorem dMo_start_25 : decode cMo_start 25 = .ok (.iconst 0, 1) := by decide +kernel
theorem dMo_start_26 : decode cMo_start 26 = .ok (.putfield 90, 3) := by decide +kernel
theorem dMo_start_29 : decode cMo_start 29 = .ok (.aload_n 0, 1) := by decide +kernel
theorem dMo_start_30 : decode cMo_start 30 = .ok (.getfield 90, 3) := by decide +kernel
theorem dMo_start_33 : decode cMo_start 33 = .ok (.ifCond .ne 28, 3) := by decide +kernel
theorem dMo_start_36 : decode cMo_start 36 = .ok (.aload_n 0, 1) := by decide +kernel
theorem dMo_start_37 : decode cMo_start 37 = .ok (.getfield 75, 3) := by decide +kernel
theorem dMo_start_40 : decode cMo_start 40 = .ok (.iload_n 1, 1) := by decide +kernel
theorem dMo_start_41 : decode cMo_start 41 = .ok (.iconst 1, 1) := by decide +kernel
theorem dMo_start_42 : decode cMo_start 42 = .ok (.bastore, 1) := by decide +kernel
theorem dMo_start_43 : decode cMo_start 43 = .ok (.aload_n 0, 1) := by decide +kernel
theorem dMo_start_44 : decode cMo_start 44 = .ok (.iload_n 1, 1) := by decide +kernel
theorem dMo_start_45 : decode cMo_start 45 = .ok (.iload_n 1, 1) := by decide +kernel
theorem dMo_start_46 : decode cMo_start 46 = .ok (.iconst 1, 1) := by decide +kernel
theorem dMo_start_47 : decode cMo_start 47 = .ok (.iadd, 1) := by decide +kernel
theorem dMo_start_48 : decode cMo_start 48 = .ok (.iconst 4, 1) := by decide +kernel
theorem dMo_start_49 : decode cMo_start 49 = .ok (.irem, 1) := by decide +kernel
theorem dMo_start_50 : decode cMo_start 50 = .ok (.iconst 3, 1) := by decide +kernel
theorem dMo_start_51 : decode cMo_start 51 = .ok (.iconst 0, 1) := by decide +kernel
theorem dMo_start_52 : decode cMo_start 52 = .ok (.aload_n 0, 1) := by decide +kernel
theorem dMo_start_53 : decode cMo_start 53 = .ok (.getfield 69, 3) := by decide +kernel
theorem dMo_start_56 : decode cMo_start 56 = .ok (.iload_n 1, 1) := by decide +kernel
theorem dMo_start_57 : decode cMo_start 57 = .ok (.iaload, 1) := by decide +kernel
theorem dMo_start_58 : decode cMo_start 58 = .ok (.invokevirtual 99, 3) := by decide +kernel
theorem dMo_start_61 : decode cMo_start 61 = .ok (.return_, 1) := by decide +kernel
theorem dMo_begin_0 : decode cMo_begin 0 = .ok (.aload_n 0, 1) := by decide +kernel
theorem dMo_begin_1 : decode cMo_begin 1 = .ok (.getfield 78, 3) := by decide +kernel
theorem dMo_begin_4 : decode cMo_begin 4 = .ok (.ifCond .lt 7, 3) := by decide +kernel
theorem dMo_begin_7 : decode cMo_begin 7 = .ok (.iconst 1, 1) := by decide +kernel
theorem dMo_begin_8 : decode cMo_begin 8 = .ok (.goto 4, 3) := by decide +kernel
theorem dMo_begin_11 : decode cMo_begin 11 = .ok (.iconst 0, 1) := by decide +kernel
theorem dMo_begin_12 : decode cMo_begin 12 = .ok (.istore_n 2, 1) := by decide +kernel
theorem dMo_begin_13 : decode cMo_begin 13 = .ok (.iconst 0, 1) := by decide +kernel
theorem dMo_begin_14 : decode cMo_begin 14 = .ok (.istore_n 3, 1) := by decide +kernel
theorem dMo_begin_15 : decode cMo_begin 15 = .ok (.iload_n 3, 1) := by decide +kernel
theorem dMo_begin_16 : decode cMo_begin 16 = .ok (.iconst 4, 1) := by decide +kernel
theorem dMo_begin_17 : decode cMo_begin 17 = .ok (.if_icmp .ge 46, 3) := by decide +kernel
theorem dMo_begin_20 : decode cMo_begin 20 = .ok (.iload_n 2, 1) := by decide +kernel
theorem dMo_begin_21 : decode cMo_begin 21 = .ok (.ifCond .ne 30, 3) := by decide +kernel
theorem dMo_begin_24 : decode cMo_begin 24 = .ok (.aload_n 0, 1) := by decide +kernel
theorem dMo_begin_25 : decode cMo_begin 25 = .ok (.getfield 81, 3) := by decide +kernel
theorem dMo_begin_28 : decode cMo_begin 28 = .ok (.iload_n 3, 1) := by decide +kernel
theorem dMo_begin_29 : decode cMo_begin 29 = .ok (.baload, 1) := by decide +kernel
theorem dMo_begin_30 : decode cMo_begin 30 = .ok (.ifCond .ne 21, 3) := by decide +kernel
theorem dMo_begin_33 : decode cMo_begin 33 = .ok (.aload_n 0, 1) := by decide +kernel
theorem dMo_begin_34 : decode cMo_begin 34 = .ok (.getfield 84, 3) := by decide +kernel
theorem dMo_begin_37 : decode cMo_begin 37 = .ok (.iload_n 3, 1) := by decide +kernel
theorem dMo_begin_38 : decode cMo_begin 38 = .ok (.iaload, 1) := by decide +kernel
theorem dMo_begin_39 : decode cMo_begin 39 = .ok (.ifCond .ge 12, 3) := by decide +kernel
theorem dMo_begin_42 : decode cMo_begin 42 = .ok (.aload_n 0, 1) := by decide +kernel
theorem dMo_begin_43 : decode cMo_begin 43 = .ok (.getfield 87, 3) := by decide +kernel
theorem dMo_begin_46 : decode cMo_begin 46 = .ok (.iload_n 3, 1) := by decide +kernel
theorem dMo_begin_47 : decode cMo_begin 47 = .ok (.iaload, 1) := by decide +kernel
theorem dMo_begin_48 : decode cMo_begin 48 = .ok (.ifCond .le 7, 3) := by decide +kernel
theorem dMo_begin_51 : decode cMo_begin 51 = .ok (.iconst 1, 1) := by decide +kernel
theorem dMo_begin_52 : decode cMo_begin 52 = .ok (.goto 4, 3) := by decide +kernel
theorem dMo_begin_55 : decode cMo_begin 55 = .ok (.iconst 0, 1) := by decide +kernel
theorem dMo_begin_56 : decode cMo_begin 56 = .ok (.istore_n 2, 1) := by decide +kernel
theorem dMo_begin_57 : decode cMo_begin 57 = .ok (.iinc 3 1, 3) := by decide +kernel
theorem dMo_begin_60 : decode cMo_begin 60 = .ok (.goto (-45), 3) := by decide +kernel
theorem dMo_begin_63 : decode cMo_begin 63 = .ok (.aload_n 0, 1) := by decide +kernel
theorem dMo_begin_64 : decode cMo_begin 64 = .ok (.iload_n 1, 1) := by decide +kernel
theorem dMo_begin_65 : decode cMo_begin 65 = .ok (.invokestatic 103, 3) := by decide +kernel
theorem dMo_begin_68 : decode cMo_begin 68 = .ok (.ifCond .ne 7, 3) := by decide +kernel
theorem dMo_begin_71 : decode cMo_begin 71 = .ok (.iconst 1, 1) := by decide +kernel
theorem dMo_begin_72 : decode cMo_begin 72 = .ok (.goto 12, 3) := by decide +kernel
theorem dMo_begin_75 : decode cMo_begin 75 = .ok (.iload_n 2, 1) := by decide +kernel
theorem dMo_begin_76 : decode cMo_begin 76 = .ok (.ifCond .eq 7, 3) := by decide +kernel
theorem dMo_begin_79 : decode cMo_begin 79 = .ok (.iconst 2, 1) := by decide +kernel
theorem dMo_begin_80 : decode cMo_begin 80 = .ok (.goto 4, 3) := by decide +kernel
theorem dMo_begin_83 : decode cMo_begin 83 = .ok (.iconst 0, 1) := by decide +kernel
theorem dMo_begin_84 : decode cMo_begin 84 = .ok (.putfield 90, 3) := by decide +kernel
theorem dMo_begin_87 : decode cMo_begin 87 = .ok (.aload_n 0, 1) := by decide +kernel
theorem dMo_begin_88 : decode cMo_begin 88 = .ok (.getfield 90, 3) := by decide +kernel
theorem dMo_begin_91 : decode cMo_begin 91 = .ok (.ifCond .ne 15, 3) := by decide +kernel
theorem dMo_begin_94 : decode cMo_begin 94 = .ok (.aload_n 0, 1) := by decide +kernel
theorem dMo_begin_95 : decode cMo_begin 95 = .ok (.iload_n 1, 1) := by decide +kernel
theorem dMo_begin_96 : decode cMo_begin 96 = .ok (.putfield 78, 3) := by decide +kernel
theorem dMo_begin_99 : decode cMo_begin 99 = .ok (.aload_n 0, 1) := by decide +kernel
theorem dMo_begin_100 : decode cMo_begin 100 = .ok (.getfield 81, 3) := by decide +kernel
theorem dMo_begin_103 : decode cMo_begin 103 = .ok (.iload_n 1, 1) := by decide +kernel
theorem dMo_begin_104 : decode cMo_begin 104 = .ok (.iconst 1, 1) := by decide +kernel
theorem dMo_begin_105 : decode cMo_begin 105 = .ok (.bastore, 1) := by decide +kernel
theorem dMo_begin_106 : decode cMo_begin 106 = .ok (.return_, 1) := by decide +kernel
theorem dMo_spread_0 : decode cMo_spread 0 = .ok (.aload_n 0, 1) := by decide +kernel
theorem dMo_spread_1 : decode cMo_spread 1 = .ok (.iload_n 1, 1) := by decide +kernel
theorem dMo_spread_2 : decode cMo_spread 2 = .ok (.iload_n 2, 1) := by decide +kernel
theorem dMo_spread_3 : decode cMo_spread 3 = .ok (.invokestatic 107, 3) := by decide +kernel
theorem dMo_spread_6 : decode cMo_spread 6 = .ok (.ifCond .ne 7, 3) := by decide +kernel
theorem dMo_spread_9 : decode cMo_spread 9 = .ok (.iconst 1, 1) := by decide +kernel
theorem dMo_spread_10 : decode cMo_spread 10 = .ok (.goto 28, 3) := by decide +kernel
theorem dMo_spread_13 : decode cMo_spread 13 = .ok (.aload_n 0, 1) := by decide +kernel
theorem dMo_spread_14 : decode cMo_spread 14 = .ok (.getfield 81, 3) := by decide +kernel
theorem dMo_spread_17 : decode cMo_spread 17 = .ok (.iload_n 1, 1) := by decide +kernel
theorem dMo_spread_18 : decode cMo_spread 18 = .ok (.baload, 1) := by decide +kernel
theorem dMo_spread_19 : decode cMo_spread 19 = .ok (.ifCond .eq 14, 3) := by decide +kernel
theorem dMo_spread_22 : decode cMo_spread 22 = .ok (.aload_n 0, 1) := by decide +kernel
theorem dMo_spread_23 : decode cMo_spread 23 = .ok (.getfield 87, 3) := by decide +kernel
theorem dMo_spread_26 : decode cMo_spread 26 = .ok (.iload_n 1, 1) := by decide +kernel
theorem dMo_spread_27 : decode cMo_spread 27 = .ok (.iaload, 1) := by decide +kernel
theorem dMo_spread_28 : decode cMo_spread 28 = .ok (.bipush 20, 2) := by decide +kernel
theorem dMo_spread_30 : decode cMo_spread 30 = .ok (.if_icmp .ne 7, 3) := by decide +kernel
theorem dMo_spread_33 : decode cMo_spread 33 = .ok (.iconst 2, 1) := by decide +kernel
theorem dMo_spread_34 : decode cMo_spread 34 = .ok (.goto 4, 3) := by decide +kernel
theorem dMo_spread_37 : decode cMo_spread 37 = .ok (.iconst 0, 1) := by decide +kernel
theorem dMo_spread_38 : decode cMo_spread 38 = .ok (.putfield 90, 3) := by decide +kernel
theorem dMo_spread_41 : decode cMo_spread 41 = .ok (.aload_n 0, 1) := by decide +kernel
theorem dMo_spread_42 : decode cMo_spread 42 = .ok (.getfield 90, 3) := by decide +kernel
theorem dMo_spread_45 : decode cMo_spread 45 = .ok (.ifCond .ne 22, 3) := by decide +kernel
theorem dMo_spread_48 : decode cMo_spread 48 = .ok (.aload_n 0, 1) := by decide +kernel
theorem dMo_spread_49 : decode cMo_spread 49 = .ok (.getfield 87, 3) := by decide +kernel
theorem dMo_spread_52 : decode cMo_spread 52 = .ok (.iload_n 1, 1) := by decide +kernel
theorem dMo_spread_53 : decode cMo_spread 53 = .ok (.dup2, 1) := by decide +kernel
theorem dMo_spread_54 : decode cMo_spread 54 = .ok (.iaload, 1) := by decide +kernel
theorem dMo_spread_55 : decode cMo_spread 55 = .ok (.iconst 1, 1) := by decide +kernel
theorem dMo_spread_56 : decode cMo_spread 56 = .ok (.iadd, 1) := by decide +kernel
theorem dMo_spread_57 : decode cMo_spread 57 = .ok (.iastore, 1) := by decide +kernel
theorem dMo_spread_58 : decode cMo_spread 58 = .ok (.aload_n 0, 1) := by decide +kernel
theorem dMo_spread_59 : decode cMo_spread 59 = .ok (.iload_n 1, 1) := by decide +kernel
theorem dMo_spread_60 : decode cMo_spread 60 = .ok (.iload_n 2, 1) := by decide +kernel
theorem dMo_spread_61 : decode cMo_spread 61 = .ok (.iconst 4, 1) := by decide +kernel
theorem dMo_spread_62 : decode cMo_spread 62 = .ok (.iconst 0, 1) := by decide +kernel
theorem dMo_spread_63 : decode cMo_spread 63 = .ok (.iconst 0, 1) := by decide +kernel
theorem dMo_spread_64 : decode cMo_spread 64 = .ok (.invokevirtual 99, 3) := by decide +kernel
theorem dMo_spread_67 : decode cMo_spread 67 = .ok (.return_, 1) := by decide +kernel
theorem dMo_rest_0 : decode cMo_rest 0 = .ok (.aload_n 0, 1) := by decide +kernel
theorem dMo_rest_1 : decode cMo_rest 1 = .ok (.iload_n 1, 1) := by decide +kernel
theorem dMo_rest_2 : decode cMo_rest 2 = .ok (.invokestatic 103, 3) := by decide +kernel
theorem dMo_rest_5 : decode cMo_rest 5 = .ok (.ifCond .ne 7, 3) := by decide +kernel
theorem dMo_rest_8 : decode cMo_rest 8 = .ok (.iconst 1, 1) := by decide +kernel
theorem dMo_rest_9 : decode cMo_rest 9 = .ok (.goto 17, 3) := by decide +kernel
theorem dMo_rest_12 : decode cMo_rest 12 = .ok (.aload_n 0, 1) := by decide +kernel
theorem dMo_rest_13 : decode cMo_rest 13 = .ok (.getfield 81, 3) := by decide +kernel
theorem dMo_rest_16 : decode cMo_rest 16 = .ok (.iload_n 1, 1) := by decide +kernel
theorem dMo_rest_17 : decode cMo_rest 17 = .ok (.baload, 1) := by decide +kernel
theorem dMo_rest_18 : decode cMo_rest 18 = .ok (.ifCond .ne 7, 3) := by decide +kernel
theorem dMo_rest_21 : decode cMo_rest 21 = .ok (.iconst 2, 1) := by decide +kernel
theorem dMo_rest_22 : decode cMo_rest 22 = .ok (.goto 4, 3) := by decide +kernel
theorem dMo_rest_25 : decode cMo_rest 25 = .ok (.iconst 0, 1) := by decide +kernel
theorem dMo_rest_26 : decode cMo_rest 26 = .ok (.putfield 90, 3) := by decide +kernel
theorem dMo_rest_29 : decode cMo_rest 29 = .ok (.aload_n 0, 1) := by decide +kernel
theorem dMo_rest_30 : decode cMo_rest 30 = .ok (.getfield 90, 3) := by decide +kernel
theorem dMo_rest_33 : decode cMo_rest 33 = .ok (.ifCond .ne 15, 3) := by decide +kernel
theorem dMo_rest_36 : decode cMo_rest 36 = .ok (.aload_n 0, 1) := by decide +kernel
theorem dMo_rest_37 : decode cMo_rest 37 = .ok (.getfield 81, 3) := by decide +kernel
theorem dMo_rest_40 : decode cMo_rest 40 = .ok (.iload_n 1, 1) := by decide +kernel
theorem dMo_rest_41 : decode cMo_rest 41 = .ok (.iconst 0, 1) := by decide +kernel
theorem dMo_rest_42 : decode cMo_rest 42 = .ok (.bastore, 1) := by decide +kernel
theorem dMo_rest_43 : decode cMo_rest 43 = .ok (.aload_n 0, 1) := by decide +kernel
theorem dMo_rest_44 : decode cMo_rest 44 = .ok (.iload_n 1, 1) := by decide +kernel
theorem dMo_rest_45 : decode cMo_rest 45 = .ok (.invokevirtual 167, 3) := by decide +kernel
theorem dMo_rest_48 : decode cMo_rest 48 = .ok (.return_, 1) := by decide +kernel
theorem dMo_deliver_0 : decode cMo_deliver 0 = .ok (.aload_n 0, 1) := by decide +kernel
theorem dMo_deliver_1 : decode cMo_deliver 1 = .ok (.iload_n 1, 1) := by decide +kernel
theorem dMo_deliver_2 : decode cMo_deliver 2 = .ok (.iload_n 2, 1) := by decide +kernel
theorem dMo_deliver_3 : decode cMo_deliver 3 = .ok (.invokestatic 107, 3) := by decide +kernel
theorem dMo_deliver_6 : decode cMo_deliver 6 = .ok (.ifCond .ne 7, 3) := by decide +kernel
theorem dMo_deliver_9 : decode cMo_deliver 9 = .ok (.iconst 1, 1) := by decide +kernel
theorem dMo_deliver_10 : decode cMo_deliver 10 = .ok (.goto 21, 3) := by decide +kernel
theorem dMo_deliver_13 : decode cMo_deliver 13 = .ok (.aload_n 0, 1) := by decide +kernel
theorem dMo_deliver_14 : decode cMo_deliver 14 = .ok (.getfield 7, 3) := by decide +kernel
theorem dMo_deliver_17 : decode cMo_deliver 17 = .ok (.iconst 4, 1) := by decide +kernel
theorem dMo_deliver_18 : decode cMo_deliver 18 = .ok (.iload_n 1, 1) := by decide +kernel
theorem dMo_deliver_19 : decode cMo_deliver 19 = .ok (.imul, 1) := by decide +kernel
theorem dMo_deliver_20 : decode cMo_deliver 20 = .ok (.iload_n 2, 1) := by decide +kernel
theorem dMo_deliver_21 : decode cMo_deliver 21 = .ok (.iadd, 1) := by decide +kernel
theorem dMo_deliver_22 : decode cMo_deliver 22 = .ok (.iaload, 1) := by decide +kernel
theorem dMo_deliver_23 : decode cMo_deliver 23 = .ok (.ifCond .ge 7, 3) := by decide +kernel
theorem dMo_deliver_26 : decode cMo_deliver 26 = .ok (.iconst 2, 1) := by decide +kernel
theorem dMo_deliver_27 : decode cMo_deliver 27 = .ok (.goto 4, 3) := by decide +kernel
theorem dMo_deliver_30 : decode cMo_deliver 30 = .ok (.iconst 0, 1) := by decide +kernel
theorem dMo_deliver_31 : decode cMo_deliver 31 = .ok (.putfield 90, 3) := by decide +kernel
theorem dMo_deliver_34 : decode cMo_deliver 34 = .ok (.aload_n 0, 1) := by decide +kernel
theorem dMo_deliver_35 : decode cMo_deliver 35 = .ok (.getfield 90, 3) := by decide +kernel
theorem dMo_deliver_38 : decode cMo_deliver 38 = .ok (.ifCond .eq 5, 3) := by decide +kernel
theorem dMo_deliver_41 : decode cMo_deliver 41 = .ok (.iconst 0, 1) := by decide +kernel
theorem dMo_deliver_42 : decode cMo_deliver 42 = .ok (.ireturn, 1) := by decide +kernel
theorem dMo_deliver_43 : decode cMo_deliver 43 = .ok (.iconst 4, 1) := by decide +kernel
theorem dMo_deliver_44 : decode cMo_deliver 44 = .ok (.iload_n 1, 1) := by decide +kernel
theorem dMo_deliver_45 : decode cMo_deliver 45 = .ok (.imul, 1) := by decide +kernel
theorem dMo_deliver_46 : decode cMo_deliver 46 = .ok (.iload_n 2, 1) := by decide +kernel
theorem dMo_deliver_47 : decode cMo_deliver 47 = .ok (.iadd, 1) := by decide +kernel
theorem dMo_deliver_48 : decode cMo_deliver 48 = .ok (.istore_n 3, 1) := by decide +kernel
theorem dMo_deliver_49 : decode cMo_deliver 49 = .ok (.aload_n 0, 1) := by decide +kernel
theorem dMo_deliver_50 : decode cMo_deliver 50 = .ok (.getfield 7, 3) := by decide +kernel
theorem dMo_deliver_53 : decode cMo_deliver 53 = .ok (.iload_n 3, 1) := by decide +kernel
theorem dMo_deliver_54 : decode cMo_deliver 54 = .ok (.iaload, 1) := by decide +kernel
theorem dMo_deliver_55 : decode cMo_deliver 55 = .ok (.istore 4, 2) := by decide +kernel
theorem dMo_deliver_57 : decode cMo_deliver 57 = .ok (.aload_n 0, 1) := by decide +kernel
theorem dMo_deliver_58 : decode cMo_deliver 58 = .ok (.getfield 7, 3) := by decide +kernel
theorem dMo_deliver_61 : decode cMo_deliver 61 = .ok (.iload_n 3, 1) := by decide +kernel
theorem dMo_deliver_62 : decode cMo_deliver 62 = .ok (.aload_n 0, 1) := by decide +kernel
theorem dMo_deliver_63 : decode cMo_deliver 63 = .ok (.getfield 25, 3) := by decide +kernel
theorem dMo_deliver_66 : decode cMo_deliver 66 = .ok (.iload 4, 2) := by decide +kernel
theorem dMo_deliver_68 : decode cMo_deliver 68 = .ok (.iaload, 1) := by decide +kernel
theorem dMo_deliver_69 : decode cMo_deliver 69 = .ok (.iastore, 1) := by decide +kernel
theorem dMo_deliver_70 : decode cMo_deliver 70 = .ok (.aload_n 0, 1) := by decide +kernel
theorem dMo_deliver_71 : decode cMo_deliver 71 = .ok (.getfield 13, 3) := by decide +kernel
theorem dMo_deliver_74 : decode cMo_deliver 74 = .ok (.iload_n 3, 1) := by decide +kernel
theorem dMo_deliver_75 : decode cMo_deliver 75 = .ok (.aload_n 0, 1) := by decide +kernel
theorem dMo_deliver_76 : decode cMo_deliver 76 = .ok (.getfield 7, 3) := by decide +kernel
theorem dMo_deliver_79 : decode cMo_deliver 79 = .ok (.iload_n 3, 1) := by decide +kernel
theorem dMo_deliver_80 : decode cMo_deliver 80 = .ok (.iaload, 1) := by decide +kernel
theorem dMo_deliver_81 : decode cMo_deliver 81 = .ok (.ifCond .ge 7, 3) := by decide +kernel
theorem dMo_deliver_84 : decode cMo_deliver 84 = .ok (.iconst (-1), 1) := by decide +kernel
theorem dMo_deliver_85 : decode cMo_deliver 85 = .ok (.goto 9, 3) := by decide +kernel
theorem dMo_deliver_88 : decode cMo_deliver 88 = .ok (.aload_n 0, 1) := by decide +kernel
theorem dMo_deliver_89 : decode cMo_deliver 89 = .ok (.getfield 13, 3) := by decide +kernel
theorem dMo_deliver_92 : decode cMo_deliver 92 = .ok (.iload_n 3, 1) := by decide +kernel
theorem dMo_deliver_93 : decode cMo_deliver 93 = .ok (.iaload, 1) := by decide +kernel
theorem dMo_deliver_94 : decode cMo_deliver 94 = .ok (.iastore, 1) := by decide +kernel
theorem dMo_deliver_95 : decode cMo_deliver 95 = .ok (.aload_n 0, 1) := by decide +kernel
theorem dMo_deliver_96 : decode cMo_deliver 96 = .ok (.getfield 16, 3) := by decide +kernel
theorem dMo_deliver_99 : decode cMo_deliver 99 = .ok (.iload_n 3, 1) := by decide +kernel
theorem dMo_deliver_100 : decode cMo_deliver 100 = .ok (.dup2, 1) := by decide +kernel
theorem dMo_deliver_101 : decode cMo_deliver 101 = .ok (.iaload, 1) := by decide +kernel
theorem dMo_deliver_102 : decode cMo_deliver 102 = .ok (.iconst 1, 1) := by decide +kernel
theorem dMo_deliver_103 : decode cMo_deliver 103 = .ok (.isub, 1) := by decide +kernel
theorem dMo_deliver_104 : decode cMo_deliver 104 = .ok (.iastore, 1) := by decide +kernel
theorem dMo_deliver_105 : decode cMo_deliver 105 = .ok (.aload_n 0, 1) := by decide +kernel
theorem dMo_deliver_106 : decode cMo_deliver 106 = .ok (.getfield 25, 3) := by decide +kernel
theorem dMo_deliver_109 : decode cMo_deliver 109 = .ok (.iload 4, 2) := by decide +kernel
theorem dMo_deliver_111 : decode cMo_deliver 111 = .ok (.aload_n 0, 1) := by decide +kernel
theorem dMo_deliver_112 : decode cMo_deliver 112 = .ok (.getfield 28, 3) := by decide +kernel
theorem dMo_deliver_115 : decode cMo_deliver 115 = .ok (.iastore, 1) := by decide +kernel
theorem dMo_deliver_116 : decode cMo_deliver 116 = .ok (.aload_n 0, 1) := by decide +kernel
theorem dMo_deliver_117 : decode cMo_deliver 117 = .ok (.iload 4, 2) := by decide +kernel
theorem dMo_deliver_119 : decode cMo_deliver 119 = .ok (.putfield 28, 3) := by decide +kernel
theorem dMo_deliver_122 : decode cMo_deliver 122 = .ok (.aload_n 0, 1) := by decide +kernel
theorem dMo_deliver_123 : decode cMo_deliver 123 = .ok (.getfield 19, 3) := by decide +kernel
theorem dMo_deliver_126 : decode cMo_deliver 126 = .ok (.iload 4, 2) := by decide +kernel
theorem dMo_deliver_128 : decode cMo_deliver 128 = .ok (.iaload, 1) := by decide +kernel
theorem dMo_deliver_129 : decode cMo_deliver 129 = .ok (.bipush 10, 2) := by decide +kernel
theorem dMo_deliver_131 : decode cMo_deliver 131 = .ok (.idiv, 1) := by decide +kernel
theorem dMo_deliver_132 : decode cMo_deliver 132 = .ok (.istore 5, 2) := by decide +kernel
theorem dMo_deliver_134 : decode cMo_deliver 134 = .ok (.aload_n 0, 1) := by decide +kernel
theorem dMo_deliver_135 : decode cMo_deliver 135 = .ok (.getfield 19, 3) := by decide +kernel
theorem dMo_deliver_138 : decode cMo_deliver 138 = .ok (.iload 4, 2) := by decide +kernel
theorem dMo_deliver_140 : decode cMo_deliver 140 = .ok (.iaload, 1) := by decide +kernel
theorem dMo_deliver_141 : decode cMo_deliver 141 = .ok (.bipush 10, 2) := by decide +kernel
theorem dMo_deliver_143 : decode cMo_deliver 143 = .ok (.irem, 1) := by decide +kernel
theorem dMo_deliver_144 : decode cMo_deliver 144 = .ok (.istore 6, 2) := by decide +kernel
theorem dMo_deliver_146 : decode cMo_deliver 146 = .ok (.aload_n 0, 1) := by decide +kernel
theorem dMo_deliver_147 : decode cMo_deliver 147 = .ok (.getfield 22, 3) := by decide +kernel
theorem dMo_deliver_150 : decode cMo_deliver 150 = .ok (.iload 4, 2) := by decide +kernel
theorem dMo_deliver_152 : decode cMo_deliver 152 = .ok (.iaload, 1) := by decide +kernel
theorem dMo_deliver_153 : decode cMo_deliver 153 = .ok (.istore 7, 2) := by decide +kernel
theorem dMo_deliver_155 : decode cMo_deliver 155 = .ok (.iload 5, 2) := by decide +kernel
theorem dMo_deliver_157 : decode cMo_deliver 157 = .ok (.tableswitch 80 0 3 #[31, 44, 57, 68], 31) := by decide +kernel
theorem dMo_deliver_188 : decode cMo_deliver 188 = .ok (.aload_n 0, 1) := by decide +kernel
theorem dMo_deliver_189 : decode cMo_deliver 189 = .ok (.iload_n 1, 1) := by decide +kernel
theorem dMo_deliver_190 : decode cMo_deliver 190 = .ok (.iload_n 2, 1) := by decide +kernel
theorem dMo_deliver_191 : decode cMo_deliver 191 = .ok (.iload 6, 2) := by decide +kernel
theorem dMo_deliver_193 : decode cMo_deliver 193 = .ok (.iload 7, 2) := by decide +kernel
theorem dMo_deliver_195 : decode cMo_deliver 195 = .ok (.invokevirtual 111, 3) := by decide +kernel
theorem dMo_deliver_198 : decode cMo_deliver 198 = .ok (.goto 47, 3) := by decide +kernel
theorem dMo_deliver_201 : decode cMo_deliver 201 = .ok (.aload_n 0, 1) := by decide +kernel
theorem dMo_deliver_202 : decode cMo_deliver 202 = .ok (.iload_n 1, 1) := by decide +kernel
theorem dMo_deliver_203 : decode cMo_deliver 203 = .ok (.iload_n 2, 1) := by decide +kernel
theorem dMo_deliver_204 : decode cMo_deliver 204 = .ok (.iload 6, 2) := by decide +kernel
theorem dMo_deliver_206 : decode cMo_deliver 206 = .ok (.iload 7, 2) := by decide +kernel
theorem dMo_deliver_208 : decode cMo_deliver 208 = .ok (.invokevirtual 115, 3) := by decide +kernel
theorem dMo_deliver_211 : decode cMo_deliver 211 = .ok (.goto 34, 3) := by decide +kernel
theorem dMo_deliver_214 : decode cMo_deliver 214 = .ok (.aload_n 0, 1) := by decide +kernel
theorem dMo_deliver_215 : decode cMo_deliver 215 = .ok (.iload_n 1, 1) := by decide +kernel
theorem dMo_deliver_216 : decode cMo_deliver 216 = .ok (.iload_n 2, 1) := by decide +kernel
theorem dMo_deliver_217 : decode cMo_deliver 217 = .ok (.iload 6, 2) := by decide +kernel
theorem dMo_deliver_219 : decode cMo_deliver 219 = .ok (.invokevirtual 118, 3) := by decide +kernel
theorem dMo_deliver_222 : decode cMo_deliver 222 = .ok (.goto 23, 3) := by decide +kernel
theorem dMo_deliver_225 : decode cMo_deliver 225 = .ok (.aload_n 0, 1) := by decide +kernel
theorem dMo_deliver_226 : decode cMo_deliver 226 = .ok (.iload_n 2, 1) := by decide +kernel
theorem dMo_deliver_227 : decode cMo_deliver 227 = .ok (.iload 6, 2) := by decide +kernel
theorem dMo_deliver_229 : decode cMo_deliver 229 = .ok (.iload 7, 2) := by decide +kernel
theorem dMo_deliver_231 : decode cMo_deliver 231 = .ok (.invokevirtual 122, 3) := by decide +kernel
theorem dMo_deliver_234 : decode cMo_deliver 234 = .ok (.goto 11, 3) := by decide +kernel
theorem dMo_deliver_237 : decode cMo_deliver 237 = .ok (.aload_n 0, 1) := by decide +kernel
theorem dMo_deliver_238 : decode cMo_deliver 238 = .ok (.iload_n 1, 1) := by decide +kernel
theorem dMo_deliver_239 : decode cMo_deliver 239 = .ok (.iload_n 2, 1) := by decide +kernel
theorem dMo_deliver_240 : decode cMo_deliver 240 = .ok (.iload 6, 2) := by decide +kernel
theorem dMo_deliver_242 : decode cMo_deliver 242 = .ok (.invokevirtual 125, 3) := by decide +kernel
theorem dMo_deliver_245 : decode cMo_deliver 245 = .ok (.iload 5, 2) := by decide +kernel
theorem dMo_deliver_247 : decode cMo_deliver 247 = .ok (.ireturn, 1) := by decide +kernel
theorem dMo_first_0 : decode cMo_first 0 = .ok (.aload_n 0, 1) := by decide +kernel
theorem dMo_first_1 : decode cMo_first 1 = .ok (.iload_n 1, 1) := by decide +kernel
theorem dMo_first_2 : decode cMo_first 2 = .ok (.iload_n 2, 1) := by decide +kernel
theorem dMo_first_3 : decode cMo_first 3 = .ok (.invokestatic 107, 3) := by decide +kernel
theorem dMo_first_6 : decode cMo_first 6 = .ok (.ifCond .eq 7, 3) := by decide +kernel
theorem dMo_first_9 : decode cMo_first 9 = .ok (.iconst 0, 1) := by decide +kernel
theorem dMo_first_10 : decode cMo_first 10 = .ok (.goto 4, 3) := by decide +kernel
theorem dMo_first_13 : decode cMo_first 13 = .ok (.iconst 1, 1) := by decide +kernel
theorem dMo_first_14 : decode cMo_first 14 = .ok (.putfield 90, 3) := by decide +kernel
theorem dMo_first_17 : decode cMo_first 17 = .ok (.aload_n 0, 1) := by decide +kernel
theorem dMo_first_18 : decode cMo_first 18 = .ok (.getfield 90, 3) := by decide +kernel
theorem dMo_first_21 : decode cMo_first 21 = .ok (.ifCond .eq 5, 3) := by decide +kernel
theorem dMo_first_24 : decode cMo_first 24 = .ok (.iconst 0, 1) := by decide +kernel
theorem dMo_first_25 : decode cMo_first 25 = .ok (.ireturn, 1) := by decide +kernel
theorem dMo_first_26 : decode cMo_first 26 = .ok (.iconst 4, 1) := by decide +kernel
theorem dMo_first_27 : decode cMo_first 27 = .ok (.iload_n 1, 1) := by decide +kernel
theorem dMo_first_28 : decode cMo_first 28 = .ok (.imul, 1) := by decide +kernel
theorem dMo_first_29 : decode cMo_first 29 = .ok (.iload_n 2, 1) := by decide +kernel
theorem dMo_first_30 : decode cMo_first 30 = .ok (.iadd, 1) := by decide +kernel
theorem dMo_first_31 : decode cMo_first 31 = .ok (.istore_n 3, 1) := by decide +kernel
theorem dMo_first_32 : decode cMo_first 32 = .ok (.aload_n 0, 1) := by decide +kernel
theorem dMo_first_33 : decode cMo_first 33 = .ok (.getfield 7, 3) := by decide +kernel
theorem dMo_first_36 : decode cMo_first 36 = .ok (.iload_n 3, 1) := by decide +kernel
theorem dMo_first_37 : decode cMo_first 37 = .ok (.iaload, 1) := by decide +kernel
theorem dMo_first_38 : decode cMo_first 38 = .ok (.istore 4, 2) := by decide +kernel
theorem dMo_first_40 : decode cMo_first 40 = .ok (.iload 4, 2) := by decide +kernel
theorem dMo_first_42 : decode cMo_first 42 = .ok (.ifCond .ge 7, 3) := by decide +kernel
theorem dMo_first_45 : decode cMo_first 45 = .ok (.iconst (-1), 1) := by decide +kernel
theorem dMo_first_46 : decode cMo_first 46 = .ok (.goto 46, 3) := by decide +kernel
theorem dMo_first_49 : decode cMo_first 49 = .ok (.bipush 100, 2) := by decide +kernel
theorem dMo_first_51 : decode cMo_first 51 = .ok (.aload_n 0, 1) := by decide +kernel
theorem dMo_first_52 : decode cMo_first 52 = .ok (.getfield 19, 3) := by decide +kernel
theorem dMo_first_55 : decode cMo_first 55 = .ok (.iload 4, 2) := by decide +kernel
theorem dMo_first_57 : decode cMo_first 57 = .ok (.iaload, 1) := by decide +kernel
theorem dMo_first_58 : decode cMo_first 58 = .ok (.bipush 10, 2) := by decide +kernel
theorem dMo_first_60 : decode cMo_first 60 = .ok (.idiv, 1) := by decide +kernel
theorem dMo_first_61 : decode cMo_first 61 = .ok (.imul, 1) := by decide +kernel
theorem dMo_first_62 : decode cMo_first 62 = .ok (.bipush 10, 2) := by decide +kernel
theorem dMo_first_64 : decode cMo_first 64 = .ok (.aload_n 0, 1) := by decide +kernel
theorem dMo_first_65 : decode cMo_first 65 = .ok (.getfield 19, 3) := by decide +kernel
theorem dMo_first_68 : decode cMo_first 68 = .ok (.iload 4, 2) := by decide +kernel
theorem dMo_first_70 : decode cMo_first 70 = .ok (.iaload, 1) := by decide +kernel
theorem dMo_first_71 : decode cMo_first 71 = .ok (.bipush 10, 2) := by decide +kernel
theorem dMo_first_73 : decode cMo_first 73 = .ok (.irem, 1) := by decide +kernel
theorem dMo_first_74 : decode cMo_first 74 = .ok (.imul, 1) := by decide +kernel
theorem dMo_first_75 : decode cMo_first 75 = .ok (.iadd, 1) := by decide +kernel
theorem dMo_first_76 : decode cMo_first 76 = .ok (.aload_n 0, 1) := by decide +kernel
theorem dMo_first_77 : decode cMo_first 77 = .ok (.getfield 16, 3) := by decide +kernel
theorem dMo_first_80 : decode cMo_first 80 = .ok (.iload_n 3, 1) := by decide +kernel
theorem dMo_first_81 : decode cMo_first 81 = .ok (.iaload, 1) := by decide +kernel
theorem dMo_first_82 : decode cMo_first 82 = .ok (.iconst 1, 1) := by decide +kernel
theorem dMo_first_83 : decode cMo_first 83 = .ok (.if_icmp .le 7, 3) := by decide +kernel
theorem dMo_first_86 : decode cMo_first 86 = .ok (.iconst 1, 1) := by decide +kernel
theorem dMo_first_87 : decode cMo_first 87 = .ok (.goto 4, 3) := by decide +kernel
theorem dMo_first_90 : decode cMo_first 90 = .ok (.iconst 0, 1) := by decide +kernel
theorem dMo_first_91 : decode cMo_first 91 = .ok (.iadd, 1) := by decide +kernel
theorem dMo_first_92 : decode cMo_first 92 = .ok (.ireturn, 1) := by decide +kernel
theorem dMo_waiting_0 : decode cMo_waiting 0 = .ok (.aload_n 0, 1) := by decide +kernel
theorem dMo_waiting_1 : decode cMo_waiting 1 = .ok (.iload_n 1, 1) := by decide +kernel
theorem dMo_waiting_2 : decode cMo_waiting 2 = .ok (.iload_n 2, 1) := by decide +kernel
theorem dMo_waiting_3 : decode cMo_waiting 3 = .ok (.invokestatic 107, 3) := by decide +kernel
theorem dMo_waiting_6 : decode cMo_waiting 6 = .ok (.ifCond .eq 7, 3) := by decide +kernel
theorem dMo_waiting_9 : decode cMo_waiting 9 = .ok (.iconst 0, 1) := by decide +kernel
theorem dMo_waiting_10 : decode cMo_waiting 10 = .ok (.goto 4, 3) := by decide +kernel
theorem dMo_waiting_13 : decode cMo_waiting 13 = .ok (.iconst 1, 1) := by decide +kernel
theorem dMo_waiting_14 : decode cMo_waiting 14 = .ok (.putfield 90, 3) := by decide +kernel
theorem dMo_waiting_17 : decode cMo_waiting 17 = .ok (.aload_n 0, 1) := by decide +kernel
theorem dMo_waiting_18 : decode cMo_waiting 18 = .ok (.getfield 90, 3) := by decide +kernel
theorem dMo_waiting_21 : decode cMo_waiting 21 = .ok (.ifCond .ne 16, 3) := by decide +kernel
theorem dMo_waiting_24 : decode cMo_waiting 24 = .ok (.aload_n 0, 1) := by decide +kernel
theorem dMo_waiting_25 : decode cMo_waiting 25 = .ok (.getfield 16, 3) := by decide +kernel
theorem dMo_waiting_28 : decode cMo_waiting 28 = .ok (.iconst 4, 1) := by decide +kernel
theorem dMo_waiting_29 : decode cMo_waiting 29 = .ok (.iload_n 1, 1) := by decide +kernel
theorem dMo_waiting_30 : decode cMo_waiting 30 = .ok (.imul, 1) := by decide +kernel
theorem dMo_waiting_31 : decode cMo_waiting 31 = .ok (.iload_n 2, 1) := by decide +kernel
theorem dMo_waiting_32 : decode cMo_waiting 32 = .ok (.iadd, 1) := by decide +kernel
theorem dMo_waiting_33 : decode cMo_waiting 33 = .ok (.iaload, 1) := by decide +kernel
theorem dMo_waiting_34 : decode cMo_waiting 34 = .ok (.goto 4, 3) := by decide +kernel
theorem dMo_waiting_37 : decode cMo_waiting 37 = .ok (.iconst 0, 1) := by decide +kernel
theorem dMo_waiting_38 : decode cMo_waiting 38 = .ok (.ireturn, 1) := by decide +kernel
theorem dMo_about_0 : decode cMo_about 0 = .ok (.aload_n 0, 1) := by decide +kernel
theorem dMo_about_1 : decode cMo_about 1 = .ok (.iload_n 1, 1) := by decide +kernel
theorem dMo_about_2 : decode cMo_about 2 = .ok (.iload_n 2, 1) := by decide +kernel
theorem dMo_about_3 : decode cMo_about 3 = .ok (.invokestatic 170, 3) := by decide +kernel
theorem dMo_about_6 : decode cMo_about 6 = .ok (.ifCond .eq 7, 3) := by decide +kernel
theorem dMo_about_9 : decode cMo_about 9 = .ok (.iconst 0, 1) := by decide +kernel
theorem dMo_about_10 : decode cMo_about 10 = .ok (.goto 4, 3) := by decide +kernel
theorem dMo_about_13 : decode cMo_about 13 = .ok (.iconst 1, 1) := by decide +kernel
theorem dMo_about_14 : decode cMo_about 14 = .ok (.putfield 90, 3) := by decide +kernel
theorem dMo_about_17 : decode cMo_about 17 = .ok (.aload_n 0, 1) := by decide +kernel
theorem dMo_about_18 : decode cMo_about 18 = .ok (.getfield 90, 3) := by decide +kernel
theorem dMo_about_21 : decode cMo_about 21 = .ok (.ifCond .eq 5, 3) := by decide +kernel
theorem dMo_about_24 : decode cMo_about 24 = .ok (.iconst 0, 1) := by decide +kernel
theorem dMo_about_25 : decode cMo_about 25 = .ok (.ireturn, 1) := by decide +kernel
theorem dMo_about_26 : decode cMo_about 26 = .ok (.iload_n 1, 1) := by decide +kernel
theorem dMo_about_27 : decode cMo_about 27 = .ok (.iconst 3, 1) := by decide +kernel
theorem dMo_about_28 : decode cMo_about 28 = .ok (.if_icmp .ge 14, 3) := by decide +kernel
theorem dMo_about_31 : decode cMo_about 31 = .ok (.aload_n 0, 1) := by decide +kernel
theorem dMo_about_32 : decode cMo_about 32 = .ok (.getfield 32, 3) := by decide +kernel
theorem dMo_about_35 : decode cMo_about 35 = .ok (.iconst 4, 1) := by decide +kernel
theorem dMo_about_36 : decode cMo_about 36 = .ok (.iload_n 1, 1) := by decide +kernel
theorem dMo_about_37 : decode cMo_about 37 = .ok (.imul, 1) := by decide +kernel
theorem dMo_about_38 : decode cMo_about 38 = .ok (.iload_n 2, 1) := by decide +kernel
theorem dMo_about_39 : decode cMo_about 39 = .ok (.iadd, 1) := by decide +kernel
theorem dMo_about_40 : decode cMo_about 40 = .ok (.iaload, 1) := by decide +kernel
theorem dMo_about_41 : decode cMo_about 41 = .ok (.ireturn, 1) := by decide +kernel
theorem dMo_about_42 : decode cMo_about 42 = .ok (.iload_n 1, 1) := by decide +kernel
theorem dMo_about_43 : decode cMo_about 43 = .ok (.iconst 3, 1) := by decide +kernel
theorem dMo_about_44 : decode cMo_about 44 = .ok (.if_icmp .ne 12, 3) := by decide +kernel
theorem dMo_about_47 : decode cMo_about 47 = .ok (.aload_n 0, 1) := by decide +kernel
theorem dMo_about_48 : decode cMo_about 48 = .ok (.getfield 72, 3) := by decide +kernel
theorem dMo_about_51 : decode cMo_about 51 = .ok (.iload_n 2, 1) := by decide +kernel
theorem dMo_about_52 : decode cMo_about 52 = .ok (.iaload, 1) := by decide +kernel
theorem dMo_about_53 : decode cMo_about 53 = .ok (.goto 49, 3) := by decide +kernel
theorem dMo_about_56 : decode cMo_about 56 = .ok (.aload_n 0, 1) := by decide +kernel
theorem dMo_about_57 : decode cMo_about 57 = .ok (.getfield 81, 3) := by decide +kernel
theorem dMo_about_60 : decode cMo_about 60 = .ok (.iload_n 2, 1) := by decide +kernel
theorem dMo_about_61 : decode cMo_about 61 = .ok (.baload, 1) := by decide +kernel
theorem dMo_about_62 : decode cMo_about 62 = .ok (.ifCond .eq 7, 3) := by decide +kernel
theorem dMo_about_65 : decode cMo_about 65 = .ok (.iconst 1, 1) := by decide +kernel
theorem dMo_about_66 : decode cMo_about 66 = .ok (.goto 4, 3) := by decide +kernel
theorem dMo_about_69 : decode cMo_about 69 = .ok (.iconst 0, 1) := by decide +kernel
theorem dMo_about_70 : decode cMo_about 70 = .ok (.aload_n 0, 1) := by decide +kernel
theorem dMo_about_71 : decode cMo_about 71 = .ok (.getfield 84, 3) := by decide +kernel
theorem dMo_about_74 : decode cMo_about 74 = .ok (.iload_n 2, 1) := by decide +kernel
theorem dMo_about_75 : decode cMo_about 75 = .ok (.iaload, 1) := by decide +kernel
theorem dMo_about_76 : decode cMo_about 76 = .ok (.ifCond .ge 11, 3) := by decide +kernel
theorem dMo_about_79 : decode cMo_about 79 = .ok (.aload_n 0, 1) := by decide +kernel
theorem dMo_about_80 : decode cMo_about 80 = .ok (.getfield 78, 3) := by decide +kernel
theorem dMo_about_83 : decode cMo_about 83 = .ok (.iload_n 2, 1) := by decide +kernel
theorem dMo_about_84 : decode cMo_about 84 = .ok (.if_icmp .ne 7, 3) := by decide +kernel
theorem dMo_about_87 : decode cMo_about 87 = .ok (.iconst 2, 1) := by decide +kernel
theorem dMo_about_88 : decode cMo_about 88 = .ok (.goto 4, 3) := by decide +kernel
theorem dMo_about_91 : decode cMo_about 91 = .ok (.iconst 0, 1) := by decide +kernel
theorem dMo_about_92 : decode cMo_about 92 = .ok (.iadd, 1) := by decide +kernel
theorem dMo_about_93 : decode cMo_about 93 = .ok (.iconst 4, 1) := by decide +kernel
theorem dMo_about_94 : decode cMo_about 94 = .ok (.aload_n 0, 1) := by decide +kernel
theorem dMo_about_95 : decode cMo_about 95 = .ok (.getfield 87, 3) := by decide +kernel
theorem dMo_about_98 : decode cMo_about 98 = .ok (.iload_n 2, 1) := by decide +kernel
theorem dMo_about_99 : decode cMo_about 99 = .ok (.iaload, 1) := by decide +kernel
theorem dMo_about_100 : decode cMo_about 100 = .ok (.imul, 1) := by decide +kernel
theorem dMo_about_101 : decode cMo_about 101 = .ok (.iadd, 1) := by decide +kernel
theorem dMo_about_102 : decode cMo_about 102 = .ok (.ireturn, 1) := by decide +kernel
theorem dMo_more_0 : decode cMo_more 0 = .ok (.aload_n 0, 1) := by decide +kernel
theorem dMo_more_1 : decode cMo_more 1 = .ok (.iload_n 1, 1) := by decide +kernel
theorem dMo_more_2 : decode cMo_more 2 = .ok (.iload_n 2, 1) := by decide +kernel
theorem dMo_more_3 : decode cMo_more 3 = .ok (.invokestatic 170, 3) := by decide +kernel
theorem dMo_more_6 : decode cMo_more 6 = .ok (.ifCond .eq 7, 3) := by decide +kernel
theorem dMo_more_9 : decode cMo_more 9 = .ok (.iconst 0, 1) := by decide +kernel
theorem dMo_more_10 : decode cMo_more 10 = .ok (.goto 4, 3) := by decide +kernel
theorem dMo_more_13 : decode cMo_more 13 = .ok (.iconst 1, 1) := by decide +kernel
theorem dMo_more_14 : decode cMo_more 14 = .ok (.putfield 90, 3) := by decide +kernel
theorem dMo_more_17 : decode cMo_more 17 = .ok (.aload_n 0, 1) := by decide +kernel
theorem dMo_more_18 : decode cMo_more 18 = .ok (.getfield 90, 3) := by decide +kernel
theorem dMo_more_21 : decode cMo_more 21 = .ok (.ifCond .eq 5, 3) := by decide +kernel
theorem dMo_more_24 : decode cMo_more 24 = .ok (.iconst 0, 1) := by decide +kernel
theorem dMo_more_25 : decode cMo_more 25 = .ok (.ireturn, 1) := by decide +kernel
theorem dMo_more_26 : decode cMo_more 26 = .ok (.iload_n 1, 1) := by decide +kernel
theorem dMo_more_27 : decode cMo_more 27 = .ok (.tableswitch 76 0 3 #[29, 36, 45, 52], 29) := by decide +kernel
theorem dMo_more_56 : decode cMo_more 56 = .ok (.aload_n 0, 1) := by decide +kernel
theorem dMo_more_57 : decode cMo_more 57 = .ok (.getfield 35, 3) := by decide +kernel
theorem dMo_more_60 : decode cMo_more 60 = .ok (.iload_n 2, 1) := by decide +kernel
theorem dMo_more_61 : decode cMo_more 61 = .ok (.iaload, 1) := by decide +kernel
theorem dMo_more_62 : decode cMo_more 62 = .ok (.ireturn, 1) := by decide +kernel
theorem dMo_more_63 : decode cMo_more 63 = .ok (.aload_n 0, 1) := by decide +kernel
theorem dMo_more_64 : decode cMo_more 64 = .ok (.getfield 47, 3) := by decide +kernel
theorem dMo_more_67 : decode cMo_more 67 = .ok (.iconst 5, 1) := by decide +kernel
theorem dMo_more_68 : decode cMo_more 68 = .ok (.iload_n 2, 1) := by decide +kernel
theorem dMo_more_69 : decode cMo_more 69 = .ok (.imul, 1) := by decide +kernel
theorem dMo_more_70 : decode cMo_more 70 = .ok (.iaload, 1) := by decide +kernel
theorem dMo_more_71 : decode cMo_more 71 = .ok (.ireturn, 1) := by decide +kernel
theorem dMo_more_72 : decode cMo_more 72 = .ok (.aload_n 0, 1) := by decide +kernel
theorem dMo_more_73 : decode cMo_more 73 = .ok (.getfield 56, 3) := by decide +kernel
theorem dMo_more_76 : decode cMo_more 76 = .ok (.iload_n 2, 1) := by decide +kernel
theorem dMo_more_77 : decode cMo_more 77 = .ok (.iaload, 1) := by decide +kernel
theorem dMo_more_78 : decode cMo_more 78 = .ok (.ireturn, 1) := by decide +kernel
theorem dMo_more_79 : decode cMo_more 79 = .ok (.aload_n 0, 1) := by decide +kernel
theorem dMo_more_80 : decode cMo_more 80 = .ok (.getfield 69, 3) := by decide +kernel
theorem dMo_more_83 : decode cMo_more 83 = .ok (.iload_n 2, 1) := by decide +kernel
theorem dMo_more_84 : decode cMo_more 84 = .ok (.iaload, 1) := by decide +kernel
theorem dMo_more_85 : decode cMo_more 85 = .ok (.aload_n 0, 1) := by decide +kernel
theorem dMo_more_86 : decode cMo_more 86 = .ok (.getfield 75, 3) := by decide +kernel
theorem dMo_more_89 : decode cMo_more 89 = .ok (.iload_n 2, 1) := by decide +kernel
theorem dMo_more_90 : decode cMo_more 90 = .ok (.baload, 1) := by decide +kernel
theorem dMo_more_91 : decode cMo_more 91 = .ok (.ifCond .eq 9, 3) := by decide +kernel
theorem dMo_more_94 : decode cMo_more 94 = .ok (.sipush 1000, 3) := by decide +kernel
theorem dMo_more_97 : decode cMo_more 97 = .ok (.goto 4, 3) := by decide +kernel
theorem dMo_more_100 : decode cMo_more 100 = .ok (.iconst 0, 1) := by decide +kernel
theorem dMo_more_101 : decode cMo_more 101 = .ok (.iadd, 1) := by decide +kernel
theorem dMo_more_102 : decode cMo_more 102 = .ok (.ireturn, 1) := by decide +kernel
theorem dMo_more_103 : decode cMo_more 103 = .ok (.aload_n 0, 1) := by decide +kernel
theorem dMo_more_104 : decode cMo_more 104 = .ok (.getfield 84, 3) := by decide +kernel
theorem dMo_more_107 : decode cMo_more 107 = .ok (.iload_n 2, 1) := by decide +kernel
theorem dMo_more_108 : decode cMo_more 108 = .ok (.iaload, 1) := by decide +kernel
theorem dMo_more_109 : decode cMo_more 109 = .ok (.ireturn, 1) := by decide +kernel
theorem dMo_count_0 : decode cMo_count 0 = .ok (.aload_n 0, 1) := by decide +kernel
theorem dMo_count_1 : decode cMo_count 1 = .ok (.iconst 0, 1) := by decide +kernel
theorem dMo_count_2 : decode cMo_count 2 = .ok (.putfield 90, 3) := by decide +kernel
theorem dMo_count_5 : decode cMo_count 5 = .ok (.iload_n 1, 1) := by decide +kernel
theorem dMo_count_6 : decode cMo_count 6 = .ok (.ifCond .ne 10, 3) := by decide +kernel
theorem dMo_count_9 : decode cMo_count 9 = .ok (.aload_n 0, 1) := by decide +kernel
theorem dMo_count_10 : decode cMo_count 10 = .ok (.getfield 128, 3) := by decide +kernel
theorem dMo_count_13 : decode cMo_count 13 = .ok (.goto 40, 3) := by decide +kernel
theorem dMo_count_16 : decode cMo_count 16 = .ok (.iload_n 1, 1) := by decide +kernel
theorem dMo_count_17 : decode cMo_count 17 = .ok (.iconst 1, 1) := by decide +kernel
theorem dMo_count_18 : decode cMo_count 18 = .ok (.if_icmp .ne 10, 3) := by decide +kernel
theorem dMo_count_21 : decode cMo_count 21 = .ok (.aload_n 0, 1) := by decide +kernel
theorem dMo_count_22 : decode cMo_count 22 = .ok (.getfield 96, 3) := by decide +kernel
theorem dMo_count_25 : decode cMo_count 25 = .ok (.goto 28, 3) := by decide +kernel
theorem dMo_count_28 : decode cMo_count 28 = .ok (.iload_n 1, 1) := by decide +kernel
theorem dMo_count_29 : decode cMo_count 29 = .ok (.iconst 2, 1) := by decide +kernel
theorem dMo_count_30 : decode cMo_count 30 = .ok (.if_icmp .ne 10, 3) := by decide +kernel
theorem dMo_count_33 : decode cMo_count 33 = .ok (.aload_n 0, 1) := by decide +kernel
theorem dMo_count_34 : decode cMo_count 34 = .ok (.getfield 164, 3) := by decide +kernel
theorem dMo_count_37 : decode cMo_count 37 = .ok (.goto 16, 3) := by decide +kernel
theorem dMo_count_40 : decode cMo_count 40 = .ok (.iload_n 1, 1) := by decide +kernel
theorem dMo_count_41 : decode cMo_count 41 = .ok (.iconst 3, 1) := by decide +kernel
theorem dMo_count_42 : decode cMo_count 42 = .ok (.if_icmp .ne 10, 3) := by decide +kernel
theorem dMo_count_45 : decode cMo_count 45 = .ok (.aload_n 0, 1) := by decide +kernel
theorem dMo_count_46 : decode cMo_count 46 = .ok (.getfield 78, 3) := by decide +kernel
theorem dMo_count_49 : decode cMo_count 49 = .ok (.goto 4, 3) := by decide +kernel
theorem dMo_count_52 : decode cMo_count 52 = .ok (.iconst (-1), 1) := by decide +kernel
theorem dMo_count_53 : decode cMo_count 53 = .ok (.ireturn, 1) := by decide +kernel
end
section
abbrev mT (tI tZ : ClassId) : List (ClassId × FieldType) := [(tI, .int), (tZ, .boolean)]
def mw (a : Nat → Nat) (tI tZ : ClassId) (σ : MS) : va_W := [(a 0, .inr (0, [.ref (a 1), .ref (a 2), .ref (a 3), .ref (a 4), .ref (a 5), .ref (a 6), .int (σ 6 0), .int (σ 7 0), .ref (a 7), .int (σ 9 0), .int (σ 10 0), .ref (a 8), .ref (a 9), .ref (a 10), .ref (a 11), .ref (a 12), .ref (a 13), .int (σ 17 0), .int (σ 18 0), .ref (a 14), .ref (a 15), .ref (a 16), .ref (a 17), .ref (a 18), .ref (a 19), .ref (a 20), .ref (a 21), .int (σ 27 0), .int (σ 28 0), .ref (a 22), .ref (a 23), .ref (a 24), .int (σ 32 0)])),
  (a 1, .inl (tI, 16, .inl (σ 0))),
  (a 2, .inl (tI, 16, .inl (σ 1))),
  (a 3, .inl (tI, 16, .inl (σ 2))),
  (a 4, .inl (tI, 700, .inl (σ 3))),
  (a 5, .inl (tI, 700, .inl (σ 4))),
  (a 6, .inl (tI, 700, .inl (σ 5))),
  (a 7, .inl (tI, 12, .inl (σ 8))),
  (a 8, .inl (tI, 4, .inl (σ 11))),
  (a 9, .inl (tI, 4, .inl (σ 12))),
  (a 10, .inl (tI, 4, .inl (σ 13))),
  (a 11, .inl (tI, 4, .inl (σ 14))),
  (a 12, .inl (tI, 16, .inl (σ 15))),
  (a 13, .inl (tI, 4, .inl (σ 16))),
  (a 14, .inl (tI, 4, .inl (σ 19))),
  (a 15, .inl (tI, 4, .inl (σ 20))),
  (a 16, .inl (tI, 4, .inl (σ 21))),
  (a 17, .inl (tI, 32, .inl (σ 22))),
  (a 18, .inl (tZ, 4, .inl (σ 23))),
  (a 19, .inl (tI, 4, .inl (σ 24))),
  (a 20, .inl (tI, 4, .inl (σ 25))),
  (a 21, .inl (tZ, 4, .inl (σ 26))),
  (a 22, .inl (tZ, 4, .inl (σ 29))),
  (a 23, .inl (tI, 4, .inl (σ 30))),
  (a 24, .inl (tI, 4, .inl (σ 31)))]
-- public int thrown()
def wM_thrown (R : Int32 → MS → Prop) (σ : MS) : Prop :=
  R (σ 32 0) σ
abbrev wsMo_thrown : List Cond := .code yMo_thrown cMo_thrown 1 (some .int) :: wg
abbrev rmM_thrown : Room := { frames := 0, cells := 0, slots := 0, locals := 0 }
set_option maxHeartbeats 4000000 in
set_option maxRecDepth 100000 in
theorem kM_thrown (l : Launch) (D : va_G) (a : Nat → Nat) (A : Nat → Prop) (tI tZ : ClassId) (σ : MS) (R : Int32 → MS → Prop) (hwp : wM_thrown R σ ) : Met l yMo_thrown wsMo_thrown rmM_thrown (va_Pc [.ref (a 0)] (uI D clA (mT tI tZ) A false (mw a tI tZ) σ)) (va_Qi R (uI D clA (mT tI tZ) A false (mw a tI tZ)) A) 0 0 A := by
  refine Met.ofW (cc := cMo_thrown) (maxL := 1) (ret := (some .int)) (by decide) rfl ?_
  intro p e s m args below meth c s₁ B hml hv
  obtain ⟨rfl, hP, hK, hD, hA⟩ := hv
  have hx := B.exec
  have hb := B.bytes
  have hr := B.returns
  have hts := atoms_spec (ws := wsMo_thrown) B.pre
  have hown : s.vm.findClass RMo = some m.cls := findClass_of_methodNamed B.named
  have hlocks := B.notSynchronized
  have hin0 : ∀ w ∈ u_ws RMo TMo 33, w ∈ wsMo_thrown := fun w h => List.mem_cons_of_mem _ (inMo w h)
  have k90 := hts _ (List.mem_cons_of_mem _ wm_768)
  have hS : va_S A s.heap s.heap [] := va_S.rf
  have hl := lv_entry ([.ref (a 0)]) (n := 1) (Nat.le_of_ble_eq_true rfl)
  rw [lg_entry_eq]
  generalize (lg_sl ([.ref (a 0)]) ++ List.replicate (1 - (lg_sl ([.ref (a 0)])).length) Slot.unset).toArray = ls at hl ⊢
  have hl : lv_has ls 1 [(0, .ref (a 0))] := hl
  refine lv_aload_n hx hb dMo_thrown_0 rfl (lv_at hl 0 rfl) ?_
  refine va_get (D := D) (ci := 0) (C := RMo) (T := TMo) (N := 33) hx hb hts hin0 hown hK hP 0 rfl rfl 32 (by decide) k90 (fun _ h9 => h9) rfl dMo_thrown_1 ?_
  exact W.iret (v := σ 32 0) hx hb hr (fun t ht hW => ⟨⟨σ 32 0, σ, rfl, hwp, uEnd ht hW hP hK hD hS hA⟩, hS.F ht⟩) hS.2.2 dMo_thrown_4
-- private static boolean isNode(int)
def wM_isNode_13 (R : Int32 → MS → Prop) (σ : MS) (y0 : Int32) : Prop :=
  R 0 σ
def wM_isNode (R : Int32 → MS → Prop) (σ : MS) (x1 : Int32) : Prop :=
  (((x1 < 0) → wM_isNode_13 R σ x1) ∧ ((¬ x1 < 0) → (((4 ≤ x1) → wM_isNode_13 R σ x1) ∧ ((¬ 4 ≤ x1) → R 1 σ))))
abbrev wsMo_isNode : List Cond := .code yMo_isNode cMo_isNode 1 (some .boolean) :: wg
abbrev rmM_isNode : Room := { frames := 0, cells := 0, slots := 0, locals := 0 }
set_option maxHeartbeats 4000000 in
set_option maxRecDepth 100000 in
theorem kM_isNode (l : Launch) (D : va_G) (a : Nat → Nat) (A : Nat → Prop) (tI tZ : ClassId) (σ : MS) (x1 : Int32) (R : Int32 → MS → Prop) (hwp : wM_isNode R σ x1) : Met l yMo_isNode wsMo_isNode rmM_isNode (va_Pc [.int x1] (uI D clA (mT tI tZ) A false (mw a tI tZ) σ)) (va_Qi R (uI D clA (mT tI tZ) A false (mw a tI tZ)) A) 0 0 A := by
  refine Met.ofW (cc := cMo_isNode) (maxL := 1) (ret := (some .boolean)) (by decide) rfl ?_
  intro p e s m args below meth c s₁ B hml hv
  obtain ⟨rfl, hP, hK, hD, hA⟩ := hv
  have hx := B.exec
  have hb := B.bytes
  have hr := B.returns
  have hts := atoms_spec (ws := wsMo_isNode) B.pre
  have hown : s.vm.findClass RMo = some m.cls := findClass_of_methodNamed B.named
  have hlocks := B.notSynchronized
  have hS : va_S A s.heap s.heap [] := va_S.rf
  have cut13 : ∀ (σ : MS) (y0 : Int32) (H : Heap) (locs : List Loc) (ls : Array Slot), wM_isNode_13 R σ y0 → va_P D clA (mw a tI tZ σ) H → va_D A (mw a tI tZ σ) → va_S A s.heap H locs → lv_has ls 1 [(0, .int y0)] → W p l e (headSpec wsMo_isNode rmM_isNode).room s m ([.int x1] : List Value).toArray below meth c H locs 0 0 (MQ below (va_Qi R (uI D clA (mT tI tZ) A false (mw a tI tZ)) A) ([.int x1] : List Value).toArray s 0 0 A) (F0 m 13 ls []) := by
    intro σ y0 H locs ls hwp hP hD hS hl
    refine lv_iconst (v := 0) hx hb dMo_isNode_13 (by decide) ?_
    exact W.zret (v := 0) hx hb hr (by decide) (fun t ht hW => ⟨⟨0, σ, rfl, hwp, uEnd ht hW hP hK hD hS hA⟩, hS.F ht⟩) hS.2.2 dMo_isNode_14
  have hl := lv_entry ([.int x1]) (n := 1) (Nat.le_of_ble_eq_true rfl)
  rw [lg_entry_eq]
  generalize (lg_sl ([.int x1]) ++ List.replicate (1 - (lg_sl ([.int x1])).length) Slot.unset).toArray = ls at hl ⊢
  have hl : lv_has ls 1 [(0, .int x1)] := hl
  refine lv_iload_n hx hb dMo_isNode_0 rfl (lv_at hl 0 rfl) ?_
  refine lv_if_lt hx hb dMo_isNode_1 rfl (fun h1 => ?_) (fun h1 => ?_)
  · have hwp := hwp.1 h1
    exact cut13 σ x1 _ _ _ hwp hP hD hS (lv_sub hl [0] rfl)
  · have hwp := hwp.2 h1
    refine lv_iload_n hx hb dMo_isNode_4 rfl (lv_at hl 0 rfl) ?_
    refine lv_iconst (v := 4) hx hb dMo_isNode_5 (by decide) ?_
    refine lv_icmp_ge hx hb dMo_isNode_6 rfl (fun h2 => ?_) (fun h2 => ?_)
    · have hwp := hwp.1 h2
      exact cut13 σ x1 _ _ _ hwp hP hD hS (lv_sub hl [0] rfl)
    · have hwp := hwp.2 h2
      refine lv_iconst (v := 1) hx hb dMo_isNode_9 (by decide) ?_
      refine lv_goto hx hb dMo_isNode_10 rfl ?_
      exact W.zret (v := 1) hx hb hr (by decide) (fun t ht hW => ⟨⟨1, σ, rfl, hwp, uEnd ht hW hP hK hD hS hA⟩, hS.F ht⟩) hS.2.2 dMo_isNode_14
-- private static boolean isChannel(int, int)
def wM_isChannel_23 (R : Int32 → MS → Prop) (σ : MS) (y0 : Int32) (y1 : Int32) : Prop :=
  R 0 σ
def wM_isChannel (R : Int32 → MS → Prop) (σ : MS) (x1 x2 : Int32) : Prop :=
  (∃ P1 : Int32 → MS → Prop, wM_isNode P1 σ x1 ∧ (∀ (r3 : Int32) (u2 : MS), P1 r3 u2 → (((r3 = 0) → wM_isChannel_23 R u2 x1 x2) ∧ ((¬ r3 = 0) → (∃ P5 : Int32 → MS → Prop, wM_isNode P5 u2 x2 ∧ (∀ (r7 : Int32) (u6 : MS), P5 r7 u6 → (((r7 = 0) → wM_isChannel_23 R u6 x1 x2) ∧ ((¬ r7 = 0) → (((x1 = x2) → wM_isChannel_23 R u6 x1 x2) ∧ ((¬ x1 = x2) → R 1 u6))))))))))
abbrev wsMo_isChannel : List Cond := .code yMo_isChannel cMo_isChannel 2 (some .boolean) :: wg
abbrev rmM_isChannel : Room := { frames := 1, cells := 0, slots := 0, locals := 20 }
set_option maxHeartbeats 4000000 in
set_option maxRecDepth 100000 in
theorem kM_isChannel (l : Launch) (D : va_G) (a : Nat → Nat) (A : Nat → Prop) (tI tZ : ClassId) (σ : MS) (x1 x2 : Int32) (R : Int32 → MS → Prop) (hwp : wM_isChannel R σ x1 x2) : Met l yMo_isChannel wsMo_isChannel rmM_isChannel (va_Pc [.int x1, .int x2] (uI D clA (mT tI tZ) A false (mw a tI tZ) σ)) (va_Qi R (uI D clA (mT tI tZ) A false (mw a tI tZ)) A) 0 0 A := by
  refine Met.ofW (cc := cMo_isChannel) (maxL := 2) (ret := (some .boolean)) (by decide) rfl ?_
  intro p e s m args below meth c s₁ B hml hv
  obtain ⟨rfl, hP, hK, hD, hA⟩ := hv
  have hx := B.exec
  have hb := B.bytes
  have hr := B.returns
  have hts := atoms_spec (ws := wsMo_isChannel) B.pre
  have hown : s.vm.findClass RMo = some m.cls := findClass_of_methodNamed B.named
  have hlocks := B.notSynchronized
  have hS : va_S A s.heap s.heap [] := va_S.rf
  have cut23 : ∀ (σ : MS) (y0 : Int32) (y1 : Int32) (H : Heap) (locs : List Loc) (ls : Array Slot), wM_isChannel_23 R σ y0 y1 → va_P D clA (mw a tI tZ σ) H → va_D A (mw a tI tZ σ) → va_S A s.heap H locs → lv_has ls 2 [(0, .int y0), (1, .int y1)] → W p l e (headSpec wsMo_isChannel rmM_isChannel).room s m ([.int x1, .int x2] : List Value).toArray below meth c H locs 0 0 (MQ below (va_Qi R (uI D clA (mT tI tZ) A false (mw a tI tZ)) A) ([.int x1, .int x2] : List Value).toArray s 0 0 A) (F0 m 23 ls []) := by
    intro σ y0 y1 H locs ls hwp hP hD hS hl
    refine lv_iconst (v := 0) hx hb dMo_isChannel_23 (by decide) ?_
    exact W.zret (v := 0) hx hb hr (by decide) (fun t ht hW => ⟨⟨0, σ, rfl, hwp, uEnd ht hW hP hK hD hS hA⟩, hS.F ht⟩) hS.2.2 dMo_isChannel_24
  have hl := lv_entry ([.int x1, .int x2]) (n := 2) (Nat.le_of_ble_eq_true rfl)
  rw [lg_entry_eq]
  generalize (lg_sl ([.int x1, .int x2]) ++ List.replicate (2 - (lg_sl ([.int x1, .int x2])).length) Slot.unset).toArray = ls at hl ⊢
  have hl : lv_has ls 2 [(0, .int x1), (1, .int x2)] := hl
  refine lv_iload_n hx hb dMo_isChannel_0 rfl (lv_at hl 0 rfl) ?_
  obtain ⟨P1, hP1, hwp⟩ := hwp
  refine uCallSi (As := [.int x1]) (rest := []) ⟨hx, hb, hml, hown, hts⟩ (kM_isNode l D a A tI tZ σ x1 P1 hP1) (cwS 1 hts (gdS wm_847 wm_848 wm_13 wm_849) rfl rfl rfl (by decide +kernel) ⟨Nat.le_of_ble_eq_true rfl, Nat.le_of_ble_eq_true rfl⟩) hP hK hD hA hS rfl hl.1 rfl (Nat.le_of_ble_eq_true rfl) dMo_isChannel_1 ⟨Nat.le_of_ble_eq_true rfl, Nat.le_of_ble_eq_true rfl⟩ (fun r3 u2 H locs hu2 hP hD hS => ?_)
  have hwp := hwp r3 u2 hu2
  refine lv_if_eq hx hb dMo_isChannel_4 rfl (fun h4 => ?_) (fun h4 => ?_)
  · have hwp := hwp.1 h4
    exact cut23 u2 x1 x2 _ _ _ hwp hP hD hS (lv_sub hl [0, 1] rfl)
  · have hwp := hwp.2 h4
    refine lv_iload_n hx hb dMo_isChannel_7 rfl (lv_at hl 1 rfl) ?_
    obtain ⟨P5, hP5, hwp⟩ := hwp
    refine uCallSi (As := [.int x2]) (rest := []) ⟨hx, hb, hml, hown, hts⟩ (kM_isNode l D a A tI tZ u2 x2 P5 hP5) (cwS 1 hts (gdS wm_847 wm_848 wm_13 wm_849) rfl rfl rfl (by decide +kernel) ⟨Nat.le_of_ble_eq_true rfl, Nat.le_of_ble_eq_true rfl⟩) hP hK hD hA hS rfl hl.1 rfl (Nat.le_of_ble_eq_true rfl) dMo_isChannel_8 ⟨Nat.le_of_ble_eq_true rfl, Nat.le_of_ble_eq_true rfl⟩ (fun r7 u6 H locs hu6 hP hD hS => ?_)
    have hwp := hwp r7 u6 hu6
    refine lv_if_eq hx hb dMo_isChannel_11 rfl (fun h8 => ?_) (fun h8 => ?_)
    · have hwp := hwp.1 h8
      exact cut23 u6 x1 x2 _ _ _ hwp hP hD hS (lv_sub hl [0, 1] rfl)
    · have hwp := hwp.2 h8
      refine lv_iload_n hx hb dMo_isChannel_14 rfl (lv_at hl 0 rfl) ?_
      refine lv_iload_n hx hb dMo_isChannel_15 rfl (lv_at hl 1 rfl) ?_
      refine lv_icmp_eq hx hb dMo_isChannel_16 rfl (fun h9 => ?_) (fun h9 => ?_)
      · have hwp := hwp.1 h9
        exact cut23 u6 x1 x2 _ _ _ hwp hP hD hS (lv_sub hl [0, 1] rfl)
      · have hwp := hwp.2 h9
        refine lv_iconst (v := 1) hx hb dMo_isChannel_19 (by decide) ?_
        refine lv_goto hx hb dMo_isChannel_20 rfl ?_
        exact W.zret (v := 1) hx hb hr (by decide) (fun t ht hW => ⟨⟨1, u6, rfl, hwp, uEnd ht hW hP hK hD hS hA⟩, hS.F ht⟩) hS.2.2 dMo_isChannel_24
-- private static boolean isLock(int, int)
def wM_isLock_20 (R : Int32 → MS → Prop) (σ : MS) (y0 : Int32) (y1 : Int32) : Prop :=
  R 0 σ
def wM_isLock (R : Int32 → MS → Prop) (σ : MS) (x1 x2 : Int32) : Prop :=
  (((x1 < 0) → wM_isLock_20 R σ x1 x2) ∧ ((¬ x1 < 0) → (((3 ≤ x1) → wM_isLock_20 R σ x1 x2) ∧ ((¬ 3 ≤ x1) → (∃ P3 : Int32 → MS → Prop, wM_isNode P3 σ x2 ∧ (∀ (r5 : Int32) (u4 : MS), P3 r5 u4 → (((r5 = 0) → wM_isLock_20 R u4 x1 x2) ∧ ((¬ r5 = 0) → R 1 u4))))))))
abbrev wsMo_isLock : List Cond := .code yMo_isLock cMo_isLock 2 (some .boolean) :: wg
abbrev rmM_isLock : Room := { frames := 1, cells := 0, slots := 0, locals := 20 }
set_option maxHeartbeats 4000000 in
set_option maxRecDepth 100000 in
theorem kM_isLock (l : Launch) (D : va_G) (a : Nat → Nat) (A : Nat → Prop) (tI tZ : ClassId) (σ : MS) (x1 x2 : Int32) (R : Int32 → MS → Prop) (hwp : wM_isLock R σ x1 x2) : Met l yMo_isLock wsMo_isLock rmM_isLock (va_Pc [.int x1, .int x2] (uI D clA (mT tI tZ) A false (mw a tI tZ) σ)) (va_Qi R (uI D clA (mT tI tZ) A false (mw a tI tZ)) A) 0 0 A := by
  refine Met.ofW (cc := cMo_isLock) (maxL := 2) (ret := (some .boolean)) (by decide) rfl ?_
  intro p e s m args below meth c s₁ B hml hv
  obtain ⟨rfl, hP, hK, hD, hA⟩ := hv
  have hx := B.exec
  have hb := B.bytes
  have hr := B.returns
  have hts := atoms_spec (ws := wsMo_isLock) B.pre
  have hown : s.vm.findClass RMo = some m.cls := findClass_of_methodNamed B.named
  have hlocks := B.notSynchronized
  have hS : va_S A s.heap s.heap [] := va_S.rf
  have cut20 : ∀ (σ : MS) (y0 : Int32) (y1 : Int32) (H : Heap) (locs : List Loc) (ls : Array Slot), wM_isLock_20 R σ y0 y1 → va_P D clA (mw a tI tZ σ) H → va_D A (mw a tI tZ σ) → va_S A s.heap H locs → lv_has ls 2 [(0, .int y0), (1, .int y1)] → W p l e (headSpec wsMo_isLock rmM_isLock).room s m ([.int x1, .int x2] : List Value).toArray below meth c H locs 0 0 (MQ below (va_Qi R (uI D clA (mT tI tZ) A false (mw a tI tZ)) A) ([.int x1, .int x2] : List Value).toArray s 0 0 A) (F0 m 20 ls []) := by
    intro σ y0 y1 H locs ls hwp hP hD hS hl
    refine lv_iconst (v := 0) hx hb dMo_isLock_20 (by decide) ?_
    exact W.zret (v := 0) hx hb hr (by decide) (fun t ht hW => ⟨⟨0, σ, rfl, hwp, uEnd ht hW hP hK hD hS hA⟩, hS.F ht⟩) hS.2.2 dMo_isLock_21
  have hl := lv_entry ([.int x1, .int x2]) (n := 2) (Nat.le_of_ble_eq_true rfl)
  rw [lg_entry_eq]
  generalize (lg_sl ([.int x1, .int x2]) ++ List.replicate (2 - (lg_sl ([.int x1, .int x2])).length) Slot.unset).toArray = ls at hl ⊢
  have hl : lv_has ls 2 [(0, .int x1), (1, .int x2)] := hl
  refine lv_iload_n hx hb dMo_isLock_0 rfl (lv_at hl 0 rfl) ?_
  refine lv_if_lt hx hb dMo_isLock_1 rfl (fun h1 => ?_) (fun h1 => ?_)
  · have hwp := hwp.1 h1
    exact cut20 σ x1 x2 _ _ _ hwp hP hD hS (lv_sub hl [0, 1] rfl)
  · have hwp := hwp.2 h1
    refine lv_iload_n hx hb dMo_isLock_4 rfl (lv_at hl 0 rfl) ?_
    refine lv_iconst (v := 3) hx hb dMo_isLock_5 (by decide) ?_
    refine lv_icmp_ge hx hb dMo_isLock_6 rfl (fun h2 => ?_) (fun h2 => ?_)
    · have hwp := hwp.1 h2
      exact cut20 σ x1 x2 _ _ _ hwp hP hD hS (lv_sub hl [0, 1] rfl)
    · have hwp := hwp.2 h2
      refine lv_iload_n hx hb dMo_isLock_9 rfl (lv_at hl 1 rfl) ?_
      obtain ⟨P3, hP3, hwp⟩ := hwp
      refine uCallSi (As := [.int x2]) (rest := []) ⟨hx, hb, hml, hown, hts⟩ (kM_isNode l D a A tI tZ σ x2 P3 hP3) (cwS 1 hts (gdS wm_847 wm_848 wm_13 wm_849) rfl rfl rfl (by decide +kernel) ⟨Nat.le_of_ble_eq_true rfl, Nat.le_of_ble_eq_true rfl⟩) hP hK hD hA hS rfl hl.1 rfl (Nat.le_of_ble_eq_true rfl) dMo_isLock_10 ⟨Nat.le_of_ble_eq_true rfl, Nat.le_of_ble_eq_true rfl⟩ (fun r5 u4 H locs hu4 hP hD hS => ?_)
      have hwp := hwp r5 u4 hu4
      refine lv_if_eq hx hb dMo_isLock_13 rfl (fun h6 => ?_) (fun h6 => ?_)
      · have hwp := hwp.1 h6
        exact cut20 u4 x1 x2 _ _ _ hwp hP hD hS (lv_sub hl [0, 1] rfl)
      · have hwp := hwp.2 h6
        refine lv_iconst (v := 1) hx hb dMo_isLock_16 (by decide) ?_
        refine lv_goto hx hb dMo_isLock_17 rfl ?_
        exact W.zret (v := 1) hx hb hr (by decide) (fun t ht hW => ⟨⟨1, u4, rfl, hwp, uEnd ht hW hP hK hD hS hA⟩, hS.F ht⟩) hS.2.2 dMo_isLock_21
-- private static boolean isService(int, int)
def wM_isService_20 (R : Int32 → MS → Prop) (σ : MS) (y0 : Int32) (y1 : Int32) : Prop :=
  R 0 σ
def wM_isService (R : Int32 → MS → Prop) (σ : MS) (x1 x2 : Int32) : Prop :=
  (((x1 < 0) → wM_isService_20 R σ x1 x2) ∧ ((¬ x1 < 0) → (((5 ≤ x1) → wM_isService_20 R σ x1 x2) ∧ ((¬ 5 ≤ x1) → (∃ P3 : Int32 → MS → Prop, wM_isNode P3 σ x2 ∧ (∀ (r5 : Int32) (u4 : MS), P3 r5 u4 → (((r5 = 0) → wM_isService_20 R u4 x1 x2) ∧ ((¬ r5 = 0) → R 1 u4))))))))
abbrev wsMo_isService : List Cond := .code yMo_isService cMo_isService 2 (some .boolean) :: wg
abbrev rmM_isService : Room := { frames := 1, cells := 0, slots := 0, locals := 20 }
set_option maxHeartbeats 4000000 in
set_option maxRecDepth 100000 in
theorem kM_isService (l : Launch) (D : va_G) (a : Nat → Nat) (A : Nat → Prop) (tI tZ : ClassId) (σ : MS) (x1 x2 : Int32) (R : Int32 → MS → Prop) (hwp : wM_isService R σ x1 x2) : Met l yMo_isService wsMo_isService rmM_isService (va_Pc [.int x1, .int x2] (uI D clA (mT tI tZ) A false (mw a tI tZ) σ)) (va_Qi R (uI D clA (mT tI tZ) A false (mw a tI tZ)) A) 0 0 A := by
  refine Met.ofW (cc := cMo_isService) (maxL := 2) (ret := (some .boolean)) (by decide) rfl ?_
  intro p e s m args below meth c s₁ B hml hv
  obtain ⟨rfl, hP, hK, hD, hA⟩ := hv
  have hx := B.exec
  have hb := B.bytes
  have hr := B.returns
  have hts := atoms_spec (ws := wsMo_isService) B.pre
  have hown : s.vm.findClass RMo = some m.cls := findClass_of_methodNamed B.named
  have hlocks := B.notSynchronized
  have hS : va_S A s.heap s.heap [] := va_S.rf
  have cut20 : ∀ (σ : MS) (y0 : Int32) (y1 : Int32) (H : Heap) (locs : List Loc) (ls : Array Slot), wM_isService_20 R σ y0 y1 → va_P D clA (mw a tI tZ σ) H → va_D A (mw a tI tZ σ) → va_S A s.heap H locs → lv_has ls 2 [(0, .int y0), (1, .int y1)] → W p l e (headSpec wsMo_isService rmM_isService).room s m ([.int x1, .int x2] : List Value).toArray below meth c H locs 0 0 (MQ below (va_Qi R (uI D clA (mT tI tZ) A false (mw a tI tZ)) A) ([.int x1, .int x2] : List Value).toArray s 0 0 A) (F0 m 20 ls []) := by
    intro σ y0 y1 H locs ls hwp hP hD hS hl
    refine lv_iconst (v := 0) hx hb dMo_isService_20 (by decide) ?_
    exact W.zret (v := 0) hx hb hr (by decide) (fun t ht hW => ⟨⟨0, σ, rfl, hwp, uEnd ht hW hP hK hD hS hA⟩, hS.F ht⟩) hS.2.2 dMo_isService_21
  have hl := lv_entry ([.int x1, .int x2]) (n := 2) (Nat.le_of_ble_eq_true rfl)
  rw [lg_entry_eq]
  generalize (lg_sl ([.int x1, .int x2]) ++ List.replicate (2 - (lg_sl ([.int x1, .int x2])).length) Slot.unset).toArray = ls at hl ⊢
  have hl : lv_has ls 2 [(0, .int x1), (1, .int x2)] := hl
  refine lv_iload_n hx hb dMo_isService_0 rfl (lv_at hl 0 rfl) ?_
  refine lv_if_lt hx hb dMo_isService_1 rfl (fun h1 => ?_) (fun h1 => ?_)
  · have hwp := hwp.1 h1
    exact cut20 σ x1 x2 _ _ _ hwp hP hD hS (lv_sub hl [0, 1] rfl)
  · have hwp := hwp.2 h1
    refine lv_iload_n hx hb dMo_isService_4 rfl (lv_at hl 0 rfl) ?_
    refine lv_iconst (v := 5) hx hb dMo_isService_5 (by decide) ?_
    refine lv_icmp_ge hx hb dMo_isService_6 rfl (fun h2 => ?_) (fun h2 => ?_)
    · have hwp := hwp.1 h2
      exact cut20 σ x1 x2 _ _ _ hwp hP hD hS (lv_sub hl [0, 1] rfl)
    · have hwp := hwp.2 h2
      refine lv_iload_n hx hb dMo_isService_9 rfl (lv_at hl 1 rfl) ?_
      obtain ⟨P3, hP3, hwp⟩ := hwp
      refine uCallSi (As := [.int x2]) (rest := []) ⟨hx, hb, hml, hown, hts⟩ (kM_isNode l D a A tI tZ σ x2 P3 hP3) (cwS 1 hts (gdS wm_847 wm_848 wm_13 wm_849) rfl rfl rfl (by decide +kernel) ⟨Nat.le_of_ble_eq_true rfl, Nat.le_of_ble_eq_true rfl⟩) hP hK hD hA hS rfl hl.1 rfl (Nat.le_of_ble_eq_true rfl) dMo_isService_10 ⟨Nat.le_of_ble_eq_true rfl, Nat.le_of_ble_eq_true rfl⟩ (fun r5 u4 H locs hu4 hP hD hS => ?_)
      have hwp := hwp r5 u4 hu4
      refine lv_if_eq hx hb dMo_isService_13 rfl (fun h6 => ?_) (fun h6 => ?_)
      · have hwp := hwp.1 h6
        exact cut20 u4 x1 x2 _ _ _ hwp hP hD hS (lv_sub hl [0, 1] rfl)
      · have hwp := hwp.2 h6
        refine lv_iconst (v := 1) hx hb dMo_isService_16 (by decide) ?_
        refine lv_goto hx hb dMo_isService_17 rfl ?_
        exact W.zret (v := 1) hx hb hr (by decide) (fun t ht hW => ⟨⟨1, u4, rfl, hwp, uEnd ht hW hP hK hD hS hA⟩, hS.F ht⟩) hS.2.2 dMo_isService_21
-- private void send(int, int, int, int, int)
def wM_send_115 (R : MS → Prop) (σ : MS) (y1 : Int32) (y2 : Int32) (y3 : Int32) (y4 : Int32) (y5 : Int32) (y6 : Int32) (y7 : Int32) : Prop :=
  (vp_in y7 16 ∧ (∀ σ2 : MS, σ2 = up2 σ 1 y7.toNatClampNeg y6 → (vp_in y7 16 ∧ (vp_in y7 16 ∧ (∀ σ5 : MS, σ5 = up2 σ2 2 y7.toNatClampNeg ((σ2 2 y7.toNatClampNeg) + 1) → (∀ σ6 : MS, σ6 = up2 σ5 10 0 ((σ5 10 0) + 1) → R σ6))))))
def wM_send_41 (R : MS → Prop) (σ : MS) (y1 : Int32) (y2 : Int32) (y3 : Int32) (y4 : Int32) (y5 : Int32) (y6 : Int32) : Prop :=
  (vp_in y6 700 ∧ (∀ σ8 : MS, σ8 = up2 σ 3 y6.toNatClampNeg ((10 * y3) + y4) → (vp_in y6 700 ∧ (∀ σ10 : MS, σ10 = up2 σ8 4 y6.toNatClampNeg y5 → (vp_in y6 700 ∧ (∀ σ12 : MS, σ12 = up2 σ10 5 y6.toNatClampNeg (-1) → (∀ v13 : Int32, v13 = (4 * y1) + y2 → (vp_in v13 16 ∧ (((0 ≤ (σ12 0 v13.toNatClampNeg)) → (vp_in v13 16 ∧ (vp_in (σ12 1 v13.toNatClampNeg) 700 ∧ (∀ σ18 : MS, σ18 = up2 σ12 5 (σ12 1 v13.toNatClampNeg).toNatClampNeg y6 → wM_send_115 R σ18 y1 y2 y3 y4 y5 y6 v13)))) ∧ ((¬ 0 ≤ (σ12 0 v13.toNatClampNeg)) → (vp_in v13 16 ∧ (∀ σ20 : MS, σ20 = up2 σ12 0 v13.toNatClampNeg y6 → wM_send_115 R σ20 y1 y2 y3 y4 y5 y6 v13))))))))))))
def wM_send (R : MS → Prop) (σ : MS) (x1 x2 x3 x4 x5 : Int32) : Prop :=
  (∀ v21 : Int32, v21 = σ 7 0 → (((v21 < 0) → (∀ v23 : Int32, v23 = σ 6 0 → (∀ σ24 : MS, σ24 = up2 σ 6 0 ((σ 6 0) + 1) → wM_send_41 R σ24 x1 x2 x3 x4 x5 v23))) ∧ ((¬ v21 < 0) → (vp_in v21 700 ∧ (∀ σ26 : MS, σ26 = up2 σ 7 0 (σ 5 v21.toNatClampNeg) → wM_send_41 R σ26 x1 x2 x3 x4 x5 v21)))))
abbrev wsMo_send : List Cond := .code yMo_send cMo_send 8 none :: wg
abbrev rmM_send : Room := { frames := 0, cells := 0, slots := 0, locals := 0 }
set_option maxHeartbeats 4000000 in
set_option maxRecDepth 100000 in
theorem kM_send (l : Launch) (D : va_G) (a : Nat → Nat) (A : Nat → Prop) (tI tZ : ClassId) (σ : MS) (x1 x2 x3 x4 x5 : Int32) (R : MS → Prop) (hwp : wM_send R σ x1 x2 x3 x4 x5) : Met l yMo_send wsMo_send rmM_send (va_Pc [.ref (a 0), .int x1, .int x2, .int x3, .int x4, .int x5] (uI D clA (mT tI tZ) A false (mw a tI tZ) σ)) (va_Qv R (uI D clA (mT tI tZ) A false (mw a tI tZ)) A) 0 0 A := by
  refine Met.ofW (cc := cMo_send) (maxL := 8) (ret := none) (by decide) rfl ?_
  intro p e s m args below meth c s₁ B hml hv
  obtain ⟨rfl, hP, hK, hD, hA⟩ := hv
  have hx := B.exec
  have hb := B.bytes
  have hr := B.returns
  have hts := atoms_spec (ws := wsMo_send) B.pre
  have hown : s.vm.findClass RMo = some m.cls := findClass_of_methodNamed B.named
  have hlocks := B.notSynchronized
  have hin0 : ∀ w ∈ u_ws RMo TMo 33, w ∈ wsMo_send := fun w h => List.mem_cons_of_mem _ (inMo w h)
  have k13 := hts _ (List.mem_cons_of_mem _ wm_737)
  have k16 := hts _ (List.mem_cons_of_mem _ wm_738)
  have k19 := hts _ (List.mem_cons_of_mem _ wm_739)
  have k22 := hts _ (List.mem_cons_of_mem _ wm_740)
  have k25 := hts _ (List.mem_cons_of_mem _ wm_741)
  have k28 := hts _ (List.mem_cons_of_mem _ wm_743)
  have k7 := hts _ (List.mem_cons_of_mem _ wm_736)
  have k93 := hts _ (List.mem_cons_of_mem _ wm_742)
  have k96 := hts _ (List.mem_cons_of_mem _ wm_746)
  have hS : va_S A s.heap s.heap [] := va_S.rf
  have cut115 : ∀ (σ : MS) (y1 : Int32) (y2 : Int32) (y3 : Int32) (y4 : Int32) (y5 : Int32) (y6 : Int32) (y7 : Int32) (H : Heap) (locs : List Loc) (ls : Array Slot), wM_send_115 R σ y1 y2 y3 y4 y5 y6 y7 → va_P D clA (mw a tI tZ σ) H → va_D A (mw a tI tZ σ) → va_S A s.heap H locs → lv_has ls 8 [(0, .ref (a 0)), (1, .int y1), (2, .int y2), (3, .int y3), (4, .int y4), (5, .int y5), (6, .int y6), (7, .int y7)] → W p l e (headSpec wsMo_send rmM_send).room s m ([.ref (a 0), .int x1, .int x2, .int x3, .int x4, .int x5] : List Value).toArray below meth c H locs 0 0 (MQ below (va_Qv R (uI D clA (mT tI tZ) A false (mw a tI tZ)) A) ([.ref (a 0), .int x1, .int x2, .int x3, .int x4, .int x5] : List Value).toArray s 0 0 A) (F0 m 115 ls []) := by
    intro σ y1 y2 y3 y4 y5 y6 y7 H locs ls hwp hP hD hS hl
    refine lv_aload_n hx hb dMo_send_115 rfl (lv_at hl 0 rfl) ?_
    refine va_get (D := D) (ci := 0) (C := RMo) (T := TMo) (N := 33) hx hb hts hin0 hown hK hP 0 rfl rfl 1 (by decide) k13 (fun _ h9 => h9) rfl dMo_send_116 ?_
    refine lv_iload hx hb dMo_send_119 (lv_at hl 7 rfl) ?_
    refine lv_iload hx hb dMo_send_121 (lv_at hl 6 rfl) ?_
    obtain ⟨hi1, hwp⟩ := hwp
    refine va_iast hx hb hK hP hD hS 2 0 rfl rfl hi1 dMo_send_123 (fun H locs hP hD hS => ?_)
    obtain ⟨σ2, eσ2⟩ : ∃ z, z = up2 σ 1 y7.toNatClampNeg y6 := ⟨_, rfl⟩
    have hwp := hwp σ2 eσ2
    have hP : va_P D clA (mw a tI tZ σ2) H := by rw [eσ2]; exact hP
    have hD : va_D A (mw a tI tZ σ2) := by rw [eσ2]; exact hD
    refine lv_aload_n hx hb dMo_send_124 rfl (lv_at hl 0 rfl) ?_
    refine va_get (D := D) (ci := 0) (C := RMo) (T := TMo) (N := 33) hx hb hts hin0 hown hK hP 0 rfl rfl 2 (by decide) k16 (fun _ h9 => h9) rfl dMo_send_125 ?_
    refine lv_iload hx hb dMo_send_128 (lv_at hl 7 rfl) ?_
    refine lv_dup2_11 hx hb dMo_send_130 rfl rfl ?_
    obtain ⟨hi3, hwp⟩ := hwp
    refine va_iald hx hb hK hP 3 0 rfl rfl hi3 dMo_send_131 ?_
    refine lv_iconst (v := 1) hx hb dMo_send_132 (by decide) ?_
    refine lv_iadd hx hb dMo_send_133 ?_
    obtain ⟨hi4, hwp⟩ := hwp
    refine va_iast hx hb hK hP hD hS 3 0 rfl rfl hi4 dMo_send_134 (fun H locs hP hD hS => ?_)
    obtain ⟨σ5, eσ5⟩ : ∃ z, z = up2 σ2 2 y7.toNatClampNeg ((σ2 2 y7.toNatClampNeg) + 1) := ⟨_, rfl⟩
    have hwp := hwp σ5 eσ5
    have hP : va_P D clA (mw a tI tZ σ5) H := by rw [eσ5]; exact hP
    have hD : va_D A (mw a tI tZ σ5) := by rw [eσ5]; exact hD
    refine lv_aload_n hx hb dMo_send_135 rfl (lv_at hl 0 rfl) ?_
    refine lv_dup hx hb dMo_send_136 rfl ?_
    refine va_get (D := D) (ci := 0) (C := RMo) (T := TMo) (N := 33) hx hb hts hin0 hown hK hP 0 rfl rfl 10 (by decide) k96 (fun _ h9 => h9) rfl dMo_send_137 ?_
    refine lv_iconst (v := 1) hx hb dMo_send_140 (by decide) ?_
    refine lv_iadd hx hb dMo_send_141 ?_
    refine va_put (ty := .int) (D := D) (ci := 0) (C := RMo) (T := TMo) (N := 33) hx hb hts hin0 tyMo tyMo_ok nmMo hown hK hP hD hS 0 rfl rfl 10 (by decide) k96 (fun _ h9 => h9) rfl (by decide +kernel) rfl rfl (Nat.le_of_ble_eq_true rfl) dMo_send_142 (fun H locs hP hD hS => ?_)
    obtain ⟨σ6, eσ6⟩ : ∃ z, z = up2 σ5 10 0 ((σ5 10 0) + 1) := ⟨_, rfl⟩
    have hwp := hwp σ6 eσ6
    have hP : va_P D clA (mw a tI tZ σ6) H := by rw [eσ6]; exact hP
    have hD : va_D A (mw a tI tZ σ6) := by rw [eσ6]; exact hD
    exact W.vret hx hb hr (fun t ht hW => ⟨⟨σ6, rfl, hwp, uEnd ht hW hP hK hD hS hA⟩, hS.F ht⟩) hS.2.2 dMo_send_145
  have cut41 : ∀ (σ : MS) (y1 : Int32) (y2 : Int32) (y3 : Int32) (y4 : Int32) (y5 : Int32) (y6 : Int32) (H : Heap) (locs : List Loc) (ls : Array Slot), wM_send_41 R σ y1 y2 y3 y4 y5 y6 → va_P D clA (mw a tI tZ σ) H → va_D A (mw a tI tZ σ) → va_S A s.heap H locs → lv_has ls 8 [(0, .ref (a 0)), (1, .int y1), (2, .int y2), (3, .int y3), (4, .int y4), (5, .int y5), (6, .int y6)] → W p l e (headSpec wsMo_send rmM_send).room s m ([.ref (a 0), .int x1, .int x2, .int x3, .int x4, .int x5] : List Value).toArray below meth c H locs 0 0 (MQ below (va_Qv R (uI D clA (mT tI tZ) A false (mw a tI tZ)) A) ([.ref (a 0), .int x1, .int x2, .int x3, .int x4, .int x5] : List Value).toArray s 0 0 A) (F0 m 41 ls []) := by
    intro σ y1 y2 y3 y4 y5 y6 H locs ls hwp hP hD hS hl
    refine lv_aload_n hx hb dMo_send_41 rfl (lv_at hl 0 rfl) ?_
    refine va_get (D := D) (ci := 0) (C := RMo) (T := TMo) (N := 33) hx hb hts hin0 hown hK hP 0 rfl rfl 3 (by decide) k19 (fun _ h9 => h9) rfl dMo_send_42 ?_
    refine lv_iload hx hb dMo_send_45 (lv_at hl 6 rfl) ?_
    refine lv_bipush (v := 10) hx hb dMo_send_47 (by decide) ?_
    refine lv_iload_n hx hb dMo_send_49 rfl (lv_at hl 3 rfl) ?_
    refine lv_imul hx hb dMo_send_50 ?_
    refine lv_iload hx hb dMo_send_51 (lv_at hl 4 rfl) ?_
    refine lv_iadd hx hb dMo_send_53 ?_
    obtain ⟨hi7, hwp⟩ := hwp
    refine va_iast hx hb hK hP hD hS 4 0 rfl rfl hi7 dMo_send_54 (fun H locs hP hD hS => ?_)
    obtain ⟨σ8, eσ8⟩ : ∃ z, z = up2 σ 3 y6.toNatClampNeg ((10 * y3) + y4) := ⟨_, rfl⟩
    have hwp := hwp σ8 eσ8
    have hP : va_P D clA (mw a tI tZ σ8) H := by rw [eσ8]; exact hP
    have hD : va_D A (mw a tI tZ σ8) := by rw [eσ8]; exact hD
    refine lv_aload_n hx hb dMo_send_55 rfl (lv_at hl 0 rfl) ?_
    refine va_get (D := D) (ci := 0) (C := RMo) (T := TMo) (N := 33) hx hb hts hin0 hown hK hP 0 rfl rfl 4 (by decide) k22 (fun _ h9 => h9) rfl dMo_send_56 ?_
    refine lv_iload hx hb dMo_send_59 (lv_at hl 6 rfl) ?_
    refine lv_iload hx hb dMo_send_61 (lv_at hl 5 rfl) ?_
    obtain ⟨hi9, hwp⟩ := hwp
    refine va_iast hx hb hK hP hD hS 5 0 rfl rfl hi9 dMo_send_63 (fun H locs hP hD hS => ?_)
    obtain ⟨σ10, eσ10⟩ : ∃ z, z = up2 σ8 4 y6.toNatClampNeg y5 := ⟨_, rfl⟩
    have hwp := hwp σ10 eσ10
    have hP : va_P D clA (mw a tI tZ σ10) H := by rw [eσ10]; exact hP
    have hD : va_D A (mw a tI tZ σ10) := by rw [eσ10]; exact hD
    refine lv_aload_n hx hb dMo_send_64 rfl (lv_at hl 0 rfl) ?_
    refine va_get (D := D) (ci := 0) (C := RMo) (T := TMo) (N := 33) hx hb hts hin0 hown hK hP 0 rfl rfl 5 (by decide) k25 (fun _ h9 => h9) rfl dMo_send_65 ?_
    refine lv_iload hx hb dMo_send_68 (lv_at hl 6 rfl) ?_
    refine lv_iconst (v := (-1)) hx hb dMo_send_70 (by decide) ?_
    obtain ⟨hi11, hwp⟩ := hwp
    refine va_iast hx hb hK hP hD hS 6 0 rfl rfl hi11 dMo_send_71 (fun H locs hP hD hS => ?_)
    obtain ⟨σ12, eσ12⟩ : ∃ z, z = up2 σ10 5 y6.toNatClampNeg (-1) := ⟨_, rfl⟩
    have hwp := hwp σ12 eσ12
    have hP : va_P D clA (mw a tI tZ σ12) H := by rw [eσ12]; exact hP
    have hD : va_D A (mw a tI tZ σ12) := by rw [eσ12]; exact hD
    refine lv_iconst (v := 4) hx hb dMo_send_72 (by decide) ?_
    refine lv_iload_n hx hb dMo_send_73 rfl (lv_at hl 1 rfl) ?_
    refine lv_imul hx hb dMo_send_74 ?_
    refine lv_iload_n hx hb dMo_send_75 rfl (lv_at hl 2 rfl) ?_
    refine lv_iadd hx hb dMo_send_76 ?_
    refine lv_topi (fun v13 ev13 => ?_)
    have hwp := hwp v13 ev13
    refine lv_istore hx hb dMo_send_77 hl (by decide) rfl (fun ls hl => ?_)
    have hl : lv_has ls 8 [(7, .int v13), (0, .ref (a 0)), (1, .int y1), (2, .int y2), (3, .int y3), (4, .int y4), (5, .int y5), (6, .int y6)] := hl
    refine lv_aload_n hx hb dMo_send_79 rfl (lv_at hl 1 rfl) ?_
    refine va_get (D := D) (ci := 0) (C := RMo) (T := TMo) (N := 33) hx hb hts hin0 hown hK hP 0 rfl rfl 0 (by decide) k7 (fun _ h9 => h9) rfl dMo_send_80 ?_
    refine lv_iload hx hb dMo_send_83 (lv_at hl 0 rfl) ?_
    obtain ⟨hi14, hwp⟩ := hwp
    refine va_iald hx hb hK hP 1 0 rfl rfl hi14 dMo_send_85 ?_
    refine lv_if_ge hx hb dMo_send_86 rfl (fun h15 => ?_) (fun h15 => ?_)
    · have hwp := hwp.1 h15
      refine lv_aload_n hx hb dMo_send_101 rfl (lv_at hl 1 rfl) ?_
      refine va_get (D := D) (ci := 0) (C := RMo) (T := TMo) (N := 33) hx hb hts hin0 hown hK hP 0 rfl rfl 5 (by decide) k25 (fun _ h9 => h9) rfl dMo_send_102 ?_
      refine lv_aload_n hx hb dMo_send_105 rfl (lv_at hl 1 rfl) ?_
      refine va_get (D := D) (ci := 0) (C := RMo) (T := TMo) (N := 33) hx hb hts hin0 hown hK hP 0 rfl rfl 1 (by decide) k13 (fun _ h9 => h9) rfl dMo_send_106 ?_
      refine lv_iload hx hb dMo_send_109 (lv_at hl 0 rfl) ?_
      obtain ⟨hi16, hwp⟩ := hwp
      refine va_iald hx hb hK hP 2 0 rfl rfl hi16 dMo_send_111 ?_
      refine lv_iload hx hb dMo_send_112 (lv_at hl 7 rfl) ?_
      obtain ⟨hi17, hwp⟩ := hwp
      refine va_iast hx hb hK hP hD hS 6 0 rfl rfl hi17 dMo_send_114 (fun H locs hP hD hS => ?_)
      obtain ⟨σ18, eσ18⟩ : ∃ z, z = up2 σ12 5 (σ12 1 v13.toNatClampNeg).toNatClampNeg y6 := ⟨_, rfl⟩
      have hwp := hwp σ18 eσ18
      have hP : va_P D clA (mw a tI tZ σ18) H := by rw [eσ18]; exact hP
      have hD : va_D A (mw a tI tZ σ18) := by rw [eσ18]; exact hD
      exact cut115 σ18 y1 y2 y3 y4 y5 y6 v13 _ _ _ hwp hP hD hS (lv_sub hl [1, 2, 3, 4, 5, 6, 7, 0] rfl)
    · have hwp := hwp.2 h15
      refine lv_aload_n hx hb dMo_send_89 rfl (lv_at hl 1 rfl) ?_
      refine va_get (D := D) (ci := 0) (C := RMo) (T := TMo) (N := 33) hx hb hts hin0 hown hK hP 0 rfl rfl 0 (by decide) k7 (fun _ h9 => h9) rfl dMo_send_90 ?_
      refine lv_iload hx hb dMo_send_93 (lv_at hl 0 rfl) ?_
      refine lv_iload hx hb dMo_send_95 (lv_at hl 7 rfl) ?_
      obtain ⟨hi19, hwp⟩ := hwp
      refine va_iast hx hb hK hP hD hS 1 0 rfl rfl hi19 dMo_send_97 (fun H locs hP hD hS => ?_)
      obtain ⟨σ20, eσ20⟩ : ∃ z, z = up2 σ12 0 v13.toNatClampNeg y6 := ⟨_, rfl⟩
      have hwp := hwp σ20 eσ20
      have hP : va_P D clA (mw a tI tZ σ20) H := by rw [eσ20]; exact hP
      have hD : va_D A (mw a tI tZ σ20) := by rw [eσ20]; exact hD
      refine lv_goto hx hb dMo_send_98 rfl ?_
      exact cut115 σ20 y1 y2 y3 y4 y5 y6 v13 _ _ _ hwp hP hD hS (lv_sub hl [1, 2, 3, 4, 5, 6, 7, 0] rfl)
  have hl := lv_entry ([.ref (a 0), .int x1, .int x2, .int x3, .int x4, .int x5]) (n := 8) (Nat.le_of_ble_eq_true rfl)
  rw [lg_entry_eq]
  generalize (lg_sl ([.ref (a 0), .int x1, .int x2, .int x3, .int x4, .int x5]) ++ List.replicate (8 - (lg_sl ([.ref (a 0), .int x1, .int x2, .int x3, .int x4, .int x5])).length) Slot.unset).toArray = ls at hl ⊢
  have hl : lv_has ls 8 [(0, .ref (a 0)), (1, .int x1), (2, .int x2), (3, .int x3), (4, .int x4), (5, .int x5)] := hl
  refine lv_aload_n hx hb dMo_send_0 rfl (lv_at hl 0 rfl) ?_
  refine va_get (D := D) (ci := 0) (C := RMo) (T := TMo) (N := 33) hx hb hts hin0 hown hK hP 0 rfl rfl 7 (by decide) k28 (fun _ h9 => h9) rfl dMo_send_1 ?_
  refine lv_topi (fun v21 ev21 => ?_)
  have hwp := hwp v21 ev21
  refine lv_istore hx hb dMo_send_4 hl (by decide) rfl (fun ls hl => ?_)
  have hl : lv_has ls 8 [(6, .int v21), (0, .ref (a 0)), (1, .int x1), (2, .int x2), (3, .int x3), (4, .int x4), (5, .int x5)] := hl
  refine lv_iload hx hb dMo_send_6 (lv_at hl 0 rfl) ?_
  refine lv_if_lt hx hb dMo_send_8 rfl (fun h22 => ?_) (fun h22 => ?_)
  · have hwp := hwp.1 h22
    refine lv_aload_n hx hb dMo_send_25 rfl (lv_at hl 1 rfl) ?_
    refine va_get (D := D) (ci := 0) (C := RMo) (T := TMo) (N := 33) hx hb hts hin0 hown hK hP 0 rfl rfl 6 (by decide) k93 (fun _ h9 => h9) rfl dMo_send_26 ?_
    refine lv_topi (fun v23 ev23 => ?_)
    have hwp := hwp v23 ev23
    refine lv_istore hx hb dMo_send_29 hl (by decide) rfl (fun ls hl => ?_)
    have hl : lv_has ls 8 [(6, .int v23), (0, .ref (a 0)), (1, .int x1), (2, .int x2), (3, .int x3), (4, .int x4), (5, .int x5)] := hl
    refine lv_aload_n hx hb dMo_send_31 rfl (lv_at hl 1 rfl) ?_
    refine lv_dup hx hb dMo_send_32 rfl ?_
    refine va_get (D := D) (ci := 0) (C := RMo) (T := TMo) (N := 33) hx hb hts hin0 hown hK hP 0 rfl rfl 6 (by decide) k93 (fun _ h9 => h9) rfl dMo_send_33 ?_
    refine lv_iconst (v := 1) hx hb dMo_send_36 (by decide) ?_
    refine lv_iadd hx hb dMo_send_37 ?_
    refine va_put (ty := .int) (D := D) (ci := 0) (C := RMo) (T := TMo) (N := 33) hx hb hts hin0 tyMo tyMo_ok nmMo hown hK hP hD hS 0 rfl rfl 6 (by decide) k93 (fun _ h9 => h9) rfl (by decide +kernel) rfl rfl (Nat.le_of_ble_eq_true rfl) dMo_send_38 (fun H locs hP hD hS => ?_)
    obtain ⟨σ24, eσ24⟩ : ∃ z, z = up2 σ 6 0 ((σ 6 0) + 1) := ⟨_, rfl⟩
    have hwp := hwp σ24 eσ24
    have hP : va_P D clA (mw a tI tZ σ24) H := by rw [eσ24]; exact hP
    have hD : va_D A (mw a tI tZ σ24) := by rw [eσ24]; exact hD
    exact cut41 σ24 x1 x2 x3 x4 x5 v23 _ _ _ hwp hP hD hS (lv_sub hl [1, 2, 3, 4, 5, 6, 0] rfl)
  · have hwp := hwp.2 h22
    refine lv_aload_n hx hb dMo_send_11 rfl (lv_at hl 1 rfl) ?_
    refine lv_aload_n hx hb dMo_send_12 rfl (lv_at hl 1 rfl) ?_
    refine va_get (D := D) (ci := 0) (C := RMo) (T := TMo) (N := 33) hx hb hts hin0 hown hK hP 0 rfl rfl 5 (by decide) k25 (fun _ h9 => h9) rfl dMo_send_13 ?_
    refine lv_iload hx hb dMo_send_16 (lv_at hl 0 rfl) ?_
    obtain ⟨hi25, hwp⟩ := hwp
    refine va_iald hx hb hK hP 6 0 rfl rfl hi25 dMo_send_18 ?_
    refine va_put (ty := .int) (D := D) (ci := 0) (C := RMo) (T := TMo) (N := 33) hx hb hts hin0 tyMo tyMo_ok nmMo hown hK hP hD hS 0 rfl rfl 7 (by decide) k28 (fun _ h9 => h9) rfl (by decide +kernel) rfl rfl (Nat.le_of_ble_eq_true rfl) dMo_send_19 (fun H locs hP hD hS => ?_)
    obtain ⟨σ26, eσ26⟩ : ∃ z, z = up2 σ 7 0 (σ 5 v21.toNatClampNeg) := ⟨_, rfl⟩
    have hwp := hwp σ26 eσ26
    have hP : va_P D clA (mw a tI tZ σ26) H := by rw [eσ26]; exact hP
    have hD : va_D A (mw a tI tZ σ26) := by rw [eσ26]; exact hD
    refine lv_goto hx hb dMo_send_22 rfl ?_
    exact cut41 σ26 x1 x2 x3 x4 x5 v21 _ _ _ hwp hP hD hS (lv_sub hl [1, 2, 3, 4, 5, 6, 0] rfl)
-- private void sendAll(int, int, int, int)
def wM_sendAll_26 (K3 : MS → Int32 → Int32 → Int32 → Int32 → Int32 → Prop) (R : MS → Prop) (σ : MS) (y1 : Int32) (y2 : Int32) (y3 : Int32) (y4 : Int32) (y5 : Int32) : Prop :=
  K3 σ y1 y2 y3 y4 (y5 + 1)
def wM_sendAll_3_step (K3 : MS → Int32 → Int32 → Int32 → Int32 → Int32 → Prop) (R : MS → Prop) (σ : MS) (y1 : Int32) (y2 : Int32) (y3 : Int32) (y4 : Int32) (y5 : Int32) : Prop :=
  (((4 ≤ y5) → R σ) ∧ ((¬ 4 ≤ y5) → (((y5 = y1) → wM_sendAll_26 K3 R σ y1 y2 y3 y4 y5) ∧ ((¬ y5 = y1) → (∃ P3 : MS → Prop, wM_send P3 σ y1 y5 y2 y3 y4 ∧ (∀ (u4 : MS), P3 u4 → wM_sendAll_26 K3 R u4 y1 y2 y3 y4 y5))))))
def wM_sendAll_3 (R : MS → Prop) : Nat → MS → Int32 → Int32 → Int32 → Int32 → Int32 → Prop
  | 0 => fun _ _ _ _ _ _ => False
  | k + 1 => fun σ y1 y2 y3 y4 y5 => wM_sendAll_3_step  (wM_sendAll_3  R k) R σ y1 y2 y3 y4 y5
def wM_sendAll (R : MS → Prop) (σ : MS) (x1 x2 x3 x4 : Int32) : Prop :=
  wM_sendAll_3 R 5 σ x1 x2 x3 x4 0
abbrev wsMo_sendAll : List Cond := .code yMo_sendAll cMo_sendAll 6 none :: wg
abbrev rmM_sendAll : Room := { frames := 1, cells := 0, slots := 0, locals := 27 }
set_option maxHeartbeats 4000000 in
set_option maxRecDepth 100000 in
theorem kM_sendAll (l : Launch) (D : va_G) (a : Nat → Nat) (A : Nat → Prop) (tI tZ : ClassId) (σ : MS) (x1 x2 x3 x4 : Int32) (R : MS → Prop) (hwp : wM_sendAll R σ x1 x2 x3 x4) : Met l yMo_sendAll wsMo_sendAll rmM_sendAll (va_Pc [.ref (a 0), .int x1, .int x2, .int x3, .int x4] (uI D clA (mT tI tZ) A false (mw a tI tZ) σ)) (va_Qv R (uI D clA (mT tI tZ) A false (mw a tI tZ)) A) 0 0 A := by
  refine Met.ofW (cc := cMo_sendAll) (maxL := 6) (ret := none) (by decide) rfl ?_
  intro p e s m args below meth c s₁ B hml hv
  obtain ⟨rfl, hP, hK, hD, hA⟩ := hv
  have hx := B.exec
  have hb := B.bytes
  have hr := B.returns
  have hts := atoms_spec (ws := wsMo_sendAll) B.pre
  have hown : s.vm.findClass RMo = some m.cls := findClass_of_methodNamed B.named
  have hlocks := B.notSynchronized
  have hS : va_S A s.heap s.heap [] := va_S.rf
  have cut3 : ∀ (k3 : Nat) (σ : MS) (y1 : Int32) (y2 : Int32) (y3 : Int32) (y4 : Int32) (y5 : Int32) (H : Heap) (locs : List Loc) (ls : Array Slot), wM_sendAll_3 R k3 σ y1 y2 y3 y4 y5 → va_P D clA (mw a tI tZ σ) H → va_D A (mw a tI tZ σ) → va_S A s.heap H locs → lv_has ls 6 [(0, .ref (a 0)), (1, .int y1), (2, .int y2), (3, .int y3), (4, .int y4), (5, .int y5)] → W p l e (headSpec wsMo_sendAll rmM_sendAll).room s m ([.ref (a 0), .int x1, .int x2, .int x3, .int x4] : List Value).toArray below meth c H locs 0 0 (MQ below (va_Qv R (uI D clA (mT tI tZ) A false (mw a tI tZ)) A) ([.ref (a 0), .int x1, .int x2, .int x3, .int x4] : List Value).toArray s 0 0 A) (F0 m 3 ls []) := by
    intro k3
    induction k3 with
    | zero => intro σ y1 y2 y3 y4 y5 H locs ls hwp hP hD hS hl; exact False.elim hwp
    | succ k3 ih3 =>
      intro σ y1 y2 y3 y4 y5 H locs ls hwp hP hD hS hl
      have cut26 : ∀ (σ : MS) (y1 : Int32) (y2 : Int32) (y3 : Int32) (y4 : Int32) (y5 : Int32) (H : Heap) (locs : List Loc) (ls : Array Slot), wM_sendAll_26 (wM_sendAll_3 R k3) R σ y1 y2 y3 y4 y5 → va_P D clA (mw a tI tZ σ) H → va_D A (mw a tI tZ σ) → va_S A s.heap H locs → lv_has ls 6 [(0, .ref (a 0)), (1, .int y1), (2, .int y2), (3, .int y3), (4, .int y4), (5, .int y5)] → W p l e (headSpec wsMo_sendAll rmM_sendAll).room s m ([.ref (a 0), .int x1, .int x2, .int x3, .int x4] : List Value).toArray below meth c H locs 0 0 (MQ below (va_Qv R (uI D clA (mT tI tZ) A false (mw a tI tZ)) A) ([.ref (a 0), .int x1, .int x2, .int x3, .int x4] : List Value).toArray s 0 0 A) (F0 m 26 ls []) := by
        intro σ y1 y2 y3 y4 y5 H locs ls hwp hP hD hS hl
        refine lv_iinc (k := 5) hx hb dMo_sendAll_26 hl rfl (fx_inc1 _) (by decide) rfl (fun ls hl => ?_)
        have hl : lv_has ls 6 [(5, .int (y5 + 1)), (0, .ref (a 0)), (1, .int y1), (2, .int y2), (3, .int y3), (4, .int y4)] := hl
        refine lv_goto hx hb dMo_sendAll_29 rfl ?_
        exact ih3 σ y1 y2 y3 y4 (y5 + 1) _ _ _ hwp hP hD hS (lv_sub hl [1, 2, 3, 4, 5, 0] rfl)
      have hwp : wM_sendAll_3_step (wM_sendAll_3 R k3) R σ y1 y2 y3 y4 y5 := hwp
      refine lv_iload hx hb dMo_sendAll_3 (lv_at hl 5 rfl) ?_
      refine lv_iconst (v := 4) hx hb dMo_sendAll_5 (by decide) ?_
      refine lv_icmp_ge hx hb dMo_sendAll_6 rfl (fun h1 => ?_) (fun h1 => ?_)
      · have hwp := hwp.1 h1
        exact W.vret hx hb hr (fun t ht hW => ⟨⟨σ, rfl, hwp, uEnd ht hW hP hK hD hS hA⟩, hS.F ht⟩) hS.2.2 dMo_sendAll_32
      · have hwp := hwp.2 h1
        refine lv_iload hx hb dMo_sendAll_9 (lv_at hl 5 rfl) ?_
        refine lv_iload_n hx hb dMo_sendAll_11 rfl (lv_at hl 1 rfl) ?_
        refine lv_icmp_eq hx hb dMo_sendAll_12 rfl (fun h2 => ?_) (fun h2 => ?_)
        · have hwp := hwp.1 h2
          exact cut26 σ y1 y2 y3 y4 y5 _ _ _ hwp hP hD hS (lv_sub hl [0, 1, 2, 3, 4, 5] rfl)
        · have hwp := hwp.2 h2
          refine lv_aload_n hx hb dMo_sendAll_15 rfl (lv_at hl 0 rfl) ?_
          refine lv_iload_n hx hb dMo_sendAll_16 rfl (lv_at hl 1 rfl) ?_
          refine lv_iload hx hb dMo_sendAll_17 (lv_at hl 5 rfl) ?_
          refine lv_iload_n hx hb dMo_sendAll_19 rfl (lv_at hl 2 rfl) ?_
          refine lv_iload_n hx hb dMo_sendAll_20 rfl (lv_at hl 3 rfl) ?_
          refine lv_iload hx hb dMo_sendAll_21 (lv_at hl 4 rfl) ?_
          obtain ⟨P3, hP3, hwp⟩ := hwp
          refine uCallVv (As := [.int y1, .int y5, .int y2, .int y3, .int y4]) (rest := []) (C := RMo) ⟨hx, hb, hml, hown, hts⟩ (kM_send l D a A tI tZ σ y1 y5 y2 y3 y4 P3 hP3) (cwV 5 hts (gdV wm_858 wm_860 wp_18 wm_13 wm_861) rfl rfl rfl (by decide +kernel) ⟨Nat.le_of_ble_eq_true rfl, Nat.le_of_ble_eq_true rfl⟩) (va_recv (ci := 0) (q0 := 0) hK hP rfl rfl) hP hK hD hA hS rfl hl.1 rfl (Nat.le_of_ble_eq_true rfl) dMo_sendAll_23 ⟨Nat.le_of_ble_eq_true rfl, Nat.le_of_ble_eq_true rfl⟩ (fun u4 H locs hu4 hP hD hS => ?_)
          have hwp := hwp u4 hu4
          exact cut26 u4 y1 y2 y3 y4 y5 _ _ _ hwp hP hD hS (lv_sub hl [0, 1, 2, 3, 4, 5] rfl)
  have hl := lv_entry ([.ref (a 0), .int x1, .int x2, .int x3, .int x4]) (n := 6) (Nat.le_of_ble_eq_true rfl)
  rw [lg_entry_eq]
  generalize (lg_sl ([.ref (a 0), .int x1, .int x2, .int x3, .int x4]) ++ List.replicate (6 - (lg_sl ([.ref (a 0), .int x1, .int x2, .int x3, .int x4])).length) Slot.unset).toArray = ls at hl ⊢
  have hl : lv_has ls 6 [(0, .ref (a 0)), (1, .int x1), (2, .int x2), (3, .int x3), (4, .int x4)] := hl
  refine lv_iconst (v := 0) hx hb dMo_sendAll_0 (by decide) ?_
  refine lv_istore hx hb dMo_sendAll_1 hl (by decide) rfl (fun ls hl => ?_)
  have hl : lv_has ls 6 [(5, .int 0), (0, .ref (a 0)), (1, .int x1), (2, .int x2), (3, .int x3), (4, .int x4)] := hl
  exact cut3 5 σ x1 x2 x3 x4 0 _ _ _ hwp hP hD hS (lv_sub hl [1, 2, 3, 4, 5, 0] rfl)
-- private void comeIn(int, int)
def wM_comeIn (R : MS → Prop) (σ : MS) (x1 x2 : Int32) : Prop :=
  (vp_in ((4 * x1) + x2) 12 ∧ (∀ σ2 : MS, σ2 = up2 σ 8 ((4 * x1) + x2).toNatClampNeg 2 → (∀ σ3 : MS, σ3 = up2 σ2 9 0 ((σ2 9 0) + 1) → R σ3)))
abbrev wsMo_comeIn : List Cond := .code yMo_comeIn cMo_comeIn 3 none :: wg
abbrev rmM_comeIn : Room := { frames := 0, cells := 0, slots := 0, locals := 0 }
set_option maxHeartbeats 4000000 in
set_option maxRecDepth 100000 in
theorem kM_comeIn (l : Launch) (D : va_G) (a : Nat → Nat) (A : Nat → Prop) (tI tZ : ClassId) (σ : MS) (x1 x2 : Int32) (R : MS → Prop) (hwp : wM_comeIn R σ x1 x2) : Met l yMo_comeIn wsMo_comeIn rmM_comeIn (va_Pc [.ref (a 0), .int x1, .int x2] (uI D clA (mT tI tZ) A false (mw a tI tZ) σ)) (va_Qv R (uI D clA (mT tI tZ) A false (mw a tI tZ)) A) 0 0 A := by
  refine Met.ofW (cc := cMo_comeIn) (maxL := 3) (ret := none) (by decide) rfl ?_
  intro p e s m args below meth c s₁ B hml hv
  obtain ⟨rfl, hP, hK, hD, hA⟩ := hv
  have hx := B.exec
  have hb := B.bytes
  have hr := B.returns
  have hts := atoms_spec (ws := wsMo_comeIn) B.pre
  have hown : s.vm.findClass RMo = some m.cls := findClass_of_methodNamed B.named
  have hlocks := B.notSynchronized
  have hin0 : ∀ w ∈ u_ws RMo TMo 33, w ∈ wsMo_comeIn := fun w h => List.mem_cons_of_mem _ (inMo w h)
  have k128 := hts _ (List.mem_cons_of_mem _ wm_745)
  have k32 := hts _ (List.mem_cons_of_mem _ wm_744)
  have hS : va_S A s.heap s.heap [] := va_S.rf
  have hl := lv_entry ([.ref (a 0), .int x1, .int x2]) (n := 3) (Nat.le_of_ble_eq_true rfl)
  rw [lg_entry_eq]
  generalize (lg_sl ([.ref (a 0), .int x1, .int x2]) ++ List.replicate (3 - (lg_sl ([.ref (a 0), .int x1, .int x2])).length) Slot.unset).toArray = ls at hl ⊢
  have hl : lv_has ls 3 [(0, .ref (a 0)), (1, .int x1), (2, .int x2)] := hl
  refine lv_aload_n hx hb dMo_comeIn_0 rfl (lv_at hl 0 rfl) ?_
  refine va_get (D := D) (ci := 0) (C := RMo) (T := TMo) (N := 33) hx hb hts hin0 hown hK hP 0 rfl rfl 8 (by decide) k32 (fun _ h9 => h9) rfl dMo_comeIn_1 ?_
  refine lv_iconst (v := 4) hx hb dMo_comeIn_4 (by decide) ?_
  refine lv_iload_n hx hb dMo_comeIn_5 rfl (lv_at hl 1 rfl) ?_
  refine lv_imul hx hb dMo_comeIn_6 ?_
  refine lv_iload_n hx hb dMo_comeIn_7 rfl (lv_at hl 2 rfl) ?_
  refine lv_iadd hx hb dMo_comeIn_8 ?_
  refine lv_iconst (v := 2) hx hb dMo_comeIn_9 (by decide) ?_
  obtain ⟨hi1, hwp⟩ := hwp
  refine va_iast hx hb hK hP hD hS 7 0 rfl rfl hi1 dMo_comeIn_10 (fun H locs hP hD hS => ?_)
  obtain ⟨σ2, eσ2⟩ : ∃ z, z = up2 σ 8 ((4 * x1) + x2).toNatClampNeg 2 := ⟨_, rfl⟩
  have hwp := hwp σ2 eσ2
  have hP : va_P D clA (mw a tI tZ σ2) H := by rw [eσ2]; exact hP
  have hD : va_D A (mw a tI tZ σ2) := by rw [eσ2]; exact hD
  refine lv_aload_n hx hb dMo_comeIn_11 rfl (lv_at hl 0 rfl) ?_
  refine lv_dup hx hb dMo_comeIn_12 rfl ?_
  refine va_get (D := D) (ci := 0) (C := RMo) (T := TMo) (N := 33) hx hb hts hin0 hown hK hP 0 rfl rfl 9 (by decide) k128 (fun _ h9 => h9) rfl dMo_comeIn_13 ?_
  refine lv_iconst (v := 1) hx hb dMo_comeIn_16 (by decide) ?_
  refine lv_iadd hx hb dMo_comeIn_17 ?_
  refine va_put (ty := .int) (D := D) (ci := 0) (C := RMo) (T := TMo) (N := 33) hx hb hts hin0 tyMo tyMo_ok nmMo hown hK hP hD hS 0 rfl rfl 9 (by decide) k128 (fun _ h9 => h9) rfl (by decide +kernel) rfl rfl (Nat.le_of_ble_eq_true rfl) dMo_comeIn_18 (fun H locs hP hD hS => ?_)
  obtain ⟨σ3, eσ3⟩ : ∃ z, z = up2 σ2 9 0 ((σ2 9 0) + 1) := ⟨_, rfl⟩
  have hwp := hwp σ3 eσ3
  have hP : va_P D clA (mw a tI tZ σ3) H := by rw [eσ3]; exact hP
  have hD : va_D A (mw a tI tZ σ3) := by rw [eσ3]; exact hD
  exact W.vret hx hb hr (fun t ht hW => ⟨⟨σ3, rfl, hwp, uEnd ht hW hP hK hD hS hA⟩, hS.F ht⟩) hS.2.2 dMo_comeIn_21
-- private boolean isDue(int, int)
def wM_isDue (R : Int32 → MS → Prop) (σ : MS) (x1 x2 : Int32) : Prop :=
  (vp_in ((4 * x1) + x2) 16 ∧ (vp_in x2 4 ∧ (((¬ (σ 15 ((4 * x1) + x2).toNatClampNeg) = ((σ 16 x2.toNatClampNeg) + 1)) → R 0 σ) ∧ (((σ 15 ((4 * x1) + x2).toNatClampNeg) = ((σ 16 x2.toNatClampNeg) + 1)) → R 1 σ))))
abbrev wsMo_isDue : List Cond := .code yMo_isDue cMo_isDue 3 (some .boolean) :: wg
abbrev rmM_isDue : Room := { frames := 0, cells := 0, slots := 0, locals := 0 }
set_option maxHeartbeats 4000000 in
set_option maxRecDepth 100000 in
theorem kM_isDue (l : Launch) (D : va_G) (a : Nat → Nat) (A : Nat → Prop) (tI tZ : ClassId) (σ : MS) (x1 x2 : Int32) (R : Int32 → MS → Prop) (hwp : wM_isDue R σ x1 x2) : Met l yMo_isDue wsMo_isDue rmM_isDue (va_Pc [.ref (a 0), .int x1, .int x2] (uI D clA (mT tI tZ) A false (mw a tI tZ) σ)) (va_Qi R (uI D clA (mT tI tZ) A false (mw a tI tZ)) A) 0 0 A := by
  refine Met.ofW (cc := cMo_isDue) (maxL := 3) (ret := (some .boolean)) (by decide) rfl ?_
  intro p e s m args below meth c s₁ B hml hv
  obtain ⟨rfl, hP, hK, hD, hA⟩ := hv
  have hx := B.exec
  have hb := B.bytes
  have hr := B.returns
  have hts := atoms_spec (ws := wsMo_isDue) B.pre
  have hown : s.vm.findClass RMo = some m.cls := findClass_of_methodNamed B.named
  have hlocks := B.notSynchronized
  have hin0 : ∀ w ∈ u_ws RMo TMo 33, w ∈ wsMo_isDue := fun w h => List.mem_cons_of_mem _ (inMo w h)
  have k47 := hts _ (List.mem_cons_of_mem _ wm_751)
  have k50 := hts _ (List.mem_cons_of_mem _ wm_752)
  have hS : va_S A s.heap s.heap [] := va_S.rf
  have hl := lv_entry ([.ref (a 0), .int x1, .int x2]) (n := 3) (Nat.le_of_ble_eq_true rfl)
  rw [lg_entry_eq]
  generalize (lg_sl ([.ref (a 0), .int x1, .int x2]) ++ List.replicate (3 - (lg_sl ([.ref (a 0), .int x1, .int x2])).length) Slot.unset).toArray = ls at hl ⊢
  have hl : lv_has ls 3 [(0, .ref (a 0)), (1, .int x1), (2, .int x2)] := hl
  refine lv_aload_n hx hb dMo_isDue_0 rfl (lv_at hl 0 rfl) ?_
  refine va_get (D := D) (ci := 0) (C := RMo) (T := TMo) (N := 33) hx hb hts hin0 hown hK hP 0 rfl rfl 15 (by decide) k47 (fun _ h9 => h9) rfl dMo_isDue_1 ?_
  refine lv_iconst (v := 4) hx hb dMo_isDue_4 (by decide) ?_
  refine lv_iload_n hx hb dMo_isDue_5 rfl (lv_at hl 1 rfl) ?_
  refine lv_imul hx hb dMo_isDue_6 ?_
  refine lv_iload_n hx hb dMo_isDue_7 rfl (lv_at hl 2 rfl) ?_
  refine lv_iadd hx hb dMo_isDue_8 ?_
  obtain ⟨hi1, hwp⟩ := hwp
  refine va_iald hx hb hK hP 12 0 rfl rfl hi1 dMo_isDue_9 ?_
  refine lv_aload_n hx hb dMo_isDue_10 rfl (lv_at hl 0 rfl) ?_
  refine va_get (D := D) (ci := 0) (C := RMo) (T := TMo) (N := 33) hx hb hts hin0 hown hK hP 0 rfl rfl 16 (by decide) k50 (fun _ h9 => h9) rfl dMo_isDue_11 ?_
  refine lv_iload_n hx hb dMo_isDue_14 rfl (lv_at hl 2 rfl) ?_
  obtain ⟨hi2, hwp⟩ := hwp
  refine va_iald hx hb hK hP 13 0 rfl rfl hi2 dMo_isDue_15 ?_
  refine lv_iconst (v := 1) hx hb dMo_isDue_16 (by decide) ?_
  refine lv_iadd hx hb dMo_isDue_17 ?_
  refine lv_icmp_ne hx hb dMo_isDue_18 rfl (fun h3 => ?_) (fun h3 => ?_)
  · have hwp := hwp.1 h3
    refine lv_iconst (v := 0) hx hb dMo_isDue_25 (by decide) ?_
    exact W.zret (v := 0) hx hb hr (by decide) (fun t ht hW => ⟨⟨0, σ, rfl, hwp, uEnd ht hW hP hK hD hS hA⟩, hS.F ht⟩) hS.2.2 dMo_isDue_26
  · have hwp := hwp.2 h3
    refine lv_iconst (v := 1) hx hb dMo_isDue_21 (by decide) ?_
    refine lv_goto hx hb dMo_isDue_22 rfl ?_
    exact W.zret (v := 1) hx hb hr (by decide) (fun t ht hW => ⟨⟨1, σ, rfl, hwp, uEnd ht hW hP hK hD hS hA⟩, hS.F ht⟩) hS.2.2 dMo_isDue_26
-- private void enqueue(int, int)
def wM_enqueue (R : MS → Prop) (σ : MS) (x1 x2 : Int32) : Prop :=
  (vp_in x1 4 ∧ (vp_in ((8 * x1) + (σ 21 x1.toNatClampNeg)) 32 ∧ (∀ σ3 : MS, σ3 = up2 σ 22 ((8 * x1) + (σ 21 x1.toNatClampNeg)).toNatClampNeg x2 → (vp_in x1 4 ∧ (vp_in x1 4 ∧ (∀ σ6 : MS, σ6 = up2 σ3 21 x1.toNatClampNeg ((σ3 21 x1.toNatClampNeg) + 1) → R σ6))))))
abbrev wsMo_enqueue : List Cond := .code yMo_enqueue cMo_enqueue 3 none :: wg
abbrev rmM_enqueue : Room := { frames := 0, cells := 0, slots := 0, locals := 0 }
set_option maxHeartbeats 4000000 in
set_option maxRecDepth 100000 in
theorem kM_enqueue (l : Launch) (D : va_G) (a : Nat → Nat) (A : Nat → Prop) (tI tZ : ClassId) (σ : MS) (x1 x2 : Int32) (R : MS → Prop) (hwp : wM_enqueue R σ x1 x2) : Met l yMo_enqueue wsMo_enqueue rmM_enqueue (va_Pc [.ref (a 0), .int x1, .int x2] (uI D clA (mT tI tZ) A false (mw a tI tZ) σ)) (va_Qv R (uI D clA (mT tI tZ) A false (mw a tI tZ)) A) 0 0 A := by
  refine Met.ofW (cc := cMo_enqueue) (maxL := 3) (ret := none) (by decide) rfl ?_
  intro p e s m args below meth c s₁ B hml hv
  obtain ⟨rfl, hP, hK, hD, hA⟩ := hv
  have hx := B.exec
  have hb := B.bytes
  have hr := B.returns
  have hts := atoms_spec (ws := wsMo_enqueue) B.pre
  have hown : s.vm.findClass RMo = some m.cls := findClass_of_methodNamed B.named
  have hlocks := B.notSynchronized
  have hin0 : ∀ w ∈ u_ws RMo TMo 33, w ∈ wsMo_enqueue := fun w h => List.mem_cons_of_mem _ (inMo w h)
  have k59 := hts _ (List.mem_cons_of_mem _ wm_757)
  have k62 := hts _ (List.mem_cons_of_mem _ wm_758)
  have hS : va_S A s.heap s.heap [] := va_S.rf
  have hl := lv_entry ([.ref (a 0), .int x1, .int x2]) (n := 3) (Nat.le_of_ble_eq_true rfl)
  rw [lg_entry_eq]
  generalize (lg_sl ([.ref (a 0), .int x1, .int x2]) ++ List.replicate (3 - (lg_sl ([.ref (a 0), .int x1, .int x2])).length) Slot.unset).toArray = ls at hl ⊢
  have hl : lv_has ls 3 [(0, .ref (a 0)), (1, .int x1), (2, .int x2)] := hl
  refine lv_aload_n hx hb dMo_enqueue_0 rfl (lv_at hl 0 rfl) ?_
  refine va_get (D := D) (ci := 0) (C := RMo) (T := TMo) (N := 33) hx hb hts hin0 hown hK hP 0 rfl rfl 22 (by decide) k62 (fun _ h9 => h9) rfl dMo_enqueue_1 ?_
  refine lv_bipush (v := 8) hx hb dMo_enqueue_4 (by decide) ?_
  refine lv_iload_n hx hb dMo_enqueue_6 rfl (lv_at hl 1 rfl) ?_
  refine lv_imul hx hb dMo_enqueue_7 ?_
  refine lv_aload_n hx hb dMo_enqueue_8 rfl (lv_at hl 0 rfl) ?_
  refine va_get (D := D) (ci := 0) (C := RMo) (T := TMo) (N := 33) hx hb hts hin0 hown hK hP 0 rfl rfl 21 (by decide) k59 (fun _ h9 => h9) rfl dMo_enqueue_9 ?_
  refine lv_iload_n hx hb dMo_enqueue_12 rfl (lv_at hl 1 rfl) ?_
  obtain ⟨hi1, hwp⟩ := hwp
  refine va_iald hx hb hK hP 16 0 rfl rfl hi1 dMo_enqueue_13 ?_
  refine lv_iadd hx hb dMo_enqueue_14 ?_
  refine lv_iload_n hx hb dMo_enqueue_15 rfl (lv_at hl 2 rfl) ?_
  obtain ⟨hi2, hwp⟩ := hwp
  refine va_iast hx hb hK hP hD hS 17 0 rfl rfl hi2 dMo_enqueue_16 (fun H locs hP hD hS => ?_)
  obtain ⟨σ3, eσ3⟩ : ∃ z, z = up2 σ 22 ((8 * x1) + (σ 21 x1.toNatClampNeg)).toNatClampNeg x2 := ⟨_, rfl⟩
  have hwp := hwp σ3 eσ3
  have hP : va_P D clA (mw a tI tZ σ3) H := by rw [eσ3]; exact hP
  have hD : va_D A (mw a tI tZ σ3) := by rw [eσ3]; exact hD
  refine lv_aload_n hx hb dMo_enqueue_17 rfl (lv_at hl 0 rfl) ?_
  refine va_get (D := D) (ci := 0) (C := RMo) (T := TMo) (N := 33) hx hb hts hin0 hown hK hP 0 rfl rfl 21 (by decide) k59 (fun _ h9 => h9) rfl dMo_enqueue_18 ?_
  refine lv_iload_n hx hb dMo_enqueue_21 rfl (lv_at hl 1 rfl) ?_
  refine lv_dup2_11 hx hb dMo_enqueue_22 rfl rfl ?_
  obtain ⟨hi4, hwp⟩ := hwp
  refine va_iald hx hb hK hP 16 0 rfl rfl hi4 dMo_enqueue_23 ?_
  refine lv_iconst (v := 1) hx hb dMo_enqueue_24 (by decide) ?_
  refine lv_iadd hx hb dMo_enqueue_25 ?_
  obtain ⟨hi5, hwp⟩ := hwp
  refine va_iast hx hb hK hP hD hS 16 0 rfl rfl hi5 dMo_enqueue_26 (fun H locs hP hD hS => ?_)
  obtain ⟨σ6, eσ6⟩ : ∃ z, z = up2 σ3 21 x1.toNatClampNeg ((σ3 21 x1.toNatClampNeg) + 1) := ⟨_, rfl⟩
  have hwp := hwp σ6 eσ6
  have hP : va_P D clA (mw a tI tZ σ6) H := by rw [eσ6]; exact hP
  have hD : va_D A (mw a tI tZ σ6) := by rw [eσ6]; exact hD
  exact W.vret hx hb hr (fun t ht hW => ⟨⟨σ6, rfl, hwp, uEnd ht hW hP hK hD hS hA⟩, hS.F ht⟩) hS.2.2 dMo_enqueue_27
-- private int dequeue(int)
def wM_dequeue_22_step (K22 : MS → Int32 → Int32 → Int32 → Prop) (R : Int32 → MS → Prop) (σ : MS) (y1 : Int32) (y2 : Int32) (y3 : Int32) : Prop :=
  (vp_in y1 4 ∧ ((((σ 21 y1.toNatClampNeg) ≤ y3) → R y2 σ) ∧ ((¬ (σ 21 y1.toNatClampNeg) ≤ y3) → (vp_in (((8 * y1) + y3) + 1) 32 ∧ (vp_in ((8 * y1) + y3) 32 ∧ (∀ σ5 : MS, σ5 = up2 σ 22 ((8 * y1) + y3).toNatClampNeg (σ 22 (((8 * y1) + y3) + 1).toNatClampNeg) → K22 σ5 y1 y2 (y3 + 1)))))))
def wM_dequeue_22 (R : Int32 → MS → Prop) : Nat → MS → Int32 → Int32 → Int32 → Prop
  | 0 => fun _ _ _ _ => False
  | k + 1 => fun σ y1 y2 y3 => wM_dequeue_22_step  (wM_dequeue_22  R k) R σ y1 y2 y3
def wM_dequeue (R : Int32 → MS → Prop) (σ : MS) (x1 : Int32) : Prop :=
  (vp_in (8 * x1) 32 ∧ (∀ v7 : Int32, v7 = σ 22 (8 * x1).toNatClampNeg → (vp_in x1 4 ∧ (vp_in x1 4 ∧ (∀ σ10 : MS, σ10 = up2 σ 21 x1.toNatClampNeg ((σ 21 x1.toNatClampNeg) - 1) → wM_dequeue_22 R 5 σ10 x1 v7 0)))))
abbrev wsMo_dequeue : List Cond := .code yMo_dequeue cMo_dequeue 4 (some .int) :: wg
abbrev rmM_dequeue : Room := { frames := 0, cells := 0, slots := 0, locals := 0 }
set_option maxHeartbeats 4000000 in
set_option maxRecDepth 100000 in
theorem kM_dequeue (l : Launch) (D : va_G) (a : Nat → Nat) (A : Nat → Prop) (tI tZ : ClassId) (σ : MS) (x1 : Int32) (R : Int32 → MS → Prop) (hwp : wM_dequeue R σ x1) : Met l yMo_dequeue wsMo_dequeue rmM_dequeue (va_Pc [.ref (a 0), .int x1] (uI D clA (mT tI tZ) A false (mw a tI tZ) σ)) (va_Qi R (uI D clA (mT tI tZ) A false (mw a tI tZ)) A) 0 0 A := by
  refine Met.ofW (cc := cMo_dequeue) (maxL := 4) (ret := (some .int)) (by decide) rfl ?_
  intro p e s m args below meth c s₁ B hml hv
  obtain ⟨rfl, hP, hK, hD, hA⟩ := hv
  have hx := B.exec
  have hb := B.bytes
  have hr := B.returns
  have hts := atoms_spec (ws := wsMo_dequeue) B.pre
  have hown : s.vm.findClass RMo = some m.cls := findClass_of_methodNamed B.named
  have hlocks := B.notSynchronized
  have hin0 : ∀ w ∈ u_ws RMo TMo 33, w ∈ wsMo_dequeue := fun w h => List.mem_cons_of_mem _ (inMo w h)
  have k59 := hts _ (List.mem_cons_of_mem _ wm_757)
  have k62 := hts _ (List.mem_cons_of_mem _ wm_758)
  have hS : va_S A s.heap s.heap [] := va_S.rf
  have cut22 : ∀ (k22 : Nat) (σ : MS) (y1 : Int32) (y2 : Int32) (y3 : Int32) (H : Heap) (locs : List Loc) (ls : Array Slot), wM_dequeue_22 R k22 σ y1 y2 y3 → va_P D clA (mw a tI tZ σ) H → va_D A (mw a tI tZ σ) → va_S A s.heap H locs → lv_has ls 4 [(0, .ref (a 0)), (1, .int y1), (2, .int y2), (3, .int y3)] → W p l e (headSpec wsMo_dequeue rmM_dequeue).room s m ([.ref (a 0), .int x1] : List Value).toArray below meth c H locs 0 0 (MQ below (va_Qi R (uI D clA (mT tI tZ) A false (mw a tI tZ)) A) ([.ref (a 0), .int x1] : List Value).toArray s 0 0 A) (F0 m 22 ls []) := by
    intro k22
    induction k22 with
    | zero => intro σ y1 y2 y3 H locs ls hwp hP hD hS hl; exact False.elim hwp
    | succ k22 ih22 =>
      intro σ y1 y2 y3 H locs ls hwp hP hD hS hl
      have hwp : wM_dequeue_22_step (wM_dequeue_22 R k22) R σ y1 y2 y3 := hwp
      refine lv_iload_n hx hb dMo_dequeue_22 rfl (lv_at hl 3 rfl) ?_
      refine lv_aload_n hx hb dMo_dequeue_23 rfl (lv_at hl 0 rfl) ?_
      refine va_get (D := D) (ci := 0) (C := RMo) (T := TMo) (N := 33) hx hb hts hin0 hown hK hP 0 rfl rfl 21 (by decide) k59 (fun _ h9 => h9) rfl dMo_dequeue_24 ?_
      refine lv_iload_n hx hb dMo_dequeue_27 rfl (lv_at hl 1 rfl) ?_
      obtain ⟨hi1, hwp⟩ := hwp
      refine va_iald hx hb hK hP 16 0 rfl rfl hi1 dMo_dequeue_28 ?_
      refine lv_icmp_ge hx hb dMo_dequeue_29 rfl (fun h2 => ?_) (fun h2 => ?_)
      · have hwp := hwp.1 h2
        refine lv_iload_n hx hb dMo_dequeue_62 rfl (lv_at hl 2 rfl) ?_
        exact W.iret (v := y2) hx hb hr (fun t ht hW => ⟨⟨y2, σ, rfl, hwp, uEnd ht hW hP hK hD hS hA⟩, hS.F ht⟩) hS.2.2 dMo_dequeue_63
      · have hwp := hwp.2 h2
        refine lv_aload_n hx hb dMo_dequeue_32 rfl (lv_at hl 0 rfl) ?_
        refine va_get (D := D) (ci := 0) (C := RMo) (T := TMo) (N := 33) hx hb hts hin0 hown hK hP 0 rfl rfl 22 (by decide) k62 (fun _ h9 => h9) rfl dMo_dequeue_33 ?_
        refine lv_bipush (v := 8) hx hb dMo_dequeue_36 (by decide) ?_
        refine lv_iload_n hx hb dMo_dequeue_38 rfl (lv_at hl 1 rfl) ?_
        refine lv_imul hx hb dMo_dequeue_39 ?_
        refine lv_iload_n hx hb dMo_dequeue_40 rfl (lv_at hl 3 rfl) ?_
        refine lv_iadd hx hb dMo_dequeue_41 ?_
        refine lv_aload_n hx hb dMo_dequeue_42 rfl (lv_at hl 0 rfl) ?_
        refine va_get (D := D) (ci := 0) (C := RMo) (T := TMo) (N := 33) hx hb hts hin0 hown hK hP 0 rfl rfl 22 (by decide) k62 (fun _ h9 => h9) rfl dMo_dequeue_43 ?_
        refine lv_bipush (v := 8) hx hb dMo_dequeue_46 (by decide) ?_
        refine lv_iload_n hx hb dMo_dequeue_48 rfl (lv_at hl 1 rfl) ?_
        refine lv_imul hx hb dMo_dequeue_49 ?_
        refine lv_iload_n hx hb dMo_dequeue_50 rfl (lv_at hl 3 rfl) ?_
        refine lv_iadd hx hb dMo_dequeue_51 ?_
        refine lv_iconst (v := 1) hx hb dMo_dequeue_52 (by decide) ?_
        refine lv_iadd hx hb dMo_dequeue_53 ?_
        obtain ⟨hi3, hwp⟩ := hwp
        refine va_iald hx hb hK hP 17 0 rfl rfl hi3 dMo_dequeue_54 ?_
        obtain ⟨hi4, hwp⟩ := hwp
        refine va_iast hx hb hK hP hD hS 17 0 rfl rfl hi4 dMo_dequeue_55 (fun H locs hP hD hS => ?_)
        obtain ⟨σ5, eσ5⟩ : ∃ z, z = up2 σ 22 ((8 * y1) + y3).toNatClampNeg (σ 22 (((8 * y1) + y3) + 1).toNatClampNeg) := ⟨_, rfl⟩
        have hwp := hwp σ5 eσ5
        have hP : va_P D clA (mw a tI tZ σ5) H := by rw [eσ5]; exact hP
        have hD : va_D A (mw a tI tZ σ5) := by rw [eσ5]; exact hD
        refine lv_iinc (k := 3) hx hb dMo_dequeue_56 hl rfl (fx_inc1 _) (by decide) rfl (fun ls hl => ?_)
        have hl : lv_has ls 4 [(3, .int (y3 + 1)), (0, .ref (a 0)), (1, .int y1), (2, .int y2)] := hl
        refine lv_goto hx hb dMo_dequeue_59 rfl ?_
        exact ih22 σ5 y1 y2 (y3 + 1) _ _ _ hwp hP hD hS (lv_sub hl [1, 2, 3, 0] rfl)
  have hl := lv_entry ([.ref (a 0), .int x1]) (n := 4) (Nat.le_of_ble_eq_true rfl)
  rw [lg_entry_eq]
  generalize (lg_sl ([.ref (a 0), .int x1]) ++ List.replicate (4 - (lg_sl ([.ref (a 0), .int x1])).length) Slot.unset).toArray = ls at hl ⊢
  have hl : lv_has ls 4 [(0, .ref (a 0)), (1, .int x1)] := hl
  refine lv_aload_n hx hb dMo_dequeue_0 rfl (lv_at hl 0 rfl) ?_
  refine va_get (D := D) (ci := 0) (C := RMo) (T := TMo) (N := 33) hx hb hts hin0 hown hK hP 0 rfl rfl 22 (by decide) k62 (fun _ h9 => h9) rfl dMo_dequeue_1 ?_
  refine lv_bipush (v := 8) hx hb dMo_dequeue_4 (by decide) ?_
  refine lv_iload_n hx hb dMo_dequeue_6 rfl (lv_at hl 1 rfl) ?_
  refine lv_imul hx hb dMo_dequeue_7 ?_
  obtain ⟨hi6, hwp⟩ := hwp
  refine va_iald hx hb hK hP 17 0 rfl rfl hi6 dMo_dequeue_8 ?_
  refine lv_topi (fun v7 ev7 => ?_)
  have hwp := hwp v7 ev7
  refine lv_istore_n hx hb dMo_dequeue_9 rfl hl (by decide) rfl (fun ls hl => ?_)
  have hl : lv_has ls 4 [(2, .int v7), (0, .ref (a 0)), (1, .int x1)] := hl
  refine lv_aload_n hx hb dMo_dequeue_10 rfl (lv_at hl 1 rfl) ?_
  refine va_get (D := D) (ci := 0) (C := RMo) (T := TMo) (N := 33) hx hb hts hin0 hown hK hP 0 rfl rfl 21 (by decide) k59 (fun _ h9 => h9) rfl dMo_dequeue_11 ?_
  refine lv_iload_n hx hb dMo_dequeue_14 rfl (lv_at hl 2 rfl) ?_
  refine lv_dup2_11 hx hb dMo_dequeue_15 rfl rfl ?_
  obtain ⟨hi8, hwp⟩ := hwp
  refine va_iald hx hb hK hP 16 0 rfl rfl hi8 dMo_dequeue_16 ?_
  refine lv_iconst (v := 1) hx hb dMo_dequeue_17 (by decide) ?_
  refine lv_isub hx hb dMo_dequeue_18 ?_
  obtain ⟨hi9, hwp⟩ := hwp
  refine va_iast hx hb hK hP hD hS 16 0 rfl rfl hi9 dMo_dequeue_19 (fun H locs hP hD hS => ?_)
  obtain ⟨σ10, eσ10⟩ : ∃ z, z = up2 σ 21 x1.toNatClampNeg ((σ 21 x1.toNatClampNeg) - 1) := ⟨_, rfl⟩
  have hwp := hwp σ10 eσ10
  have hP : va_P D clA (mw a tI tZ σ10) H := by rw [eσ10]; exact hP
  have hD : va_D A (mw a tI tZ σ10) := by rw [eσ10]; exact hD
  refine lv_iconst (v := 0) hx hb dMo_dequeue_20 (by decide) ?_
  refine lv_istore_n hx hb dMo_dequeue_21 rfl hl (by decide) rfl (fun ls hl => ?_)
  have hl : lv_has ls 4 [(3, .int 0), (2, .int v7), (0, .ref (a 0)), (1, .int x1)] := hl
  exact cut22 5 σ10 x1 v7 0 _ _ _ hwp hP hD hS (lv_sub hl [2, 3, 1, 0] rfl)
-- private void goOn(int)
def wM_goOn_75 (R : MS → Prop) (σ : MS) (y1 : Int32) : Prop :=
  (vp_in y1 4 ∧ ((((σ 20 y1.toNatClampNeg) = y1) → R σ) ∧ ((¬ (σ 20 y1.toNatClampNeg) = y1) → (vp_in y1 4 ∧ ((((σ 21 y1.toNatClampNeg) ≤ 0) → R σ) ∧ ((¬ (σ 21 y1.toNatClampNeg) ≤ 0) → (vp_in y1 4 ∧ (((¬ (σ 23 y1.toNatClampNeg) = 0) → R σ) ∧ (((σ 23 y1.toNatClampNeg) = 0) → (vp_in y1 4 ∧ (∀ σ8 : MS, σ8 = up2 σ 23 y1.toNatClampNeg (vp_nar .boolean 1) → (vp_in y1 4 ∧ (∃ P10 : MS → Prop, wM_send P10 σ8 y1 (σ8 20 y1.toNatClampNeg) 2 0 0 ∧ (∀ (u11 : MS), P10 u11 → R u11))))))))))))))
def wM_goOn (R : MS → Prop) (σ : MS) (x1 : Int32) : Prop :=
  (vp_in x1 4 ∧ (((¬ (σ 20 x1.toNatClampNeg) = x1) → wM_goOn_75 R σ x1) ∧ (((σ 20 x1.toNatClampNeg) = x1) → (vp_in (8 + x1) 12 ∧ ((((σ 8 (8 + x1).toNatClampNeg) = 2) → wM_goOn_75 R σ x1) ∧ ((¬ (σ 8 (8 + x1).toNatClampNeg) = 2) → (vp_in x1 4 ∧ ((((σ 21 x1.toNatClampNeg) ≤ 0) → wM_goOn_75 R σ x1) ∧ ((¬ (σ 21 x1.toNatClampNeg) ≤ 0) → (∃ P18 : Int32 → MS → Prop, wM_dequeue P18 σ x1 ∧ (∀ (r20 : Int32) (u19 : MS), P18 r20 u19 → (vp_in x1 4 ∧ (∀ σ22 : MS, σ22 = up2 u19 23 x1.toNatClampNeg (vp_nar .boolean 0) → (((¬ r20 = x1) → (vp_in x1 4 ∧ (∀ σ25 : MS, σ25 = up2 σ22 20 x1.toNatClampNeg r20 → (∃ P26 : MS → Prop, wM_send P26 σ25 x1 r20 2 1 0 ∧ (∀ (u27 : MS), P26 u27 → wM_goOn_75 R u27 x1))))) ∧ ((r20 = x1) → (∃ P28 : MS → Prop, wM_comeIn P28 σ22 2 x1 ∧ (∀ (u29 : MS), P28 u29 → wM_goOn_75 R u29 x1)))))))))))))))))
abbrev wsMo_goOn : List Cond := .code yMo_goOn cMo_goOn 3 none :: wg
abbrev rmM_goOn : Room := { frames := 1, cells := 0, slots := 0, locals := 27 }
set_option maxHeartbeats 4000000 in
set_option maxRecDepth 100000 in
theorem kM_goOn (l : Launch) (D : va_G) (a : Nat → Nat) (A : Nat → Prop) (tI tZ : ClassId) (σ : MS) (x1 : Int32) (R : MS → Prop) (hwp : wM_goOn R σ x1) : Met l yMo_goOn wsMo_goOn rmM_goOn (va_Pc [.ref (a 0), .int x1] (uI D clA (mT tI tZ) A false (mw a tI tZ) σ)) (va_Qv R (uI D clA (mT tI tZ) A false (mw a tI tZ)) A) 0 0 A := by
  refine Met.ofW (cc := cMo_goOn) (maxL := 3) (ret := none) (by decide) rfl ?_
  intro p e s m args below meth c s₁ B hml hv
  obtain ⟨rfl, hP, hK, hD, hA⟩ := hv
  have hx := B.exec
  have hb := B.bytes
  have hr := B.returns
  have hts := atoms_spec (ws := wsMo_goOn) B.pre
  have hown : s.vm.findClass RMo = some m.cls := findClass_of_methodNamed B.named
  have hlocks := B.notSynchronized
  have hin0 : ∀ w ∈ u_ws RMo TMo 33, w ∈ wsMo_goOn := fun w h => List.mem_cons_of_mem _ (inMo w h)
  have k32 := hts _ (List.mem_cons_of_mem _ wm_744)
  have k56 := hts _ (List.mem_cons_of_mem _ wm_756)
  have k59 := hts _ (List.mem_cons_of_mem _ wm_757)
  have k65 := hts _ (List.mem_cons_of_mem _ wm_759)
  have hS : va_S A s.heap s.heap [] := va_S.rf
  have cut75 : ∀ (σ : MS) (y1 : Int32) (H : Heap) (locs : List Loc) (ls : Array Slot), wM_goOn_75 R σ y1 → va_P D clA (mw a tI tZ σ) H → va_D A (mw a tI tZ σ) → va_S A s.heap H locs → lv_has ls 3 [(0, .ref (a 0)), (1, .int y1)] → W p l e (headSpec wsMo_goOn rmM_goOn).room s m ([.ref (a 0), .int x1] : List Value).toArray below meth c H locs 0 0 (MQ below (va_Qv R (uI D clA (mT tI tZ) A false (mw a tI tZ)) A) ([.ref (a 0), .int x1] : List Value).toArray s 0 0 A) (F0 m 75 ls []) := by
    intro σ y1 H locs ls hwp hP hD hS hl
    refine lv_aload_n hx hb dMo_goOn_75 rfl (lv_at hl 0 rfl) ?_
    refine va_get (D := D) (ci := 0) (C := RMo) (T := TMo) (N := 33) hx hb hts hin0 hown hK hP 0 rfl rfl 20 (by decide) k56 (fun _ h9 => h9) rfl dMo_goOn_76 ?_
    refine lv_iload_n hx hb dMo_goOn_79 rfl (lv_at hl 1 rfl) ?_
    obtain ⟨hi1, hwp⟩ := hwp
    refine va_iald hx hb hK hP 15 0 rfl rfl hi1 dMo_goOn_80 ?_
    refine lv_iload_n hx hb dMo_goOn_81 rfl (lv_at hl 1 rfl) ?_
    refine lv_icmp_eq hx hb dMo_goOn_82 rfl (fun h2 => ?_) (fun h2 => ?_)
    · have hwp := hwp.1 h2
      exact W.vret hx hb hr (fun t ht hW => ⟨⟨σ, rfl, hwp, uEnd ht hW hP hK hD hS hA⟩, hS.F ht⟩) hS.2.2 dMo_goOn_124
    · have hwp := hwp.2 h2
      refine lv_aload_n hx hb dMo_goOn_85 rfl (lv_at hl 0 rfl) ?_
      refine va_get (D := D) (ci := 0) (C := RMo) (T := TMo) (N := 33) hx hb hts hin0 hown hK hP 0 rfl rfl 21 (by decide) k59 (fun _ h9 => h9) rfl dMo_goOn_86 ?_
      refine lv_iload_n hx hb dMo_goOn_89 rfl (lv_at hl 1 rfl) ?_
      obtain ⟨hi3, hwp⟩ := hwp
      refine va_iald hx hb hK hP 16 0 rfl rfl hi3 dMo_goOn_90 ?_
      refine lv_if_le hx hb dMo_goOn_91 rfl (fun h4 => ?_) (fun h4 => ?_)
      · have hwp := hwp.1 h4
        exact W.vret hx hb hr (fun t ht hW => ⟨⟨σ, rfl, hwp, uEnd ht hW hP hK hD hS hA⟩, hS.F ht⟩) hS.2.2 dMo_goOn_124
      · have hwp := hwp.2 h4
        refine lv_aload_n hx hb dMo_goOn_94 rfl (lv_at hl 0 rfl) ?_
        refine va_get (D := D) (ci := 0) (C := RMo) (T := TMo) (N := 33) hx hb hts hin0 hown hK hP 0 rfl rfl 23 (by decide) k65 (fun _ h9 => h9) rfl dMo_goOn_95 ?_
        refine lv_iload_n hx hb dMo_goOn_98 rfl (lv_at hl 1 rfl) ?_
        obtain ⟨hi5, hwp⟩ := hwp
        refine va_zald hx hb hK hP 18 1 rfl rfl hi5 dMo_goOn_99 ?_
        refine lv_if_ne hx hb dMo_goOn_100 rfl (fun h6 => ?_) (fun h6 => ?_)
        · have hwp := hwp.1 h6
          exact W.vret hx hb hr (fun t ht hW => ⟨⟨σ, rfl, hwp, uEnd ht hW hP hK hD hS hA⟩, hS.F ht⟩) hS.2.2 dMo_goOn_124
        · have hwp := hwp.2 h6
          refine lv_aload_n hx hb dMo_goOn_103 rfl (lv_at hl 0 rfl) ?_
          refine va_get (D := D) (ci := 0) (C := RMo) (T := TMo) (N := 33) hx hb hts hin0 hown hK hP 0 rfl rfl 23 (by decide) k65 (fun _ h9 => h9) rfl dMo_goOn_104 ?_
          refine lv_iload_n hx hb dMo_goOn_107 rfl (lv_at hl 1 rfl) ?_
          refine lv_iconst (v := 1) hx hb dMo_goOn_108 (by decide) ?_
          obtain ⟨hi7, hwp⟩ := hwp
          refine va_zast hx hb hK hP hD hS 18 1 rfl rfl hi7 dMo_goOn_109 (fun H locs hP hD hS => ?_)
          obtain ⟨σ8, eσ8⟩ : ∃ z, z = up2 σ 23 y1.toNatClampNeg (vp_nar .boolean 1) := ⟨_, rfl⟩
          have hwp := hwp σ8 eσ8
          have hP : va_P D clA (mw a tI tZ σ8) H := by rw [eσ8]; exact hP
          have hD : va_D A (mw a tI tZ σ8) := by rw [eσ8]; exact hD
          refine lv_aload_n hx hb dMo_goOn_110 rfl (lv_at hl 0 rfl) ?_
          refine lv_iload_n hx hb dMo_goOn_111 rfl (lv_at hl 1 rfl) ?_
          refine lv_aload_n hx hb dMo_goOn_112 rfl (lv_at hl 0 rfl) ?_
          refine va_get (D := D) (ci := 0) (C := RMo) (T := TMo) (N := 33) hx hb hts hin0 hown hK hP 0 rfl rfl 20 (by decide) k56 (fun _ h9 => h9) rfl dMo_goOn_113 ?_
          refine lv_iload_n hx hb dMo_goOn_116 rfl (lv_at hl 1 rfl) ?_
          obtain ⟨hi9, hwp⟩ := hwp
          refine va_iald hx hb hK hP 15 0 rfl rfl hi9 dMo_goOn_117 ?_
          refine lv_iconst (v := 2) hx hb dMo_goOn_118 (by decide) ?_
          refine lv_iconst (v := 0) hx hb dMo_goOn_119 (by decide) ?_
          refine lv_iconst (v := 0) hx hb dMo_goOn_120 (by decide) ?_
          obtain ⟨P10, hP10, hwp⟩ := hwp
          refine uCallVv (As := [.int y1, .int (σ8 20 y1.toNatClampNeg), .int 2, .int 0, .int 0]) (rest := []) (C := RMo) ⟨hx, hb, hml, hown, hts⟩ (kM_send l D a A tI tZ σ8 y1 (σ8 20 y1.toNatClampNeg) 2 0 0 P10 hP10) (cwV 5 hts (gdV wm_858 wm_860 wp_18 wm_13 wm_861) rfl rfl rfl (by decide +kernel) ⟨Nat.le_of_ble_eq_true rfl, Nat.le_of_ble_eq_true rfl⟩) (va_recv (ci := 0) (q0 := 0) hK hP rfl rfl) hP hK hD hA hS rfl hl.1 rfl (Nat.le_of_ble_eq_true rfl) dMo_goOn_121 ⟨Nat.le_of_ble_eq_true rfl, Nat.le_of_ble_eq_true rfl⟩ (fun u11 H locs hu11 hP hD hS => ?_)
          have hwp := hwp u11 hu11
          exact W.vret hx hb hr (fun t ht hW => ⟨⟨u11, rfl, hwp, uEnd ht hW hP hK hD hS hA⟩, hS.F ht⟩) hS.2.2 dMo_goOn_124
  have hl := lv_entry ([.ref (a 0), .int x1]) (n := 3) (Nat.le_of_ble_eq_true rfl)
  rw [lg_entry_eq]
  generalize (lg_sl ([.ref (a 0), .int x1]) ++ List.replicate (3 - (lg_sl ([.ref (a 0), .int x1])).length) Slot.unset).toArray = ls at hl ⊢
  have hl : lv_has ls 3 [(0, .ref (a 0)), (1, .int x1)] := hl
  refine lv_aload_n hx hb dMo_goOn_0 rfl (lv_at hl 0 rfl) ?_
  refine va_get (D := D) (ci := 0) (C := RMo) (T := TMo) (N := 33) hx hb hts hin0 hown hK hP 0 rfl rfl 20 (by decide) k56 (fun _ h9 => h9) rfl dMo_goOn_1 ?_
  refine lv_iload_n hx hb dMo_goOn_4 rfl (lv_at hl 1 rfl) ?_
  obtain ⟨hi12, hwp⟩ := hwp
  refine va_iald hx hb hK hP 15 0 rfl rfl hi12 dMo_goOn_5 ?_
  refine lv_iload_n hx hb dMo_goOn_6 rfl (lv_at hl 1 rfl) ?_
  refine lv_icmp_ne hx hb dMo_goOn_7 rfl (fun h13 => ?_) (fun h13 => ?_)
  · have hwp := hwp.1 h13
    exact cut75 σ x1 _ _ _ hwp hP hD hS (lv_sub hl [0, 1] rfl)
  · have hwp := hwp.2 h13
    refine lv_aload_n hx hb dMo_goOn_10 rfl (lv_at hl 0 rfl) ?_
    refine va_get (D := D) (ci := 0) (C := RMo) (T := TMo) (N := 33) hx hb hts hin0 hown hK hP 0 rfl rfl 8 (by decide) k32 (fun _ h9 => h9) rfl dMo_goOn_11 ?_
    refine lv_bipush (v := 8) hx hb dMo_goOn_14 (by decide) ?_
    refine lv_iload_n hx hb dMo_goOn_16 rfl (lv_at hl 1 rfl) ?_
    refine lv_iadd hx hb dMo_goOn_17 ?_
    obtain ⟨hi14, hwp⟩ := hwp
    refine va_iald hx hb hK hP 7 0 rfl rfl hi14 dMo_goOn_18 ?_
    refine lv_iconst (v := 2) hx hb dMo_goOn_19 (by decide) ?_
    refine lv_icmp_eq hx hb dMo_goOn_20 rfl (fun h15 => ?_) (fun h15 => ?_)
    · have hwp := hwp.1 h15
      exact cut75 σ x1 _ _ _ hwp hP hD hS (lv_sub hl [0, 1] rfl)
    · have hwp := hwp.2 h15
      refine lv_aload_n hx hb dMo_goOn_23 rfl (lv_at hl 0 rfl) ?_
      refine va_get (D := D) (ci := 0) (C := RMo) (T := TMo) (N := 33) hx hb hts hin0 hown hK hP 0 rfl rfl 21 (by decide) k59 (fun _ h9 => h9) rfl dMo_goOn_24 ?_
      refine lv_iload_n hx hb dMo_goOn_27 rfl (lv_at hl 1 rfl) ?_
      obtain ⟨hi16, hwp⟩ := hwp
      refine va_iald hx hb hK hP 16 0 rfl rfl hi16 dMo_goOn_28 ?_
      refine lv_if_le hx hb dMo_goOn_29 rfl (fun h17 => ?_) (fun h17 => ?_)
      · have hwp := hwp.1 h17
        exact cut75 σ x1 _ _ _ hwp hP hD hS (lv_sub hl [0, 1] rfl)
      · have hwp := hwp.2 h17
        refine lv_aload_n hx hb dMo_goOn_32 rfl (lv_at hl 0 rfl) ?_
        refine lv_iload_n hx hb dMo_goOn_33 rfl (lv_at hl 1 rfl) ?_
        obtain ⟨P18, hP18, hwp⟩ := hwp
        refine uCallVi (As := [.int x1]) (rest := []) (C := RMo) ⟨hx, hb, hml, hown, hts⟩ (kM_dequeue l D a A tI tZ σ x1 P18 hP18) (cwV 1 hts (gdV wm_882 wm_884 wp_24 wm_13 wm_885) rfl rfl rfl (by decide +kernel) ⟨Nat.le_of_ble_eq_true rfl, Nat.le_of_ble_eq_true rfl⟩) (va_recv (ci := 0) (q0 := 0) hK hP rfl rfl) hP hK hD hA hS rfl hl.1 rfl (Nat.le_of_ble_eq_true rfl) dMo_goOn_34 ⟨Nat.le_of_ble_eq_true rfl, Nat.le_of_ble_eq_true rfl⟩ (fun r20 u19 H locs hu19 hP hD hS => ?_)
        have hwp := hwp r20 u19 hu19
        refine lv_istore_n hx hb dMo_goOn_37 rfl hl (by decide) rfl (fun ls hl => ?_)
        have hl : lv_has ls 3 [(2, .int r20), (0, .ref (a 0)), (1, .int x1)] := hl
        refine lv_aload_n hx hb dMo_goOn_38 rfl (lv_at hl 1 rfl) ?_
        refine va_get (D := D) (ci := 0) (C := RMo) (T := TMo) (N := 33) hx hb hts hin0 hown hK hP 0 rfl rfl 23 (by decide) k65 (fun _ h9 => h9) rfl dMo_goOn_39 ?_
        refine lv_iload_n hx hb dMo_goOn_42 rfl (lv_at hl 2 rfl) ?_
        refine lv_iconst (v := 0) hx hb dMo_goOn_43 (by decide) ?_
        obtain ⟨hi21, hwp⟩ := hwp
        refine va_zast hx hb hK hP hD hS 18 1 rfl rfl hi21 dMo_goOn_44 (fun H locs hP hD hS => ?_)
        obtain ⟨σ22, eσ22⟩ : ∃ z, z = up2 u19 23 x1.toNatClampNeg (vp_nar .boolean 0) := ⟨_, rfl⟩
        have hwp := hwp σ22 eσ22
        have hP : va_P D clA (mw a tI tZ σ22) H := by rw [eσ22]; exact hP
        have hD : va_D A (mw a tI tZ σ22) := by rw [eσ22]; exact hD
        refine lv_iload_n hx hb dMo_goOn_45 rfl (lv_at hl 0 rfl) ?_
        refine lv_iload_n hx hb dMo_goOn_46 rfl (lv_at hl 2 rfl) ?_
        refine lv_icmp_ne hx hb dMo_goOn_47 rfl (fun h23 => ?_) (fun h23 => ?_)
        · have hwp := hwp.1 h23
          refine lv_aload_n hx hb dMo_goOn_59 rfl (lv_at hl 1 rfl) ?_
          refine va_get (D := D) (ci := 0) (C := RMo) (T := TMo) (N := 33) hx hb hts hin0 hown hK hP 0 rfl rfl 20 (by decide) k56 (fun _ h9 => h9) rfl dMo_goOn_60 ?_
          refine lv_iload_n hx hb dMo_goOn_63 rfl (lv_at hl 2 rfl) ?_
          refine lv_iload_n hx hb dMo_goOn_64 rfl (lv_at hl 0 rfl) ?_
          obtain ⟨hi24, hwp⟩ := hwp
          refine va_iast hx hb hK hP hD hS 15 0 rfl rfl hi24 dMo_goOn_65 (fun H locs hP hD hS => ?_)
          obtain ⟨σ25, eσ25⟩ : ∃ z, z = up2 σ22 20 x1.toNatClampNeg r20 := ⟨_, rfl⟩
          have hwp := hwp σ25 eσ25
          have hP : va_P D clA (mw a tI tZ σ25) H := by rw [eσ25]; exact hP
          have hD : va_D A (mw a tI tZ σ25) := by rw [eσ25]; exact hD
          refine lv_aload_n hx hb dMo_goOn_66 rfl (lv_at hl 1 rfl) ?_
          refine lv_iload_n hx hb dMo_goOn_67 rfl (lv_at hl 2 rfl) ?_
          refine lv_iload_n hx hb dMo_goOn_68 rfl (lv_at hl 0 rfl) ?_
          refine lv_iconst (v := 2) hx hb dMo_goOn_69 (by decide) ?_
          refine lv_iconst (v := 1) hx hb dMo_goOn_70 (by decide) ?_
          refine lv_iconst (v := 0) hx hb dMo_goOn_71 (by decide) ?_
          obtain ⟨P26, hP26, hwp⟩ := hwp
          refine uCallVv (As := [.int x1, .int r20, .int 2, .int 1, .int 0]) (rest := []) (C := RMo) ⟨hx, hb, hml, hown, hts⟩ (kM_send l D a A tI tZ σ25 x1 r20 2 1 0 P26 hP26) (cwV 5 hts (gdV wm_858 wm_860 wp_18 wm_13 wm_861) rfl rfl rfl (by decide +kernel) ⟨Nat.le_of_ble_eq_true rfl, Nat.le_of_ble_eq_true rfl⟩) (va_recv (ci := 0) (q0 := 0) hK hP rfl rfl) hP hK hD hA hS rfl hl.1 rfl (Nat.le_of_ble_eq_true rfl) dMo_goOn_72 ⟨Nat.le_of_ble_eq_true rfl, Nat.le_of_ble_eq_true rfl⟩ (fun u27 H locs hu27 hP hD hS => ?_)
          have hwp := hwp u27 hu27
          exact cut75 u27 x1 _ _ _ hwp hP hD hS (lv_sub hl [1, 2] rfl)
        · have hwp := hwp.2 h23
          refine lv_aload_n hx hb dMo_goOn_50 rfl (lv_at hl 1 rfl) ?_
          refine lv_iconst (v := 2) hx hb dMo_goOn_51 (by decide) ?_
          refine lv_iload_n hx hb dMo_goOn_52 rfl (lv_at hl 2 rfl) ?_
          obtain ⟨P28, hP28, hwp⟩ := hwp
          refine uCallVv (As := [.int 2, .int x1]) (rest := []) (C := RMo) ⟨hx, hb, hml, hown, hts⟩ (kM_comeIn l D a A tI tZ σ22 2 x1 P28 hP28) (cwV 2 hts (gdV wm_854 wm_856 wp_17 wm_13 wm_857) rfl rfl rfl (by decide +kernel) ⟨Nat.le_of_ble_eq_true rfl, Nat.le_of_ble_eq_true rfl⟩) (va_recv (ci := 0) (q0 := 0) hK hP rfl rfl) hP hK hD hA hS rfl hl.1 rfl (Nat.le_of_ble_eq_true rfl) dMo_goOn_53 ⟨Nat.le_of_ble_eq_true rfl, Nat.le_of_ble_eq_true rfl⟩ (fun u29 H locs hu29 hP hD hS => ?_)
          have hwp := hwp u29 hu29
          refine lv_goto hx hb dMo_goOn_56 rfl ?_
          exact cut75 u29 x1 _ _ _ hwp hP hD hS (lv_sub hl [1, 2] rfl)
-- private void passToken(int)
def wM_passToken_127_step (K127 : MS → Int32 → Int32 → Int32 → Prop) (R : MS → Prop) (σ : MS) (y1 : Int32) (y2 : Int32) (y3 : Int32) : Prop :=
  ((((σ 18 0) ≤ y3) → (∀ σ2 : MS, σ2 = up2 σ 17 0 (-1) → (∃ P3 : MS → Prop, wM_send P3 σ2 y1 y2 1 1 0 ∧ (∀ (u4 : MS), P3 u4 → R u4)))) ∧ ((¬ (σ 18 0) ≤ y3) → (vp_in (y3 + 1) 4 ∧ (vp_in y3 4 ∧ (∀ σ7 : MS, σ7 = up2 σ 19 y3.toNatClampNeg (σ 19 (y3 + 1).toNatClampNeg) → K127 σ7 y1 y2 (y3 + 1))))))
def wM_passToken_127 (R : MS → Prop) : Nat → MS → Int32 → Int32 → Int32 → Prop
  | 0 => fun _ _ _ _ => False
  | k + 1 => fun σ y1 y2 y3 => wM_passToken_127_step  (wM_passToken_127  R k) R σ y1 y2 y3
def wM_passToken_95 (K16 : MS → Int32 → Int32 → Prop) (R : MS → Prop) (σ : MS) (y1 : Int32) (y2 : Int32) (y3 : Int32) (y4 : Int32) : Prop :=
  K16 σ y1 (y2 + 1)
def wM_passToken_55 (K16 : MS → Int32 → Int32 → Prop) (K26 : MS → Int32 → Int32 → Int32 → Int32 → Prop) (R : MS → Prop) (σ : MS) (y1 : Int32) (y2 : Int32) (y3 : Int32) (y4 : Int32) (z0 : Int32) : Prop :=
  K26 σ y1 y2 z0 (y4 + 1)
def wM_passToken_50 (K16 : MS → Int32 → Int32 → Prop) (K26 : MS → Int32 → Int32 → Int32 → Int32 → Prop) (R : MS → Prop) (σ : MS) (y1 : Int32) (y2 : Int32) (y3 : Int32) (y4 : Int32) : Prop :=
  wM_passToken_55 K16 K26 R σ y1 y2 y3 y4 1
def wM_passToken_26_step (K16 : MS → Int32 → Int32 → Prop) (K26 : MS → Int32 → Int32 → Int32 → Int32 → Prop) (R : MS → Prop) (σ : MS) (y1 : Int32) (y2 : Int32) (y3 : Int32) (y4 : Int32) : Prop :=
  ((((σ 18 0) ≤ y4) → (((¬ y3 = 0) → wM_passToken_95 K16 R σ y1 y2 y3 y4) ∧ ((y3 = 0) → (∃ P10 : Int32 → MS → Prop, wM_isDue P10 σ y1 y2 ∧ (∀ (r12 : Int32) (u11 : MS), P10 r12 u11 → (((r12 = 0) → wM_passToken_95 K16 R u11 y1 y2 y3 y4) ∧ ((¬ r12 = 0) → (vp_in (u11 18 0) 4 ∧ (∀ σ15 : MS, σ15 = up2 u11 19 (u11 18 0).toNatClampNeg y2 → (∀ σ16 : MS, σ16 = up2 σ15 18 0 ((σ15 18 0) + 1) → wM_passToken_95 K16 R σ16 y1 y2 y3 y4)))))))))) ∧ ((¬ (σ 18 0) ≤ y4) → (((¬ y3 = 0) → wM_passToken_50 K16 K26 R σ y1 y2 y3 y4) ∧ ((y3 = 0) → (vp_in y4 4 ∧ (((¬ (σ 19 y4.toNatClampNeg) = y2) → wM_passToken_55 K16 K26 R σ y1 y2 y3 y4 0) ∧ (((σ 19 y4.toNatClampNeg) = y2) → wM_passToken_50 K16 K26 R σ y1 y2 y3 y4)))))))
def wM_passToken_26 (K16 : MS → Int32 → Int32 → Prop) (R : MS → Prop) : Nat → MS → Int32 → Int32 → Int32 → Int32 → Prop
  | 0 => fun _ _ _ _ _ => False
  | k + 1 => fun σ y1 y2 y3 y4 => wM_passToken_26_step K16 (wM_passToken_26 K16 R k) R σ y1 y2 y3 y4
def wM_passToken_16_step (K16 : MS → Int32 → Int32 → Prop) (R : MS → Prop) (σ : MS) (y1 : Int32) (y2 : Int32) : Prop :=
  (((4 ≤ y2) → ((((σ 18 0) ≤ 0) → R σ) ∧ ((¬ (σ 18 0) ≤ 0) → (∀ v22 : Int32, v22 = σ 19 (0 : Int32).toNatClampNeg → (∀ σ23 : MS, σ23 = up2 σ 18 0 ((σ 18 0) - 1) → wM_passToken_127 R 5 σ23 y1 v22 0))))) ∧ ((¬ 4 ≤ y2) → wM_passToken_26 K16 R 5 σ y1 y2 0 0))
def wM_passToken_16 (R : MS → Prop) : Nat → MS → Int32 → Int32 → Prop
  | 0 => fun _ _ _ => False
  | k + 1 => fun σ y1 y2 => wM_passToken_16_step  (wM_passToken_16  R k) R σ y1 y2
def wM_passToken (R : MS → Prop) (σ : MS) (x1 : Int32) : Prop :=
  (vp_in (5 * x1) 16 ∧ (vp_in x1 4 ∧ (∀ σ26 : MS, σ26 = up2 σ 16 x1.toNatClampNeg (σ 15 (5 * x1).toNatClampNeg) → wM_passToken_16 R 5 σ26 x1 0)))
abbrev wsMo_passToken : List Cond := .code yMo_passToken cMo_passToken 5 none :: wg
abbrev rmM_passToken : Room := { frames := 1, cells := 0, slots := 0, locals := 27 }
set_option maxHeartbeats 4000000 in
set_option maxRecDepth 100000 in
theorem kM_passToken (l : Launch) (D : va_G) (a : Nat → Nat) (A : Nat → Prop) (tI tZ : ClassId) (σ : MS) (x1 : Int32) (R : MS → Prop) (hwp : wM_passToken R σ x1) : Met l yMo_passToken wsMo_passToken rmM_passToken (va_Pc [.ref (a 0), .int x1] (uI D clA (mT tI tZ) A false (mw a tI tZ) σ)) (va_Qv R (uI D clA (mT tI tZ) A false (mw a tI tZ)) A) 0 0 A := by
  refine Met.ofW (cc := cMo_passToken) (maxL := 5) (ret := none) (by decide) rfl ?_
  intro p e s m args below meth c s₁ B hml hv
  obtain ⟨rfl, hP, hK, hD, hA⟩ := hv
  have hx := B.exec
  have hb := B.bytes
  have hr := B.returns
  have hts := atoms_spec (ws := wsMo_passToken) B.pre
  have hown : s.vm.findClass RMo = some m.cls := findClass_of_methodNamed B.named
  have hlocks := B.notSynchronized
  have hin0 : ∀ w ∈ u_ws RMo TMo 33, w ∈ wsMo_passToken := fun w h => List.mem_cons_of_mem _ (inMo w h)
  have k134 := hts _ (List.mem_cons_of_mem _ wm_753)
  have k157 := hts _ (List.mem_cons_of_mem _ wm_754)
  have k47 := hts _ (List.mem_cons_of_mem _ wm_751)
  have k50 := hts _ (List.mem_cons_of_mem _ wm_752)
  have k53 := hts _ (List.mem_cons_of_mem _ wm_755)
  have hS : va_S A s.heap s.heap [] := va_S.rf
  have cut127 : ∀ (k127 : Nat) (σ : MS) (y1 : Int32) (y2 : Int32) (y3 : Int32) (H : Heap) (locs : List Loc) (ls : Array Slot), wM_passToken_127 R k127 σ y1 y2 y3 → va_P D clA (mw a tI tZ σ) H → va_D A (mw a tI tZ σ) → va_S A s.heap H locs → lv_has ls 5 [(0, .ref (a 0)), (1, .int y1), (2, .int y2), (3, .int y3)] → W p l e (headSpec wsMo_passToken rmM_passToken).room s m ([.ref (a 0), .int x1] : List Value).toArray below meth c H locs 0 0 (MQ below (va_Qv R (uI D clA (mT tI tZ) A false (mw a tI tZ)) A) ([.ref (a 0), .int x1] : List Value).toArray s 0 0 A) (F0 m 127 ls []) := by
    intro k127
    induction k127 with
    | zero => intro σ y1 y2 y3 H locs ls hwp hP hD hS hl; exact False.elim hwp
    | succ k127 ih127 =>
      intro σ y1 y2 y3 H locs ls hwp hP hD hS hl
      have hwp : wM_passToken_127_step (wM_passToken_127 R k127) R σ y1 y2 y3 := hwp
      refine lv_iload_n hx hb dMo_passToken_127 rfl (lv_at hl 3 rfl) ?_
      refine lv_aload_n hx hb dMo_passToken_128 rfl (lv_at hl 0 rfl) ?_
      refine va_get (D := D) (ci := 0) (C := RMo) (T := TMo) (N := 33) hx hb hts hin0 hown hK hP 0 rfl rfl 18 (by decide) k157 (fun _ h9 => h9) rfl dMo_passToken_129 ?_
      refine lv_icmp_ge hx hb dMo_passToken_132 rfl (fun h1 => ?_) (fun h1 => ?_)
      · have hwp := hwp.1 h1
        refine lv_aload_n hx hb dMo_passToken_155 rfl (lv_at hl 0 rfl) ?_
        refine lv_iconst (v := (-1)) hx hb dMo_passToken_156 (by decide) ?_
        refine va_put (ty := .int) (D := D) (ci := 0) (C := RMo) (T := TMo) (N := 33) hx hb hts hin0 tyMo tyMo_ok nmMo hown hK hP hD hS 0 rfl rfl 17 (by decide) k134 (fun _ h9 => h9) rfl (by decide +kernel) rfl rfl (Nat.le_of_ble_eq_true rfl) dMo_passToken_157 (fun H locs hP hD hS => ?_)
        obtain ⟨σ2, eσ2⟩ : ∃ z, z = up2 σ 17 0 (-1) := ⟨_, rfl⟩
        have hwp := hwp σ2 eσ2
        have hP : va_P D clA (mw a tI tZ σ2) H := by rw [eσ2]; exact hP
        have hD : va_D A (mw a tI tZ σ2) := by rw [eσ2]; exact hD
        refine lv_aload_n hx hb dMo_passToken_160 rfl (lv_at hl 0 rfl) ?_
        refine lv_iload_n hx hb dMo_passToken_161 rfl (lv_at hl 1 rfl) ?_
        refine lv_iload_n hx hb dMo_passToken_162 rfl (lv_at hl 2 rfl) ?_
        refine lv_iconst (v := 1) hx hb dMo_passToken_163 (by decide) ?_
        refine lv_iconst (v := 1) hx hb dMo_passToken_164 (by decide) ?_
        refine lv_iconst (v := 0) hx hb dMo_passToken_165 (by decide) ?_
        obtain ⟨P3, hP3, hwp⟩ := hwp
        refine uCallVv (As := [.int y1, .int y2, .int 1, .int 1, .int 0]) (rest := []) (C := RMo) ⟨hx, hb, hml, hown, hts⟩ (kM_send l D a A tI tZ σ2 y1 y2 1 1 0 P3 hP3) (cwV 5 hts (gdV wm_858 wm_860 wp_18 wm_13 wm_861) rfl rfl rfl (by decide +kernel) ⟨Nat.le_of_ble_eq_true rfl, Nat.le_of_ble_eq_true rfl⟩) (va_recv (ci := 0) (q0 := 0) hK hP rfl rfl) hP hK hD hA hS rfl hl.1 rfl (Nat.le_of_ble_eq_true rfl) dMo_passToken_166 ⟨Nat.le_of_ble_eq_true rfl, Nat.le_of_ble_eq_true rfl⟩ (fun u4 H locs hu4 hP hD hS => ?_)
        have hwp := hwp u4 hu4
        exact W.vret hx hb hr (fun t ht hW => ⟨⟨u4, rfl, hwp, uEnd ht hW hP hK hD hS hA⟩, hS.F ht⟩) hS.2.2 dMo_passToken_169
      · have hwp := hwp.2 h1
        refine lv_aload_n hx hb dMo_passToken_135 rfl (lv_at hl 0 rfl) ?_
        refine va_get (D := D) (ci := 0) (C := RMo) (T := TMo) (N := 33) hx hb hts hin0 hown hK hP 0 rfl rfl 19 (by decide) k53 (fun _ h9 => h9) rfl dMo_passToken_136 ?_
        refine lv_iload_n hx hb dMo_passToken_139 rfl (lv_at hl 3 rfl) ?_
        refine lv_aload_n hx hb dMo_passToken_140 rfl (lv_at hl 0 rfl) ?_
        refine va_get (D := D) (ci := 0) (C := RMo) (T := TMo) (N := 33) hx hb hts hin0 hown hK hP 0 rfl rfl 19 (by decide) k53 (fun _ h9 => h9) rfl dMo_passToken_141 ?_
        refine lv_iload_n hx hb dMo_passToken_144 rfl (lv_at hl 3 rfl) ?_
        refine lv_iconst (v := 1) hx hb dMo_passToken_145 (by decide) ?_
        refine lv_iadd hx hb dMo_passToken_146 ?_
        obtain ⟨hi5, hwp⟩ := hwp
        refine va_iald hx hb hK hP 14 0 rfl rfl hi5 dMo_passToken_147 ?_
        obtain ⟨hi6, hwp⟩ := hwp
        refine va_iast hx hb hK hP hD hS 14 0 rfl rfl hi6 dMo_passToken_148 (fun H locs hP hD hS => ?_)
        obtain ⟨σ7, eσ7⟩ : ∃ z, z = up2 σ 19 y3.toNatClampNeg (σ 19 (y3 + 1).toNatClampNeg) := ⟨_, rfl⟩
        have hwp := hwp σ7 eσ7
        have hP : va_P D clA (mw a tI tZ σ7) H := by rw [eσ7]; exact hP
        have hD : va_D A (mw a tI tZ σ7) := by rw [eσ7]; exact hD
        refine lv_iinc (k := 3) hx hb dMo_passToken_149 hl rfl (fx_inc1 _) (by decide) rfl (fun ls hl => ?_)
        have hl : lv_has ls 5 [(3, .int (y3 + 1)), (0, .ref (a 0)), (1, .int y1), (2, .int y2)] := hl
        refine lv_goto hx hb dMo_passToken_152 rfl ?_
        exact ih127 σ7 y1 y2 (y3 + 1) _ _ _ hwp hP hD hS (lv_sub hl [1, 2, 3, 0] rfl)
  have cut16 : ∀ (k16 : Nat) (σ : MS) (y1 : Int32) (y2 : Int32) (H : Heap) (locs : List Loc) (ls : Array Slot), wM_passToken_16 R k16 σ y1 y2 → va_P D clA (mw a tI tZ σ) H → va_D A (mw a tI tZ σ) → va_S A s.heap H locs → lv_has ls 5 [(0, .ref (a 0)), (1, .int y1), (2, .int y2)] → W p l e (headSpec wsMo_passToken rmM_passToken).room s m ([.ref (a 0), .int x1] : List Value).toArray below meth c H locs 0 0 (MQ below (va_Qv R (uI D clA (mT tI tZ) A false (mw a tI tZ)) A) ([.ref (a 0), .int x1] : List Value).toArray s 0 0 A) (F0 m 16 ls []) := by
    intro k16
    induction k16 with
    | zero => intro σ y1 y2 H locs ls hwp hP hD hS hl; exact False.elim hwp
    | succ k16 ih16 =>
      intro σ y1 y2 H locs ls hwp hP hD hS hl
      have cut95 : ∀ (σ : MS) (y1 : Int32) (y2 : Int32) (y3 : Int32) (y4 : Int32) (H : Heap) (locs : List Loc) (ls : Array Slot), wM_passToken_95 (wM_passToken_16 R k16) R σ y1 y2 y3 y4 → va_P D clA (mw a tI tZ σ) H → va_D A (mw a tI tZ σ) → va_S A s.heap H locs → lv_has ls 5 [(0, .ref (a 0)), (1, .int y1), (2, .int y2), (3, .int y3), (4, .int y4)] → W p l e (headSpec wsMo_passToken rmM_passToken).room s m ([.ref (a 0), .int x1] : List Value).toArray below meth c H locs 0 0 (MQ below (va_Qv R (uI D clA (mT tI tZ) A false (mw a tI tZ)) A) ([.ref (a 0), .int x1] : List Value).toArray s 0 0 A) (F0 m 95 ls []) := by
        intro σ y1 y2 y3 y4 H locs ls hwp hP hD hS hl
        refine lv_iinc (k := 2) hx hb dMo_passToken_95 hl rfl (fx_inc1 _) (by decide) rfl (fun ls hl => ?_)
        have hl : lv_has ls 5 [(2, .int (y2 + 1)), (0, .ref (a 0)), (1, .int y1), (3, .int y3), (4, .int y4)] := hl
        refine lv_goto hx hb dMo_passToken_98 rfl ?_
        exact ih16 σ y1 (y2 + 1) _ _ _ hwp hP hD hS (lv_sub hl [1, 2, 0] rfl)
      have cut26 : ∀ (k26 : Nat) (σ : MS) (y1 : Int32) (y2 : Int32) (y3 : Int32) (y4 : Int32) (H : Heap) (locs : List Loc) (ls : Array Slot), wM_passToken_26 (wM_passToken_16 R k16) R k26 σ y1 y2 y3 y4 → va_P D clA (mw a tI tZ σ) H → va_D A (mw a tI tZ σ) → va_S A s.heap H locs → lv_has ls 5 [(0, .ref (a 0)), (1, .int y1), (2, .int y2), (3, .int y3), (4, .int y4)] → W p l e (headSpec wsMo_passToken rmM_passToken).room s m ([.ref (a 0), .int x1] : List Value).toArray below meth c H locs 0 0 (MQ below (va_Qv R (uI D clA (mT tI tZ) A false (mw a tI tZ)) A) ([.ref (a 0), .int x1] : List Value).toArray s 0 0 A) (F0 m 26 ls []) := by
        intro k26
        induction k26 with
        | zero => intro σ y1 y2 y3 y4 H locs ls hwp hP hD hS hl; exact False.elim hwp
        | succ k26 ih26 =>
          intro σ y1 y2 y3 y4 H locs ls hwp hP hD hS hl
          have cut55 : ∀ (σ : MS) (y1 : Int32) (y2 : Int32) (y3 : Int32) (y4 : Int32) (z0 : Int32) (H : Heap) (locs : List Loc) (ls : Array Slot), wM_passToken_55 (wM_passToken_16 R k16) (wM_passToken_26 (wM_passToken_16 R k16) R k26) R σ y1 y2 y3 y4 z0 → va_P D clA (mw a tI tZ σ) H → va_D A (mw a tI tZ σ) → va_S A s.heap H locs → lv_has ls 5 [(0, .ref (a 0)), (1, .int y1), (2, .int y2), (3, .int y3), (4, .int y4)] → W p l e (headSpec wsMo_passToken rmM_passToken).room s m ([.ref (a 0), .int x1] : List Value).toArray below meth c H locs 0 0 (MQ below (va_Qv R (uI D clA (mT tI tZ) A false (mw a tI tZ)) A) ([.ref (a 0), .int x1] : List Value).toArray s 0 0 A) (F0 m 55 ls [.int z0]) := by
            intro σ y1 y2 y3 y4 z0 H locs ls hwp hP hD hS hl
            refine lv_istore_n hx hb dMo_passToken_55 rfl hl (by decide) rfl (fun ls hl => ?_)
            have hl : lv_has ls 5 [(3, .int z0), (0, .ref (a 0)), (1, .int y1), (2, .int y2), (4, .int y4)] := hl
            refine lv_iinc (k := 4) hx hb dMo_passToken_56 hl rfl (fx_inc1 _) (by decide) rfl (fun ls hl => ?_)
            have hl : lv_has ls 5 [(4, .int (y4 + 1)), (3, .int z0), (0, .ref (a 0)), (1, .int y1), (2, .int y2)] := hl
            refine lv_goto hx hb dMo_passToken_59 rfl ?_
            exact ih26 σ y1 y2 z0 (y4 + 1) _ _ _ hwp hP hD hS (lv_sub hl [2, 3, 4, 1, 0] rfl)
          have cut50 : ∀ (σ : MS) (y1 : Int32) (y2 : Int32) (y3 : Int32) (y4 : Int32) (H : Heap) (locs : List Loc) (ls : Array Slot), wM_passToken_50 (wM_passToken_16 R k16) (wM_passToken_26 (wM_passToken_16 R k16) R k26) R σ y1 y2 y3 y4 → va_P D clA (mw a tI tZ σ) H → va_D A (mw a tI tZ σ) → va_S A s.heap H locs → lv_has ls 5 [(0, .ref (a 0)), (1, .int y1), (2, .int y2), (3, .int y3), (4, .int y4)] → W p l e (headSpec wsMo_passToken rmM_passToken).room s m ([.ref (a 0), .int x1] : List Value).toArray below meth c H locs 0 0 (MQ below (va_Qv R (uI D clA (mT tI tZ) A false (mw a tI tZ)) A) ([.ref (a 0), .int x1] : List Value).toArray s 0 0 A) (F0 m 50 ls []) := by
            intro σ y1 y2 y3 y4 H locs ls hwp hP hD hS hl
            refine lv_iconst (v := 1) hx hb dMo_passToken_50 (by decide) ?_
            refine lv_goto hx hb dMo_passToken_51 rfl ?_
            exact cut55 σ y1 y2 y3 y4 1 _ _ _ hwp hP hD hS (lv_sub hl [0, 1, 2, 3, 4] rfl)
          have hwp : wM_passToken_26_step (wM_passToken_16 R k16) (wM_passToken_26 (wM_passToken_16 R k16) R k26) R σ y1 y2 y3 y4 := hwp
          refine lv_iload hx hb dMo_passToken_26 (lv_at hl 4 rfl) ?_
          refine lv_aload_n hx hb dMo_passToken_28 rfl (lv_at hl 0 rfl) ?_
          refine va_get (D := D) (ci := 0) (C := RMo) (T := TMo) (N := 33) hx hb hts hin0 hown hK hP 0 rfl rfl 18 (by decide) k157 (fun _ h9 => h9) rfl dMo_passToken_29 ?_
          refine lv_icmp_ge hx hb dMo_passToken_32 rfl (fun h8 => ?_) (fun h8 => ?_)
          · have hwp := hwp.1 h8
            refine lv_iload_n hx hb dMo_passToken_62 rfl (lv_at hl 3 rfl) ?_
            refine lv_if_ne hx hb dMo_passToken_63 rfl (fun h9 => ?_) (fun h9 => ?_)
            · have hwp := hwp.1 h9
              exact cut95 σ y1 y2 y3 y4 _ _ _ hwp hP hD hS (lv_sub hl [0, 1, 2, 3, 4] rfl)
            · have hwp := hwp.2 h9
              refine lv_aload_n hx hb dMo_passToken_66 rfl (lv_at hl 0 rfl) ?_
              refine lv_iload_n hx hb dMo_passToken_67 rfl (lv_at hl 1 rfl) ?_
              refine lv_iload_n hx hb dMo_passToken_68 rfl (lv_at hl 2 rfl) ?_
              obtain ⟨P10, hP10, hwp⟩ := hwp
              refine uCallVi (As := [.int y1, .int y2]) (rest := []) (C := RMo) ⟨hx, hb, hml, hown, hts⟩ (kM_isDue l D a A tI tZ σ y1 y2 P10 hP10) (cwV 2 hts (gdV wm_866 wm_868 wp_20 wm_13 wm_869) rfl rfl rfl (by decide +kernel) ⟨Nat.le_of_ble_eq_true rfl, Nat.le_of_ble_eq_true rfl⟩) (va_recv (ci := 0) (q0 := 0) hK hP rfl rfl) hP hK hD hA hS rfl hl.1 rfl (Nat.le_of_ble_eq_true rfl) dMo_passToken_69 ⟨Nat.le_of_ble_eq_true rfl, Nat.le_of_ble_eq_true rfl⟩ (fun r12 u11 H locs hu11 hP hD hS => ?_)
              have hwp := hwp r12 u11 hu11
              refine lv_if_eq hx hb dMo_passToken_72 rfl (fun h13 => ?_) (fun h13 => ?_)
              · have hwp := hwp.1 h13
                exact cut95 u11 y1 y2 y3 y4 _ _ _ hwp hP hD hS (lv_sub hl [0, 1, 2, 3, 4] rfl)
              · have hwp := hwp.2 h13
                refine lv_aload_n hx hb dMo_passToken_75 rfl (lv_at hl 0 rfl) ?_
                refine va_get (D := D) (ci := 0) (C := RMo) (T := TMo) (N := 33) hx hb hts hin0 hown hK hP 0 rfl rfl 19 (by decide) k53 (fun _ h9 => h9) rfl dMo_passToken_76 ?_
                refine lv_aload_n hx hb dMo_passToken_79 rfl (lv_at hl 0 rfl) ?_
                refine va_get (D := D) (ci := 0) (C := RMo) (T := TMo) (N := 33) hx hb hts hin0 hown hK hP 0 rfl rfl 18 (by decide) k157 (fun _ h9 => h9) rfl dMo_passToken_80 ?_
                refine lv_iload_n hx hb dMo_passToken_83 rfl (lv_at hl 2 rfl) ?_
                obtain ⟨hi14, hwp⟩ := hwp
                refine va_iast hx hb hK hP hD hS 14 0 rfl rfl hi14 dMo_passToken_84 (fun H locs hP hD hS => ?_)
                obtain ⟨σ15, eσ15⟩ : ∃ z, z = up2 u11 19 (u11 18 0).toNatClampNeg y2 := ⟨_, rfl⟩
                have hwp := hwp σ15 eσ15
                have hP : va_P D clA (mw a tI tZ σ15) H := by rw [eσ15]; exact hP
                have hD : va_D A (mw a tI tZ σ15) := by rw [eσ15]; exact hD
                refine lv_aload_n hx hb dMo_passToken_85 rfl (lv_at hl 0 rfl) ?_
                refine lv_dup hx hb dMo_passToken_86 rfl ?_
                refine va_get (D := D) (ci := 0) (C := RMo) (T := TMo) (N := 33) hx hb hts hin0 hown hK hP 0 rfl rfl 18 (by decide) k157 (fun _ h9 => h9) rfl dMo_passToken_87 ?_
                refine lv_iconst (v := 1) hx hb dMo_passToken_90 (by decide) ?_
                refine lv_iadd hx hb dMo_passToken_91 ?_
                refine va_put (ty := .int) (D := D) (ci := 0) (C := RMo) (T := TMo) (N := 33) hx hb hts hin0 tyMo tyMo_ok nmMo hown hK hP hD hS 0 rfl rfl 18 (by decide) k157 (fun _ h9 => h9) rfl (by decide +kernel) rfl rfl (Nat.le_of_ble_eq_true rfl) dMo_passToken_92 (fun H locs hP hD hS => ?_)
                obtain ⟨σ16, eσ16⟩ : ∃ z, z = up2 σ15 18 0 ((σ15 18 0) + 1) := ⟨_, rfl⟩
                have hwp := hwp σ16 eσ16
                have hP : va_P D clA (mw a tI tZ σ16) H := by rw [eσ16]; exact hP
                have hD : va_D A (mw a tI tZ σ16) := by rw [eσ16]; exact hD
                exact cut95 σ16 y1 y2 y3 y4 _ _ _ hwp hP hD hS (lv_sub hl [0, 1, 2, 3, 4] rfl)
          · have hwp := hwp.2 h8
            refine lv_iload_n hx hb dMo_passToken_35 rfl (lv_at hl 3 rfl) ?_
            refine lv_if_ne hx hb dMo_passToken_36 rfl (fun h17 => ?_) (fun h17 => ?_)
            · have hwp := hwp.1 h17
              exact cut50 σ y1 y2 y3 y4 _ _ _ hwp hP hD hS (lv_sub hl [0, 1, 2, 3, 4] rfl)
            · have hwp := hwp.2 h17
              refine lv_aload_n hx hb dMo_passToken_39 rfl (lv_at hl 0 rfl) ?_
              refine va_get (D := D) (ci := 0) (C := RMo) (T := TMo) (N := 33) hx hb hts hin0 hown hK hP 0 rfl rfl 19 (by decide) k53 (fun _ h9 => h9) rfl dMo_passToken_40 ?_
              refine lv_iload hx hb dMo_passToken_43 (lv_at hl 4 rfl) ?_
              obtain ⟨hi18, hwp⟩ := hwp
              refine va_iald hx hb hK hP 14 0 rfl rfl hi18 dMo_passToken_45 ?_
              refine lv_iload_n hx hb dMo_passToken_46 rfl (lv_at hl 2 rfl) ?_
              refine lv_icmp_ne hx hb dMo_passToken_47 rfl (fun h19 => ?_) (fun h19 => ?_)
              · have hwp := hwp.1 h19
                refine lv_iconst (v := 0) hx hb dMo_passToken_54 (by decide) ?_
                exact cut55 σ y1 y2 y3 y4 0 _ _ _ hwp hP hD hS (lv_sub hl [0, 1, 2, 3, 4] rfl)
              · have hwp := hwp.2 h19
                exact cut50 σ y1 y2 y3 y4 _ _ _ hwp hP hD hS (lv_sub hl [0, 1, 2, 3, 4] rfl)
      have hwp : wM_passToken_16_step (wM_passToken_16 R k16) R σ y1 y2 := hwp
      refine lv_iload_n hx hb dMo_passToken_16 rfl (lv_at hl 2 rfl) ?_
      refine lv_iconst (v := 4) hx hb dMo_passToken_17 (by decide) ?_
      refine lv_icmp_ge hx hb dMo_passToken_18 rfl (fun h20 => ?_) (fun h20 => ?_)
      · have hwp := hwp.1 h20
        refine lv_aload_n hx hb dMo_passToken_101 rfl (lv_at hl 0 rfl) ?_
        refine va_get (D := D) (ci := 0) (C := RMo) (T := TMo) (N := 33) hx hb hts hin0 hown hK hP 0 rfl rfl 18 (by decide) k157 (fun _ h9 => h9) rfl dMo_passToken_102 ?_
        refine lv_if_le hx hb dMo_passToken_105 rfl (fun h21 => ?_) (fun h21 => ?_)
        · have hwp := hwp.1 h21
          exact W.vret hx hb hr (fun t ht hW => ⟨⟨σ, rfl, hwp, uEnd ht hW hP hK hD hS hA⟩, hS.F ht⟩) hS.2.2 dMo_passToken_169
        · have hwp := hwp.2 h21
          refine lv_aload_n hx hb dMo_passToken_108 rfl (lv_at hl 0 rfl) ?_
          refine va_get (D := D) (ci := 0) (C := RMo) (T := TMo) (N := 33) hx hb hts hin0 hown hK hP 0 rfl rfl 19 (by decide) k53 (fun _ h9 => h9) rfl dMo_passToken_109 ?_
          refine lv_iconst (v := 0) hx hb dMo_passToken_112 (by decide) ?_
          refine va_iald hx hb hK hP 14 0 rfl rfl (by unfold vp_in; decide) dMo_passToken_113 ?_
          refine lv_topi (fun v22 ev22 => ?_)
          have hwp := hwp v22 ev22
          refine lv_istore_n hx hb dMo_passToken_114 rfl hl (by decide) rfl (fun ls hl => ?_)
          have hl : lv_has ls 5 [(2, .int v22), (0, .ref (a 0)), (1, .int y1)] := hl
          refine lv_aload_n hx hb dMo_passToken_115 rfl (lv_at hl 1 rfl) ?_
          refine lv_dup hx hb dMo_passToken_116 rfl ?_
          refine va_get (D := D) (ci := 0) (C := RMo) (T := TMo) (N := 33) hx hb hts hin0 hown hK hP 0 rfl rfl 18 (by decide) k157 (fun _ h9 => h9) rfl dMo_passToken_117 ?_
          refine lv_iconst (v := 1) hx hb dMo_passToken_120 (by decide) ?_
          refine lv_isub hx hb dMo_passToken_121 ?_
          refine va_put (ty := .int) (D := D) (ci := 0) (C := RMo) (T := TMo) (N := 33) hx hb hts hin0 tyMo tyMo_ok nmMo hown hK hP hD hS 0 rfl rfl 18 (by decide) k157 (fun _ h9 => h9) rfl (by decide +kernel) rfl rfl (Nat.le_of_ble_eq_true rfl) dMo_passToken_122 (fun H locs hP hD hS => ?_)
          obtain ⟨σ23, eσ23⟩ : ∃ z, z = up2 σ 18 0 ((σ 18 0) - 1) := ⟨_, rfl⟩
          have hwp := hwp σ23 eσ23
          have hP : va_P D clA (mw a tI tZ σ23) H := by rw [eσ23]; exact hP
          have hD : va_D A (mw a tI tZ σ23) := by rw [eσ23]; exact hD
          refine lv_iconst (v := 0) hx hb dMo_passToken_125 (by decide) ?_
          refine lv_istore_n hx hb dMo_passToken_126 rfl hl (by decide) rfl (fun ls hl => ?_)
          have hl : lv_has ls 5 [(3, .int 0), (2, .int v22), (0, .ref (a 0)), (1, .int y1)] := hl
          exact cut127 5 σ23 y1 v22 0 _ _ _ hwp hP hD hS (lv_sub hl [2, 3, 1, 0] rfl)
      · have hwp := hwp.2 h20
        refine lv_iconst (v := 0) hx hb dMo_passToken_21 (by decide) ?_
        refine lv_istore_n hx hb dMo_passToken_22 rfl hl (by decide) rfl (fun ls hl => ?_)
        have hl : lv_has ls 5 [(3, .int 0), (0, .ref (a 0)), (1, .int y1), (2, .int y2)] := hl
        refine lv_iconst (v := 0) hx hb dMo_passToken_23 (by decide) ?_
        refine lv_istore hx hb dMo_passToken_24 hl (by decide) rfl (fun ls hl => ?_)
        have hl : lv_has ls 5 [(4, .int 0), (3, .int 0), (0, .ref (a 0)), (1, .int y1), (2, .int y2)] := hl
        exact cut26 5 σ y1 y2 0 0 _ _ _ hwp hP hD hS (lv_sub hl [2, 3, 4, 1, 0] rfl)
  have hl := lv_entry ([.ref (a 0), .int x1]) (n := 5) (Nat.le_of_ble_eq_true rfl)
  rw [lg_entry_eq]
  generalize (lg_sl ([.ref (a 0), .int x1]) ++ List.replicate (5 - (lg_sl ([.ref (a 0), .int x1])).length) Slot.unset).toArray = ls at hl ⊢
  have hl : lv_has ls 5 [(0, .ref (a 0)), (1, .int x1)] := hl
  refine lv_aload_n hx hb dMo_passToken_0 rfl (lv_at hl 0 rfl) ?_
  refine va_get (D := D) (ci := 0) (C := RMo) (T := TMo) (N := 33) hx hb hts hin0 hown hK hP 0 rfl rfl 16 (by decide) k50 (fun _ h9 => h9) rfl dMo_passToken_1 ?_
  refine lv_iload_n hx hb dMo_passToken_4 rfl (lv_at hl 1 rfl) ?_
  refine lv_aload_n hx hb dMo_passToken_5 rfl (lv_at hl 0 rfl) ?_
  refine va_get (D := D) (ci := 0) (C := RMo) (T := TMo) (N := 33) hx hb hts hin0 hown hK hP 0 rfl rfl 15 (by decide) k47 (fun _ h9 => h9) rfl dMo_passToken_6 ?_
  refine lv_iconst (v := 5) hx hb dMo_passToken_9 (by decide) ?_
  refine lv_iload_n hx hb dMo_passToken_10 rfl (lv_at hl 1 rfl) ?_
  refine lv_imul hx hb dMo_passToken_11 ?_
  obtain ⟨hi24, hwp⟩ := hwp
  refine va_iald hx hb hK hP 12 0 rfl rfl hi24 dMo_passToken_12 ?_
  obtain ⟨hi25, hwp⟩ := hwp
  refine va_iast hx hb hK hP hD hS 13 0 rfl rfl hi25 dMo_passToken_13 (fun H locs hP hD hS => ?_)
  obtain ⟨σ26, eσ26⟩ : ∃ z, z = up2 σ 16 x1.toNatClampNeg (σ 15 (5 * x1).toNatClampNeg) := ⟨_, rfl⟩
  have hwp := hwp σ26 eσ26
  have hP : va_P D clA (mw a tI tZ σ26) H := by rw [eσ26]; exact hP
  have hD : va_D A (mw a tI tZ σ26) := by rw [eσ26]; exact hD
  refine lv_iconst (v := 0) hx hb dMo_passToken_14 (by decide) ?_
  refine lv_istore_n hx hb dMo_passToken_15 rfl hl (by decide) rfl (fun ls hl => ?_)
  have hl : lv_has ls 5 [(2, .int 0), (0, .ref (a 0)), (1, .int x1)] := hl
  exact cut16 5 σ26 x1 0 _ _ _ hwp hP hD hS (lv_sub hl [1, 2, 0] rfl)
-- private void settle(int)
def wM_settle (R : MS → Prop) (σ : MS) (x1 : Int32) : Prop :=
  (vp_in x1 4 ∧ (((¬ (σ 29 x1.toNatClampNeg) = 0) → R σ) ∧ (((σ 29 x1.toNatClampNeg) = 0) → (vp_in x1 4 ∧ ((((σ 31 x1.toNatClampNeg) ≤ 0) → (vp_in x1 4 ∧ ((((σ 30 x1.toNatClampNeg) < 0) → (((¬ (σ 27 0) = x1) → R σ) ∧ (((σ 27 0) = x1) → (∀ σ8 : MS, σ8 = up2 σ 27 0 (-1) → (∀ σ9 : MS, σ9 = up2 σ8 28 0 ((σ8 28 0) + 1) → R σ9))))) ∧ ((¬ (σ 30 x1.toNatClampNeg) < 0) → (vp_in x1 4 ∧ (∀ v11 : Int32, v11 = σ 30 x1.toNatClampNeg → (vp_in x1 4 ∧ (∀ σ13 : MS, σ13 = up2 σ 30 x1.toNatClampNeg (-1) → (∃ P14 : MS → Prop, wM_send P14 σ13 x1 v11 4 1 0 ∧ (∀ (u15 : MS), P14 u15 → R u15)))))))))) ∧ ((¬ (σ 31 x1.toNatClampNeg) ≤ 0) → R σ))))))
abbrev wsMo_settle : List Cond := .code yMo_settle cMo_settle 3 none :: wg
abbrev rmM_settle : Room := { frames := 1, cells := 0, slots := 0, locals := 27 }
set_option maxHeartbeats 4000000 in
set_option maxRecDepth 100000 in
theorem kM_settle (l : Launch) (D : va_G) (a : Nat → Nat) (A : Nat → Prop) (tI tZ : ClassId) (σ : MS) (x1 : Int32) (R : MS → Prop) (hwp : wM_settle R σ x1) : Met l yMo_settle wsMo_settle rmM_settle (va_Pc [.ref (a 0), .int x1] (uI D clA (mT tI tZ) A false (mw a tI tZ) σ)) (va_Qv R (uI D clA (mT tI tZ) A false (mw a tI tZ)) A) 0 0 A := by
  refine Met.ofW (cc := cMo_settle) (maxL := 3) (ret := none) (by decide) rfl ?_
  intro p e s m args below meth c s₁ B hml hv
  obtain ⟨rfl, hP, hK, hD, hA⟩ := hv
  have hx := B.exec
  have hb := B.bytes
  have hr := B.returns
  have hts := atoms_spec (ws := wsMo_settle) B.pre
  have hown : s.vm.findClass RMo = some m.cls := findClass_of_methodNamed B.named
  have hlocks := B.notSynchronized
  have hin0 : ∀ w ∈ u_ws RMo TMo 33, w ∈ wsMo_settle := fun w h => List.mem_cons_of_mem _ (inMo w h)
  have k164 := hts _ (List.mem_cons_of_mem _ wm_764)
  have k78 := hts _ (List.mem_cons_of_mem _ wm_763)
  have k81 := hts _ (List.mem_cons_of_mem _ wm_765)
  have k84 := hts _ (List.mem_cons_of_mem _ wm_766)
  have k87 := hts _ (List.mem_cons_of_mem _ wm_767)
  have hS : va_S A s.heap s.heap [] := va_S.rf
  have hl := lv_entry ([.ref (a 0), .int x1]) (n := 3) (Nat.le_of_ble_eq_true rfl)
  rw [lg_entry_eq]
  generalize (lg_sl ([.ref (a 0), .int x1]) ++ List.replicate (3 - (lg_sl ([.ref (a 0), .int x1])).length) Slot.unset).toArray = ls at hl ⊢
  have hl : lv_has ls 3 [(0, .ref (a 0)), (1, .int x1)] := hl
  refine lv_aload_n hx hb dMo_settle_0 rfl (lv_at hl 0 rfl) ?_
  refine va_get (D := D) (ci := 0) (C := RMo) (T := TMo) (N := 33) hx hb hts hin0 hown hK hP 0 rfl rfl 29 (by decide) k81 (fun _ h9 => h9) rfl dMo_settle_1 ?_
  refine lv_iload_n hx hb dMo_settle_4 rfl (lv_at hl 1 rfl) ?_
  obtain ⟨hi1, hwp⟩ := hwp
  refine va_zald hx hb hK hP 22 1 rfl rfl hi1 dMo_settle_5 ?_
  refine lv_if_ne hx hb dMo_settle_6 rfl (fun h2 => ?_) (fun h2 => ?_)
  · have hwp := hwp.1 h2
    exact W.vret hx hb hr (fun t ht hW => ⟨⟨σ, rfl, hwp, uEnd ht hW hP hK hD hS hA⟩, hS.F ht⟩) hS.2.2 dMo_settle_18
  · have hwp := hwp.2 h2
    refine lv_aload_n hx hb dMo_settle_9 rfl (lv_at hl 0 rfl) ?_
    refine va_get (D := D) (ci := 0) (C := RMo) (T := TMo) (N := 33) hx hb hts hin0 hown hK hP 0 rfl rfl 31 (by decide) k87 (fun _ h9 => h9) rfl dMo_settle_10 ?_
    refine lv_iload_n hx hb dMo_settle_13 rfl (lv_at hl 1 rfl) ?_
    obtain ⟨hi3, hwp⟩ := hwp
    refine va_iald hx hb hK hP 24 0 rfl rfl hi3 dMo_settle_14 ?_
    refine lv_if_le hx hb dMo_settle_15 rfl (fun h4 => ?_) (fun h4 => ?_)
    · have hwp := hwp.1 h4
      refine lv_aload_n hx hb dMo_settle_19 rfl (lv_at hl 0 rfl) ?_
      refine va_get (D := D) (ci := 0) (C := RMo) (T := TMo) (N := 33) hx hb hts hin0 hown hK hP 0 rfl rfl 30 (by decide) k84 (fun _ h9 => h9) rfl dMo_settle_20 ?_
      refine lv_iload_n hx hb dMo_settle_23 rfl (lv_at hl 1 rfl) ?_
      obtain ⟨hi5, hwp⟩ := hwp
      refine va_iald hx hb hK hP 23 0 rfl rfl hi5 dMo_settle_24 ?_
      refine lv_if_lt hx hb dMo_settle_25 rfl (fun h6 => ?_) (fun h6 => ?_)
      · have hwp := hwp.1 h6
        refine lv_aload_n hx hb dMo_settle_54 rfl (lv_at hl 0 rfl) ?_
        refine va_get (D := D) (ci := 0) (C := RMo) (T := TMo) (N := 33) hx hb hts hin0 hown hK hP 0 rfl rfl 27 (by decide) k78 (fun _ h9 => h9) rfl dMo_settle_55 ?_
        refine lv_iload_n hx hb dMo_settle_58 rfl (lv_at hl 1 rfl) ?_
        refine lv_icmp_ne hx hb dMo_settle_59 rfl (fun h7 => ?_) (fun h7 => ?_)
        · have hwp := hwp.1 h7
          exact W.vret hx hb hr (fun t ht hW => ⟨⟨σ, rfl, hwp, uEnd ht hW hP hK hD hS hA⟩, hS.F ht⟩) hS.2.2 dMo_settle_77
        · have hwp := hwp.2 h7
          refine lv_aload_n hx hb dMo_settle_62 rfl (lv_at hl 0 rfl) ?_
          refine lv_iconst (v := (-1)) hx hb dMo_settle_63 (by decide) ?_
          refine va_put (ty := .int) (D := D) (ci := 0) (C := RMo) (T := TMo) (N := 33) hx hb hts hin0 tyMo tyMo_ok nmMo hown hK hP hD hS 0 rfl rfl 27 (by decide) k78 (fun _ h9 => h9) rfl (by decide +kernel) rfl rfl (Nat.le_of_ble_eq_true rfl) dMo_settle_64 (fun H locs hP hD hS => ?_)
          obtain ⟨σ8, eσ8⟩ : ∃ z, z = up2 σ 27 0 (-1) := ⟨_, rfl⟩
          have hwp := hwp σ8 eσ8
          have hP : va_P D clA (mw a tI tZ σ8) H := by rw [eσ8]; exact hP
          have hD : va_D A (mw a tI tZ σ8) := by rw [eσ8]; exact hD
          refine lv_aload_n hx hb dMo_settle_67 rfl (lv_at hl 0 rfl) ?_
          refine lv_dup hx hb dMo_settle_68 rfl ?_
          refine va_get (D := D) (ci := 0) (C := RMo) (T := TMo) (N := 33) hx hb hts hin0 hown hK hP 0 rfl rfl 28 (by decide) k164 (fun _ h9 => h9) rfl dMo_settle_69 ?_
          refine lv_iconst (v := 1) hx hb dMo_settle_72 (by decide) ?_
          refine lv_iadd hx hb dMo_settle_73 ?_
          refine va_put (ty := .int) (D := D) (ci := 0) (C := RMo) (T := TMo) (N := 33) hx hb hts hin0 tyMo tyMo_ok nmMo hown hK hP hD hS 0 rfl rfl 28 (by decide) k164 (fun _ h9 => h9) rfl (by decide +kernel) rfl rfl (Nat.le_of_ble_eq_true rfl) dMo_settle_74 (fun H locs hP hD hS => ?_)
          obtain ⟨σ9, eσ9⟩ : ∃ z, z = up2 σ8 28 0 ((σ8 28 0) + 1) := ⟨_, rfl⟩
          have hwp := hwp σ9 eσ9
          have hP : va_P D clA (mw a tI tZ σ9) H := by rw [eσ9]; exact hP
          have hD : va_D A (mw a tI tZ σ9) := by rw [eσ9]; exact hD
          exact W.vret hx hb hr (fun t ht hW => ⟨⟨σ9, rfl, hwp, uEnd ht hW hP hK hD hS hA⟩, hS.F ht⟩) hS.2.2 dMo_settle_77
      · have hwp := hwp.2 h6
        refine lv_aload_n hx hb dMo_settle_28 rfl (lv_at hl 0 rfl) ?_
        refine va_get (D := D) (ci := 0) (C := RMo) (T := TMo) (N := 33) hx hb hts hin0 hown hK hP 0 rfl rfl 30 (by decide) k84 (fun _ h9 => h9) rfl dMo_settle_29 ?_
        refine lv_iload_n hx hb dMo_settle_32 rfl (lv_at hl 1 rfl) ?_
        obtain ⟨hi10, hwp⟩ := hwp
        refine va_iald hx hb hK hP 23 0 rfl rfl hi10 dMo_settle_33 ?_
        refine lv_topi (fun v11 ev11 => ?_)
        have hwp := hwp v11 ev11
        refine lv_istore_n hx hb dMo_settle_34 rfl hl (by decide) rfl (fun ls hl => ?_)
        have hl : lv_has ls 3 [(2, .int v11), (0, .ref (a 0)), (1, .int x1)] := hl
        refine lv_aload_n hx hb dMo_settle_35 rfl (lv_at hl 1 rfl) ?_
        refine va_get (D := D) (ci := 0) (C := RMo) (T := TMo) (N := 33) hx hb hts hin0 hown hK hP 0 rfl rfl 30 (by decide) k84 (fun _ h9 => h9) rfl dMo_settle_36 ?_
        refine lv_iload_n hx hb dMo_settle_39 rfl (lv_at hl 2 rfl) ?_
        refine lv_iconst (v := (-1)) hx hb dMo_settle_40 (by decide) ?_
        obtain ⟨hi12, hwp⟩ := hwp
        refine va_iast hx hb hK hP hD hS 23 0 rfl rfl hi12 dMo_settle_41 (fun H locs hP hD hS => ?_)
        obtain ⟨σ13, eσ13⟩ : ∃ z, z = up2 σ 30 x1.toNatClampNeg (-1) := ⟨_, rfl⟩
        have hwp := hwp σ13 eσ13
        have hP : va_P D clA (mw a tI tZ σ13) H := by rw [eσ13]; exact hP
        have hD : va_D A (mw a tI tZ σ13) := by rw [eσ13]; exact hD
        refine lv_aload_n hx hb dMo_settle_42 rfl (lv_at hl 1 rfl) ?_
        refine lv_iload_n hx hb dMo_settle_43 rfl (lv_at hl 2 rfl) ?_
        refine lv_iload_n hx hb dMo_settle_44 rfl (lv_at hl 0 rfl) ?_
        refine lv_iconst (v := 4) hx hb dMo_settle_45 (by decide) ?_
        refine lv_iconst (v := 1) hx hb dMo_settle_46 (by decide) ?_
        refine lv_iconst (v := 0) hx hb dMo_settle_47 (by decide) ?_
        obtain ⟨P14, hP14, hwp⟩ := hwp
        refine uCallVv (As := [.int x1, .int v11, .int 4, .int 1, .int 0]) (rest := []) (C := RMo) ⟨hx, hb, hml, hown, hts⟩ (kM_send l D a A tI tZ σ13 x1 v11 4 1 0 P14 hP14) (cwV 5 hts (gdV wm_858 wm_860 wp_18 wm_13 wm_861) rfl rfl rfl (by decide +kernel) ⟨Nat.le_of_ble_eq_true rfl, Nat.le_of_ble_eq_true rfl⟩) (va_recv (ci := 0) (q0 := 0) hK hP rfl rfl) hP hK hD hA hS rfl hl.1 rfl (Nat.le_of_ble_eq_true rfl) dMo_settle_48 ⟨Nat.le_of_ble_eq_true rfl, Nat.le_of_ble_eq_true rfl⟩ (fun u15 H locs hu15 hP hD hS => ?_)
        have hwp := hwp u15 hu15
        refine lv_goto hx hb dMo_settle_51 rfl ?_
        exact W.vret hx hb hr (fun t ht hW => ⟨⟨u15, rfl, hwp, uEnd ht hW hP hK hD hS hA⟩, hS.F ht⟩) hS.2.2 dMo_settle_77
    · have hwp := hwp.2 h4
      exact W.vret hx hb hr (fun t ht hW => ⟨⟨σ, rfl, hwp, uEnd ht hW hP hK hD hS hA⟩, hS.F ht⟩) hS.2.2 dMo_settle_18
-- private void stampArrives(int, int, int, int)
def wM_stampArrives_144 (R : MS → Prop) (σ : MS) (y1 : Int32) (y2 : Int32) (y3 : Int32) (y4 : Int32) (y5 : Int32) : Prop :=
  (∃ P1 : MS → Prop, wM_send P1 σ y2 y1 0 1 0 ∧ (∀ (u2 : MS), P1 u2 → R u2))
def wM_stampArrives_129 (R : MS → Prop) (σ : MS) (y1 : Int32) (y2 : Int32) (y3 : Int32) (y4 : Int32) (y5 : Int32) : Prop :=
  (vp_in y2 4 ∧ (vp_in y2 4 ∧ (∀ σ5 : MS, σ5 = up2 σ 14 y2.toNatClampNeg ((σ 14 y2.toNatClampNeg) ||| (1 <<< (y1 &&& 31))) → R σ5)))
def wM_stampArrives_102 (R : MS → Prop) (σ : MS) (y1 : Int32) (y2 : Int32) (y3 : Int32) (y4 : Int32) (z0 : Int32) : Prop :=
  (vp_in y2 12 ∧ ((((σ 8 y2.toNatClampNeg) = 2) → wM_stampArrives_129 R σ y1 y2 y3 y4 z0) ∧ ((¬ (σ 8 y2.toNatClampNeg) = 2) → (vp_in y2 12 ∧ (((¬ (σ 8 y2.toNatClampNeg) = 1) → wM_stampArrives_144 R σ y1 y2 y3 y4 z0) ∧ (((σ 8 y2.toNatClampNeg) = 1) → (((z0 = 0) → wM_stampArrives_144 R σ y1 y2 y3 y4 z0) ∧ ((¬ z0 = 0) → wM_stampArrives_129 R σ y1 y2 y3 y4 z0))))))))
def wM_stampArrives_101 (R : MS → Prop) (σ : MS) (y1 : Int32) (y2 : Int32) (y3 : Int32) (y4 : Int32) : Prop :=
  wM_stampArrives_102 R σ y1 y2 y3 y4 0
def wM_stampArrives_97 (R : MS → Prop) (σ : MS) (y1 : Int32) (y2 : Int32) (y3 : Int32) (y4 : Int32) : Prop :=
  wM_stampArrives_102 R σ y1 y2 y3 y4 1
def wM_stampArrives_69 (R : MS → Prop) (σ : MS) (y1 : Int32) (y2 : Int32) (y3 : Int32) (y4 : Int32) (z1 : Int32) (z2 : Int32) : Prop :=
  (vp_in z1 4 ∧ (∀ σ12 : MS, σ12 = up2 σ 11 z1.toNatClampNeg z2 → (vp_in y2 4 ∧ ((((σ12 12 y2.toNatClampNeg) < y4) → wM_stampArrives_97 R σ12 y1 y2 y3 y4) ∧ ((¬ (σ12 12 y2.toNatClampNeg) < y4) → (vp_in y2 4 ∧ (((¬ (σ12 12 y2.toNatClampNeg) = y4) → wM_stampArrives_101 R σ12 y1 y2 y3 y4) ∧ (((σ12 12 y2.toNatClampNeg) = y4) → (((y1 ≤ y2) → wM_stampArrives_101 R σ12 y1 y2 y3 y4) ∧ ((¬ y1 ≤ y2) → wM_stampArrives_97 R σ12 y1 y2 y3 y4))))))))))
def wM_stampArrives (R : MS → Prop) (σ : MS) (x1 x2 x3 x4 : Int32) : Prop :=
  (((¬ x3 = 1) → (vp_in x2 4 ∧ (((x4 ≤ (σ 11 x2.toNatClampNeg)) → (vp_in x2 4 ∧ wM_stampArrives_69 R σ x1 x2 x3 x4 x2 (σ 11 x2.toNatClampNeg))) ∧ ((¬ x4 ≤ (σ 11 x2.toNatClampNeg)) → wM_stampArrives_69 R σ x1 x2 x3 x4 x2 x4)))) ∧ ((x3 = 1) → (vp_in x2 4 ∧ (vp_in x2 4 ∧ (∀ σ24 : MS, σ24 = up2 σ 13 x2.toNatClampNeg ((σ 13 x2.toNatClampNeg) + 1) → (vp_in x2 4 ∧ (((¬ (σ24 13 x2.toNatClampNeg) = 3) → R σ24) ∧ (((σ24 13 x2.toNatClampNeg) = 3) → (vp_in x2 12 ∧ (((¬ (σ24 8 x2.toNatClampNeg) = 1) → R σ24) ∧ (((σ24 8 x2.toNatClampNeg) = 1) → (∃ P29 : MS → Prop, wM_comeIn P29 σ24 0 x2 ∧ (∀ (u30 : MS), P29 u30 → R u30)))))))))))))
abbrev wsMo_stampArrives : List Cond := .code yMo_stampArrives cMo_stampArrives 6 none :: wg
abbrev rmM_stampArrives : Room := { frames := 1, cells := 0, slots := 0, locals := 27 }
set_option maxHeartbeats 4000000 in
set_option maxRecDepth 100000 in
theorem kM_stampArrives (l : Launch) (D : va_G) (a : Nat → Nat) (A : Nat → Prop) (tI tZ : ClassId) (σ : MS) (x1 x2 x3 x4 : Int32) (R : MS → Prop) (hwp : wM_stampArrives R σ x1 x2 x3 x4) : Met l yMo_stampArrives wsMo_stampArrives rmM_stampArrives (va_Pc [.ref (a 0), .int x1, .int x2, .int x3, .int x4] (uI D clA (mT tI tZ) A false (mw a tI tZ) σ)) (va_Qv R (uI D clA (mT tI tZ) A false (mw a tI tZ)) A) 0 0 A := by
  refine Met.ofW (cc := cMo_stampArrives) (maxL := 6) (ret := none) (by decide) rfl ?_
  intro p e s m args below meth c s₁ B hml hv
  obtain ⟨rfl, hP, hK, hD, hA⟩ := hv
  have hx := B.exec
  have hb := B.bytes
  have hr := B.returns
  have hts := atoms_spec (ws := wsMo_stampArrives) B.pre
  have hown : s.vm.findClass RMo = some m.cls := findClass_of_methodNamed B.named
  have hlocks := B.notSynchronized
  have hin0 : ∀ w ∈ u_ws RMo TMo 33, w ∈ wsMo_stampArrives := fun w h => List.mem_cons_of_mem _ (inMo w h)
  have k32 := hts _ (List.mem_cons_of_mem _ wm_744)
  have k35 := hts _ (List.mem_cons_of_mem _ wm_747)
  have k38 := hts _ (List.mem_cons_of_mem _ wm_748)
  have k41 := hts _ (List.mem_cons_of_mem _ wm_749)
  have k44 := hts _ (List.mem_cons_of_mem _ wm_750)
  have hS : va_S A s.heap s.heap [] := va_S.rf
  have cut144 : ∀ (σ : MS) (y1 : Int32) (y2 : Int32) (y3 : Int32) (y4 : Int32) (y5 : Int32) (H : Heap) (locs : List Loc) (ls : Array Slot), wM_stampArrives_144 R σ y1 y2 y3 y4 y5 → va_P D clA (mw a tI tZ σ) H → va_D A (mw a tI tZ σ) → va_S A s.heap H locs → lv_has ls 6 [(0, .ref (a 0)), (1, .int y1), (2, .int y2), (3, .int y3), (4, .int y4), (5, .int y5)] → W p l e (headSpec wsMo_stampArrives rmM_stampArrives).room s m ([.ref (a 0), .int x1, .int x2, .int x3, .int x4] : List Value).toArray below meth c H locs 0 0 (MQ below (va_Qv R (uI D clA (mT tI tZ) A false (mw a tI tZ)) A) ([.ref (a 0), .int x1, .int x2, .int x3, .int x4] : List Value).toArray s 0 0 A) (F0 m 144 ls []) := by
    intro σ y1 y2 y3 y4 y5 H locs ls hwp hP hD hS hl
    refine lv_aload_n hx hb dMo_stampArrives_144 rfl (lv_at hl 0 rfl) ?_
    refine lv_iload_n hx hb dMo_stampArrives_145 rfl (lv_at hl 2 rfl) ?_
    refine lv_iload_n hx hb dMo_stampArrives_146 rfl (lv_at hl 1 rfl) ?_
    refine lv_iconst (v := 0) hx hb dMo_stampArrives_147 (by decide) ?_
    refine lv_iconst (v := 1) hx hb dMo_stampArrives_148 (by decide) ?_
    refine lv_iconst (v := 0) hx hb dMo_stampArrives_149 (by decide) ?_
    obtain ⟨P1, hP1, hwp⟩ := hwp
    refine uCallVv (As := [.int y2, .int y1, .int 0, .int 1, .int 0]) (rest := []) (C := RMo) ⟨hx, hb, hml, hown, hts⟩ (kM_send l D a A tI tZ σ y2 y1 0 1 0 P1 hP1) (cwV 5 hts (gdV wm_858 wm_860 wp_18 wm_13 wm_861) rfl rfl rfl (by decide +kernel) ⟨Nat.le_of_ble_eq_true rfl, Nat.le_of_ble_eq_true rfl⟩) (va_recv (ci := 0) (q0 := 0) hK hP rfl rfl) hP hK hD hA hS rfl hl.1 rfl (Nat.le_of_ble_eq_true rfl) dMo_stampArrives_150 ⟨Nat.le_of_ble_eq_true rfl, Nat.le_of_ble_eq_true rfl⟩ (fun u2 H locs hu2 hP hD hS => ?_)
    have hwp := hwp u2 hu2
    exact W.vret hx hb hr (fun t ht hW => ⟨⟨u2, rfl, hwp, uEnd ht hW hP hK hD hS hA⟩, hS.F ht⟩) hS.2.2 dMo_stampArrives_153
  have cut129 : ∀ (σ : MS) (y1 : Int32) (y2 : Int32) (y3 : Int32) (y4 : Int32) (y5 : Int32) (H : Heap) (locs : List Loc) (ls : Array Slot), wM_stampArrives_129 R σ y1 y2 y3 y4 y5 → va_P D clA (mw a tI tZ σ) H → va_D A (mw a tI tZ σ) → va_S A s.heap H locs → lv_has ls 6 [(0, .ref (a 0)), (1, .int y1), (2, .int y2), (3, .int y3), (4, .int y4), (5, .int y5)] → W p l e (headSpec wsMo_stampArrives rmM_stampArrives).room s m ([.ref (a 0), .int x1, .int x2, .int x3, .int x4] : List Value).toArray below meth c H locs 0 0 (MQ below (va_Qv R (uI D clA (mT tI tZ) A false (mw a tI tZ)) A) ([.ref (a 0), .int x1, .int x2, .int x3, .int x4] : List Value).toArray s 0 0 A) (F0 m 129 ls []) := by
    intro σ y1 y2 y3 y4 y5 H locs ls hwp hP hD hS hl
    refine lv_aload_n hx hb dMo_stampArrives_129 rfl (lv_at hl 0 rfl) ?_
    refine va_get (D := D) (ci := 0) (C := RMo) (T := TMo) (N := 33) hx hb hts hin0 hown hK hP 0 rfl rfl 14 (by decide) k44 (fun _ h9 => h9) rfl dMo_stampArrives_130 ?_
    refine lv_iload_n hx hb dMo_stampArrives_133 rfl (lv_at hl 2 rfl) ?_
    refine lv_dup2_11 hx hb dMo_stampArrives_134 rfl rfl ?_
    obtain ⟨hi3, hwp⟩ := hwp
    refine va_iald hx hb hK hP 11 0 rfl rfl hi3 dMo_stampArrives_135 ?_
    refine lv_iconst (v := 1) hx hb dMo_stampArrives_136 (by decide) ?_
    refine lv_iload_n hx hb dMo_stampArrives_137 rfl (lv_at hl 1 rfl) ?_
    refine lv_ishl hx hb dMo_stampArrives_138 ?_
    refine lv_ior hx hb dMo_stampArrives_139 ?_
    obtain ⟨hi4, hwp⟩ := hwp
    refine va_iast hx hb hK hP hD hS 11 0 rfl rfl hi4 dMo_stampArrives_140 (fun H locs hP hD hS => ?_)
    obtain ⟨σ5, eσ5⟩ : ∃ z, z = up2 σ 14 y2.toNatClampNeg ((σ 14 y2.toNatClampNeg) ||| (1 <<< (y1 &&& 31))) := ⟨_, rfl⟩
    have hwp := hwp σ5 eσ5
    have hP : va_P D clA (mw a tI tZ σ5) H := by rw [eσ5]; exact hP
    have hD : va_D A (mw a tI tZ σ5) := by rw [eσ5]; exact hD
    refine lv_goto hx hb dMo_stampArrives_141 rfl ?_
    exact W.vret hx hb hr (fun t ht hW => ⟨⟨σ5, rfl, hwp, uEnd ht hW hP hK hD hS hA⟩, hS.F ht⟩) hS.2.2 dMo_stampArrives_153
  have cut102 : ∀ (σ : MS) (y1 : Int32) (y2 : Int32) (y3 : Int32) (y4 : Int32) (z0 : Int32) (H : Heap) (locs : List Loc) (ls : Array Slot), wM_stampArrives_102 R σ y1 y2 y3 y4 z0 → va_P D clA (mw a tI tZ σ) H → va_D A (mw a tI tZ σ) → va_S A s.heap H locs → lv_has ls 6 [(0, .ref (a 0)), (1, .int y1), (2, .int y2), (3, .int y3), (4, .int y4)] → W p l e (headSpec wsMo_stampArrives rmM_stampArrives).room s m ([.ref (a 0), .int x1, .int x2, .int x3, .int x4] : List Value).toArray below meth c H locs 0 0 (MQ below (va_Qv R (uI D clA (mT tI tZ) A false (mw a tI tZ)) A) ([.ref (a 0), .int x1, .int x2, .int x3, .int x4] : List Value).toArray s 0 0 A) (F0 m 102 ls [.int z0]) := by
    intro σ y1 y2 y3 y4 z0 H locs ls hwp hP hD hS hl
    refine lv_istore hx hb dMo_stampArrives_102 hl (by decide) rfl (fun ls hl => ?_)
    have hl : lv_has ls 6 [(5, .int z0), (0, .ref (a 0)), (1, .int y1), (2, .int y2), (3, .int y3), (4, .int y4)] := hl
    refine lv_aload_n hx hb dMo_stampArrives_104 rfl (lv_at hl 1 rfl) ?_
    refine va_get (D := D) (ci := 0) (C := RMo) (T := TMo) (N := 33) hx hb hts hin0 hown hK hP 0 rfl rfl 8 (by decide) k32 (fun _ h9 => h9) rfl dMo_stampArrives_105 ?_
    refine lv_iload_n hx hb dMo_stampArrives_108 rfl (lv_at hl 3 rfl) ?_
    obtain ⟨hi6, hwp⟩ := hwp
    refine va_iald hx hb hK hP 7 0 rfl rfl hi6 dMo_stampArrives_109 ?_
    refine lv_iconst (v := 2) hx hb dMo_stampArrives_110 (by decide) ?_
    refine lv_icmp_eq hx hb dMo_stampArrives_111 rfl (fun h7 => ?_) (fun h7 => ?_)
    · have hwp := hwp.1 h7
      exact cut129 σ y1 y2 y3 y4 z0 _ _ _ hwp hP hD hS (lv_sub hl [1, 2, 3, 4, 5, 0] rfl)
    · have hwp := hwp.2 h7
      refine lv_aload_n hx hb dMo_stampArrives_114 rfl (lv_at hl 1 rfl) ?_
      refine va_get (D := D) (ci := 0) (C := RMo) (T := TMo) (N := 33) hx hb hts hin0 hown hK hP 0 rfl rfl 8 (by decide) k32 (fun _ h9 => h9) rfl dMo_stampArrives_115 ?_
      refine lv_iload_n hx hb dMo_stampArrives_118 rfl (lv_at hl 3 rfl) ?_
      obtain ⟨hi8, hwp⟩ := hwp
      refine va_iald hx hb hK hP 7 0 rfl rfl hi8 dMo_stampArrives_119 ?_
      refine lv_iconst (v := 1) hx hb dMo_stampArrives_120 (by decide) ?_
      refine lv_icmp_ne hx hb dMo_stampArrives_121 rfl (fun h9 => ?_) (fun h9 => ?_)
      · have hwp := hwp.1 h9
        exact cut144 σ y1 y2 y3 y4 z0 _ _ _ hwp hP hD hS (lv_sub hl [1, 2, 3, 4, 5, 0] rfl)
      · have hwp := hwp.2 h9
        refine lv_iload hx hb dMo_stampArrives_124 (lv_at hl 0 rfl) ?_
        refine lv_if_eq hx hb dMo_stampArrives_126 rfl (fun h10 => ?_) (fun h10 => ?_)
        · have hwp := hwp.1 h10
          exact cut144 σ y1 y2 y3 y4 z0 _ _ _ hwp hP hD hS (lv_sub hl [1, 2, 3, 4, 5, 0] rfl)
        · have hwp := hwp.2 h10
          exact cut129 σ y1 y2 y3 y4 z0 _ _ _ hwp hP hD hS (lv_sub hl [1, 2, 3, 4, 5, 0] rfl)
  have cut101 : ∀ (σ : MS) (y1 : Int32) (y2 : Int32) (y3 : Int32) (y4 : Int32) (H : Heap) (locs : List Loc) (ls : Array Slot), wM_stampArrives_101 R σ y1 y2 y3 y4 → va_P D clA (mw a tI tZ σ) H → va_D A (mw a tI tZ σ) → va_S A s.heap H locs → lv_has ls 6 [(0, .ref (a 0)), (1, .int y1), (2, .int y2), (3, .int y3), (4, .int y4)] → W p l e (headSpec wsMo_stampArrives rmM_stampArrives).room s m ([.ref (a 0), .int x1, .int x2, .int x3, .int x4] : List Value).toArray below meth c H locs 0 0 (MQ below (va_Qv R (uI D clA (mT tI tZ) A false (mw a tI tZ)) A) ([.ref (a 0), .int x1, .int x2, .int x3, .int x4] : List Value).toArray s 0 0 A) (F0 m 101 ls []) := by
    intro σ y1 y2 y3 y4 H locs ls hwp hP hD hS hl
    refine lv_iconst (v := 0) hx hb dMo_stampArrives_101 (by decide) ?_
    exact cut102 σ y1 y2 y3 y4 0 _ _ _ hwp hP hD hS (lv_sub hl [0, 1, 2, 3, 4] rfl)
  have cut97 : ∀ (σ : MS) (y1 : Int32) (y2 : Int32) (y3 : Int32) (y4 : Int32) (H : Heap) (locs : List Loc) (ls : Array Slot), wM_stampArrives_97 R σ y1 y2 y3 y4 → va_P D clA (mw a tI tZ σ) H → va_D A (mw a tI tZ σ) → va_S A s.heap H locs → lv_has ls 6 [(0, .ref (a 0)), (1, .int y1), (2, .int y2), (3, .int y3), (4, .int y4)] → W p l e (headSpec wsMo_stampArrives rmM_stampArrives).room s m ([.ref (a 0), .int x1, .int x2, .int x3, .int x4] : List Value).toArray below meth c H locs 0 0 (MQ below (va_Qv R (uI D clA (mT tI tZ) A false (mw a tI tZ)) A) ([.ref (a 0), .int x1, .int x2, .int x3, .int x4] : List Value).toArray s 0 0 A) (F0 m 97 ls []) := by
    intro σ y1 y2 y3 y4 H locs ls hwp hP hD hS hl
    refine lv_iconst (v := 1) hx hb dMo_stampArrives_97 (by decide) ?_
    refine lv_goto hx hb dMo_stampArrives_98 rfl ?_
    exact cut102 σ y1 y2 y3 y4 1 _ _ _ hwp hP hD hS (lv_sub hl [0, 1, 2, 3, 4] rfl)
  have cut69 : ∀ (σ : MS) (y1 : Int32) (y2 : Int32) (y3 : Int32) (y4 : Int32) (z1 : Int32) (z2 : Int32) (H : Heap) (locs : List Loc) (ls : Array Slot), wM_stampArrives_69 R σ y1 y2 y3 y4 z1 z2 → va_P D clA (mw a tI tZ σ) H → va_D A (mw a tI tZ σ) → va_S A s.heap H locs → lv_has ls 6 [(0, .ref (a 0)), (1, .int y1), (2, .int y2), (3, .int y3), (4, .int y4)] → W p l e (headSpec wsMo_stampArrives rmM_stampArrives).room s m ([.ref (a 0), .int x1, .int x2, .int x3, .int x4] : List Value).toArray below meth c H locs 0 0 (MQ below (va_Qv R (uI D clA (mT tI tZ) A false (mw a tI tZ)) A) ([.ref (a 0), .int x1, .int x2, .int x3, .int x4] : List Value).toArray s 0 0 A) (F0 m 69 ls [.int z2, .int z1, .ref (a 8)]) := by
    intro σ y1 y2 y3 y4 z1 z2 H locs ls hwp hP hD hS hl
    obtain ⟨hi11, hwp⟩ := hwp
    refine va_iast hx hb hK hP hD hS 8 0 rfl rfl hi11 dMo_stampArrives_69 (fun H locs hP hD hS => ?_)
    obtain ⟨σ12, eσ12⟩ : ∃ z, z = up2 σ 11 z1.toNatClampNeg z2 := ⟨_, rfl⟩
    have hwp := hwp σ12 eσ12
    have hP : va_P D clA (mw a tI tZ σ12) H := by rw [eσ12]; exact hP
    have hD : va_D A (mw a tI tZ σ12) := by rw [eσ12]; exact hD
    refine lv_aload_n hx hb dMo_stampArrives_70 rfl (lv_at hl 0 rfl) ?_
    refine va_get (D := D) (ci := 0) (C := RMo) (T := TMo) (N := 33) hx hb hts hin0 hown hK hP 0 rfl rfl 12 (by decide) k38 (fun _ h9 => h9) rfl dMo_stampArrives_71 ?_
    refine lv_iload_n hx hb dMo_stampArrives_74 rfl (lv_at hl 2 rfl) ?_
    obtain ⟨hi13, hwp⟩ := hwp
    refine va_iald hx hb hK hP 9 0 rfl rfl hi13 dMo_stampArrives_75 ?_
    refine lv_iload hx hb dMo_stampArrives_76 (lv_at hl 4 rfl) ?_
    refine lv_icmp_lt hx hb dMo_stampArrives_78 rfl (fun h14 => ?_) (fun h14 => ?_)
    · have hwp := hwp.1 h14
      exact cut97 σ12 y1 y2 y3 y4 _ _ _ hwp hP hD hS (lv_sub hl [0, 1, 2, 3, 4] rfl)
    · have hwp := hwp.2 h14
      refine lv_aload_n hx hb dMo_stampArrives_81 rfl (lv_at hl 0 rfl) ?_
      refine va_get (D := D) (ci := 0) (C := RMo) (T := TMo) (N := 33) hx hb hts hin0 hown hK hP 0 rfl rfl 12 (by decide) k38 (fun _ h9 => h9) rfl dMo_stampArrives_82 ?_
      refine lv_iload_n hx hb dMo_stampArrives_85 rfl (lv_at hl 2 rfl) ?_
      obtain ⟨hi15, hwp⟩ := hwp
      refine va_iald hx hb hK hP 9 0 rfl rfl hi15 dMo_stampArrives_86 ?_
      refine lv_iload hx hb dMo_stampArrives_87 (lv_at hl 4 rfl) ?_
      refine lv_icmp_ne hx hb dMo_stampArrives_89 rfl (fun h16 => ?_) (fun h16 => ?_)
      · have hwp := hwp.1 h16
        exact cut101 σ12 y1 y2 y3 y4 _ _ _ hwp hP hD hS (lv_sub hl [0, 1, 2, 3, 4] rfl)
      · have hwp := hwp.2 h16
        refine lv_iload_n hx hb dMo_stampArrives_92 rfl (lv_at hl 2 rfl) ?_
        refine lv_iload_n hx hb dMo_stampArrives_93 rfl (lv_at hl 1 rfl) ?_
        refine lv_icmp_ge hx hb dMo_stampArrives_94 rfl (fun h17 => ?_) (fun h17 => ?_)
        · have hwp := hwp.1 h17
          exact cut101 σ12 y1 y2 y3 y4 _ _ _ hwp hP hD hS (lv_sub hl [0, 1, 2, 3, 4] rfl)
        · have hwp := hwp.2 h17
          exact cut97 σ12 y1 y2 y3 y4 _ _ _ hwp hP hD hS (lv_sub hl [0, 1, 2, 3, 4] rfl)
  have hl := lv_entry ([.ref (a 0), .int x1, .int x2, .int x3, .int x4]) (n := 6) (Nat.le_of_ble_eq_true rfl)
  rw [lg_entry_eq]
  generalize (lg_sl ([.ref (a 0), .int x1, .int x2, .int x3, .int x4]) ++ List.replicate (6 - (lg_sl ([.ref (a 0), .int x1, .int x2, .int x3, .int x4])).length) Slot.unset).toArray = ls at hl ⊢
  have hl : lv_has ls 6 [(0, .ref (a 0)), (1, .int x1), (2, .int x2), (3, .int x3), (4, .int x4)] := hl
  refine lv_iload_n hx hb dMo_stampArrives_0 rfl (lv_at hl 3 rfl) ?_
  refine lv_iconst (v := 1) hx hb dMo_stampArrives_1 (by decide) ?_
  refine lv_icmp_ne hx hb dMo_stampArrives_2 rfl (fun h18 => ?_) (fun h18 => ?_)
  · have hwp := hwp.1 h18
    refine lv_aload_n hx hb dMo_stampArrives_42 rfl (lv_at hl 0 rfl) ?_
    refine va_get (D := D) (ci := 0) (C := RMo) (T := TMo) (N := 33) hx hb hts hin0 hown hK hP 0 rfl rfl 11 (by decide) k35 (fun _ h9 => h9) rfl dMo_stampArrives_43 ?_
    refine lv_iload_n hx hb dMo_stampArrives_46 rfl (lv_at hl 2 rfl) ?_
    refine lv_iload hx hb dMo_stampArrives_47 (lv_at hl 4 rfl) ?_
    refine lv_aload_n hx hb dMo_stampArrives_49 rfl (lv_at hl 0 rfl) ?_
    refine va_get (D := D) (ci := 0) (C := RMo) (T := TMo) (N := 33) hx hb hts hin0 hown hK hP 0 rfl rfl 11 (by decide) k35 (fun _ h9 => h9) rfl dMo_stampArrives_50 ?_
    refine lv_iload_n hx hb dMo_stampArrives_53 rfl (lv_at hl 2 rfl) ?_
    obtain ⟨hi19, hwp⟩ := hwp
    refine va_iald hx hb hK hP 8 0 rfl rfl hi19 dMo_stampArrives_54 ?_
    refine lv_icmp_le hx hb dMo_stampArrives_55 rfl (fun h20 => ?_) (fun h20 => ?_)
    · have hwp := hwp.1 h20
      refine lv_aload_n hx hb dMo_stampArrives_63 rfl (lv_at hl 0 rfl) ?_
      refine va_get (D := D) (ci := 0) (C := RMo) (T := TMo) (N := 33) hx hb hts hin0 hown hK hP 0 rfl rfl 11 (by decide) k35 (fun _ h9 => h9) rfl dMo_stampArrives_64 ?_
      refine lv_iload_n hx hb dMo_stampArrives_67 rfl (lv_at hl 2 rfl) ?_
      obtain ⟨hi21, hwp⟩ := hwp
      refine va_iald hx hb hK hP 8 0 rfl rfl hi21 dMo_stampArrives_68 ?_
      exact cut69 σ x1 x2 x3 x4 x2 (σ 11 x2.toNatClampNeg) _ _ _ hwp hP hD hS (lv_sub hl [0, 1, 2, 3, 4] rfl)
    · have hwp := hwp.2 h20
      refine lv_iload hx hb dMo_stampArrives_58 (lv_at hl 4 rfl) ?_
      refine lv_goto hx hb dMo_stampArrives_60 rfl ?_
      exact cut69 σ x1 x2 x3 x4 x2 x4 _ _ _ hwp hP hD hS (lv_sub hl [0, 1, 2, 3, 4] rfl)
  · have hwp := hwp.2 h18
    refine lv_aload_n hx hb dMo_stampArrives_5 rfl (lv_at hl 0 rfl) ?_
    refine va_get (D := D) (ci := 0) (C := RMo) (T := TMo) (N := 33) hx hb hts hin0 hown hK hP 0 rfl rfl 13 (by decide) k41 (fun _ h9 => h9) rfl dMo_stampArrives_6 ?_
    refine lv_iload_n hx hb dMo_stampArrives_9 rfl (lv_at hl 2 rfl) ?_
    refine lv_dup2_11 hx hb dMo_stampArrives_10 rfl rfl ?_
    obtain ⟨hi22, hwp⟩ := hwp
    refine va_iald hx hb hK hP 10 0 rfl rfl hi22 dMo_stampArrives_11 ?_
    refine lv_iconst (v := 1) hx hb dMo_stampArrives_12 (by decide) ?_
    refine lv_iadd hx hb dMo_stampArrives_13 ?_
    obtain ⟨hi23, hwp⟩ := hwp
    refine va_iast hx hb hK hP hD hS 10 0 rfl rfl hi23 dMo_stampArrives_14 (fun H locs hP hD hS => ?_)
    obtain ⟨σ24, eσ24⟩ : ∃ z, z = up2 σ 13 x2.toNatClampNeg ((σ 13 x2.toNatClampNeg) + 1) := ⟨_, rfl⟩
    have hwp := hwp σ24 eσ24
    have hP : va_P D clA (mw a tI tZ σ24) H := by rw [eσ24]; exact hP
    have hD : va_D A (mw a tI tZ σ24) := by rw [eσ24]; exact hD
    refine lv_aload_n hx hb dMo_stampArrives_15 rfl (lv_at hl 0 rfl) ?_
    refine va_get (D := D) (ci := 0) (C := RMo) (T := TMo) (N := 33) hx hb hts hin0 hown hK hP 0 rfl rfl 13 (by decide) k41 (fun _ h9 => h9) rfl dMo_stampArrives_16 ?_
    refine lv_iload_n hx hb dMo_stampArrives_19 rfl (lv_at hl 2 rfl) ?_
    obtain ⟨hi25, hwp⟩ := hwp
    refine va_iald hx hb hK hP 10 0 rfl rfl hi25 dMo_stampArrives_20 ?_
    refine lv_iconst (v := 3) hx hb dMo_stampArrives_21 (by decide) ?_
    refine lv_icmp_ne hx hb dMo_stampArrives_22 rfl (fun h26 => ?_) (fun h26 => ?_)
    · have hwp := hwp.1 h26
      exact W.vret hx hb hr (fun t ht hW => ⟨⟨σ24, rfl, hwp, uEnd ht hW hP hK hD hS hA⟩, hS.F ht⟩) hS.2.2 dMo_stampArrives_41
    · have hwp := hwp.2 h26
      refine lv_aload_n hx hb dMo_stampArrives_25 rfl (lv_at hl 0 rfl) ?_
      refine va_get (D := D) (ci := 0) (C := RMo) (T := TMo) (N := 33) hx hb hts hin0 hown hK hP 0 rfl rfl 8 (by decide) k32 (fun _ h9 => h9) rfl dMo_stampArrives_26 ?_
      refine lv_iload_n hx hb dMo_stampArrives_29 rfl (lv_at hl 2 rfl) ?_
      obtain ⟨hi27, hwp⟩ := hwp
      refine va_iald hx hb hK hP 7 0 rfl rfl hi27 dMo_stampArrives_30 ?_
      refine lv_iconst (v := 1) hx hb dMo_stampArrives_31 (by decide) ?_
      refine lv_icmp_ne hx hb dMo_stampArrives_32 rfl (fun h28 => ?_) (fun h28 => ?_)
      · have hwp := hwp.1 h28
        exact W.vret hx hb hr (fun t ht hW => ⟨⟨σ24, rfl, hwp, uEnd ht hW hP hK hD hS hA⟩, hS.F ht⟩) hS.2.2 dMo_stampArrives_41
      · have hwp := hwp.2 h28
        refine lv_aload_n hx hb dMo_stampArrives_35 rfl (lv_at hl 0 rfl) ?_
        refine lv_iconst (v := 0) hx hb dMo_stampArrives_36 (by decide) ?_
        refine lv_iload_n hx hb dMo_stampArrives_37 rfl (lv_at hl 2 rfl) ?_
        obtain ⟨P29, hP29, hwp⟩ := hwp
        refine uCallVv (As := [.int 0, .int x2]) (rest := []) (C := RMo) ⟨hx, hb, hml, hown, hts⟩ (kM_comeIn l D a A tI tZ σ24 0 x2 P29 hP29) (cwV 2 hts (gdV wm_854 wm_856 wp_17 wm_13 wm_857) rfl rfl rfl (by decide +kernel) ⟨Nat.le_of_ble_eq_true rfl, Nat.le_of_ble_eq_true rfl⟩) (va_recv (ci := 0) (q0 := 0) hK hP rfl rfl) hP hK hD hA hS rfl hl.1 rfl (Nat.le_of_ble_eq_true rfl) dMo_stampArrives_38 ⟨Nat.le_of_ble_eq_true rfl, Nat.le_of_ble_eq_true rfl⟩ (fun u30 H locs hu30 hP hD hS => ?_)
        have hwp := hwp u30 hu30
        exact W.vret hx hb hr (fun t ht hW => ⟨⟨u30, rfl, hwp, uEnd ht hW hP hK hD hS hA⟩, hS.F ht⟩) hS.2.2 dMo_stampArrives_41
-- private void tokenArrives(int, int, int, int)
def wM_tokenArrives_56 (R : MS → Prop) (σ : MS) (y1 : Int32) (y2 : Int32) (y3 : Int32) (y4 : Int32) (z1 : Int32) (z2 : Int32) : Prop :=
  (vp_in z1 16 ∧ (∀ σ2 : MS, σ2 = up2 σ 15 z1.toNatClampNeg z2 → (((¬ (σ2 17 0) = y2) → R σ2) ∧ (((σ2 17 0) = y2) → (vp_in (4 + y2) 12 ∧ (((¬ (σ2 8 (4 + y2).toNatClampNeg) = 0) → R σ2) ∧ (((σ2 8 (4 + y2).toNatClampNeg) = 0) → (∃ P6 : Int32 → MS → Prop, wM_isDue P6 σ2 y2 y1 ∧ (∀ (r8 : Int32) (u7 : MS), P6 r8 u7 → (((r8 = 0) → R u7) ∧ ((¬ r8 = 0) → (∀ σ10 : MS, σ10 = up2 u7 17 0 (-1) → (∃ P11 : MS → Prop, wM_send P11 σ10 y2 y1 1 1 0 ∧ (∀ (u12 : MS), P11 u12 → R u12))))))))))))))
def wM_tokenArrives (R : MS → Prop) (σ : MS) (x1 x2 x3 x4 : Int32) : Prop :=
  (((¬ x3 = 1) → (vp_in ((4 * x2) + x1) 16 ∧ (((x4 ≤ (σ 15 ((4 * x2) + x1).toNatClampNeg)) → (vp_in ((4 * x2) + x1) 16 ∧ wM_tokenArrives_56 R σ x1 x2 x3 x4 ((4 * x2) + x1) (σ 15 ((4 * x2) + x1).toNatClampNeg))) ∧ ((¬ x4 ≤ (σ 15 ((4 * x2) + x1).toNatClampNeg)) → wM_tokenArrives_56 R σ x1 x2 x3 x4 ((4 * x2) + x1) x4)))) ∧ ((x3 = 1) → (∀ σ17 : MS, σ17 = up2 σ 17 0 x2 → (∃ P18 : MS → Prop, wM_comeIn P18 σ17 1 x2 ∧ (∀ (u19 : MS), P18 u19 → R u19)))))
abbrev wsMo_tokenArrives : List Cond := .code yMo_tokenArrives cMo_tokenArrives 5 none :: wg
abbrev rmM_tokenArrives : Room := { frames := 1, cells := 0, slots := 0, locals := 27 }
set_option maxHeartbeats 4000000 in
set_option maxRecDepth 100000 in
theorem kM_tokenArrives (l : Launch) (D : va_G) (a : Nat → Nat) (A : Nat → Prop) (tI tZ : ClassId) (σ : MS) (x1 x2 x3 x4 : Int32) (R : MS → Prop) (hwp : wM_tokenArrives R σ x1 x2 x3 x4) : Met l yMo_tokenArrives wsMo_tokenArrives rmM_tokenArrives (va_Pc [.ref (a 0), .int x1, .int x2, .int x3, .int x4] (uI D clA (mT tI tZ) A false (mw a tI tZ) σ)) (va_Qv R (uI D clA (mT tI tZ) A false (mw a tI tZ)) A) 0 0 A := by
  refine Met.ofW (cc := cMo_tokenArrives) (maxL := 5) (ret := none) (by decide) rfl ?_
  intro p e s m args below meth c s₁ B hml hv
  obtain ⟨rfl, hP, hK, hD, hA⟩ := hv
  have hx := B.exec
  have hb := B.bytes
  have hr := B.returns
  have hts := atoms_spec (ws := wsMo_tokenArrives) B.pre
  have hown : s.vm.findClass RMo = some m.cls := findClass_of_methodNamed B.named
  have hlocks := B.notSynchronized
  have hin0 : ∀ w ∈ u_ws RMo TMo 33, w ∈ wsMo_tokenArrives := fun w h => List.mem_cons_of_mem _ (inMo w h)
  have k134 := hts _ (List.mem_cons_of_mem _ wm_753)
  have k32 := hts _ (List.mem_cons_of_mem _ wm_744)
  have k47 := hts _ (List.mem_cons_of_mem _ wm_751)
  have hS : va_S A s.heap s.heap [] := va_S.rf
  have cut56 : ∀ (σ : MS) (y1 : Int32) (y2 : Int32) (y3 : Int32) (y4 : Int32) (z1 : Int32) (z2 : Int32) (H : Heap) (locs : List Loc) (ls : Array Slot), wM_tokenArrives_56 R σ y1 y2 y3 y4 z1 z2 → va_P D clA (mw a tI tZ σ) H → va_D A (mw a tI tZ σ) → va_S A s.heap H locs → lv_has ls 5 [(0, .ref (a 0)), (1, .int y1), (2, .int y2), (3, .int y3), (4, .int y4)] → W p l e (headSpec wsMo_tokenArrives rmM_tokenArrives).room s m ([.ref (a 0), .int x1, .int x2, .int x3, .int x4] : List Value).toArray below meth c H locs 0 0 (MQ below (va_Qv R (uI D clA (mT tI tZ) A false (mw a tI tZ)) A) ([.ref (a 0), .int x1, .int x2, .int x3, .int x4] : List Value).toArray s 0 0 A) (F0 m 56 ls [.int z2, .int z1, .ref (a 12)]) := by
    intro σ y1 y2 y3 y4 z1 z2 H locs ls hwp hP hD hS hl
    obtain ⟨hi1, hwp⟩ := hwp
    refine va_iast hx hb hK hP hD hS 12 0 rfl rfl hi1 dMo_tokenArrives_56 (fun H locs hP hD hS => ?_)
    obtain ⟨σ2, eσ2⟩ : ∃ z, z = up2 σ 15 z1.toNatClampNeg z2 := ⟨_, rfl⟩
    have hwp := hwp σ2 eσ2
    have hP : va_P D clA (mw a tI tZ σ2) H := by rw [eσ2]; exact hP
    have hD : va_D A (mw a tI tZ σ2) := by rw [eσ2]; exact hD
    refine lv_aload_n hx hb dMo_tokenArrives_57 rfl (lv_at hl 0 rfl) ?_
    refine va_get (D := D) (ci := 0) (C := RMo) (T := TMo) (N := 33) hx hb hts hin0 hown hK hP 0 rfl rfl 17 (by decide) k134 (fun _ h9 => h9) rfl dMo_tokenArrives_58 ?_
    refine lv_iload_n hx hb dMo_tokenArrives_61 rfl (lv_at hl 2 rfl) ?_
    refine lv_icmp_ne hx hb dMo_tokenArrives_62 rfl (fun h3 => ?_) (fun h3 => ?_)
    · have hwp := hwp.1 h3
      exact W.vret hx hb hr (fun t ht hW => ⟨⟨σ2, rfl, hwp, uEnd ht hW hP hK hD hS hA⟩, hS.F ht⟩) hS.2.2 dMo_tokenArrives_99
    · have hwp := hwp.2 h3
      refine lv_aload_n hx hb dMo_tokenArrives_65 rfl (lv_at hl 0 rfl) ?_
      refine va_get (D := D) (ci := 0) (C := RMo) (T := TMo) (N := 33) hx hb hts hin0 hown hK hP 0 rfl rfl 8 (by decide) k32 (fun _ h9 => h9) rfl dMo_tokenArrives_66 ?_
      refine lv_iconst (v := 4) hx hb dMo_tokenArrives_69 (by decide) ?_
      refine lv_iload_n hx hb dMo_tokenArrives_70 rfl (lv_at hl 2 rfl) ?_
      refine lv_iadd hx hb dMo_tokenArrives_71 ?_
      obtain ⟨hi4, hwp⟩ := hwp
      refine va_iald hx hb hK hP 7 0 rfl rfl hi4 dMo_tokenArrives_72 ?_
      refine lv_if_ne hx hb dMo_tokenArrives_73 rfl (fun h5 => ?_) (fun h5 => ?_)
      · have hwp := hwp.1 h5
        exact W.vret hx hb hr (fun t ht hW => ⟨⟨σ2, rfl, hwp, uEnd ht hW hP hK hD hS hA⟩, hS.F ht⟩) hS.2.2 dMo_tokenArrives_99
      · have hwp := hwp.2 h5
        refine lv_aload_n hx hb dMo_tokenArrives_76 rfl (lv_at hl 0 rfl) ?_
        refine lv_iload_n hx hb dMo_tokenArrives_77 rfl (lv_at hl 2 rfl) ?_
        refine lv_iload_n hx hb dMo_tokenArrives_78 rfl (lv_at hl 1 rfl) ?_
        obtain ⟨P6, hP6, hwp⟩ := hwp
        refine uCallVi (As := [.int y2, .int y1]) (rest := []) (C := RMo) ⟨hx, hb, hml, hown, hts⟩ (kM_isDue l D a A tI tZ σ2 y2 y1 P6 hP6) (cwV 2 hts (gdV wm_866 wm_868 wp_20 wm_13 wm_869) rfl rfl rfl (by decide +kernel) ⟨Nat.le_of_ble_eq_true rfl, Nat.le_of_ble_eq_true rfl⟩) (va_recv (ci := 0) (q0 := 0) hK hP rfl rfl) hP hK hD hA hS rfl hl.1 rfl (Nat.le_of_ble_eq_true rfl) dMo_tokenArrives_79 ⟨Nat.le_of_ble_eq_true rfl, Nat.le_of_ble_eq_true rfl⟩ (fun r8 u7 H locs hu7 hP hD hS => ?_)
        have hwp := hwp r8 u7 hu7
        refine lv_if_eq hx hb dMo_tokenArrives_82 rfl (fun h9 => ?_) (fun h9 => ?_)
        · have hwp := hwp.1 h9
          exact W.vret hx hb hr (fun t ht hW => ⟨⟨u7, rfl, hwp, uEnd ht hW hP hK hD hS hA⟩, hS.F ht⟩) hS.2.2 dMo_tokenArrives_99
        · have hwp := hwp.2 h9
          refine lv_aload_n hx hb dMo_tokenArrives_85 rfl (lv_at hl 0 rfl) ?_
          refine lv_iconst (v := (-1)) hx hb dMo_tokenArrives_86 (by decide) ?_
          refine va_put (ty := .int) (D := D) (ci := 0) (C := RMo) (T := TMo) (N := 33) hx hb hts hin0 tyMo tyMo_ok nmMo hown hK hP hD hS 0 rfl rfl 17 (by decide) k134 (fun _ h9 => h9) rfl (by decide +kernel) rfl rfl (Nat.le_of_ble_eq_true rfl) dMo_tokenArrives_87 (fun H locs hP hD hS => ?_)
          obtain ⟨σ10, eσ10⟩ : ∃ z, z = up2 u7 17 0 (-1) := ⟨_, rfl⟩
          have hwp := hwp σ10 eσ10
          have hP : va_P D clA (mw a tI tZ σ10) H := by rw [eσ10]; exact hP
          have hD : va_D A (mw a tI tZ σ10) := by rw [eσ10]; exact hD
          refine lv_aload_n hx hb dMo_tokenArrives_90 rfl (lv_at hl 0 rfl) ?_
          refine lv_iload_n hx hb dMo_tokenArrives_91 rfl (lv_at hl 2 rfl) ?_
          refine lv_iload_n hx hb dMo_tokenArrives_92 rfl (lv_at hl 1 rfl) ?_
          refine lv_iconst (v := 1) hx hb dMo_tokenArrives_93 (by decide) ?_
          refine lv_iconst (v := 1) hx hb dMo_tokenArrives_94 (by decide) ?_
          refine lv_iconst (v := 0) hx hb dMo_tokenArrives_95 (by decide) ?_
          obtain ⟨P11, hP11, hwp⟩ := hwp
          refine uCallVv (As := [.int y2, .int y1, .int 1, .int 1, .int 0]) (rest := []) (C := RMo) ⟨hx, hb, hml, hown, hts⟩ (kM_send l D a A tI tZ σ10 y2 y1 1 1 0 P11 hP11) (cwV 5 hts (gdV wm_858 wm_860 wp_18 wm_13 wm_861) rfl rfl rfl (by decide +kernel) ⟨Nat.le_of_ble_eq_true rfl, Nat.le_of_ble_eq_true rfl⟩) (va_recv (ci := 0) (q0 := 0) hK hP rfl rfl) hP hK hD hA hS rfl hl.1 rfl (Nat.le_of_ble_eq_true rfl) dMo_tokenArrives_96 ⟨Nat.le_of_ble_eq_true rfl, Nat.le_of_ble_eq_true rfl⟩ (fun u12 H locs hu12 hP hD hS => ?_)
          have hwp := hwp u12 hu12
          exact W.vret hx hb hr (fun t ht hW => ⟨⟨u12, rfl, hwp, uEnd ht hW hP hK hD hS hA⟩, hS.F ht⟩) hS.2.2 dMo_tokenArrives_99
  have hl := lv_entry ([.ref (a 0), .int x1, .int x2, .int x3, .int x4]) (n := 5) (Nat.le_of_ble_eq_true rfl)
  rw [lg_entry_eq]
  generalize (lg_sl ([.ref (a 0), .int x1, .int x2, .int x3, .int x4]) ++ List.replicate (5 - (lg_sl ([.ref (a 0), .int x1, .int x2, .int x3, .int x4])).length) Slot.unset).toArray = ls at hl ⊢
  have hl : lv_has ls 5 [(0, .ref (a 0)), (1, .int x1), (2, .int x2), (3, .int x3), (4, .int x4)] := hl
  refine lv_iload_n hx hb dMo_tokenArrives_0 rfl (lv_at hl 3 rfl) ?_
  refine lv_iconst (v := 1) hx hb dMo_tokenArrives_1 (by decide) ?_
  refine lv_icmp_ne hx hb dMo_tokenArrives_2 rfl (fun h13 => ?_) (fun h13 => ?_)
  · have hwp := hwp.1 h13
    refine lv_aload_n hx hb dMo_tokenArrives_17 rfl (lv_at hl 0 rfl) ?_
    refine va_get (D := D) (ci := 0) (C := RMo) (T := TMo) (N := 33) hx hb hts hin0 hown hK hP 0 rfl rfl 15 (by decide) k47 (fun _ h9 => h9) rfl dMo_tokenArrives_18 ?_
    refine lv_iconst (v := 4) hx hb dMo_tokenArrives_21 (by decide) ?_
    refine lv_iload_n hx hb dMo_tokenArrives_22 rfl (lv_at hl 2 rfl) ?_
    refine lv_imul hx hb dMo_tokenArrives_23 ?_
    refine lv_iload_n hx hb dMo_tokenArrives_24 rfl (lv_at hl 1 rfl) ?_
    refine lv_iadd hx hb dMo_tokenArrives_25 ?_
    refine lv_iload hx hb dMo_tokenArrives_26 (lv_at hl 4 rfl) ?_
    refine lv_aload_n hx hb dMo_tokenArrives_28 rfl (lv_at hl 0 rfl) ?_
    refine va_get (D := D) (ci := 0) (C := RMo) (T := TMo) (N := 33) hx hb hts hin0 hown hK hP 0 rfl rfl 15 (by decide) k47 (fun _ h9 => h9) rfl dMo_tokenArrives_29 ?_
    refine lv_iconst (v := 4) hx hb dMo_tokenArrives_32 (by decide) ?_
    refine lv_iload_n hx hb dMo_tokenArrives_33 rfl (lv_at hl 2 rfl) ?_
    refine lv_imul hx hb dMo_tokenArrives_34 ?_
    refine lv_iload_n hx hb dMo_tokenArrives_35 rfl (lv_at hl 1 rfl) ?_
    refine lv_iadd hx hb dMo_tokenArrives_36 ?_
    obtain ⟨hi14, hwp⟩ := hwp
    refine va_iald hx hb hK hP 12 0 rfl rfl hi14 dMo_tokenArrives_37 ?_
    refine lv_icmp_le hx hb dMo_tokenArrives_38 rfl (fun h15 => ?_) (fun h15 => ?_)
    · have hwp := hwp.1 h15
      refine lv_aload_n hx hb dMo_tokenArrives_46 rfl (lv_at hl 0 rfl) ?_
      refine va_get (D := D) (ci := 0) (C := RMo) (T := TMo) (N := 33) hx hb hts hin0 hown hK hP 0 rfl rfl 15 (by decide) k47 (fun _ h9 => h9) rfl dMo_tokenArrives_47 ?_
      refine lv_iconst (v := 4) hx hb dMo_tokenArrives_50 (by decide) ?_
      refine lv_iload_n hx hb dMo_tokenArrives_51 rfl (lv_at hl 2 rfl) ?_
      refine lv_imul hx hb dMo_tokenArrives_52 ?_
      refine lv_iload_n hx hb dMo_tokenArrives_53 rfl (lv_at hl 1 rfl) ?_
      refine lv_iadd hx hb dMo_tokenArrives_54 ?_
      obtain ⟨hi16, hwp⟩ := hwp
      refine va_iald hx hb hK hP 12 0 rfl rfl hi16 dMo_tokenArrives_55 ?_
      exact cut56 σ x1 x2 x3 x4 ((4 * x2) + x1) (σ 15 ((4 * x2) + x1).toNatClampNeg) _ _ _ hwp hP hD hS (lv_sub hl [0, 1, 2, 3, 4] rfl)
    · have hwp := hwp.2 h15
      refine lv_iload hx hb dMo_tokenArrives_41 (lv_at hl 4 rfl) ?_
      refine lv_goto hx hb dMo_tokenArrives_43 rfl ?_
      exact cut56 σ x1 x2 x3 x4 ((4 * x2) + x1) x4 _ _ _ hwp hP hD hS (lv_sub hl [0, 1, 2, 3, 4] rfl)
  · have hwp := hwp.2 h13
    refine lv_aload_n hx hb dMo_tokenArrives_5 rfl (lv_at hl 0 rfl) ?_
    refine lv_iload_n hx hb dMo_tokenArrives_6 rfl (lv_at hl 2 rfl) ?_
    refine va_put (ty := .int) (D := D) (ci := 0) (C := RMo) (T := TMo) (N := 33) hx hb hts hin0 tyMo tyMo_ok nmMo hown hK hP hD hS 0 rfl rfl 17 (by decide) k134 (fun _ h9 => h9) rfl (by decide +kernel) rfl rfl (Nat.le_of_ble_eq_true rfl) dMo_tokenArrives_7 (fun H locs hP hD hS => ?_)
    obtain ⟨σ17, eσ17⟩ : ∃ z, z = up2 σ 17 0 x2 := ⟨_, rfl⟩
    have hwp := hwp σ17 eσ17
    have hP : va_P D clA (mw a tI tZ σ17) H := by rw [eσ17]; exact hP
    have hD : va_D A (mw a tI tZ σ17) := by rw [eσ17]; exact hD
    refine lv_aload_n hx hb dMo_tokenArrives_10 rfl (lv_at hl 0 rfl) ?_
    refine lv_iconst (v := 1) hx hb dMo_tokenArrives_11 (by decide) ?_
    refine lv_iload_n hx hb dMo_tokenArrives_12 rfl (lv_at hl 2 rfl) ?_
    obtain ⟨P18, hP18, hwp⟩ := hwp
    refine uCallVv (As := [.int 1, .int x2]) (rest := []) (C := RMo) ⟨hx, hb, hml, hown, hts⟩ (kM_comeIn l D a A tI tZ σ17 1 x2 P18 hP18) (cwV 2 hts (gdV wm_854 wm_856 wp_17 wm_13 wm_857) rfl rfl rfl (by decide +kernel) ⟨Nat.le_of_ble_eq_true rfl, Nat.le_of_ble_eq_true rfl⟩) (va_recv (ci := 0) (q0 := 0) hK hP rfl rfl) hP hK hD hA hS rfl hl.1 rfl (Nat.le_of_ble_eq_true rfl) dMo_tokenArrives_13 ⟨Nat.le_of_ble_eq_true rfl, Nat.le_of_ble_eq_true rfl⟩ (fun u19 H locs hu19 hP hD hS => ?_)
    have hwp := hwp u19 hu19
    exact W.vret hx hb hr (fun t ht hW => ⟨⟨u19, rfl, hwp, uEnd ht hW hP hK hD hS hA⟩, hS.F ht⟩) hS.2.2 dMo_tokenArrives_16
-- private void treeArrives(int, int, int)
def wM_treeArrives_20 (R : MS → Prop) (σ : MS) (y1 : Int32) (y2 : Int32) (y3 : Int32) : Prop :=
  (∃ P1 : MS → Prop, wM_goOn P1 σ y2 ∧ (∀ (u2 : MS), P1 u2 → R u2))
def wM_treeArrives (R : MS → Prop) (σ : MS) (x1 x2 x3 : Int32) : Prop :=
  (((¬ x3 = 0) → (vp_in x2 4 ∧ (∀ σ5 : MS, σ5 = up2 σ 20 x2.toNatClampNeg x2 → wM_treeArrives_20 R σ5 x1 x2 x3))) ∧ ((x3 = 0) → (∃ P6 : MS → Prop, wM_enqueue P6 σ x2 x1 ∧ (∀ (u7 : MS), P6 u7 → wM_treeArrives_20 R u7 x1 x2 x3))))
abbrev wsMo_treeArrives : List Cond := .code yMo_treeArrives cMo_treeArrives 4 none :: wg
abbrev rmM_treeArrives : Room := { frames := 2, cells := 0, slots := 0, locals := 49 }
set_option maxHeartbeats 4000000 in
set_option maxRecDepth 100000 in
theorem kM_treeArrives (l : Launch) (D : va_G) (a : Nat → Nat) (A : Nat → Prop) (tI tZ : ClassId) (σ : MS) (x1 x2 x3 : Int32) (R : MS → Prop) (hwp : wM_treeArrives R σ x1 x2 x3) : Met l yMo_treeArrives wsMo_treeArrives rmM_treeArrives (va_Pc [.ref (a 0), .int x1, .int x2, .int x3] (uI D clA (mT tI tZ) A false (mw a tI tZ) σ)) (va_Qv R (uI D clA (mT tI tZ) A false (mw a tI tZ)) A) 0 0 A := by
  refine Met.ofW (cc := cMo_treeArrives) (maxL := 4) (ret := none) (by decide) rfl ?_
  intro p e s m args below meth c s₁ B hml hv
  obtain ⟨rfl, hP, hK, hD, hA⟩ := hv
  have hx := B.exec
  have hb := B.bytes
  have hr := B.returns
  have hts := atoms_spec (ws := wsMo_treeArrives) B.pre
  have hown : s.vm.findClass RMo = some m.cls := findClass_of_methodNamed B.named
  have hlocks := B.notSynchronized
  have hin0 : ∀ w ∈ u_ws RMo TMo 33, w ∈ wsMo_treeArrives := fun w h => List.mem_cons_of_mem _ (inMo w h)
  have k56 := hts _ (List.mem_cons_of_mem _ wm_756)
  have hS : va_S A s.heap s.heap [] := va_S.rf
  have cut20 : ∀ (σ : MS) (y1 : Int32) (y2 : Int32) (y3 : Int32) (H : Heap) (locs : List Loc) (ls : Array Slot), wM_treeArrives_20 R σ y1 y2 y3 → va_P D clA (mw a tI tZ σ) H → va_D A (mw a tI tZ σ) → va_S A s.heap H locs → lv_has ls 4 [(0, .ref (a 0)), (1, .int y1), (2, .int y2), (3, .int y3)] → W p l e (headSpec wsMo_treeArrives rmM_treeArrives).room s m ([.ref (a 0), .int x1, .int x2, .int x3] : List Value).toArray below meth c H locs 0 0 (MQ below (va_Qv R (uI D clA (mT tI tZ) A false (mw a tI tZ)) A) ([.ref (a 0), .int x1, .int x2, .int x3] : List Value).toArray s 0 0 A) (F0 m 20 ls []) := by
    intro σ y1 y2 y3 H locs ls hwp hP hD hS hl
    refine lv_aload_n hx hb dMo_treeArrives_20 rfl (lv_at hl 0 rfl) ?_
    refine lv_iload_n hx hb dMo_treeArrives_21 rfl (lv_at hl 2 rfl) ?_
    obtain ⟨P1, hP1, hwp⟩ := hwp
    refine uCallVv (As := [.int y2]) (rest := []) (C := RMo) ⟨hx, hb, hml, hown, hts⟩ (kM_goOn l D a A tI tZ σ y2 P1 hP1) (cwV 1 hts (gdV wm_878 wm_880 wp_23 wm_13 wm_881) rfl rfl rfl (by decide +kernel) ⟨Nat.le_of_ble_eq_true rfl, Nat.le_of_ble_eq_true rfl⟩) (va_recv (ci := 0) (q0 := 0) hK hP rfl rfl) hP hK hD hA hS rfl hl.1 rfl (Nat.le_of_ble_eq_true rfl) dMo_treeArrives_22 ⟨Nat.le_of_ble_eq_true rfl, Nat.le_of_ble_eq_true rfl⟩ (fun u2 H locs hu2 hP hD hS => ?_)
    have hwp := hwp u2 hu2
    exact W.vret hx hb hr (fun t ht hW => ⟨⟨u2, rfl, hwp, uEnd ht hW hP hK hD hS hA⟩, hS.F ht⟩) hS.2.2 dMo_treeArrives_25
  have hl := lv_entry ([.ref (a 0), .int x1, .int x2, .int x3]) (n := 4) (Nat.le_of_ble_eq_true rfl)
  rw [lg_entry_eq]
  generalize (lg_sl ([.ref (a 0), .int x1, .int x2, .int x3]) ++ List.replicate (4 - (lg_sl ([.ref (a 0), .int x1, .int x2, .int x3])).length) Slot.unset).toArray = ls at hl ⊢
  have hl : lv_has ls 4 [(0, .ref (a 0)), (1, .int x1), (2, .int x2), (3, .int x3)] := hl
  refine lv_iload_n hx hb dMo_treeArrives_0 rfl (lv_at hl 3 rfl) ?_
  refine lv_if_ne hx hb dMo_treeArrives_1 rfl (fun h3 => ?_) (fun h3 => ?_)
  · have hwp := hwp.1 h3
    refine lv_aload_n hx hb dMo_treeArrives_13 rfl (lv_at hl 0 rfl) ?_
    refine va_get (D := D) (ci := 0) (C := RMo) (T := TMo) (N := 33) hx hb hts hin0 hown hK hP 0 rfl rfl 20 (by decide) k56 (fun _ h9 => h9) rfl dMo_treeArrives_14 ?_
    refine lv_iload_n hx hb dMo_treeArrives_17 rfl (lv_at hl 2 rfl) ?_
    refine lv_iload_n hx hb dMo_treeArrives_18 rfl (lv_at hl 2 rfl) ?_
    obtain ⟨hi4, hwp⟩ := hwp
    refine va_iast hx hb hK hP hD hS 15 0 rfl rfl hi4 dMo_treeArrives_19 (fun H locs hP hD hS => ?_)
    obtain ⟨σ5, eσ5⟩ : ∃ z, z = up2 σ 20 x2.toNatClampNeg x2 := ⟨_, rfl⟩
    have hwp := hwp σ5 eσ5
    have hP : va_P D clA (mw a tI tZ σ5) H := by rw [eσ5]; exact hP
    have hD : va_D A (mw a tI tZ σ5) := by rw [eσ5]; exact hD
    exact cut20 σ5 x1 x2 x3 _ _ _ hwp hP hD hS (lv_sub hl [0, 1, 2, 3] rfl)
  · have hwp := hwp.2 h3
    refine lv_aload_n hx hb dMo_treeArrives_4 rfl (lv_at hl 0 rfl) ?_
    refine lv_iload_n hx hb dMo_treeArrives_5 rfl (lv_at hl 2 rfl) ?_
    refine lv_iload_n hx hb dMo_treeArrives_6 rfl (lv_at hl 1 rfl) ?_
    obtain ⟨P6, hP6, hwp⟩ := hwp
    refine uCallVv (As := [.int x2, .int x1]) (rest := []) (C := RMo) ⟨hx, hb, hml, hown, hts⟩ (kM_enqueue l D a A tI tZ σ x2 x1 P6 hP6) (cwV 2 hts (gdV wm_874 wm_876 wp_22 wm_13 wm_877) rfl rfl rfl (by decide +kernel) ⟨Nat.le_of_ble_eq_true rfl, Nat.le_of_ble_eq_true rfl⟩) (va_recv (ci := 0) (q0 := 0) hK hP rfl rfl) hP hK hD hA hS rfl hl.1 rfl (Nat.le_of_ble_eq_true rfl) dMo_treeArrives_7 ⟨Nat.le_of_ble_eq_true rfl, Nat.le_of_ble_eq_true rfl⟩ (fun u7 H locs hu7 hP hD hS => ?_)
    have hwp := hwp u7 hu7
    refine lv_goto hx hb dMo_treeArrives_10 rfl ?_
    exact cut20 u7 x1 x2 x3 _ _ _ hwp hP hD hS (lv_sub hl [0, 1, 2, 3] rfl)
-- private void ringArrives(int, int, int)
def wM_ringArrives_136 (R : MS → Prop) (σ : MS) (y1 : Int32) (y2 : Int32) (y3 : Int32) (y4 : Int32) (z1 : Int32) (z2 : Int32) (z3 : Int32) (z4 : Int32) (z5 : Int32) : Prop :=
  (∃ P1 : MS → Prop, wM_send P1 σ z1 z2 z3 z4 z5 ∧ (∀ (u2 : MS), P1 u2 → R u2))
def wM_ringArrives_103 (R : MS → Prop) (σ : MS) (y1 : Int32) (y2 : Int32) (y3 : Int32) (y4 : Int32) : Prop :=
  (vp_in y1 4 ∧ (∀ σ4 : MS, σ4 = up2 σ 26 y1.toNatClampNeg (vp_nar .boolean 1) → (vp_in y1 4 ∧ (((y3 ≤ (σ4 24 y1.toNatClampNeg)) → (vp_in y1 4 ∧ wM_ringArrives_136 R σ4 y1 y2 y3 y4 y1 y4 3 0 (σ4 24 y1.toNatClampNeg))) ∧ ((¬ y3 ≤ (σ4 24 y1.toNatClampNeg)) → wM_ringArrives_136 R σ4 y1 y2 y3 y4 y1 y4 3 0 y3)))))
def wM_ringArrives (R : MS → Prop) (σ : MS) (x1 x2 x3 : Int32) : Prop :=
  (∀ v8 : Int32, v8 = (x1 + 1) - (x1 + 1) / 4 * 4 → (((¬ x2 = 1) → (vp_in x1 4 ∧ (((¬ x3 = (σ 24 x1.toNatClampNeg)) → (vp_in x1 4 ∧ ((((σ 24 x1.toNatClampNeg) < x3) → wM_ringArrives_103 R σ x1 x2 x3 v8) ∧ ((¬ (σ 24 x1.toNatClampNeg) < x3) → (vp_in x1 4 ∧ (((¬ (σ 26 x1.toNatClampNeg) = 0) → R σ) ∧ (((σ 26 x1.toNatClampNeg) = 0) → wM_ringArrives_103 R σ x1 x2 x3 v8))))))) ∧ ((x3 = (σ 24 x1.toNatClampNeg)) → (vp_in x1 4 ∧ (∀ σ17 : MS, σ17 = up2 σ 26 x1.toNatClampNeg (vp_nar .boolean 0) → (vp_in x1 4 ∧ (∀ σ19 : MS, σ19 = up2 σ17 25 x1.toNatClampNeg x3 → (∃ P20 : MS → Prop, wM_send P20 σ19 x1 v8 3 1 x3 ∧ (∀ (u21 : MS), P20 u21 → R u21)))))))))) ∧ ((x2 = 1) → (vp_in x1 4 ∧ (((x3 = (σ 24 x1.toNatClampNeg)) → R σ) ∧ ((¬ x3 = (σ 24 x1.toNatClampNeg)) → (vp_in x1 4 ∧ (∀ σ25 : MS, σ25 = up2 σ 25 x1.toNatClampNeg x3 → (vp_in x1 4 ∧ (∀ σ27 : MS, σ27 = up2 σ25 26 x1.toNatClampNeg (vp_nar .boolean 0) → (∃ P28 : MS → Prop, wM_send P28 σ27 x1 v8 3 1 x3 ∧ (∀ (u29 : MS), P28 u29 → R u29))))))))))))
abbrev wsMo_ringArrives : List Cond := .code yMo_ringArrives cMo_ringArrives 5 none :: wg
abbrev rmM_ringArrives : Room := { frames := 1, cells := 0, slots := 0, locals := 27 }
set_option maxHeartbeats 4000000 in
set_option maxRecDepth 100000 in
theorem kM_ringArrives (l : Launch) (D : va_G) (a : Nat → Nat) (A : Nat → Prop) (tI tZ : ClassId) (σ : MS) (x1 x2 x3 : Int32) (R : MS → Prop) (hwp : wM_ringArrives R σ x1 x2 x3) : Met l yMo_ringArrives wsMo_ringArrives rmM_ringArrives (va_Pc [.ref (a 0), .int x1, .int x2, .int x3] (uI D clA (mT tI tZ) A false (mw a tI tZ) σ)) (va_Qv R (uI D clA (mT tI tZ) A false (mw a tI tZ)) A) 0 0 A := by
  refine Met.ofW (cc := cMo_ringArrives) (maxL := 5) (ret := none) (by decide) rfl ?_
  intro p e s m args below meth c s₁ B hml hv
  obtain ⟨rfl, hP, hK, hD, hA⟩ := hv
  have hx := B.exec
  have hb := B.bytes
  have hr := B.returns
  have hts := atoms_spec (ws := wsMo_ringArrives) B.pre
  have hown : s.vm.findClass RMo = some m.cls := findClass_of_methodNamed B.named
  have hlocks := B.notSynchronized
  have hin0 : ∀ w ∈ u_ws RMo TMo 33, w ∈ wsMo_ringArrives := fun w h => List.mem_cons_of_mem _ (inMo w h)
  have k69 := hts _ (List.mem_cons_of_mem _ wm_760)
  have k72 := hts _ (List.mem_cons_of_mem _ wm_761)
  have k75 := hts _ (List.mem_cons_of_mem _ wm_762)
  have hS : va_S A s.heap s.heap [] := va_S.rf
  have cut136 : ∀ (σ : MS) (y1 : Int32) (y2 : Int32) (y3 : Int32) (y4 : Int32) (z1 : Int32) (z2 : Int32) (z3 : Int32) (z4 : Int32) (z5 : Int32) (H : Heap) (locs : List Loc) (ls : Array Slot), wM_ringArrives_136 R σ y1 y2 y3 y4 z1 z2 z3 z4 z5 → va_P D clA (mw a tI tZ σ) H → va_D A (mw a tI tZ σ) → va_S A s.heap H locs → lv_has ls 5 [(0, .ref (a 0)), (1, .int y1), (2, .int y2), (3, .int y3), (4, .int y4)] → W p l e (headSpec wsMo_ringArrives rmM_ringArrives).room s m ([.ref (a 0), .int x1, .int x2, .int x3] : List Value).toArray below meth c H locs 0 0 (MQ below (va_Qv R (uI D clA (mT tI tZ) A false (mw a tI tZ)) A) ([.ref (a 0), .int x1, .int x2, .int x3] : List Value).toArray s 0 0 A) (F0 m 136 ls [.int z5, .int z4, .int z3, .int z2, .int z1, .ref (a 0)]) := by
    intro σ y1 y2 y3 y4 z1 z2 z3 z4 z5 H locs ls hwp hP hD hS hl
    obtain ⟨P1, hP1, hwp⟩ := hwp
    refine uCallVv (As := [.int z1, .int z2, .int z3, .int z4, .int z5]) (rest := []) (C := RMo) ⟨hx, hb, hml, hown, hts⟩ (kM_send l D a A tI tZ σ z1 z2 z3 z4 z5 P1 hP1) (cwV 5 hts (gdV wm_858 wm_860 wp_18 wm_13 wm_861) rfl rfl rfl (by decide +kernel) ⟨Nat.le_of_ble_eq_true rfl, Nat.le_of_ble_eq_true rfl⟩) (va_recv (ci := 0) (q0 := 0) hK hP rfl rfl) hP hK hD hA hS rfl hl.1 rfl (Nat.le_of_ble_eq_true rfl) dMo_ringArrives_136 ⟨Nat.le_of_ble_eq_true rfl, Nat.le_of_ble_eq_true rfl⟩ (fun u2 H locs hu2 hP hD hS => ?_)
    have hwp := hwp u2 hu2
    exact W.vret hx hb hr (fun t ht hW => ⟨⟨u2, rfl, hwp, uEnd ht hW hP hK hD hS hA⟩, hS.F ht⟩) hS.2.2 dMo_ringArrives_139
  have cut103 : ∀ (σ : MS) (y1 : Int32) (y2 : Int32) (y3 : Int32) (y4 : Int32) (H : Heap) (locs : List Loc) (ls : Array Slot), wM_ringArrives_103 R σ y1 y2 y3 y4 → va_P D clA (mw a tI tZ σ) H → va_D A (mw a tI tZ σ) → va_S A s.heap H locs → lv_has ls 5 [(0, .ref (a 0)), (1, .int y1), (2, .int y2), (3, .int y3), (4, .int y4)] → W p l e (headSpec wsMo_ringArrives rmM_ringArrives).room s m ([.ref (a 0), .int x1, .int x2, .int x3] : List Value).toArray below meth c H locs 0 0 (MQ below (va_Qv R (uI D clA (mT tI tZ) A false (mw a tI tZ)) A) ([.ref (a 0), .int x1, .int x2, .int x3] : List Value).toArray s 0 0 A) (F0 m 103 ls []) := by
    intro σ y1 y2 y3 y4 H locs ls hwp hP hD hS hl
    refine lv_aload_n hx hb dMo_ringArrives_103 rfl (lv_at hl 0 rfl) ?_
    refine va_get (D := D) (ci := 0) (C := RMo) (T := TMo) (N := 33) hx hb hts hin0 hown hK hP 0 rfl rfl 26 (by decide) k75 (fun _ h9 => h9) rfl dMo_ringArrives_104 ?_
    refine lv_iload_n hx hb dMo_ringArrives_107 rfl (lv_at hl 1 rfl) ?_
    refine lv_iconst (v := 1) hx hb dMo_ringArrives_108 (by decide) ?_
    obtain ⟨hi3, hwp⟩ := hwp
    refine va_zast hx hb hK hP hD hS 21 1 rfl rfl hi3 dMo_ringArrives_109 (fun H locs hP hD hS => ?_)
    obtain ⟨σ4, eσ4⟩ : ∃ z, z = up2 σ 26 y1.toNatClampNeg (vp_nar .boolean 1) := ⟨_, rfl⟩
    have hwp := hwp σ4 eσ4
    have hP : va_P D clA (mw a tI tZ σ4) H := by rw [eσ4]; exact hP
    have hD : va_D A (mw a tI tZ σ4) := by rw [eσ4]; exact hD
    refine lv_aload_n hx hb dMo_ringArrives_110 rfl (lv_at hl 0 rfl) ?_
    refine lv_iload_n hx hb dMo_ringArrives_111 rfl (lv_at hl 1 rfl) ?_
    refine lv_iload hx hb dMo_ringArrives_112 (lv_at hl 4 rfl) ?_
    refine lv_iconst (v := 3) hx hb dMo_ringArrives_114 (by decide) ?_
    refine lv_iconst (v := 0) hx hb dMo_ringArrives_115 (by decide) ?_
    refine lv_iload_n hx hb dMo_ringArrives_116 rfl (lv_at hl 3 rfl) ?_
    refine lv_aload_n hx hb dMo_ringArrives_117 rfl (lv_at hl 0 rfl) ?_
    refine va_get (D := D) (ci := 0) (C := RMo) (T := TMo) (N := 33) hx hb hts hin0 hown hK hP 0 rfl rfl 24 (by decide) k69 (fun _ h9 => h9) rfl dMo_ringArrives_118 ?_
    refine lv_iload_n hx hb dMo_ringArrives_121 rfl (lv_at hl 1 rfl) ?_
    obtain ⟨hi5, hwp⟩ := hwp
    refine va_iald hx hb hK hP 19 0 rfl rfl hi5 dMo_ringArrives_122 ?_
    refine lv_icmp_le hx hb dMo_ringArrives_123 rfl (fun h6 => ?_) (fun h6 => ?_)
    · have hwp := hwp.1 h6
      refine lv_aload_n hx hb dMo_ringArrives_130 rfl (lv_at hl 0 rfl) ?_
      refine va_get (D := D) (ci := 0) (C := RMo) (T := TMo) (N := 33) hx hb hts hin0 hown hK hP 0 rfl rfl 24 (by decide) k69 (fun _ h9 => h9) rfl dMo_ringArrives_131 ?_
      refine lv_iload_n hx hb dMo_ringArrives_134 rfl (lv_at hl 1 rfl) ?_
      obtain ⟨hi7, hwp⟩ := hwp
      refine va_iald hx hb hK hP 19 0 rfl rfl hi7 dMo_ringArrives_135 ?_
      exact cut136 σ4 y1 y2 y3 y4 y1 y4 3 0 (σ4 24 y1.toNatClampNeg) _ _ _ hwp hP hD hS (lv_sub hl [0, 1, 2, 3, 4] rfl)
    · have hwp := hwp.2 h6
      refine lv_iload_n hx hb dMo_ringArrives_126 rfl (lv_at hl 3 rfl) ?_
      refine lv_goto hx hb dMo_ringArrives_127 rfl ?_
      exact cut136 σ4 y1 y2 y3 y4 y1 y4 3 0 y3 _ _ _ hwp hP hD hS (lv_sub hl [0, 1, 2, 3, 4] rfl)
  have hl := lv_entry ([.ref (a 0), .int x1, .int x2, .int x3]) (n := 5) (Nat.le_of_ble_eq_true rfl)
  rw [lg_entry_eq]
  generalize (lg_sl ([.ref (a 0), .int x1, .int x2, .int x3]) ++ List.replicate (5 - (lg_sl ([.ref (a 0), .int x1, .int x2, .int x3])).length) Slot.unset).toArray = ls at hl ⊢
  have hl : lv_has ls 5 [(0, .ref (a 0)), (1, .int x1), (2, .int x2), (3, .int x3)] := hl
  refine lv_iload_n hx hb dMo_ringArrives_0 rfl (lv_at hl 1 rfl) ?_
  refine lv_iconst (v := 1) hx hb dMo_ringArrives_1 (by decide) ?_
  refine lv_iadd hx hb dMo_ringArrives_2 ?_
  refine lv_iconst (v := 4) hx hb dMo_ringArrives_3 (by decide) ?_
  refine lv_irem hx hb dMo_ringArrives_4 (by decide) ?_
  refine lv_topi (fun v8 ev8 => ?_)
  have hwp := hwp v8 ev8
  refine lv_istore hx hb dMo_ringArrives_5 hl (by decide) rfl (fun ls hl => ?_)
  have hl : lv_has ls 5 [(4, .int v8), (0, .ref (a 0)), (1, .int x1), (2, .int x2), (3, .int x3)] := hl
  refine lv_iload_n hx hb dMo_ringArrives_7 rfl (lv_at hl 3 rfl) ?_
  refine lv_iconst (v := 1) hx hb dMo_ringArrives_8 (by decide) ?_
  refine lv_icmp_ne hx hb dMo_ringArrives_9 rfl (fun h9 => ?_) (fun h9 => ?_)
  · have hwp := hwp.1 h9
    refine lv_iload_n hx hb dMo_ringArrives_47 rfl (lv_at hl 4 rfl) ?_
    refine lv_aload_n hx hb dMo_ringArrives_48 rfl (lv_at hl 1 rfl) ?_
    refine va_get (D := D) (ci := 0) (C := RMo) (T := TMo) (N := 33) hx hb hts hin0 hown hK hP 0 rfl rfl 24 (by decide) k69 (fun _ h9 => h9) rfl dMo_ringArrives_49 ?_
    refine lv_iload_n hx hb dMo_ringArrives_52 rfl (lv_at hl 2 rfl) ?_
    obtain ⟨hi10, hwp⟩ := hwp
    refine va_iald hx hb hK hP 19 0 rfl rfl hi10 dMo_ringArrives_53 ?_
    refine lv_icmp_ne hx hb dMo_ringArrives_54 rfl (fun h11 => ?_) (fun h11 => ?_)
    · have hwp := hwp.1 h11
      refine lv_iload_n hx hb dMo_ringArrives_84 rfl (lv_at hl 4 rfl) ?_
      refine lv_aload_n hx hb dMo_ringArrives_85 rfl (lv_at hl 1 rfl) ?_
      refine va_get (D := D) (ci := 0) (C := RMo) (T := TMo) (N := 33) hx hb hts hin0 hown hK hP 0 rfl rfl 24 (by decide) k69 (fun _ h9 => h9) rfl dMo_ringArrives_86 ?_
      refine lv_iload_n hx hb dMo_ringArrives_89 rfl (lv_at hl 2 rfl) ?_
      obtain ⟨hi12, hwp⟩ := hwp
      refine va_iald hx hb hK hP 19 0 rfl rfl hi12 dMo_ringArrives_90 ?_
      refine lv_icmp_gt hx hb dMo_ringArrives_91 rfl (fun h13 => ?_) (fun h13 => ?_)
      · have hwp := hwp.1 h13
        exact cut103 σ x1 x2 x3 v8 _ _ _ hwp hP hD hS (lv_sub hl [1, 2, 3, 4, 0] rfl)
      · have hwp := hwp.2 h13
        refine lv_aload_n hx hb dMo_ringArrives_94 rfl (lv_at hl 1 rfl) ?_
        refine va_get (D := D) (ci := 0) (C := RMo) (T := TMo) (N := 33) hx hb hts hin0 hown hK hP 0 rfl rfl 26 (by decide) k75 (fun _ h9 => h9) rfl dMo_ringArrives_95 ?_
        refine lv_iload_n hx hb dMo_ringArrives_98 rfl (lv_at hl 2 rfl) ?_
        obtain ⟨hi14, hwp⟩ := hwp
        refine va_zald hx hb hK hP 21 1 rfl rfl hi14 dMo_ringArrives_99 ?_
        refine lv_if_ne hx hb dMo_ringArrives_100 rfl (fun h15 => ?_) (fun h15 => ?_)
        · have hwp := hwp.1 h15
          exact W.vret hx hb hr (fun t ht hW => ⟨⟨σ, rfl, hwp, uEnd ht hW hP hK hD hS hA⟩, hS.F ht⟩) hS.2.2 dMo_ringArrives_139
        · have hwp := hwp.2 h15
          exact cut103 σ x1 x2 x3 v8 _ _ _ hwp hP hD hS (lv_sub hl [1, 2, 3, 4, 0] rfl)
    · have hwp := hwp.2 h11
      refine lv_aload_n hx hb dMo_ringArrives_57 rfl (lv_at hl 1 rfl) ?_
      refine va_get (D := D) (ci := 0) (C := RMo) (T := TMo) (N := 33) hx hb hts hin0 hown hK hP 0 rfl rfl 26 (by decide) k75 (fun _ h9 => h9) rfl dMo_ringArrives_58 ?_
      refine lv_iload_n hx hb dMo_ringArrives_61 rfl (lv_at hl 2 rfl) ?_
      refine lv_iconst (v := 0) hx hb dMo_ringArrives_62 (by decide) ?_
      obtain ⟨hi16, hwp⟩ := hwp
      refine va_zast hx hb hK hP hD hS 21 1 rfl rfl hi16 dMo_ringArrives_63 (fun H locs hP hD hS => ?_)
      obtain ⟨σ17, eσ17⟩ : ∃ z, z = up2 σ 26 x1.toNatClampNeg (vp_nar .boolean 0) := ⟨_, rfl⟩
      have hwp := hwp σ17 eσ17
      have hP : va_P D clA (mw a tI tZ σ17) H := by rw [eσ17]; exact hP
      have hD : va_D A (mw a tI tZ σ17) := by rw [eσ17]; exact hD
      refine lv_aload_n hx hb dMo_ringArrives_64 rfl (lv_at hl 1 rfl) ?_
      refine va_get (D := D) (ci := 0) (C := RMo) (T := TMo) (N := 33) hx hb hts hin0 hown hK hP 0 rfl rfl 25 (by decide) k72 (fun _ h9 => h9) rfl dMo_ringArrives_65 ?_
      refine lv_iload_n hx hb dMo_ringArrives_68 rfl (lv_at hl 2 rfl) ?_
      refine lv_iload_n hx hb dMo_ringArrives_69 rfl (lv_at hl 4 rfl) ?_
      obtain ⟨hi18, hwp⟩ := hwp
      refine va_iast hx hb hK hP hD hS 20 0 rfl rfl hi18 dMo_ringArrives_70 (fun H locs hP hD hS => ?_)
      obtain ⟨σ19, eσ19⟩ : ∃ z, z = up2 σ17 25 x1.toNatClampNeg x3 := ⟨_, rfl⟩
      have hwp := hwp σ19 eσ19
      have hP : va_P D clA (mw a tI tZ σ19) H := by rw [eσ19]; exact hP
      have hD : va_D A (mw a tI tZ σ19) := by rw [eσ19]; exact hD
      refine lv_aload_n hx hb dMo_ringArrives_71 rfl (lv_at hl 1 rfl) ?_
      refine lv_iload_n hx hb dMo_ringArrives_72 rfl (lv_at hl 2 rfl) ?_
      refine lv_iload hx hb dMo_ringArrives_73 (lv_at hl 0 rfl) ?_
      refine lv_iconst (v := 3) hx hb dMo_ringArrives_75 (by decide) ?_
      refine lv_iconst (v := 1) hx hb dMo_ringArrives_76 (by decide) ?_
      refine lv_iload_n hx hb dMo_ringArrives_77 rfl (lv_at hl 4 rfl) ?_
      obtain ⟨P20, hP20, hwp⟩ := hwp
      refine uCallVv (As := [.int x1, .int v8, .int 3, .int 1, .int x3]) (rest := []) (C := RMo) ⟨hx, hb, hml, hown, hts⟩ (kM_send l D a A tI tZ σ19 x1 v8 3 1 x3 P20 hP20) (cwV 5 hts (gdV wm_858 wm_860 wp_18 wm_13 wm_861) rfl rfl rfl (by decide +kernel) ⟨Nat.le_of_ble_eq_true rfl, Nat.le_of_ble_eq_true rfl⟩) (va_recv (ci := 0) (q0 := 0) hK hP rfl rfl) hP hK hD hA hS rfl hl.1 rfl (Nat.le_of_ble_eq_true rfl) dMo_ringArrives_78 ⟨Nat.le_of_ble_eq_true rfl, Nat.le_of_ble_eq_true rfl⟩ (fun u21 H locs hu21 hP hD hS => ?_)
      have hwp := hwp u21 hu21
      refine lv_goto hx hb dMo_ringArrives_81 rfl ?_
      exact W.vret hx hb hr (fun t ht hW => ⟨⟨u21, rfl, hwp, uEnd ht hW hP hK hD hS hA⟩, hS.F ht⟩) hS.2.2 dMo_ringArrives_139
  · have hwp := hwp.2 h9
    refine lv_iload_n hx hb dMo_ringArrives_12 rfl (lv_at hl 4 rfl) ?_
    refine lv_aload_n hx hb dMo_ringArrives_13 rfl (lv_at hl 1 rfl) ?_
    refine va_get (D := D) (ci := 0) (C := RMo) (T := TMo) (N := 33) hx hb hts hin0 hown hK hP 0 rfl rfl 24 (by decide) k69 (fun _ h9 => h9) rfl dMo_ringArrives_14 ?_
    refine lv_iload_n hx hb dMo_ringArrives_17 rfl (lv_at hl 2 rfl) ?_
    obtain ⟨hi22, hwp⟩ := hwp
    refine va_iald hx hb hK hP 19 0 rfl rfl hi22 dMo_ringArrives_18 ?_
    refine lv_icmp_eq hx hb dMo_ringArrives_19 rfl (fun h23 => ?_) (fun h23 => ?_)
    · have hwp := hwp.1 h23
      exact W.vret hx hb hr (fun t ht hW => ⟨⟨σ, rfl, hwp, uEnd ht hW hP hK hD hS hA⟩, hS.F ht⟩) hS.2.2 dMo_ringArrives_46
    · have hwp := hwp.2 h23
      refine lv_aload_n hx hb dMo_ringArrives_22 rfl (lv_at hl 1 rfl) ?_
      refine va_get (D := D) (ci := 0) (C := RMo) (T := TMo) (N := 33) hx hb hts hin0 hown hK hP 0 rfl rfl 25 (by decide) k72 (fun _ h9 => h9) rfl dMo_ringArrives_23 ?_
      refine lv_iload_n hx hb dMo_ringArrives_26 rfl (lv_at hl 2 rfl) ?_
      refine lv_iload_n hx hb dMo_ringArrives_27 rfl (lv_at hl 4 rfl) ?_
      obtain ⟨hi24, hwp⟩ := hwp
      refine va_iast hx hb hK hP hD hS 20 0 rfl rfl hi24 dMo_ringArrives_28 (fun H locs hP hD hS => ?_)
      obtain ⟨σ25, eσ25⟩ : ∃ z, z = up2 σ 25 x1.toNatClampNeg x3 := ⟨_, rfl⟩
      have hwp := hwp σ25 eσ25
      have hP : va_P D clA (mw a tI tZ σ25) H := by rw [eσ25]; exact hP
      have hD : va_D A (mw a tI tZ σ25) := by rw [eσ25]; exact hD
      refine lv_aload_n hx hb dMo_ringArrives_29 rfl (lv_at hl 1 rfl) ?_
      refine va_get (D := D) (ci := 0) (C := RMo) (T := TMo) (N := 33) hx hb hts hin0 hown hK hP 0 rfl rfl 26 (by decide) k75 (fun _ h9 => h9) rfl dMo_ringArrives_30 ?_
      refine lv_iload_n hx hb dMo_ringArrives_33 rfl (lv_at hl 2 rfl) ?_
      refine lv_iconst (v := 0) hx hb dMo_ringArrives_34 (by decide) ?_
      obtain ⟨hi26, hwp⟩ := hwp
      refine va_zast hx hb hK hP hD hS 21 1 rfl rfl hi26 dMo_ringArrives_35 (fun H locs hP hD hS => ?_)
      obtain ⟨σ27, eσ27⟩ : ∃ z, z = up2 σ25 26 x1.toNatClampNeg (vp_nar .boolean 0) := ⟨_, rfl⟩
      have hwp := hwp σ27 eσ27
      have hP : va_P D clA (mw a tI tZ σ27) H := by rw [eσ27]; exact hP
      have hD : va_D A (mw a tI tZ σ27) := by rw [eσ27]; exact hD
      refine lv_aload_n hx hb dMo_ringArrives_36 rfl (lv_at hl 1 rfl) ?_
      refine lv_iload_n hx hb dMo_ringArrives_37 rfl (lv_at hl 2 rfl) ?_
      refine lv_iload hx hb dMo_ringArrives_38 (lv_at hl 0 rfl) ?_
      refine lv_iconst (v := 3) hx hb dMo_ringArrives_40 (by decide) ?_
      refine lv_iconst (v := 1) hx hb dMo_ringArrives_41 (by decide) ?_
      refine lv_iload_n hx hb dMo_ringArrives_42 rfl (lv_at hl 4 rfl) ?_
      obtain ⟨P28, hP28, hwp⟩ := hwp
      refine uCallVv (As := [.int x1, .int v8, .int 3, .int 1, .int x3]) (rest := []) (C := RMo) ⟨hx, hb, hml, hown, hts⟩ (kM_send l D a A tI tZ σ27 x1 v8 3 1 x3 P28 hP28) (cwV 5 hts (gdV wm_858 wm_860 wp_18 wm_13 wm_861) rfl rfl rfl (by decide +kernel) ⟨Nat.le_of_ble_eq_true rfl, Nat.le_of_ble_eq_true rfl⟩) (va_recv (ci := 0) (q0 := 0) hK hP rfl rfl) hP hK hD hA hS rfl hl.1 rfl (Nat.le_of_ble_eq_true rfl) dMo_ringArrives_43 ⟨Nat.le_of_ble_eq_true rfl, Nat.le_of_ble_eq_true rfl⟩ (fun u29 H locs hu29 hP hD hS => ?_)
      have hwp := hwp u29 hu29
      exact W.vret hx hb hr (fun t ht hW => ⟨⟨u29, rfl, hwp, uEnd ht hW hP hK hD hS hA⟩, hS.F ht⟩) hS.2.2 dMo_ringArrives_46
-- private void workArrives(int, int, int)
def wM_workArrives_61 (R : MS → Prop) (σ : MS) (y1 : Int32) (y2 : Int32) (y3 : Int32) : Prop :=
  (∃ P1 : MS → Prop, wM_settle P1 σ y2 ∧ (∀ (u2 : MS), P1 u2 → R u2))
def wM_workArrives_54 (R : MS → Prop) (σ : MS) (y1 : Int32) (y2 : Int32) (y3 : Int32) : Prop :=
  (vp_in y2 4 ∧ (∀ σ4 : MS, σ4 = up2 σ 29 y2.toNatClampNeg (vp_nar .boolean 1) → wM_workArrives_61 R σ4 y1 y2 y3))
def wM_workArrives_35 (R : MS → Prop) (σ : MS) (y1 : Int32) (y2 : Int32) (y3 : Int32) : Prop :=
  (∃ P5 : MS → Prop, wM_send P5 σ y2 y1 4 1 0 ∧ (∀ (u6 : MS), P5 u6 → wM_workArrives_54 R u6 y1 y2 y3))
def wM_workArrives (R : MS → Prop) (σ : MS) (x1 x2 x3 : Int32) : Prop :=
  (((¬ x3 = 1) → ((((σ 27 0) = x2) → wM_workArrives_35 R σ x1 x2 x3) ∧ ((¬ (σ 27 0) = x2) → (vp_in x2 4 ∧ ((((σ 30 x2.toNatClampNeg) < 0) → (vp_in x2 4 ∧ (∀ σ12 : MS, σ12 = up2 σ 30 x2.toNatClampNeg x1 → wM_workArrives_54 R σ12 x1 x2 x3))) ∧ ((¬ (σ 30 x2.toNatClampNeg) < 0) → wM_workArrives_35 R σ x1 x2 x3)))))) ∧ ((x3 = 1) → (vp_in x2 4 ∧ (vp_in x2 4 ∧ (∀ σ15 : MS, σ15 = up2 σ 31 x2.toNatClampNeg ((σ 31 x2.toNatClampNeg) - 1) → wM_workArrives_61 R σ15 x1 x2 x3)))))
abbrev wsMo_workArrives : List Cond := .code yMo_workArrives cMo_workArrives 4 none :: wg
abbrev rmM_workArrives : Room := { frames := 2, cells := 0, slots := 0, locals := 49 }
set_option maxHeartbeats 4000000 in
set_option maxRecDepth 100000 in
theorem kM_workArrives (l : Launch) (D : va_G) (a : Nat → Nat) (A : Nat → Prop) (tI tZ : ClassId) (σ : MS) (x1 x2 x3 : Int32) (R : MS → Prop) (hwp : wM_workArrives R σ x1 x2 x3) : Met l yMo_workArrives wsMo_workArrives rmM_workArrives (va_Pc [.ref (a 0), .int x1, .int x2, .int x3] (uI D clA (mT tI tZ) A false (mw a tI tZ) σ)) (va_Qv R (uI D clA (mT tI tZ) A false (mw a tI tZ)) A) 0 0 A := by
  refine Met.ofW (cc := cMo_workArrives) (maxL := 4) (ret := none) (by decide) rfl ?_
  intro p e s m args below meth c s₁ B hml hv
  obtain ⟨rfl, hP, hK, hD, hA⟩ := hv
  have hx := B.exec
  have hb := B.bytes
  have hr := B.returns
  have hts := atoms_spec (ws := wsMo_workArrives) B.pre
  have hown : s.vm.findClass RMo = some m.cls := findClass_of_methodNamed B.named
  have hlocks := B.notSynchronized
  have hin0 : ∀ w ∈ u_ws RMo TMo 33, w ∈ wsMo_workArrives := fun w h => List.mem_cons_of_mem _ (inMo w h)
  have k78 := hts _ (List.mem_cons_of_mem _ wm_763)
  have k81 := hts _ (List.mem_cons_of_mem _ wm_765)
  have k84 := hts _ (List.mem_cons_of_mem _ wm_766)
  have k87 := hts _ (List.mem_cons_of_mem _ wm_767)
  have hS : va_S A s.heap s.heap [] := va_S.rf
  have cut61 : ∀ (σ : MS) (y1 : Int32) (y2 : Int32) (y3 : Int32) (H : Heap) (locs : List Loc) (ls : Array Slot), wM_workArrives_61 R σ y1 y2 y3 → va_P D clA (mw a tI tZ σ) H → va_D A (mw a tI tZ σ) → va_S A s.heap H locs → lv_has ls 4 [(0, .ref (a 0)), (1, .int y1), (2, .int y2), (3, .int y3)] → W p l e (headSpec wsMo_workArrives rmM_workArrives).room s m ([.ref (a 0), .int x1, .int x2, .int x3] : List Value).toArray below meth c H locs 0 0 (MQ below (va_Qv R (uI D clA (mT tI tZ) A false (mw a tI tZ)) A) ([.ref (a 0), .int x1, .int x2, .int x3] : List Value).toArray s 0 0 A) (F0 m 61 ls []) := by
    intro σ y1 y2 y3 H locs ls hwp hP hD hS hl
    refine lv_aload_n hx hb dMo_workArrives_61 rfl (lv_at hl 0 rfl) ?_
    refine lv_iload_n hx hb dMo_workArrives_62 rfl (lv_at hl 2 rfl) ?_
    obtain ⟨P1, hP1, hwp⟩ := hwp
    refine uCallVv (As := [.int y2]) (rest := []) (C := RMo) ⟨hx, hb, hml, hown, hts⟩ (kM_settle l D a A tI tZ σ y2 P1 hP1) (cwV 1 hts (gdV wm_894 wm_896 wp_27 wm_13 wm_897) rfl rfl rfl (by decide +kernel) ⟨Nat.le_of_ble_eq_true rfl, Nat.le_of_ble_eq_true rfl⟩) (va_recv (ci := 0) (q0 := 0) hK hP rfl rfl) hP hK hD hA hS rfl hl.1 rfl (Nat.le_of_ble_eq_true rfl) dMo_workArrives_63 ⟨Nat.le_of_ble_eq_true rfl, Nat.le_of_ble_eq_true rfl⟩ (fun u2 H locs hu2 hP hD hS => ?_)
    have hwp := hwp u2 hu2
    exact W.vret hx hb hr (fun t ht hW => ⟨⟨u2, rfl, hwp, uEnd ht hW hP hK hD hS hA⟩, hS.F ht⟩) hS.2.2 dMo_workArrives_66
  have cut54 : ∀ (σ : MS) (y1 : Int32) (y2 : Int32) (y3 : Int32) (H : Heap) (locs : List Loc) (ls : Array Slot), wM_workArrives_54 R σ y1 y2 y3 → va_P D clA (mw a tI tZ σ) H → va_D A (mw a tI tZ σ) → va_S A s.heap H locs → lv_has ls 4 [(0, .ref (a 0)), (1, .int y1), (2, .int y2), (3, .int y3)] → W p l e (headSpec wsMo_workArrives rmM_workArrives).room s m ([.ref (a 0), .int x1, .int x2, .int x3] : List Value).toArray below meth c H locs 0 0 (MQ below (va_Qv R (uI D clA (mT tI tZ) A false (mw a tI tZ)) A) ([.ref (a 0), .int x1, .int x2, .int x3] : List Value).toArray s 0 0 A) (F0 m 54 ls []) := by
    intro σ y1 y2 y3 H locs ls hwp hP hD hS hl
    refine lv_aload_n hx hb dMo_workArrives_54 rfl (lv_at hl 0 rfl) ?_
    refine va_get (D := D) (ci := 0) (C := RMo) (T := TMo) (N := 33) hx hb hts hin0 hown hK hP 0 rfl rfl 29 (by decide) k81 (fun _ h9 => h9) rfl dMo_workArrives_55 ?_
    refine lv_iload_n hx hb dMo_workArrives_58 rfl (lv_at hl 2 rfl) ?_
    refine lv_iconst (v := 1) hx hb dMo_workArrives_59 (by decide) ?_
    obtain ⟨hi3, hwp⟩ := hwp
    refine va_zast hx hb hK hP hD hS 22 1 rfl rfl hi3 dMo_workArrives_60 (fun H locs hP hD hS => ?_)
    obtain ⟨σ4, eσ4⟩ : ∃ z, z = up2 σ 29 y2.toNatClampNeg (vp_nar .boolean 1) := ⟨_, rfl⟩
    have hwp := hwp σ4 eσ4
    have hP : va_P D clA (mw a tI tZ σ4) H := by rw [eσ4]; exact hP
    have hD : va_D A (mw a tI tZ σ4) := by rw [eσ4]; exact hD
    exact cut61 σ4 y1 y2 y3 _ _ _ hwp hP hD hS (lv_sub hl [0, 1, 2, 3] rfl)
  have cut35 : ∀ (σ : MS) (y1 : Int32) (y2 : Int32) (y3 : Int32) (H : Heap) (locs : List Loc) (ls : Array Slot), wM_workArrives_35 R σ y1 y2 y3 → va_P D clA (mw a tI tZ σ) H → va_D A (mw a tI tZ σ) → va_S A s.heap H locs → lv_has ls 4 [(0, .ref (a 0)), (1, .int y1), (2, .int y2), (3, .int y3)] → W p l e (headSpec wsMo_workArrives rmM_workArrives).room s m ([.ref (a 0), .int x1, .int x2, .int x3] : List Value).toArray below meth c H locs 0 0 (MQ below (va_Qv R (uI D clA (mT tI tZ) A false (mw a tI tZ)) A) ([.ref (a 0), .int x1, .int x2, .int x3] : List Value).toArray s 0 0 A) (F0 m 35 ls []) := by
    intro σ y1 y2 y3 H locs ls hwp hP hD hS hl
    refine lv_aload_n hx hb dMo_workArrives_35 rfl (lv_at hl 0 rfl) ?_
    refine lv_iload_n hx hb dMo_workArrives_36 rfl (lv_at hl 2 rfl) ?_
    refine lv_iload_n hx hb dMo_workArrives_37 rfl (lv_at hl 1 rfl) ?_
    refine lv_iconst (v := 4) hx hb dMo_workArrives_38 (by decide) ?_
    refine lv_iconst (v := 1) hx hb dMo_workArrives_39 (by decide) ?_
    refine lv_iconst (v := 0) hx hb dMo_workArrives_40 (by decide) ?_
    obtain ⟨P5, hP5, hwp⟩ := hwp
    refine uCallVv (As := [.int y2, .int y1, .int 4, .int 1, .int 0]) (rest := []) (C := RMo) ⟨hx, hb, hml, hown, hts⟩ (kM_send l D a A tI tZ σ y2 y1 4 1 0 P5 hP5) (cwV 5 hts (gdV wm_858 wm_860 wp_18 wm_13 wm_861) rfl rfl rfl (by decide +kernel) ⟨Nat.le_of_ble_eq_true rfl, Nat.le_of_ble_eq_true rfl⟩) (va_recv (ci := 0) (q0 := 0) hK hP rfl rfl) hP hK hD hA hS rfl hl.1 rfl (Nat.le_of_ble_eq_true rfl) dMo_workArrives_41 ⟨Nat.le_of_ble_eq_true rfl, Nat.le_of_ble_eq_true rfl⟩ (fun u6 H locs hu6 hP hD hS => ?_)
    have hwp := hwp u6 hu6
    refine lv_goto hx hb dMo_workArrives_44 rfl ?_
    exact cut54 u6 y1 y2 y3 _ _ _ hwp hP hD hS (lv_sub hl [0, 1, 2, 3] rfl)
  have hl := lv_entry ([.ref (a 0), .int x1, .int x2, .int x3]) (n := 4) (Nat.le_of_ble_eq_true rfl)
  rw [lg_entry_eq]
  generalize (lg_sl ([.ref (a 0), .int x1, .int x2, .int x3]) ++ List.replicate (4 - (lg_sl ([.ref (a 0), .int x1, .int x2, .int x3])).length) Slot.unset).toArray = ls at hl ⊢
  have hl : lv_has ls 4 [(0, .ref (a 0)), (1, .int x1), (2, .int x2), (3, .int x3)] := hl
  refine lv_iload_n hx hb dMo_workArrives_0 rfl (lv_at hl 3 rfl) ?_
  refine lv_iconst (v := 1) hx hb dMo_workArrives_1 (by decide) ?_
  refine lv_icmp_ne hx hb dMo_workArrives_2 rfl (fun h7 => ?_) (fun h7 => ?_)
  · have hwp := hwp.1 h7
    refine lv_aload_n hx hb dMo_workArrives_18 rfl (lv_at hl 0 rfl) ?_
    refine va_get (D := D) (ci := 0) (C := RMo) (T := TMo) (N := 33) hx hb hts hin0 hown hK hP 0 rfl rfl 27 (by decide) k78 (fun _ h9 => h9) rfl dMo_workArrives_19 ?_
    refine lv_iload_n hx hb dMo_workArrives_22 rfl (lv_at hl 2 rfl) ?_
    refine lv_icmp_eq hx hb dMo_workArrives_23 rfl (fun h8 => ?_) (fun h8 => ?_)
    · have hwp := hwp.1 h8
      exact cut35 σ x1 x2 x3 _ _ _ hwp hP hD hS (lv_sub hl [0, 1, 2, 3] rfl)
    · have hwp := hwp.2 h8
      refine lv_aload_n hx hb dMo_workArrives_26 rfl (lv_at hl 0 rfl) ?_
      refine va_get (D := D) (ci := 0) (C := RMo) (T := TMo) (N := 33) hx hb hts hin0 hown hK hP 0 rfl rfl 30 (by decide) k84 (fun _ h9 => h9) rfl dMo_workArrives_27 ?_
      refine lv_iload_n hx hb dMo_workArrives_30 rfl (lv_at hl 2 rfl) ?_
      obtain ⟨hi9, hwp⟩ := hwp
      refine va_iald hx hb hK hP 23 0 rfl rfl hi9 dMo_workArrives_31 ?_
      refine lv_if_lt hx hb dMo_workArrives_32 rfl (fun h10 => ?_) (fun h10 => ?_)
      · have hwp := hwp.1 h10
        refine lv_aload_n hx hb dMo_workArrives_47 rfl (lv_at hl 0 rfl) ?_
        refine va_get (D := D) (ci := 0) (C := RMo) (T := TMo) (N := 33) hx hb hts hin0 hown hK hP 0 rfl rfl 30 (by decide) k84 (fun _ h9 => h9) rfl dMo_workArrives_48 ?_
        refine lv_iload_n hx hb dMo_workArrives_51 rfl (lv_at hl 2 rfl) ?_
        refine lv_iload_n hx hb dMo_workArrives_52 rfl (lv_at hl 1 rfl) ?_
        obtain ⟨hi11, hwp⟩ := hwp
        refine va_iast hx hb hK hP hD hS 23 0 rfl rfl hi11 dMo_workArrives_53 (fun H locs hP hD hS => ?_)
        obtain ⟨σ12, eσ12⟩ : ∃ z, z = up2 σ 30 x2.toNatClampNeg x1 := ⟨_, rfl⟩
        have hwp := hwp σ12 eσ12
        have hP : va_P D clA (mw a tI tZ σ12) H := by rw [eσ12]; exact hP
        have hD : va_D A (mw a tI tZ σ12) := by rw [eσ12]; exact hD
        exact cut54 σ12 x1 x2 x3 _ _ _ hwp hP hD hS (lv_sub hl [0, 1, 2, 3] rfl)
      · have hwp := hwp.2 h10
        exact cut35 σ x1 x2 x3 _ _ _ hwp hP hD hS (lv_sub hl [0, 1, 2, 3] rfl)
  · have hwp := hwp.2 h7
    refine lv_aload_n hx hb dMo_workArrives_5 rfl (lv_at hl 0 rfl) ?_
    refine va_get (D := D) (ci := 0) (C := RMo) (T := TMo) (N := 33) hx hb hts hin0 hown hK hP 0 rfl rfl 31 (by decide) k87 (fun _ h9 => h9) rfl dMo_workArrives_6 ?_
    refine lv_iload_n hx hb dMo_workArrives_9 rfl (lv_at hl 2 rfl) ?_
    refine lv_dup2_11 hx hb dMo_workArrives_10 rfl rfl ?_
    obtain ⟨hi13, hwp⟩ := hwp
    refine va_iald hx hb hK hP 24 0 rfl rfl hi13 dMo_workArrives_11 ?_
    refine lv_iconst (v := 1) hx hb dMo_workArrives_12 (by decide) ?_
    refine lv_isub hx hb dMo_workArrives_13 ?_
    obtain ⟨hi14, hwp⟩ := hwp
    refine va_iast hx hb hK hP hD hS 24 0 rfl rfl hi14 dMo_workArrives_14 (fun H locs hP hD hS => ?_)
    obtain ⟨σ15, eσ15⟩ : ∃ z, z = up2 σ 31 x2.toNatClampNeg ((σ 31 x2.toNatClampNeg) - 1) := ⟨_, rfl⟩
    have hwp := hwp σ15 eσ15
    have hP : va_P D clA (mw a tI tZ σ15) H := by rw [eσ15]; exact hP
    have hD : va_D A (mw a tI tZ σ15) := by rw [eσ15]; exact hD
    refine lv_goto hx hb dMo_workArrives_15 rfl ?_
    exact cut61 σ15 x1 x2 x3 _ _ _ hwp hP hD hS (lv_sub hl [0, 1, 2, 3] rfl)
-- public void want(int, int)
def wM_want_62 (R : MS → Prop) (σ : MS) (y1 : Int32) (y2 : Int32) : Prop :=
  (vp_in ((4 * y1) + y2) 12 ∧ (∀ σ2 : MS, σ2 = up2 σ 8 ((4 * y1) + y2).toNatClampNeg 1 → (((¬ y1 = 0) → (((¬ y1 = 1) → (∃ P5 : MS → Prop, wM_enqueue P5 σ2 y2 y2 ∧ (∀ (u6 : MS), P5 u6 → (∃ P7 : MS → Prop, wM_goOn P7 u6 y2 ∧ (∀ (u8 : MS), P7 u8 → R u8))))) ∧ ((y1 = 1) → (vp_in (5 * y2) 16 ∧ (vp_in (5 * y2) 16 ∧ (∀ σ11 : MS, σ11 = up2 σ2 15 (5 * y2).toNatClampNeg ((σ2 15 (5 * y2).toNatClampNeg) + 1) → (vp_in (5 * y2) 16 ∧ (∃ P13 : MS → Prop, wM_sendAll P13 σ11 y2 1 0 (σ11 15 (5 * y2).toNatClampNeg) ∧ (∀ (u14 : MS), P13 u14 → R u14))))))))) ∧ ((y1 = 0) → (vp_in y2 4 ∧ (vp_in y2 4 ∧ (∀ σ17 : MS, σ17 = up2 σ2 11 y2.toNatClampNeg ((σ2 11 y2.toNatClampNeg) + 1) → (vp_in y2 4 ∧ (vp_in y2 4 ∧ (∀ σ20 : MS, σ20 = up2 σ17 12 y2.toNatClampNeg (σ17 11 y2.toNatClampNeg) → (vp_in y2 4 ∧ (∀ σ22 : MS, σ22 = up2 σ20 13 y2.toNatClampNeg 0 → (vp_in y2 4 ∧ (∃ P24 : MS → Prop, wM_sendAll P24 σ22 y2 0 0 (σ22 12 y2.toNatClampNeg) ∧ (∀ (u25 : MS), P24 u25 → R u25)))))))))))))))
def wM_want_31 (R : MS → Prop) (σ : MS) (y1 : Int32) (y2 : Int32) (z1 : Int32) : Prop :=
  (∀ σ26 : MS, σ26 = up2 σ 32 0 z1 → ((((σ26 32 0) = 0) → (((¬ y1 = 1) → wM_want_62 R σ26 y1 y2) ∧ ((y1 = 1) → (((¬ (σ26 17 0) = y2) → wM_want_62 R σ26 y1 y2) ∧ (((σ26 17 0) = y2) → (∃ P30 : MS → Prop, wM_comeIn P30 σ26 1 y2 ∧ (∀ (u31 : MS), P30 u31 → R u31))))))) ∧ ((¬ (σ26 32 0) = 0) → R σ26)))
def wM_want (R : MS → Prop) (σ : MS) (x1 x2 : Int32) : Prop :=
  (∃ P32 : Int32 → MS → Prop, wM_isLock P32 σ x1 x2 ∧ (∀ (r34 : Int32) (u33 : MS), P32 r34 u33 → (((¬ r34 = 0) → (vp_in ((4 * x1) + x2) 12 ∧ ((((u33 8 ((4 * x1) + x2).toNatClampNeg) = 0) → wM_want_31 R u33 x1 x2 0) ∧ ((¬ (u33 8 ((4 * x1) + x2).toNatClampNeg) = 0) → wM_want_31 R u33 x1 x2 2)))) ∧ ((r34 = 0) → wM_want_31 R u33 x1 x2 1))))
abbrev wsMo_want : List Cond := .code yMo_want cMo_want 3 none :: wg
abbrev rmM_want : Room := { frames := 2, cells := 0, slots := 0, locals := 52 }
set_option maxHeartbeats 4000000 in
set_option maxRecDepth 100000 in
theorem kM_want (l : Launch) (D : va_G) (a : Nat → Nat) (A : Nat → Prop) (tI tZ : ClassId) (σ : MS) (x1 x2 : Int32) (R : MS → Prop) (hwp : wM_want R σ x1 x2) : Met l yMo_want wsMo_want rmM_want (va_Pc [.ref (a 0), .int x1, .int x2] (uI D clA (mT tI tZ) A false (mw a tI tZ) σ)) (va_Qv R (uI D clA (mT tI tZ) A false (mw a tI tZ)) A) 0 0 A := by
  refine Met.ofW (cc := cMo_want) (maxL := 3) (ret := none) (by decide) rfl ?_
  intro p e s m args below meth c s₁ B hml hv
  obtain ⟨rfl, hP, hK, hD, hA⟩ := hv
  have hx := B.exec
  have hb := B.bytes
  have hr := B.returns
  have hts := atoms_spec (ws := wsMo_want) B.pre
  have hown : s.vm.findClass RMo = some m.cls := findClass_of_methodNamed B.named
  have hlocks := B.notSynchronized
  have hin0 : ∀ w ∈ u_ws RMo TMo 33, w ∈ wsMo_want := fun w h => List.mem_cons_of_mem _ (inMo w h)
  have k134 := hts _ (List.mem_cons_of_mem _ wm_753)
  have k32 := hts _ (List.mem_cons_of_mem _ wm_744)
  have k35 := hts _ (List.mem_cons_of_mem _ wm_747)
  have k38 := hts _ (List.mem_cons_of_mem _ wm_748)
  have k41 := hts _ (List.mem_cons_of_mem _ wm_749)
  have k47 := hts _ (List.mem_cons_of_mem _ wm_751)
  have k90 := hts _ (List.mem_cons_of_mem _ wm_768)
  have hS : va_S A s.heap s.heap [] := va_S.rf
  have cut62 : ∀ (σ : MS) (y1 : Int32) (y2 : Int32) (H : Heap) (locs : List Loc) (ls : Array Slot), wM_want_62 R σ y1 y2 → va_P D clA (mw a tI tZ σ) H → va_D A (mw a tI tZ σ) → va_S A s.heap H locs → lv_has ls 3 [(0, .ref (a 0)), (1, .int y1), (2, .int y2)] → W p l e (headSpec wsMo_want rmM_want).room s m ([.ref (a 0), .int x1, .int x2] : List Value).toArray below meth c H locs 0 0 (MQ below (va_Qv R (uI D clA (mT tI tZ) A false (mw a tI tZ)) A) ([.ref (a 0), .int x1, .int x2] : List Value).toArray s 0 0 A) (F0 m 62 ls []) := by
    intro σ y1 y2 H locs ls hwp hP hD hS hl
    refine lv_aload_n hx hb dMo_want_62 rfl (lv_at hl 0 rfl) ?_
    refine va_get (D := D) (ci := 0) (C := RMo) (T := TMo) (N := 33) hx hb hts hin0 hown hK hP 0 rfl rfl 8 (by decide) k32 (fun _ h9 => h9) rfl dMo_want_63 ?_
    refine lv_iconst (v := 4) hx hb dMo_want_66 (by decide) ?_
    refine lv_iload_n hx hb dMo_want_67 rfl (lv_at hl 1 rfl) ?_
    refine lv_imul hx hb dMo_want_68 ?_
    refine lv_iload_n hx hb dMo_want_69 rfl (lv_at hl 2 rfl) ?_
    refine lv_iadd hx hb dMo_want_70 ?_
    refine lv_iconst (v := 1) hx hb dMo_want_71 (by decide) ?_
    obtain ⟨hi1, hwp⟩ := hwp
    refine va_iast hx hb hK hP hD hS 7 0 rfl rfl hi1 dMo_want_72 (fun H locs hP hD hS => ?_)
    obtain ⟨σ2, eσ2⟩ : ∃ z, z = up2 σ 8 ((4 * y1) + y2).toNatClampNeg 1 := ⟨_, rfl⟩
    have hwp := hwp σ2 eσ2
    have hP : va_P D clA (mw a tI tZ σ2) H := by rw [eσ2]; exact hP
    have hD : va_D A (mw a tI tZ σ2) := by rw [eσ2]; exact hD
    refine lv_iload_n hx hb dMo_want_73 rfl (lv_at hl 1 rfl) ?_
    refine lv_if_ne hx hb dMo_want_74 rfl (fun h3 => ?_) (fun h3 => ?_)
    · have hwp := hwp.1 h3
      refine lv_iload_n hx hb dMo_want_122 rfl (lv_at hl 1 rfl) ?_
      refine lv_iconst (v := 1) hx hb dMo_want_123 (by decide) ?_
      refine lv_icmp_ne hx hb dMo_want_124 rfl (fun h4 => ?_) (fun h4 => ?_)
      · have hwp := hwp.1 h4
        refine lv_aload_n hx hb dMo_want_157 rfl (lv_at hl 0 rfl) ?_
        refine lv_iload_n hx hb dMo_want_158 rfl (lv_at hl 2 rfl) ?_
        refine lv_iload_n hx hb dMo_want_159 rfl (lv_at hl 2 rfl) ?_
        obtain ⟨P5, hP5, hwp⟩ := hwp
        refine uCallVv (As := [.int y2, .int y2]) (rest := []) (C := RMo) ⟨hx, hb, hml, hown, hts⟩ (kM_enqueue l D a A tI tZ σ2 y2 y2 P5 hP5) (cwV 2 hts (gdV wm_874 wm_876 wp_22 wm_13 wm_877) rfl rfl rfl (by decide +kernel) ⟨Nat.le_of_ble_eq_true rfl, Nat.le_of_ble_eq_true rfl⟩) (va_recv (ci := 0) (q0 := 0) hK hP rfl rfl) hP hK hD hA hS rfl hl.1 rfl (Nat.le_of_ble_eq_true rfl) dMo_want_160 ⟨Nat.le_of_ble_eq_true rfl, Nat.le_of_ble_eq_true rfl⟩ (fun u6 H locs hu6 hP hD hS => ?_)
        have hwp := hwp u6 hu6
        refine lv_aload_n hx hb dMo_want_163 rfl (lv_at hl 0 rfl) ?_
        refine lv_iload_n hx hb dMo_want_164 rfl (lv_at hl 2 rfl) ?_
        obtain ⟨P7, hP7, hwp⟩ := hwp
        refine uCallVv (As := [.int y2]) (rest := []) (C := RMo) ⟨hx, hb, hml, hown, hts⟩ (kM_goOn l D a A tI tZ u6 y2 P7 hP7) (cwV 1 hts (gdV wm_878 wm_880 wp_23 wm_13 wm_881) rfl rfl rfl (by decide +kernel) ⟨Nat.le_of_ble_eq_true rfl, Nat.le_of_ble_eq_true rfl⟩) (va_recv (ci := 0) (q0 := 0) hK hP rfl rfl) hP hK hD hA hS rfl hl.1 rfl (Nat.le_of_ble_eq_true rfl) dMo_want_165 ⟨Nat.le_of_ble_eq_true rfl, Nat.le_of_ble_eq_true rfl⟩ (fun u8 H locs hu8 hP hD hS => ?_)
        have hwp := hwp u8 hu8
        exact W.vret hx hb hr (fun t ht hW => ⟨⟨u8, rfl, hwp, uEnd ht hW hP hK hD hS hA⟩, hS.F ht⟩) hS.2.2 dMo_want_168
      · have hwp := hwp.2 h4
        refine lv_aload_n hx hb dMo_want_127 rfl (lv_at hl 0 rfl) ?_
        refine va_get (D := D) (ci := 0) (C := RMo) (T := TMo) (N := 33) hx hb hts hin0 hown hK hP 0 rfl rfl 15 (by decide) k47 (fun _ h9 => h9) rfl dMo_want_128 ?_
        refine lv_iconst (v := 5) hx hb dMo_want_131 (by decide) ?_
        refine lv_iload_n hx hb dMo_want_132 rfl (lv_at hl 2 rfl) ?_
        refine lv_imul hx hb dMo_want_133 ?_
        refine lv_dup2_11 hx hb dMo_want_134 rfl rfl ?_
        obtain ⟨hi9, hwp⟩ := hwp
        refine va_iald hx hb hK hP 12 0 rfl rfl hi9 dMo_want_135 ?_
        refine lv_iconst (v := 1) hx hb dMo_want_136 (by decide) ?_
        refine lv_iadd hx hb dMo_want_137 ?_
        obtain ⟨hi10, hwp⟩ := hwp
        refine va_iast hx hb hK hP hD hS 12 0 rfl rfl hi10 dMo_want_138 (fun H locs hP hD hS => ?_)
        obtain ⟨σ11, eσ11⟩ : ∃ z, z = up2 σ2 15 (5 * y2).toNatClampNeg ((σ2 15 (5 * y2).toNatClampNeg) + 1) := ⟨_, rfl⟩
        have hwp := hwp σ11 eσ11
        have hP : va_P D clA (mw a tI tZ σ11) H := by rw [eσ11]; exact hP
        have hD : va_D A (mw a tI tZ σ11) := by rw [eσ11]; exact hD
        refine lv_aload_n hx hb dMo_want_139 rfl (lv_at hl 0 rfl) ?_
        refine lv_iload_n hx hb dMo_want_140 rfl (lv_at hl 2 rfl) ?_
        refine lv_iconst (v := 1) hx hb dMo_want_141 (by decide) ?_
        refine lv_iconst (v := 0) hx hb dMo_want_142 (by decide) ?_
        refine lv_aload_n hx hb dMo_want_143 rfl (lv_at hl 0 rfl) ?_
        refine va_get (D := D) (ci := 0) (C := RMo) (T := TMo) (N := 33) hx hb hts hin0 hown hK hP 0 rfl rfl 15 (by decide) k47 (fun _ h9 => h9) rfl dMo_want_144 ?_
        refine lv_iconst (v := 5) hx hb dMo_want_147 (by decide) ?_
        refine lv_iload_n hx hb dMo_want_148 rfl (lv_at hl 2 rfl) ?_
        refine lv_imul hx hb dMo_want_149 ?_
        obtain ⟨hi12, hwp⟩ := hwp
        refine va_iald hx hb hK hP 12 0 rfl rfl hi12 dMo_want_150 ?_
        obtain ⟨P13, hP13, hwp⟩ := hwp
        refine uCallVv (As := [.int y2, .int 1, .int 0, .int (σ11 15 (5 * y2).toNatClampNeg)]) (rest := []) (C := RMo) ⟨hx, hb, hml, hown, hts⟩ (kM_sendAll l D a A tI tZ σ11 y2 1 0 (σ11 15 (5 * y2).toNatClampNeg) P13 hP13) (cwV 4 hts (gdV wm_913 wm_915 wp_28 wm_13 wm_916) rfl rfl rfl (by decide +kernel) ⟨Nat.le_of_ble_eq_true rfl, Nat.le_of_ble_eq_true rfl⟩) (va_recv (ci := 0) (q0 := 0) hK hP rfl rfl) hP hK hD hA hS rfl hl.1 rfl (Nat.le_of_ble_eq_true rfl) dMo_want_151 ⟨Nat.le_of_ble_eq_true rfl, Nat.le_of_ble_eq_true rfl⟩ (fun u14 H locs hu14 hP hD hS => ?_)
        have hwp := hwp u14 hu14
        refine lv_goto hx hb dMo_want_154 rfl ?_
        exact W.vret hx hb hr (fun t ht hW => ⟨⟨u14, rfl, hwp, uEnd ht hW hP hK hD hS hA⟩, hS.F ht⟩) hS.2.2 dMo_want_168
    · have hwp := hwp.2 h3
      refine lv_aload_n hx hb dMo_want_77 rfl (lv_at hl 0 rfl) ?_
      refine va_get (D := D) (ci := 0) (C := RMo) (T := TMo) (N := 33) hx hb hts hin0 hown hK hP 0 rfl rfl 11 (by decide) k35 (fun _ h9 => h9) rfl dMo_want_78 ?_
      refine lv_iload_n hx hb dMo_want_81 rfl (lv_at hl 2 rfl) ?_
      refine lv_dup2_11 hx hb dMo_want_82 rfl rfl ?_
      obtain ⟨hi15, hwp⟩ := hwp
      refine va_iald hx hb hK hP 8 0 rfl rfl hi15 dMo_want_83 ?_
      refine lv_iconst (v := 1) hx hb dMo_want_84 (by decide) ?_
      refine lv_iadd hx hb dMo_want_85 ?_
      obtain ⟨hi16, hwp⟩ := hwp
      refine va_iast hx hb hK hP hD hS 8 0 rfl rfl hi16 dMo_want_86 (fun H locs hP hD hS => ?_)
      obtain ⟨σ17, eσ17⟩ : ∃ z, z = up2 σ2 11 y2.toNatClampNeg ((σ2 11 y2.toNatClampNeg) + 1) := ⟨_, rfl⟩
      have hwp := hwp σ17 eσ17
      have hP : va_P D clA (mw a tI tZ σ17) H := by rw [eσ17]; exact hP
      have hD : va_D A (mw a tI tZ σ17) := by rw [eσ17]; exact hD
      refine lv_aload_n hx hb dMo_want_87 rfl (lv_at hl 0 rfl) ?_
      refine va_get (D := D) (ci := 0) (C := RMo) (T := TMo) (N := 33) hx hb hts hin0 hown hK hP 0 rfl rfl 12 (by decide) k38 (fun _ h9 => h9) rfl dMo_want_88 ?_
      refine lv_iload_n hx hb dMo_want_91 rfl (lv_at hl 2 rfl) ?_
      refine lv_aload_n hx hb dMo_want_92 rfl (lv_at hl 0 rfl) ?_
      refine va_get (D := D) (ci := 0) (C := RMo) (T := TMo) (N := 33) hx hb hts hin0 hown hK hP 0 rfl rfl 11 (by decide) k35 (fun _ h9 => h9) rfl dMo_want_93 ?_
      refine lv_iload_n hx hb dMo_want_96 rfl (lv_at hl 2 rfl) ?_
      obtain ⟨hi18, hwp⟩ := hwp
      refine va_iald hx hb hK hP 8 0 rfl rfl hi18 dMo_want_97 ?_
      obtain ⟨hi19, hwp⟩ := hwp
      refine va_iast hx hb hK hP hD hS 9 0 rfl rfl hi19 dMo_want_98 (fun H locs hP hD hS => ?_)
      obtain ⟨σ20, eσ20⟩ : ∃ z, z = up2 σ17 12 y2.toNatClampNeg (σ17 11 y2.toNatClampNeg) := ⟨_, rfl⟩
      have hwp := hwp σ20 eσ20
      have hP : va_P D clA (mw a tI tZ σ20) H := by rw [eσ20]; exact hP
      have hD : va_D A (mw a tI tZ σ20) := by rw [eσ20]; exact hD
      refine lv_aload_n hx hb dMo_want_99 rfl (lv_at hl 0 rfl) ?_
      refine va_get (D := D) (ci := 0) (C := RMo) (T := TMo) (N := 33) hx hb hts hin0 hown hK hP 0 rfl rfl 13 (by decide) k41 (fun _ h9 => h9) rfl dMo_want_100 ?_
      refine lv_iload_n hx hb dMo_want_103 rfl (lv_at hl 2 rfl) ?_
      refine lv_iconst (v := 0) hx hb dMo_want_104 (by decide) ?_
      obtain ⟨hi21, hwp⟩ := hwp
      refine va_iast hx hb hK hP hD hS 10 0 rfl rfl hi21 dMo_want_105 (fun H locs hP hD hS => ?_)
      obtain ⟨σ22, eσ22⟩ : ∃ z, z = up2 σ20 13 y2.toNatClampNeg 0 := ⟨_, rfl⟩
      have hwp := hwp σ22 eσ22
      have hP : va_P D clA (mw a tI tZ σ22) H := by rw [eσ22]; exact hP
      have hD : va_D A (mw a tI tZ σ22) := by rw [eσ22]; exact hD
      refine lv_aload_n hx hb dMo_want_106 rfl (lv_at hl 0 rfl) ?_
      refine lv_iload_n hx hb dMo_want_107 rfl (lv_at hl 2 rfl) ?_
      refine lv_iconst (v := 0) hx hb dMo_want_108 (by decide) ?_
      refine lv_iconst (v := 0) hx hb dMo_want_109 (by decide) ?_
      refine lv_aload_n hx hb dMo_want_110 rfl (lv_at hl 0 rfl) ?_
      refine va_get (D := D) (ci := 0) (C := RMo) (T := TMo) (N := 33) hx hb hts hin0 hown hK hP 0 rfl rfl 12 (by decide) k38 (fun _ h9 => h9) rfl dMo_want_111 ?_
      refine lv_iload_n hx hb dMo_want_114 rfl (lv_at hl 2 rfl) ?_
      obtain ⟨hi23, hwp⟩ := hwp
      refine va_iald hx hb hK hP 9 0 rfl rfl hi23 dMo_want_115 ?_
      obtain ⟨P24, hP24, hwp⟩ := hwp
      refine uCallVv (As := [.int y2, .int 0, .int 0, .int (σ22 12 y2.toNatClampNeg)]) (rest := []) (C := RMo) ⟨hx, hb, hml, hown, hts⟩ (kM_sendAll l D a A tI tZ σ22 y2 0 0 (σ22 12 y2.toNatClampNeg) P24 hP24) (cwV 4 hts (gdV wm_913 wm_915 wp_28 wm_13 wm_916) rfl rfl rfl (by decide +kernel) ⟨Nat.le_of_ble_eq_true rfl, Nat.le_of_ble_eq_true rfl⟩) (va_recv (ci := 0) (q0 := 0) hK hP rfl rfl) hP hK hD hA hS rfl hl.1 rfl (Nat.le_of_ble_eq_true rfl) dMo_want_116 ⟨Nat.le_of_ble_eq_true rfl, Nat.le_of_ble_eq_true rfl⟩ (fun u25 H locs hu25 hP hD hS => ?_)
      have hwp := hwp u25 hu25
      refine lv_goto hx hb dMo_want_119 rfl ?_
      exact W.vret hx hb hr (fun t ht hW => ⟨⟨u25, rfl, hwp, uEnd ht hW hP hK hD hS hA⟩, hS.F ht⟩) hS.2.2 dMo_want_168
  have cut31 : ∀ (σ : MS) (y1 : Int32) (y2 : Int32) (z1 : Int32) (H : Heap) (locs : List Loc) (ls : Array Slot), wM_want_31 R σ y1 y2 z1 → va_P D clA (mw a tI tZ σ) H → va_D A (mw a tI tZ σ) → va_S A s.heap H locs → lv_has ls 3 [(0, .ref (a 0)), (1, .int y1), (2, .int y2)] → W p l e (headSpec wsMo_want rmM_want).room s m ([.ref (a 0), .int x1, .int x2] : List Value).toArray below meth c H locs 0 0 (MQ below (va_Qv R (uI D clA (mT tI tZ) A false (mw a tI tZ)) A) ([.ref (a 0), .int x1, .int x2] : List Value).toArray s 0 0 A) (F0 m 31 ls [.int z1, .ref (a 0)]) := by
    intro σ y1 y2 z1 H locs ls hwp hP hD hS hl
    refine va_put (ty := .int) (D := D) (ci := 0) (C := RMo) (T := TMo) (N := 33) hx hb hts hin0 tyMo tyMo_ok nmMo hown hK hP hD hS 0 rfl rfl 32 (by decide) k90 (fun _ h9 => h9) rfl (by decide +kernel) rfl rfl (Nat.le_of_ble_eq_true rfl) dMo_want_31 (fun H locs hP hD hS => ?_)
    obtain ⟨σ26, eσ26⟩ : ∃ z, z = up2 σ 32 0 z1 := ⟨_, rfl⟩
    have hwp := hwp σ26 eσ26
    have hP : va_P D clA (mw a tI tZ σ26) H := by rw [eσ26]; exact hP
    have hD : va_D A (mw a tI tZ σ26) := by rw [eσ26]; exact hD
    refine lv_aload_n hx hb dMo_want_34 rfl (lv_at hl 0 rfl) ?_
    refine va_get (D := D) (ci := 0) (C := RMo) (T := TMo) (N := 33) hx hb hts hin0 hown hK hP 0 rfl rfl 32 (by decide) k90 (fun _ h9 => h9) rfl dMo_want_35 ?_
    refine lv_if_eq hx hb dMo_want_38 rfl (fun h27 => ?_) (fun h27 => ?_)
    · have hwp := hwp.1 h27
      refine lv_iload_n hx hb dMo_want_42 rfl (lv_at hl 1 rfl) ?_
      refine lv_iconst (v := 1) hx hb dMo_want_43 (by decide) ?_
      refine lv_icmp_ne hx hb dMo_want_44 rfl (fun h28 => ?_) (fun h28 => ?_)
      · have hwp := hwp.1 h28
        exact cut62 σ26 y1 y2 _ _ _ hwp hP hD hS (lv_sub hl [0, 1, 2] rfl)
      · have hwp := hwp.2 h28
        refine lv_aload_n hx hb dMo_want_47 rfl (lv_at hl 0 rfl) ?_
        refine va_get (D := D) (ci := 0) (C := RMo) (T := TMo) (N := 33) hx hb hts hin0 hown hK hP 0 rfl rfl 17 (by decide) k134 (fun _ h9 => h9) rfl dMo_want_48 ?_
        refine lv_iload_n hx hb dMo_want_51 rfl (lv_at hl 2 rfl) ?_
        refine lv_icmp_ne hx hb dMo_want_52 rfl (fun h29 => ?_) (fun h29 => ?_)
        · have hwp := hwp.1 h29
          exact cut62 σ26 y1 y2 _ _ _ hwp hP hD hS (lv_sub hl [0, 1, 2] rfl)
        · have hwp := hwp.2 h29
          refine lv_aload_n hx hb dMo_want_55 rfl (lv_at hl 0 rfl) ?_
          refine lv_iconst (v := 1) hx hb dMo_want_56 (by decide) ?_
          refine lv_iload_n hx hb dMo_want_57 rfl (lv_at hl 2 rfl) ?_
          obtain ⟨P30, hP30, hwp⟩ := hwp
          refine uCallVv (As := [.int 1, .int y2]) (rest := []) (C := RMo) ⟨hx, hb, hml, hown, hts⟩ (kM_comeIn l D a A tI tZ σ26 1 y2 P30 hP30) (cwV 2 hts (gdV wm_854 wm_856 wp_17 wm_13 wm_857) rfl rfl rfl (by decide +kernel) ⟨Nat.le_of_ble_eq_true rfl, Nat.le_of_ble_eq_true rfl⟩) (va_recv (ci := 0) (q0 := 0) hK hP rfl rfl) hP hK hD hA hS rfl hl.1 rfl (Nat.le_of_ble_eq_true rfl) dMo_want_58 ⟨Nat.le_of_ble_eq_true rfl, Nat.le_of_ble_eq_true rfl⟩ (fun u31 H locs hu31 hP hD hS => ?_)
          have hwp := hwp u31 hu31
          exact W.vret hx hb hr (fun t ht hW => ⟨⟨u31, rfl, hwp, uEnd ht hW hP hK hD hS hA⟩, hS.F ht⟩) hS.2.2 dMo_want_61
    · have hwp := hwp.2 h27
      exact W.vret hx hb hr (fun t ht hW => ⟨⟨σ26, rfl, hwp, uEnd ht hW hP hK hD hS hA⟩, hS.F ht⟩) hS.2.2 dMo_want_41
  have hl := lv_entry ([.ref (a 0), .int x1, .int x2]) (n := 3) (Nat.le_of_ble_eq_true rfl)
  rw [lg_entry_eq]
  generalize (lg_sl ([.ref (a 0), .int x1, .int x2]) ++ List.replicate (3 - (lg_sl ([.ref (a 0), .int x1, .int x2])).length) Slot.unset).toArray = ls at hl ⊢
  have hl : lv_has ls 3 [(0, .ref (a 0)), (1, .int x1), (2, .int x2)] := hl
  refine lv_aload_n hx hb dMo_want_0 rfl (lv_at hl 0 rfl) ?_
  refine lv_iload_n hx hb dMo_want_1 rfl (lv_at hl 1 rfl) ?_
  refine lv_iload_n hx hb dMo_want_2 rfl (lv_at hl 2 rfl) ?_
  obtain ⟨P32, hP32, hwp⟩ := hwp
  refine uCallSi (As := [.int x1, .int x2]) (rest := [.ref (a 0)]) ⟨hx, hb, hml, hown, hts⟩ (kM_isLock l D a A tI tZ σ x1 x2 P32 hP32) (cwS 2 hts (gdS wm_910 wm_911 wm_13 wm_912) rfl rfl rfl (by decide +kernel) ⟨Nat.le_of_ble_eq_true rfl, Nat.le_of_ble_eq_true rfl⟩) hP hK hD hA hS rfl hl.1 rfl (Nat.le_of_ble_eq_true rfl) dMo_want_3 ⟨Nat.le_of_ble_eq_true rfl, Nat.le_of_ble_eq_true rfl⟩ (fun r34 u33 H locs hu33 hP hD hS => ?_)
  have hwp := hwp r34 u33 hu33
  refine lv_if_ne hx hb dMo_want_6 rfl (fun h35 => ?_) (fun h35 => ?_)
  · have hwp := hwp.1 h35
    refine lv_aload_n hx hb dMo_want_13 rfl (lv_at hl 0 rfl) ?_
    refine va_get (D := D) (ci := 0) (C := RMo) (T := TMo) (N := 33) hx hb hts hin0 hown hK hP 0 rfl rfl 8 (by decide) k32 (fun _ h9 => h9) rfl dMo_want_14 ?_
    refine lv_iconst (v := 4) hx hb dMo_want_17 (by decide) ?_
    refine lv_iload_n hx hb dMo_want_18 rfl (lv_at hl 1 rfl) ?_
    refine lv_imul hx hb dMo_want_19 ?_
    refine lv_iload_n hx hb dMo_want_20 rfl (lv_at hl 2 rfl) ?_
    refine lv_iadd hx hb dMo_want_21 ?_
    obtain ⟨hi36, hwp⟩ := hwp
    refine va_iald hx hb hK hP 7 0 rfl rfl hi36 dMo_want_22 ?_
    refine lv_if_eq hx hb dMo_want_23 rfl (fun h37 => ?_) (fun h37 => ?_)
    · have hwp := hwp.1 h37
      refine lv_iconst (v := 0) hx hb dMo_want_30 (by decide) ?_
      exact cut31 u33 x1 x2 0 _ _ _ hwp hP hD hS (lv_sub hl [0, 1, 2] rfl)
    · have hwp := hwp.2 h37
      refine lv_iconst (v := 2) hx hb dMo_want_26 (by decide) ?_
      refine lv_goto hx hb dMo_want_27 rfl ?_
      exact cut31 u33 x1 x2 2 _ _ _ hwp hP hD hS (lv_sub hl [0, 1, 2] rfl)
  · have hwp := hwp.2 h35
    refine lv_iconst (v := 1) hx hb dMo_want_9 (by decide) ?_
    refine lv_goto hx hb dMo_want_10 rfl ?_
    exact cut31 u33 x1 x2 1 _ _ _ hwp hP hD hS (lv_sub hl [0, 1, 2] rfl)
-- public void leave(int, int)
def wM_leave_101 (K75 : MS → Int32 → Int32 → Int32 → Int32 → Prop) (R : MS → Prop) (σ : MS) (y1 : Int32) (y2 : Int32) (y3 : Int32) (y4 : Int32) : Prop :=
  K75 σ y1 y2 y3 (y4 + 1)
def wM_leave_75_step (K75 : MS → Int32 → Int32 → Int32 → Int32 → Prop) (R : MS → Prop) (σ : MS) (y1 : Int32) (y2 : Int32) (y3 : Int32) (y4 : Int32) : Prop :=
  (((4 ≤ y4) → R σ) ∧ ((¬ 4 ≤ y4) → (((¬ ((y3 >>> (y4 &&& 31)) &&& 1) = 1) → wM_leave_101 K75 R σ y1 y2 y3 y4) ∧ ((((y3 >>> (y4 &&& 31)) &&& 1) = 1) → (∃ P3 : MS → Prop, wM_send P3 σ y2 y4 0 1 0 ∧ (∀ (u4 : MS), P3 u4 → wM_leave_101 K75 R u4 y1 y2 y3 y4))))))
def wM_leave_75 (R : MS → Prop) : Nat → MS → Int32 → Int32 → Int32 → Int32 → Prop
  | 0 => fun _ _ _ _ _ => False
  | k + 1 => fun σ y1 y2 y3 y4 => wM_leave_75_step  (wM_leave_75  R k) R σ y1 y2 y3 y4
def wM_leave_32 (R : MS → Prop) (σ : MS) (y1 : Int32) (y2 : Int32) (z1 : Int32) : Prop :=
  (∀ σ5 : MS, σ5 = up2 σ 32 0 z1 → ((((σ5 32 0) = 0) → (vp_in ((4 * y1) + y2) 12 ∧ (∀ σ8 : MS, σ8 = up2 σ5 8 ((4 * y1) + y2).toNatClampNeg 0 → (((¬ y1 = 0) → (((¬ y1 = 1) → (∃ P11 : MS → Prop, wM_goOn P11 σ8 y2 ∧ (∀ (u12 : MS), P11 u12 → R u12))) ∧ ((y1 = 1) → (∃ P13 : MS → Prop, wM_passToken P13 σ8 y2 ∧ (∀ (u14 : MS), P13 u14 → R u14))))) ∧ ((y1 = 0) → (vp_in y2 4 ∧ (∀ v16 : Int32, v16 = σ8 14 y2.toNatClampNeg → (vp_in y2 4 ∧ (∀ σ18 : MS, σ18 = up2 σ8 14 y2.toNatClampNeg 0 → wM_leave_75 R 5 σ18 y1 y2 v16 0))))))))) ∧ ((¬ (σ5 32 0) = 0) → R σ5)))
def wM_leave (R : MS → Prop) (σ : MS) (x1 x2 : Int32) : Prop :=
  (∃ P19 : Int32 → MS → Prop, wM_isLock P19 σ x1 x2 ∧ (∀ (r21 : Int32) (u20 : MS), P19 r21 u20 → (((¬ r21 = 0) → (vp_in ((4 * x1) + x2) 12 ∧ ((((u20 8 ((4 * x1) + x2).toNatClampNeg) = 2) → wM_leave_32 R u20 x1 x2 0) ∧ ((¬ (u20 8 ((4 * x1) + x2).toNatClampNeg) = 2) → wM_leave_32 R u20 x1 x2 2)))) ∧ ((r21 = 0) → wM_leave_32 R u20 x1 x2 1))))
abbrev wsMo_leave : List Cond := .code yMo_leave cMo_leave 5 none :: wg
abbrev rmM_leave : Room := { frames := 2, cells := 0, slots := 0, locals := 51 }
set_option maxHeartbeats 4000000 in
set_option maxRecDepth 100000 in
theorem kM_leave (l : Launch) (D : va_G) (a : Nat → Nat) (A : Nat → Prop) (tI tZ : ClassId) (σ : MS) (x1 x2 : Int32) (R : MS → Prop) (hwp : wM_leave R σ x1 x2) : Met l yMo_leave wsMo_leave rmM_leave (va_Pc [.ref (a 0), .int x1, .int x2] (uI D clA (mT tI tZ) A false (mw a tI tZ) σ)) (va_Qv R (uI D clA (mT tI tZ) A false (mw a tI tZ)) A) 0 0 A := by
  refine Met.ofW (cc := cMo_leave) (maxL := 5) (ret := none) (by decide) rfl ?_
  intro p e s m args below meth c s₁ B hml hv
  obtain ⟨rfl, hP, hK, hD, hA⟩ := hv
  have hx := B.exec
  have hb := B.bytes
  have hr := B.returns
  have hts := atoms_spec (ws := wsMo_leave) B.pre
  have hown : s.vm.findClass RMo = some m.cls := findClass_of_methodNamed B.named
  have hlocks := B.notSynchronized
  have hin0 : ∀ w ∈ u_ws RMo TMo 33, w ∈ wsMo_leave := fun w h => List.mem_cons_of_mem _ (inMo w h)
  have k32 := hts _ (List.mem_cons_of_mem _ wm_744)
  have k44 := hts _ (List.mem_cons_of_mem _ wm_750)
  have k90 := hts _ (List.mem_cons_of_mem _ wm_768)
  have hS : va_S A s.heap s.heap [] := va_S.rf
  have cut75 : ∀ (k75 : Nat) (σ : MS) (y1 : Int32) (y2 : Int32) (y3 : Int32) (y4 : Int32) (H : Heap) (locs : List Loc) (ls : Array Slot), wM_leave_75 R k75 σ y1 y2 y3 y4 → va_P D clA (mw a tI tZ σ) H → va_D A (mw a tI tZ σ) → va_S A s.heap H locs → lv_has ls 5 [(0, .ref (a 0)), (1, .int y1), (2, .int y2), (3, .int y3), (4, .int y4)] → W p l e (headSpec wsMo_leave rmM_leave).room s m ([.ref (a 0), .int x1, .int x2] : List Value).toArray below meth c H locs 0 0 (MQ below (va_Qv R (uI D clA (mT tI tZ) A false (mw a tI tZ)) A) ([.ref (a 0), .int x1, .int x2] : List Value).toArray s 0 0 A) (F0 m 75 ls []) := by
    intro k75
    induction k75 with
    | zero => intro σ y1 y2 y3 y4 H locs ls hwp hP hD hS hl; exact False.elim hwp
    | succ k75 ih75 =>
      intro σ y1 y2 y3 y4 H locs ls hwp hP hD hS hl
      have cut101 : ∀ (σ : MS) (y1 : Int32) (y2 : Int32) (y3 : Int32) (y4 : Int32) (H : Heap) (locs : List Loc) (ls : Array Slot), wM_leave_101 (wM_leave_75 R k75) R σ y1 y2 y3 y4 → va_P D clA (mw a tI tZ σ) H → va_D A (mw a tI tZ σ) → va_S A s.heap H locs → lv_has ls 5 [(0, .ref (a 0)), (1, .int y1), (2, .int y2), (3, .int y3), (4, .int y4)] → W p l e (headSpec wsMo_leave rmM_leave).room s m ([.ref (a 0), .int x1, .int x2] : List Value).toArray below meth c H locs 0 0 (MQ below (va_Qv R (uI D clA (mT tI tZ) A false (mw a tI tZ)) A) ([.ref (a 0), .int x1, .int x2] : List Value).toArray s 0 0 A) (F0 m 101 ls []) := by
        intro σ y1 y2 y3 y4 H locs ls hwp hP hD hS hl
        refine lv_iinc (k := 4) hx hb dMo_leave_101 hl rfl (fx_inc1 _) (by decide) rfl (fun ls hl => ?_)
        have hl : lv_has ls 5 [(4, .int (y4 + 1)), (0, .ref (a 0)), (1, .int y1), (2, .int y2), (3, .int y3)] := hl
        refine lv_goto hx hb dMo_leave_104 rfl ?_
        exact ih75 σ y1 y2 y3 (y4 + 1) _ _ _ hwp hP hD hS (lv_sub hl [1, 2, 3, 4, 0] rfl)
      have hwp : wM_leave_75_step (wM_leave_75 R k75) R σ y1 y2 y3 y4 := hwp
      refine lv_iload hx hb dMo_leave_75 (lv_at hl 4 rfl) ?_
      refine lv_iconst (v := 4) hx hb dMo_leave_77 (by decide) ?_
      refine lv_icmp_ge hx hb dMo_leave_78 rfl (fun h1 => ?_) (fun h1 => ?_)
      · have hwp := hwp.1 h1
        refine lv_goto hx hb dMo_leave_107 rfl ?_
        exact W.vret hx hb hr (fun t ht hW => ⟨⟨σ, rfl, hwp, uEnd ht hW hP hK hD hS hA⟩, hS.F ht⟩) hS.2.2 dMo_leave_128
      · have hwp := hwp.2 h1
        refine lv_iload_n hx hb dMo_leave_81 rfl (lv_at hl 3 rfl) ?_
        refine lv_iload hx hb dMo_leave_82 (lv_at hl 4 rfl) ?_
        refine lv_ishr hx hb dMo_leave_84 ?_
        refine lv_iconst (v := 1) hx hb dMo_leave_85 (by decide) ?_
        refine lv_iand hx hb dMo_leave_86 ?_
        refine lv_iconst (v := 1) hx hb dMo_leave_87 (by decide) ?_
        refine lv_icmp_ne hx hb dMo_leave_88 rfl (fun h2 => ?_) (fun h2 => ?_)
        · have hwp := hwp.1 h2
          exact cut101 σ y1 y2 y3 y4 _ _ _ hwp hP hD hS (lv_sub hl [0, 1, 2, 3, 4] rfl)
        · have hwp := hwp.2 h2
          refine lv_aload_n hx hb dMo_leave_91 rfl (lv_at hl 0 rfl) ?_
          refine lv_iload_n hx hb dMo_leave_92 rfl (lv_at hl 2 rfl) ?_
          refine lv_iload hx hb dMo_leave_93 (lv_at hl 4 rfl) ?_
          refine lv_iconst (v := 0) hx hb dMo_leave_95 (by decide) ?_
          refine lv_iconst (v := 1) hx hb dMo_leave_96 (by decide) ?_
          refine lv_iconst (v := 0) hx hb dMo_leave_97 (by decide) ?_
          obtain ⟨P3, hP3, hwp⟩ := hwp
          refine uCallVv (As := [.int y2, .int y4, .int 0, .int 1, .int 0]) (rest := []) (C := RMo) ⟨hx, hb, hml, hown, hts⟩ (kM_send l D a A tI tZ σ y2 y4 0 1 0 P3 hP3) (cwV 5 hts (gdV wm_858 wm_860 wp_18 wm_13 wm_861) rfl rfl rfl (by decide +kernel) ⟨Nat.le_of_ble_eq_true rfl, Nat.le_of_ble_eq_true rfl⟩) (va_recv (ci := 0) (q0 := 0) hK hP rfl rfl) hP hK hD hA hS rfl hl.1 rfl (Nat.le_of_ble_eq_true rfl) dMo_leave_98 ⟨Nat.le_of_ble_eq_true rfl, Nat.le_of_ble_eq_true rfl⟩ (fun u4 H locs hu4 hP hD hS => ?_)
          have hwp := hwp u4 hu4
          exact cut101 u4 y1 y2 y3 y4 _ _ _ hwp hP hD hS (lv_sub hl [0, 1, 2, 3, 4] rfl)
  have cut32 : ∀ (σ : MS) (y1 : Int32) (y2 : Int32) (z1 : Int32) (H : Heap) (locs : List Loc) (ls : Array Slot), wM_leave_32 R σ y1 y2 z1 → va_P D clA (mw a tI tZ σ) H → va_D A (mw a tI tZ σ) → va_S A s.heap H locs → lv_has ls 5 [(0, .ref (a 0)), (1, .int y1), (2, .int y2)] → W p l e (headSpec wsMo_leave rmM_leave).room s m ([.ref (a 0), .int x1, .int x2] : List Value).toArray below meth c H locs 0 0 (MQ below (va_Qv R (uI D clA (mT tI tZ) A false (mw a tI tZ)) A) ([.ref (a 0), .int x1, .int x2] : List Value).toArray s 0 0 A) (F0 m 32 ls [.int z1, .ref (a 0)]) := by
    intro σ y1 y2 z1 H locs ls hwp hP hD hS hl
    refine va_put (ty := .int) (D := D) (ci := 0) (C := RMo) (T := TMo) (N := 33) hx hb hts hin0 tyMo tyMo_ok nmMo hown hK hP hD hS 0 rfl rfl 32 (by decide) k90 (fun _ h9 => h9) rfl (by decide +kernel) rfl rfl (Nat.le_of_ble_eq_true rfl) dMo_leave_32 (fun H locs hP hD hS => ?_)
    obtain ⟨σ5, eσ5⟩ : ∃ z, z = up2 σ 32 0 z1 := ⟨_, rfl⟩
    have hwp := hwp σ5 eσ5
    have hP : va_P D clA (mw a tI tZ σ5) H := by rw [eσ5]; exact hP
    have hD : va_D A (mw a tI tZ σ5) := by rw [eσ5]; exact hD
    refine lv_aload_n hx hb dMo_leave_35 rfl (lv_at hl 0 rfl) ?_
    refine va_get (D := D) (ci := 0) (C := RMo) (T := TMo) (N := 33) hx hb hts hin0 hown hK hP 0 rfl rfl 32 (by decide) k90 (fun _ h9 => h9) rfl dMo_leave_36 ?_
    refine lv_if_eq hx hb dMo_leave_39 rfl (fun h6 => ?_) (fun h6 => ?_)
    · have hwp := hwp.1 h6
      refine lv_aload_n hx hb dMo_leave_43 rfl (lv_at hl 0 rfl) ?_
      refine va_get (D := D) (ci := 0) (C := RMo) (T := TMo) (N := 33) hx hb hts hin0 hown hK hP 0 rfl rfl 8 (by decide) k32 (fun _ h9 => h9) rfl dMo_leave_44 ?_
      refine lv_iconst (v := 4) hx hb dMo_leave_47 (by decide) ?_
      refine lv_iload_n hx hb dMo_leave_48 rfl (lv_at hl 1 rfl) ?_
      refine lv_imul hx hb dMo_leave_49 ?_
      refine lv_iload_n hx hb dMo_leave_50 rfl (lv_at hl 2 rfl) ?_
      refine lv_iadd hx hb dMo_leave_51 ?_
      refine lv_iconst (v := 0) hx hb dMo_leave_52 (by decide) ?_
      obtain ⟨hi7, hwp⟩ := hwp
      refine va_iast hx hb hK hP hD hS 7 0 rfl rfl hi7 dMo_leave_53 (fun H locs hP hD hS => ?_)
      obtain ⟨σ8, eσ8⟩ : ∃ z, z = up2 σ5 8 ((4 * y1) + y2).toNatClampNeg 0 := ⟨_, rfl⟩
      have hwp := hwp σ8 eσ8
      have hP : va_P D clA (mw a tI tZ σ8) H := by rw [eσ8]; exact hP
      have hD : va_D A (mw a tI tZ σ8) := by rw [eσ8]; exact hD
      refine lv_iload_n hx hb dMo_leave_54 rfl (lv_at hl 1 rfl) ?_
      refine lv_if_ne hx hb dMo_leave_55 rfl (fun h9 => ?_) (fun h9 => ?_)
      · have hwp := hwp.1 h9
        refine lv_iload_n hx hb dMo_leave_110 rfl (lv_at hl 1 rfl) ?_
        refine lv_iconst (v := 1) hx hb dMo_leave_111 (by decide) ?_
        refine lv_icmp_ne hx hb dMo_leave_112 rfl (fun h10 => ?_) (fun h10 => ?_)
        · have hwp := hwp.1 h10
          refine lv_aload_n hx hb dMo_leave_123 rfl (lv_at hl 0 rfl) ?_
          refine lv_iload_n hx hb dMo_leave_124 rfl (lv_at hl 2 rfl) ?_
          obtain ⟨P11, hP11, hwp⟩ := hwp
          refine uCallVv (As := [.int y2]) (rest := []) (C := RMo) ⟨hx, hb, hml, hown, hts⟩ (kM_goOn l D a A tI tZ σ8 y2 P11 hP11) (cwV 1 hts (gdV wm_878 wm_880 wp_23 wm_13 wm_881) rfl rfl rfl (by decide +kernel) ⟨Nat.le_of_ble_eq_true rfl, Nat.le_of_ble_eq_true rfl⟩) (va_recv (ci := 0) (q0 := 0) hK hP rfl rfl) hP hK hD hA hS rfl hl.1 rfl (Nat.le_of_ble_eq_true rfl) dMo_leave_125 ⟨Nat.le_of_ble_eq_true rfl, Nat.le_of_ble_eq_true rfl⟩ (fun u12 H locs hu12 hP hD hS => ?_)
          have hwp := hwp u12 hu12
          exact W.vret hx hb hr (fun t ht hW => ⟨⟨u12, rfl, hwp, uEnd ht hW hP hK hD hS hA⟩, hS.F ht⟩) hS.2.2 dMo_leave_128
        · have hwp := hwp.2 h10
          refine lv_aload_n hx hb dMo_leave_115 rfl (lv_at hl 0 rfl) ?_
          refine lv_iload_n hx hb dMo_leave_116 rfl (lv_at hl 2 rfl) ?_
          obtain ⟨P13, hP13, hwp⟩ := hwp
          refine uCallVv (As := [.int y2]) (rest := []) (C := RMo) ⟨hx, hb, hml, hown, hts⟩ (kM_passToken l D a A tI tZ σ8 y2 P13 hP13) (cwV 1 hts (gdV wm_921 wm_923 wp_29 wm_13 wm_924) rfl rfl rfl (by decide +kernel) ⟨Nat.le_of_ble_eq_true rfl, Nat.le_of_ble_eq_true rfl⟩) (va_recv (ci := 0) (q0 := 0) hK hP rfl rfl) hP hK hD hA hS rfl hl.1 rfl (Nat.le_of_ble_eq_true rfl) dMo_leave_117 ⟨Nat.le_of_ble_eq_true rfl, Nat.le_of_ble_eq_true rfl⟩ (fun u14 H locs hu14 hP hD hS => ?_)
          have hwp := hwp u14 hu14
          refine lv_goto hx hb dMo_leave_120 rfl ?_
          exact W.vret hx hb hr (fun t ht hW => ⟨⟨u14, rfl, hwp, uEnd ht hW hP hK hD hS hA⟩, hS.F ht⟩) hS.2.2 dMo_leave_128
      · have hwp := hwp.2 h9
        refine lv_aload_n hx hb dMo_leave_58 rfl (lv_at hl 0 rfl) ?_
        refine va_get (D := D) (ci := 0) (C := RMo) (T := TMo) (N := 33) hx hb hts hin0 hown hK hP 0 rfl rfl 14 (by decide) k44 (fun _ h9 => h9) rfl dMo_leave_59 ?_
        refine lv_iload_n hx hb dMo_leave_62 rfl (lv_at hl 2 rfl) ?_
        obtain ⟨hi15, hwp⟩ := hwp
        refine va_iald hx hb hK hP 11 0 rfl rfl hi15 dMo_leave_63 ?_
        refine lv_topi (fun v16 ev16 => ?_)
        have hwp := hwp v16 ev16
        refine lv_istore_n hx hb dMo_leave_64 rfl hl (by decide) rfl (fun ls hl => ?_)
        have hl : lv_has ls 5 [(3, .int v16), (0, .ref (a 0)), (1, .int y1), (2, .int y2)] := hl
        refine lv_aload_n hx hb dMo_leave_65 rfl (lv_at hl 1 rfl) ?_
        refine va_get (D := D) (ci := 0) (C := RMo) (T := TMo) (N := 33) hx hb hts hin0 hown hK hP 0 rfl rfl 14 (by decide) k44 (fun _ h9 => h9) rfl dMo_leave_66 ?_
        refine lv_iload_n hx hb dMo_leave_69 rfl (lv_at hl 3 rfl) ?_
        refine lv_iconst (v := 0) hx hb dMo_leave_70 (by decide) ?_
        obtain ⟨hi17, hwp⟩ := hwp
        refine va_iast hx hb hK hP hD hS 11 0 rfl rfl hi17 dMo_leave_71 (fun H locs hP hD hS => ?_)
        obtain ⟨σ18, eσ18⟩ : ∃ z, z = up2 σ8 14 y2.toNatClampNeg 0 := ⟨_, rfl⟩
        have hwp := hwp σ18 eσ18
        have hP : va_P D clA (mw a tI tZ σ18) H := by rw [eσ18]; exact hP
        have hD : va_D A (mw a tI tZ σ18) := by rw [eσ18]; exact hD
        refine lv_iconst (v := 0) hx hb dMo_leave_72 (by decide) ?_
        refine lv_istore hx hb dMo_leave_73 hl (by decide) rfl (fun ls hl => ?_)
        have hl : lv_has ls 5 [(4, .int 0), (3, .int v16), (0, .ref (a 0)), (1, .int y1), (2, .int y2)] := hl
        exact cut75 5 σ18 y1 y2 v16 0 _ _ _ hwp hP hD hS (lv_sub hl [2, 3, 4, 1, 0] rfl)
    · have hwp := hwp.2 h6
      exact W.vret hx hb hr (fun t ht hW => ⟨⟨σ5, rfl, hwp, uEnd ht hW hP hK hD hS hA⟩, hS.F ht⟩) hS.2.2 dMo_leave_42
  have hl := lv_entry ([.ref (a 0), .int x1, .int x2]) (n := 5) (Nat.le_of_ble_eq_true rfl)
  rw [lg_entry_eq]
  generalize (lg_sl ([.ref (a 0), .int x1, .int x2]) ++ List.replicate (5 - (lg_sl ([.ref (a 0), .int x1, .int x2])).length) Slot.unset).toArray = ls at hl ⊢
  have hl : lv_has ls 5 [(0, .ref (a 0)), (1, .int x1), (2, .int x2)] := hl
  refine lv_aload_n hx hb dMo_leave_0 rfl (lv_at hl 0 rfl) ?_
  refine lv_iload_n hx hb dMo_leave_1 rfl (lv_at hl 1 rfl) ?_
  refine lv_iload_n hx hb dMo_leave_2 rfl (lv_at hl 2 rfl) ?_
  obtain ⟨P19, hP19, hwp⟩ := hwp
  refine uCallSi (As := [.int x1, .int x2]) (rest := [.ref (a 0)]) ⟨hx, hb, hml, hown, hts⟩ (kM_isLock l D a A tI tZ σ x1 x2 P19 hP19) (cwS 2 hts (gdS wm_910 wm_911 wm_13 wm_912) rfl rfl rfl (by decide +kernel) ⟨Nat.le_of_ble_eq_true rfl, Nat.le_of_ble_eq_true rfl⟩) hP hK hD hA hS rfl hl.1 rfl (Nat.le_of_ble_eq_true rfl) dMo_leave_3 ⟨Nat.le_of_ble_eq_true rfl, Nat.le_of_ble_eq_true rfl⟩ (fun r21 u20 H locs hu20 hP hD hS => ?_)
  have hwp := hwp r21 u20 hu20
  refine lv_if_ne hx hb dMo_leave_6 rfl (fun h22 => ?_) (fun h22 => ?_)
  · have hwp := hwp.1 h22
    refine lv_aload_n hx hb dMo_leave_13 rfl (lv_at hl 0 rfl) ?_
    refine va_get (D := D) (ci := 0) (C := RMo) (T := TMo) (N := 33) hx hb hts hin0 hown hK hP 0 rfl rfl 8 (by decide) k32 (fun _ h9 => h9) rfl dMo_leave_14 ?_
    refine lv_iconst (v := 4) hx hb dMo_leave_17 (by decide) ?_
    refine lv_iload_n hx hb dMo_leave_18 rfl (lv_at hl 1 rfl) ?_
    refine lv_imul hx hb dMo_leave_19 ?_
    refine lv_iload_n hx hb dMo_leave_20 rfl (lv_at hl 2 rfl) ?_
    refine lv_iadd hx hb dMo_leave_21 ?_
    obtain ⟨hi23, hwp⟩ := hwp
    refine va_iald hx hb hK hP 7 0 rfl rfl hi23 dMo_leave_22 ?_
    refine lv_iconst (v := 2) hx hb dMo_leave_23 (by decide) ?_
    refine lv_icmp_eq hx hb dMo_leave_24 rfl (fun h24 => ?_) (fun h24 => ?_)
    · have hwp := hwp.1 h24
      refine lv_iconst (v := 0) hx hb dMo_leave_31 (by decide) ?_
      exact cut32 u20 x1 x2 0 _ _ _ hwp hP hD hS (lv_sub hl [0, 1, 2] rfl)
    · have hwp := hwp.2 h24
      refine lv_iconst (v := 2) hx hb dMo_leave_27 (by decide) ?_
      refine lv_goto hx hb dMo_leave_28 rfl ?_
      exact cut32 u20 x1 x2 2 _ _ _ hwp hP hD hS (lv_sub hl [0, 1, 2] rfl)
  · have hwp := hwp.2 h22
    refine lv_iconst (v := 1) hx hb dMo_leave_9 (by decide) ?_
    refine lv_goto hx hb dMo_leave_10 rfl ?_
    exact cut32 u20 x1 x2 1 _ _ _ hwp hP hD hS (lv_sub hl [0, 1, 2] rfl)
-- public void start(int)
def wM_start_26 (R : MS → Prop) (σ : MS) (y1 : Int32) (z1 : Int32) : Prop :=
  (∀ σ1 : MS, σ1 = up2 σ 32 0 z1 → (((¬ (σ1 32 0) = 0) → R σ1) ∧ (((σ1 32 0) = 0) → (vp_in y1 4 ∧ (∀ σ4 : MS, σ4 = up2 σ1 26 y1.toNatClampNeg (vp_nar .boolean 1) → (vp_in y1 4 ∧ (∃ P6 : MS → Prop, wM_send P6 σ4 y1 ((y1 + 1) - (y1 + 1) / 4 * 4) 3 0 (σ4 24 y1.toNatClampNeg) ∧ (∀ (u7 : MS), P6 u7 → R u7))))))))
def wM_start (R : MS → Prop) (σ : MS) (x1 : Int32) : Prop :=
  (∃ P8 : Int32 → MS → Prop, wM_isNode P8 σ x1 ∧ (∀ (r10 : Int32) (u9 : MS), P8 r10 u9 → (((¬ r10 = 0) → (vp_in x1 4 ∧ ((((u9 26 x1.toNatClampNeg) = 0) → wM_start_26 R u9 x1 0) ∧ ((¬ (u9 26 x1.toNatClampNeg) = 0) → wM_start_26 R u9 x1 2)))) ∧ ((r10 = 0) → wM_start_26 R u9 x1 1))))
abbrev wsMo_start : List Cond := .code yMo_start cMo_start 2 none :: wg
abbrev rmM_start : Room := { frames := 1, cells := 0, slots := 0, locals := 27 }
set_option maxHeartbeats 4000000 in
set_option maxRecDepth 100000 in
theorem kM_start (l : Launch) (D : va_G) (a : Nat → Nat) (A : Nat → Prop) (tI tZ : ClassId) (σ : MS) (x1 : Int32) (R : MS → Prop) (hwp : wM_start R σ x1) : Met l yMo_start wsMo_start rmM_start (va_Pc [.ref (a 0), .int x1] (uI D clA (mT tI tZ) A false (mw a tI tZ) σ)) (va_Qv R (uI D clA (mT tI tZ) A false (mw a tI tZ)) A) 0 0 A := by
  refine Met.ofW (cc := cMo_start) (maxL := 2) (ret := none) (by decide) rfl ?_
  intro p e s m args below meth c s₁ B hml hv
  obtain ⟨rfl, hP, hK, hD, hA⟩ := hv
  have hx := B.exec
  have hb := B.bytes
  have hr := B.returns
  have hts := atoms_spec (ws := wsMo_start) B.pre
  have hown : s.vm.findClass RMo = some m.cls := findClass_of_methodNamed B.named
  have hlocks := B.notSynchronized
  have hin0 : ∀ w ∈ u_ws RMo TMo 33, w ∈ wsMo_start := fun w h => List.mem_cons_of_mem _ (inMo w h)
  have k69 := hts _ (List.mem_cons_of_mem _ wm_760)
  have k75 := hts _ (List.mem_cons_of_mem _ wm_762)
  have k90 := hts _ (List.mem_cons_of_mem _ wm_768)
  have hS : va_S A s.heap s.heap [] := va_S.rf
  have cut26 : ∀ (σ : MS) (y1 : Int32) (z1 : Int32) (H : Heap) (locs : List Loc) (ls : Array Slot), wM_start_26 R σ y1 z1 → va_P D clA (mw a tI tZ σ) H → va_D A (mw a tI tZ σ) → va_S A s.heap H locs → lv_has ls 2 [(0, .ref (a 0)), (1, .int y1)] → W p l e (headSpec wsMo_start rmM_start).room s m ([.ref (a 0), .int x1] : List Value).toArray below meth c H locs 0 0 (MQ below (va_Qv R (uI D clA (mT tI tZ) A false (mw a tI tZ)) A) ([.ref (a 0), .int x1] : List Value).toArray s 0 0 A) (F0 m 26 ls [.int z1, .ref (a 0)]) := by
    intro σ y1 z1 H locs ls hwp hP hD hS hl
    refine va_put (ty := .int) (D := D) (ci := 0) (C := RMo) (T := TMo) (N := 33) hx hb hts hin0 tyMo tyMo_ok nmMo hown hK hP hD hS 0 rfl rfl 32 (by decide) k90 (fun _ h9 => h9) rfl (by decide +kernel) rfl rfl (Nat.le_of_ble_eq_true rfl) dMo_start_26 (fun H locs hP hD hS => ?_)
    obtain ⟨σ1, eσ1⟩ : ∃ z, z = up2 σ 32 0 z1 := ⟨_, rfl⟩
    have hwp := hwp σ1 eσ1
    have hP : va_P D clA (mw a tI tZ σ1) H := by rw [eσ1]; exact hP
    have hD : va_D A (mw a tI tZ σ1) := by rw [eσ1]; exact hD
    refine lv_aload_n hx hb dMo_start_29 rfl (lv_at hl 0 rfl) ?_
    refine va_get (D := D) (ci := 0) (C := RMo) (T := TMo) (N := 33) hx hb hts hin0 hown hK hP 0 rfl rfl 32 (by decide) k90 (fun _ h9 => h9) rfl dMo_start_30 ?_
    refine lv_if_ne hx hb dMo_start_33 rfl (fun h2 => ?_) (fun h2 => ?_)
    · have hwp := hwp.1 h2
      exact W.vret hx hb hr (fun t ht hW => ⟨⟨σ1, rfl, hwp, uEnd ht hW hP hK hD hS hA⟩, hS.F ht⟩) hS.2.2 dMo_start_61
    · have hwp := hwp.2 h2
      refine lv_aload_n hx hb dMo_start_36 rfl (lv_at hl 0 rfl) ?_
      refine va_get (D := D) (ci := 0) (C := RMo) (T := TMo) (N := 33) hx hb hts hin0 hown hK hP 0 rfl rfl 26 (by decide) k75 (fun _ h9 => h9) rfl dMo_start_37 ?_
      refine lv_iload_n hx hb dMo_start_40 rfl (lv_at hl 1 rfl) ?_
      refine lv_iconst (v := 1) hx hb dMo_start_41 (by decide) ?_
      obtain ⟨hi3, hwp⟩ := hwp
      refine va_zast hx hb hK hP hD hS 21 1 rfl rfl hi3 dMo_start_42 (fun H locs hP hD hS => ?_)
      obtain ⟨σ4, eσ4⟩ : ∃ z, z = up2 σ1 26 y1.toNatClampNeg (vp_nar .boolean 1) := ⟨_, rfl⟩
      have hwp := hwp σ4 eσ4
      have hP : va_P D clA (mw a tI tZ σ4) H := by rw [eσ4]; exact hP
      have hD : va_D A (mw a tI tZ σ4) := by rw [eσ4]; exact hD
      refine lv_aload_n hx hb dMo_start_43 rfl (lv_at hl 0 rfl) ?_
      refine lv_iload_n hx hb dMo_start_44 rfl (lv_at hl 1 rfl) ?_
      refine lv_iload_n hx hb dMo_start_45 rfl (lv_at hl 1 rfl) ?_
      refine lv_iconst (v := 1) hx hb dMo_start_46 (by decide) ?_
      refine lv_iadd hx hb dMo_start_47 ?_
      refine lv_iconst (v := 4) hx hb dMo_start_48 (by decide) ?_
      refine lv_irem hx hb dMo_start_49 (by decide) ?_
      refine lv_iconst (v := 3) hx hb dMo_start_50 (by decide) ?_
      refine lv_iconst (v := 0) hx hb dMo_start_51 (by decide) ?_
      refine lv_aload_n hx hb dMo_start_52 rfl (lv_at hl 0 rfl) ?_
      refine va_get (D := D) (ci := 0) (C := RMo) (T := TMo) (N := 33) hx hb hts hin0 hown hK hP 0 rfl rfl 24 (by decide) k69 (fun _ h9 => h9) rfl dMo_start_53 ?_
      refine lv_iload_n hx hb dMo_start_56 rfl (lv_at hl 1 rfl) ?_
      obtain ⟨hi5, hwp⟩ := hwp
      refine va_iald hx hb hK hP 19 0 rfl rfl hi5 dMo_start_57 ?_
      obtain ⟨P6, hP6, hwp⟩ := hwp
      refine uCallVv (As := [.int y1, .int ((y1 + 1) - (y1 + 1) / 4 * 4), .int 3, .int 0, .int (σ4 24 y1.toNatClampNeg)]) (rest := []) (C := RMo) ⟨hx, hb, hml, hown, hts⟩ (kM_send l D a A tI tZ σ4 y1 ((y1 + 1) - (y1 + 1) / 4 * 4) 3 0 (σ4 24 y1.toNatClampNeg) P6 hP6) (cwV 5 hts (gdV wm_858 wm_860 wp_18 wm_13 wm_861) rfl rfl rfl (by decide +kernel) ⟨Nat.le_of_ble_eq_true rfl, Nat.le_of_ble_eq_true rfl⟩) (va_recv (ci := 0) (q0 := 0) hK hP rfl rfl) hP hK hD hA hS rfl hl.1 rfl (Nat.le_of_ble_eq_true rfl) dMo_start_58 ⟨Nat.le_of_ble_eq_true rfl, Nat.le_of_ble_eq_true rfl⟩ (fun u7 H locs hu7 hP hD hS => ?_)
      have hwp := hwp u7 hu7
      exact W.vret hx hb hr (fun t ht hW => ⟨⟨u7, rfl, hwp, uEnd ht hW hP hK hD hS hA⟩, hS.F ht⟩) hS.2.2 dMo_start_61
  have hl := lv_entry ([.ref (a 0), .int x1]) (n := 2) (Nat.le_of_ble_eq_true rfl)
  rw [lg_entry_eq]
  generalize (lg_sl ([.ref (a 0), .int x1]) ++ List.replicate (2 - (lg_sl ([.ref (a 0), .int x1])).length) Slot.unset).toArray = ls at hl ⊢
  have hl : lv_has ls 2 [(0, .ref (a 0)), (1, .int x1)] := hl
  refine lv_aload_n hx hb dMo_start_0 rfl (lv_at hl 0 rfl) ?_
  refine lv_iload_n hx hb dMo_start_1 rfl (lv_at hl 1 rfl) ?_
  obtain ⟨P8, hP8, hwp⟩ := hwp
  refine uCallSi (As := [.int x1]) (rest := [.ref (a 0)]) ⟨hx, hb, hml, hown, hts⟩ (kM_isNode l D a A tI tZ σ x1 P8 hP8) (cwS 1 hts (gdS wm_847 wm_848 wm_13 wm_849) rfl rfl rfl (by decide +kernel) ⟨Nat.le_of_ble_eq_true rfl, Nat.le_of_ble_eq_true rfl⟩) hP hK hD hA hS rfl hl.1 rfl (Nat.le_of_ble_eq_true rfl) dMo_start_2 ⟨Nat.le_of_ble_eq_true rfl, Nat.le_of_ble_eq_true rfl⟩ (fun r10 u9 H locs hu9 hP hD hS => ?_)
  have hwp := hwp r10 u9 hu9
  refine lv_if_ne hx hb dMo_start_5 rfl (fun h11 => ?_) (fun h11 => ?_)
  · have hwp := hwp.1 h11
    refine lv_aload_n hx hb dMo_start_12 rfl (lv_at hl 0 rfl) ?_
    refine va_get (D := D) (ci := 0) (C := RMo) (T := TMo) (N := 33) hx hb hts hin0 hown hK hP 0 rfl rfl 26 (by decide) k75 (fun _ h9 => h9) rfl dMo_start_13 ?_
    refine lv_iload_n hx hb dMo_start_16 rfl (lv_at hl 1 rfl) ?_
    obtain ⟨hi12, hwp⟩ := hwp
    refine va_zald hx hb hK hP 21 1 rfl rfl hi12 dMo_start_17 ?_
    refine lv_if_eq hx hb dMo_start_18 rfl (fun h13 => ?_) (fun h13 => ?_)
    · have hwp := hwp.1 h13
      refine lv_iconst (v := 0) hx hb dMo_start_25 (by decide) ?_
      exact cut26 u9 x1 0 _ _ _ hwp hP hD hS (lv_sub hl [0, 1] rfl)
    · have hwp := hwp.2 h13
      refine lv_iconst (v := 2) hx hb dMo_start_21 (by decide) ?_
      refine lv_goto hx hb dMo_start_22 rfl ?_
      exact cut26 u9 x1 2 _ _ _ hwp hP hD hS (lv_sub hl [0, 1] rfl)
  · have hwp := hwp.2 h11
    refine lv_iconst (v := 1) hx hb dMo_start_8 (by decide) ?_
    refine lv_goto hx hb dMo_start_9 rfl ?_
    exact cut26 u9 x1 1 _ _ _ hwp hP hD hS (lv_sub hl [0, 1] rfl)
-- public void begin(int)
def wM_begin_84 (R : MS → Prop) (σ : MS) (y1 : Int32) (y2 : Int32) (y3 : Int32) (z1 : Int32) : Prop :=
  (∀ σ1 : MS, σ1 = up2 σ 32 0 z1 → (((¬ (σ1 32 0) = 0) → R σ1) ∧ (((σ1 32 0) = 0) → (∀ σ3 : MS, σ3 = up2 σ1 27 0 y1 → (vp_in y1 4 ∧ (∀ σ5 : MS, σ5 = up2 σ3 29 y1.toNatClampNeg (vp_nar .boolean 1) → R σ5))))))
def wM_begin_56 (K15 : MS → Int32 → Int32 → Int32 → Prop) (R : MS → Prop) (σ : MS) (y1 : Int32) (y2 : Int32) (y3 : Int32) (z0 : Int32) : Prop :=
  K15 σ y1 z0 (y3 + 1)
def wM_begin_51 (K15 : MS → Int32 → Int32 → Int32 → Prop) (R : MS → Prop) (σ : MS) (y1 : Int32) (y2 : Int32) (y3 : Int32) : Prop :=
  wM_begin_56 K15 R σ y1 y2 y3 1
def wM_begin_15_step (K15 : MS → Int32 → Int32 → Int32 → Prop) (R : MS → Prop) (σ : MS) (y1 : Int32) (y2 : Int32) (y3 : Int32) : Prop :=
  (((4 ≤ y3) → (∃ P7 : Int32 → MS → Prop, wM_isNode P7 σ y1 ∧ (∀ (r9 : Int32) (u8 : MS), P7 r9 u8 → (((¬ r9 = 0) → (((y2 = 0) → wM_begin_84 R u8 y1 y2 y3 0) ∧ ((¬ y2 = 0) → wM_begin_84 R u8 y1 y2 y3 2))) ∧ ((r9 = 0) → wM_begin_84 R u8 y1 y2 y3 1))))) ∧ ((¬ 4 ≤ y3) → (((¬ y2 = 0) → wM_begin_51 K15 R σ y1 y2 y3) ∧ ((y2 = 0) → (vp_in y3 4 ∧ (((¬ (σ 29 y3.toNatClampNeg) = 0) → wM_begin_51 K15 R σ y1 y2 y3) ∧ (((σ 29 y3.toNatClampNeg) = 0) → (vp_in y3 4 ∧ (((0 ≤ (σ 30 y3.toNatClampNeg)) → wM_begin_51 K15 R σ y1 y2 y3) ∧ ((¬ 0 ≤ (σ 30 y3.toNatClampNeg)) → (vp_in y3 4 ∧ ((((σ 31 y3.toNatClampNeg) ≤ 0) → wM_begin_56 K15 R σ y1 y2 y3 0) ∧ ((¬ (σ 31 y3.toNatClampNeg) ≤ 0) → wM_begin_51 K15 R σ y1 y2 y3)))))))))))))
def wM_begin_15 (R : MS → Prop) : Nat → MS → Int32 → Int32 → Int32 → Prop
  | 0 => fun _ _ _ _ => False
  | k + 1 => fun σ y1 y2 y3 => wM_begin_15_step  (wM_begin_15  R k) R σ y1 y2 y3
def wM_begin_12 (R : MS → Prop) (σ : MS) (y1 : Int32) (z0 : Int32) : Prop :=
  wM_begin_15 R 5 σ y1 z0 0
def wM_begin (R : MS → Prop) (σ : MS) (x1 : Int32) : Prop :=
  ((((σ 27 0) < 0) → wM_begin_12 R σ x1 0) ∧ ((¬ (σ 27 0) < 0) → wM_begin_12 R σ x1 1))
abbrev wsMo_begin : List Cond := .code yMo_begin cMo_begin 4 none :: wg
abbrev rmM_begin : Room := { frames := 1, cells := 0, slots := 0, locals := 20 }
set_option maxHeartbeats 4000000 in
set_option maxRecDepth 100000 in
theorem kM_begin (l : Launch) (D : va_G) (a : Nat → Nat) (A : Nat → Prop) (tI tZ : ClassId) (σ : MS) (x1 : Int32) (R : MS → Prop) (hwp : wM_begin R σ x1) : Met l yMo_begin wsMo_begin rmM_begin (va_Pc [.ref (a 0), .int x1] (uI D clA (mT tI tZ) A false (mw a tI tZ) σ)) (va_Qv R (uI D clA (mT tI tZ) A false (mw a tI tZ)) A) 0 0 A := by
  refine Met.ofW (cc := cMo_begin) (maxL := 4) (ret := none) (by decide) rfl ?_
  intro p e s m args below meth c s₁ B hml hv
  obtain ⟨rfl, hP, hK, hD, hA⟩ := hv
  have hx := B.exec
  have hb := B.bytes
  have hr := B.returns
  have hts := atoms_spec (ws := wsMo_begin) B.pre
  have hown : s.vm.findClass RMo = some m.cls := findClass_of_methodNamed B.named
  have hlocks := B.notSynchronized
  have hin0 : ∀ w ∈ u_ws RMo TMo 33, w ∈ wsMo_begin := fun w h => List.mem_cons_of_mem _ (inMo w h)
  have k78 := hts _ (List.mem_cons_of_mem _ wm_763)
  have k81 := hts _ (List.mem_cons_of_mem _ wm_765)
  have k84 := hts _ (List.mem_cons_of_mem _ wm_766)
  have k87 := hts _ (List.mem_cons_of_mem _ wm_767)
  have k90 := hts _ (List.mem_cons_of_mem _ wm_768)
  have hS : va_S A s.heap s.heap [] := va_S.rf
  have cut84 : ∀ (σ : MS) (y1 : Int32) (y2 : Int32) (y3 : Int32) (z1 : Int32) (H : Heap) (locs : List Loc) (ls : Array Slot), wM_begin_84 R σ y1 y2 y3 z1 → va_P D clA (mw a tI tZ σ) H → va_D A (mw a tI tZ σ) → va_S A s.heap H locs → lv_has ls 4 [(0, .ref (a 0)), (1, .int y1), (2, .int y2), (3, .int y3)] → W p l e (headSpec wsMo_begin rmM_begin).room s m ([.ref (a 0), .int x1] : List Value).toArray below meth c H locs 0 0 (MQ below (va_Qv R (uI D clA (mT tI tZ) A false (mw a tI tZ)) A) ([.ref (a 0), .int x1] : List Value).toArray s 0 0 A) (F0 m 84 ls [.int z1, .ref (a 0)]) := by
    intro σ y1 y2 y3 z1 H locs ls hwp hP hD hS hl
    refine va_put (ty := .int) (D := D) (ci := 0) (C := RMo) (T := TMo) (N := 33) hx hb hts hin0 tyMo tyMo_ok nmMo hown hK hP hD hS 0 rfl rfl 32 (by decide) k90 (fun _ h9 => h9) rfl (by decide +kernel) rfl rfl (Nat.le_of_ble_eq_true rfl) dMo_begin_84 (fun H locs hP hD hS => ?_)
    obtain ⟨σ1, eσ1⟩ : ∃ z, z = up2 σ 32 0 z1 := ⟨_, rfl⟩
    have hwp := hwp σ1 eσ1
    have hP : va_P D clA (mw a tI tZ σ1) H := by rw [eσ1]; exact hP
    have hD : va_D A (mw a tI tZ σ1) := by rw [eσ1]; exact hD
    refine lv_aload_n hx hb dMo_begin_87 rfl (lv_at hl 0 rfl) ?_
    refine va_get (D := D) (ci := 0) (C := RMo) (T := TMo) (N := 33) hx hb hts hin0 hown hK hP 0 rfl rfl 32 (by decide) k90 (fun _ h9 => h9) rfl dMo_begin_88 ?_
    refine lv_if_ne hx hb dMo_begin_91 rfl (fun h2 => ?_) (fun h2 => ?_)
    · have hwp := hwp.1 h2
      exact W.vret hx hb hr (fun t ht hW => ⟨⟨σ1, rfl, hwp, uEnd ht hW hP hK hD hS hA⟩, hS.F ht⟩) hS.2.2 dMo_begin_106
    · have hwp := hwp.2 h2
      refine lv_aload_n hx hb dMo_begin_94 rfl (lv_at hl 0 rfl) ?_
      refine lv_iload_n hx hb dMo_begin_95 rfl (lv_at hl 1 rfl) ?_
      refine va_put (ty := .int) (D := D) (ci := 0) (C := RMo) (T := TMo) (N := 33) hx hb hts hin0 tyMo tyMo_ok nmMo hown hK hP hD hS 0 rfl rfl 27 (by decide) k78 (fun _ h9 => h9) rfl (by decide +kernel) rfl rfl (Nat.le_of_ble_eq_true rfl) dMo_begin_96 (fun H locs hP hD hS => ?_)
      obtain ⟨σ3, eσ3⟩ : ∃ z, z = up2 σ1 27 0 y1 := ⟨_, rfl⟩
      have hwp := hwp σ3 eσ3
      have hP : va_P D clA (mw a tI tZ σ3) H := by rw [eσ3]; exact hP
      have hD : va_D A (mw a tI tZ σ3) := by rw [eσ3]; exact hD
      refine lv_aload_n hx hb dMo_begin_99 rfl (lv_at hl 0 rfl) ?_
      refine va_get (D := D) (ci := 0) (C := RMo) (T := TMo) (N := 33) hx hb hts hin0 hown hK hP 0 rfl rfl 29 (by decide) k81 (fun _ h9 => h9) rfl dMo_begin_100 ?_
      refine lv_iload_n hx hb dMo_begin_103 rfl (lv_at hl 1 rfl) ?_
      refine lv_iconst (v := 1) hx hb dMo_begin_104 (by decide) ?_
      obtain ⟨hi4, hwp⟩ := hwp
      refine va_zast hx hb hK hP hD hS 22 1 rfl rfl hi4 dMo_begin_105 (fun H locs hP hD hS => ?_)
      obtain ⟨σ5, eσ5⟩ : ∃ z, z = up2 σ3 29 y1.toNatClampNeg (vp_nar .boolean 1) := ⟨_, rfl⟩
      have hwp := hwp σ5 eσ5
      have hP : va_P D clA (mw a tI tZ σ5) H := by rw [eσ5]; exact hP
      have hD : va_D A (mw a tI tZ σ5) := by rw [eσ5]; exact hD
      exact W.vret hx hb hr (fun t ht hW => ⟨⟨σ5, rfl, hwp, uEnd ht hW hP hK hD hS hA⟩, hS.F ht⟩) hS.2.2 dMo_begin_106
  have cut15 : ∀ (k15 : Nat) (σ : MS) (y1 : Int32) (y2 : Int32) (y3 : Int32) (H : Heap) (locs : List Loc) (ls : Array Slot), wM_begin_15 R k15 σ y1 y2 y3 → va_P D clA (mw a tI tZ σ) H → va_D A (mw a tI tZ σ) → va_S A s.heap H locs → lv_has ls 4 [(0, .ref (a 0)), (1, .int y1), (2, .int y2), (3, .int y3)] → W p l e (headSpec wsMo_begin rmM_begin).room s m ([.ref (a 0), .int x1] : List Value).toArray below meth c H locs 0 0 (MQ below (va_Qv R (uI D clA (mT tI tZ) A false (mw a tI tZ)) A) ([.ref (a 0), .int x1] : List Value).toArray s 0 0 A) (F0 m 15 ls []) := by
    intro k15
    induction k15 with
    | zero => intro σ y1 y2 y3 H locs ls hwp hP hD hS hl; exact False.elim hwp
    | succ k15 ih15 =>
      intro σ y1 y2 y3 H locs ls hwp hP hD hS hl
      have cut56 : ∀ (σ : MS) (y1 : Int32) (y2 : Int32) (y3 : Int32) (z0 : Int32) (H : Heap) (locs : List Loc) (ls : Array Slot), wM_begin_56 (wM_begin_15 R k15) R σ y1 y2 y3 z0 → va_P D clA (mw a tI tZ σ) H → va_D A (mw a tI tZ σ) → va_S A s.heap H locs → lv_has ls 4 [(0, .ref (a 0)), (1, .int y1), (2, .int y2), (3, .int y3)] → W p l e (headSpec wsMo_begin rmM_begin).room s m ([.ref (a 0), .int x1] : List Value).toArray below meth c H locs 0 0 (MQ below (va_Qv R (uI D clA (mT tI tZ) A false (mw a tI tZ)) A) ([.ref (a 0), .int x1] : List Value).toArray s 0 0 A) (F0 m 56 ls [.int z0]) := by
        intro σ y1 y2 y3 z0 H locs ls hwp hP hD hS hl
        refine lv_istore_n hx hb dMo_begin_56 rfl hl (by decide) rfl (fun ls hl => ?_)
        have hl : lv_has ls 4 [(2, .int z0), (0, .ref (a 0)), (1, .int y1), (3, .int y3)] := hl
        refine lv_iinc (k := 3) hx hb dMo_begin_57 hl rfl (fx_inc1 _) (by decide) rfl (fun ls hl => ?_)
        have hl : lv_has ls 4 [(3, .int (y3 + 1)), (2, .int z0), (0, .ref (a 0)), (1, .int y1)] := hl
        refine lv_goto hx hb dMo_begin_60 rfl ?_
        exact ih15 σ y1 z0 (y3 + 1) _ _ _ hwp hP hD hS (lv_sub hl [2, 3, 1, 0] rfl)
      have cut51 : ∀ (σ : MS) (y1 : Int32) (y2 : Int32) (y3 : Int32) (H : Heap) (locs : List Loc) (ls : Array Slot), wM_begin_51 (wM_begin_15 R k15) R σ y1 y2 y3 → va_P D clA (mw a tI tZ σ) H → va_D A (mw a tI tZ σ) → va_S A s.heap H locs → lv_has ls 4 [(0, .ref (a 0)), (1, .int y1), (2, .int y2), (3, .int y3)] → W p l e (headSpec wsMo_begin rmM_begin).room s m ([.ref (a 0), .int x1] : List Value).toArray below meth c H locs 0 0 (MQ below (va_Qv R (uI D clA (mT tI tZ) A false (mw a tI tZ)) A) ([.ref (a 0), .int x1] : List Value).toArray s 0 0 A) (F0 m 51 ls []) := by
        intro σ y1 y2 y3 H locs ls hwp hP hD hS hl
        refine lv_iconst (v := 1) hx hb dMo_begin_51 (by decide) ?_
        refine lv_goto hx hb dMo_begin_52 rfl ?_
        exact cut56 σ y1 y2 y3 1 _ _ _ hwp hP hD hS (lv_sub hl [0, 1, 2, 3] rfl)
      have hwp : wM_begin_15_step (wM_begin_15 R k15) R σ y1 y2 y3 := hwp
      refine lv_iload_n hx hb dMo_begin_15 rfl (lv_at hl 3 rfl) ?_
      refine lv_iconst (v := 4) hx hb dMo_begin_16 (by decide) ?_
      refine lv_icmp_ge hx hb dMo_begin_17 rfl (fun h6 => ?_) (fun h6 => ?_)
      · have hwp := hwp.1 h6
        refine lv_aload_n hx hb dMo_begin_63 rfl (lv_at hl 0 rfl) ?_
        refine lv_iload_n hx hb dMo_begin_64 rfl (lv_at hl 1 rfl) ?_
        obtain ⟨P7, hP7, hwp⟩ := hwp
        refine uCallSi (As := [.int y1]) (rest := [.ref (a 0)]) ⟨hx, hb, hml, hown, hts⟩ (kM_isNode l D a A tI tZ σ y1 P7 hP7) (cwS 1 hts (gdS wm_847 wm_848 wm_13 wm_849) rfl rfl rfl (by decide +kernel) ⟨Nat.le_of_ble_eq_true rfl, Nat.le_of_ble_eq_true rfl⟩) hP hK hD hA hS rfl hl.1 rfl (Nat.le_of_ble_eq_true rfl) dMo_begin_65 ⟨Nat.le_of_ble_eq_true rfl, Nat.le_of_ble_eq_true rfl⟩ (fun r9 u8 H locs hu8 hP hD hS => ?_)
        have hwp := hwp r9 u8 hu8
        refine lv_if_ne hx hb dMo_begin_68 rfl (fun h10 => ?_) (fun h10 => ?_)
        · have hwp := hwp.1 h10
          refine lv_iload_n hx hb dMo_begin_75 rfl (lv_at hl 2 rfl) ?_
          refine lv_if_eq hx hb dMo_begin_76 rfl (fun h11 => ?_) (fun h11 => ?_)
          · have hwp := hwp.1 h11
            refine lv_iconst (v := 0) hx hb dMo_begin_83 (by decide) ?_
            exact cut84 u8 y1 y2 y3 0 _ _ _ hwp hP hD hS (lv_sub hl [0, 1, 2, 3] rfl)
          · have hwp := hwp.2 h11
            refine lv_iconst (v := 2) hx hb dMo_begin_79 (by decide) ?_
            refine lv_goto hx hb dMo_begin_80 rfl ?_
            exact cut84 u8 y1 y2 y3 2 _ _ _ hwp hP hD hS (lv_sub hl [0, 1, 2, 3] rfl)
        · have hwp := hwp.2 h10
          refine lv_iconst (v := 1) hx hb dMo_begin_71 (by decide) ?_
          refine lv_goto hx hb dMo_begin_72 rfl ?_
          exact cut84 u8 y1 y2 y3 1 _ _ _ hwp hP hD hS (lv_sub hl [0, 1, 2, 3] rfl)
      · have hwp := hwp.2 h6
        refine lv_iload_n hx hb dMo_begin_20 rfl (lv_at hl 2 rfl) ?_
        refine lv_if_ne hx hb dMo_begin_21 rfl (fun h12 => ?_) (fun h12 => ?_)
        · have hwp := hwp.1 h12
          exact cut51 σ y1 y2 y3 _ _ _ hwp hP hD hS (lv_sub hl [0, 1, 2, 3] rfl)
        · have hwp := hwp.2 h12
          refine lv_aload_n hx hb dMo_begin_24 rfl (lv_at hl 0 rfl) ?_
          refine va_get (D := D) (ci := 0) (C := RMo) (T := TMo) (N := 33) hx hb hts hin0 hown hK hP 0 rfl rfl 29 (by decide) k81 (fun _ h9 => h9) rfl dMo_begin_25 ?_
          refine lv_iload_n hx hb dMo_begin_28 rfl (lv_at hl 3 rfl) ?_
          obtain ⟨hi13, hwp⟩ := hwp
          refine va_zald hx hb hK hP 22 1 rfl rfl hi13 dMo_begin_29 ?_
          refine lv_if_ne hx hb dMo_begin_30 rfl (fun h14 => ?_) (fun h14 => ?_)
          · have hwp := hwp.1 h14
            exact cut51 σ y1 y2 y3 _ _ _ hwp hP hD hS (lv_sub hl [0, 1, 2, 3] rfl)
          · have hwp := hwp.2 h14
            refine lv_aload_n hx hb dMo_begin_33 rfl (lv_at hl 0 rfl) ?_
            refine va_get (D := D) (ci := 0) (C := RMo) (T := TMo) (N := 33) hx hb hts hin0 hown hK hP 0 rfl rfl 30 (by decide) k84 (fun _ h9 => h9) rfl dMo_begin_34 ?_
            refine lv_iload_n hx hb dMo_begin_37 rfl (lv_at hl 3 rfl) ?_
            obtain ⟨hi15, hwp⟩ := hwp
            refine va_iald hx hb hK hP 23 0 rfl rfl hi15 dMo_begin_38 ?_
            refine lv_if_ge hx hb dMo_begin_39 rfl (fun h16 => ?_) (fun h16 => ?_)
            · have hwp := hwp.1 h16
              exact cut51 σ y1 y2 y3 _ _ _ hwp hP hD hS (lv_sub hl [0, 1, 2, 3] rfl)
            · have hwp := hwp.2 h16
              refine lv_aload_n hx hb dMo_begin_42 rfl (lv_at hl 0 rfl) ?_
              refine va_get (D := D) (ci := 0) (C := RMo) (T := TMo) (N := 33) hx hb hts hin0 hown hK hP 0 rfl rfl 31 (by decide) k87 (fun _ h9 => h9) rfl dMo_begin_43 ?_
              refine lv_iload_n hx hb dMo_begin_46 rfl (lv_at hl 3 rfl) ?_
              obtain ⟨hi17, hwp⟩ := hwp
              refine va_iald hx hb hK hP 24 0 rfl rfl hi17 dMo_begin_47 ?_
              refine lv_if_le hx hb dMo_begin_48 rfl (fun h18 => ?_) (fun h18 => ?_)
              · have hwp := hwp.1 h18
                refine lv_iconst (v := 0) hx hb dMo_begin_55 (by decide) ?_
                exact cut56 σ y1 y2 y3 0 _ _ _ hwp hP hD hS (lv_sub hl [0, 1, 2, 3] rfl)
              · have hwp := hwp.2 h18
                exact cut51 σ y1 y2 y3 _ _ _ hwp hP hD hS (lv_sub hl [0, 1, 2, 3] rfl)
  have cut12 : ∀ (σ : MS) (y1 : Int32) (z0 : Int32) (H : Heap) (locs : List Loc) (ls : Array Slot), wM_begin_12 R σ y1 z0 → va_P D clA (mw a tI tZ σ) H → va_D A (mw a tI tZ σ) → va_S A s.heap H locs → lv_has ls 4 [(0, .ref (a 0)), (1, .int y1)] → W p l e (headSpec wsMo_begin rmM_begin).room s m ([.ref (a 0), .int x1] : List Value).toArray below meth c H locs 0 0 (MQ below (va_Qv R (uI D clA (mT tI tZ) A false (mw a tI tZ)) A) ([.ref (a 0), .int x1] : List Value).toArray s 0 0 A) (F0 m 12 ls [.int z0]) := by
    intro σ y1 z0 H locs ls hwp hP hD hS hl
    refine lv_istore_n hx hb dMo_begin_12 rfl hl (by decide) rfl (fun ls hl => ?_)
    have hl : lv_has ls 4 [(2, .int z0), (0, .ref (a 0)), (1, .int y1)] := hl
    refine lv_iconst (v := 0) hx hb dMo_begin_13 (by decide) ?_
    refine lv_istore_n hx hb dMo_begin_14 rfl hl (by decide) rfl (fun ls hl => ?_)
    have hl : lv_has ls 4 [(3, .int 0), (2, .int z0), (0, .ref (a 0)), (1, .int y1)] := hl
    exact cut15 5 σ y1 z0 0 _ _ _ hwp hP hD hS (lv_sub hl [2, 3, 1, 0] rfl)
  have hl := lv_entry ([.ref (a 0), .int x1]) (n := 4) (Nat.le_of_ble_eq_true rfl)
  rw [lg_entry_eq]
  generalize (lg_sl ([.ref (a 0), .int x1]) ++ List.replicate (4 - (lg_sl ([.ref (a 0), .int x1])).length) Slot.unset).toArray = ls at hl ⊢
  have hl : lv_has ls 4 [(0, .ref (a 0)), (1, .int x1)] := hl
  refine lv_aload_n hx hb dMo_begin_0 rfl (lv_at hl 0 rfl) ?_
  refine va_get (D := D) (ci := 0) (C := RMo) (T := TMo) (N := 33) hx hb hts hin0 hown hK hP 0 rfl rfl 27 (by decide) k78 (fun _ h9 => h9) rfl dMo_begin_1 ?_
  refine lv_if_lt hx hb dMo_begin_4 rfl (fun h19 => ?_) (fun h19 => ?_)
  · have hwp := hwp.1 h19
    refine lv_iconst (v := 0) hx hb dMo_begin_11 (by decide) ?_
    exact cut12 σ x1 0 _ _ _ hwp hP hD hS (lv_sub hl [0, 1] rfl)
  · have hwp := hwp.2 h19
    refine lv_iconst (v := 1) hx hb dMo_begin_7 (by decide) ?_
    refine lv_goto hx hb dMo_begin_8 rfl ?_
    exact cut12 σ x1 1 _ _ _ hwp hP hD hS (lv_sub hl [0, 1] rfl)
-- public void spread(int, int)
def wM_spread_38 (R : MS → Prop) (σ : MS) (y1 : Int32) (y2 : Int32) (z1 : Int32) : Prop :=
  (∀ σ1 : MS, σ1 = up2 σ 32 0 z1 → (((¬ (σ1 32 0) = 0) → R σ1) ∧ (((σ1 32 0) = 0) → (vp_in y1 4 ∧ (vp_in y1 4 ∧ (∀ σ5 : MS, σ5 = up2 σ1 31 y1.toNatClampNeg ((σ1 31 y1.toNatClampNeg) + 1) → (∃ P6 : MS → Prop, wM_send P6 σ5 y1 y2 4 0 0 ∧ (∀ (u7 : MS), P6 u7 → R u7))))))))
def wM_spread_33 (R : MS → Prop) (σ : MS) (y1 : Int32) (y2 : Int32) : Prop :=
  wM_spread_38 R σ y1 y2 2
def wM_spread (R : MS → Prop) (σ : MS) (x1 x2 : Int32) : Prop :=
  (∃ P8 : Int32 → MS → Prop, wM_isChannel P8 σ x1 x2 ∧ (∀ (r10 : Int32) (u9 : MS), P8 r10 u9 → (((¬ r10 = 0) → (vp_in x1 4 ∧ ((((u9 29 x1.toNatClampNeg) = 0) → wM_spread_33 R u9 x1 x2) ∧ ((¬ (u9 29 x1.toNatClampNeg) = 0) → (vp_in x1 4 ∧ (((¬ (u9 31 x1.toNatClampNeg) = 20) → wM_spread_38 R u9 x1 x2 0) ∧ (((u9 31 x1.toNatClampNeg) = 20) → wM_spread_33 R u9 x1 x2))))))) ∧ ((r10 = 0) → wM_spread_38 R u9 x1 x2 1))))
abbrev wsMo_spread : List Cond := .code yMo_spread cMo_spread 3 none :: wg
abbrev rmM_spread : Room := { frames := 2, cells := 0, slots := 0, locals := 41 }
set_option maxHeartbeats 4000000 in
set_option maxRecDepth 100000 in
theorem kM_spread (l : Launch) (D : va_G) (a : Nat → Nat) (A : Nat → Prop) (tI tZ : ClassId) (σ : MS) (x1 x2 : Int32) (R : MS → Prop) (hwp : wM_spread R σ x1 x2) : Met l yMo_spread wsMo_spread rmM_spread (va_Pc [.ref (a 0), .int x1, .int x2] (uI D clA (mT tI tZ) A false (mw a tI tZ) σ)) (va_Qv R (uI D clA (mT tI tZ) A false (mw a tI tZ)) A) 0 0 A := by
  refine Met.ofW (cc := cMo_spread) (maxL := 3) (ret := none) (by decide) rfl ?_
  intro p e s m args below meth c s₁ B hml hv
  obtain ⟨rfl, hP, hK, hD, hA⟩ := hv
  have hx := B.exec
  have hb := B.bytes
  have hr := B.returns
  have hts := atoms_spec (ws := wsMo_spread) B.pre
  have hown : s.vm.findClass RMo = some m.cls := findClass_of_methodNamed B.named
  have hlocks := B.notSynchronized
  have hin0 : ∀ w ∈ u_ws RMo TMo 33, w ∈ wsMo_spread := fun w h => List.mem_cons_of_mem _ (inMo w h)
  have k81 := hts _ (List.mem_cons_of_mem _ wm_765)
  have k87 := hts _ (List.mem_cons_of_mem _ wm_767)
  have k90 := hts _ (List.mem_cons_of_mem _ wm_768)
  have hS : va_S A s.heap s.heap [] := va_S.rf
  have cut38 : ∀ (σ : MS) (y1 : Int32) (y2 : Int32) (z1 : Int32) (H : Heap) (locs : List Loc) (ls : Array Slot), wM_spread_38 R σ y1 y2 z1 → va_P D clA (mw a tI tZ σ) H → va_D A (mw a tI tZ σ) → va_S A s.heap H locs → lv_has ls 3 [(0, .ref (a 0)), (1, .int y1), (2, .int y2)] → W p l e (headSpec wsMo_spread rmM_spread).room s m ([.ref (a 0), .int x1, .int x2] : List Value).toArray below meth c H locs 0 0 (MQ below (va_Qv R (uI D clA (mT tI tZ) A false (mw a tI tZ)) A) ([.ref (a 0), .int x1, .int x2] : List Value).toArray s 0 0 A) (F0 m 38 ls [.int z1, .ref (a 0)]) := by
    intro σ y1 y2 z1 H locs ls hwp hP hD hS hl
    refine va_put (ty := .int) (D := D) (ci := 0) (C := RMo) (T := TMo) (N := 33) hx hb hts hin0 tyMo tyMo_ok nmMo hown hK hP hD hS 0 rfl rfl 32 (by decide) k90 (fun _ h9 => h9) rfl (by decide +kernel) rfl rfl (Nat.le_of_ble_eq_true rfl) dMo_spread_38 (fun H locs hP hD hS => ?_)
    obtain ⟨σ1, eσ1⟩ : ∃ z, z = up2 σ 32 0 z1 := ⟨_, rfl⟩
    have hwp := hwp σ1 eσ1
    have hP : va_P D clA (mw a tI tZ σ1) H := by rw [eσ1]; exact hP
    have hD : va_D A (mw a tI tZ σ1) := by rw [eσ1]; exact hD
    refine lv_aload_n hx hb dMo_spread_41 rfl (lv_at hl 0 rfl) ?_
    refine va_get (D := D) (ci := 0) (C := RMo) (T := TMo) (N := 33) hx hb hts hin0 hown hK hP 0 rfl rfl 32 (by decide) k90 (fun _ h9 => h9) rfl dMo_spread_42 ?_
    refine lv_if_ne hx hb dMo_spread_45 rfl (fun h2 => ?_) (fun h2 => ?_)
    · have hwp := hwp.1 h2
      exact W.vret hx hb hr (fun t ht hW => ⟨⟨σ1, rfl, hwp, uEnd ht hW hP hK hD hS hA⟩, hS.F ht⟩) hS.2.2 dMo_spread_67
    · have hwp := hwp.2 h2
      refine lv_aload_n hx hb dMo_spread_48 rfl (lv_at hl 0 rfl) ?_
      refine va_get (D := D) (ci := 0) (C := RMo) (T := TMo) (N := 33) hx hb hts hin0 hown hK hP 0 rfl rfl 31 (by decide) k87 (fun _ h9 => h9) rfl dMo_spread_49 ?_
      refine lv_iload_n hx hb dMo_spread_52 rfl (lv_at hl 1 rfl) ?_
      refine lv_dup2_11 hx hb dMo_spread_53 rfl rfl ?_
      obtain ⟨hi3, hwp⟩ := hwp
      refine va_iald hx hb hK hP 24 0 rfl rfl hi3 dMo_spread_54 ?_
      refine lv_iconst (v := 1) hx hb dMo_spread_55 (by decide) ?_
      refine lv_iadd hx hb dMo_spread_56 ?_
      obtain ⟨hi4, hwp⟩ := hwp
      refine va_iast hx hb hK hP hD hS 24 0 rfl rfl hi4 dMo_spread_57 (fun H locs hP hD hS => ?_)
      obtain ⟨σ5, eσ5⟩ : ∃ z, z = up2 σ1 31 y1.toNatClampNeg ((σ1 31 y1.toNatClampNeg) + 1) := ⟨_, rfl⟩
      have hwp := hwp σ5 eσ5
      have hP : va_P D clA (mw a tI tZ σ5) H := by rw [eσ5]; exact hP
      have hD : va_D A (mw a tI tZ σ5) := by rw [eσ5]; exact hD
      refine lv_aload_n hx hb dMo_spread_58 rfl (lv_at hl 0 rfl) ?_
      refine lv_iload_n hx hb dMo_spread_59 rfl (lv_at hl 1 rfl) ?_
      refine lv_iload_n hx hb dMo_spread_60 rfl (lv_at hl 2 rfl) ?_
      refine lv_iconst (v := 4) hx hb dMo_spread_61 (by decide) ?_
      refine lv_iconst (v := 0) hx hb dMo_spread_62 (by decide) ?_
      refine lv_iconst (v := 0) hx hb dMo_spread_63 (by decide) ?_
      obtain ⟨P6, hP6, hwp⟩ := hwp
      refine uCallVv (As := [.int y1, .int y2, .int 4, .int 0, .int 0]) (rest := []) (C := RMo) ⟨hx, hb, hml, hown, hts⟩ (kM_send l D a A tI tZ σ5 y1 y2 4 0 0 P6 hP6) (cwV 5 hts (gdV wm_858 wm_860 wp_18 wm_13 wm_861) rfl rfl rfl (by decide +kernel) ⟨Nat.le_of_ble_eq_true rfl, Nat.le_of_ble_eq_true rfl⟩) (va_recv (ci := 0) (q0 := 0) hK hP rfl rfl) hP hK hD hA hS rfl hl.1 rfl (Nat.le_of_ble_eq_true rfl) dMo_spread_64 ⟨Nat.le_of_ble_eq_true rfl, Nat.le_of_ble_eq_true rfl⟩ (fun u7 H locs hu7 hP hD hS => ?_)
      have hwp := hwp u7 hu7
      exact W.vret hx hb hr (fun t ht hW => ⟨⟨u7, rfl, hwp, uEnd ht hW hP hK hD hS hA⟩, hS.F ht⟩) hS.2.2 dMo_spread_67
  have cut33 : ∀ (σ : MS) (y1 : Int32) (y2 : Int32) (H : Heap) (locs : List Loc) (ls : Array Slot), wM_spread_33 R σ y1 y2 → va_P D clA (mw a tI tZ σ) H → va_D A (mw a tI tZ σ) → va_S A s.heap H locs → lv_has ls 3 [(0, .ref (a 0)), (1, .int y1), (2, .int y2)] → W p l e (headSpec wsMo_spread rmM_spread).room s m ([.ref (a 0), .int x1, .int x2] : List Value).toArray below meth c H locs 0 0 (MQ below (va_Qv R (uI D clA (mT tI tZ) A false (mw a tI tZ)) A) ([.ref (a 0), .int x1, .int x2] : List Value).toArray s 0 0 A) (F0 m 33 ls [.ref (a 0)]) := by
    intro σ y1 y2 H locs ls hwp hP hD hS hl
    refine lv_iconst (v := 2) hx hb dMo_spread_33 (by decide) ?_
    refine lv_goto hx hb dMo_spread_34 rfl ?_
    exact cut38 σ y1 y2 2 _ _ _ hwp hP hD hS (lv_sub hl [0, 1, 2] rfl)
  have hl := lv_entry ([.ref (a 0), .int x1, .int x2]) (n := 3) (Nat.le_of_ble_eq_true rfl)
  rw [lg_entry_eq]
  generalize (lg_sl ([.ref (a 0), .int x1, .int x2]) ++ List.replicate (3 - (lg_sl ([.ref (a 0), .int x1, .int x2])).length) Slot.unset).toArray = ls at hl ⊢
  have hl : lv_has ls 3 [(0, .ref (a 0)), (1, .int x1), (2, .int x2)] := hl
  refine lv_aload_n hx hb dMo_spread_0 rfl (lv_at hl 0 rfl) ?_
  refine lv_iload_n hx hb dMo_spread_1 rfl (lv_at hl 1 rfl) ?_
  refine lv_iload_n hx hb dMo_spread_2 rfl (lv_at hl 2 rfl) ?_
  obtain ⟨P8, hP8, hwp⟩ := hwp
  refine uCallSi (As := [.int x1, .int x2]) (rest := [.ref (a 0)]) ⟨hx, hb, hml, hown, hts⟩ (kM_isChannel l D a A tI tZ σ x1 x2 P8 hP8) (cwS 2 hts (gdS wm_844 wm_845 wm_13 wm_846) rfl rfl rfl (by decide +kernel) ⟨Nat.le_of_ble_eq_true rfl, Nat.le_of_ble_eq_true rfl⟩) hP hK hD hA hS rfl hl.1 rfl (Nat.le_of_ble_eq_true rfl) dMo_spread_3 ⟨Nat.le_of_ble_eq_true rfl, Nat.le_of_ble_eq_true rfl⟩ (fun r10 u9 H locs hu9 hP hD hS => ?_)
  have hwp := hwp r10 u9 hu9
  refine lv_if_ne hx hb dMo_spread_6 rfl (fun h11 => ?_) (fun h11 => ?_)
  · have hwp := hwp.1 h11
    refine lv_aload_n hx hb dMo_spread_13 rfl (lv_at hl 0 rfl) ?_
    refine va_get (D := D) (ci := 0) (C := RMo) (T := TMo) (N := 33) hx hb hts hin0 hown hK hP 0 rfl rfl 29 (by decide) k81 (fun _ h9 => h9) rfl dMo_spread_14 ?_
    refine lv_iload_n hx hb dMo_spread_17 rfl (lv_at hl 1 rfl) ?_
    obtain ⟨hi12, hwp⟩ := hwp
    refine va_zald hx hb hK hP 22 1 rfl rfl hi12 dMo_spread_18 ?_
    refine lv_if_eq hx hb dMo_spread_19 rfl (fun h13 => ?_) (fun h13 => ?_)
    · have hwp := hwp.1 h13
      exact cut33 u9 x1 x2 _ _ _ hwp hP hD hS (lv_sub hl [0, 1, 2] rfl)
    · have hwp := hwp.2 h13
      refine lv_aload_n hx hb dMo_spread_22 rfl (lv_at hl 0 rfl) ?_
      refine va_get (D := D) (ci := 0) (C := RMo) (T := TMo) (N := 33) hx hb hts hin0 hown hK hP 0 rfl rfl 31 (by decide) k87 (fun _ h9 => h9) rfl dMo_spread_23 ?_
      refine lv_iload_n hx hb dMo_spread_26 rfl (lv_at hl 1 rfl) ?_
      obtain ⟨hi14, hwp⟩ := hwp
      refine va_iald hx hb hK hP 24 0 rfl rfl hi14 dMo_spread_27 ?_
      refine lv_bipush (v := 20) hx hb dMo_spread_28 (by decide) ?_
      refine lv_icmp_ne hx hb dMo_spread_30 rfl (fun h15 => ?_) (fun h15 => ?_)
      · have hwp := hwp.1 h15
        refine lv_iconst (v := 0) hx hb dMo_spread_37 (by decide) ?_
        exact cut38 u9 x1 x2 0 _ _ _ hwp hP hD hS (lv_sub hl [0, 1, 2] rfl)
      · have hwp := hwp.2 h15
        exact cut33 u9 x1 x2 _ _ _ hwp hP hD hS (lv_sub hl [0, 1, 2] rfl)
  · have hwp := hwp.2 h11
    refine lv_iconst (v := 1) hx hb dMo_spread_9 (by decide) ?_
    refine lv_goto hx hb dMo_spread_10 rfl ?_
    exact cut38 u9 x1 x2 1 _ _ _ hwp hP hD hS (lv_sub hl [0, 1, 2] rfl)
-- public void rest(int)
def wM_rest_26 (R : MS → Prop) (σ : MS) (y1 : Int32) (z1 : Int32) : Prop :=
  (∀ σ1 : MS, σ1 = up2 σ 32 0 z1 → (((¬ (σ1 32 0) = 0) → R σ1) ∧ (((σ1 32 0) = 0) → (vp_in y1 4 ∧ (∀ σ4 : MS, σ4 = up2 σ1 29 y1.toNatClampNeg (vp_nar .boolean 0) → (∃ P5 : MS → Prop, wM_settle P5 σ4 y1 ∧ (∀ (u6 : MS), P5 u6 → R u6)))))))
def wM_rest (R : MS → Prop) (σ : MS) (x1 : Int32) : Prop :=
  (∃ P7 : Int32 → MS → Prop, wM_isNode P7 σ x1 ∧ (∀ (r9 : Int32) (u8 : MS), P7 r9 u8 → (((¬ r9 = 0) → (vp_in x1 4 ∧ (((¬ (u8 29 x1.toNatClampNeg) = 0) → wM_rest_26 R u8 x1 0) ∧ (((u8 29 x1.toNatClampNeg) = 0) → wM_rest_26 R u8 x1 2)))) ∧ ((r9 = 0) → wM_rest_26 R u8 x1 1))))
abbrev wsMo_rest : List Cond := .code yMo_rest cMo_rest 2 none :: wg
abbrev rmM_rest : Room := { frames := 2, cells := 0, slots := 0, locals := 49 }
set_option maxHeartbeats 4000000 in
set_option maxRecDepth 100000 in
theorem kM_rest (l : Launch) (D : va_G) (a : Nat → Nat) (A : Nat → Prop) (tI tZ : ClassId) (σ : MS) (x1 : Int32) (R : MS → Prop) (hwp : wM_rest R σ x1) : Met l yMo_rest wsMo_rest rmM_rest (va_Pc [.ref (a 0), .int x1] (uI D clA (mT tI tZ) A false (mw a tI tZ) σ)) (va_Qv R (uI D clA (mT tI tZ) A false (mw a tI tZ)) A) 0 0 A := by
  refine Met.ofW (cc := cMo_rest) (maxL := 2) (ret := none) (by decide) rfl ?_
  intro p e s m args below meth c s₁ B hml hv
  obtain ⟨rfl, hP, hK, hD, hA⟩ := hv
  have hx := B.exec
  have hb := B.bytes
  have hr := B.returns
  have hts := atoms_spec (ws := wsMo_rest) B.pre
  have hown : s.vm.findClass RMo = some m.cls := findClass_of_methodNamed B.named
  have hlocks := B.notSynchronized
  have hin0 : ∀ w ∈ u_ws RMo TMo 33, w ∈ wsMo_rest := fun w h => List.mem_cons_of_mem _ (inMo w h)
  have k81 := hts _ (List.mem_cons_of_mem _ wm_765)
  have k90 := hts _ (List.mem_cons_of_mem _ wm_768)
  have hS : va_S A s.heap s.heap [] := va_S.rf
  have cut26 : ∀ (σ : MS) (y1 : Int32) (z1 : Int32) (H : Heap) (locs : List Loc) (ls : Array Slot), wM_rest_26 R σ y1 z1 → va_P D clA (mw a tI tZ σ) H → va_D A (mw a tI tZ σ) → va_S A s.heap H locs → lv_has ls 2 [(0, .ref (a 0)), (1, .int y1)] → W p l e (headSpec wsMo_rest rmM_rest).room s m ([.ref (a 0), .int x1] : List Value).toArray below meth c H locs 0 0 (MQ below (va_Qv R (uI D clA (mT tI tZ) A false (mw a tI tZ)) A) ([.ref (a 0), .int x1] : List Value).toArray s 0 0 A) (F0 m 26 ls [.int z1, .ref (a 0)]) := by
    intro σ y1 z1 H locs ls hwp hP hD hS hl
    refine va_put (ty := .int) (D := D) (ci := 0) (C := RMo) (T := TMo) (N := 33) hx hb hts hin0 tyMo tyMo_ok nmMo hown hK hP hD hS 0 rfl rfl 32 (by decide) k90 (fun _ h9 => h9) rfl (by decide +kernel) rfl rfl (Nat.le_of_ble_eq_true rfl) dMo_rest_26 (fun H locs hP hD hS => ?_)
    obtain ⟨σ1, eσ1⟩ : ∃ z, z = up2 σ 32 0 z1 := ⟨_, rfl⟩
    have hwp := hwp σ1 eσ1
    have hP : va_P D clA (mw a tI tZ σ1) H := by rw [eσ1]; exact hP
    have hD : va_D A (mw a tI tZ σ1) := by rw [eσ1]; exact hD
    refine lv_aload_n hx hb dMo_rest_29 rfl (lv_at hl 0 rfl) ?_
    refine va_get (D := D) (ci := 0) (C := RMo) (T := TMo) (N := 33) hx hb hts hin0 hown hK hP 0 rfl rfl 32 (by decide) k90 (fun _ h9 => h9) rfl dMo_rest_30 ?_
    refine lv_if_ne hx hb dMo_rest_33 rfl (fun h2 => ?_) (fun h2 => ?_)
    · have hwp := hwp.1 h2
      exact W.vret hx hb hr (fun t ht hW => ⟨⟨σ1, rfl, hwp, uEnd ht hW hP hK hD hS hA⟩, hS.F ht⟩) hS.2.2 dMo_rest_48
    · have hwp := hwp.2 h2
      refine lv_aload_n hx hb dMo_rest_36 rfl (lv_at hl 0 rfl) ?_
      refine va_get (D := D) (ci := 0) (C := RMo) (T := TMo) (N := 33) hx hb hts hin0 hown hK hP 0 rfl rfl 29 (by decide) k81 (fun _ h9 => h9) rfl dMo_rest_37 ?_
      refine lv_iload_n hx hb dMo_rest_40 rfl (lv_at hl 1 rfl) ?_
      refine lv_iconst (v := 0) hx hb dMo_rest_41 (by decide) ?_
      obtain ⟨hi3, hwp⟩ := hwp
      refine va_zast hx hb hK hP hD hS 22 1 rfl rfl hi3 dMo_rest_42 (fun H locs hP hD hS => ?_)
      obtain ⟨σ4, eσ4⟩ : ∃ z, z = up2 σ1 29 y1.toNatClampNeg (vp_nar .boolean 0) := ⟨_, rfl⟩
      have hwp := hwp σ4 eσ4
      have hP : va_P D clA (mw a tI tZ σ4) H := by rw [eσ4]; exact hP
      have hD : va_D A (mw a tI tZ σ4) := by rw [eσ4]; exact hD
      refine lv_aload_n hx hb dMo_rest_43 rfl (lv_at hl 0 rfl) ?_
      refine lv_iload_n hx hb dMo_rest_44 rfl (lv_at hl 1 rfl) ?_
      obtain ⟨P5, hP5, hwp⟩ := hwp
      refine uCallVv (As := [.int y1]) (rest := []) (C := RMo) ⟨hx, hb, hml, hown, hts⟩ (kM_settle l D a A tI tZ σ4 y1 P5 hP5) (cwV 1 hts (gdV wm_894 wm_896 wp_27 wm_13 wm_897) rfl rfl rfl (by decide +kernel) ⟨Nat.le_of_ble_eq_true rfl, Nat.le_of_ble_eq_true rfl⟩) (va_recv (ci := 0) (q0 := 0) hK hP rfl rfl) hP hK hD hA hS rfl hl.1 rfl (Nat.le_of_ble_eq_true rfl) dMo_rest_45 ⟨Nat.le_of_ble_eq_true rfl, Nat.le_of_ble_eq_true rfl⟩ (fun u6 H locs hu6 hP hD hS => ?_)
      have hwp := hwp u6 hu6
      exact W.vret hx hb hr (fun t ht hW => ⟨⟨u6, rfl, hwp, uEnd ht hW hP hK hD hS hA⟩, hS.F ht⟩) hS.2.2 dMo_rest_48
  have hl := lv_entry ([.ref (a 0), .int x1]) (n := 2) (Nat.le_of_ble_eq_true rfl)
  rw [lg_entry_eq]
  generalize (lg_sl ([.ref (a 0), .int x1]) ++ List.replicate (2 - (lg_sl ([.ref (a 0), .int x1])).length) Slot.unset).toArray = ls at hl ⊢
  have hl : lv_has ls 2 [(0, .ref (a 0)), (1, .int x1)] := hl
  refine lv_aload_n hx hb dMo_rest_0 rfl (lv_at hl 0 rfl) ?_
  refine lv_iload_n hx hb dMo_rest_1 rfl (lv_at hl 1 rfl) ?_
  obtain ⟨P7, hP7, hwp⟩ := hwp
  refine uCallSi (As := [.int x1]) (rest := [.ref (a 0)]) ⟨hx, hb, hml, hown, hts⟩ (kM_isNode l D a A tI tZ σ x1 P7 hP7) (cwS 1 hts (gdS wm_847 wm_848 wm_13 wm_849) rfl rfl rfl (by decide +kernel) ⟨Nat.le_of_ble_eq_true rfl, Nat.le_of_ble_eq_true rfl⟩) hP hK hD hA hS rfl hl.1 rfl (Nat.le_of_ble_eq_true rfl) dMo_rest_2 ⟨Nat.le_of_ble_eq_true rfl, Nat.le_of_ble_eq_true rfl⟩ (fun r9 u8 H locs hu8 hP hD hS => ?_)
  have hwp := hwp r9 u8 hu8
  refine lv_if_ne hx hb dMo_rest_5 rfl (fun h10 => ?_) (fun h10 => ?_)
  · have hwp := hwp.1 h10
    refine lv_aload_n hx hb dMo_rest_12 rfl (lv_at hl 0 rfl) ?_
    refine va_get (D := D) (ci := 0) (C := RMo) (T := TMo) (N := 33) hx hb hts hin0 hown hK hP 0 rfl rfl 29 (by decide) k81 (fun _ h9 => h9) rfl dMo_rest_13 ?_
    refine lv_iload_n hx hb dMo_rest_16 rfl (lv_at hl 1 rfl) ?_
    obtain ⟨hi11, hwp⟩ := hwp
    refine va_zald hx hb hK hP 22 1 rfl rfl hi11 dMo_rest_17 ?_
    refine lv_if_ne hx hb dMo_rest_18 rfl (fun h12 => ?_) (fun h12 => ?_)
    · have hwp := hwp.1 h12
      refine lv_iconst (v := 0) hx hb dMo_rest_25 (by decide) ?_
      exact cut26 u8 x1 0 _ _ _ hwp hP hD hS (lv_sub hl [0, 1] rfl)
    · have hwp := hwp.2 h12
      refine lv_iconst (v := 2) hx hb dMo_rest_21 (by decide) ?_
      refine lv_goto hx hb dMo_rest_22 rfl ?_
      exact cut26 u8 x1 2 _ _ _ hwp hP hD hS (lv_sub hl [0, 1] rfl)
  · have hwp := hwp.2 h10
    refine lv_iconst (v := 1) hx hb dMo_rest_8 (by decide) ?_
    refine lv_goto hx hb dMo_rest_9 rfl ?_
    exact cut26 u8 x1 1 _ _ _ hwp hP hD hS (lv_sub hl [0, 1] rfl)
-- public int deliver(int, int)
def wM_deliver_245 (R : Int32 → MS → Prop) (σ : MS) (y1 : Int32) (y2 : Int32) (y3 : Int32) (y4 : Int32) (y5 : Int32) (y6 : Int32) (y7 : Int32) : Prop :=
  R y5 σ
def wM_deliver_94 (R : Int32 → MS → Prop) (σ : MS) (y1 : Int32) (y2 : Int32) (y3 : Int32) (y4 : Int32) (z1 : Int32) (z2 : Int32) : Prop :=
  (vp_in z1 16 ∧ (∀ σ2 : MS, σ2 = up2 σ 1 z1.toNatClampNeg z2 → (vp_in y3 16 ∧ (vp_in y3 16 ∧ (∀ σ5 : MS, σ5 = up2 σ2 2 y3.toNatClampNeg ((σ2 2 y3.toNatClampNeg) - 1) → (vp_in y4 700 ∧ (∀ σ7 : MS, σ7 = up2 σ5 5 y4.toNatClampNeg (σ5 7 0) → (∀ σ8 : MS, σ8 = up2 σ7 7 0 y4 → (vp_in y4 700 ∧ (∀ v10 : Int32, v10 = (σ8 3 y4.toNatClampNeg) / 10 → (vp_in y4 700 ∧ (∀ v12 : Int32, v12 = (σ8 3 y4.toNatClampNeg) - (σ8 3 y4.toNatClampNeg) / 10 * 10 → (vp_in y4 700 ∧ (∀ v14 : Int32, v14 = σ8 4 y4.toNatClampNeg → (((v10 = 0) → (∃ P16 : MS → Prop, wM_stampArrives P16 σ8 y1 y2 v12 v14 ∧ (∀ (u17 : MS), P16 u17 → wM_deliver_245 R u17 y1 y2 y3 y4 v10 v12 v14))) ∧ ((¬ v10 = 0) → (((v10 = 1) → (∃ P19 : MS → Prop, wM_tokenArrives P19 σ8 y1 y2 v12 v14 ∧ (∀ (u20 : MS), P19 u20 → wM_deliver_245 R u20 y1 y2 y3 y4 v10 v12 v14))) ∧ ((¬ v10 = 1) → (((v10 = 2) → (∃ P22 : MS → Prop, wM_treeArrives P22 σ8 y1 y2 v12 ∧ (∀ (u23 : MS), P22 u23 → wM_deliver_245 R u23 y1 y2 y3 y4 v10 v12 v14))) ∧ ((¬ v10 = 2) → (((v10 = 3) → (∃ P25 : MS → Prop, wM_ringArrives P25 σ8 y2 v12 v14 ∧ (∀ (u26 : MS), P25 u26 → wM_deliver_245 R u26 y1 y2 y3 y4 v10 v12 v14))) ∧ ((¬ v10 = 3) → (∃ P27 : MS → Prop, wM_workArrives P27 σ8 y1 y2 v12 ∧ (∀ (u28 : MS), P27 u28 → wM_deliver_245 R u28 y1 y2 y3 y4 v10 v12 v14))))))))))))))))))))))))
def wM_deliver_31 (R : Int32 → MS → Prop) (σ : MS) (y1 : Int32) (y2 : Int32) (z1 : Int32) : Prop :=
  (∀ σ29 : MS, σ29 = up2 σ 32 0 z1 → ((((σ29 32 0) = 0) → (∀ v31 : Int32, v31 = (4 * y1) + y2 → (vp_in v31 16 ∧ (∀ v33 : Int32, v33 = σ29 0 v31.toNatClampNeg → (vp_in v33 700 ∧ (vp_in v31 16 ∧ (∀ σ36 : MS, σ36 = up2 σ29 0 v31.toNatClampNeg (σ29 5 v33.toNatClampNeg) → (vp_in v31 16 ∧ (((0 ≤ (σ36 0 v31.toNatClampNeg)) → (vp_in v31 16 ∧ wM_deliver_94 R σ36 y1 y2 v31 v33 v31 (σ36 1 v31.toNatClampNeg))) ∧ ((¬ 0 ≤ (σ36 0 v31.toNatClampNeg)) → wM_deliver_94 R σ36 y1 y2 v31 v33 v31 (-1))))))))))) ∧ ((¬ (σ29 32 0) = 0) → R 0 σ29)))
def wM_deliver (R : Int32 → MS → Prop) (σ : MS) (x1 x2 : Int32) : Prop :=
  (∃ P40 : Int32 → MS → Prop, wM_isChannel P40 σ x1 x2 ∧ (∀ (r42 : Int32) (u41 : MS), P40 r42 u41 → (((¬ r42 = 0) → (vp_in ((4 * x1) + x2) 16 ∧ (((0 ≤ (u41 0 ((4 * x1) + x2).toNatClampNeg)) → wM_deliver_31 R u41 x1 x2 0) ∧ ((¬ 0 ≤ (u41 0 ((4 * x1) + x2).toNatClampNeg)) → wM_deliver_31 R u41 x1 x2 2)))) ∧ ((r42 = 0) → wM_deliver_31 R u41 x1 x2 1))))
abbrev wsMo_deliver : List Cond := .code yMo_deliver cMo_deliver 8 (some .int) :: wg
abbrev rmM_deliver : Room := { frames := 3, cells := 0, slots := 0, locals := 72 }
set_option maxHeartbeats 4000000 in
set_option maxRecDepth 100000 in
theorem kM_deliver (l : Launch) (D : va_G) (a : Nat → Nat) (A : Nat → Prop) (tI tZ : ClassId) (σ : MS) (x1 x2 : Int32) (R : Int32 → MS → Prop) (hwp : wM_deliver R σ x1 x2) : Met l yMo_deliver wsMo_deliver rmM_deliver (va_Pc [.ref (a 0), .int x1, .int x2] (uI D clA (mT tI tZ) A false (mw a tI tZ) σ)) (va_Qi R (uI D clA (mT tI tZ) A false (mw a tI tZ)) A) 0 0 A := by
  refine Met.ofW (cc := cMo_deliver) (maxL := 8) (ret := (some .int)) (by decide) rfl ?_
  intro p e s m args below meth c s₁ B hml hv
  obtain ⟨rfl, hP, hK, hD, hA⟩ := hv
  have hx := B.exec
  have hb := B.bytes
  have hr := B.returns
  have hts := atoms_spec (ws := wsMo_deliver) B.pre
  have hown : s.vm.findClass RMo = some m.cls := findClass_of_methodNamed B.named
  have hlocks := B.notSynchronized
  have hin0 : ∀ w ∈ u_ws RMo TMo 33, w ∈ wsMo_deliver := fun w h => List.mem_cons_of_mem _ (inMo w h)
  have k13 := hts _ (List.mem_cons_of_mem _ wm_737)
  have k16 := hts _ (List.mem_cons_of_mem _ wm_738)
  have k19 := hts _ (List.mem_cons_of_mem _ wm_739)
  have k22 := hts _ (List.mem_cons_of_mem _ wm_740)
  have k25 := hts _ (List.mem_cons_of_mem _ wm_741)
  have k28 := hts _ (List.mem_cons_of_mem _ wm_743)
  have k7 := hts _ (List.mem_cons_of_mem _ wm_736)
  have k90 := hts _ (List.mem_cons_of_mem _ wm_768)
  have hS : va_S A s.heap s.heap [] := va_S.rf
  have cut245 : ∀ (σ : MS) (y1 : Int32) (y2 : Int32) (y3 : Int32) (y4 : Int32) (y5 : Int32) (y6 : Int32) (y7 : Int32) (H : Heap) (locs : List Loc) (ls : Array Slot), wM_deliver_245 R σ y1 y2 y3 y4 y5 y6 y7 → va_P D clA (mw a tI tZ σ) H → va_D A (mw a tI tZ σ) → va_S A s.heap H locs → lv_has ls 8 [(0, .ref (a 0)), (1, .int y1), (2, .int y2), (3, .int y3), (4, .int y4), (5, .int y5), (6, .int y6), (7, .int y7)] → W p l e (headSpec wsMo_deliver rmM_deliver).room s m ([.ref (a 0), .int x1, .int x2] : List Value).toArray below meth c H locs 0 0 (MQ below (va_Qi R (uI D clA (mT tI tZ) A false (mw a tI tZ)) A) ([.ref (a 0), .int x1, .int x2] : List Value).toArray s 0 0 A) (F0 m 245 ls []) := by
    intro σ y1 y2 y3 y4 y5 y6 y7 H locs ls hwp hP hD hS hl
    refine lv_iload hx hb dMo_deliver_245 (lv_at hl 5 rfl) ?_
    exact W.iret (v := y5) hx hb hr (fun t ht hW => ⟨⟨y5, σ, rfl, hwp, uEnd ht hW hP hK hD hS hA⟩, hS.F ht⟩) hS.2.2 dMo_deliver_247
  have cut94 : ∀ (σ : MS) (y1 : Int32) (y2 : Int32) (y3 : Int32) (y4 : Int32) (z1 : Int32) (z2 : Int32) (H : Heap) (locs : List Loc) (ls : Array Slot), wM_deliver_94 R σ y1 y2 y3 y4 z1 z2 → va_P D clA (mw a tI tZ σ) H → va_D A (mw a tI tZ σ) → va_S A s.heap H locs → lv_has ls 8 [(0, .ref (a 0)), (1, .int y1), (2, .int y2), (3, .int y3), (4, .int y4)] → W p l e (headSpec wsMo_deliver rmM_deliver).room s m ([.ref (a 0), .int x1, .int x2] : List Value).toArray below meth c H locs 0 0 (MQ below (va_Qi R (uI D clA (mT tI tZ) A false (mw a tI tZ)) A) ([.ref (a 0), .int x1, .int x2] : List Value).toArray s 0 0 A) (F0 m 94 ls [.int z2, .int z1, .ref (a 2)]) := by
    intro σ y1 y2 y3 y4 z1 z2 H locs ls hwp hP hD hS hl
    obtain ⟨hi1, hwp⟩ := hwp
    refine va_iast hx hb hK hP hD hS 2 0 rfl rfl hi1 dMo_deliver_94 (fun H locs hP hD hS => ?_)
    obtain ⟨σ2, eσ2⟩ : ∃ z, z = up2 σ 1 z1.toNatClampNeg z2 := ⟨_, rfl⟩
    have hwp := hwp σ2 eσ2
    have hP : va_P D clA (mw a tI tZ σ2) H := by rw [eσ2]; exact hP
    have hD : va_D A (mw a tI tZ σ2) := by rw [eσ2]; exact hD
    refine lv_aload_n hx hb dMo_deliver_95 rfl (lv_at hl 0 rfl) ?_
    refine va_get (D := D) (ci := 0) (C := RMo) (T := TMo) (N := 33) hx hb hts hin0 hown hK hP 0 rfl rfl 2 (by decide) k16 (fun _ h9 => h9) rfl dMo_deliver_96 ?_
    refine lv_iload_n hx hb dMo_deliver_99 rfl (lv_at hl 3 rfl) ?_
    refine lv_dup2_11 hx hb dMo_deliver_100 rfl rfl ?_
    obtain ⟨hi3, hwp⟩ := hwp
    refine va_iald hx hb hK hP 3 0 rfl rfl hi3 dMo_deliver_101 ?_
    refine lv_iconst (v := 1) hx hb dMo_deliver_102 (by decide) ?_
    refine lv_isub hx hb dMo_deliver_103 ?_
    obtain ⟨hi4, hwp⟩ := hwp
    refine va_iast hx hb hK hP hD hS 3 0 rfl rfl hi4 dMo_deliver_104 (fun H locs hP hD hS => ?_)
    obtain ⟨σ5, eσ5⟩ : ∃ z, z = up2 σ2 2 y3.toNatClampNeg ((σ2 2 y3.toNatClampNeg) - 1) := ⟨_, rfl⟩
    have hwp := hwp σ5 eσ5
    have hP : va_P D clA (mw a tI tZ σ5) H := by rw [eσ5]; exact hP
    have hD : va_D A (mw a tI tZ σ5) := by rw [eσ5]; exact hD
    refine lv_aload_n hx hb dMo_deliver_105 rfl (lv_at hl 0 rfl) ?_
    refine va_get (D := D) (ci := 0) (C := RMo) (T := TMo) (N := 33) hx hb hts hin0 hown hK hP 0 rfl rfl 5 (by decide) k25 (fun _ h9 => h9) rfl dMo_deliver_106 ?_
    refine lv_iload hx hb dMo_deliver_109 (lv_at hl 4 rfl) ?_
    refine lv_aload_n hx hb dMo_deliver_111 rfl (lv_at hl 0 rfl) ?_
    refine va_get (D := D) (ci := 0) (C := RMo) (T := TMo) (N := 33) hx hb hts hin0 hown hK hP 0 rfl rfl 7 (by decide) k28 (fun _ h9 => h9) rfl dMo_deliver_112 ?_
    obtain ⟨hi6, hwp⟩ := hwp
    refine va_iast hx hb hK hP hD hS 6 0 rfl rfl hi6 dMo_deliver_115 (fun H locs hP hD hS => ?_)
    obtain ⟨σ7, eσ7⟩ : ∃ z, z = up2 σ5 5 y4.toNatClampNeg (σ5 7 0) := ⟨_, rfl⟩
    have hwp := hwp σ7 eσ7
    have hP : va_P D clA (mw a tI tZ σ7) H := by rw [eσ7]; exact hP
    have hD : va_D A (mw a tI tZ σ7) := by rw [eσ7]; exact hD
    refine lv_aload_n hx hb dMo_deliver_116 rfl (lv_at hl 0 rfl) ?_
    refine lv_iload hx hb dMo_deliver_117 (lv_at hl 4 rfl) ?_
    refine va_put (ty := .int) (D := D) (ci := 0) (C := RMo) (T := TMo) (N := 33) hx hb hts hin0 tyMo tyMo_ok nmMo hown hK hP hD hS 0 rfl rfl 7 (by decide) k28 (fun _ h9 => h9) rfl (by decide +kernel) rfl rfl (Nat.le_of_ble_eq_true rfl) dMo_deliver_119 (fun H locs hP hD hS => ?_)
    obtain ⟨σ8, eσ8⟩ : ∃ z, z = up2 σ7 7 0 y4 := ⟨_, rfl⟩
    have hwp := hwp σ8 eσ8
    have hP : va_P D clA (mw a tI tZ σ8) H := by rw [eσ8]; exact hP
    have hD : va_D A (mw a tI tZ σ8) := by rw [eσ8]; exact hD
    refine lv_aload_n hx hb dMo_deliver_122 rfl (lv_at hl 0 rfl) ?_
    refine va_get (D := D) (ci := 0) (C := RMo) (T := TMo) (N := 33) hx hb hts hin0 hown hK hP 0 rfl rfl 3 (by decide) k19 (fun _ h9 => h9) rfl dMo_deliver_123 ?_
    refine lv_iload hx hb dMo_deliver_126 (lv_at hl 4 rfl) ?_
    obtain ⟨hi9, hwp⟩ := hwp
    refine va_iald hx hb hK hP 4 0 rfl rfl hi9 dMo_deliver_128 ?_
    refine lv_bipush (v := 10) hx hb dMo_deliver_129 (by decide) ?_
    refine lv_idiv hx hb dMo_deliver_131 (by decide) ?_
    refine lv_topi (fun v10 ev10 => ?_)
    have hwp := hwp v10 ev10
    refine lv_istore hx hb dMo_deliver_132 hl (by decide) rfl (fun ls hl => ?_)
    have hl : lv_has ls 8 [(5, .int v10), (0, .ref (a 0)), (1, .int y1), (2, .int y2), (3, .int y3), (4, .int y4)] := hl
    refine lv_aload_n hx hb dMo_deliver_134 rfl (lv_at hl 1 rfl) ?_
    refine va_get (D := D) (ci := 0) (C := RMo) (T := TMo) (N := 33) hx hb hts hin0 hown hK hP 0 rfl rfl 3 (by decide) k19 (fun _ h9 => h9) rfl dMo_deliver_135 ?_
    refine lv_iload hx hb dMo_deliver_138 (lv_at hl 5 rfl) ?_
    obtain ⟨hi11, hwp⟩ := hwp
    refine va_iald hx hb hK hP 4 0 rfl rfl hi11 dMo_deliver_140 ?_
    refine lv_bipush (v := 10) hx hb dMo_deliver_141 (by decide) ?_
    refine lv_irem hx hb dMo_deliver_143 (by decide) ?_
    refine lv_topi (fun v12 ev12 => ?_)
    have hwp := hwp v12 ev12
    refine lv_istore hx hb dMo_deliver_144 hl (by decide) rfl (fun ls hl => ?_)
    have hl : lv_has ls 8 [(6, .int v12), (5, .int v10), (0, .ref (a 0)), (1, .int y1), (2, .int y2), (3, .int y3), (4, .int y4)] := hl
    refine lv_aload_n hx hb dMo_deliver_146 rfl (lv_at hl 2 rfl) ?_
    refine va_get (D := D) (ci := 0) (C := RMo) (T := TMo) (N := 33) hx hb hts hin0 hown hK hP 0 rfl rfl 4 (by decide) k22 (fun _ h9 => h9) rfl dMo_deliver_147 ?_
    refine lv_iload hx hb dMo_deliver_150 (lv_at hl 6 rfl) ?_
    obtain ⟨hi13, hwp⟩ := hwp
    refine va_iald hx hb hK hP 5 0 rfl rfl hi13 dMo_deliver_152 ?_
    refine lv_topi (fun v14 ev14 => ?_)
    have hwp := hwp v14 ev14
    refine lv_istore hx hb dMo_deliver_153 hl (by decide) rfl (fun ls hl => ?_)
    have hl : lv_has ls 8 [(7, .int v14), (6, .int v12), (5, .int v10), (0, .ref (a 0)), (1, .int y1), (2, .int y2), (3, .int y3), (4, .int y4)] := hl
    refine lv_iload hx hb dMo_deliver_155 (lv_at hl 2 rfl) ?_
    by_cases h15 : v10 = 0
    · have hwp := hwp.1 h15
      refine lv_tableIn hx hb dMo_deliver_157 (by rw [h15]; decide) (by rw [h15]; decide) (by rw [h15]; rfl) rfl ?_
      refine lv_aload_n hx hb dMo_deliver_188 rfl (lv_at hl 3 rfl) ?_
      refine lv_iload_n hx hb dMo_deliver_189 rfl (lv_at hl 4 rfl) ?_
      refine lv_iload_n hx hb dMo_deliver_190 rfl (lv_at hl 5 rfl) ?_
      refine lv_iload hx hb dMo_deliver_191 (lv_at hl 1 rfl) ?_
      refine lv_iload hx hb dMo_deliver_193 (lv_at hl 0 rfl) ?_
      obtain ⟨P16, hP16, hwp⟩ := hwp
      refine uCallVv (As := [.int y1, .int y2, .int v12, .int v14]) (rest := []) (C := RMo) ⟨hx, hb, hml, hown, hts⟩ (kM_stampArrives l D a A tI tZ σ8 y1 y2 v12 v14 P16 hP16) (cwV 4 hts (gdV wm_850 wm_852 wp_16 wm_13 wm_853) rfl rfl rfl (by decide +kernel) ⟨Nat.le_of_ble_eq_true rfl, Nat.le_of_ble_eq_true rfl⟩) (va_recv (ci := 0) (q0 := 0) hK hP rfl rfl) hP hK hD hA hS rfl hl.1 rfl (Nat.le_of_ble_eq_true rfl) dMo_deliver_195 ⟨Nat.le_of_ble_eq_true rfl, Nat.le_of_ble_eq_true rfl⟩ (fun u17 H locs hu17 hP hD hS => ?_)
      have hwp := hwp u17 hu17
      refine lv_goto hx hb dMo_deliver_198 rfl ?_
      exact cut245 u17 y1 y2 y3 y4 v10 v12 v14 _ _ _ hwp hP hD hS (lv_sub hl [3, 4, 5, 6, 7, 2, 1, 0] rfl)
    have hwp := hwp.2 h15
    by_cases h18 : v10 = 1
    · have hwp := hwp.1 h18
      refine lv_tableIn hx hb dMo_deliver_157 (by rw [h18]; decide) (by rw [h18]; decide) (by rw [h18]; rfl) rfl ?_
      refine lv_aload_n hx hb dMo_deliver_201 rfl (lv_at hl 3 rfl) ?_
      refine lv_iload_n hx hb dMo_deliver_202 rfl (lv_at hl 4 rfl) ?_
      refine lv_iload_n hx hb dMo_deliver_203 rfl (lv_at hl 5 rfl) ?_
      refine lv_iload hx hb dMo_deliver_204 (lv_at hl 1 rfl) ?_
      refine lv_iload hx hb dMo_deliver_206 (lv_at hl 0 rfl) ?_
      obtain ⟨P19, hP19, hwp⟩ := hwp
      refine uCallVv (As := [.int y1, .int y2, .int v12, .int v14]) (rest := []) (C := RMo) ⟨hx, hb, hml, hown, hts⟩ (kM_tokenArrives l D a A tI tZ σ8 y1 y2 v12 v14 P19 hP19) (cwV 4 hts (gdV wm_862 wm_864 wp_19 wm_13 wm_865) rfl rfl rfl (by decide +kernel) ⟨Nat.le_of_ble_eq_true rfl, Nat.le_of_ble_eq_true rfl⟩) (va_recv (ci := 0) (q0 := 0) hK hP rfl rfl) hP hK hD hA hS rfl hl.1 rfl (Nat.le_of_ble_eq_true rfl) dMo_deliver_208 ⟨Nat.le_of_ble_eq_true rfl, Nat.le_of_ble_eq_true rfl⟩ (fun u20 H locs hu20 hP hD hS => ?_)
      have hwp := hwp u20 hu20
      refine lv_goto hx hb dMo_deliver_211 rfl ?_
      exact cut245 u20 y1 y2 y3 y4 v10 v12 v14 _ _ _ hwp hP hD hS (lv_sub hl [3, 4, 5, 6, 7, 2, 1, 0] rfl)
    have hwp := hwp.2 h18
    by_cases h21 : v10 = 2
    · have hwp := hwp.1 h21
      refine lv_tableIn hx hb dMo_deliver_157 (by rw [h21]; decide) (by rw [h21]; decide) (by rw [h21]; rfl) rfl ?_
      refine lv_aload_n hx hb dMo_deliver_214 rfl (lv_at hl 3 rfl) ?_
      refine lv_iload_n hx hb dMo_deliver_215 rfl (lv_at hl 4 rfl) ?_
      refine lv_iload_n hx hb dMo_deliver_216 rfl (lv_at hl 5 rfl) ?_
      refine lv_iload hx hb dMo_deliver_217 (lv_at hl 1 rfl) ?_
      obtain ⟨P22, hP22, hwp⟩ := hwp
      refine uCallVv (As := [.int y1, .int y2, .int v12]) (rest := []) (C := RMo) ⟨hx, hb, hml, hown, hts⟩ (kM_treeArrives l D a A tI tZ σ8 y1 y2 v12 P22 hP22) (cwV 3 hts (gdV wm_870 wm_872 wp_21 wm_13 wm_873) rfl rfl rfl (by decide +kernel) ⟨Nat.le_of_ble_eq_true rfl, Nat.le_of_ble_eq_true rfl⟩) (va_recv (ci := 0) (q0 := 0) hK hP rfl rfl) hP hK hD hA hS rfl hl.1 rfl (Nat.le_of_ble_eq_true rfl) dMo_deliver_219 ⟨Nat.le_of_ble_eq_true rfl, Nat.le_of_ble_eq_true rfl⟩ (fun u23 H locs hu23 hP hD hS => ?_)
      have hwp := hwp u23 hu23
      refine lv_goto hx hb dMo_deliver_222 rfl ?_
      exact cut245 u23 y1 y2 y3 y4 v10 v12 v14 _ _ _ hwp hP hD hS (lv_sub hl [3, 4, 5, 6, 7, 2, 1, 0] rfl)
    have hwp := hwp.2 h21
    by_cases h24 : v10 = 3
    · have hwp := hwp.1 h24
      refine lv_tableIn hx hb dMo_deliver_157 (by rw [h24]; decide) (by rw [h24]; decide) (by rw [h24]; rfl) rfl ?_
      refine lv_aload_n hx hb dMo_deliver_225 rfl (lv_at hl 3 rfl) ?_
      refine lv_iload_n hx hb dMo_deliver_226 rfl (lv_at hl 5 rfl) ?_
      refine lv_iload hx hb dMo_deliver_227 (lv_at hl 1 rfl) ?_
      refine lv_iload hx hb dMo_deliver_229 (lv_at hl 0 rfl) ?_
      obtain ⟨P25, hP25, hwp⟩ := hwp
      refine uCallVv (As := [.int y2, .int v12, .int v14]) (rest := []) (C := RMo) ⟨hx, hb, hml, hown, hts⟩ (kM_ringArrives l D a A tI tZ σ8 y2 v12 v14 P25 hP25) (cwV 3 hts (gdV wm_886 wm_888 wp_25 wm_13 wm_889) rfl rfl rfl (by decide +kernel) ⟨Nat.le_of_ble_eq_true rfl, Nat.le_of_ble_eq_true rfl⟩) (va_recv (ci := 0) (q0 := 0) hK hP rfl rfl) hP hK hD hA hS rfl hl.1 rfl (Nat.le_of_ble_eq_true rfl) dMo_deliver_231 ⟨Nat.le_of_ble_eq_true rfl, Nat.le_of_ble_eq_true rfl⟩ (fun u26 H locs hu26 hP hD hS => ?_)
      have hwp := hwp u26 hu26
      refine lv_goto hx hb dMo_deliver_234 rfl ?_
      exact cut245 u26 y1 y2 y3 y4 v10 v12 v14 _ _ _ hwp hP hD hS (lv_sub hl [3, 4, 5, 6, 7, 2, 1, 0] rfl)
    have hwp := hwp.2 h24
    refine lv_tableOut hx hb dMo_deliver_157 (fx_out4 h15 h18 h21 h24) rfl ?_
    refine lv_aload_n hx hb dMo_deliver_237 rfl (lv_at hl 3 rfl) ?_
    refine lv_iload_n hx hb dMo_deliver_238 rfl (lv_at hl 4 rfl) ?_
    refine lv_iload_n hx hb dMo_deliver_239 rfl (lv_at hl 5 rfl) ?_
    refine lv_iload hx hb dMo_deliver_240 (lv_at hl 1 rfl) ?_
    obtain ⟨P27, hP27, hwp⟩ := hwp
    refine uCallVv (As := [.int y1, .int y2, .int v12]) (rest := []) (C := RMo) ⟨hx, hb, hml, hown, hts⟩ (kM_workArrives l D a A tI tZ σ8 y1 y2 v12 P27 hP27) (cwV 3 hts (gdV wm_890 wm_892 wp_26 wm_13 wm_893) rfl rfl rfl (by decide +kernel) ⟨Nat.le_of_ble_eq_true rfl, Nat.le_of_ble_eq_true rfl⟩) (va_recv (ci := 0) (q0 := 0) hK hP rfl rfl) hP hK hD hA hS rfl hl.1 rfl (Nat.le_of_ble_eq_true rfl) dMo_deliver_242 ⟨Nat.le_of_ble_eq_true rfl, Nat.le_of_ble_eq_true rfl⟩ (fun u28 H locs hu28 hP hD hS => ?_)
    have hwp := hwp u28 hu28
    exact cut245 u28 y1 y2 y3 y4 v10 v12 v14 _ _ _ hwp hP hD hS (lv_sub hl [3, 4, 5, 6, 7, 2, 1, 0] rfl)
  have cut31 : ∀ (σ : MS) (y1 : Int32) (y2 : Int32) (z1 : Int32) (H : Heap) (locs : List Loc) (ls : Array Slot), wM_deliver_31 R σ y1 y2 z1 → va_P D clA (mw a tI tZ σ) H → va_D A (mw a tI tZ σ) → va_S A s.heap H locs → lv_has ls 8 [(0, .ref (a 0)), (1, .int y1), (2, .int y2)] → W p l e (headSpec wsMo_deliver rmM_deliver).room s m ([.ref (a 0), .int x1, .int x2] : List Value).toArray below meth c H locs 0 0 (MQ below (va_Qi R (uI D clA (mT tI tZ) A false (mw a tI tZ)) A) ([.ref (a 0), .int x1, .int x2] : List Value).toArray s 0 0 A) (F0 m 31 ls [.int z1, .ref (a 0)]) := by
    intro σ y1 y2 z1 H locs ls hwp hP hD hS hl
    refine va_put (ty := .int) (D := D) (ci := 0) (C := RMo) (T := TMo) (N := 33) hx hb hts hin0 tyMo tyMo_ok nmMo hown hK hP hD hS 0 rfl rfl 32 (by decide) k90 (fun _ h9 => h9) rfl (by decide +kernel) rfl rfl (Nat.le_of_ble_eq_true rfl) dMo_deliver_31 (fun H locs hP hD hS => ?_)
    obtain ⟨σ29, eσ29⟩ : ∃ z, z = up2 σ 32 0 z1 := ⟨_, rfl⟩
    have hwp := hwp σ29 eσ29
    have hP : va_P D clA (mw a tI tZ σ29) H := by rw [eσ29]; exact hP
    have hD : va_D A (mw a tI tZ σ29) := by rw [eσ29]; exact hD
    refine lv_aload_n hx hb dMo_deliver_34 rfl (lv_at hl 0 rfl) ?_
    refine va_get (D := D) (ci := 0) (C := RMo) (T := TMo) (N := 33) hx hb hts hin0 hown hK hP 0 rfl rfl 32 (by decide) k90 (fun _ h9 => h9) rfl dMo_deliver_35 ?_
    refine lv_if_eq hx hb dMo_deliver_38 rfl (fun h30 => ?_) (fun h30 => ?_)
    · have hwp := hwp.1 h30
      refine lv_iconst (v := 4) hx hb dMo_deliver_43 (by decide) ?_
      refine lv_iload_n hx hb dMo_deliver_44 rfl (lv_at hl 1 rfl) ?_
      refine lv_imul hx hb dMo_deliver_45 ?_
      refine lv_iload_n hx hb dMo_deliver_46 rfl (lv_at hl 2 rfl) ?_
      refine lv_iadd hx hb dMo_deliver_47 ?_
      refine lv_topi (fun v31 ev31 => ?_)
      have hwp := hwp v31 ev31
      refine lv_istore_n hx hb dMo_deliver_48 rfl hl (by decide) rfl (fun ls hl => ?_)
      have hl : lv_has ls 8 [(3, .int v31), (0, .ref (a 0)), (1, .int y1), (2, .int y2)] := hl
      refine lv_aload_n hx hb dMo_deliver_49 rfl (lv_at hl 1 rfl) ?_
      refine va_get (D := D) (ci := 0) (C := RMo) (T := TMo) (N := 33) hx hb hts hin0 hown hK hP 0 rfl rfl 0 (by decide) k7 (fun _ h9 => h9) rfl dMo_deliver_50 ?_
      refine lv_iload_n hx hb dMo_deliver_53 rfl (lv_at hl 0 rfl) ?_
      obtain ⟨hi32, hwp⟩ := hwp
      refine va_iald hx hb hK hP 1 0 rfl rfl hi32 dMo_deliver_54 ?_
      refine lv_topi (fun v33 ev33 => ?_)
      have hwp := hwp v33 ev33
      refine lv_istore hx hb dMo_deliver_55 hl (by decide) rfl (fun ls hl => ?_)
      have hl : lv_has ls 8 [(4, .int v33), (3, .int v31), (0, .ref (a 0)), (1, .int y1), (2, .int y2)] := hl
      refine lv_aload_n hx hb dMo_deliver_57 rfl (lv_at hl 2 rfl) ?_
      refine va_get (D := D) (ci := 0) (C := RMo) (T := TMo) (N := 33) hx hb hts hin0 hown hK hP 0 rfl rfl 0 (by decide) k7 (fun _ h9 => h9) rfl dMo_deliver_58 ?_
      refine lv_iload_n hx hb dMo_deliver_61 rfl (lv_at hl 1 rfl) ?_
      refine lv_aload_n hx hb dMo_deliver_62 rfl (lv_at hl 2 rfl) ?_
      refine va_get (D := D) (ci := 0) (C := RMo) (T := TMo) (N := 33) hx hb hts hin0 hown hK hP 0 rfl rfl 5 (by decide) k25 (fun _ h9 => h9) rfl dMo_deliver_63 ?_
      refine lv_iload hx hb dMo_deliver_66 (lv_at hl 0 rfl) ?_
      obtain ⟨hi34, hwp⟩ := hwp
      refine va_iald hx hb hK hP 6 0 rfl rfl hi34 dMo_deliver_68 ?_
      obtain ⟨hi35, hwp⟩ := hwp
      refine va_iast hx hb hK hP hD hS 1 0 rfl rfl hi35 dMo_deliver_69 (fun H locs hP hD hS => ?_)
      obtain ⟨σ36, eσ36⟩ : ∃ z, z = up2 σ29 0 v31.toNatClampNeg (σ29 5 v33.toNatClampNeg) := ⟨_, rfl⟩
      have hwp := hwp σ36 eσ36
      have hP : va_P D clA (mw a tI tZ σ36) H := by rw [eσ36]; exact hP
      have hD : va_D A (mw a tI tZ σ36) := by rw [eσ36]; exact hD
      refine lv_aload_n hx hb dMo_deliver_70 rfl (lv_at hl 2 rfl) ?_
      refine va_get (D := D) (ci := 0) (C := RMo) (T := TMo) (N := 33) hx hb hts hin0 hown hK hP 0 rfl rfl 1 (by decide) k13 (fun _ h9 => h9) rfl dMo_deliver_71 ?_
      refine lv_iload_n hx hb dMo_deliver_74 rfl (lv_at hl 1 rfl) ?_
      refine lv_aload_n hx hb dMo_deliver_75 rfl (lv_at hl 2 rfl) ?_
      refine va_get (D := D) (ci := 0) (C := RMo) (T := TMo) (N := 33) hx hb hts hin0 hown hK hP 0 rfl rfl 0 (by decide) k7 (fun _ h9 => h9) rfl dMo_deliver_76 ?_
      refine lv_iload_n hx hb dMo_deliver_79 rfl (lv_at hl 1 rfl) ?_
      obtain ⟨hi37, hwp⟩ := hwp
      refine va_iald hx hb hK hP 1 0 rfl rfl hi37 dMo_deliver_80 ?_
      refine lv_if_ge hx hb dMo_deliver_81 rfl (fun h38 => ?_) (fun h38 => ?_)
      · have hwp := hwp.1 h38
        refine lv_aload_n hx hb dMo_deliver_88 rfl (lv_at hl 2 rfl) ?_
        refine va_get (D := D) (ci := 0) (C := RMo) (T := TMo) (N := 33) hx hb hts hin0 hown hK hP 0 rfl rfl 1 (by decide) k13 (fun _ h9 => h9) rfl dMo_deliver_89 ?_
        refine lv_iload_n hx hb dMo_deliver_92 rfl (lv_at hl 1 rfl) ?_
        obtain ⟨hi39, hwp⟩ := hwp
        refine va_iald hx hb hK hP 2 0 rfl rfl hi39 dMo_deliver_93 ?_
        exact cut94 σ36 y1 y2 v31 v33 v31 (σ36 1 v31.toNatClampNeg) _ _ _ hwp hP hD hS (lv_sub hl [2, 3, 4, 1, 0] rfl)
      · have hwp := hwp.2 h38
        refine lv_iconst (v := (-1)) hx hb dMo_deliver_84 (by decide) ?_
        refine lv_goto hx hb dMo_deliver_85 rfl ?_
        exact cut94 σ36 y1 y2 v31 v33 v31 (-1) _ _ _ hwp hP hD hS (lv_sub hl [2, 3, 4, 1, 0] rfl)
    · have hwp := hwp.2 h30
      refine lv_iconst (v := 0) hx hb dMo_deliver_41 (by decide) ?_
      exact W.iret (v := 0) hx hb hr (fun t ht hW => ⟨⟨0, σ29, rfl, hwp, uEnd ht hW hP hK hD hS hA⟩, hS.F ht⟩) hS.2.2 dMo_deliver_42
  have hl := lv_entry ([.ref (a 0), .int x1, .int x2]) (n := 8) (Nat.le_of_ble_eq_true rfl)
  rw [lg_entry_eq]
  generalize (lg_sl ([.ref (a 0), .int x1, .int x2]) ++ List.replicate (8 - (lg_sl ([.ref (a 0), .int x1, .int x2])).length) Slot.unset).toArray = ls at hl ⊢
  have hl : lv_has ls 8 [(0, .ref (a 0)), (1, .int x1), (2, .int x2)] := hl
  refine lv_aload_n hx hb dMo_deliver_0 rfl (lv_at hl 0 rfl) ?_
  refine lv_iload_n hx hb dMo_deliver_1 rfl (lv_at hl 1 rfl) ?_
  refine lv_iload_n hx hb dMo_deliver_2 rfl (lv_at hl 2 rfl) ?_
  obtain ⟨P40, hP40, hwp⟩ := hwp
  refine uCallSi (As := [.int x1, .int x2]) (rest := [.ref (a 0)]) ⟨hx, hb, hml, hown, hts⟩ (kM_isChannel l D a A tI tZ σ x1 x2 P40 hP40) (cwS 2 hts (gdS wm_844 wm_845 wm_13 wm_846) rfl rfl rfl (by decide +kernel) ⟨Nat.le_of_ble_eq_true rfl, Nat.le_of_ble_eq_true rfl⟩) hP hK hD hA hS rfl hl.1 rfl (Nat.le_of_ble_eq_true rfl) dMo_deliver_3 ⟨Nat.le_of_ble_eq_true rfl, Nat.le_of_ble_eq_true rfl⟩ (fun r42 u41 H locs hu41 hP hD hS => ?_)
  have hwp := hwp r42 u41 hu41
  refine lv_if_ne hx hb dMo_deliver_6 rfl (fun h43 => ?_) (fun h43 => ?_)
  · have hwp := hwp.1 h43
    refine lv_aload_n hx hb dMo_deliver_13 rfl (lv_at hl 0 rfl) ?_
    refine va_get (D := D) (ci := 0) (C := RMo) (T := TMo) (N := 33) hx hb hts hin0 hown hK hP 0 rfl rfl 0 (by decide) k7 (fun _ h9 => h9) rfl dMo_deliver_14 ?_
    refine lv_iconst (v := 4) hx hb dMo_deliver_17 (by decide) ?_
    refine lv_iload_n hx hb dMo_deliver_18 rfl (lv_at hl 1 rfl) ?_
    refine lv_imul hx hb dMo_deliver_19 ?_
    refine lv_iload_n hx hb dMo_deliver_20 rfl (lv_at hl 2 rfl) ?_
    refine lv_iadd hx hb dMo_deliver_21 ?_
    obtain ⟨hi44, hwp⟩ := hwp
    refine va_iald hx hb hK hP 1 0 rfl rfl hi44 dMo_deliver_22 ?_
    refine lv_if_ge hx hb dMo_deliver_23 rfl (fun h45 => ?_) (fun h45 => ?_)
    · have hwp := hwp.1 h45
      refine lv_iconst (v := 0) hx hb dMo_deliver_30 (by decide) ?_
      exact cut31 u41 x1 x2 0 _ _ _ hwp hP hD hS (lv_sub hl [0, 1, 2] rfl)
    · have hwp := hwp.2 h45
      refine lv_iconst (v := 2) hx hb dMo_deliver_26 (by decide) ?_
      refine lv_goto hx hb dMo_deliver_27 rfl ?_
      exact cut31 u41 x1 x2 2 _ _ _ hwp hP hD hS (lv_sub hl [0, 1, 2] rfl)
  · have hwp := hwp.2 h43
    refine lv_iconst (v := 1) hx hb dMo_deliver_9 (by decide) ?_
    refine lv_goto hx hb dMo_deliver_10 rfl ?_
    exact cut31 u41 x1 x2 1 _ _ _ hwp hP hD hS (lv_sub hl [0, 1, 2] rfl)
-- public int first(int, int)
def wM_first_91 (R : Int32 → MS → Prop) (σ : MS) (y1 : Int32) (y2 : Int32) (y3 : Int32) (y4 : Int32) (z0 : Int32) (z1 : Int32) : Prop :=
  R (z0 + z1) σ
def wM_first_14 (R : Int32 → MS → Prop) (σ : MS) (y1 : Int32) (y2 : Int32) (z1 : Int32) : Prop :=
  (∀ σ1 : MS, σ1 = up2 σ 32 0 z1 → ((((σ1 32 0) = 0) → (∀ v3 : Int32, v3 = (4 * y1) + y2 → (vp_in v3 16 ∧ (∀ v5 : Int32, v5 = σ1 0 v3.toNatClampNeg → (((0 ≤ v5) → (vp_in v5 700 ∧ (vp_in v5 700 ∧ (vp_in v3 16 ∧ ((((σ1 2 v3.toNatClampNeg) ≤ 1) → wM_first_91 R σ1 y1 y2 v3 v5 ((100 * ((σ1 3 v5.toNatClampNeg) / 10)) + (10 * ((σ1 3 v5.toNatClampNeg) - (σ1 3 v5.toNatClampNeg) / 10 * 10))) 0) ∧ ((¬ (σ1 2 v3.toNatClampNeg) ≤ 1) → wM_first_91 R σ1 y1 y2 v3 v5 ((100 * ((σ1 3 v5.toNatClampNeg) / 10)) + (10 * ((σ1 3 v5.toNatClampNeg) - (σ1 3 v5.toNatClampNeg) / 10 * 10))) 1)))))) ∧ ((¬ 0 ≤ v5) → R (-1) σ1)))))) ∧ ((¬ (σ1 32 0) = 0) → R 0 σ1)))
def wM_first (R : Int32 → MS → Prop) (σ : MS) (x1 x2 : Int32) : Prop :=
  (∃ P11 : Int32 → MS → Prop, wM_isChannel P11 σ x1 x2 ∧ (∀ (r13 : Int32) (u12 : MS), P11 r13 u12 → (((r13 = 0) → wM_first_14 R u12 x1 x2 1) ∧ ((¬ r13 = 0) → wM_first_14 R u12 x1 x2 0))))
abbrev wsMo_first : List Cond := .code yMo_first cMo_first 5 (some .int) :: wg
abbrev rmM_first : Room := { frames := 2, cells := 0, slots := 0, locals := 41 }
set_option maxHeartbeats 4000000 in
set_option maxRecDepth 100000 in
theorem kM_first (l : Launch) (D : va_G) (a : Nat → Nat) (A : Nat → Prop) (tI tZ : ClassId) (σ : MS) (x1 x2 : Int32) (R : Int32 → MS → Prop) (hwp : wM_first R σ x1 x2) : Met l yMo_first wsMo_first rmM_first (va_Pc [.ref (a 0), .int x1, .int x2] (uI D clA (mT tI tZ) A false (mw a tI tZ) σ)) (va_Qi R (uI D clA (mT tI tZ) A false (mw a tI tZ)) A) 0 0 A := by
  refine Met.ofW (cc := cMo_first) (maxL := 5) (ret := (some .int)) (by decide) rfl ?_
  intro p e s m args below meth c s₁ B hml hv
  obtain ⟨rfl, hP, hK, hD, hA⟩ := hv
  have hx := B.exec
  have hb := B.bytes
  have hr := B.returns
  have hts := atoms_spec (ws := wsMo_first) B.pre
  have hown : s.vm.findClass RMo = some m.cls := findClass_of_methodNamed B.named
  have hlocks := B.notSynchronized
  have hin0 : ∀ w ∈ u_ws RMo TMo 33, w ∈ wsMo_first := fun w h => List.mem_cons_of_mem _ (inMo w h)
  have k16 := hts _ (List.mem_cons_of_mem _ wm_738)
  have k19 := hts _ (List.mem_cons_of_mem _ wm_739)
  have k7 := hts _ (List.mem_cons_of_mem _ wm_736)
  have k90 := hts _ (List.mem_cons_of_mem _ wm_768)
  have hS : va_S A s.heap s.heap [] := va_S.rf
  have cut91 : ∀ (σ : MS) (y1 : Int32) (y2 : Int32) (y3 : Int32) (y4 : Int32) (z0 : Int32) (z1 : Int32) (H : Heap) (locs : List Loc) (ls : Array Slot), wM_first_91 R σ y1 y2 y3 y4 z0 z1 → va_P D clA (mw a tI tZ σ) H → va_D A (mw a tI tZ σ) → va_S A s.heap H locs → lv_has ls 5 [(0, .ref (a 0)), (1, .int y1), (2, .int y2), (3, .int y3), (4, .int y4)] → W p l e (headSpec wsMo_first rmM_first).room s m ([.ref (a 0), .int x1, .int x2] : List Value).toArray below meth c H locs 0 0 (MQ below (va_Qi R (uI D clA (mT tI tZ) A false (mw a tI tZ)) A) ([.ref (a 0), .int x1, .int x2] : List Value).toArray s 0 0 A) (F0 m 91 ls [.int z1, .int z0]) := by
    intro σ y1 y2 y3 y4 z0 z1 H locs ls hwp hP hD hS hl
    refine lv_iadd hx hb dMo_first_91 ?_
    exact W.iret (v := z0 + z1) hx hb hr (fun t ht hW => ⟨⟨z0 + z1, σ, rfl, hwp, uEnd ht hW hP hK hD hS hA⟩, hS.F ht⟩) hS.2.2 dMo_first_92
  have cut14 : ∀ (σ : MS) (y1 : Int32) (y2 : Int32) (z1 : Int32) (H : Heap) (locs : List Loc) (ls : Array Slot), wM_first_14 R σ y1 y2 z1 → va_P D clA (mw a tI tZ σ) H → va_D A (mw a tI tZ σ) → va_S A s.heap H locs → lv_has ls 5 [(0, .ref (a 0)), (1, .int y1), (2, .int y2)] → W p l e (headSpec wsMo_first rmM_first).room s m ([.ref (a 0), .int x1, .int x2] : List Value).toArray below meth c H locs 0 0 (MQ below (va_Qi R (uI D clA (mT tI tZ) A false (mw a tI tZ)) A) ([.ref (a 0), .int x1, .int x2] : List Value).toArray s 0 0 A) (F0 m 14 ls [.int z1, .ref (a 0)]) := by
    intro σ y1 y2 z1 H locs ls hwp hP hD hS hl
    refine va_put (ty := .int) (D := D) (ci := 0) (C := RMo) (T := TMo) (N := 33) hx hb hts hin0 tyMo tyMo_ok nmMo hown hK hP hD hS 0 rfl rfl 32 (by decide) k90 (fun _ h9 => h9) rfl (by decide +kernel) rfl rfl (Nat.le_of_ble_eq_true rfl) dMo_first_14 (fun H locs hP hD hS => ?_)
    obtain ⟨σ1, eσ1⟩ : ∃ z, z = up2 σ 32 0 z1 := ⟨_, rfl⟩
    have hwp := hwp σ1 eσ1
    have hP : va_P D clA (mw a tI tZ σ1) H := by rw [eσ1]; exact hP
    have hD : va_D A (mw a tI tZ σ1) := by rw [eσ1]; exact hD
    refine lv_aload_n hx hb dMo_first_17 rfl (lv_at hl 0 rfl) ?_
    refine va_get (D := D) (ci := 0) (C := RMo) (T := TMo) (N := 33) hx hb hts hin0 hown hK hP 0 rfl rfl 32 (by decide) k90 (fun _ h9 => h9) rfl dMo_first_18 ?_
    refine lv_if_eq hx hb dMo_first_21 rfl (fun h2 => ?_) (fun h2 => ?_)
    · have hwp := hwp.1 h2
      refine lv_iconst (v := 4) hx hb dMo_first_26 (by decide) ?_
      refine lv_iload_n hx hb dMo_first_27 rfl (lv_at hl 1 rfl) ?_
      refine lv_imul hx hb dMo_first_28 ?_
      refine lv_iload_n hx hb dMo_first_29 rfl (lv_at hl 2 rfl) ?_
      refine lv_iadd hx hb dMo_first_30 ?_
      refine lv_topi (fun v3 ev3 => ?_)
      have hwp := hwp v3 ev3
      refine lv_istore_n hx hb dMo_first_31 rfl hl (by decide) rfl (fun ls hl => ?_)
      have hl : lv_has ls 5 [(3, .int v3), (0, .ref (a 0)), (1, .int y1), (2, .int y2)] := hl
      refine lv_aload_n hx hb dMo_first_32 rfl (lv_at hl 1 rfl) ?_
      refine va_get (D := D) (ci := 0) (C := RMo) (T := TMo) (N := 33) hx hb hts hin0 hown hK hP 0 rfl rfl 0 (by decide) k7 (fun _ h9 => h9) rfl dMo_first_33 ?_
      refine lv_iload_n hx hb dMo_first_36 rfl (lv_at hl 0 rfl) ?_
      obtain ⟨hi4, hwp⟩ := hwp
      refine va_iald hx hb hK hP 1 0 rfl rfl hi4 dMo_first_37 ?_
      refine lv_topi (fun v5 ev5 => ?_)
      have hwp := hwp v5 ev5
      refine lv_istore hx hb dMo_first_38 hl (by decide) rfl (fun ls hl => ?_)
      have hl : lv_has ls 5 [(4, .int v5), (3, .int v3), (0, .ref (a 0)), (1, .int y1), (2, .int y2)] := hl
      refine lv_iload hx hb dMo_first_40 (lv_at hl 0 rfl) ?_
      refine lv_if_ge hx hb dMo_first_42 rfl (fun h6 => ?_) (fun h6 => ?_)
      · have hwp := hwp.1 h6
        refine lv_bipush (v := 100) hx hb dMo_first_49 (by decide) ?_
        refine lv_aload_n hx hb dMo_first_51 rfl (lv_at hl 2 rfl) ?_
        refine va_get (D := D) (ci := 0) (C := RMo) (T := TMo) (N := 33) hx hb hts hin0 hown hK hP 0 rfl rfl 3 (by decide) k19 (fun _ h9 => h9) rfl dMo_first_52 ?_
        refine lv_iload hx hb dMo_first_55 (lv_at hl 0 rfl) ?_
        obtain ⟨hi7, hwp⟩ := hwp
        refine va_iald hx hb hK hP 4 0 rfl rfl hi7 dMo_first_57 ?_
        refine lv_bipush (v := 10) hx hb dMo_first_58 (by decide) ?_
        refine lv_idiv hx hb dMo_first_60 (by decide) ?_
        refine lv_imul hx hb dMo_first_61 ?_
        refine lv_bipush (v := 10) hx hb dMo_first_62 (by decide) ?_
        refine lv_aload_n hx hb dMo_first_64 rfl (lv_at hl 2 rfl) ?_
        refine va_get (D := D) (ci := 0) (C := RMo) (T := TMo) (N := 33) hx hb hts hin0 hown hK hP 0 rfl rfl 3 (by decide) k19 (fun _ h9 => h9) rfl dMo_first_65 ?_
        refine lv_iload hx hb dMo_first_68 (lv_at hl 0 rfl) ?_
        obtain ⟨hi8, hwp⟩ := hwp
        refine va_iald hx hb hK hP 4 0 rfl rfl hi8 dMo_first_70 ?_
        refine lv_bipush (v := 10) hx hb dMo_first_71 (by decide) ?_
        refine lv_irem hx hb dMo_first_73 (by decide) ?_
        refine lv_imul hx hb dMo_first_74 ?_
        refine lv_iadd hx hb dMo_first_75 ?_
        refine lv_aload_n hx hb dMo_first_76 rfl (lv_at hl 2 rfl) ?_
        refine va_get (D := D) (ci := 0) (C := RMo) (T := TMo) (N := 33) hx hb hts hin0 hown hK hP 0 rfl rfl 2 (by decide) k16 (fun _ h9 => h9) rfl dMo_first_77 ?_
        refine lv_iload_n hx hb dMo_first_80 rfl (lv_at hl 1 rfl) ?_
        obtain ⟨hi9, hwp⟩ := hwp
        refine va_iald hx hb hK hP 3 0 rfl rfl hi9 dMo_first_81 ?_
        refine lv_iconst (v := 1) hx hb dMo_first_82 (by decide) ?_
        refine lv_icmp_le hx hb dMo_first_83 rfl (fun h10 => ?_) (fun h10 => ?_)
        · have hwp := hwp.1 h10
          refine lv_iconst (v := 0) hx hb dMo_first_90 (by decide) ?_
          exact cut91 σ1 y1 y2 v3 v5 ((100 * ((σ1 3 v5.toNatClampNeg) / 10)) + (10 * ((σ1 3 v5.toNatClampNeg) - (σ1 3 v5.toNatClampNeg) / 10 * 10))) 0 _ _ _ hwp hP hD hS (lv_sub hl [2, 3, 4, 1, 0] rfl)
        · have hwp := hwp.2 h10
          refine lv_iconst (v := 1) hx hb dMo_first_86 (by decide) ?_
          refine lv_goto hx hb dMo_first_87 rfl ?_
          exact cut91 σ1 y1 y2 v3 v5 ((100 * ((σ1 3 v5.toNatClampNeg) / 10)) + (10 * ((σ1 3 v5.toNatClampNeg) - (σ1 3 v5.toNatClampNeg) / 10 * 10))) 1 _ _ _ hwp hP hD hS (lv_sub hl [2, 3, 4, 1, 0] rfl)
      · have hwp := hwp.2 h6
        refine lv_iconst (v := (-1)) hx hb dMo_first_45 (by decide) ?_
        refine lv_goto hx hb dMo_first_46 rfl ?_
        exact W.iret (v := (-1)) hx hb hr (fun t ht hW => ⟨⟨(-1), σ1, rfl, hwp, uEnd ht hW hP hK hD hS hA⟩, hS.F ht⟩) hS.2.2 dMo_first_92
    · have hwp := hwp.2 h2
      refine lv_iconst (v := 0) hx hb dMo_first_24 (by decide) ?_
      exact W.iret (v := 0) hx hb hr (fun t ht hW => ⟨⟨0, σ1, rfl, hwp, uEnd ht hW hP hK hD hS hA⟩, hS.F ht⟩) hS.2.2 dMo_first_25
  have hl := lv_entry ([.ref (a 0), .int x1, .int x2]) (n := 5) (Nat.le_of_ble_eq_true rfl)
  rw [lg_entry_eq]
  generalize (lg_sl ([.ref (a 0), .int x1, .int x2]) ++ List.replicate (5 - (lg_sl ([.ref (a 0), .int x1, .int x2])).length) Slot.unset).toArray = ls at hl ⊢
  have hl : lv_has ls 5 [(0, .ref (a 0)), (1, .int x1), (2, .int x2)] := hl
  refine lv_aload_n hx hb dMo_first_0 rfl (lv_at hl 0 rfl) ?_
  refine lv_iload_n hx hb dMo_first_1 rfl (lv_at hl 1 rfl) ?_
  refine lv_iload_n hx hb dMo_first_2 rfl (lv_at hl 2 rfl) ?_
  obtain ⟨P11, hP11, hwp⟩ := hwp
  refine uCallSi (As := [.int x1, .int x2]) (rest := [.ref (a 0)]) ⟨hx, hb, hml, hown, hts⟩ (kM_isChannel l D a A tI tZ σ x1 x2 P11 hP11) (cwS 2 hts (gdS wm_844 wm_845 wm_13 wm_846) rfl rfl rfl (by decide +kernel) ⟨Nat.le_of_ble_eq_true rfl, Nat.le_of_ble_eq_true rfl⟩) hP hK hD hA hS rfl hl.1 rfl (Nat.le_of_ble_eq_true rfl) dMo_first_3 ⟨Nat.le_of_ble_eq_true rfl, Nat.le_of_ble_eq_true rfl⟩ (fun r13 u12 H locs hu12 hP hD hS => ?_)
  have hwp := hwp r13 u12 hu12
  refine lv_if_eq hx hb dMo_first_6 rfl (fun h14 => ?_) (fun h14 => ?_)
  · have hwp := hwp.1 h14
    refine lv_iconst (v := 1) hx hb dMo_first_13 (by decide) ?_
    exact cut14 u12 x1 x2 1 _ _ _ hwp hP hD hS (lv_sub hl [0, 1, 2] rfl)
  · have hwp := hwp.2 h14
    refine lv_iconst (v := 0) hx hb dMo_first_9 (by decide) ?_
    refine lv_goto hx hb dMo_first_10 rfl ?_
    exact cut14 u12 x1 x2 0 _ _ _ hwp hP hD hS (lv_sub hl [0, 1, 2] rfl)
-- public int waiting(int, int)
def wM_waiting_14 (R : Int32 → MS → Prop) (σ : MS) (y1 : Int32) (y2 : Int32) (z1 : Int32) : Prop :=
  (∀ σ1 : MS, σ1 = up2 σ 32 0 z1 → (((¬ (σ1 32 0) = 0) → R 0 σ1) ∧ (((σ1 32 0) = 0) → (vp_in ((4 * y1) + y2) 16 ∧ R (σ1 2 ((4 * y1) + y2).toNatClampNeg) σ1))))
def wM_waiting (R : Int32 → MS → Prop) (σ : MS) (x1 x2 : Int32) : Prop :=
  (∃ P4 : Int32 → MS → Prop, wM_isChannel P4 σ x1 x2 ∧ (∀ (r6 : Int32) (u5 : MS), P4 r6 u5 → (((r6 = 0) → wM_waiting_14 R u5 x1 x2 1) ∧ ((¬ r6 = 0) → wM_waiting_14 R u5 x1 x2 0))))
abbrev wsMo_waiting : List Cond := .code yMo_waiting cMo_waiting 3 (some .int) :: wg
abbrev rmM_waiting : Room := { frames := 2, cells := 0, slots := 0, locals := 41 }
set_option maxHeartbeats 4000000 in
set_option maxRecDepth 100000 in
theorem kM_waiting (l : Launch) (D : va_G) (a : Nat → Nat) (A : Nat → Prop) (tI tZ : ClassId) (σ : MS) (x1 x2 : Int32) (R : Int32 → MS → Prop) (hwp : wM_waiting R σ x1 x2) : Met l yMo_waiting wsMo_waiting rmM_waiting (va_Pc [.ref (a 0), .int x1, .int x2] (uI D clA (mT tI tZ) A false (mw a tI tZ) σ)) (va_Qi R (uI D clA (mT tI tZ) A false (mw a tI tZ)) A) 0 0 A := by
  refine Met.ofW (cc := cMo_waiting) (maxL := 3) (ret := (some .int)) (by decide) rfl ?_
  intro p e s m args below meth c s₁ B hml hv
  obtain ⟨rfl, hP, hK, hD, hA⟩ := hv
  have hx := B.exec
  have hb := B.bytes
  have hr := B.returns
  have hts := atoms_spec (ws := wsMo_waiting) B.pre
  have hown : s.vm.findClass RMo = some m.cls := findClass_of_methodNamed B.named
  have hlocks := B.notSynchronized
  have hin0 : ∀ w ∈ u_ws RMo TMo 33, w ∈ wsMo_waiting := fun w h => List.mem_cons_of_mem _ (inMo w h)
  have k16 := hts _ (List.mem_cons_of_mem _ wm_738)
  have k90 := hts _ (List.mem_cons_of_mem _ wm_768)
  have hS : va_S A s.heap s.heap [] := va_S.rf
  have cut14 : ∀ (σ : MS) (y1 : Int32) (y2 : Int32) (z1 : Int32) (H : Heap) (locs : List Loc) (ls : Array Slot), wM_waiting_14 R σ y1 y2 z1 → va_P D clA (mw a tI tZ σ) H → va_D A (mw a tI tZ σ) → va_S A s.heap H locs → lv_has ls 3 [(0, .ref (a 0)), (1, .int y1), (2, .int y2)] → W p l e (headSpec wsMo_waiting rmM_waiting).room s m ([.ref (a 0), .int x1, .int x2] : List Value).toArray below meth c H locs 0 0 (MQ below (va_Qi R (uI D clA (mT tI tZ) A false (mw a tI tZ)) A) ([.ref (a 0), .int x1, .int x2] : List Value).toArray s 0 0 A) (F0 m 14 ls [.int z1, .ref (a 0)]) := by
    intro σ y1 y2 z1 H locs ls hwp hP hD hS hl
    refine va_put (ty := .int) (D := D) (ci := 0) (C := RMo) (T := TMo) (N := 33) hx hb hts hin0 tyMo tyMo_ok nmMo hown hK hP hD hS 0 rfl rfl 32 (by decide) k90 (fun _ h9 => h9) rfl (by decide +kernel) rfl rfl (Nat.le_of_ble_eq_true rfl) dMo_waiting_14 (fun H locs hP hD hS => ?_)
    obtain ⟨σ1, eσ1⟩ : ∃ z, z = up2 σ 32 0 z1 := ⟨_, rfl⟩
    have hwp := hwp σ1 eσ1
    have hP : va_P D clA (mw a tI tZ σ1) H := by rw [eσ1]; exact hP
    have hD : va_D A (mw a tI tZ σ1) := by rw [eσ1]; exact hD
    refine lv_aload_n hx hb dMo_waiting_17 rfl (lv_at hl 0 rfl) ?_
    refine va_get (D := D) (ci := 0) (C := RMo) (T := TMo) (N := 33) hx hb hts hin0 hown hK hP 0 rfl rfl 32 (by decide) k90 (fun _ h9 => h9) rfl dMo_waiting_18 ?_
    refine lv_if_ne hx hb dMo_waiting_21 rfl (fun h2 => ?_) (fun h2 => ?_)
    · have hwp := hwp.1 h2
      refine lv_iconst (v := 0) hx hb dMo_waiting_37 (by decide) ?_
      exact W.iret (v := 0) hx hb hr (fun t ht hW => ⟨⟨0, σ1, rfl, hwp, uEnd ht hW hP hK hD hS hA⟩, hS.F ht⟩) hS.2.2 dMo_waiting_38
    · have hwp := hwp.2 h2
      refine lv_aload_n hx hb dMo_waiting_24 rfl (lv_at hl 0 rfl) ?_
      refine va_get (D := D) (ci := 0) (C := RMo) (T := TMo) (N := 33) hx hb hts hin0 hown hK hP 0 rfl rfl 2 (by decide) k16 (fun _ h9 => h9) rfl dMo_waiting_25 ?_
      refine lv_iconst (v := 4) hx hb dMo_waiting_28 (by decide) ?_
      refine lv_iload_n hx hb dMo_waiting_29 rfl (lv_at hl 1 rfl) ?_
      refine lv_imul hx hb dMo_waiting_30 ?_
      refine lv_iload_n hx hb dMo_waiting_31 rfl (lv_at hl 2 rfl) ?_
      refine lv_iadd hx hb dMo_waiting_32 ?_
      obtain ⟨hi3, hwp⟩ := hwp
      refine va_iald hx hb hK hP 3 0 rfl rfl hi3 dMo_waiting_33 ?_
      refine lv_goto hx hb dMo_waiting_34 rfl ?_
      exact W.iret (v := σ1 2 ((4 * y1) + y2).toNatClampNeg) hx hb hr (fun t ht hW => ⟨⟨σ1 2 ((4 * y1) + y2).toNatClampNeg, σ1, rfl, hwp, uEnd ht hW hP hK hD hS hA⟩, hS.F ht⟩) hS.2.2 dMo_waiting_38
  have hl := lv_entry ([.ref (a 0), .int x1, .int x2]) (n := 3) (Nat.le_of_ble_eq_true rfl)
  rw [lg_entry_eq]
  generalize (lg_sl ([.ref (a 0), .int x1, .int x2]) ++ List.replicate (3 - (lg_sl ([.ref (a 0), .int x1, .int x2])).length) Slot.unset).toArray = ls at hl ⊢
  have hl : lv_has ls 3 [(0, .ref (a 0)), (1, .int x1), (2, .int x2)] := hl
  refine lv_aload_n hx hb dMo_waiting_0 rfl (lv_at hl 0 rfl) ?_
  refine lv_iload_n hx hb dMo_waiting_1 rfl (lv_at hl 1 rfl) ?_
  refine lv_iload_n hx hb dMo_waiting_2 rfl (lv_at hl 2 rfl) ?_
  obtain ⟨P4, hP4, hwp⟩ := hwp
  refine uCallSi (As := [.int x1, .int x2]) (rest := [.ref (a 0)]) ⟨hx, hb, hml, hown, hts⟩ (kM_isChannel l D a A tI tZ σ x1 x2 P4 hP4) (cwS 2 hts (gdS wm_844 wm_845 wm_13 wm_846) rfl rfl rfl (by decide +kernel) ⟨Nat.le_of_ble_eq_true rfl, Nat.le_of_ble_eq_true rfl⟩) hP hK hD hA hS rfl hl.1 rfl (Nat.le_of_ble_eq_true rfl) dMo_waiting_3 ⟨Nat.le_of_ble_eq_true rfl, Nat.le_of_ble_eq_true rfl⟩ (fun r6 u5 H locs hu5 hP hD hS => ?_)
  have hwp := hwp r6 u5 hu5
  refine lv_if_eq hx hb dMo_waiting_6 rfl (fun h7 => ?_) (fun h7 => ?_)
  · have hwp := hwp.1 h7
    refine lv_iconst (v := 1) hx hb dMo_waiting_13 (by decide) ?_
    exact cut14 u5 x1 x2 1 _ _ _ hwp hP hD hS (lv_sub hl [0, 1, 2] rfl)
  · have hwp := hwp.2 h7
    refine lv_iconst (v := 0) hx hb dMo_waiting_9 (by decide) ?_
    refine lv_goto hx hb dMo_waiting_10 rfl ?_
    exact cut14 u5 x1 x2 0 _ _ _ hwp hP hD hS (lv_sub hl [0, 1, 2] rfl)
-- public int about(int, int)
def wM_about_92 (R : Int32 → MS → Prop) (σ : MS) (y1 : Int32) (y2 : Int32) (z0 : Int32) (z1 : Int32) : Prop :=
  (vp_in y2 4 ∧ R ((z0 + z1) + (4 * (σ 31 y2.toNatClampNeg))) σ)
def wM_about_87 (R : Int32 → MS → Prop) (σ : MS) (y1 : Int32) (y2 : Int32) (z0 : Int32) : Prop :=
  wM_about_92 R σ y1 y2 z0 2
def wM_about_70 (R : Int32 → MS → Prop) (σ : MS) (y1 : Int32) (y2 : Int32) (z0 : Int32) : Prop :=
  (vp_in y2 4 ∧ (((0 ≤ (σ 30 y2.toNatClampNeg)) → wM_about_87 R σ y1 y2 z0) ∧ ((¬ 0 ≤ (σ 30 y2.toNatClampNeg)) → (((¬ (σ 27 0) = y2) → wM_about_92 R σ y1 y2 z0 0) ∧ (((σ 27 0) = y2) → wM_about_87 R σ y1 y2 z0)))))
def wM_about_14 (R : Int32 → MS → Prop) (σ : MS) (y1 : Int32) (y2 : Int32) (z1 : Int32) : Prop :=
  (∀ σ5 : MS, σ5 = up2 σ 32 0 z1 → ((((σ5 32 0) = 0) → (((3 ≤ y1) → (((¬ y1 = 3) → (vp_in y2 4 ∧ ((((σ5 29 y2.toNatClampNeg) = 0) → wM_about_70 R σ5 y1 y2 0) ∧ ((¬ (σ5 29 y2.toNatClampNeg) = 0) → wM_about_70 R σ5 y1 y2 1)))) ∧ ((y1 = 3) → (vp_in y2 4 ∧ R (σ5 25 y2.toNatClampNeg) σ5)))) ∧ ((¬ 3 ≤ y1) → (vp_in ((4 * y1) + y2) 12 ∧ R (σ5 8 ((4 * y1) + y2).toNatClampNeg) σ5)))) ∧ ((¬ (σ5 32 0) = 0) → R 0 σ5)))
def wM_about (R : Int32 → MS → Prop) (σ : MS) (x1 x2 : Int32) : Prop :=
  (∃ P13 : Int32 → MS → Prop, wM_isService P13 σ x1 x2 ∧ (∀ (r15 : Int32) (u14 : MS), P13 r15 u14 → (((r15 = 0) → wM_about_14 R u14 x1 x2 1) ∧ ((¬ r15 = 0) → wM_about_14 R u14 x1 x2 0))))
abbrev wsMo_about : List Cond := .code yMo_about cMo_about 3 (some .int) :: wg
abbrev rmM_about : Room := { frames := 2, cells := 0, slots := 0, locals := 41 }
set_option maxHeartbeats 4000000 in
set_option maxRecDepth 100000 in
theorem kM_about (l : Launch) (D : va_G) (a : Nat → Nat) (A : Nat → Prop) (tI tZ : ClassId) (σ : MS) (x1 x2 : Int32) (R : Int32 → MS → Prop) (hwp : wM_about R σ x1 x2) : Met l yMo_about wsMo_about rmM_about (va_Pc [.ref (a 0), .int x1, .int x2] (uI D clA (mT tI tZ) A false (mw a tI tZ) σ)) (va_Qi R (uI D clA (mT tI tZ) A false (mw a tI tZ)) A) 0 0 A := by
  refine Met.ofW (cc := cMo_about) (maxL := 3) (ret := (some .int)) (by decide) rfl ?_
  intro p e s m args below meth c s₁ B hml hv
  obtain ⟨rfl, hP, hK, hD, hA⟩ := hv
  have hx := B.exec
  have hb := B.bytes
  have hr := B.returns
  have hts := atoms_spec (ws := wsMo_about) B.pre
  have hown : s.vm.findClass RMo = some m.cls := findClass_of_methodNamed B.named
  have hlocks := B.notSynchronized
  have hin0 : ∀ w ∈ u_ws RMo TMo 33, w ∈ wsMo_about := fun w h => List.mem_cons_of_mem _ (inMo w h)
  have k32 := hts _ (List.mem_cons_of_mem _ wm_744)
  have k72 := hts _ (List.mem_cons_of_mem _ wm_761)
  have k78 := hts _ (List.mem_cons_of_mem _ wm_763)
  have k81 := hts _ (List.mem_cons_of_mem _ wm_765)
  have k84 := hts _ (List.mem_cons_of_mem _ wm_766)
  have k87 := hts _ (List.mem_cons_of_mem _ wm_767)
  have k90 := hts _ (List.mem_cons_of_mem _ wm_768)
  have hS : va_S A s.heap s.heap [] := va_S.rf
  have cut92 : ∀ (σ : MS) (y1 : Int32) (y2 : Int32) (z0 : Int32) (z1 : Int32) (H : Heap) (locs : List Loc) (ls : Array Slot), wM_about_92 R σ y1 y2 z0 z1 → va_P D clA (mw a tI tZ σ) H → va_D A (mw a tI tZ σ) → va_S A s.heap H locs → lv_has ls 3 [(0, .ref (a 0)), (1, .int y1), (2, .int y2)] → W p l e (headSpec wsMo_about rmM_about).room s m ([.ref (a 0), .int x1, .int x2] : List Value).toArray below meth c H locs 0 0 (MQ below (va_Qi R (uI D clA (mT tI tZ) A false (mw a tI tZ)) A) ([.ref (a 0), .int x1, .int x2] : List Value).toArray s 0 0 A) (F0 m 92 ls [.int z1, .int z0]) := by
    intro σ y1 y2 z0 z1 H locs ls hwp hP hD hS hl
    refine lv_iadd hx hb dMo_about_92 ?_
    refine lv_iconst (v := 4) hx hb dMo_about_93 (by decide) ?_
    refine lv_aload_n hx hb dMo_about_94 rfl (lv_at hl 0 rfl) ?_
    refine va_get (D := D) (ci := 0) (C := RMo) (T := TMo) (N := 33) hx hb hts hin0 hown hK hP 0 rfl rfl 31 (by decide) k87 (fun _ h9 => h9) rfl dMo_about_95 ?_
    refine lv_iload_n hx hb dMo_about_98 rfl (lv_at hl 2 rfl) ?_
    obtain ⟨hi1, hwp⟩ := hwp
    refine va_iald hx hb hK hP 24 0 rfl rfl hi1 dMo_about_99 ?_
    refine lv_imul hx hb dMo_about_100 ?_
    refine lv_iadd hx hb dMo_about_101 ?_
    exact W.iret (v := (z0 + z1) + (4 * (σ 31 y2.toNatClampNeg))) hx hb hr (fun t ht hW => ⟨⟨(z0 + z1) + (4 * (σ 31 y2.toNatClampNeg)), σ, rfl, hwp, uEnd ht hW hP hK hD hS hA⟩, hS.F ht⟩) hS.2.2 dMo_about_102
  have cut87 : ∀ (σ : MS) (y1 : Int32) (y2 : Int32) (z0 : Int32) (H : Heap) (locs : List Loc) (ls : Array Slot), wM_about_87 R σ y1 y2 z0 → va_P D clA (mw a tI tZ σ) H → va_D A (mw a tI tZ σ) → va_S A s.heap H locs → lv_has ls 3 [(0, .ref (a 0)), (1, .int y1), (2, .int y2)] → W p l e (headSpec wsMo_about rmM_about).room s m ([.ref (a 0), .int x1, .int x2] : List Value).toArray below meth c H locs 0 0 (MQ below (va_Qi R (uI D clA (mT tI tZ) A false (mw a tI tZ)) A) ([.ref (a 0), .int x1, .int x2] : List Value).toArray s 0 0 A) (F0 m 87 ls [.int z0]) := by
    intro σ y1 y2 z0 H locs ls hwp hP hD hS hl
    refine lv_iconst (v := 2) hx hb dMo_about_87 (by decide) ?_
    refine lv_goto hx hb dMo_about_88 rfl ?_
    exact cut92 σ y1 y2 z0 2 _ _ _ hwp hP hD hS (lv_sub hl [0, 1, 2] rfl)
  have cut70 : ∀ (σ : MS) (y1 : Int32) (y2 : Int32) (z0 : Int32) (H : Heap) (locs : List Loc) (ls : Array Slot), wM_about_70 R σ y1 y2 z0 → va_P D clA (mw a tI tZ σ) H → va_D A (mw a tI tZ σ) → va_S A s.heap H locs → lv_has ls 3 [(0, .ref (a 0)), (1, .int y1), (2, .int y2)] → W p l e (headSpec wsMo_about rmM_about).room s m ([.ref (a 0), .int x1, .int x2] : List Value).toArray below meth c H locs 0 0 (MQ below (va_Qi R (uI D clA (mT tI tZ) A false (mw a tI tZ)) A) ([.ref (a 0), .int x1, .int x2] : List Value).toArray s 0 0 A) (F0 m 70 ls [.int z0]) := by
    intro σ y1 y2 z0 H locs ls hwp hP hD hS hl
    refine lv_aload_n hx hb dMo_about_70 rfl (lv_at hl 0 rfl) ?_
    refine va_get (D := D) (ci := 0) (C := RMo) (T := TMo) (N := 33) hx hb hts hin0 hown hK hP 0 rfl rfl 30 (by decide) k84 (fun _ h9 => h9) rfl dMo_about_71 ?_
    refine lv_iload_n hx hb dMo_about_74 rfl (lv_at hl 2 rfl) ?_
    obtain ⟨hi2, hwp⟩ := hwp
    refine va_iald hx hb hK hP 23 0 rfl rfl hi2 dMo_about_75 ?_
    refine lv_if_ge hx hb dMo_about_76 rfl (fun h3 => ?_) (fun h3 => ?_)
    · have hwp := hwp.1 h3
      exact cut87 σ y1 y2 z0 _ _ _ hwp hP hD hS (lv_sub hl [0, 1, 2] rfl)
    · have hwp := hwp.2 h3
      refine lv_aload_n hx hb dMo_about_79 rfl (lv_at hl 0 rfl) ?_
      refine va_get (D := D) (ci := 0) (C := RMo) (T := TMo) (N := 33) hx hb hts hin0 hown hK hP 0 rfl rfl 27 (by decide) k78 (fun _ h9 => h9) rfl dMo_about_80 ?_
      refine lv_iload_n hx hb dMo_about_83 rfl (lv_at hl 2 rfl) ?_
      refine lv_icmp_ne hx hb dMo_about_84 rfl (fun h4 => ?_) (fun h4 => ?_)
      · have hwp := hwp.1 h4
        refine lv_iconst (v := 0) hx hb dMo_about_91 (by decide) ?_
        exact cut92 σ y1 y2 z0 0 _ _ _ hwp hP hD hS (lv_sub hl [0, 1, 2] rfl)
      · have hwp := hwp.2 h4
        exact cut87 σ y1 y2 z0 _ _ _ hwp hP hD hS (lv_sub hl [0, 1, 2] rfl)
  have cut14 : ∀ (σ : MS) (y1 : Int32) (y2 : Int32) (z1 : Int32) (H : Heap) (locs : List Loc) (ls : Array Slot), wM_about_14 R σ y1 y2 z1 → va_P D clA (mw a tI tZ σ) H → va_D A (mw a tI tZ σ) → va_S A s.heap H locs → lv_has ls 3 [(0, .ref (a 0)), (1, .int y1), (2, .int y2)] → W p l e (headSpec wsMo_about rmM_about).room s m ([.ref (a 0), .int x1, .int x2] : List Value).toArray below meth c H locs 0 0 (MQ below (va_Qi R (uI D clA (mT tI tZ) A false (mw a tI tZ)) A) ([.ref (a 0), .int x1, .int x2] : List Value).toArray s 0 0 A) (F0 m 14 ls [.int z1, .ref (a 0)]) := by
    intro σ y1 y2 z1 H locs ls hwp hP hD hS hl
    refine va_put (ty := .int) (D := D) (ci := 0) (C := RMo) (T := TMo) (N := 33) hx hb hts hin0 tyMo tyMo_ok nmMo hown hK hP hD hS 0 rfl rfl 32 (by decide) k90 (fun _ h9 => h9) rfl (by decide +kernel) rfl rfl (Nat.le_of_ble_eq_true rfl) dMo_about_14 (fun H locs hP hD hS => ?_)
    obtain ⟨σ5, eσ5⟩ : ∃ z, z = up2 σ 32 0 z1 := ⟨_, rfl⟩
    have hwp := hwp σ5 eσ5
    have hP : va_P D clA (mw a tI tZ σ5) H := by rw [eσ5]; exact hP
    have hD : va_D A (mw a tI tZ σ5) := by rw [eσ5]; exact hD
    refine lv_aload_n hx hb dMo_about_17 rfl (lv_at hl 0 rfl) ?_
    refine va_get (D := D) (ci := 0) (C := RMo) (T := TMo) (N := 33) hx hb hts hin0 hown hK hP 0 rfl rfl 32 (by decide) k90 (fun _ h9 => h9) rfl dMo_about_18 ?_
    refine lv_if_eq hx hb dMo_about_21 rfl (fun h6 => ?_) (fun h6 => ?_)
    · have hwp := hwp.1 h6
      refine lv_iload_n hx hb dMo_about_26 rfl (lv_at hl 1 rfl) ?_
      refine lv_iconst (v := 3) hx hb dMo_about_27 (by decide) ?_
      refine lv_icmp_ge hx hb dMo_about_28 rfl (fun h7 => ?_) (fun h7 => ?_)
      · have hwp := hwp.1 h7
        refine lv_iload_n hx hb dMo_about_42 rfl (lv_at hl 1 rfl) ?_
        refine lv_iconst (v := 3) hx hb dMo_about_43 (by decide) ?_
        refine lv_icmp_ne hx hb dMo_about_44 rfl (fun h8 => ?_) (fun h8 => ?_)
        · have hwp := hwp.1 h8
          refine lv_aload_n hx hb dMo_about_56 rfl (lv_at hl 0 rfl) ?_
          refine va_get (D := D) (ci := 0) (C := RMo) (T := TMo) (N := 33) hx hb hts hin0 hown hK hP 0 rfl rfl 29 (by decide) k81 (fun _ h9 => h9) rfl dMo_about_57 ?_
          refine lv_iload_n hx hb dMo_about_60 rfl (lv_at hl 2 rfl) ?_
          obtain ⟨hi9, hwp⟩ := hwp
          refine va_zald hx hb hK hP 22 1 rfl rfl hi9 dMo_about_61 ?_
          refine lv_if_eq hx hb dMo_about_62 rfl (fun h10 => ?_) (fun h10 => ?_)
          · have hwp := hwp.1 h10
            refine lv_iconst (v := 0) hx hb dMo_about_69 (by decide) ?_
            exact cut70 σ5 y1 y2 0 _ _ _ hwp hP hD hS (lv_sub hl [0, 1, 2] rfl)
          · have hwp := hwp.2 h10
            refine lv_iconst (v := 1) hx hb dMo_about_65 (by decide) ?_
            refine lv_goto hx hb dMo_about_66 rfl ?_
            exact cut70 σ5 y1 y2 1 _ _ _ hwp hP hD hS (lv_sub hl [0, 1, 2] rfl)
        · have hwp := hwp.2 h8
          refine lv_aload_n hx hb dMo_about_47 rfl (lv_at hl 0 rfl) ?_
          refine va_get (D := D) (ci := 0) (C := RMo) (T := TMo) (N := 33) hx hb hts hin0 hown hK hP 0 rfl rfl 25 (by decide) k72 (fun _ h9 => h9) rfl dMo_about_48 ?_
          refine lv_iload_n hx hb dMo_about_51 rfl (lv_at hl 2 rfl) ?_
          obtain ⟨hi11, hwp⟩ := hwp
          refine va_iald hx hb hK hP 20 0 rfl rfl hi11 dMo_about_52 ?_
          refine lv_goto hx hb dMo_about_53 rfl ?_
          exact W.iret (v := σ5 25 y2.toNatClampNeg) hx hb hr (fun t ht hW => ⟨⟨σ5 25 y2.toNatClampNeg, σ5, rfl, hwp, uEnd ht hW hP hK hD hS hA⟩, hS.F ht⟩) hS.2.2 dMo_about_102
      · have hwp := hwp.2 h7
        refine lv_aload_n hx hb dMo_about_31 rfl (lv_at hl 0 rfl) ?_
        refine va_get (D := D) (ci := 0) (C := RMo) (T := TMo) (N := 33) hx hb hts hin0 hown hK hP 0 rfl rfl 8 (by decide) k32 (fun _ h9 => h9) rfl dMo_about_32 ?_
        refine lv_iconst (v := 4) hx hb dMo_about_35 (by decide) ?_
        refine lv_iload_n hx hb dMo_about_36 rfl (lv_at hl 1 rfl) ?_
        refine lv_imul hx hb dMo_about_37 ?_
        refine lv_iload_n hx hb dMo_about_38 rfl (lv_at hl 2 rfl) ?_
        refine lv_iadd hx hb dMo_about_39 ?_
        obtain ⟨hi12, hwp⟩ := hwp
        refine va_iald hx hb hK hP 7 0 rfl rfl hi12 dMo_about_40 ?_
        exact W.iret (v := σ5 8 ((4 * y1) + y2).toNatClampNeg) hx hb hr (fun t ht hW => ⟨⟨σ5 8 ((4 * y1) + y2).toNatClampNeg, σ5, rfl, hwp, uEnd ht hW hP hK hD hS hA⟩, hS.F ht⟩) hS.2.2 dMo_about_41
    · have hwp := hwp.2 h6
      refine lv_iconst (v := 0) hx hb dMo_about_24 (by decide) ?_
      exact W.iret (v := 0) hx hb hr (fun t ht hW => ⟨⟨0, σ5, rfl, hwp, uEnd ht hW hP hK hD hS hA⟩, hS.F ht⟩) hS.2.2 dMo_about_25
  have hl := lv_entry ([.ref (a 0), .int x1, .int x2]) (n := 3) (Nat.le_of_ble_eq_true rfl)
  rw [lg_entry_eq]
  generalize (lg_sl ([.ref (a 0), .int x1, .int x2]) ++ List.replicate (3 - (lg_sl ([.ref (a 0), .int x1, .int x2])).length) Slot.unset).toArray = ls at hl ⊢
  have hl : lv_has ls 3 [(0, .ref (a 0)), (1, .int x1), (2, .int x2)] := hl
  refine lv_aload_n hx hb dMo_about_0 rfl (lv_at hl 0 rfl) ?_
  refine lv_iload_n hx hb dMo_about_1 rfl (lv_at hl 1 rfl) ?_
  refine lv_iload_n hx hb dMo_about_2 rfl (lv_at hl 2 rfl) ?_
  obtain ⟨P13, hP13, hwp⟩ := hwp
  refine uCallSi (As := [.int x1, .int x2]) (rest := [.ref (a 0)]) ⟨hx, hb, hml, hown, hts⟩ (kM_isService l D a A tI tZ σ x1 x2 P13 hP13) (cwS 2 hts (gdS wm_945 wm_946 wm_13 wm_947) rfl rfl rfl (by decide +kernel) ⟨Nat.le_of_ble_eq_true rfl, Nat.le_of_ble_eq_true rfl⟩) hP hK hD hA hS rfl hl.1 rfl (Nat.le_of_ble_eq_true rfl) dMo_about_3 ⟨Nat.le_of_ble_eq_true rfl, Nat.le_of_ble_eq_true rfl⟩ (fun r15 u14 H locs hu14 hP hD hS => ?_)
  have hwp := hwp r15 u14 hu14
  refine lv_if_eq hx hb dMo_about_6 rfl (fun h16 => ?_) (fun h16 => ?_)
  · have hwp := hwp.1 h16
    refine lv_iconst (v := 1) hx hb dMo_about_13 (by decide) ?_
    exact cut14 u14 x1 x2 1 _ _ _ hwp hP hD hS (lv_sub hl [0, 1, 2] rfl)
  · have hwp := hwp.2 h16
    refine lv_iconst (v := 0) hx hb dMo_about_9 (by decide) ?_
    refine lv_goto hx hb dMo_about_10 rfl ?_
    exact cut14 u14 x1 x2 0 _ _ _ hwp hP hD hS (lv_sub hl [0, 1, 2] rfl)
-- public int more(int, int)
def wM_more_101 (R : Int32 → MS → Prop) (σ : MS) (y1 : Int32) (y2 : Int32) (z0 : Int32) (z1 : Int32) : Prop :=
  R (z0 + z1) σ
def wM_more_14 (R : Int32 → MS → Prop) (σ : MS) (y1 : Int32) (y2 : Int32) (z1 : Int32) : Prop :=
  (∀ σ1 : MS, σ1 = up2 σ 32 0 z1 → ((((σ1 32 0) = 0) → (((y1 = 0) → (vp_in y2 4 ∧ R (σ1 11 y2.toNatClampNeg) σ1)) ∧ ((¬ y1 = 0) → (((y1 = 1) → (vp_in (5 * y2) 16 ∧ R (σ1 15 (5 * y2).toNatClampNeg) σ1)) ∧ ((¬ y1 = 1) → (((y1 = 2) → (vp_in y2 4 ∧ R (σ1 20 y2.toNatClampNeg) σ1)) ∧ ((¬ y1 = 2) → (((y1 = 3) → (vp_in y2 4 ∧ (vp_in y2 4 ∧ ((((σ1 26 y2.toNatClampNeg) = 0) → wM_more_101 R σ1 y1 y2 (σ1 24 y2.toNatClampNeg) 0) ∧ ((¬ (σ1 26 y2.toNatClampNeg) = 0) → wM_more_101 R σ1 y1 y2 (σ1 24 y2.toNatClampNeg) 1000))))) ∧ ((¬ y1 = 3) → (vp_in y2 4 ∧ R (σ1 30 y2.toNatClampNeg) σ1)))))))))) ∧ ((¬ (σ1 32 0) = 0) → R 0 σ1)))
def wM_more (R : Int32 → MS → Prop) (σ : MS) (x1 x2 : Int32) : Prop :=
  (∃ P14 : Int32 → MS → Prop, wM_isService P14 σ x1 x2 ∧ (∀ (r16 : Int32) (u15 : MS), P14 r16 u15 → (((r16 = 0) → wM_more_14 R u15 x1 x2 1) ∧ ((¬ r16 = 0) → wM_more_14 R u15 x1 x2 0))))
abbrev wsMo_more : List Cond := .code yMo_more cMo_more 3 (some .int) :: wg
abbrev rmM_more : Room := { frames := 2, cells := 0, slots := 0, locals := 41 }
set_option maxHeartbeats 4000000 in
set_option maxRecDepth 100000 in
theorem kM_more (l : Launch) (D : va_G) (a : Nat → Nat) (A : Nat → Prop) (tI tZ : ClassId) (σ : MS) (x1 x2 : Int32) (R : Int32 → MS → Prop) (hwp : wM_more R σ x1 x2) : Met l yMo_more wsMo_more rmM_more (va_Pc [.ref (a 0), .int x1, .int x2] (uI D clA (mT tI tZ) A false (mw a tI tZ) σ)) (va_Qi R (uI D clA (mT tI tZ) A false (mw a tI tZ)) A) 0 0 A := by
  refine Met.ofW (cc := cMo_more) (maxL := 3) (ret := (some .int)) (by decide) rfl ?_
  intro p e s m args below meth c s₁ B hml hv
  obtain ⟨rfl, hP, hK, hD, hA⟩ := hv
  have hx := B.exec
  have hb := B.bytes
  have hr := B.returns
  have hts := atoms_spec (ws := wsMo_more) B.pre
  have hown : s.vm.findClass RMo = some m.cls := findClass_of_methodNamed B.named
  have hlocks := B.notSynchronized
  have hin0 : ∀ w ∈ u_ws RMo TMo 33, w ∈ wsMo_more := fun w h => List.mem_cons_of_mem _ (inMo w h)
  have k35 := hts _ (List.mem_cons_of_mem _ wm_747)
  have k47 := hts _ (List.mem_cons_of_mem _ wm_751)
  have k56 := hts _ (List.mem_cons_of_mem _ wm_756)
  have k69 := hts _ (List.mem_cons_of_mem _ wm_760)
  have k75 := hts _ (List.mem_cons_of_mem _ wm_762)
  have k84 := hts _ (List.mem_cons_of_mem _ wm_766)
  have k90 := hts _ (List.mem_cons_of_mem _ wm_768)
  have hS : va_S A s.heap s.heap [] := va_S.rf
  have cut101 : ∀ (σ : MS) (y1 : Int32) (y2 : Int32) (z0 : Int32) (z1 : Int32) (H : Heap) (locs : List Loc) (ls : Array Slot), wM_more_101 R σ y1 y2 z0 z1 → va_P D clA (mw a tI tZ σ) H → va_D A (mw a tI tZ σ) → va_S A s.heap H locs → lv_has ls 3 [(0, .ref (a 0)), (1, .int y1), (2, .int y2)] → W p l e (headSpec wsMo_more rmM_more).room s m ([.ref (a 0), .int x1, .int x2] : List Value).toArray below meth c H locs 0 0 (MQ below (va_Qi R (uI D clA (mT tI tZ) A false (mw a tI tZ)) A) ([.ref (a 0), .int x1, .int x2] : List Value).toArray s 0 0 A) (F0 m 101 ls [.int z1, .int z0]) := by
    intro σ y1 y2 z0 z1 H locs ls hwp hP hD hS hl
    refine lv_iadd hx hb dMo_more_101 ?_
    exact W.iret (v := z0 + z1) hx hb hr (fun t ht hW => ⟨⟨z0 + z1, σ, rfl, hwp, uEnd ht hW hP hK hD hS hA⟩, hS.F ht⟩) hS.2.2 dMo_more_102
  have cut14 : ∀ (σ : MS) (y1 : Int32) (y2 : Int32) (z1 : Int32) (H : Heap) (locs : List Loc) (ls : Array Slot), wM_more_14 R σ y1 y2 z1 → va_P D clA (mw a tI tZ σ) H → va_D A (mw a tI tZ σ) → va_S A s.heap H locs → lv_has ls 3 [(0, .ref (a 0)), (1, .int y1), (2, .int y2)] → W p l e (headSpec wsMo_more rmM_more).room s m ([.ref (a 0), .int x1, .int x2] : List Value).toArray below meth c H locs 0 0 (MQ below (va_Qi R (uI D clA (mT tI tZ) A false (mw a tI tZ)) A) ([.ref (a 0), .int x1, .int x2] : List Value).toArray s 0 0 A) (F0 m 14 ls [.int z1, .ref (a 0)]) := by
    intro σ y1 y2 z1 H locs ls hwp hP hD hS hl
    refine va_put (ty := .int) (D := D) (ci := 0) (C := RMo) (T := TMo) (N := 33) hx hb hts hin0 tyMo tyMo_ok nmMo hown hK hP hD hS 0 rfl rfl 32 (by decide) k90 (fun _ h9 => h9) rfl (by decide +kernel) rfl rfl (Nat.le_of_ble_eq_true rfl) dMo_more_14 (fun H locs hP hD hS => ?_)
    obtain ⟨σ1, eσ1⟩ : ∃ z, z = up2 σ 32 0 z1 := ⟨_, rfl⟩
    have hwp := hwp σ1 eσ1
    have hP : va_P D clA (mw a tI tZ σ1) H := by rw [eσ1]; exact hP
    have hD : va_D A (mw a tI tZ σ1) := by rw [eσ1]; exact hD
    refine lv_aload_n hx hb dMo_more_17 rfl (lv_at hl 0 rfl) ?_
    refine va_get (D := D) (ci := 0) (C := RMo) (T := TMo) (N := 33) hx hb hts hin0 hown hK hP 0 rfl rfl 32 (by decide) k90 (fun _ h9 => h9) rfl dMo_more_18 ?_
    refine lv_if_eq hx hb dMo_more_21 rfl (fun h2 => ?_) (fun h2 => ?_)
    · have hwp := hwp.1 h2
      refine lv_iload_n hx hb dMo_more_26 rfl (lv_at hl 1 rfl) ?_
      by_cases h3 : y1 = 0
      · have hwp := hwp.1 h3
        refine lv_tableIn hx hb dMo_more_27 (by rw [h3]; decide) (by rw [h3]; decide) (by rw [h3]; rfl) rfl ?_
        refine lv_aload_n hx hb dMo_more_56 rfl (lv_at hl 0 rfl) ?_
        refine va_get (D := D) (ci := 0) (C := RMo) (T := TMo) (N := 33) hx hb hts hin0 hown hK hP 0 rfl rfl 11 (by decide) k35 (fun _ h9 => h9) rfl dMo_more_57 ?_
        refine lv_iload_n hx hb dMo_more_60 rfl (lv_at hl 2 rfl) ?_
        obtain ⟨hi4, hwp⟩ := hwp
        refine va_iald hx hb hK hP 8 0 rfl rfl hi4 dMo_more_61 ?_
        exact W.iret (v := σ1 11 y2.toNatClampNeg) hx hb hr (fun t ht hW => ⟨⟨σ1 11 y2.toNatClampNeg, σ1, rfl, hwp, uEnd ht hW hP hK hD hS hA⟩, hS.F ht⟩) hS.2.2 dMo_more_62
      have hwp := hwp.2 h3
      by_cases h5 : y1 = 1
      · have hwp := hwp.1 h5
        refine lv_tableIn hx hb dMo_more_27 (by rw [h5]; decide) (by rw [h5]; decide) (by rw [h5]; rfl) rfl ?_
        refine lv_aload_n hx hb dMo_more_63 rfl (lv_at hl 0 rfl) ?_
        refine va_get (D := D) (ci := 0) (C := RMo) (T := TMo) (N := 33) hx hb hts hin0 hown hK hP 0 rfl rfl 15 (by decide) k47 (fun _ h9 => h9) rfl dMo_more_64 ?_
        refine lv_iconst (v := 5) hx hb dMo_more_67 (by decide) ?_
        refine lv_iload_n hx hb dMo_more_68 rfl (lv_at hl 2 rfl) ?_
        refine lv_imul hx hb dMo_more_69 ?_
        obtain ⟨hi6, hwp⟩ := hwp
        refine va_iald hx hb hK hP 12 0 rfl rfl hi6 dMo_more_70 ?_
        exact W.iret (v := σ1 15 (5 * y2).toNatClampNeg) hx hb hr (fun t ht hW => ⟨⟨σ1 15 (5 * y2).toNatClampNeg, σ1, rfl, hwp, uEnd ht hW hP hK hD hS hA⟩, hS.F ht⟩) hS.2.2 dMo_more_71
      have hwp := hwp.2 h5
      by_cases h7 : y1 = 2
      · have hwp := hwp.1 h7
        refine lv_tableIn hx hb dMo_more_27 (by rw [h7]; decide) (by rw [h7]; decide) (by rw [h7]; rfl) rfl ?_
        refine lv_aload_n hx hb dMo_more_72 rfl (lv_at hl 0 rfl) ?_
        refine va_get (D := D) (ci := 0) (C := RMo) (T := TMo) (N := 33) hx hb hts hin0 hown hK hP 0 rfl rfl 20 (by decide) k56 (fun _ h9 => h9) rfl dMo_more_73 ?_
        refine lv_iload_n hx hb dMo_more_76 rfl (lv_at hl 2 rfl) ?_
        obtain ⟨hi8, hwp⟩ := hwp
        refine va_iald hx hb hK hP 15 0 rfl rfl hi8 dMo_more_77 ?_
        exact W.iret (v := σ1 20 y2.toNatClampNeg) hx hb hr (fun t ht hW => ⟨⟨σ1 20 y2.toNatClampNeg, σ1, rfl, hwp, uEnd ht hW hP hK hD hS hA⟩, hS.F ht⟩) hS.2.2 dMo_more_78
      have hwp := hwp.2 h7
      by_cases h9 : y1 = 3
      · have hwp := hwp.1 h9
        refine lv_tableIn hx hb dMo_more_27 (by rw [h9]; decide) (by rw [h9]; decide) (by rw [h9]; rfl) rfl ?_
        refine lv_aload_n hx hb dMo_more_79 rfl (lv_at hl 0 rfl) ?_
        refine va_get (D := D) (ci := 0) (C := RMo) (T := TMo) (N := 33) hx hb hts hin0 hown hK hP 0 rfl rfl 24 (by decide) k69 (fun _ h9 => h9) rfl dMo_more_80 ?_
        refine lv_iload_n hx hb dMo_more_83 rfl (lv_at hl 2 rfl) ?_
        obtain ⟨hi10, hwp⟩ := hwp
        refine va_iald hx hb hK hP 19 0 rfl rfl hi10 dMo_more_84 ?_
        refine lv_aload_n hx hb dMo_more_85 rfl (lv_at hl 0 rfl) ?_
        refine va_get (D := D) (ci := 0) (C := RMo) (T := TMo) (N := 33) hx hb hts hin0 hown hK hP 0 rfl rfl 26 (by decide) k75 (fun _ h9 => h9) rfl dMo_more_86 ?_
        refine lv_iload_n hx hb dMo_more_89 rfl (lv_at hl 2 rfl) ?_
        obtain ⟨hi11, hwp⟩ := hwp
        refine va_zald hx hb hK hP 21 1 rfl rfl hi11 dMo_more_90 ?_
        refine lv_if_eq hx hb dMo_more_91 rfl (fun h12 => ?_) (fun h12 => ?_)
        · have hwp := hwp.1 h12
          refine lv_iconst (v := 0) hx hb dMo_more_100 (by decide) ?_
          exact cut101 σ1 y1 y2 (σ1 24 y2.toNatClampNeg) 0 _ _ _ hwp hP hD hS (lv_sub hl [0, 1, 2] rfl)
        · have hwp := hwp.2 h12
          refine lv_sipush (v := 1000) hx hb dMo_more_94 (by decide) ?_
          refine lv_goto hx hb dMo_more_97 rfl ?_
          exact cut101 σ1 y1 y2 (σ1 24 y2.toNatClampNeg) 1000 _ _ _ hwp hP hD hS (lv_sub hl [0, 1, 2] rfl)
      have hwp := hwp.2 h9
      refine lv_tableOut hx hb dMo_more_27 (fx_out4 h3 h5 h7 h9) rfl ?_
      refine lv_aload_n hx hb dMo_more_103 rfl (lv_at hl 0 rfl) ?_
      refine va_get (D := D) (ci := 0) (C := RMo) (T := TMo) (N := 33) hx hb hts hin0 hown hK hP 0 rfl rfl 30 (by decide) k84 (fun _ h9 => h9) rfl dMo_more_104 ?_
      refine lv_iload_n hx hb dMo_more_107 rfl (lv_at hl 2 rfl) ?_
      obtain ⟨hi13, hwp⟩ := hwp
      refine va_iald hx hb hK hP 23 0 rfl rfl hi13 dMo_more_108 ?_
      exact W.iret (v := σ1 30 y2.toNatClampNeg) hx hb hr (fun t ht hW => ⟨⟨σ1 30 y2.toNatClampNeg, σ1, rfl, hwp, uEnd ht hW hP hK hD hS hA⟩, hS.F ht⟩) hS.2.2 dMo_more_109
    · have hwp := hwp.2 h2
      refine lv_iconst (v := 0) hx hb dMo_more_24 (by decide) ?_
      exact W.iret (v := 0) hx hb hr (fun t ht hW => ⟨⟨0, σ1, rfl, hwp, uEnd ht hW hP hK hD hS hA⟩, hS.F ht⟩) hS.2.2 dMo_more_25
  have hl := lv_entry ([.ref (a 0), .int x1, .int x2]) (n := 3) (Nat.le_of_ble_eq_true rfl)
  rw [lg_entry_eq]
  generalize (lg_sl ([.ref (a 0), .int x1, .int x2]) ++ List.replicate (3 - (lg_sl ([.ref (a 0), .int x1, .int x2])).length) Slot.unset).toArray = ls at hl ⊢
  have hl : lv_has ls 3 [(0, .ref (a 0)), (1, .int x1), (2, .int x2)] := hl
  refine lv_aload_n hx hb dMo_more_0 rfl (lv_at hl 0 rfl) ?_
  refine lv_iload_n hx hb dMo_more_1 rfl (lv_at hl 1 rfl) ?_
  refine lv_iload_n hx hb dMo_more_2 rfl (lv_at hl 2 rfl) ?_
  obtain ⟨P14, hP14, hwp⟩ := hwp
  refine uCallSi (As := [.int x1, .int x2]) (rest := [.ref (a 0)]) ⟨hx, hb, hml, hown, hts⟩ (kM_isService l D a A tI tZ σ x1 x2 P14 hP14) (cwS 2 hts (gdS wm_945 wm_946 wm_13 wm_947) rfl rfl rfl (by decide +kernel) ⟨Nat.le_of_ble_eq_true rfl, Nat.le_of_ble_eq_true rfl⟩) hP hK hD hA hS rfl hl.1 rfl (Nat.le_of_ble_eq_true rfl) dMo_more_3 ⟨Nat.le_of_ble_eq_true rfl, Nat.le_of_ble_eq_true rfl⟩ (fun r16 u15 H locs hu15 hP hD hS => ?_)
  have hwp := hwp r16 u15 hu15
  refine lv_if_eq hx hb dMo_more_6 rfl (fun h17 => ?_) (fun h17 => ?_)
  · have hwp := hwp.1 h17
    refine lv_iconst (v := 1) hx hb dMo_more_13 (by decide) ?_
    exact cut14 u15 x1 x2 1 _ _ _ hwp hP hD hS (lv_sub hl [0, 1, 2] rfl)
  · have hwp := hwp.2 h17
    refine lv_iconst (v := 0) hx hb dMo_more_9 (by decide) ?_
    refine lv_goto hx hb dMo_more_10 rfl ?_
    exact cut14 u15 x1 x2 0 _ _ _ hwp hP hD hS (lv_sub hl [0, 1, 2] rfl)
-- public int count(int)
def wM_count (R : Int32 → MS → Prop) (σ : MS) (x1 : Int32) : Prop :=
  (∀ σ1 : MS, σ1 = up2 σ 32 0 0 → (((¬ x1 = 0) → (((¬ x1 = 1) → (((¬ x1 = 2) → (((¬ x1 = 3) → R (-1) σ1) ∧ ((x1 = 3) → R (σ1 27 0) σ1))) ∧ ((x1 = 2) → R (σ1 28 0) σ1))) ∧ ((x1 = 1) → R (σ1 10 0) σ1))) ∧ ((x1 = 0) → R (σ1 9 0) σ1)))
abbrev wsMo_count : List Cond := .code yMo_count cMo_count 2 (some .int) :: wg
abbrev rmM_count : Room := { frames := 0, cells := 0, slots := 0, locals := 0 }
set_option maxHeartbeats 4000000 in
set_option maxRecDepth 100000 in
theorem kM_count (l : Launch) (D : va_G) (a : Nat → Nat) (A : Nat → Prop) (tI tZ : ClassId) (σ : MS) (x1 : Int32) (R : Int32 → MS → Prop) (hwp : wM_count R σ x1) : Met l yMo_count wsMo_count rmM_count (va_Pc [.ref (a 0), .int x1] (uI D clA (mT tI tZ) A false (mw a tI tZ) σ)) (va_Qi R (uI D clA (mT tI tZ) A false (mw a tI tZ)) A) 0 0 A := by
  refine Met.ofW (cc := cMo_count) (maxL := 2) (ret := (some .int)) (by decide) rfl ?_
  intro p e s m args below meth c s₁ B hml hv
  obtain ⟨rfl, hP, hK, hD, hA⟩ := hv
  have hx := B.exec
  have hb := B.bytes
  have hr := B.returns
  have hts := atoms_spec (ws := wsMo_count) B.pre
  have hown : s.vm.findClass RMo = some m.cls := findClass_of_methodNamed B.named
  have hlocks := B.notSynchronized
  have hin0 : ∀ w ∈ u_ws RMo TMo 33, w ∈ wsMo_count := fun w h => List.mem_cons_of_mem _ (inMo w h)
  have k128 := hts _ (List.mem_cons_of_mem _ wm_745)
  have k164 := hts _ (List.mem_cons_of_mem _ wm_764)
  have k78 := hts _ (List.mem_cons_of_mem _ wm_763)
  have k90 := hts _ (List.mem_cons_of_mem _ wm_768)
  have k96 := hts _ (List.mem_cons_of_mem _ wm_746)
  have hS : va_S A s.heap s.heap [] := va_S.rf
  have hl := lv_entry ([.ref (a 0), .int x1]) (n := 2) (Nat.le_of_ble_eq_true rfl)
  rw [lg_entry_eq]
  generalize (lg_sl ([.ref (a 0), .int x1]) ++ List.replicate (2 - (lg_sl ([.ref (a 0), .int x1])).length) Slot.unset).toArray = ls at hl ⊢
  have hl : lv_has ls 2 [(0, .ref (a 0)), (1, .int x1)] := hl
  refine lv_aload_n hx hb dMo_count_0 rfl (lv_at hl 0 rfl) ?_
  refine lv_iconst (v := 0) hx hb dMo_count_1 (by decide) ?_
  refine va_put (ty := .int) (D := D) (ci := 0) (C := RMo) (T := TMo) (N := 33) hx hb hts hin0 tyMo tyMo_ok nmMo hown hK hP hD hS 0 rfl rfl 32 (by decide) k90 (fun _ h9 => h9) rfl (by decide +kernel) rfl rfl (Nat.le_of_ble_eq_true rfl) dMo_count_2 (fun H locs hP hD hS => ?_)
  obtain ⟨σ1, eσ1⟩ : ∃ z, z = up2 σ 32 0 0 := ⟨_, rfl⟩
  have hwp := hwp σ1 eσ1
  have hP : va_P D clA (mw a tI tZ σ1) H := by rw [eσ1]; exact hP
  have hD : va_D A (mw a tI tZ σ1) := by rw [eσ1]; exact hD
  refine lv_iload_n hx hb dMo_count_5 rfl (lv_at hl 1 rfl) ?_
  refine lv_if_ne hx hb dMo_count_6 rfl (fun h2 => ?_) (fun h2 => ?_)
  · have hwp := hwp.1 h2
    refine lv_iload_n hx hb dMo_count_16 rfl (lv_at hl 1 rfl) ?_
    refine lv_iconst (v := 1) hx hb dMo_count_17 (by decide) ?_
    refine lv_icmp_ne hx hb dMo_count_18 rfl (fun h3 => ?_) (fun h3 => ?_)
    · have hwp := hwp.1 h3
      refine lv_iload_n hx hb dMo_count_28 rfl (lv_at hl 1 rfl) ?_
      refine lv_iconst (v := 2) hx hb dMo_count_29 (by decide) ?_
      refine lv_icmp_ne hx hb dMo_count_30 rfl (fun h4 => ?_) (fun h4 => ?_)
      · have hwp := hwp.1 h4
        refine lv_iload_n hx hb dMo_count_40 rfl (lv_at hl 1 rfl) ?_
        refine lv_iconst (v := 3) hx hb dMo_count_41 (by decide) ?_
        refine lv_icmp_ne hx hb dMo_count_42 rfl (fun h5 => ?_) (fun h5 => ?_)
        · have hwp := hwp.1 h5
          refine lv_iconst (v := (-1)) hx hb dMo_count_52 (by decide) ?_
          exact W.iret (v := (-1)) hx hb hr (fun t ht hW => ⟨⟨(-1), σ1, rfl, hwp, uEnd ht hW hP hK hD hS hA⟩, hS.F ht⟩) hS.2.2 dMo_count_53
        · have hwp := hwp.2 h5
          refine lv_aload_n hx hb dMo_count_45 rfl (lv_at hl 0 rfl) ?_
          refine va_get (D := D) (ci := 0) (C := RMo) (T := TMo) (N := 33) hx hb hts hin0 hown hK hP 0 rfl rfl 27 (by decide) k78 (fun _ h9 => h9) rfl dMo_count_46 ?_
          refine lv_goto hx hb dMo_count_49 rfl ?_
          exact W.iret (v := σ1 27 0) hx hb hr (fun t ht hW => ⟨⟨σ1 27 0, σ1, rfl, hwp, uEnd ht hW hP hK hD hS hA⟩, hS.F ht⟩) hS.2.2 dMo_count_53
      · have hwp := hwp.2 h4
        refine lv_aload_n hx hb dMo_count_33 rfl (lv_at hl 0 rfl) ?_
        refine va_get (D := D) (ci := 0) (C := RMo) (T := TMo) (N := 33) hx hb hts hin0 hown hK hP 0 rfl rfl 28 (by decide) k164 (fun _ h9 => h9) rfl dMo_count_34 ?_
        refine lv_goto hx hb dMo_count_37 rfl ?_
        exact W.iret (v := σ1 28 0) hx hb hr (fun t ht hW => ⟨⟨σ1 28 0, σ1, rfl, hwp, uEnd ht hW hP hK hD hS hA⟩, hS.F ht⟩) hS.2.2 dMo_count_53
    · have hwp := hwp.2 h3
      refine lv_aload_n hx hb dMo_count_21 rfl (lv_at hl 0 rfl) ?_
      refine va_get (D := D) (ci := 0) (C := RMo) (T := TMo) (N := 33) hx hb hts hin0 hown hK hP 0 rfl rfl 10 (by decide) k96 (fun _ h9 => h9) rfl dMo_count_22 ?_
      refine lv_goto hx hb dMo_count_25 rfl ?_
      exact W.iret (v := σ1 10 0) hx hb hr (fun t ht hW => ⟨⟨σ1 10 0, σ1, rfl, hwp, uEnd ht hW hP hK hD hS hA⟩, hS.F ht⟩) hS.2.2 dMo_count_53
  · have hwp := hwp.2 h2
    refine lv_aload_n hx hb dMo_count_9 rfl (lv_at hl 0 rfl) ?_
    refine va_get (D := D) (ci := 0) (C := RMo) (T := TMo) (N := 33) hx hb hts hin0 hown hK hP 0 rfl rfl 9 (by decide) k128 (fun _ h9 => h9) rfl dMo_count_10 ?_
    refine lv_goto hx hb dMo_count_13 rfl ?_
    exact W.iret (v := σ1 9 0) hx hb hr (fun t ht hW => ⟨⟨σ1 9 0, σ1, rfl, hwp, uEnd ht hW hP hK hD hS hA⟩, hS.F ht⟩) hS.2.2 dMo_count_53
end
section
-- the state of the class: numbers by field and place; references by field and place; the messages made
abbrev CS : Type := MS × (Nat → Nat → Option Nat) × List Nat
def cu (σ : CS) (k i : Nat) (v : Int32) : CS := (up2 σ.1 k i v, σ.2)
def cr (σ : CS) (k i : Nat) (o : Option Nat) : CS := (σ.1, (fun j => cond (Nat.beq j k) (va_up (σ.2.1 k) i o) (σ.2.1 j)), σ.2.2)
theorem cr_at (σ : CS) (k i : Nat) (o : Option Nat) (j : Nat) : (cr σ k i o).2.1 j = if j = k then va_up (σ.2.1 k) i o else σ.2.1 j := by
  show cond (Nat.beq j k) (va_up (σ.2.1 k) i o) (σ.2.1 j) = _
  rw [fx_beq]
  by_cases h : j = k <;> simp [h]
theorem cr_1 (σ : CS) (k i : Nat) (o : Option Nat) : (cr σ k i o).1 = σ.1 := rfl
theorem cr_3 (σ : CS) (k i : Nat) (o : Option Nat) : (cr σ k i o).2.2 = σ.2.2 := rfl
def lkp (k : Nat) : Nat := match k with
  | 0 => 5
  | 1 => 11
  | _ => 19
def svp (k : Nat) : Nat := match k with
  | 0 => 5
  | 1 => 11
  | 2 => 19
  | 3 => 24
  | _ => 38
abbrev cT (t : Nat → ClassId) : List (ClassId × FieldType) := [(t 0, .int), (t 1, .boolean), (t 2, .object "NodeServices$Channel"), (t 3, .object "NodeServices$Lock"), (t 4, .object "NodeServices$Service"), (t 5, .object "NodeServices$NodeRow"), (t 6, .array .int)]
def cG (σ : CS) (q : Nat) : va_E := .inr (4, [.int (σ.1 41 q), .int (σ.1 42 q), .int (σ.1 43 q), va_rf (σ.2.1 2 q)])
def cF (a : Nat → Nat) (t : Nat → ClassId) (σ : CS) : va_W := [
  (a 0, .inr (1, [.ref (a 1), .ref (a 3), .ref (a 24), .ref (a 38), .ref (a 4)])),
  (a 1, .inr (2, [.ref (a 2), .int (σ.1 0 0)])),
  (a 2, .inl (t 2, 16, .inr (.inr (.inr (.inr (fun k => some (a (42 + k)))))))),
  (a 3, .inl (t 3, 3, .inr (.inr (.inr (.inr (fun k => some (a (lkp k)))))))),
  (a 4, .inl (t 4, 5, .inr (.inr (.inr (.inr (fun k => some (a (svp k)))))))),
  (a 5, .inr (6, [.ref (a 7), .ref (a 8), .ref (a 9), .ref (a 10), .ref (a 6), .int (σ.1 2 0), .ref (a 1), .int 0])),
  (a 6, .inl (t 0, 4, .inl (σ.1 1))),
  (a 7, .inl (t 0, 4, .inl (σ.1 3))),
  (a 8, .inl (t 0, 4, .inl (σ.1 4))),
  (a 9, .inl (t 0, 4, .inl (σ.1 5))),
  (a 10, .inl (t 1, 16, .inl (σ.1 6))),
  (a 11, .inr (7, [.ref (a 13), .ref (a 18), .ref (a 29), .int (σ.1 9 0), .ref (a 12), .int (σ.1 8 0), .ref (a 1), .int 1])),
  (a 12, .inl (t 0, 4, .inl (σ.1 7))),
  (a 13, .inl (t 6, 4, .inr (.inr (.inr (.inr (fun k => some (a (14 + k)))))))),
  (a 14, .inl (t 0, 4, .inl (σ.1 10))),
  (a 15, .inl (t 0, 4, .inl (σ.1 11))),
  (a 16, .inl (t 0, 4, .inl (σ.1 12))),
  (a 17, .inl (t 0, 4, .inl (σ.1 13))),
  (a 18, .inl (t 0, 4, .inl (σ.1 14))),
  (a 19, .inr (8, [.ref (a 21), .ref (a 22), .ref (a 23), .ref (a 20), .int (σ.1 16 0), .ref (a 1), .int 2])),
  (a 20, .inl (t 0, 4, .inl (σ.1 15))),
  (a 21, .inl (t 0, 4, .inl (σ.1 17))),
  (a 22, .inl (t 5, 4, .inr (.inr (.inr (.inr (fun k => some (a (25 + k)))))))),
  (a 23, .inl (t 1, 4, .inl (σ.1 18))),
  (a 24, .inr (9, [.ref (a 35), .ref (a 36), .ref (a 37), .ref (a 1), .int 3])),
  (a 25, .inr (5, [.ref (a 30), .int (σ.1 19 0)])),
  (a 26, .inr (5, [.ref (a 31), .int (σ.1 20 0)])),
  (a 27, .inr (5, [.ref (a 32), .int (σ.1 21 0)])),
  (a 28, .inr (5, [.ref (a 33), .int (σ.1 22 0)])),
  (a 29, .inr (5, [.ref (a 34), .int (σ.1 23 0)])),
  (a 30, .inl (t 0, 4, .inl (σ.1 24))),
  (a 31, .inl (t 0, 4, .inl (σ.1 25))),
  (a 32, .inl (t 0, 4, .inl (σ.1 26))),
  (a 33, .inl (t 0, 4, .inl (σ.1 27))),
  (a 34, .inl (t 0, 4, .inl (σ.1 28))),
  (a 35, .inl (t 1, 4, .inl (σ.1 29))),
  (a 36, .inl (t 0, 4, .inl (σ.1 30))),
  (a 37, .inl (t 0, 4, .inl (σ.1 31))),
  (a 38, .inr (10, [.ref (a 39), .int (σ.1 33 0), .int (σ.1 34 0), .ref (a 40), .ref (a 41), .ref (a 1), .int 4])),
  (a 39, .inl (t 1, 4, .inl (σ.1 32))),
  (a 40, .inl (t 0, 4, .inl (σ.1 35))),
  (a 41, .inl (t 0, 4, .inl (σ.1 36))),
  (a 42, .inr (3, [va_rf (σ.2.1 0 0), va_rf (σ.2.1 1 0), .int (σ.1 40 0)])),
  (a 43, .inr (3, [va_rf (σ.2.1 0 1), va_rf (σ.2.1 1 1), .int (σ.1 40 1)])),
  (a 44, .inr (3, [va_rf (σ.2.1 0 2), va_rf (σ.2.1 1 2), .int (σ.1 40 2)])),
  (a 45, .inr (3, [va_rf (σ.2.1 0 3), va_rf (σ.2.1 1 3), .int (σ.1 40 3)])),
  (a 46, .inr (3, [va_rf (σ.2.1 0 4), va_rf (σ.2.1 1 4), .int (σ.1 40 4)])),
  (a 47, .inr (3, [va_rf (σ.2.1 0 5), va_rf (σ.2.1 1 5), .int (σ.1 40 5)])),
  (a 48, .inr (3, [va_rf (σ.2.1 0 6), va_rf (σ.2.1 1 6), .int (σ.1 40 6)])),
  (a 49, .inr (3, [va_rf (σ.2.1 0 7), va_rf (σ.2.1 1 7), .int (σ.1 40 7)])),
  (a 50, .inr (3, [va_rf (σ.2.1 0 8), va_rf (σ.2.1 1 8), .int (σ.1 40 8)])),
  (a 51, .inr (3, [va_rf (σ.2.1 0 9), va_rf (σ.2.1 1 9), .int (σ.1 40 9)])),
  (a 52, .inr (3, [va_rf (σ.2.1 0 10), va_rf (σ.2.1 1 10), .int (σ.1 40 10)])),
  (a 53, .inr (3, [va_rf (σ.2.1 0 11), va_rf (σ.2.1 1 11), .int (σ.1 40 11)])),
  (a 54, .inr (3, [va_rf (σ.2.1 0 12), va_rf (σ.2.1 1 12), .int (σ.1 40 12)])),
  (a 55, .inr (3, [va_rf (σ.2.1 0 13), va_rf (σ.2.1 1 13), .int (σ.1 40 13)])),
  (a 56, .inr (3, [va_rf (σ.2.1 0 14), va_rf (σ.2.1 1 14), .int (σ.1 40 14)])),
  (a 57, .inr (3, [va_rf (σ.2.1 0 15), va_rf (σ.2.1 1 15), .int (σ.1 40 15)]))]
def cw (a : Nat → Nat) (t : Nat → ClassId) (σ : CS) : va_W := cF a t σ ++ va_pl σ.2.2 (cG σ)
theorem cw_ro {a : Nat → Nat} {t : Nat → ClassId} {σ : CS} {r : Nat} (h : r < 5) : (cw a t σ)[25 + r]? = some (a (25 + r), .inr (5, [.ref (a (30 + r)), .int (σ.1 (19 + r) 0)])) := by
  rcases (show r = 0 ∨ r = 1 ∨ r = 2 ∨ r = 3 ∨ r = 4 by omega) with rfl | rfl | rfl | rfl | rfl
  all_goals rfl
theorem cw_ro1 {a : Nat → Nat} {t : Nat → ClassId} {σ : CS} {r : Nat} (h : r < 5) (v : Int32) : (cw a t σ).set (25 + r) (a (25 + r), .inr (5, [.ref (a (30 + r)), .int v])) = cw a t (cu σ (19 + r) 0 v) := by
  rcases (show r = 0 ∨ r = 1 ∨ r = 2 ∨ r = 3 ∨ r = 4 by omega) with rfl | rfl | rfl | rfl | rfl
  all_goals rfl
theorem cw_na {a : Nat → Nat} {t : Nat → ClassId} {σ : CS} {r : Nat} (h : r < 5) : (cw a t σ)[30 + r]? = some (a (30 + r), .inl (t 0, 4, .inl (σ.1 (24 + r)))) := by
  rcases (show r = 0 ∨ r = 1 ∨ r = 2 ∨ r = 3 ∨ r = 4 by omega) with rfl | rfl | rfl | rfl | rfl
  all_goals rfl
theorem cw_na1 {a : Nat → Nat} {t : Nat → ClassId} {σ : CS} {r : Nat} (h : r < 5) (i : Nat) (v : Int32) : (cw a t σ).set (30 + r) (a (30 + r), .inl (t 0, 4, .inl (upd (σ.1 (24 + r)) i v))) = cw a t (cu σ (24 + r) i v) := by
  rcases (show r = 0 ∨ r = 1 ∨ r = 2 ∨ r = 3 ∨ r = 4 by omega) with rfl | rfl | rfl | rfl | rfl
  all_goals rfl
theorem cw_kn {a : Nat → Nat} {t : Nat → ClassId} {σ : CS} {n : Nat} (h : n < 4) : (cw a t σ)[14 + n]? = some (a (14 + n), .inl (t 0, 4, .inl (σ.1 (10 + n)))) := by
  rcases (show n = 0 ∨ n = 1 ∨ n = 2 ∨ n = 3 by omega) with rfl | rfl | rfl | rfl
  all_goals rfl
theorem cw_kn1 {a : Nat → Nat} {t : Nat → ClassId} {σ : CS} {n : Nat} (h : n < 4) (i : Nat) (v : Int32) : (cw a t σ).set (14 + n) (a (14 + n), .inl (t 0, 4, .inl (upd (σ.1 (10 + n)) i v))) = cw a t (cu σ (10 + n) i v) := by
  rcases (show n = 0 ∨ n = 1 ∨ n = 2 ∨ n = 3 by omega) with rfl | rfl | rfl | rfl
  all_goals rfl
theorem cw_ch {a : Nat → Nat} {t : Nat → ClassId} {σ : CS} {k : Nat} (h : k < 16) : (cw a t σ)[42 + k]? = some (a (42 + k), .inr (3, [va_rf (σ.2.1 0 k), va_rf (σ.2.1 1 k), .int (σ.1 40 k)])) := by
  rcases (show k = 0 ∨ k = 1 ∨ k = 2 ∨ k = 3 ∨ k = 4 ∨ k = 5 ∨ k = 6 ∨ k = 7 ∨ k = 8 ∨ k = 9 ∨ k = 10 ∨ k = 11 ∨ k = 12 ∨ k = 13 ∨ k = 14 ∨ k = 15 by omega) with rfl | rfl | rfl | rfl | rfl | rfl | rfl | rfl | rfl | rfl | rfl | rfl | rfl | rfl | rfl | rfl
  all_goals rfl
theorem cw_ch0 {a : Nat → Nat} {t : Nat → ClassId} {σ : CS} {k : Nat} (h : k < 16) (q : Option Nat) : (cw a t σ).set (42 + k) (a (42 + k), .inr (3, [va_rf q, va_rf (σ.2.1 1 k), .int (σ.1 40 k)])) = cw a t (cr σ 0 k q) := by
  rcases (show k = 0 ∨ k = 1 ∨ k = 2 ∨ k = 3 ∨ k = 4 ∨ k = 5 ∨ k = 6 ∨ k = 7 ∨ k = 8 ∨ k = 9 ∨ k = 10 ∨ k = 11 ∨ k = 12 ∨ k = 13 ∨ k = 14 ∨ k = 15 by omega) with rfl | rfl | rfl | rfl | rfl | rfl | rfl | rfl | rfl | rfl | rfl | rfl | rfl | rfl | rfl | rfl
  all_goals rfl
theorem cw_ch1 {a : Nat → Nat} {t : Nat → ClassId} {σ : CS} {k : Nat} (h : k < 16) (q : Option Nat) : (cw a t σ).set (42 + k) (a (42 + k), .inr (3, [va_rf (σ.2.1 0 k), va_rf q, .int (σ.1 40 k)])) = cw a t (cr σ 1 k q) := by
  rcases (show k = 0 ∨ k = 1 ∨ k = 2 ∨ k = 3 ∨ k = 4 ∨ k = 5 ∨ k = 6 ∨ k = 7 ∨ k = 8 ∨ k = 9 ∨ k = 10 ∨ k = 11 ∨ k = 12 ∨ k = 13 ∨ k = 14 ∨ k = 15 by omega) with rfl | rfl | rfl | rfl | rfl | rfl | rfl | rfl | rfl | rfl | rfl | rfl | rfl | rfl | rfl | rfl
  all_goals rfl
theorem cw_ch2 {a : Nat → Nat} {t : Nat → ClassId} {σ : CS} {k : Nat} (h : k < 16) (v : Int32) : (cw a t σ).set (42 + k) (a (42 + k), .inr (3, [va_rf (σ.2.1 0 k), va_rf (σ.2.1 1 k), .int v])) = cw a t (cu σ 40 k v) := by
  rcases (show k = 0 ∨ k = 1 ∨ k = 2 ∨ k = 3 ∨ k = 4 ∨ k = 5 ∨ k = 6 ∨ k = 7 ∨ k = 8 ∨ k = 9 ∨ k = 10 ∨ k = 11 ∨ k = 12 ∨ k = 13 ∨ k = 14 ∨ k = 15 by omega) with rfl | rfl | rfl | rfl | rfl | rfl | rfl | rfl | rfl | rfl | rfl | rfl | rfl | rfl | rfl | rfl
  all_goals rfl
theorem cw_ms {a : Nat → Nat} {t : Nat → ClassId} {σ : CS} {q : Nat} (h : q ∈ σ.2.2) : ∃ k : Nat, (cw a t σ)[k]? = some (q, .inr (4, [.int (σ.1 41 q), .int (σ.1 42 q), .int (σ.1 43 q), va_rf (σ.2.1 2 q)])) := va_pl_get (X := cF a t σ) (f := cG σ) h
theorem cw_ms3 {a : Nat → Nat} {t : Nat → ClassId} {σ : CS} {A : Nat → Prop} {q k : Nat} (hD : va_D A (cw a t σ)) (h : q ∈ σ.2.2) (hk : (cw a t σ)[k]? = some (q, .inr (4, [.int (σ.1 41 q), .int (σ.1 42 q), .int (σ.1 43 q), va_rf (σ.2.1 2 q)]))) (o : Option Nat) : (cw a t σ).set k (q, .inr (4, [.int (σ.1 41 q), .int (σ.1 42 q), .int (σ.1 43 q), va_rf o])) = cw a t (cr σ 2 q o) := by
  have h1 := va_pl_set (X := cF a t σ) (f := cG σ) (e := .inr (4, [.int (σ.1 41 q), .int (σ.1 42 q), .int (σ.1 43 q), va_rf o])) hD h hk
  refine h1.trans ?_
  show cF a t σ ++ va_pl σ.2.2 _ = cF a t σ ++ va_pl σ.2.2 (cG (cr σ 2 q o))
  refine congrArg (fun z => cF a t σ ++ z) (va_pl_congr (fun z => ?_))
  by_cases e : z = q
  · subst e
    simp [va_up, cG, cr_at, cr_1]
  · simp [va_up, cG, cr_at, cr_1, e]
theorem cw_ms0 {a : Nat → Nat} {t : Nat → ClassId} {σ : CS} {A : Nat → Prop} {q k : Nat} (hD : va_D A (cw a t σ)) (h : q ∈ σ.2.2) (hk : (cw a t σ)[k]? = some (q, .inr (4, [.int (σ.1 41 q), .int (σ.1 42 q), .int (σ.1 43 q), va_rf (σ.2.1 2 q)]))) (v : Int32) : (cw a t σ).set k (q, .inr (4, [.int v, .int (σ.1 42 q), .int (σ.1 43 q), va_rf (σ.2.1 2 q)])) = cw a t (cu σ 41 q v) := by
  have h1 := va_pl_set (X := cF a t σ) (f := cG σ) (e := .inr (4, [.int v, .int (σ.1 42 q), .int (σ.1 43 q), va_rf (σ.2.1 2 q)])) hD h hk
  refine h1.trans ?_
  show cF a t σ ++ va_pl σ.2.2 _ = cF a t σ ++ va_pl σ.2.2 (cG (cu σ 41 q v))
  refine congrArg (fun z => cF a t σ ++ z) (va_pl_congr (fun z => ?_))
  by_cases e : z = q
  · subst e
    simp [va_up, cG, cu, up2_at, upd]
  · simp [va_up, cG, cu, up2_at, upd, e]
theorem cw_ms1 {a : Nat → Nat} {t : Nat → ClassId} {σ : CS} {A : Nat → Prop} {q k : Nat} (hD : va_D A (cw a t σ)) (h : q ∈ σ.2.2) (hk : (cw a t σ)[k]? = some (q, .inr (4, [.int (σ.1 41 q), .int (σ.1 42 q), .int (σ.1 43 q), va_rf (σ.2.1 2 q)]))) (v : Int32) : (cw a t σ).set k (q, .inr (4, [.int (σ.1 41 q), .int v, .int (σ.1 43 q), va_rf (σ.2.1 2 q)])) = cw a t (cu σ 42 q v) := by
  have h1 := va_pl_set (X := cF a t σ) (f := cG σ) (e := .inr (4, [.int (σ.1 41 q), .int v, .int (σ.1 43 q), va_rf (σ.2.1 2 q)])) hD h hk
  refine h1.trans ?_
  show cF a t σ ++ va_pl σ.2.2 _ = cF a t σ ++ va_pl σ.2.2 (cG (cu σ 42 q v))
  refine congrArg (fun z => cF a t σ ++ z) (va_pl_congr (fun z => ?_))
  by_cases e : z = q
  · subst e
    simp [va_up, cG, cu, up2_at, upd]
  · simp [va_up, cG, cu, up2_at, upd, e]
theorem cw_ms2 {a : Nat → Nat} {t : Nat → ClassId} {σ : CS} {A : Nat → Prop} {q k : Nat} (hD : va_D A (cw a t σ)) (h : q ∈ σ.2.2) (hk : (cw a t σ)[k]? = some (q, .inr (4, [.int (σ.1 41 q), .int (σ.1 42 q), .int (σ.1 43 q), va_rf (σ.2.1 2 q)]))) (v : Int32) : (cw a t σ).set k (q, .inr (4, [.int (σ.1 41 q), .int (σ.1 42 q), .int v, va_rf (σ.2.1 2 q)])) = cw a t (cu σ 43 q v) := by
  have h1 := va_pl_set (X := cF a t σ) (f := cG σ) (e := .inr (4, [.int (σ.1 41 q), .int (σ.1 42 q), .int v, va_rf (σ.2.1 2 q)])) hD h hk
  refine h1.trans ?_
  show cF a t σ ++ va_pl σ.2.2 _ = cF a t σ ++ va_pl σ.2.2 (cG (cu σ 43 q v))
  refine congrArg (fun z => cF a t σ ++ z) (va_pl_congr (fun z => ?_))
  by_cases e : z = q
  · subst e
    simp [va_up, cG, cu, up2_at, upd]
  · simp [va_up, cG, cu, up2_at, upd, e]
/-- a message that was just made -/
def cn (σ : CS) (q : Nat) : CS := (up2 (up2 (up2 σ.1 41 q 0) 42 q 0) 43 q 0, (cr σ 2 q none).2.1, σ.2.2 ++ [q])
theorem cw_new {a : Nat → Nat} {t : Nat → ClassId} {σ : CS} {q : Nat} (h : q ∉ σ.2.2) : cw a t σ ++ [(q, .inr (4, [.int 0, .int 0, .int 0, .null]))] = cw a t (cn σ q) := by
  show (cF a t σ ++ va_pl σ.2.2 (cG σ)) ++ _ = cF a t σ ++ va_pl (σ.2.2 ++ [q]) (cG (cn σ q))
  rw [List.append_assoc, va_pl_push h]
  refine congrArg (fun z => cF a t σ ++ z) (va_pl_congr (fun z => ?_))
  by_cases e : z = q
  · subst e
    simp [va_up, cG, cn, cr_at, up2_at, upd, va_rf]
  · simp [va_up, cG, cn, cr_at, up2_at, upd, e]
end
section
-- rows for the class's walks
theorem fx_lt {x : Int32} {n : Nat} (h : vp_in x n) : x.toNatClampNeg < n := Nat.not_le.mp fun q => h (Or.inr q)
theorem fx_lt5 {x : Int32} (h : vp_in x 4) : x.toNatClampNeg < 5 := Nat.lt_succ_of_lt (fx_lt h)
theorem fx_in3 {x : Int32} (h : vp_in x 3) : x = 0 ∨ x = 1 ∨ x = 2 := by
  obtain ⟨j, hj, rfl⟩ := vp_in_of h (by decide)
  rcases (show j = 0 ∨ j = 1 ∨ j = 2 by omega) with rfl | rfl | rfl
  · exact Or.inl rfl
  · exact Or.inr (Or.inl rfl)
  · exact Or.inr (Or.inr rfl)
theorem fx_in5 {x : Int32} (h : vp_in x 5) : x = 0 ∨ x = 1 ∨ x = 2 ∨ x = 3 ∨ x = 4 := by
  obtain ⟨j, hj, rfl⟩ := vp_in_of h (by decide)
  rcases (show j = 0 ∨ j = 1 ∨ j = 2 ∨ j = 3 ∨ j = 4 by omega) with rfl | rfl | rfl | rfl | rfl
  · exact Or.inl rfl
  · exact Or.inr (Or.inl rfl)
  · exact Or.inr (Or.inr (Or.inl rfl))
  · exact Or.inr (Or.inr (Or.inr (Or.inl rfl)))
  · exact Or.inr (Or.inr (Or.inr (Or.inr rfl)))
theorem gdU {c0 w : Cond} {own C owner : String} {idx : Nat} {x y : MethodName} (h1 : Cond.methodLink own idx x ∈ wg) (h2 : Cond.sameMethod x.cls owner x.name x.desc ∈ wg) (h3 : Cond.selects C x y ∈ wg) (h4 : Cond.instanceMethod y ∈ wg) (h6 : Cond.initialized y.cls ∈ wg) (h5 : w ∈ wg) : GoodIn (c0 :: wg) (va_wsU own idx C owner x y (w :: wg)) := fun v hv => by
  rcases List.mem_append.mp hv with h | h
  · simp only [List.mem_cons, List.not_mem_nil, or_false] at h
    rcases h with rfl | rfl | rfl | rfl | rfl
    · exact gdw h1
    · exact gdw h2
    · exact gdw h3
    · exact gdw h4
    · exact gdw h6
  · exact gdc h5 v h
section UD
variable {p : Program} {l : Launch} {e : Env} {R : Room} {s : State} {m : MethodId} {args : Array Value} {below : List Frame} {meth : Method} {c : Code} {H : Heap} {locs : List Loc} {cells slots : Nat} {Q : State → Prop}
variable {x y : MethodName} {bytes cc : ByteArray} {maxL nL mc ms n index pc : Nat} {ret : Option FieldType} {ws : List Cond} {rm : Room} {Ts : List Cond} {own C owner : String} {b : Addr} {As rest st0 : List Value} {ls : Array Slot}
variable {S : Type} {D : va_G} {cl : List vw_C} {tys : List (ClassId × FieldType)} {A : Nat → Prop} {nw : Bool} {wd : S → va_W} {u0 : S} {H0 : Heap} {wsw : va_W} {a : Nat}
/-- a reference that may be null: one way or the other -/
theorem fx_caseq {o : Option Nat} (hn : o = none → W p l e R s m args below meth c H locs cells slots Q (F0 m pc ls (.null :: rest))) (hs : ∀ q : Nat, o = some q → W p l e R s m args below meth c H locs cells slots Q (F0 m pc ls (.ref q :: rest))) : W p l e R s m args below meth c H locs cells slots Q (F0 m pc ls (va_rf o :: rest)) := by
  cases o with
  | none => exact hn rfl
  | some q => exact hs q rfl
/-- a place of an array of arrays -/
theorem fx_aldA (hexec : p.tables.exec = Jvm.exec) (hb : c.code = cc) (hK : va_K D cl tys s) (hP : va_P D cl wsw H) (q0 t0 : Nat) {cA : ClassId} {ty : FieldType} {k : Nat} {f : Nat → Option Nat} (ha : wsw[q0]? = some (a, .inl (cA, k, .inr (.inr (.inr (.inr f)))))) (ht : tys[t0]? = some (cA, ty)) (hr : ty.isReference = true) {i : Int32} (hin : vp_in i k) (hdg : decode cc pc = .ok (.aaload, 1))
    (kk : W p l e R s m args below meth c H locs cells slots Q (F0 m (pc + 1) ls (va_rf (f i.toNatClampNeg) :: rest))) : W p l e R s m args below meth c H locs cells slots Q (F0 m pc ls (.int i :: .ref a :: rest)) := by
  have hlt : i.toNatClampNeg < k := fx_lt hin
  exact W.aald (v := va_rf (f i.toNatClampNeg)) (ty := ty) hexec hb (hP q0 _ ha) ((hK.2 t0 _ ht).1 k (fun j => va_rf (f j))) hr (fun q => by cases q) (by show ¬ (i < 0 ∨ (arrV _ _ _).slots.size ≤ _); rw [arrV_size]; exact hin) (by show (arrV _ _ _).slots[_]? = _; rw [arrV_read _ _ hlt]) rfl rfl hdg kk
theorem uCallVq {post : Option Nat → S → Prop} (F : CallFix p m c cc nL s args Ts own) (hM : Met l y ws rm (va_Pc (.ref b :: As) (uI D cl tys A nw wd u0)) (va_Qq post (uI D cl tys A nw wd) A) mc ms A) (cw : CallW R s args own C index y bytes maxL ret ws rm mc ms n)
    (hrec : ∃ cellB : Cell, H[b]? = some cellB ∧ cellB.vm.isStatics = false ∧ s.vm.findClass C = some cellB.cls)
    (hP : va_P D cl (wd u0) H) (hK : va_K D cl tys s) (hD : va_D A (wd u0)) (hA : nw = true → ∀ q, s.heap.size ≤ q → A q) (hS : va_S A s.heap H locs)
    (hn : As.length = n) (hsize : ls.size = nL) (hst : st0 = As.reverse ++ .ref b :: rest) (hW : (rest.map fun v => v.category).sum ≤ 8) (hdg : decode cc pc = .ok (.invokevirtual index, 3)) (hf : cells + mc ≤ R.cells ∧ slots + ms ≤ R.slots)
    (kk : ∀ (r : Option Nat) (u : S) (H1 : Heap) (locs1 : List Loc), post r u → va_P D cl (wd u) H1 → va_D A (wd u) → va_S A s.heap H1 locs1 → W p l e R s m args below meth c H1 locs1 (cells + mc) (slots + ms) Q (F0 m (pc + 3) ls (va_rf r :: rest))) :
    W p l e R s m args below meth c H locs cells slots Q (F0 m pc ls st0) := by
  subst hst
  exact va_callq (va_runV F hM cw ⟨uI_blind, hrec, uPre hP hK hD (fun h q hq => hA h q (Nat.le_trans hS.1 hq))⟩ rfl hn hsize rfl (lv_room hW) hdg hf) hS (fun q _ h => h) (fun q h => h)
    (fun r u t H1 locs1 ht hvm hw hB hz hk hS1 => kk r u H1 locs1 hw (by rw [← ht]; exact hB.1) hB.2.2.1 hS1)
theorem uCallUv {post : S → Prop} (F : CallFix p m c cc nL s args Ts own) (hM : Met l y ws rm (va_Pc (.ref b :: As) (uI D cl tys A nw wd u0)) (va_Qv post (uI D cl tys A nw wd) A) mc ms A) (cw : va_CU R s args own C owner index x y bytes maxL ret ws rm mc ms n)
    (hrec : ∃ cellB : Cell, H[b]? = some cellB ∧ cellB.vm.isStatics = false ∧ s.vm.findClass C = some cellB.cls)
    (hP : va_P D cl (wd u0) H) (hK : va_K D cl tys s) (hD : va_D A (wd u0)) (hA : nw = true → ∀ q, s.heap.size ≤ q → A q) (hS : va_S A s.heap H locs)
    (hn : As.length = n) (hsize : ls.size = nL) (hst : st0 = As.reverse ++ .ref b :: rest) (hW : (rest.map fun v => v.category).sum ≤ 8) (hdg : decode cc pc = .ok (.invokevirtual index, 3)) (hf : cells + mc ≤ R.cells ∧ slots + ms ≤ R.slots)
    (kk : ∀ (u : S) (H1 : Heap) (locs1 : List Loc), post u → va_P D cl (wd u) H1 → va_D A (wd u) → va_S A s.heap H1 locs1 → W p l e R s m args below meth c H1 locs1 (cells + mc) (slots + ms) Q (F0 m (pc + 3) ls rest)) :
    W p l e R s m args below meth c H locs cells slots Q (F0 m pc ls st0) := by
  subst hst
  exact va_callv (va_runU F hM cw ⟨uI_blind, hrec, uPre hP hK hD (fun h q hq => hA h q (Nat.le_trans hS.1 hq))⟩ rfl hn hsize rfl (lv_room hW) hdg hf) hS (fun q _ h => h) (fun q h => h)
    (fun u t H1 locs1 ht hvm hw hB hz hk hS1 => kk u H1 locs1 hw (by rw [← ht]; exact hB.1) hB.2.2.1 hS1)
theorem uCallUi {post : Int32 → S → Prop} (F : CallFix p m c cc nL s args Ts own) (hM : Met l y ws rm (va_Pc (.ref b :: As) (uI D cl tys A nw wd u0)) (va_Qi post (uI D cl tys A nw wd) A) mc ms A) (cw : va_CU R s args own C owner index x y bytes maxL ret ws rm mc ms n)
    (hrec : ∃ cellB : Cell, H[b]? = some cellB ∧ cellB.vm.isStatics = false ∧ s.vm.findClass C = some cellB.cls)
    (hP : va_P D cl (wd u0) H) (hK : va_K D cl tys s) (hD : va_D A (wd u0)) (hA : nw = true → ∀ q, s.heap.size ≤ q → A q) (hS : va_S A s.heap H locs)
    (hn : As.length = n) (hsize : ls.size = nL) (hst : st0 = As.reverse ++ .ref b :: rest) (hW : (rest.map fun v => v.category).sum ≤ 8) (hdg : decode cc pc = .ok (.invokevirtual index, 3)) (hf : cells + mc ≤ R.cells ∧ slots + ms ≤ R.slots)
    (kk : ∀ (r : Int32) (u : S) (H1 : Heap) (locs1 : List Loc), post r u → va_P D cl (wd u) H1 → va_D A (wd u) → va_S A s.heap H1 locs1 → W p l e R s m args below meth c H1 locs1 (cells + mc) (slots + ms) Q (F0 m (pc + 3) ls (.int r :: rest))) :
    W p l e R s m args below meth c H locs cells slots Q (F0 m pc ls st0) := by
  subst hst
  exact va_calli (va_runU F hM cw ⟨uI_blind, hrec, uPre hP hK hD (fun h q hq => hA h q (Nat.le_trans hS.1 hq))⟩ rfl hn hsize rfl (lv_room hW) hdg hf) hS (fun q _ h => h) (fun q h => h)
    (fun r u t H1 locs1 ht hvm hw hB hz hk hS1 => kk r u H1 locs1 hw (by rw [← ht]; exact hB.1) hB.2.2.1 hS1)
/-- a constructor -/
theorem uCallIv {post : S → Prop} (F : CallFix p m c cc nL s args Ts own) (hM : Met l y ws rm (va_Pc (.ref b :: As) (uI D cl tys A nw wd u0)) (va_Qv post (uI D cl tys A nw wd) A) mc ms A) (cw : CallB R s args own index y bytes maxL none ws rm mc ms n ∧ y.name = "<init>" ∧ (Cond.instanceMethod y).before args s = true)
    (hP : va_P D cl (wd u0) H) (hK : va_K D cl tys s) (hD : va_D A (wd u0)) (hA : nw = true → ∀ q, s.heap.size ≤ q → A q) (hS : va_S A s.heap H locs)
    (hn : As.length = n) (hsize : ls.size = nL) (hst : st0 = As.reverse ++ .ref b :: rest) (hW : (rest.map fun v => v.category).sum ≤ 8) (hdg : decode cc pc = .ok (.invokespecial index, 3)) (hf : cells + mc ≤ R.cells ∧ slots + ms ≤ R.slots)
    (kk : ∀ (u : S) (H1 : Heap) (locs1 : List Loc), post u → va_P D cl (wd u) H1 → va_D A (wd u) → va_S A s.heap H1 locs1 → W p l e R s m args below meth c H1 locs1 (cells + mc) (slots + ms) Q (F0 m (pc + 3) ls rest)) :
    W p l e R s m args below meth c H locs cells slots Q (F0 m pc ls st0) := by
  subst hst
  exact va_callv (va_runI F hM cw ⟨uI_blind, uPre hP hK hD (fun h q hq => hA h q (Nat.le_trans hS.1 hq))⟩ rfl hn hsize rfl (lv_room hW) hdg hf) hS (fun q _ h => h) (fun q h => h)
    (fun u t H1 locs1 ht hvm hw hB hz hk hS1 => kk u H1 locs1 hw (by rw [← ht]; exact hB.1) hB.2.2.1 hS1)
end UD
end
section
theorem wm_2 : Cond.initialized "NodeServices$Network" ∈ wg := mem_wg (List.mem_append_right _ (List.mem_of_getElem? (i := 2) (by decide +kernel))) (by decide +kernel)
theorem wm_3 : Cond.initialized "NodeServices$Channel" ∈ wg := mem_wg (List.mem_append_right _ (List.mem_of_getElem? (i := 3) (by decide +kernel))) (by decide +kernel)
theorem wm_4 : Cond.initialized "NodeServices$Service" ∈ wg := mem_wg (List.mem_append_right _ (List.mem_of_getElem? (i := 4) (by decide +kernel))) (by decide +kernel)
theorem wm_5 : Cond.initialized "NodeServices$Lock" ∈ wg := mem_wg (List.mem_append_right _ (List.mem_of_getElem? (i := 5) (by decide +kernel))) (by decide +kernel)
theorem wm_6 : Cond.initialized "NodeServices$StampLock" ∈ wg := mem_wg (List.mem_append_right _ (List.mem_of_getElem? (i := 6) (by decide +kernel))) (by decide +kernel)
theorem wm_7 : Cond.initialized "NodeServices$TokenLock" ∈ wg := mem_wg (List.mem_append_right _ (List.mem_of_getElem? (i := 7) (by decide +kernel))) (by decide +kernel)
theorem wm_8 : Cond.initialized "NodeServices$NodeRow" ∈ wg := mem_wg (List.mem_append_right _ (List.mem_of_getElem? (i := 8) (by decide +kernel))) (by decide +kernel)
theorem wm_9 : Cond.initialized "NodeServices$TreeLock" ∈ wg := mem_wg (List.mem_append_right _ (List.mem_of_getElem? (i := 9) (by decide +kernel))) (by decide +kernel)
theorem wm_10 : Cond.initialized "NodeServices$Election" ∈ wg := mem_wg (List.mem_append_right _ (List.mem_of_getElem? (i := 10) (by decide +kernel))) (by decide +kernel)
theorem wm_11 : Cond.initialized "java/lang/Math" ∈ wg := mem_wg (List.mem_append_right _ (List.mem_of_getElem? (i := 11) (by decide +kernel))) (by decide +kernel)
theorem wm_12 : Cond.initialized "NodeServices$Work" ∈ wg := mem_wg (List.mem_append_right _ (List.mem_of_getElem? (i := 12) (by decide +kernel))) (by decide +kernel)
theorem wm_19 : Cond.initialized "NodeServices$Message" ∈ wg := mem_wg (List.mem_append_right _ (List.mem_of_getElem? (i := 19) (by decide +kernel))) (by decide +kernel)
theorem wm_27 : Cond.instanceMethod objectInit ∈ wg := mem_wg (List.mem_append_right _ (List.mem_of_getElem? (i := 27) (by decide +kernel))) (by decide +kernel)
theorem wm_28 : Cond.code objectInit ⟨#[0xb1]⟩ 1 none ∈ wg := mem_wg (List.mem_append_right _ (List.mem_of_getElem? (i := 28) (by decide +kernel))) (by decide +kernel)
theorem wm_42 : Cond.fieldLink "NodeServices$Channel" 17 "NodeServices$Channel" "head" "LNodeServices$Message;" ∈ wg := mem_wg (List.mem_append_right _ (List.mem_of_getElem? (i := 42) (by decide +kernel))) (by decide +kernel)
theorem wm_44 : Cond.fieldLink "NodeServices$Channel" 13 "NodeServices$Channel" "tail" "LNodeServices$Message;" ∈ wg := mem_wg (List.mem_append_right _ (List.mem_of_getElem? (i := 44) (by decide +kernel))) (by decide +kernel)
theorem wm_45 : Cond.fieldLink "NodeServices$Channel" 7 "NodeServices$Channel" "size" "I" ∈ wg := mem_wg (List.mem_append_right _ (List.mem_of_getElem? (i := 45) (by decide +kernel))) (by decide +kernel)
theorem wm_54 : Cond.fieldLink "NodeServices$Network" 11 "NodeServices$Network" "channels" "[LNodeServices$Channel;" ∈ wg := mem_wg (List.mem_append_right _ (List.mem_of_getElem? (i := 54) (by decide +kernel))) (by decide +kernel)
theorem wm_55 : Cond.fieldLink "NodeServices$Network" 18 "NodeServices$Network" "sent" "I" ∈ wg := mem_wg (List.mem_append_right _ (List.mem_of_getElem? (i := 55) (by decide +kernel))) (by decide +kernel)
theorem wm_76 : Cond.fieldLink "NodeServices$StampLock" 9 "NodeServices$StampLock" "clock" "[I" ∈ wg := mem_wg (List.mem_append_right _ (List.mem_of_getElem? (i := 76) (by decide +kernel))) (by decide +kernel)
theorem wm_77 : Cond.fieldLink "NodeServices$StampLock" 15 "NodeServices$StampLock" "stamp" "[I" ∈ wg := mem_wg (List.mem_append_right _ (List.mem_of_getElem? (i := 77) (by decide +kernel))) (by decide +kernel)
theorem wm_78 : Cond.fieldLink "NodeServices$StampLock" 18 "NodeServices$StampLock" "replies" "[I" ∈ wg := mem_wg (List.mem_append_right _ (List.mem_of_getElem? (i := 78) (by decide +kernel))) (by decide +kernel)
theorem wm_79 : Cond.fieldLink "NodeServices$StampLock" 21 "NodeServices$StampLock" "putOff" "[Z" ∈ wg := mem_wg (List.mem_append_right _ (List.mem_of_getElem? (i := 79) (by decide +kernel))) (by decide +kernel)
theorem wm_80 : Cond.fieldLink "NodeServices$Lock" 9 "NodeServices$Lock" "state" "[I" ∈ wg := mem_wg (List.mem_append_right _ (List.mem_of_getElem? (i := 80) (by decide +kernel))) (by decide +kernel)
theorem wm_82 : Cond.fieldLink "NodeServices$TreeLock" 36 "NodeServices$TreeLock" "state" "[I" ∈ wg := mem_wg (List.mem_append_right _ (List.mem_of_getElem? (i := 82) (by decide +kernel))) (by decide +kernel)
theorem wm_83 : Cond.sameField "NodeServices$TreeLock" "NodeServices$Lock" "state" "[I" ∈ wg := mem_wg (List.mem_append_right _ (List.mem_of_getElem? (i := 83) (by decide +kernel))) (by decide +kernel)
theorem wm_84 : Cond.fieldLink "NodeServices$TokenLock" 37 "NodeServices$TokenLock" "state" "[I" ∈ wg := mem_wg (List.mem_append_right _ (List.mem_of_getElem? (i := 84) (by decide +kernel))) (by decide +kernel)
theorem wm_85 : Cond.sameField "NodeServices$TokenLock" "NodeServices$Lock" "state" "[I" ∈ wg := mem_wg (List.mem_append_right _ (List.mem_of_getElem? (i := 85) (by decide +kernel))) (by decide +kernel)
theorem wm_86 : Cond.fieldLink "NodeServices$StampLock" 25 "NodeServices$StampLock" "state" "[I" ∈ wg := mem_wg (List.mem_append_right _ (List.mem_of_getElem? (i := 86) (by decide +kernel))) (by decide +kernel)
theorem wm_87 : Cond.sameField "NodeServices$StampLock" "NodeServices$Lock" "state" "[I" ∈ wg := mem_wg (List.mem_append_right _ (List.mem_of_getElem? (i := 87) (by decide +kernel))) (by decide +kernel)
theorem wm_88 : Cond.fieldLink "NodeServices$Lock" 15 "NodeServices$Lock" "entries" "I" ∈ wg := mem_wg (List.mem_append_right _ (List.mem_of_getElem? (i := 88) (by decide +kernel))) (by decide +kernel)
theorem wm_90 : Cond.fieldLink "NodeServices$Service" 9 "NodeServices$Service" "network" "LNodeServices$Network;" ∈ wg := mem_wg (List.mem_append_right _ (List.mem_of_getElem? (i := 90) (by decide +kernel))) (by decide +kernel)
theorem wm_91 : Cond.fieldLink "NodeServices$Service" 15 "NodeServices$Service" "number" "I" ∈ wg := mem_wg (List.mem_append_right _ (List.mem_of_getElem? (i := 91) (by decide +kernel))) (by decide +kernel)
theorem wm_125 : Cond.fieldLink "NodeServices$NodeRow" 9 "NodeServices$NodeRow" "nodes" "[I" ∈ wg := mem_wg (List.mem_append_right _ (List.mem_of_getElem? (i := 125) (by decide +kernel))) (by decide +kernel)
theorem wm_126 : Cond.fieldLink "NodeServices$NodeRow" 15 "NodeServices$NodeRow" "size" "I" ∈ wg := mem_wg (List.mem_append_right _ (List.mem_of_getElem? (i := 126) (by decide +kernel))) (by decide +kernel)
theorem wm_132 : Cond.fieldLink "NodeServices$TokenLock" 11 "NodeServices$TokenLock" "known" "[[I" ∈ wg := mem_wg (List.mem_append_right _ (List.mem_of_getElem? (i := 132) (by decide +kernel))) (by decide +kernel)
theorem wm_133 : Cond.fieldLink "NodeServices$TokenLock" 16 "NodeServices$TokenLock" "done" "[I" ∈ wg := mem_wg (List.mem_append_right _ (List.mem_of_getElem? (i := 133) (by decide +kernel))) (by decide +kernel)
theorem wm_134 : Cond.fieldLink "NodeServices$TokenLock" 25 "NodeServices$TokenLock" "row" "LNodeServices$NodeRow;" ∈ wg := mem_wg (List.mem_append_right _ (List.mem_of_getElem? (i := 134) (by decide +kernel))) (by decide +kernel)
theorem wm_135 : Cond.fieldLink "NodeServices$TokenLock" 29 "NodeServices$TokenLock" "keeper" "I" ∈ wg := mem_wg (List.mem_append_right _ (List.mem_of_getElem? (i := 135) (by decide +kernel))) (by decide +kernel)
theorem wm_167 : Cond.fieldLink "NodeServices$TreeLock" 20 "NodeServices$TreeLock" "holder" "[I" ∈ wg := mem_wg (List.mem_append_right _ (List.mem_of_getElem? (i := 167) (by decide +kernel))) (by decide +kernel)
theorem wm_168 : Cond.fieldLink "NodeServices$TreeLock" 25 "NodeServices$TreeLock" "queues" "[LNodeServices$NodeRow;" ∈ wg := mem_wg (List.mem_append_right _ (List.mem_of_getElem? (i := 168) (by decide +kernel))) (by decide +kernel)
theorem wm_169 : Cond.fieldLink "NodeServices$TreeLock" 29 "NodeServices$TreeLock" "asked" "[Z" ∈ wg := mem_wg (List.mem_append_right _ (List.mem_of_getElem? (i := 169) (by decide +kernel))) (by decide +kernel)
theorem wm_190 : Cond.fieldLink "NodeServices$Election" 9 "NodeServices$Election" "takesPart" "[Z" ∈ wg := mem_wg (List.mem_append_right _ (List.mem_of_getElem? (i := 190) (by decide +kernel))) (by decide +kernel)
theorem wm_192 : Cond.fieldLink "NodeServices$Election" 15 "NodeServices$Election" "ids" "[I" ∈ wg := mem_wg (List.mem_append_right _ (List.mem_of_getElem? (i := 192) (by decide +kernel))) (by decide +kernel)
theorem wm_193 : Cond.fieldLink "NodeServices$Election" 19 "NodeServices$Election" "leader" "[I" ∈ wg := mem_wg (List.mem_append_right _ (List.mem_of_getElem? (i := 193) (by decide +kernel))) (by decide +kernel)
theorem wm_209 : Cond.fieldLink "NodeServices$Work" 9 "NodeServices$Work" "busy" "[Z" ∈ wg := mem_wg (List.mem_append_right _ (List.mem_of_getElem? (i := 209) (by decide +kernel))) (by decide +kernel)
theorem wm_211 : Cond.fieldLink "NodeServices$Work" 15 "NodeServices$Work" "root" "I" ∈ wg := mem_wg (List.mem_append_right _ (List.mem_of_getElem? (i := 211) (by decide +kernel))) (by decide +kernel)
theorem wm_213 : Cond.fieldLink "NodeServices$Work" 47 "NodeServices$Work" "ends" "I" ∈ wg := mem_wg (List.mem_append_right _ (List.mem_of_getElem? (i := 213) (by decide +kernel))) (by decide +kernel)
theorem wm_215 : Cond.fieldLink "NodeServices$Work" 19 "NodeServices$Work" "parent" "[I" ∈ wg := mem_wg (List.mem_append_right _ (List.mem_of_getElem? (i := 215) (by decide +kernel))) (by decide +kernel)
theorem wm_216 : Cond.fieldLink "NodeServices$Work" 23 "NodeServices$Work" "unanswered" "[I" ∈ wg := mem_wg (List.mem_append_right _ (List.mem_of_getElem? (i := 216) (by decide +kernel))) (by decide +kernel)
theorem wm_365 : Cond.methodLink "NodeServices$StampLock" 28 ⟨"NodeServices$StampLock", "sendToAllOthers", "(III)V"⟩ ∈ wg := mem_wg (List.mem_append_right _ (List.mem_of_getElem? (i := 365) (by decide +kernel))) (by decide +kernel)
theorem wm_366 : Cond.sameMethod "NodeServices$StampLock" "NodeServices$Service" "sendToAllOthers" "(III)V" ∈ wg := mem_wg (List.mem_append_right _ (List.mem_of_getElem? (i := 366) (by decide +kernel))) (by decide +kernel)
theorem wm_368 : Cond.selects "NodeServices$StampLock" ⟨"NodeServices$StampLock", "sendToAllOthers", "(III)V"⟩ ySv_sendToAllOthers ∈ wg := mem_wg (List.mem_append_right _ (List.mem_of_getElem? (i := 368) (by decide +kernel))) (by decide +kernel)
theorem wm_369 : Cond.instanceMethod ySv_sendToAllOthers ∈ wg := mem_wg (List.mem_append_right _ (List.mem_of_getElem? (i := 369) (by decide +kernel))) (by decide +kernel)
theorem wm_370 : Cond.code ySv_sendToAllOthers cSv_sendToAllOthers 5 none ∈ wg := mem_wg (List.mem_append_right _ (List.mem_of_getElem? (i := 370) (by decide +kernel))) (by decide +kernel)
theorem wm_371 : Cond.methodLink "NodeServices$Service" 30 ⟨"NodeServices$Service", "send", "(IIII)V"⟩ ∈ wg := mem_wg (List.mem_append_right _ (List.mem_of_getElem? (i := 371) (by decide +kernel))) (by decide +kernel)
theorem wm_372 : Cond.instanceMethod ySv_send ∈ wg := mem_wg (List.mem_append_right _ (List.mem_of_getElem? (i := 372) (by decide +kernel))) (by decide +kernel)
theorem wm_373 : Cond.sameMethod "NodeServices$Service" "NodeServices$Service" "send" "(IIII)V" ∈ wg := mem_wg (List.mem_append_right _ (List.mem_of_getElem? (i := 373) (by decide +kernel))) (by decide +kernel)
theorem wm_375 : Cond.selects "NodeServices$StampLock" ⟨"NodeServices$Service", "send", "(IIII)V"⟩ ySv_send ∈ wg := mem_wg (List.mem_append_right _ (List.mem_of_getElem? (i := 375) (by decide +kernel))) (by decide +kernel)
theorem wm_376 : Cond.selects "NodeServices$TokenLock" ⟨"NodeServices$Service", "send", "(IIII)V"⟩ ySv_send ∈ wg := mem_wg (List.mem_append_right _ (List.mem_of_getElem? (i := 376) (by decide +kernel))) (by decide +kernel)
theorem wm_379 : Cond.code ySv_send cSv_send 5 none ∈ wg := mem_wg (List.mem_append_right _ (List.mem_of_getElem? (i := 379) (by decide +kernel))) (by decide +kernel)
theorem wm_380 : Cond.classLink "NodeServices$Service" 19 "NodeServices$Message" ∈ wg := mem_wg (List.mem_append_right _ (List.mem_of_getElem? (i := 380) (by decide +kernel))) (by decide +kernel)
theorem wm_381 : Cond.instantiable "NodeServices$Message" 4 ∈ wg := mem_wg (List.mem_append_right _ (List.mem_of_getElem? (i := 381) (by decide +kernel))) (by decide +kernel)
theorem wm_382 : Cond.methodLink "NodeServices$Service" 21 yMs_init ∈ wg := mem_wg (List.mem_append_right _ (List.mem_of_getElem? (i := 382) (by decide +kernel))) (by decide +kernel)
theorem wm_383 : Cond.instanceMethod yMs_init ∈ wg := mem_wg (List.mem_append_right _ (List.mem_of_getElem? (i := 383) (by decide +kernel))) (by decide +kernel)
theorem wm_384 : Cond.code yMs_init cMs_init 4 none ∈ wg := mem_wg (List.mem_append_right _ (List.mem_of_getElem? (i := 384) (by decide +kernel))) (by decide +kernel)
theorem wm_385 : Cond.methodLink "NodeServices$Message" 1 objectInit ∈ wg := mem_wg (List.mem_append_right _ (List.mem_of_getElem? (i := 385) (by decide +kernel))) (by decide +kernel)
theorem wm_386 : Cond.fieldLink "NodeServices$Message" 7 "NodeServices$Message" "service" "I" ∈ wg := mem_wg (List.mem_append_right _ (List.mem_of_getElem? (i := 386) (by decide +kernel))) (by decide +kernel)
theorem wm_388 : Cond.fieldLink "NodeServices$Message" 13 "NodeServices$Message" "kind" "I" ∈ wg := mem_wg (List.mem_append_right _ (List.mem_of_getElem? (i := 388) (by decide +kernel))) (by decide +kernel)
theorem wm_389 : Cond.fieldLink "NodeServices$Election" 32 "NodeServices$Message" "kind" "I" ∈ wg := mem_wg (List.mem_append_right _ (List.mem_of_getElem? (i := 389) (by decide +kernel))) (by decide +kernel)
theorem wm_390 : Cond.fieldLink "NodeServices$StampLock" 36 "NodeServices$Message" "kind" "I" ∈ wg := mem_wg (List.mem_append_right _ (List.mem_of_getElem? (i := 390) (by decide +kernel))) (by decide +kernel)
theorem wm_391 : Cond.fieldLink "NodeServices$TokenLock" 67 "NodeServices$Message" "kind" "I" ∈ wg := mem_wg (List.mem_append_right _ (List.mem_of_getElem? (i := 391) (by decide +kernel))) (by decide +kernel)
theorem wm_392 : Cond.fieldLink "NodeServices$TreeLock" 46 "NodeServices$Message" "kind" "I" ∈ wg := mem_wg (List.mem_append_right _ (List.mem_of_getElem? (i := 392) (by decide +kernel))) (by decide +kernel)
theorem wm_393 : Cond.fieldLink "NodeServices$Work" 38 "NodeServices$Message" "kind" "I" ∈ wg := mem_wg (List.mem_append_right _ (List.mem_of_getElem? (i := 393) (by decide +kernel))) (by decide +kernel)
theorem wm_395 : Cond.fieldLink "NodeServices$Message" 16 "NodeServices$Message" "value" "I" ∈ wg := mem_wg (List.mem_append_right _ (List.mem_of_getElem? (i := 395) (by decide +kernel))) (by decide +kernel)
theorem wm_396 : Cond.fieldLink "NodeServices$Election" 38 "NodeServices$Message" "value" "I" ∈ wg := mem_wg (List.mem_append_right _ (List.mem_of_getElem? (i := 396) (by decide +kernel))) (by decide +kernel)
theorem wm_397 : Cond.fieldLink "NodeServices$StampLock" 42 "NodeServices$Message" "value" "I" ∈ wg := mem_wg (List.mem_append_right _ (List.mem_of_getElem? (i := 397) (by decide +kernel))) (by decide +kernel)
theorem wm_398 : Cond.fieldLink "NodeServices$TokenLock" 72 "NodeServices$Message" "value" "I" ∈ wg := mem_wg (List.mem_append_right _ (List.mem_of_getElem? (i := 398) (by decide +kernel))) (by decide +kernel)
theorem wm_399 : Cond.fieldLink "NodeServices$Channel" 20 "NodeServices$Message" "next" "LNodeServices$Message;" ∈ wg := mem_wg (List.mem_append_right _ (List.mem_of_getElem? (i := 399) (by decide +kernel))) (by decide +kernel)
theorem wm_410 : Cond.methodLink "NodeServices$Service" 24 yNw_post ∈ wg := mem_wg (List.mem_append_right _ (List.mem_of_getElem? (i := 410) (by decide +kernel))) (by decide +kernel)
theorem wm_411 : Cond.instanceMethod yNw_post ∈ wg := mem_wg (List.mem_append_right _ (List.mem_of_getElem? (i := 411) (by decide +kernel))) (by decide +kernel)
theorem wm_412 : Cond.selects "NodeServices$Network" yNw_post yNw_post ∈ wg := mem_wg (List.mem_append_right _ (List.mem_of_getElem? (i := 412) (by decide +kernel))) (by decide +kernel)
theorem wm_413 : Cond.code yNw_post cNw_post 4 none ∈ wg := mem_wg (List.mem_append_right _ (List.mem_of_getElem? (i := 413) (by decide +kernel))) (by decide +kernel)
theorem wm_414 : Cond.methodLink "NodeServices$Network" 22 yNw_channel ∈ wg := mem_wg (List.mem_append_right _ (List.mem_of_getElem? (i := 414) (by decide +kernel))) (by decide +kernel)
theorem wm_415 : Cond.instanceMethod yNw_channel ∈ wg := mem_wg (List.mem_append_right _ (List.mem_of_getElem? (i := 415) (by decide +kernel))) (by decide +kernel)
theorem wm_416 : Cond.selects "NodeServices$Network" yNw_channel yNw_channel ∈ wg := mem_wg (List.mem_append_right _ (List.mem_of_getElem? (i := 416) (by decide +kernel))) (by decide +kernel)
theorem wm_417 : Cond.code yNw_channel cNw_channel 3 (some (.object "NodeServices$Channel")) ∈ wg := mem_wg (List.mem_append_right _ (List.mem_of_getElem? (i := 417) (by decide +kernel))) (by decide +kernel)
theorem wm_418 : Cond.methodLink "NodeServices$Network" 26 yCh_append ∈ wg := mem_wg (List.mem_append_right _ (List.mem_of_getElem? (i := 418) (by decide +kernel))) (by decide +kernel)
theorem wm_419 : Cond.instanceMethod yCh_append ∈ wg := mem_wg (List.mem_append_right _ (List.mem_of_getElem? (i := 419) (by decide +kernel))) (by decide +kernel)
theorem wm_420 : Cond.selects "NodeServices$Channel" yCh_append yCh_append ∈ wg := mem_wg (List.mem_append_right _ (List.mem_of_getElem? (i := 420) (by decide +kernel))) (by decide +kernel)
theorem wm_421 : Cond.code yCh_append cCh_append 2 none ∈ wg := mem_wg (List.mem_append_right _ (List.mem_of_getElem? (i := 421) (by decide +kernel))) (by decide +kernel)
theorem wm_425 : Cond.methodLink "NodeServices$TokenLock" 33 ⟨"NodeServices$TokenLock", "enter", "(I)V"⟩ ∈ wg := mem_wg (List.mem_append_right _ (List.mem_of_getElem? (i := 425) (by decide +kernel))) (by decide +kernel)
theorem wm_426 : Cond.sameMethod "NodeServices$TokenLock" "NodeServices$Lock" "enter" "(I)V" ∈ wg := mem_wg (List.mem_append_right _ (List.mem_of_getElem? (i := 426) (by decide +kernel))) (by decide +kernel)
theorem wm_428 : Cond.selects "NodeServices$TokenLock" ⟨"NodeServices$TokenLock", "enter", "(I)V"⟩ yLk_enter ∈ wg := mem_wg (List.mem_append_right _ (List.mem_of_getElem? (i := 428) (by decide +kernel))) (by decide +kernel)
theorem wm_429 : Cond.instanceMethod yLk_enter ∈ wg := mem_wg (List.mem_append_right _ (List.mem_of_getElem? (i := 429) (by decide +kernel))) (by decide +kernel)
theorem wm_430 : Cond.code yLk_enter cLk_enter 2 none ∈ wg := mem_wg (List.mem_append_right _ (List.mem_of_getElem? (i := 430) (by decide +kernel))) (by decide +kernel)
theorem wm_431 : Cond.methodLink "NodeServices$TokenLock" 40 ⟨"NodeServices$TokenLock", "sendToAllOthers", "(III)V"⟩ ∈ wg := mem_wg (List.mem_append_right _ (List.mem_of_getElem? (i := 431) (by decide +kernel))) (by decide +kernel)
theorem wm_432 : Cond.sameMethod "NodeServices$TokenLock" "NodeServices$Service" "sendToAllOthers" "(III)V" ∈ wg := mem_wg (List.mem_append_right _ (List.mem_of_getElem? (i := 432) (by decide +kernel))) (by decide +kernel)
theorem wm_433 : Cond.selects "NodeServices$TokenLock" ⟨"NodeServices$TokenLock", "sendToAllOthers", "(III)V"⟩ ySv_sendToAllOthers ∈ wg := mem_wg (List.mem_append_right _ (List.mem_of_getElem? (i := 433) (by decide +kernel))) (by decide +kernel)
theorem wm_437 : Cond.methodLink "NodeServices$TreeLock" 39 yRo_append ∈ wg := mem_wg (List.mem_append_right _ (List.mem_of_getElem? (i := 437) (by decide +kernel))) (by decide +kernel)
theorem wm_438 : Cond.instanceMethod yRo_append ∈ wg := mem_wg (List.mem_append_right _ (List.mem_of_getElem? (i := 438) (by decide +kernel))) (by decide +kernel)
theorem wm_439 : Cond.selects "NodeServices$NodeRow" yRo_append yRo_append ∈ wg := mem_wg (List.mem_append_right _ (List.mem_of_getElem? (i := 439) (by decide +kernel))) (by decide +kernel)
theorem wm_440 : Cond.code yRo_append cRo_append 2 none ∈ wg := mem_wg (List.mem_append_right _ (List.mem_of_getElem? (i := 440) (by decide +kernel))) (by decide +kernel)
theorem wm_441 : Cond.methodLink "NodeServices$TreeLock" 43 yTr_goOn ∈ wg := mem_wg (List.mem_append_right _ (List.mem_of_getElem? (i := 441) (by decide +kernel))) (by decide +kernel)
theorem wm_443 : Cond.instanceMethod yTr_goOn ∈ wg := mem_wg (List.mem_append_right _ (List.mem_of_getElem? (i := 443) (by decide +kernel))) (by decide +kernel)
theorem wm_444 : Cond.code yTr_goOn cTr_goOn 2 none ∈ wg := mem_wg (List.mem_append_right _ (List.mem_of_getElem? (i := 444) (by decide +kernel))) (by decide +kernel)
theorem wm_445 : Cond.methodLink "NodeServices$TreeLock" 52 yRo_isEmpty ∈ wg := mem_wg (List.mem_append_right _ (List.mem_of_getElem? (i := 445) (by decide +kernel))) (by decide +kernel)
theorem wm_446 : Cond.instanceMethod yRo_isEmpty ∈ wg := mem_wg (List.mem_append_right _ (List.mem_of_getElem? (i := 446) (by decide +kernel))) (by decide +kernel)
theorem wm_447 : Cond.selects "NodeServices$NodeRow" yRo_isEmpty yRo_isEmpty ∈ wg := mem_wg (List.mem_append_right _ (List.mem_of_getElem? (i := 447) (by decide +kernel))) (by decide +kernel)
theorem wm_448 : Cond.code yRo_isEmpty cRo_isEmpty 1 (some .boolean) ∈ wg := mem_wg (List.mem_append_right _ (List.mem_of_getElem? (i := 448) (by decide +kernel))) (by decide +kernel)
theorem wm_449 : Cond.methodLink "NodeServices$TreeLock" 56 yRo_takeHead ∈ wg := mem_wg (List.mem_append_right _ (List.mem_of_getElem? (i := 449) (by decide +kernel))) (by decide +kernel)
theorem wm_450 : Cond.instanceMethod yRo_takeHead ∈ wg := mem_wg (List.mem_append_right _ (List.mem_of_getElem? (i := 450) (by decide +kernel))) (by decide +kernel)
theorem wm_451 : Cond.selects "NodeServices$NodeRow" yRo_takeHead yRo_takeHead ∈ wg := mem_wg (List.mem_append_right _ (List.mem_of_getElem? (i := 451) (by decide +kernel))) (by decide +kernel)
theorem wm_452 : Cond.code yRo_takeHead cRo_takeHead 3 (some .int) ∈ wg := mem_wg (List.mem_append_right _ (List.mem_of_getElem? (i := 452) (by decide +kernel))) (by decide +kernel)
theorem wm_453 : Cond.methodLink "NodeServices$TreeLock" 60 yTr_serve ∈ wg := mem_wg (List.mem_append_right _ (List.mem_of_getElem? (i := 453) (by decide +kernel))) (by decide +kernel)
theorem wm_455 : Cond.instanceMethod yTr_serve ∈ wg := mem_wg (List.mem_append_right _ (List.mem_of_getElem? (i := 455) (by decide +kernel))) (by decide +kernel)
theorem wm_456 : Cond.code yTr_serve cTr_serve 3 none ∈ wg := mem_wg (List.mem_append_right _ (List.mem_of_getElem? (i := 456) (by decide +kernel))) (by decide +kernel)
theorem wm_457 : Cond.methodLink "NodeServices$TreeLock" 68 ⟨"NodeServices$TreeLock", "enter", "(I)V"⟩ ∈ wg := mem_wg (List.mem_append_right _ (List.mem_of_getElem? (i := 457) (by decide +kernel))) (by decide +kernel)
theorem wm_458 : Cond.sameMethod "NodeServices$TreeLock" "NodeServices$Lock" "enter" "(I)V" ∈ wg := mem_wg (List.mem_append_right _ (List.mem_of_getElem? (i := 458) (by decide +kernel))) (by decide +kernel)
theorem wm_459 : Cond.selects "NodeServices$TreeLock" ⟨"NodeServices$TreeLock", "enter", "(I)V"⟩ yLk_enter ∈ wg := mem_wg (List.mem_append_right _ (List.mem_of_getElem? (i := 459) (by decide +kernel))) (by decide +kernel)
theorem wm_460 : Cond.methodLink "NodeServices$TreeLock" 64 ⟨"NodeServices$TreeLock", "send", "(IIII)V"⟩ ∈ wg := mem_wg (List.mem_append_right _ (List.mem_of_getElem? (i := 460) (by decide +kernel))) (by decide +kernel)
theorem wm_461 : Cond.sameMethod "NodeServices$TreeLock" "NodeServices$Service" "send" "(IIII)V" ∈ wg := mem_wg (List.mem_append_right _ (List.mem_of_getElem? (i := 461) (by decide +kernel))) (by decide +kernel)
theorem wm_463 : Cond.selects "NodeServices$TreeLock" ⟨"NodeServices$TreeLock", "send", "(IIII)V"⟩ ySv_send ∈ wg := mem_wg (List.mem_append_right _ (List.mem_of_getElem? (i := 463) (by decide +kernel))) (by decide +kernel)
theorem wm_478 : Cond.methodLink "NodeServices$StampLock" 32 ⟨"NodeServices$StampLock", "send", "(IIII)V"⟩ ∈ wg := mem_wg (List.mem_append_right _ (List.mem_of_getElem? (i := 478) (by decide +kernel))) (by decide +kernel)
theorem wm_479 : Cond.sameMethod "NodeServices$StampLock" "NodeServices$Service" "send" "(IIII)V" ∈ wg := mem_wg (List.mem_append_right _ (List.mem_of_getElem? (i := 479) (by decide +kernel))) (by decide +kernel)
theorem wm_480 : Cond.selects "NodeServices$StampLock" ⟨"NodeServices$StampLock", "send", "(IIII)V"⟩ ySv_send ∈ wg := mem_wg (List.mem_append_right _ (List.mem_of_getElem? (i := 480) (by decide +kernel))) (by decide +kernel)
theorem wm_484 : Cond.methodLink "NodeServices$TokenLock" 44 yRo_contains ∈ wg := mem_wg (List.mem_append_right _ (List.mem_of_getElem? (i := 484) (by decide +kernel))) (by decide +kernel)
theorem wm_485 : Cond.instanceMethod yRo_contains ∈ wg := mem_wg (List.mem_append_right _ (List.mem_of_getElem? (i := 485) (by decide +kernel))) (by decide +kernel)
theorem wm_486 : Cond.selects "NodeServices$NodeRow" yRo_contains yRo_contains ∈ wg := mem_wg (List.mem_append_right _ (List.mem_of_getElem? (i := 486) (by decide +kernel))) (by decide +kernel)
theorem wm_487 : Cond.code yRo_contains cRo_contains 3 (some .boolean) ∈ wg := mem_wg (List.mem_append_right _ (List.mem_of_getElem? (i := 487) (by decide +kernel))) (by decide +kernel)
theorem wm_488 : Cond.methodLink "NodeServices$TokenLock" 48 yTk_isOwed ∈ wg := mem_wg (List.mem_append_right _ (List.mem_of_getElem? (i := 488) (by decide +kernel))) (by decide +kernel)
theorem wm_490 : Cond.instanceMethod yTk_isOwed ∈ wg := mem_wg (List.mem_append_right _ (List.mem_of_getElem? (i := 490) (by decide +kernel))) (by decide +kernel)
theorem wm_491 : Cond.code yTk_isOwed cTk_isOwed 3 (some .boolean) ∈ wg := mem_wg (List.mem_append_right _ (List.mem_of_getElem? (i := 491) (by decide +kernel))) (by decide +kernel)
theorem wm_492 : Cond.methodLink "NodeServices$TokenLock" 52 yRo_append ∈ wg := mem_wg (List.mem_append_right _ (List.mem_of_getElem? (i := 492) (by decide +kernel))) (by decide +kernel)
theorem wm_493 : Cond.methodLink "NodeServices$TokenLock" 55 yRo_isEmpty ∈ wg := mem_wg (List.mem_append_right _ (List.mem_of_getElem? (i := 493) (by decide +kernel))) (by decide +kernel)
theorem wm_494 : Cond.methodLink "NodeServices$TokenLock" 59 yRo_takeHead ∈ wg := mem_wg (List.mem_append_right _ (List.mem_of_getElem? (i := 494) (by decide +kernel))) (by decide +kernel)
theorem wm_495 : Cond.methodLink "NodeServices$TokenLock" 63 yTk_passToken ∈ wg := mem_wg (List.mem_append_right _ (List.mem_of_getElem? (i := 495) (by decide +kernel))) (by decide +kernel)
theorem wm_497 : Cond.instanceMethod yTk_passToken ∈ wg := mem_wg (List.mem_append_right _ (List.mem_of_getElem? (i := 497) (by decide +kernel))) (by decide +kernel)
theorem wm_498 : Cond.code yTk_passToken cTk_passToken 3 none ∈ wg := mem_wg (List.mem_append_right _ (List.mem_of_getElem? (i := 498) (by decide +kernel))) (by decide +kernel)
theorem wm_499 : Cond.methodLink "NodeServices$TokenLock" 84 ⟨"NodeServices$TokenLock", "send", "(IIII)V"⟩ ∈ wg := mem_wg (List.mem_append_right _ (List.mem_of_getElem? (i := 499) (by decide +kernel))) (by decide +kernel)
theorem wm_500 : Cond.sameMethod "NodeServices$TokenLock" "NodeServices$Service" "send" "(IIII)V" ∈ wg := mem_wg (List.mem_append_right _ (List.mem_of_getElem? (i := 500) (by decide +kernel))) (by decide +kernel)
theorem wm_501 : Cond.selects "NodeServices$TokenLock" ⟨"NodeServices$TokenLock", "send", "(IIII)V"⟩ ySv_send ∈ wg := mem_wg (List.mem_append_right _ (List.mem_of_getElem? (i := 501) (by decide +kernel))) (by decide +kernel)
theorem wm_514 : Cond.instanceMethod yEl_stand ∈ wg := mem_wg (List.mem_append_right _ (List.mem_of_getElem? (i := 514) (by decide +kernel))) (by decide +kernel)
theorem wm_515 : Cond.selects "NodeServices$Election" yEl_stand yEl_stand ∈ wg := mem_wg (List.mem_append_right _ (List.mem_of_getElem? (i := 515) (by decide +kernel))) (by decide +kernel)
theorem wm_516 : Cond.code yEl_stand cEl_stand 2 none ∈ wg := mem_wg (List.mem_append_right _ (List.mem_of_getElem? (i := 516) (by decide +kernel))) (by decide +kernel)
theorem wm_517 : Cond.methodLink "NodeServices$Election" 28 yEl_sendOn ∈ wg := mem_wg (List.mem_append_right _ (List.mem_of_getElem? (i := 517) (by decide +kernel))) (by decide +kernel)
theorem wm_519 : Cond.instanceMethod yEl_sendOn ∈ wg := mem_wg (List.mem_append_right _ (List.mem_of_getElem? (i := 519) (by decide +kernel))) (by decide +kernel)
theorem wm_520 : Cond.code yEl_sendOn cEl_sendOn 4 none ∈ wg := mem_wg (List.mem_append_right _ (List.mem_of_getElem? (i := 520) (by decide +kernel))) (by decide +kernel)
theorem wm_521 : Cond.methodLink "NodeServices$Election" 52 ⟨"NodeServices$Election", "send", "(IIII)V"⟩ ∈ wg := mem_wg (List.mem_append_right _ (List.mem_of_getElem? (i := 521) (by decide +kernel))) (by decide +kernel)
theorem wm_522 : Cond.sameMethod "NodeServices$Election" "NodeServices$Service" "send" "(IIII)V" ∈ wg := mem_wg (List.mem_append_right _ (List.mem_of_getElem? (i := 522) (by decide +kernel))) (by decide +kernel)
theorem wm_523 : Cond.selects "NodeServices$Election" ⟨"NodeServices$Election", "send", "(IIII)V"⟩ ySv_send ∈ wg := mem_wg (List.mem_append_right _ (List.mem_of_getElem? (i := 523) (by decide +kernel))) (by decide +kernel)
theorem wm_535 : Cond.methodLink "NodeServices$Work" 26 yWk_isEngaged ∈ wg := mem_wg (List.mem_append_right _ (List.mem_of_getElem? (i := 535) (by decide +kernel))) (by decide +kernel)
theorem wm_537 : Cond.instanceMethod yWk_isEngaged ∈ wg := mem_wg (List.mem_append_right _ (List.mem_of_getElem? (i := 537) (by decide +kernel))) (by decide +kernel)
theorem wm_538 : Cond.code yWk_isEngaged cWk_isEngaged 2 (some .boolean) ∈ wg := mem_wg (List.mem_append_right _ (List.mem_of_getElem? (i := 538) (by decide +kernel))) (by decide +kernel)
theorem wm_564 : Cond.methodLink "NodeServices$Work" 30 ⟨"NodeServices$Work", "send", "(IIII)V"⟩ ∈ wg := mem_wg (List.mem_append_right _ (List.mem_of_getElem? (i := 564) (by decide +kernel))) (by decide +kernel)
theorem wm_565 : Cond.sameMethod "NodeServices$Work" "NodeServices$Service" "send" "(IIII)V" ∈ wg := mem_wg (List.mem_append_right _ (List.mem_of_getElem? (i := 565) (by decide +kernel))) (by decide +kernel)
theorem wm_566 : Cond.selects "NodeServices$Work" ⟨"NodeServices$Work", "send", "(IIII)V"⟩ ySv_send ∈ wg := mem_wg (List.mem_append_right _ (List.mem_of_getElem? (i := 566) (by decide +kernel))) (by decide +kernel)
theorem wm_579 : Cond.methodLink "NodeServices$Work" 34 yWk_settle ∈ wg := mem_wg (List.mem_append_right _ (List.mem_of_getElem? (i := 579) (by decide +kernel))) (by decide +kernel)
theorem wm_581 : Cond.instanceMethod yWk_settle ∈ wg := mem_wg (List.mem_append_right _ (List.mem_of_getElem? (i := 581) (by decide +kernel))) (by decide +kernel)
theorem wm_582 : Cond.code yWk_settle cWk_settle 3 none ∈ wg := mem_wg (List.mem_append_right _ (List.mem_of_getElem? (i := 582) (by decide +kernel))) (by decide +kernel)
theorem wm_618 : Cond.methodLink "NodeServices$Election" 41 yEl_takeElect ∈ wg := mem_wg (List.mem_append_right _ (List.mem_of_getElem? (i := 618) (by decide +kernel))) (by decide +kernel)
theorem wm_620 : Cond.instanceMethod yEl_takeElect ∈ wg := mem_wg (List.mem_append_right _ (List.mem_of_getElem? (i := 620) (by decide +kernel))) (by decide +kernel)
theorem wm_621 : Cond.code yEl_takeElect cEl_takeElect 3 none ∈ wg := mem_wg (List.mem_append_right _ (List.mem_of_getElem? (i := 621) (by decide +kernel))) (by decide +kernel)
theorem wm_622 : Cond.methodLink "NodeServices$Election" 48 yEl_stand ∈ wg := mem_wg (List.mem_append_right _ (List.mem_of_getElem? (i := 622) (by decide +kernel))) (by decide +kernel)
theorem wm_623 : Cond.methodLink "NodeServices$Election" 45 yEl_takeLeader ∈ wg := mem_wg (List.mem_append_right _ (List.mem_of_getElem? (i := 623) (by decide +kernel))) (by decide +kernel)
theorem wm_625 : Cond.instanceMethod yEl_takeLeader ∈ wg := mem_wg (List.mem_append_right _ (List.mem_of_getElem? (i := 625) (by decide +kernel))) (by decide +kernel)
theorem wm_626 : Cond.code yEl_takeLeader cEl_takeLeader 3 none ∈ wg := mem_wg (List.mem_append_right _ (List.mem_of_getElem? (i := 626) (by decide +kernel))) (by decide +kernel)
theorem wm_630 : Cond.methodLink "NodeServices$StampLock" 45 ySt_takeRequest ∈ wg := mem_wg (List.mem_append_right _ (List.mem_of_getElem? (i := 630) (by decide +kernel))) (by decide +kernel)
theorem wm_632 : Cond.instanceMethod ySt_takeRequest ∈ wg := mem_wg (List.mem_append_right _ (List.mem_of_getElem? (i := 632) (by decide +kernel))) (by decide +kernel)
theorem wm_633 : Cond.code ySt_takeRequest cSt_takeRequest 4 none ∈ wg := mem_wg (List.mem_append_right _ (List.mem_of_getElem? (i := 633) (by decide +kernel))) (by decide +kernel)
theorem wm_634 : Cond.methodLink "NodeServices$StampLock" 52 Lib.Math.max.name ∈ wg := mem_wg (List.mem_append_right _ (List.mem_of_getElem? (i := 634) (by decide +kernel))) (by decide +kernel)
theorem wm_635 : Cond.static Lib.Math.max.name ∈ wg := mem_wg (List.mem_append_right _ (List.mem_of_getElem? (i := 635) (by decide +kernel))) (by decide +kernel)
theorem wm_636 : Cond.code Lib.Math.max.name Lib.Math.max.code 2 (some .int) ∈ wg := mem_wg (List.mem_append_right _ (List.mem_of_getElem? (i := 636) (by decide +kernel))) (by decide +kernel)
theorem wm_637 : Cond.methodLink "NodeServices$StampLock" 58 ySt_isBefore ∈ wg := mem_wg (List.mem_append_right _ (List.mem_of_getElem? (i := 637) (by decide +kernel))) (by decide +kernel)
theorem wm_639 : Cond.instanceMethod ySt_isBefore ∈ wg := mem_wg (List.mem_append_right _ (List.mem_of_getElem? (i := 639) (by decide +kernel))) (by decide +kernel)
theorem wm_640 : Cond.code ySt_isBefore cSt_isBefore 4 (some .boolean) ∈ wg := mem_wg (List.mem_append_right _ (List.mem_of_getElem? (i := 640) (by decide +kernel))) (by decide +kernel)
theorem wm_641 : Cond.methodLink "NodeServices$StampLock" 48 ySt_takeReply ∈ wg := mem_wg (List.mem_append_right _ (List.mem_of_getElem? (i := 641) (by decide +kernel))) (by decide +kernel)
theorem wm_643 : Cond.instanceMethod ySt_takeReply ∈ wg := mem_wg (List.mem_append_right _ (List.mem_of_getElem? (i := 643) (by decide +kernel))) (by decide +kernel)
theorem wm_644 : Cond.code ySt_takeReply cSt_takeReply 2 none ∈ wg := mem_wg (List.mem_append_right _ (List.mem_of_getElem? (i := 644) (by decide +kernel))) (by decide +kernel)
theorem wm_645 : Cond.methodLink "NodeServices$StampLock" 62 ⟨"NodeServices$StampLock", "enter", "(I)V"⟩ ∈ wg := mem_wg (List.mem_append_right _ (List.mem_of_getElem? (i := 645) (by decide +kernel))) (by decide +kernel)
theorem wm_646 : Cond.sameMethod "NodeServices$StampLock" "NodeServices$Lock" "enter" "(I)V" ∈ wg := mem_wg (List.mem_append_right _ (List.mem_of_getElem? (i := 646) (by decide +kernel))) (by decide +kernel)
theorem wm_647 : Cond.selects "NodeServices$StampLock" ⟨"NodeServices$StampLock", "enter", "(I)V"⟩ yLk_enter ∈ wg := mem_wg (List.mem_append_right _ (List.mem_of_getElem? (i := 647) (by decide +kernel))) (by decide +kernel)
theorem wm_651 : Cond.methodLink "NodeServices$TokenLock" 75 yTk_takeRequest ∈ wg := mem_wg (List.mem_append_right _ (List.mem_of_getElem? (i := 651) (by decide +kernel))) (by decide +kernel)
theorem wm_653 : Cond.instanceMethod yTk_takeRequest ∈ wg := mem_wg (List.mem_append_right _ (List.mem_of_getElem? (i := 653) (by decide +kernel))) (by decide +kernel)
theorem wm_654 : Cond.code yTk_takeRequest cTk_takeRequest 4 none ∈ wg := mem_wg (List.mem_append_right _ (List.mem_of_getElem? (i := 654) (by decide +kernel))) (by decide +kernel)
theorem wm_655 : Cond.methodLink "NodeServices$TokenLock" 78 Lib.Math.max.name ∈ wg := mem_wg (List.mem_append_right _ (List.mem_of_getElem? (i := 655) (by decide +kernel))) (by decide +kernel)
theorem wm_662 : Cond.methodLink "NodeServices$Work" 43 yWk_takeWork ∈ wg := mem_wg (List.mem_append_right _ (List.mem_of_getElem? (i := 662) (by decide +kernel))) (by decide +kernel)
theorem wm_664 : Cond.instanceMethod yWk_takeWork ∈ wg := mem_wg (List.mem_append_right _ (List.mem_of_getElem? (i := 664) (by decide +kernel))) (by decide +kernel)
theorem wm_665 : Cond.code yWk_takeWork cWk_takeWork 3 none ∈ wg := mem_wg (List.mem_append_right _ (List.mem_of_getElem? (i := 665) (by decide +kernel))) (by decide +kernel)
theorem wp_2 : Cond.selects "NodeServices$TreeLock" yTr_goOn yTr_goOn ∈ wg := mem_wg (List.mem_append_left _ (List.mem_of_getElem? (i := 2) (by decide +kernel))) (by decide +kernel)
theorem wp_3 : Cond.selects "NodeServices$TreeLock" yTr_serve yTr_serve ∈ wg := mem_wg (List.mem_append_left _ (List.mem_of_getElem? (i := 3) (by decide +kernel))) (by decide +kernel)
theorem wp_4 : Cond.selects "NodeServices$TokenLock" yTk_isOwed yTk_isOwed ∈ wg := mem_wg (List.mem_append_left _ (List.mem_of_getElem? (i := 4) (by decide +kernel))) (by decide +kernel)
theorem wp_5 : Cond.selects "NodeServices$TokenLock" yTk_passToken yTk_passToken ∈ wg := mem_wg (List.mem_append_left _ (List.mem_of_getElem? (i := 5) (by decide +kernel))) (by decide +kernel)
theorem wp_6 : Cond.selects "NodeServices$Election" yEl_sendOn yEl_sendOn ∈ wg := mem_wg (List.mem_append_left _ (List.mem_of_getElem? (i := 6) (by decide +kernel))) (by decide +kernel)
theorem wp_7 : Cond.selects "NodeServices$Work" yWk_isEngaged yWk_isEngaged ∈ wg := mem_wg (List.mem_append_left _ (List.mem_of_getElem? (i := 7) (by decide +kernel))) (by decide +kernel)
theorem wp_8 : Cond.selects "NodeServices$Work" yWk_settle yWk_settle ∈ wg := mem_wg (List.mem_append_left _ (List.mem_of_getElem? (i := 8) (by decide +kernel))) (by decide +kernel)
theorem wp_9 : Cond.selects "NodeServices$Election" yEl_takeElect yEl_takeElect ∈ wg := mem_wg (List.mem_append_left _ (List.mem_of_getElem? (i := 9) (by decide +kernel))) (by decide +kernel)
theorem wp_10 : Cond.selects "NodeServices$Election" yEl_takeLeader yEl_takeLeader ∈ wg := mem_wg (List.mem_append_left _ (List.mem_of_getElem? (i := 10) (by decide +kernel))) (by decide +kernel)
theorem wp_11 : Cond.selects "NodeServices$StampLock" ySt_takeRequest ySt_takeRequest ∈ wg := mem_wg (List.mem_append_left _ (List.mem_of_getElem? (i := 11) (by decide +kernel))) (by decide +kernel)
theorem wp_12 : Cond.selects "NodeServices$StampLock" ySt_isBefore ySt_isBefore ∈ wg := mem_wg (List.mem_append_left _ (List.mem_of_getElem? (i := 12) (by decide +kernel))) (by decide +kernel)
theorem wp_13 : Cond.selects "NodeServices$StampLock" ySt_takeReply ySt_takeReply ∈ wg := mem_wg (List.mem_append_left _ (List.mem_of_getElem? (i := 13) (by decide +kernel))) (by decide +kernel)
theorem wp_14 : Cond.selects "NodeServices$TokenLock" yTk_takeRequest yTk_takeRequest ∈ wg := mem_wg (List.mem_append_left _ (List.mem_of_getElem? (i := 14) (by decide +kernel))) (by decide +kernel)
theorem wp_15 : Cond.selects "NodeServices$Work" yWk_takeWork yWk_takeWork ∈ wg := mem_wg (List.mem_append_left _ (List.mem_of_getElem? (i := 15) (by decide +kernel))) (by decide +kernel)
theorem dMs_init_0 : decode cMs_init 0 = .ok (.aload_n 0, 1) := by decide +kernel
theorem dMs_init_1 : decode cMs_init 1 = .ok (.invokespecial 1, 3) := by decide +kernel
theorem dMs_init_4 : decode cMs_init 4 = .ok (.aload_n 0, 1) := by decide +kernel
theorem dMs_init_5 : decode cMs_init 5 = .ok (.iload_n 1, 1) := by decide +kernel
theorem dMs_init_6 : decode cMs_init 6 = .ok (.putfield 7, 3) := by decide +kernel
theorem dMs_init_9 : decode cMs_init 9 = .ok (.aload_n 0, 1) := by decide +kernel
theorem dMs_init_10 : decode cMs_init 10 = .ok (.iload_n 2, 1) := by decide +kernel
theorem dMs_init_11 : decode cMs_init 11 = .ok (.putfield 13, 3) := by decide +kernel
theorem dMs_init_14 : decode cMs_init 14 = .ok (.aload_n 0, 1) := by decide +kernel
theorem dMs_init_15 : decode cMs_init 15 = .ok (.iload_n 3, 1) := by decide +kernel
theorem dMs_init_16 : decode cMs_init 16 = .ok (.putfield 16, 3) := by decide +kernel
theorem dMs_init_19 : decode cMs_init 19 = .ok (.return_, 1) := by decide +kernel
theorem dCh_append_0 : decode cCh_append 0 = .ok (.aload_n 0, 1) := by decide +kernel
theorem dCh_append_1 : decode cCh_append 1 = .ok (.getfield 7, 3) := by decide +kernel
theorem dCh_append_4 : decode cCh_append 4 = .ok (.sipush 1024, 3) := by decide +kernel
theorem dCh_append_7 : decode cCh_append 7 = .ok (.if_icmp .lt 4, 3) := by decide +kernel
theorem dCh_append_10 : decode cCh_append 10 = .ok (.return_, 1) := by decide +kernel
theorem dCh_append_11 : decode cCh_append 11 = .ok (.aload_n 0, 1) := by decide +kernel
theorem dCh_append_12 : decode cCh_append 12 = .ok (.getfield 13, 3) := by decide +kernel
theorem dCh_append_15 : decode cCh_append 15 = .ok (.ifnonnull 11, 3) := by decide +kernel
theorem dCh_append_18 : decode cCh_append 18 = .ok (.aload_n 0, 1) := by decide +kernel
theorem dCh_append_19 : decode cCh_append 19 = .ok (.aload_n 1, 1) := by decide +kernel
theorem dCh_append_20 : decode cCh_append 20 = .ok (.putfield 17, 3) := by decide +kernel
theorem dCh_append_23 : decode cCh_append 23 = .ok (.goto 11, 3) := by decide +kernel
theorem dCh_append_26 : decode cCh_append 26 = .ok (.aload_n 0, 1) := by decide +kernel
theorem dCh_append_27 : decode cCh_append 27 = .ok (.getfield 13, 3) := by decide +kernel
theorem dCh_append_30 : decode cCh_append 30 = .ok (.aload_n 1, 1) := by decide +kernel
theorem dCh_append_31 : decode cCh_append 31 = .ok (.putfield 20, 3) := by decide +kernel
theorem dCh_append_34 : decode cCh_append 34 = .ok (.aload_n 0, 1) := by decide +kernel
theorem dCh_append_35 : decode cCh_append 35 = .ok (.aload_n 1, 1) := by decide +kernel
theorem dCh_append_36 : decode cCh_append 36 = .ok (.putfield 13, 3) := by decide +kernel
theorem dCh_append_39 : decode cCh_append 39 = .ok (.aload_n 0, 1) := by decide +kernel
theorem dCh_append_40 : decode cCh_append 40 = .ok (.dup, 1) := by decide +kernel
theorem dCh_append_41 : decode cCh_append 41 = .ok (.getfield 7, 3) := by decide +kernel
theorem dCh_append_44 : decode cCh_append 44 = .ok (.iconst 1, 1) := by decide +kernel
theorem dCh_append_45 : decode cCh_append 45 = .ok (.iadd, 1) := by decide +kernel
theorem dCh_append_46 : decode cCh_append 46 = .ok (.putfield 7, 3) := by decide +kernel
theorem dCh_append_49 : decode cCh_append 49 = .ok (.return_, 1) := by decide +kernel
theorem dCh_takeHead_0 : decode cCh_takeHead 0 = .ok (.aload_n 0, 1) := by decide +kernel
theorem dCh_takeHead_1 : decode cCh_takeHead 1 = .ok (.getfield 17, 3) := by decide +kernel
theorem dCh_takeHead_4 : decode cCh_takeHead 4 = .ok (.astore_n 1, 1) := by decide +kernel
theorem dCh_takeHead_5 : decode cCh_takeHead 5 = .ok (.aload_n 1, 1) := by decide +kernel
theorem dCh_takeHead_6 : decode cCh_takeHead 6 = .ok (.ifnonnull 5, 3) := by decide +kernel
theorem dCh_takeHead_9 : decode cCh_takeHead 9 = .ok (.aconst_null, 1) := by decide +kernel
theorem dCh_takeHead_10 : decode cCh_takeHead 10 = .ok (.areturn, 1) := by decide +kernel
theorem dCh_takeHead_11 : decode cCh_takeHead 11 = .ok (.aload_n 0, 1) := by decide +kernel
theorem dCh_takeHead_12 : decode cCh_takeHead 12 = .ok (.aload_n 1, 1) := by decide +kernel
theorem dCh_takeHead_13 : decode cCh_takeHead 13 = .ok (.getfield 20, 3) := by decide +kernel
theorem dCh_takeHead_16 : decode cCh_takeHead 16 = .ok (.putfield 17, 3) := by decide +kernel
theorem dCh_takeHead_19 : decode cCh_takeHead 19 = .ok (.aload_n 0, 1) := by decide +kernel
theorem dCh_takeHead_20 : decode cCh_takeHead 20 = .ok (.getfield 17, 3) := by decide +kernel
theorem dCh_takeHead_23 : decode cCh_takeHead 23 = .ok (.ifnonnull 8, 3) := by decide +kernel
theorem dCh_takeHead_26 : decode cCh_takeHead 26 = .ok (.aload_n 0, 1) := by decide +kernel
theorem dCh_takeHead_27 : decode cCh_takeHead 27 = .ok (.aconst_null, 1) := by decide +kernel
theorem dCh_takeHead_28 : decode cCh_takeHead 28 = .ok (.putfield 13, 3) := by decide +kernel
theorem dCh_takeHead_31 : decode cCh_takeHead 31 = .ok (.aload_n 0, 1) := by decide +kernel
theorem dCh_takeHead_32 : decode cCh_takeHead 32 = .ok (.dup, 1) := by decide +kernel
theorem dCh_takeHead_33 : decode cCh_takeHead 33 = .ok (.getfield 7, 3) := by decide +kernel
theorem dCh_takeHead_36 : decode cCh_takeHead 36 = .ok (.iconst 1, 1) := by decide +kernel
theorem dCh_takeHead_37 : decode cCh_takeHead 37 = .ok (.isub, 1) := by decide +kernel
theorem dCh_takeHead_38 : decode cCh_takeHead 38 = .ok (.putfield 7, 3) := by decide +kernel
theorem dCh_takeHead_41 : decode cCh_takeHead 41 = .ok (.aload_n 1, 1) := by decide +kernel
theorem dCh_takeHead_42 : decode cCh_takeHead 42 = .ok (.areturn, 1) := by decide +kernel
theorem dRo_isEmpty_0 : decode cRo_isEmpty 0 = .ok (.aload_n 0, 1) := by decide +kernel
theorem dRo_isEmpty_1 : decode cRo_isEmpty 1 = .ok (.getfield 15, 3) := by decide +kernel
theorem dRo_isEmpty_4 : decode cRo_isEmpty 4 = .ok (.ifCond .ne 7, 3) := by decide +kernel
theorem dRo_isEmpty_7 : decode cRo_isEmpty 7 = .ok (.iconst 1, 1) := by decide +kernel
theorem dRo_isEmpty_8 : decode cRo_isEmpty 8 = .ok (.goto 4, 3) := by decide +kernel
theorem dRo_isEmpty_11 : decode cRo_isEmpty 11 = .ok (.iconst 0, 1) := by decide +kernel
theorem dRo_isEmpty_12 : decode cRo_isEmpty 12 = .ok (.ireturn, 1) := by decide +kernel
theorem dRo_contains_0 : decode cRo_contains 0 = .ok (.iconst 0, 1) := by decide +kernel
theorem dRo_contains_1 : decode cRo_contains 1 = .ok (.istore_n 2, 1) := by decide +kernel
theorem dRo_contains_2 : decode cRo_contains 2 = .ok (.iload_n 2, 1) := by decide +kernel
theorem dRo_contains_3 : decode cRo_contains 3 = .ok (.aload_n 0, 1) := by decide +kernel
theorem dRo_contains_4 : decode cRo_contains 4 = .ok (.getfield 15, 3) := by decide +kernel
theorem dRo_contains_7 : decode cRo_contains 7 = .ok (.if_icmp .ge 21, 3) := by decide +kernel
theorem dRo_contains_10 : decode cRo_contains 10 = .ok (.aload_n 0, 1) := by decide +kernel
theorem dRo_contains_11 : decode cRo_contains 11 = .ok (.getfield 9, 3) := by decide +kernel
theorem dRo_contains_14 : decode cRo_contains 14 = .ok (.iload_n 2, 1) := by decide +kernel
theorem dRo_contains_15 : decode cRo_contains 15 = .ok (.iaload, 1) := by decide +kernel
theorem dRo_contains_16 : decode cRo_contains 16 = .ok (.iload_n 1, 1) := by decide +kernel
theorem dRo_contains_17 : decode cRo_contains 17 = .ok (.if_icmp .ne 5, 3) := by decide +kernel
theorem dRo_contains_20 : decode cRo_contains 20 = .ok (.iconst 1, 1) := by decide +kernel
theorem dRo_contains_21 : decode cRo_contains 21 = .ok (.ireturn, 1) := by decide +kernel
theorem dRo_contains_22 : decode cRo_contains 22 = .ok (.iinc 2 1, 3) := by decide +kernel
theorem dRo_contains_25 : decode cRo_contains 25 = .ok (.goto (-23), 3) := by decide +kernel
theorem dRo_contains_28 : decode cRo_contains 28 = .ok (.iconst 0, 1) := by decide +kernel
theorem dRo_contains_29 : decode cRo_contains 29 = .ok (.ireturn, 1) := by decide +kernel
theorem dRo_append_0 : decode cRo_append 0 = .ok (.aload_n 0, 1) := by decide +kernel
theorem dRo_append_1 : decode cRo_append 1 = .ok (.getfield 15, 3) := by decide +kernel
theorem dRo_append_4 : decode cRo_append 4 = .ok (.iconst 4, 1) := by decide +kernel
theorem dRo_append_5 : decode cRo_append 5 = .ok (.if_icmp .ge 23, 3) := by decide +kernel
theorem dRo_append_8 : decode cRo_append 8 = .ok (.aload_n 0, 1) := by decide +kernel
theorem dRo_append_9 : decode cRo_append 9 = .ok (.getfield 9, 3) := by decide +kernel
theorem dRo_append_12 : decode cRo_append 12 = .ok (.aload_n 0, 1) := by decide +kernel
theorem dRo_append_13 : decode cRo_append 13 = .ok (.getfield 15, 3) := by decide +kernel
theorem dRo_append_16 : decode cRo_append 16 = .ok (.iload_n 1, 1) := by decide +kernel
theorem dRo_append_17 : decode cRo_append 17 = .ok (.iastore, 1) := by decide +kernel
theorem dRo_append_18 : decode cRo_append 18 = .ok (.aload_n 0, 1) := by decide +kernel
theorem dRo_append_19 : decode cRo_append 19 = .ok (.dup, 1) := by decide +kernel
theorem dRo_append_20 : decode cRo_append 20 = .ok (.getfield 15, 3) := by decide +kernel
theorem dRo_append_23 : decode cRo_append 23 = .ok (.iconst 1, 1) := by decide +kernel
theorem dRo_append_24 : decode cRo_append 24 = .ok (.iadd, 1) := by decide +kernel
theorem dRo_append_25 : decode cRo_append 25 = .ok (.putfield 15, 3) := by decide +kernel
theorem dRo_append_28 : decode cRo_append 28 = .ok (.return_, 1) := by decide +kernel
theorem dRo_takeHead_0 : decode cRo_takeHead 0 = .ok (.aload_n 0, 1) := by decide +kernel
theorem dRo_takeHead_1 : decode cRo_takeHead 1 = .ok (.getfield 9, 3) := by decide +kernel
theorem dRo_takeHead_4 : decode cRo_takeHead 4 = .ok (.iconst 0, 1) := by decide +kernel
theorem dRo_takeHead_5 : decode cRo_takeHead 5 = .ok (.iaload, 1) := by decide +kernel
theorem dRo_takeHead_6 : decode cRo_takeHead 6 = .ok (.istore_n 1, 1) := by decide +kernel
theorem dRo_takeHead_7 : decode cRo_takeHead 7 = .ok (.iconst 1, 1) := by decide +kernel
theorem dRo_takeHead_8 : decode cRo_takeHead 8 = .ok (.istore_n 2, 1) := by decide +kernel
theorem dRo_takeHead_9 : decode cRo_takeHead 9 = .ok (.iload_n 2, 1) := by decide +kernel
theorem dRo_takeHead_10 : decode cRo_takeHead 10 = .ok (.aload_n 0, 1) := by decide +kernel
theorem dRo_takeHead_11 : decode cRo_takeHead 11 = .ok (.getfield 15, 3) := by decide +kernel
theorem dRo_takeHead_14 : decode cRo_takeHead 14 = .ok (.if_icmp .ge 23, 3) := by decide +kernel
theorem dRo_takeHead_17 : decode cRo_takeHead 17 = .ok (.aload_n 0, 1) := by decide +kernel
theorem dRo_takeHead_18 : decode cRo_takeHead 18 = .ok (.getfield 9, 3) := by decide +kernel
theorem dRo_takeHead_21 : decode cRo_takeHead 21 = .ok (.iload_n 2, 1) := by decide +kernel
theorem dRo_takeHead_22 : decode cRo_takeHead 22 = .ok (.iconst 1, 1) := by decide +kernel
theorem dRo_takeHead_23 : decode cRo_takeHead 23 = .ok (.isub, 1) := by decide +kernel
theorem dRo_takeHead_24 : decode cRo_takeHead 24 = .ok (.aload_n 0, 1) := by decide +kernel
theorem dRo_takeHead_25 : decode cRo_takeHead 25 = .ok (.getfield 9, 3) := by decide +kernel
theorem dRo_takeHead_28 : decode cRo_takeHead 28 = .ok (.iload_n 2, 1) := by decide +kernel
theorem dRo_takeHead_29 : decode cRo_takeHead 29 = .ok (.iaload, 1) := by decide +kernel
theorem dRo_takeHead_30 : decode cRo_takeHead 30 = .ok (.iastore, 1) := by decide +kernel
theorem dRo_takeHead_31 : decode cRo_takeHead 31 = .ok (.iinc 2 1, 3) := by decide +kernel
theorem dRo_takeHead_34 : decode cRo_takeHead 34 = .ok (.goto (-25), 3) := by decide +kernel
theorem dRo_takeHead_37 : decode cRo_takeHead 37 = .ok (.aload_n 0, 1) := by decide +kernel
theorem dRo_takeHead_38 : decode cRo_takeHead 38 = .ok (.getfield 15, 3) := by decide +kernel
theorem dRo_takeHead_41 : decode cRo_takeHead 41 = .ok (.ifCond .le 13, 3) := by decide +kernel
theorem dRo_takeHead_44 : decode cRo_takeHead 44 = .ok (.aload_n 0, 1) := by decide +kernel
theorem dRo_takeHead_45 : decode cRo_takeHead 45 = .ok (.dup, 1) := by decide +kernel
theorem dRo_takeHead_46 : decode cRo_takeHead 46 = .ok (.getfield 15, 3) := by decide +kernel
theorem dRo_takeHead_49 : decode cRo_takeHead 49 = .ok (.iconst 1, 1) := by decide +kernel
theorem dRo_takeHead_50 : decode cRo_takeHead 50 = .ok (.isub, 1) := by decide +kernel
theorem dRo_takeHead_51 : decode cRo_takeHead 51 = .ok (.putfield 15, 3) := by decide +kernel
theorem dRo_takeHead_54 : decode cRo_takeHead 54 = .ok (.iload_n 1, 1) := by decide +kernel
theorem dRo_takeHead_55 : decode cRo_takeHead 55 = .ok (.ireturn, 1) := by decide +kernel
theorem dNw_channel_0 : decode cNw_channel 0 = .ok (.aload_n 0, 1) := by decide +kernel
theorem dNw_channel_1 : decode cNw_channel 1 = .ok (.getfield 11, 3) := by decide +kernel
theorem dNw_channel_4 : decode cNw_channel 4 = .ok (.iload_n 1, 1) := by decide +kernel
theorem dNw_channel_5 : decode cNw_channel 5 = .ok (.iconst 4, 1) := by decide +kernel
theorem dNw_channel_6 : decode cNw_channel 6 = .ok (.imul, 1) := by decide +kernel
theorem dNw_channel_7 : decode cNw_channel 7 = .ok (.iload_n 2, 1) := by decide +kernel
theorem dNw_channel_8 : decode cNw_channel 8 = .ok (.iadd, 1) := by decide +kernel
theorem dNw_channel_9 : decode cNw_channel 9 = .ok (.aaload, 1) := by decide +kernel
theorem dNw_channel_10 : decode cNw_channel 10 = .ok (.areturn, 1) := by decide +kernel
theorem dNw_post_0 : decode cNw_post 0 = .ok (.aload_n 0, 1) := by decide +kernel
theorem dNw_post_1 : decode cNw_post 1 = .ok (.dup, 1) := by decide +kernel
theorem dNw_post_2 : decode cNw_post 2 = .ok (.getfield 18, 3) := by decide +kernel
theorem dNw_post_5 : decode cNw_post 5 = .ok (.iconst 1, 1) := by decide +kernel
theorem dNw_post_6 : decode cNw_post 6 = .ok (.iadd, 1) := by decide +kernel
theorem dNw_post_7 : decode cNw_post 7 = .ok (.putfield 18, 3) := by decide +kernel
theorem dNw_post_10 : decode cNw_post 10 = .ok (.aload_n 0, 1) := by decide +kernel
theorem dNw_post_11 : decode cNw_post 11 = .ok (.iload_n 1, 1) := by decide +kernel
theorem dNw_post_12 : decode cNw_post 12 = .ok (.iload_n 2, 1) := by decide +kernel
theorem dNw_post_13 : decode cNw_post 13 = .ok (.invokevirtual 22, 3) := by decide +kernel
theorem dNw_post_16 : decode cNw_post 16 = .ok (.aload_n 3, 1) := by decide +kernel
theorem dNw_post_17 : decode cNw_post 17 = .ok (.invokevirtual 26, 3) := by decide +kernel
theorem dNw_post_20 : decode cNw_post 20 = .ok (.return_, 1) := by decide +kernel
theorem dSv_send_0 : decode cSv_send 0 = .ok (.aload_n 0, 1) := by decide +kernel
theorem dSv_send_1 : decode cSv_send 1 = .ok (.getfield 9, 3) := by decide +kernel
theorem dSv_send_4 : decode cSv_send 4 = .ok (.iload_n 1, 1) := by decide +kernel
theorem dSv_send_5 : decode cSv_send 5 = .ok (.iload_n 2, 1) := by decide +kernel
theorem dSv_send_6 : decode cSv_send 6 = .ok (.new 19, 3) := by decide +kernel
theorem dSv_send_9 : decode cSv_send 9 = .ok (.dup, 1) := by decide +kernel
theorem dSv_send_10 : decode cSv_send 10 = .ok (.aload_n 0, 1) := by decide +kernel
theorem dSv_send_11 : decode cSv_send 11 = .ok (.getfield 15, 3) := by decide +kernel
theorem dSv_send_14 : decode cSv_send 14 = .ok (.iload_n 3, 1) := by decide +kernel
theorem dSv_send_15 : decode cSv_send 15 = .ok (.iload 4, 2) := by decide +kernel
theorem dSv_send_17 : decode cSv_send 17 = .ok (.invokespecial 21, 3) := by decide +kernel
theorem dSv_send_20 : decode cSv_send 20 = .ok (.invokevirtual 24, 3) := by decide +kernel
theorem dSv_send_23 : decode cSv_send 23 = .ok (.return_, 1) := by decide +kernel
theorem dSv_sendToAllOthers_0 : decode cSv_sendToAllOthers 0 = .ok (.iconst 0, 1) := by decide +kernel
theorem dSv_sendToAllOthers_1 : decode cSv_sendToAllOthers 1 = .ok (.istore 4, 2) := by decide +kernel
theorem dSv_sendToAllOthers_3 : decode cSv_sendToAllOthers 3 = .ok (.iload 4, 2) := by decide +kernel
theorem dSv_sendToAllOthers_5 : decode cSv_sendToAllOthers 5 = .ok (.iconst 4, 1) := by decide +kernel
theorem dSv_sendToAllOthers_6 : decode cSv_sendToAllOthers 6 = .ok (.if_icmp .ge 24, 3) := by decide +kernel
theorem dSv_sendToAllOthers_9 : decode cSv_sendToAllOthers 9 = .ok (.iload 4, 2) := by decide +kernel
theorem dSv_sendToAllOthers_11 : decode cSv_sendToAllOthers 11 = .ok (.iload_n 1, 1) := by decide +kernel
theorem dSv_sendToAllOthers_12 : decode cSv_sendToAllOthers 12 = .ok (.if_icmp .eq 12, 3) := by decide +kernel
theorem dSv_sendToAllOthers_15 : decode cSv_sendToAllOthers 15 = .ok (.aload_n 0, 1) := by decide +kernel
theorem dSv_sendToAllOthers_16 : decode cSv_sendToAllOthers 16 = .ok (.iload_n 1, 1) := by decide +kernel
theorem dSv_sendToAllOthers_17 : decode cSv_sendToAllOthers 17 = .ok (.iload 4, 2) := by decide +kernel
theorem dSv_sendToAllOthers_19 : decode cSv_sendToAllOthers 19 = .ok (.iload_n 2, 1) := by decide +kernel
theorem dSv_sendToAllOthers_20 : decode cSv_sendToAllOthers 20 = .ok (.iload_n 3, 1) := by decide +kernel
theorem dSv_sendToAllOthers_21 : decode cSv_sendToAllOthers 21 = .ok (.invokevirtual 30, 3) := by decide +kernel
theorem dSv_sendToAllOthers_24 : decode cSv_sendToAllOthers 24 = .ok (.iinc 4 1, 3) := by decide +kernel
theorem dSv_sendToAllOthers_27 : decode cSv_sendToAllOthers 27 = .ok (.goto (-24), 3) := by decide +kernel
theorem dSv_sendToAllOthers_30 : decode cSv_sendToAllOthers 30 = .ok (.return_, 1) := by decide +kernel
theorem dLk_enter_0 : decode cLk_enter 0 = .ok (.aload_n 0, 1) := by decide +kernel
theorem dLk_enter_1 : decode cLk_enter 1 = .ok (.getfield 9, 3) := by decide +kernel
theorem dLk_enter_4 : decode cLk_enter 4 = .ok (.iload_n 1, 1) := by decide +kernel
theorem dLk_enter_5 : decode cLk_enter 5 = .ok (.iconst 2, 1) := by decide +kernel
theorem dLk_enter_6 : decode cLk_enter 6 = .ok (.iastore, 1) := by decide +kernel
theorem dLk_enter_7 : decode cLk_enter 7 = .ok (.aload_n 0, 1) := by decide +kernel
theorem dLk_enter_8 : decode cLk_enter 8 = .ok (.dup, 1) := by decide +kernel
theorem dLk_enter_9 : decode cLk_enter 9 = .ok (.getfield 15, 3) := by decide +kernel
theorem dLk_enter_12 : decode cLk_enter 12 = .ok (.iconst 1, 1) := by decide +kernel
theorem dLk_enter_13 : decode cLk_enter 13 = .ok (.iadd, 1) := by decide +kernel
theorem dLk_enter_14 : decode cLk_enter 14 = .ok (.putfield 15, 3) := by decide +kernel
theorem dLk_enter_17 : decode cLk_enter 17 = .ok (.return_, 1) := by decide +kernel
theorem dLk_condition_0 : decode cLk_condition 0 = .ok (.aload_n 0, 1) := by decide +kernel
theorem dLk_condition_1 : decode cLk_condition 1 = .ok (.getfield 9, 3) := by decide +kernel
theorem dLk_condition_4 : decode cLk_condition 4 = .ok (.iload_n 1, 1) := by decide +kernel
theorem dLk_condition_5 : decode cLk_condition 5 = .ok (.iaload, 1) := by decide +kernel
theorem dLk_condition_6 : decode cLk_condition 6 = .ok (.ireturn, 1) := by decide +kernel
theorem dSt_detail_0 : decode cSt_detail 0 = .ok (.aload_n 0, 1) := by decide +kernel
theorem dSt_detail_1 : decode cSt_detail 1 = .ok (.getfield 9, 3) := by decide +kernel
theorem dSt_detail_4 : decode cSt_detail 4 = .ok (.iload_n 1, 1) := by decide +kernel
theorem dSt_detail_5 : decode cSt_detail 5 = .ok (.iaload, 1) := by decide +kernel
theorem dSt_detail_6 : decode cSt_detail 6 = .ok (.ireturn, 1) := by decide +kernel
theorem dSt_ask_0 : decode cSt_ask 0 = .ok (.aload_n 0, 1) := by decide +kernel
theorem dSt_ask_1 : decode cSt_ask 1 = .ok (.getfield 9, 3) := by decide +kernel
theorem dSt_ask_4 : decode cSt_ask 4 = .ok (.iload_n 1, 1) := by decide +kernel
theorem dSt_ask_5 : decode cSt_ask 5 = .ok (.dup2, 1) := by decide +kernel
theorem dSt_ask_6 : decode cSt_ask 6 = .ok (.iaload, 1) := by decide +kernel
theorem dSt_ask_7 : decode cSt_ask 7 = .ok (.iconst 1, 1) := by decide +kernel
theorem dSt_ask_8 : decode cSt_ask 8 = .ok (.iadd, 1) := by decide +kernel
theorem dSt_ask_9 : decode cSt_ask 9 = .ok (.iastore, 1) := by decide +kernel
theorem dSt_ask_10 : decode cSt_ask 10 = .ok (.aload_n 0, 1) := by decide +kernel
theorem dSt_ask_11 : decode cSt_ask 11 = .ok (.getfield 15, 3) := by decide +kernel
theorem dSt_ask_14 : decode cSt_ask 14 = .ok (.iload_n 1, 1) := by decide +kernel
theorem dSt_ask_15 : decode cSt_ask 15 = .ok (.aload_n 0, 1) := by decide +kernel
theorem dSt_ask_16 : decode cSt_ask 16 = .ok (.getfield 9, 3) := by decide +kernel
theorem dSt_ask_19 : decode cSt_ask 19 = .ok (.iload_n 1, 1) := by decide +kernel
theorem dSt_ask_20 : decode cSt_ask 20 = .ok (.iaload, 1) := by decide +kernel
theorem dSt_ask_21 : decode cSt_ask 21 = .ok (.iastore, 1) := by decide +kernel
theorem dSt_ask_22 : decode cSt_ask 22 = .ok (.aload_n 0, 1) := by decide +kernel
theorem dSt_ask_23 : decode cSt_ask 23 = .ok (.getfield 18, 3) := by decide +kernel
theorem dSt_ask_26 : decode cSt_ask 26 = .ok (.iload_n 1, 1) := by decide +kernel
theorem dSt_ask_27 : decode cSt_ask 27 = .ok (.iconst 0, 1) := by decide +kernel
theorem dSt_ask_28 : decode cSt_ask 28 = .ok (.iastore, 1) := by decide +kernel
theorem dSt_ask_29 : decode cSt_ask 29 = .ok (.aload_n 0, 1) := by decide +kernel
theorem dSt_ask_30 : decode cSt_ask 30 = .ok (.getfield 25, 3) := by decide +kernel
theorem dSt_ask_33 : decode cSt_ask 33 = .ok (.iload_n 1, 1) := by decide +kernel
theorem dSt_ask_34 : decode cSt_ask 34 = .ok (.iconst 1, 1) := by decide +kernel
theorem dSt_ask_35 : decode cSt_ask 35 = .ok (.iastore, 1) := by decide +kernel
theorem dSt_ask_36 : decode cSt_ask 36 = .ok (.aload_n 0, 1) := by decide +kernel
theorem dSt_ask_37 : decode cSt_ask 37 = .ok (.iload_n 1, 1) := by decide +kernel
theorem dSt_ask_38 : decode cSt_ask 38 = .ok (.iconst 0, 1) := by decide +kernel
theorem dSt_ask_39 : decode cSt_ask 39 = .ok (.aload_n 0, 1) := by decide +kernel
theorem dSt_ask_40 : decode cSt_ask 40 = .ok (.getfield 15, 3) := by decide +kernel
theorem dSt_ask_43 : decode cSt_ask 43 = .ok (.iload_n 1, 1) := by decide +kernel
theorem dSt_ask_44 : decode cSt_ask 44 = .ok (.iaload, 1) := by decide +kernel
theorem dSt_ask_45 : decode cSt_ask 45 = .ok (.invokevirtual 28, 3) := by decide +kernel
theorem dSt_ask_48 : decode cSt_ask 48 = .ok (.return_, 1) := by decide +kernel
theorem dSt_release_0 : decode cSt_release 0 = .ok (.aload_n 0, 1) := by decide +kernel
theorem dSt_release_1 : decode cSt_release 1 = .ok (.getfield 25, 3) := by decide +kernel
theorem dSt_release_4 : decode cSt_release 4 = .ok (.iload_n 1, 1) := by decide +kernel
theorem dSt_release_5 : decode cSt_release 5 = .ok (.iconst 0, 1) := by decide +kernel
theorem dSt_release_6 : decode cSt_release 6 = .ok (.iastore, 1) := by decide +kernel
theorem dSt_release_7 : decode cSt_release 7 = .ok (.iconst 0, 1) := by decide +kernel
theorem dSt_release_8 : decode cSt_release 8 = .ok (.istore_n 2, 1) := by decide +kernel
theorem dSt_release_9 : decode cSt_release 9 = .ok (.iload_n 2, 1) := by decide +kernel
theorem dSt_release_10 : decode cSt_release 10 = .ok (.iconst 4, 1) := by decide +kernel
theorem dSt_release_11 : decode cSt_release 11 = .ok (.if_icmp .ge 41, 3) := by decide +kernel
theorem dSt_release_14 : decode cSt_release 14 = .ok (.aload_n 0, 1) := by decide +kernel
theorem dSt_release_15 : decode cSt_release 15 = .ok (.getfield 21, 3) := by decide +kernel
theorem dSt_release_18 : decode cSt_release 18 = .ok (.iload_n 1, 1) := by decide +kernel
theorem dSt_release_19 : decode cSt_release 19 = .ok (.iconst 4, 1) := by decide +kernel
theorem dSt_release_20 : decode cSt_release 20 = .ok (.imul, 1) := by decide +kernel
theorem dSt_release_21 : decode cSt_release 21 = .ok (.iload_n 2, 1) := by decide +kernel
theorem dSt_release_22 : decode cSt_release 22 = .ok (.iadd, 1) := by decide +kernel
theorem dSt_release_23 : decode cSt_release 23 = .ok (.baload, 1) := by decide +kernel
theorem dSt_release_24 : decode cSt_release 24 = .ok (.ifCond .eq 22, 3) := by decide +kernel
theorem dSt_release_27 : decode cSt_release 27 = .ok (.aload_n 0, 1) := by decide +kernel
theorem dSt_release_28 : decode cSt_release 28 = .ok (.getfield 21, 3) := by decide +kernel
theorem dSt_release_31 : decode cSt_release 31 = .ok (.iload_n 1, 1) := by decide +kernel
theorem dSt_release_32 : decode cSt_release 32 = .ok (.iconst 4, 1) := by decide +kernel
theorem dSt_release_33 : decode cSt_release 33 = .ok (.imul, 1) := by decide +kernel
theorem dSt_release_34 : decode cSt_release 34 = .ok (.iload_n 2, 1) := by decide +kernel
theorem dSt_release_35 : decode cSt_release 35 = .ok (.iadd, 1) := by decide +kernel
theorem dSt_release_36 : decode cSt_release 36 = .ok (.iconst 0, 1) := by decide +kernel
theorem dSt_release_37 : decode cSt_release 37 = .ok (.bastore, 1) := by decide +kernel
theorem dSt_release_38 : decode cSt_release 38 = .ok (.aload_n 0, 1) := by decide +kernel
theorem dSt_release_39 : decode cSt_release 39 = .ok (.iload_n 1, 1) := by decide +kernel
theorem dSt_release_40 : decode cSt_release 40 = .ok (.iload_n 2, 1) := by decide +kernel
theorem dSt_release_41 : decode cSt_release 41 = .ok (.iconst 1, 1) := by decide +kernel
theorem dSt_release_42 : decode cSt_release 42 = .ok (.iconst 0, 1) := by decide +kernel
theorem dSt_release_43 : decode cSt_release 43 = .ok (.invokevirtual 32, 3) := by decide +kernel
theorem dSt_release_46 : decode cSt_release 46 = .ok (.iinc 2 1, 3) := by decide +kernel
theorem dSt_release_49 : decode cSt_release 49 = .ok (.goto (-40), 3) := by decide +kernel
theorem dSt_release_52 : decode cSt_release 52 = .ok (.return_, 1) := by decide +kernel
theorem dSt_isBefore_0 : decode cSt_isBefore 0 = .ok (.aload_n 0, 1) := by decide +kernel
theorem dSt_isBefore_1 : decode cSt_isBefore 1 = .ok (.getfield 15, 3) := by decide +kernel
theorem dSt_isBefore_4 : decode cSt_isBefore 4 = .ok (.iload_n 1, 1) := by decide +kernel
theorem dSt_isBefore_5 : decode cSt_isBefore 5 = .ok (.iaload, 1) := by decide +kernel
theorem dSt_isBefore_6 : decode cSt_isBefore 6 = .ok (.iload_n 3, 1) := by decide +kernel
theorem dSt_isBefore_7 : decode cSt_isBefore 7 = .ok (.if_icmp .lt 18, 3) := by decide +kernel
theorem dSt_isBefore_10 : decode cSt_isBefore 10 = .ok (.aload_n 0, 1) := by decide +kernel
theorem dSt_isBefore_11 : decode cSt_isBefore 11 = .ok (.getfield 15, 3) := by decide +kernel
theorem dSt_isBefore_14 : decode cSt_isBefore 14 = .ok (.iload_n 1, 1) := by decide +kernel
theorem dSt_isBefore_15 : decode cSt_isBefore 15 = .ok (.iaload, 1) := by decide +kernel
theorem dSt_isBefore_16 : decode cSt_isBefore 16 = .ok (.iload_n 3, 1) := by decide +kernel
theorem dSt_isBefore_17 : decode cSt_isBefore 17 = .ok (.if_icmp .ne 12, 3) := by decide +kernel
theorem dSt_isBefore_20 : decode cSt_isBefore 20 = .ok (.iload_n 1, 1) := by decide +kernel
theorem dSt_isBefore_21 : decode cSt_isBefore 21 = .ok (.iload_n 2, 1) := by decide +kernel
theorem dSt_isBefore_22 : decode cSt_isBefore 22 = .ok (.if_icmp .ge 7, 3) := by decide +kernel
theorem dSt_isBefore_25 : decode cSt_isBefore 25 = .ok (.iconst 1, 1) := by decide +kernel
theorem dSt_isBefore_26 : decode cSt_isBefore 26 = .ok (.goto 4, 3) := by decide +kernel
theorem dSt_isBefore_29 : decode cSt_isBefore 29 = .ok (.iconst 0, 1) := by decide +kernel
theorem dSt_isBefore_30 : decode cSt_isBefore 30 = .ok (.ireturn, 1) := by decide +kernel
theorem dSt_takeRequest_0 : decode cSt_takeRequest 0 = .ok (.aload_n 0, 1) := by decide +kernel
theorem dSt_takeRequest_1 : decode cSt_takeRequest 1 = .ok (.getfield 9, 3) := by decide +kernel
theorem dSt_takeRequest_4 : decode cSt_takeRequest 4 = .ok (.iload_n 2, 1) := by decide +kernel
theorem dSt_takeRequest_5 : decode cSt_takeRequest 5 = .ok (.aload_n 0, 1) := by decide +kernel
theorem dSt_takeRequest_6 : decode cSt_takeRequest 6 = .ok (.getfield 9, 3) := by decide +kernel
theorem dSt_takeRequest_9 : decode cSt_takeRequest 9 = .ok (.iload_n 2, 1) := by decide +kernel
theorem dSt_takeRequest_10 : decode cSt_takeRequest 10 = .ok (.iaload, 1) := by decide +kernel
theorem dSt_takeRequest_11 : decode cSt_takeRequest 11 = .ok (.iload_n 3, 1) := by decide +kernel
theorem dSt_takeRequest_12 : decode cSt_takeRequest 12 = .ok (.invokestatic 52, 3) := by decide +kernel
theorem dSt_takeRequest_15 : decode cSt_takeRequest 15 = .ok (.iastore, 1) := by decide +kernel
theorem dSt_takeRequest_16 : decode cSt_takeRequest 16 = .ok (.aload_n 0, 1) := by decide +kernel
theorem dSt_takeRequest_17 : decode cSt_takeRequest 17 = .ok (.getfield 25, 3) := by decide +kernel
theorem dSt_takeRequest_20 : decode cSt_takeRequest 20 = .ok (.iload_n 2, 1) := by decide +kernel
theorem dSt_takeRequest_21 : decode cSt_takeRequest 21 = .ok (.iaload, 1) := by decide +kernel
theorem dSt_takeRequest_22 : decode cSt_takeRequest 22 = .ok (.iconst 2, 1) := by decide +kernel
theorem dSt_takeRequest_23 : decode cSt_takeRequest 23 = .ok (.if_icmp .eq 23, 3) := by decide +kernel
theorem dSt_takeRequest_26 : decode cSt_takeRequest 26 = .ok (.aload_n 0, 1) := by decide +kernel
theorem dSt_takeRequest_27 : decode cSt_takeRequest 27 = .ok (.getfield 25, 3) := by decide +kernel
theorem dSt_takeRequest_30 : decode cSt_takeRequest 30 = .ok (.iload_n 2, 1) := by decide +kernel
theorem dSt_takeRequest_31 : decode cSt_takeRequest 31 = .ok (.iaload, 1) := by decide +kernel
theorem dSt_takeRequest_32 : decode cSt_takeRequest 32 = .ok (.iconst 1, 1) := by decide +kernel
theorem dSt_takeRequest_33 : decode cSt_takeRequest 33 = .ok (.if_icmp .ne 27, 3) := by decide +kernel
theorem dSt_takeRequest_36 : decode cSt_takeRequest 36 = .ok (.aload_n 0, 1) := by decide +kernel
theorem dSt_takeRequest_37 : decode cSt_takeRequest 37 = .ok (.iload_n 2, 1) := by decide +kernel
theorem dSt_takeRequest_38 : decode cSt_takeRequest 38 = .ok (.iload_n 1, 1) := by decide +kernel
theorem dSt_takeRequest_39 : decode cSt_takeRequest 39 = .ok (.iload_n 3, 1) := by decide +kernel
theorem dSt_takeRequest_40 : decode cSt_takeRequest 40 = .ok (.invokevirtual 58, 3) := by decide +kernel
theorem dSt_takeRequest_43 : decode cSt_takeRequest 43 = .ok (.ifCond .eq 17, 3) := by decide +kernel
theorem dSt_takeRequest_46 : decode cSt_takeRequest 46 = .ok (.aload_n 0, 1) := by decide +kernel
theorem dSt_takeRequest_47 : decode cSt_takeRequest 47 = .ok (.getfield 21, 3) := by decide +kernel
theorem dSt_takeRequest_50 : decode cSt_takeRequest 50 = .ok (.iload_n 2, 1) := by decide +kernel
theorem dSt_takeRequest_51 : decode cSt_takeRequest 51 = .ok (.iconst 4, 1) := by decide +kernel
theorem dSt_takeRequest_52 : decode cSt_takeRequest 52 = .ok (.imul, 1) := by decide +kernel
theorem dSt_takeRequest_53 : decode cSt_takeRequest 53 = .ok (.iload_n 1, 1) := by decide +kernel
theorem dSt_takeRequest_54 : decode cSt_takeRequest 54 = .ok (.iadd, 1) := by decide +kernel
theorem dSt_takeRequest_55 : decode cSt_takeRequest 55 = .ok (.iconst 1, 1) := by decide +kernel
theorem dSt_takeRequest_56 : decode cSt_takeRequest 56 = .ok (.bastore, 1) := by decide +kernel
theorem dSt_takeRequest_57 : decode cSt_takeRequest 57 = .ok (.goto 11, 3) := by decide +kernel
theorem dSt_takeRequest_60 : decode cSt_takeRequest 60 = .ok (.aload_n 0, 1) := by decide +kernel
theorem dSt_takeRequest_61 : decode cSt_takeRequest 61 = .ok (.iload_n 2, 1) := by decide +kernel
theorem dSt_takeRequest_62 : decode cSt_takeRequest 62 = .ok (.iload_n 1, 1) := by decide +kernel
theorem dSt_takeRequest_63 : decode cSt_takeRequest 63 = .ok (.iconst 1, 1) := by decide +kernel
theorem dSt_takeRequest_64 : decode cSt_takeRequest 64 = .ok (.iconst 0, 1) := by decide +kernel
theorem dSt_takeRequest_65 : decode cSt_takeRequest 65 = .ok (.invokevirtual 32, 3) := by decide +kernel
theorem dSt_takeRequest_68 : decode cSt_takeRequest 68 = .ok (.return_, 1) := by decide +kernel
theorem dSt_takeReply_0 : decode cSt_takeReply 0 = .ok (.aload_n 0, 1) := by decide +kernel
theorem dSt_takeReply_1 : decode cSt_takeReply 1 = .ok (.getfield 18, 3) := by decide +kernel
theorem dSt_takeReply_4 : decode cSt_takeReply 4 = .ok (.iload_n 1, 1) := by decide +kernel
theorem dSt_takeReply_5 : decode cSt_takeReply 5 = .ok (.dup2, 1) := by decide +kernel
theorem dSt_takeReply_6 : decode cSt_takeReply 6 = .ok (.iaload, 1) := by decide +kernel
theorem dSt_takeReply_7 : decode cSt_takeReply 7 = .ok (.iconst 1, 1) := by decide +kernel
theorem dSt_takeReply_8 : decode cSt_takeReply 8 = .ok (.iadd, 1) := by decide +kernel
theorem dSt_takeReply_9 : decode cSt_takeReply 9 = .ok (.iastore, 1) := by decide +kernel
theorem dSt_takeReply_10 : decode cSt_takeReply 10 = .ok (.aload_n 0, 1) := by decide +kernel
theorem dSt_takeReply_11 : decode cSt_takeReply 11 = .ok (.getfield 18, 3) := by decide +kernel
theorem dSt_takeReply_14 : decode cSt_takeReply 14 = .ok (.iload_n 1, 1) := by decide +kernel
theorem dSt_takeReply_15 : decode cSt_takeReply 15 = .ok (.iaload, 1) := by decide +kernel
theorem dSt_takeReply_16 : decode cSt_takeReply 16 = .ok (.iconst 3, 1) := by decide +kernel
theorem dSt_takeReply_17 : decode cSt_takeReply 17 = .ok (.if_icmp .ne 8, 3) := by decide +kernel
theorem dSt_takeReply_20 : decode cSt_takeReply 20 = .ok (.aload_n 0, 1) := by decide +kernel
theorem dSt_takeReply_21 : decode cSt_takeReply 21 = .ok (.iload_n 1, 1) := by decide +kernel
theorem dSt_takeReply_22 : decode cSt_takeReply 22 = .ok (.invokevirtual 62, 3) := by decide +kernel
theorem dSt_takeReply_25 : decode cSt_takeReply 25 = .ok (.return_, 1) := by decide +kernel
theorem dSt_receive_0 : decode cSt_receive 0 = .ok (.aload_n 3, 1) := by decide +kernel
theorem dSt_receive_1 : decode cSt_receive 1 = .ok (.getfield 36, 3) := by decide +kernel
theorem dSt_receive_4 : decode cSt_receive 4 = .ok (.ifCond .ne 16, 3) := by decide +kernel
theorem dSt_receive_7 : decode cSt_receive 7 = .ok (.aload_n 0, 1) := by decide +kernel
theorem dSt_receive_8 : decode cSt_receive 8 = .ok (.iload_n 1, 1) := by decide +kernel
theorem dSt_receive_9 : decode cSt_receive 9 = .ok (.iload_n 2, 1) := by decide +kernel
theorem dSt_receive_10 : decode cSt_receive 10 = .ok (.aload_n 3, 1) := by decide +kernel
theorem dSt_receive_11 : decode cSt_receive 11 = .ok (.getfield 42, 3) := by decide +kernel
theorem dSt_receive_14 : decode cSt_receive 14 = .ok (.invokevirtual 45, 3) := by decide +kernel
theorem dSt_receive_17 : decode cSt_receive 17 = .ok (.goto 8, 3) := by decide +kernel
theorem dSt_receive_20 : decode cSt_receive 20 = .ok (.aload_n 0, 1) := by decide +kernel
theorem dSt_receive_21 : decode cSt_receive 21 = .ok (.iload_n 2, 1) := by decide +kernel
theorem dSt_receive_22 : decode cSt_receive 22 = .ok (.invokevirtual 48, 3) := by decide +kernel
theorem dSt_receive_25 : decode cSt_receive 25 = .ok (.return_, 1) := by decide +kernel
theorem dTk_detail_0 : decode cTk_detail 0 = .ok (.aload_n 0, 1) := by decide +kernel
theorem dTk_detail_1 : decode cTk_detail 1 = .ok (.getfield 11, 3) := by decide +kernel
theorem dTk_detail_4 : decode cTk_detail 4 = .ok (.iload_n 1, 1) := by decide +kernel
theorem dTk_detail_5 : decode cTk_detail 5 = .ok (.aaload, 1) := by decide +kernel
theorem dTk_detail_6 : decode cTk_detail 6 = .ok (.iload_n 1, 1) := by decide +kernel
theorem dTk_detail_7 : decode cTk_detail 7 = .ok (.iaload, 1) := by decide +kernel
theorem dTk_detail_8 : decode cTk_detail 8 = .ok (.ireturn, 1) := by decide +kernel
theorem dTk_ask_0 : decode cTk_ask 0 = .ok (.aload_n 0, 1) := by decide +kernel
theorem dTk_ask_1 : decode cTk_ask 1 = .ok (.getfield 29, 3) := by decide +kernel
theorem dTk_ask_4 : decode cTk_ask 4 = .ok (.iload_n 1, 1) := by decide +kernel
theorem dTk_ask_5 : decode cTk_ask 5 = .ok (.if_icmp .ne 9, 3) := by decide +kernel
theorem dTk_ask_8 : decode cTk_ask 8 = .ok (.aload_n 0, 1) := by decide +kernel
theorem dTk_ask_9 : decode cTk_ask 9 = .ok (.iload_n 1, 1) := by decide +kernel
theorem dTk_ask_10 : decode cTk_ask 10 = .ok (.invokevirtual 33, 3) := by decide +kernel
theorem dTk_ask_13 : decode cTk_ask 13 = .ok (.return_, 1) := by decide +kernel
theorem dTk_ask_14 : decode cTk_ask 14 = .ok (.aload_n 0, 1) := by decide +kernel
theorem dTk_ask_15 : decode cTk_ask 15 = .ok (.getfield 11, 3) := by decide +kernel
theorem dTk_ask_18 : decode cTk_ask 18 = .ok (.iload_n 1, 1) := by decide +kernel
theorem dTk_ask_19 : decode cTk_ask 19 = .ok (.aaload, 1) := by decide +kernel
theorem dTk_ask_20 : decode cTk_ask 20 = .ok (.iload_n 1, 1) := by decide +kernel
theorem dTk_ask_21 : decode cTk_ask 21 = .ok (.dup2, 1) := by decide +kernel
theorem dTk_ask_22 : decode cTk_ask 22 = .ok (.iaload, 1) := by decide +kernel
theorem dTk_ask_23 : decode cTk_ask 23 = .ok (.iconst 1, 1) := by decide +kernel
theorem dTk_ask_24 : decode cTk_ask 24 = .ok (.iadd, 1) := by decide +kernel
theorem dTk_ask_25 : decode cTk_ask 25 = .ok (.iastore, 1) := by decide +kernel
theorem dTk_ask_26 : decode cTk_ask 26 = .ok (.aload_n 0, 1) := by decide +kernel
theorem dTk_ask_27 : decode cTk_ask 27 = .ok (.getfield 37, 3) := by decide +kernel
theorem dTk_ask_30 : decode cTk_ask 30 = .ok (.iload_n 1, 1) := by decide +kernel
theorem dTk_ask_31 : decode cTk_ask 31 = .ok (.iconst 1, 1) := by decide +kernel
theorem dTk_ask_32 : decode cTk_ask 32 = .ok (.iastore, 1) := by decide +kernel
theorem dTk_ask_33 : decode cTk_ask 33 = .ok (.aload_n 0, 1) := by decide +kernel
theorem dTk_ask_34 : decode cTk_ask 34 = .ok (.iload_n 1, 1) := by decide +kernel
theorem dTk_ask_35 : decode cTk_ask 35 = .ok (.iconst 0, 1) := by decide +kernel
theorem dTk_ask_36 : decode cTk_ask 36 = .ok (.aload_n 0, 1) := by decide +kernel
theorem dTk_ask_37 : decode cTk_ask 37 = .ok (.getfield 11, 3) := by decide +kernel
theorem dTk_ask_40 : decode cTk_ask 40 = .ok (.iload_n 1, 1) := by decide +kernel
theorem dTk_ask_41 : decode cTk_ask 41 = .ok (.aaload, 1) := by decide +kernel
theorem dTk_ask_42 : decode cTk_ask 42 = .ok (.iload_n 1, 1) := by decide +kernel
theorem dTk_ask_43 : decode cTk_ask 43 = .ok (.iaload, 1) := by decide +kernel
theorem dTk_ask_44 : decode cTk_ask 44 = .ok (.invokevirtual 40, 3) := by decide +kernel
theorem dTk_ask_47 : decode cTk_ask 47 = .ok (.return_, 1) := by decide +kernel
theorem dTk_isOwed_0 : decode cTk_isOwed 0 = .ok (.aload_n 0, 1) := by decide +kernel
theorem dTk_isOwed_1 : decode cTk_isOwed 1 = .ok (.getfield 11, 3) := by decide +kernel
theorem dTk_isOwed_4 : decode cTk_isOwed 4 = .ok (.iload_n 1, 1) := by decide +kernel
theorem dTk_isOwed_5 : decode cTk_isOwed 5 = .ok (.aaload, 1) := by decide +kernel
theorem dTk_isOwed_6 : decode cTk_isOwed 6 = .ok (.iload_n 2, 1) := by decide +kernel
theorem dTk_isOwed_7 : decode cTk_isOwed 7 = .ok (.iaload, 1) := by decide +kernel
theorem dTk_isOwed_8 : decode cTk_isOwed 8 = .ok (.aload_n 0, 1) := by decide +kernel
theorem dTk_isOwed_9 : decode cTk_isOwed 9 = .ok (.getfield 16, 3) := by decide +kernel
theorem dTk_isOwed_12 : decode cTk_isOwed 12 = .ok (.iload_n 2, 1) := by decide +kernel
theorem dTk_isOwed_13 : decode cTk_isOwed 13 = .ok (.iaload, 1) := by decide +kernel
theorem dTk_isOwed_14 : decode cTk_isOwed 14 = .ok (.iconst 1, 1) := by decide +kernel
theorem dTk_isOwed_15 : decode cTk_isOwed 15 = .ok (.iadd, 1) := by decide +kernel
theorem dTk_isOwed_16 : decode cTk_isOwed 16 = .ok (.if_icmp .ne 7, 3) := by decide +kernel
theorem dTk_isOwed_19 : decode cTk_isOwed 19 = .ok (.iconst 1, 1) := by decide +kernel
theorem dTk_isOwed_20 : decode cTk_isOwed 20 = .ok (.goto 4, 3) := by decide +kernel
theorem dTk_isOwed_23 : decode cTk_isOwed 23 = .ok (.iconst 0, 1) := by decide +kernel
theorem dTk_isOwed_24 : decode cTk_isOwed 24 = .ok (.ireturn, 1) := by decide +kernel
theorem dTk_passToken_0 : decode cTk_passToken 0 = .ok (.aload_n 0, 1) := by decide +kernel
theorem dTk_passToken_1 : decode cTk_passToken 1 = .ok (.iconst (-1), 1) := by decide +kernel
theorem dTk_passToken_2 : decode cTk_passToken 2 = .ok (.putfield 29, 3) := by decide +kernel
theorem dTk_passToken_5 : decode cTk_passToken 5 = .ok (.aload_n 0, 1) := by decide +kernel
theorem dTk_passToken_6 : decode cTk_passToken 6 = .ok (.iload_n 1, 1) := by decide +kernel
theorem dTk_passToken_7 : decode cTk_passToken 7 = .ok (.iload_n 2, 1) := by decide +kernel
theorem dTk_passToken_8 : decode cTk_passToken 8 = .ok (.iconst 1, 1) := by decide +kernel
theorem dTk_passToken_9 : decode cTk_passToken 9 = .ok (.iconst 0, 1) := by decide +kernel
theorem dTk_passToken_10 : decode cTk_passToken 10 = .ok (.invokevirtual 84, 3) := by decide +kernel
theorem dTk_passToken_13 : decode cTk_passToken 13 = .ok (.return_, 1) := by decide +kernel
theorem dTk_release_0 : decode cTk_release 0 = .ok (.aload_n 0, 1) := by decide +kernel
theorem dTk_release_1 : decode cTk_release 1 = .ok (.getfield 37, 3) := by decide +kernel
theorem dTk_release_4 : decode cTk_release 4 = .ok (.iload_n 1, 1) := by decide +kernel
theorem dTk_release_5 : decode cTk_release 5 = .ok (.iconst 0, 1) := by decide +kernel
theorem dTk_release_6 : decode cTk_release 6 = .ok (.iastore, 1) := by decide +kernel
theorem dTk_release_7 : decode cTk_release 7 = .ok (.aload_n 0, 1) := by decide +kernel
theorem dTk_release_8 : decode cTk_release 8 = .ok (.getfield 16, 3) := by decide +kernel
theorem dTk_release_11 : decode cTk_release 11 = .ok (.iload_n 1, 1) := by decide +kernel
theorem dTk_release_12 : decode cTk_release 12 = .ok (.aload_n 0, 1) := by decide +kernel
theorem dTk_release_13 : decode cTk_release 13 = .ok (.getfield 11, 3) := by decide +kernel
theorem dTk_release_16 : decode cTk_release 16 = .ok (.iload_n 1, 1) := by decide +kernel
theorem dTk_release_17 : decode cTk_release 17 = .ok (.aaload, 1) := by decide +kernel
theorem dTk_release_18 : decode cTk_release 18 = .ok (.iload_n 1, 1) := by decide +kernel
theorem dTk_release_19 : decode cTk_release 19 = .ok (.iaload, 1) := by decide +kernel
theorem dTk_release_20 : decode cTk_release 20 = .ok (.iastore, 1) := by decide +kernel
theorem dTk_release_21 : decode cTk_release 21 = .ok (.iconst 0, 1) := by decide +kernel
theorem dTk_release_22 : decode cTk_release 22 = .ok (.istore_n 2, 1) := by decide +kernel
theorem dTk_release_23 : decode cTk_release 23 = .ok (.iload_n 2, 1) := by decide +kernel
theorem dTk_release_24 : decode cTk_release 24 = .ok (.iconst 4, 1) := by decide +kernel
theorem dTk_release_25 : decode cTk_release 25 = .ok (.if_icmp .ge 37, 3) := by decide +kernel
theorem dTk_release_28 : decode cTk_release 28 = .ok (.aload_n 0, 1) := by decide +kernel
theorem dTk_release_29 : decode cTk_release 29 = .ok (.getfield 25, 3) := by decide +kernel
theorem dTk_release_32 : decode cTk_release 32 = .ok (.iload_n 2, 1) := by decide +kernel
theorem dTk_release_33 : decode cTk_release 33 = .ok (.invokevirtual 44, 3) := by decide +kernel
theorem dTk_release_36 : decode cTk_release 36 = .ok (.ifCond .ne 20, 3) := by decide +kernel
theorem dTk_release_39 : decode cTk_release 39 = .ok (.aload_n 0, 1) := by decide +kernel
theorem dTk_release_40 : decode cTk_release 40 = .ok (.iload_n 1, 1) := by decide +kernel
theorem dTk_release_41 : decode cTk_release 41 = .ok (.iload_n 2, 1) := by decide +kernel
theorem dTk_release_42 : decode cTk_release 42 = .ok (.invokevirtual 48, 3) := by decide +kernel
theorem dTk_release_45 : decode cTk_release 45 = .ok (.ifCond .eq 11, 3) := by decide +kernel
theorem dTk_release_48 : decode cTk_release 48 = .ok (.aload_n 0, 1) := by decide +kernel
theorem dTk_release_49 : decode cTk_release 49 = .ok (.getfield 25, 3) := by decide +kernel
theorem dTk_release_52 : decode cTk_release 52 = .ok (.iload_n 2, 1) := by decide +kernel
theorem dTk_release_53 : decode cTk_release 53 = .ok (.invokevirtual 52, 3) := by decide +kernel
theorem dTk_release_56 : decode cTk_release 56 = .ok (.iinc 2 1, 3) := by decide +kernel
theorem dTk_release_59 : decode cTk_release 59 = .ok (.goto (-36), 3) := by decide +kernel
theorem dTk_release_62 : decode cTk_release 62 = .ok (.aload_n 0, 1) := by decide +kernel
theorem dTk_release_63 : decode cTk_release 63 = .ok (.getfield 25, 3) := by decide +kernel
theorem dTk_release_66 : decode cTk_release 66 = .ok (.invokevirtual 55, 3) := by decide +kernel
theorem dTk_release_69 : decode cTk_release 69 = .ok (.ifCond .ne 15, 3) := by decide +kernel
theorem dTk_release_72 : decode cTk_release 72 = .ok (.aload_n 0, 1) := by decide +kernel
theorem dTk_release_73 : decode cTk_release 73 = .ok (.iload_n 1, 1) := by decide +kernel
theorem dTk_release_74 : decode cTk_release 74 = .ok (.aload_n 0, 1) := by decide +kernel
theorem dTk_release_75 : decode cTk_release 75 = .ok (.getfield 25, 3) := by decide +kernel
theorem dTk_release_78 : decode cTk_release 78 = .ok (.invokevirtual 59, 3) := by decide +kernel
theorem dTk_release_81 : decode cTk_release 81 = .ok (.invokevirtual 63, 3) := by decide +kernel
theorem dTk_release_84 : decode cTk_release 84 = .ok (.return_, 1) := by decide +kernel
theorem dTk_takeRequest_0 : decode cTk_takeRequest 0 = .ok (.aload_n 0, 1) := by decide +kernel
theorem dTk_takeRequest_1 : decode cTk_takeRequest 1 = .ok (.getfield 11, 3) := by decide +kernel
theorem dTk_takeRequest_4 : decode cTk_takeRequest 4 = .ok (.iload_n 2, 1) := by decide +kernel
theorem dTk_takeRequest_5 : decode cTk_takeRequest 5 = .ok (.aaload, 1) := by decide +kernel
theorem dTk_takeRequest_6 : decode cTk_takeRequest 6 = .ok (.iload_n 1, 1) := by decide +kernel
theorem dTk_takeRequest_7 : decode cTk_takeRequest 7 = .ok (.aload_n 0, 1) := by decide +kernel
theorem dTk_takeRequest_8 : decode cTk_takeRequest 8 = .ok (.getfield 11, 3) := by decide +kernel
theorem dTk_takeRequest_11 : decode cTk_takeRequest 11 = .ok (.iload_n 2, 1) := by decide +kernel
theorem dTk_takeRequest_12 : decode cTk_takeRequest 12 = .ok (.aaload, 1) := by decide +kernel
theorem dTk_takeRequest_13 : decode cTk_takeRequest 13 = .ok (.iload_n 1, 1) := by decide +kernel
theorem dTk_takeRequest_14 : decode cTk_takeRequest 14 = .ok (.iaload, 1) := by decide +kernel
theorem dTk_takeRequest_15 : decode cTk_takeRequest 15 = .ok (.iload_n 3, 1) := by decide +kernel
theorem dTk_takeRequest_16 : decode cTk_takeRequest 16 = .ok (.invokestatic 78, 3) := by decide +kernel
theorem dTk_takeRequest_19 : decode cTk_takeRequest 19 = .ok (.iastore, 1) := by decide +kernel
theorem dTk_takeRequest_20 : decode cTk_takeRequest 20 = .ok (.aload_n 0, 1) := by decide +kernel
theorem dTk_takeRequest_21 : decode cTk_takeRequest 21 = .ok (.getfield 29, 3) := by decide +kernel
theorem dTk_takeRequest_24 : decode cTk_takeRequest 24 = .ok (.iload_n 2, 1) := by decide +kernel
theorem dTk_takeRequest_25 : decode cTk_takeRequest 25 = .ok (.if_icmp .ne 27, 3) := by decide +kernel
theorem dTk_takeRequest_28 : decode cTk_takeRequest 28 = .ok (.aload_n 0, 1) := by decide +kernel
theorem dTk_takeRequest_29 : decode cTk_takeRequest 29 = .ok (.getfield 37, 3) := by decide +kernel
theorem dTk_takeRequest_32 : decode cTk_takeRequest 32 = .ok (.iload_n 2, 1) := by decide +kernel
theorem dTk_takeRequest_33 : decode cTk_takeRequest 33 = .ok (.iaload, 1) := by decide +kernel
theorem dTk_takeRequest_34 : decode cTk_takeRequest 34 = .ok (.ifCond .ne 18, 3) := by decide +kernel
theorem dTk_takeRequest_37 : decode cTk_takeRequest 37 = .ok (.aload_n 0, 1) := by decide +kernel
theorem dTk_takeRequest_38 : decode cTk_takeRequest 38 = .ok (.iload_n 2, 1) := by decide +kernel
theorem dTk_takeRequest_39 : decode cTk_takeRequest 39 = .ok (.iload_n 1, 1) := by decide +kernel
theorem dTk_takeRequest_40 : decode cTk_takeRequest 40 = .ok (.invokevirtual 48, 3) := by decide +kernel
theorem dTk_takeRequest_43 : decode cTk_takeRequest 43 = .ok (.ifCond .eq 9, 3) := by decide +kernel
theorem dTk_takeRequest_46 : decode cTk_takeRequest 46 = .ok (.aload_n 0, 1) := by decide +kernel
theorem dTk_takeRequest_47 : decode cTk_takeRequest 47 = .ok (.iload_n 2, 1) := by decide +kernel
theorem dTk_takeRequest_48 : decode cTk_takeRequest 48 = .ok (.iload_n 1, 1) := by decide +kernel
theorem dTk_takeRequest_49 : decode cTk_takeRequest 49 = .ok (.invokevirtual 63, 3) := by decide +kernel
theorem dTk_takeRequest_52 : decode cTk_takeRequest 52 = .ok (.return_, 1) := by decide +kernel
theorem dTk_receive_0 : decode cTk_receive 0 = .ok (.aload_n 3, 1) := by decide +kernel
theorem dTk_receive_1 : decode cTk_receive 1 = .ok (.getfield 67, 3) := by decide +kernel
theorem dTk_receive_4 : decode cTk_receive 4 = .ok (.ifCond .ne 16, 3) := by decide +kernel
theorem dTk_receive_7 : decode cTk_receive 7 = .ok (.aload_n 0, 1) := by decide +kernel
theorem dTk_receive_8 : decode cTk_receive 8 = .ok (.iload_n 1, 1) := by decide +kernel
theorem dTk_receive_9 : decode cTk_receive 9 = .ok (.iload_n 2, 1) := by decide +kernel
theorem dTk_receive_10 : decode cTk_receive 10 = .ok (.aload_n 3, 1) := by decide +kernel
theorem dTk_receive_11 : decode cTk_receive 11 = .ok (.getfield 72, 3) := by decide +kernel
theorem dTk_receive_14 : decode cTk_receive 14 = .ok (.invokevirtual 75, 3) := by decide +kernel
theorem dTk_receive_17 : decode cTk_receive 17 = .ok (.goto 13, 3) := by decide +kernel
theorem dTk_receive_20 : decode cTk_receive 20 = .ok (.aload_n 0, 1) := by decide +kernel
theorem dTk_receive_21 : decode cTk_receive 21 = .ok (.iload_n 2, 1) := by decide +kernel
theorem dTk_receive_22 : decode cTk_receive 22 = .ok (.putfield 29, 3) := by decide +kernel
theorem dTk_receive_25 : decode cTk_receive 25 = .ok (.aload_n 0, 1) := by decide +kernel
theorem dTk_receive_26 : decode cTk_receive 26 = .ok (.iload_n 2, 1) := by decide +kernel
theorem dTk_receive_27 : decode cTk_receive 27 = .ok (.invokevirtual 33, 3) := by decide +kernel
theorem dTk_receive_30 : decode cTk_receive 30 = .ok (.return_, 1) := by decide +kernel
theorem dTr_detail_0 : decode cTr_detail 0 = .ok (.aload_n 0, 1) := by decide +kernel
theorem dTr_detail_1 : decode cTr_detail 1 = .ok (.getfield 20, 3) := by decide +kernel
theorem dTr_detail_4 : decode cTr_detail 4 = .ok (.iload_n 1, 1) := by decide +kernel
theorem dTr_detail_5 : decode cTr_detail 5 = .ok (.iaload, 1) := by decide +kernel
theorem dTr_detail_6 : decode cTr_detail 6 = .ok (.ireturn, 1) := by decide +kernel
theorem dTr_serve_0 : decode cTr_serve 0 = .ok (.aload_n 0, 1) := by decide +kernel
theorem dTr_serve_1 : decode cTr_serve 1 = .ok (.getfield 29, 3) := by decide +kernel
theorem dTr_serve_4 : decode cTr_serve 4 = .ok (.iload_n 1, 1) := by decide +kernel
theorem dTr_serve_5 : decode cTr_serve 5 = .ok (.iconst 0, 1) := by decide +kernel
theorem dTr_serve_6 : decode cTr_serve 6 = .ok (.bastore, 1) := by decide +kernel
theorem dTr_serve_7 : decode cTr_serve 7 = .ok (.iload_n 2, 1) := by decide +kernel
theorem dTr_serve_8 : decode cTr_serve 8 = .ok (.iload_n 1, 1) := by decide +kernel
theorem dTr_serve_9 : decode cTr_serve 9 = .ok (.if_icmp .ne 11, 3) := by decide +kernel
theorem dTr_serve_12 : decode cTr_serve 12 = .ok (.aload_n 0, 1) := by decide +kernel
theorem dTr_serve_13 : decode cTr_serve 13 = .ok (.iload_n 1, 1) := by decide +kernel
theorem dTr_serve_14 : decode cTr_serve 14 = .ok (.invokevirtual 68, 3) := by decide +kernel
theorem dTr_serve_17 : decode cTr_serve 17 = .ok (.goto 18, 3) := by decide +kernel
theorem dTr_serve_20 : decode cTr_serve 20 = .ok (.aload_n 0, 1) := by decide +kernel
theorem dTr_serve_21 : decode cTr_serve 21 = .ok (.getfield 20, 3) := by decide +kernel
theorem dTr_serve_24 : decode cTr_serve 24 = .ok (.iload_n 1, 1) := by decide +kernel
theorem dTr_serve_25 : decode cTr_serve 25 = .ok (.iload_n 2, 1) := by decide +kernel
theorem dTr_serve_26 : decode cTr_serve 26 = .ok (.iastore, 1) := by decide +kernel
theorem dTr_serve_27 : decode cTr_serve 27 = .ok (.aload_n 0, 1) := by decide +kernel
theorem dTr_serve_28 : decode cTr_serve 28 = .ok (.iload_n 1, 1) := by decide +kernel
theorem dTr_serve_29 : decode cTr_serve 29 = .ok (.iload_n 2, 1) := by decide +kernel
theorem dTr_serve_30 : decode cTr_serve 30 = .ok (.iconst 1, 1) := by decide +kernel
theorem dTr_serve_31 : decode cTr_serve 31 = .ok (.iconst 0, 1) := by decide +kernel
theorem dTr_serve_32 : decode cTr_serve 32 = .ok (.invokevirtual 64, 3) := by decide +kernel
theorem dTr_serve_35 : decode cTr_serve 35 = .ok (.return_, 1) := by decide +kernel
theorem dTr_goOn_0 : decode cTr_goOn 0 = .ok (.aload_n 0, 1) := by decide +kernel
theorem dTr_goOn_1 : decode cTr_goOn 1 = .ok (.getfield 20, 3) := by decide +kernel
theorem dTr_goOn_4 : decode cTr_goOn 4 = .ok (.iload_n 1, 1) := by decide +kernel
theorem dTr_goOn_5 : decode cTr_goOn 5 = .ok (.iaload, 1) := by decide +kernel
theorem dTr_goOn_6 : decode cTr_goOn 6 = .ok (.iload_n 1, 1) := by decide +kernel
theorem dTr_goOn_7 : decode cTr_goOn 7 = .ok (.if_icmp .ne 39, 3) := by decide +kernel
theorem dTr_goOn_10 : decode cTr_goOn 10 = .ok (.aload_n 0, 1) := by decide +kernel
theorem dTr_goOn_11 : decode cTr_goOn 11 = .ok (.getfield 36, 3) := by decide +kernel
theorem dTr_goOn_14 : decode cTr_goOn 14 = .ok (.iload_n 1, 1) := by decide +kernel
theorem dTr_goOn_15 : decode cTr_goOn 15 = .ok (.iaload, 1) := by decide +kernel
theorem dTr_goOn_16 : decode cTr_goOn 16 = .ok (.iconst 2, 1) := by decide +kernel
theorem dTr_goOn_17 : decode cTr_goOn 17 = .ok (.if_icmp .eq 29, 3) := by decide +kernel
theorem dTr_goOn_20 : decode cTr_goOn 20 = .ok (.aload_n 0, 1) := by decide +kernel
theorem dTr_goOn_21 : decode cTr_goOn 21 = .ok (.getfield 25, 3) := by decide +kernel
theorem dTr_goOn_24 : decode cTr_goOn 24 = .ok (.iload_n 1, 1) := by decide +kernel
theorem dTr_goOn_25 : decode cTr_goOn 25 = .ok (.aaload, 1) := by decide +kernel
theorem dTr_goOn_26 : decode cTr_goOn 26 = .ok (.invokevirtual 52, 3) := by decide +kernel
theorem dTr_goOn_29 : decode cTr_goOn 29 = .ok (.ifCond .ne 17, 3) := by decide +kernel
theorem dTr_goOn_32 : decode cTr_goOn 32 = .ok (.aload_n 0, 1) := by decide +kernel
theorem dTr_goOn_33 : decode cTr_goOn 33 = .ok (.iload_n 1, 1) := by decide +kernel
theorem dTr_goOn_34 : decode cTr_goOn 34 = .ok (.aload_n 0, 1) := by decide +kernel
theorem dTr_goOn_35 : decode cTr_goOn 35 = .ok (.getfield 25, 3) := by decide +kernel
theorem dTr_goOn_38 : decode cTr_goOn 38 = .ok (.iload_n 1, 1) := by decide +kernel
theorem dTr_goOn_39 : decode cTr_goOn 39 = .ok (.aaload, 1) := by decide +kernel
theorem dTr_goOn_40 : decode cTr_goOn 40 = .ok (.invokevirtual 56, 3) := by decide +kernel
theorem dTr_goOn_43 : decode cTr_goOn 43 = .ok (.invokevirtual 60, 3) := by decide +kernel
theorem dTr_goOn_46 : decode cTr_goOn 46 = .ok (.aload_n 0, 1) := by decide +kernel
theorem dTr_goOn_47 : decode cTr_goOn 47 = .ok (.getfield 20, 3) := by decide +kernel
theorem dTr_goOn_50 : decode cTr_goOn 50 = .ok (.iload_n 1, 1) := by decide +kernel
theorem dTr_goOn_51 : decode cTr_goOn 51 = .ok (.iaload, 1) := by decide +kernel
theorem dTr_goOn_52 : decode cTr_goOn 52 = .ok (.iload_n 1, 1) := by decide +kernel
theorem dTr_goOn_53 : decode cTr_goOn 53 = .ok (.if_icmp .eq 44, 3) := by decide +kernel
theorem dTr_goOn_56 : decode cTr_goOn 56 = .ok (.aload_n 0, 1) := by decide +kernel
theorem dTr_goOn_57 : decode cTr_goOn 57 = .ok (.getfield 25, 3) := by decide +kernel
theorem dTr_goOn_60 : decode cTr_goOn 60 = .ok (.iload_n 1, 1) := by decide +kernel
theorem dTr_goOn_61 : decode cTr_goOn 61 = .ok (.aaload, 1) := by decide +kernel
theorem dTr_goOn_62 : decode cTr_goOn 62 = .ok (.invokevirtual 52, 3) := by decide +kernel
theorem dTr_goOn_65 : decode cTr_goOn 65 = .ok (.ifCond .ne 32, 3) := by decide +kernel
theorem dTr_goOn_68 : decode cTr_goOn 68 = .ok (.aload_n 0, 1) := by decide +kernel
theorem dTr_goOn_69 : decode cTr_goOn 69 = .ok (.getfield 29, 3) := by decide +kernel
theorem dTr_goOn_72 : decode cTr_goOn 72 = .ok (.iload_n 1, 1) := by decide +kernel
theorem dTr_goOn_73 : decode cTr_goOn 73 = .ok (.baload, 1) := by decide +kernel
theorem dTr_goOn_74 : decode cTr_goOn 74 = .ok (.ifCond .ne 23, 3) := by decide +kernel
theorem dTr_goOn_77 : decode cTr_goOn 77 = .ok (.aload_n 0, 1) := by decide +kernel
theorem dTr_goOn_78 : decode cTr_goOn 78 = .ok (.getfield 29, 3) := by decide +kernel
theorem dTr_goOn_81 : decode cTr_goOn 81 = .ok (.iload_n 1, 1) := by decide +kernel
theorem dTr_goOn_82 : decode cTr_goOn 82 = .ok (.iconst 1, 1) := by decide +kernel
theorem dTr_goOn_83 : decode cTr_goOn 83 = .ok (.bastore, 1) := by decide +kernel
theorem dTr_goOn_84 : decode cTr_goOn 84 = .ok (.aload_n 0, 1) := by decide +kernel
theorem dTr_goOn_85 : decode cTr_goOn 85 = .ok (.iload_n 1, 1) := by decide +kernel
theorem dTr_goOn_86 : decode cTr_goOn 86 = .ok (.aload_n 0, 1) := by decide +kernel
theorem dTr_goOn_87 : decode cTr_goOn 87 = .ok (.getfield 20, 3) := by decide +kernel
theorem dTr_goOn_90 : decode cTr_goOn 90 = .ok (.iload_n 1, 1) := by decide +kernel
theorem dTr_goOn_91 : decode cTr_goOn 91 = .ok (.iaload, 1) := by decide +kernel
theorem dTr_goOn_92 : decode cTr_goOn 92 = .ok (.iconst 0, 1) := by decide +kernel
theorem dTr_goOn_93 : decode cTr_goOn 93 = .ok (.iconst 0, 1) := by decide +kernel
theorem dTr_goOn_94 : decode cTr_goOn 94 = .ok (.invokevirtual 64, 3) := by decide +kernel
theorem dTr_goOn_97 : decode cTr_goOn 97 = .ok (.return_, 1) := by decide +kernel
theorem dTr_ask_0 : decode cTr_ask 0 = .ok (.aload_n 0, 1) := by decide +kernel
theorem dTr_ask_1 : decode cTr_ask 1 = .ok (.getfield 36, 3) := by decide +kernel
theorem dTr_ask_4 : decode cTr_ask 4 = .ok (.iload_n 1, 1) := by decide +kernel
theorem dTr_ask_5 : decode cTr_ask 5 = .ok (.iconst 1, 1) := by decide +kernel
theorem dTr_ask_6 : decode cTr_ask 6 = .ok (.iastore, 1) := by decide +kernel
theorem dTr_ask_7 : decode cTr_ask 7 = .ok (.aload_n 0, 1) := by decide +kernel
theorem dTr_ask_8 : decode cTr_ask 8 = .ok (.getfield 25, 3) := by decide +kernel
theorem dTr_ask_11 : decode cTr_ask 11 = .ok (.iload_n 1, 1) := by decide +kernel
theorem dTr_ask_12 : decode cTr_ask 12 = .ok (.aaload, 1) := by decide +kernel
theorem dTr_ask_13 : decode cTr_ask 13 = .ok (.iload_n 1, 1) := by decide +kernel
theorem dTr_ask_14 : decode cTr_ask 14 = .ok (.invokevirtual 39, 3) := by decide +kernel
theorem dTr_ask_17 : decode cTr_ask 17 = .ok (.aload_n 0, 1) := by decide +kernel
theorem dTr_ask_18 : decode cTr_ask 18 = .ok (.iload_n 1, 1) := by decide +kernel
theorem dTr_ask_19 : decode cTr_ask 19 = .ok (.invokevirtual 43, 3) := by decide +kernel
theorem dTr_ask_22 : decode cTr_ask 22 = .ok (.return_, 1) := by decide +kernel
theorem dTr_release_0 : decode cTr_release 0 = .ok (.aload_n 0, 1) := by decide +kernel
theorem dTr_release_1 : decode cTr_release 1 = .ok (.getfield 36, 3) := by decide +kernel
theorem dTr_release_4 : decode cTr_release 4 = .ok (.iload_n 1, 1) := by decide +kernel
theorem dTr_release_5 : decode cTr_release 5 = .ok (.iconst 0, 1) := by decide +kernel
theorem dTr_release_6 : decode cTr_release 6 = .ok (.iastore, 1) := by decide +kernel
theorem dTr_release_7 : decode cTr_release 7 = .ok (.aload_n 0, 1) := by decide +kernel
theorem dTr_release_8 : decode cTr_release 8 = .ok (.iload_n 1, 1) := by decide +kernel
theorem dTr_release_9 : decode cTr_release 9 = .ok (.invokevirtual 43, 3) := by decide +kernel
theorem dTr_release_12 : decode cTr_release 12 = .ok (.return_, 1) := by decide +kernel
theorem dTr_receive_0 : decode cTr_receive 0 = .ok (.aload_n 3, 1) := by decide +kernel
theorem dTr_receive_1 : decode cTr_receive 1 = .ok (.getfield 46, 3) := by decide +kernel
theorem dTr_receive_4 : decode cTr_receive 4 = .ok (.ifCond .ne 16, 3) := by decide +kernel
theorem dTr_receive_7 : decode cTr_receive 7 = .ok (.aload_n 0, 1) := by decide +kernel
theorem dTr_receive_8 : decode cTr_receive 8 = .ok (.getfield 25, 3) := by decide +kernel
theorem dTr_receive_11 : decode cTr_receive 11 = .ok (.iload_n 2, 1) := by decide +kernel
theorem dTr_receive_12 : decode cTr_receive 12 = .ok (.aaload, 1) := by decide +kernel
theorem dTr_receive_13 : decode cTr_receive 13 = .ok (.iload_n 1, 1) := by decide +kernel
theorem dTr_receive_14 : decode cTr_receive 14 = .ok (.invokevirtual 39, 3) := by decide +kernel
theorem dTr_receive_17 : decode cTr_receive 17 = .ok (.goto 10, 3) := by decide +kernel
theorem dTr_receive_20 : decode cTr_receive 20 = .ok (.aload_n 0, 1) := by decide +kernel
theorem dTr_receive_21 : decode cTr_receive 21 = .ok (.getfield 20, 3) := by decide +kernel
theorem dTr_receive_24 : decode cTr_receive 24 = .ok (.iload_n 2, 1) := by decide +kernel
theorem dTr_receive_25 : decode cTr_receive 25 = .ok (.iload_n 2, 1) := by decide +kernel
theorem dTr_receive_26 : decode cTr_receive 26 = .ok (.iastore, 1) := by decide +kernel
theorem dTr_receive_27 : decode cTr_receive 27 = .ok (.aload_n 0, 1) := by decide +kernel
theorem dTr_receive_28 : decode cTr_receive 28 = .ok (.iload_n 2, 1) := by decide +kernel
theorem dTr_receive_29 : decode cTr_receive 29 = .ok (.invokevirtual 43, 3) := by decide +kernel
theorem dTr_receive_32 : decode cTr_receive 32 = .ok (.return_, 1) := by decide +kernel
theorem dEl_condition_0 : decode cEl_condition 0 = .ok (.aload_n 0, 1) := by decide +kernel
theorem dEl_condition_1 : decode cEl_condition 1 = .ok (.getfield 19, 3) := by decide +kernel
theorem dEl_condition_4 : decode cEl_condition 4 = .ok (.iload_n 1, 1) := by decide +kernel
theorem dEl_condition_5 : decode cEl_condition 5 = .ok (.iaload, 1) := by decide +kernel
theorem dEl_condition_6 : decode cEl_condition 6 = .ok (.ireturn, 1) := by decide +kernel
theorem dEl_detail_0 : decode cEl_detail 0 = .ok (.aload_n 0, 1) := by decide +kernel
theorem dEl_detail_1 : decode cEl_detail 1 = .ok (.getfield 9, 3) := by decide +kernel
theorem dEl_detail_4 : decode cEl_detail 4 = .ok (.iload_n 1, 1) := by decide +kernel
theorem dEl_detail_5 : decode cEl_detail 5 = .ok (.baload, 1) := by decide +kernel
theorem dEl_detail_6 : decode cEl_detail 6 = .ok (.ifCond .eq 16, 3) := by decide +kernel
theorem dEl_detail_9 : decode cEl_detail 9 = .ok (.aload_n 0, 1) := by decide +kernel
theorem dEl_detail_10 : decode cEl_detail 10 = .ok (.getfield 15, 3) := by decide +kernel
theorem dEl_detail_13 : decode cEl_detail 13 = .ok (.iload_n 1, 1) := by decide +kernel
theorem dEl_detail_14 : decode cEl_detail 14 = .ok (.iaload, 1) := by decide +kernel
theorem dEl_detail_15 : decode cEl_detail 15 = .ok (.sipush 1000, 3) := by decide +kernel
theorem dEl_detail_18 : decode cEl_detail 18 = .ok (.iadd, 1) := by decide +kernel
theorem dEl_detail_19 : decode cEl_detail 19 = .ok (.goto 9, 3) := by decide +kernel
theorem dEl_detail_22 : decode cEl_detail 22 = .ok (.aload_n 0, 1) := by decide +kernel
theorem dEl_detail_23 : decode cEl_detail 23 = .ok (.getfield 15, 3) := by decide +kernel
theorem dEl_detail_26 : decode cEl_detail 26 = .ok (.iload_n 1, 1) := by decide +kernel
theorem dEl_detail_27 : decode cEl_detail 27 = .ok (.iaload, 1) := by decide +kernel
theorem dEl_detail_28 : decode cEl_detail 28 = .ok (.ireturn, 1) := by decide +kernel
theorem dEl_sendOn_0 : decode cEl_sendOn 0 = .ok (.aload_n 0, 1) := by decide +kernel
theorem dEl_sendOn_1 : decode cEl_sendOn 1 = .ok (.iload_n 1, 1) := by decide +kernel
theorem dEl_sendOn_2 : decode cEl_sendOn 2 = .ok (.iload_n 1, 1) := by decide +kernel
theorem dEl_sendOn_3 : decode cEl_sendOn 3 = .ok (.iconst 1, 1) := by decide +kernel
theorem dEl_sendOn_4 : decode cEl_sendOn 4 = .ok (.iadd, 1) := by decide +kernel
theorem dEl_sendOn_5 : decode cEl_sendOn 5 = .ok (.iconst 4, 1) := by decide +kernel
theorem dEl_sendOn_6 : decode cEl_sendOn 6 = .ok (.irem, 1) := by decide +kernel
theorem dEl_sendOn_7 : decode cEl_sendOn 7 = .ok (.iload_n 2, 1) := by decide +kernel
theorem dEl_sendOn_8 : decode cEl_sendOn 8 = .ok (.iload_n 3, 1) := by decide +kernel
theorem dEl_sendOn_9 : decode cEl_sendOn 9 = .ok (.invokevirtual 52, 3) := by decide +kernel
theorem dEl_sendOn_12 : decode cEl_sendOn 12 = .ok (.return_, 1) := by decide +kernel
theorem dEl_stand_0 : decode cEl_stand 0 = .ok (.aload_n 0, 1) := by decide +kernel
theorem dEl_stand_1 : decode cEl_stand 1 = .ok (.getfield 9, 3) := by decide +kernel
theorem dEl_stand_4 : decode cEl_stand 4 = .ok (.iload_n 1, 1) := by decide +kernel
theorem dEl_stand_5 : decode cEl_stand 5 = .ok (.iconst 1, 1) := by decide +kernel
theorem dEl_stand_6 : decode cEl_stand 6 = .ok (.bastore, 1) := by decide +kernel
theorem dEl_stand_7 : decode cEl_stand 7 = .ok (.aload_n 0, 1) := by decide +kernel
theorem dEl_stand_8 : decode cEl_stand 8 = .ok (.iload_n 1, 1) := by decide +kernel
theorem dEl_stand_9 : decode cEl_stand 9 = .ok (.iconst 0, 1) := by decide +kernel
theorem dEl_stand_10 : decode cEl_stand 10 = .ok (.aload_n 0, 1) := by decide +kernel
theorem dEl_stand_11 : decode cEl_stand 11 = .ok (.getfield 15, 3) := by decide +kernel
theorem dEl_stand_14 : decode cEl_stand 14 = .ok (.iload_n 1, 1) := by decide +kernel
theorem dEl_stand_15 : decode cEl_stand 15 = .ok (.iaload, 1) := by decide +kernel
theorem dEl_stand_16 : decode cEl_stand 16 = .ok (.invokevirtual 28, 3) := by decide +kernel
theorem dEl_stand_19 : decode cEl_stand 19 = .ok (.return_, 1) := by decide +kernel
theorem dEl_takeElect_0 : decode cEl_takeElect 0 = .ok (.iload_n 2, 1) := by decide +kernel
theorem dEl_takeElect_1 : decode cEl_takeElect 1 = .ok (.aload_n 0, 1) := by decide +kernel
theorem dEl_takeElect_2 : decode cEl_takeElect 2 = .ok (.getfield 15, 3) := by decide +kernel
theorem dEl_takeElect_5 : decode cEl_takeElect 5 = .ok (.iload_n 1, 1) := by decide +kernel
theorem dEl_takeElect_6 : decode cEl_takeElect 6 = .ok (.iaload, 1) := by decide +kernel
theorem dEl_takeElect_7 : decode cEl_takeElect 7 = .ok (.if_icmp .le 20, 3) := by decide +kernel
theorem dEl_takeElect_10 : decode cEl_takeElect 10 = .ok (.aload_n 0, 1) := by decide +kernel
theorem dEl_takeElect_11 : decode cEl_takeElect 11 = .ok (.getfield 9, 3) := by decide +kernel
theorem dEl_takeElect_14 : decode cEl_takeElect 14 = .ok (.iload_n 1, 1) := by decide +kernel
theorem dEl_takeElect_15 : decode cEl_takeElect 15 = .ok (.iconst 1, 1) := by decide +kernel
theorem dEl_takeElect_16 : decode cEl_takeElect 16 = .ok (.bastore, 1) := by decide +kernel
theorem dEl_takeElect_17 : decode cEl_takeElect 17 = .ok (.aload_n 0, 1) := by decide +kernel
theorem dEl_takeElect_18 : decode cEl_takeElect 18 = .ok (.iload_n 1, 1) := by decide +kernel
theorem dEl_takeElect_19 : decode cEl_takeElect 19 = .ok (.iconst 0, 1) := by decide +kernel
theorem dEl_takeElect_20 : decode cEl_takeElect 20 = .ok (.iload_n 2, 1) := by decide +kernel
theorem dEl_takeElect_21 : decode cEl_takeElect 21 = .ok (.invokevirtual 28, 3) := by decide +kernel
theorem dEl_takeElect_24 : decode cEl_takeElect 24 = .ok (.goto 51, 3) := by decide +kernel
theorem dEl_takeElect_27 : decode cEl_takeElect 27 = .ok (.iload_n 2, 1) := by decide +kernel
theorem dEl_takeElect_28 : decode cEl_takeElect 28 = .ok (.aload_n 0, 1) := by decide +kernel
theorem dEl_takeElect_29 : decode cEl_takeElect 29 = .ok (.getfield 15, 3) := by decide +kernel
theorem dEl_takeElect_32 : decode cEl_takeElect 32 = .ok (.iload_n 1, 1) := by decide +kernel
theorem dEl_takeElect_33 : decode cEl_takeElect 33 = .ok (.iaload, 1) := by decide +kernel
theorem dEl_takeElect_34 : decode cEl_takeElect 34 = .ok (.if_icmp .ne 27, 3) := by decide +kernel
theorem dEl_takeElect_37 : decode cEl_takeElect 37 = .ok (.aload_n 0, 1) := by decide +kernel
theorem dEl_takeElect_38 : decode cEl_takeElect 38 = .ok (.getfield 9, 3) := by decide +kernel
theorem dEl_takeElect_41 : decode cEl_takeElect 41 = .ok (.iload_n 1, 1) := by decide +kernel
theorem dEl_takeElect_42 : decode cEl_takeElect 42 = .ok (.iconst 0, 1) := by decide +kernel
theorem dEl_takeElect_43 : decode cEl_takeElect 43 = .ok (.bastore, 1) := by decide +kernel
theorem dEl_takeElect_44 : decode cEl_takeElect 44 = .ok (.aload_n 0, 1) := by decide +kernel
theorem dEl_takeElect_45 : decode cEl_takeElect 45 = .ok (.getfield 19, 3) := by decide +kernel
theorem dEl_takeElect_48 : decode cEl_takeElect 48 = .ok (.iload_n 1, 1) := by decide +kernel
theorem dEl_takeElect_49 : decode cEl_takeElect 49 = .ok (.iload_n 2, 1) := by decide +kernel
theorem dEl_takeElect_50 : decode cEl_takeElect 50 = .ok (.iastore, 1) := by decide +kernel
theorem dEl_takeElect_51 : decode cEl_takeElect 51 = .ok (.aload_n 0, 1) := by decide +kernel
theorem dEl_takeElect_52 : decode cEl_takeElect 52 = .ok (.iload_n 1, 1) := by decide +kernel
theorem dEl_takeElect_53 : decode cEl_takeElect 53 = .ok (.iconst 1, 1) := by decide +kernel
theorem dEl_takeElect_54 : decode cEl_takeElect 54 = .ok (.iload_n 2, 1) := by decide +kernel
theorem dEl_takeElect_55 : decode cEl_takeElect 55 = .ok (.invokevirtual 28, 3) := by decide +kernel
theorem dEl_takeElect_58 : decode cEl_takeElect 58 = .ok (.goto 17, 3) := by decide +kernel
theorem dEl_takeElect_61 : decode cEl_takeElect 61 = .ok (.aload_n 0, 1) := by decide +kernel
theorem dEl_takeElect_62 : decode cEl_takeElect 62 = .ok (.getfield 9, 3) := by decide +kernel
theorem dEl_takeElect_65 : decode cEl_takeElect 65 = .ok (.iload_n 1, 1) := by decide +kernel
theorem dEl_takeElect_66 : decode cEl_takeElect 66 = .ok (.baload, 1) := by decide +kernel
theorem dEl_takeElect_67 : decode cEl_takeElect 67 = .ok (.ifCond .ne 8, 3) := by decide +kernel
theorem dEl_takeElect_70 : decode cEl_takeElect 70 = .ok (.aload_n 0, 1) := by decide +kernel
theorem dEl_takeElect_71 : decode cEl_takeElect 71 = .ok (.iload_n 1, 1) := by decide +kernel
theorem dEl_takeElect_72 : decode cEl_takeElect 72 = .ok (.invokevirtual 48, 3) := by decide +kernel
theorem dEl_takeElect_75 : decode cEl_takeElect 75 = .ok (.return_, 1) := by decide +kernel
theorem dEl_takeLeader_0 : decode cEl_takeLeader 0 = .ok (.iload_n 2, 1) := by decide +kernel
theorem dEl_takeLeader_1 : decode cEl_takeLeader 1 = .ok (.aload_n 0, 1) := by decide +kernel
theorem dEl_takeLeader_2 : decode cEl_takeLeader 2 = .ok (.getfield 15, 3) := by decide +kernel
theorem dEl_takeLeader_5 : decode cEl_takeLeader 5 = .ok (.iload_n 1, 1) := by decide +kernel
theorem dEl_takeLeader_6 : decode cEl_takeLeader 6 = .ok (.iaload, 1) := by decide +kernel
theorem dEl_takeLeader_7 : decode cEl_takeLeader 7 = .ok (.if_icmp .eq 24, 3) := by decide +kernel
theorem dEl_takeLeader_10 : decode cEl_takeLeader 10 = .ok (.aload_n 0, 1) := by decide +kernel
theorem dEl_takeLeader_11 : decode cEl_takeLeader 11 = .ok (.getfield 19, 3) := by decide +kernel
theorem dEl_takeLeader_14 : decode cEl_takeLeader 14 = .ok (.iload_n 1, 1) := by decide +kernel
theorem dEl_takeLeader_15 : decode cEl_takeLeader 15 = .ok (.iload_n 2, 1) := by decide +kernel
theorem dEl_takeLeader_16 : decode cEl_takeLeader 16 = .ok (.iastore, 1) := by decide +kernel
theorem dEl_takeLeader_17 : decode cEl_takeLeader 17 = .ok (.aload_n 0, 1) := by decide +kernel
theorem dEl_takeLeader_18 : decode cEl_takeLeader 18 = .ok (.getfield 9, 3) := by decide +kernel
theorem dEl_takeLeader_21 : decode cEl_takeLeader 21 = .ok (.iload_n 1, 1) := by decide +kernel
theorem dEl_takeLeader_22 : decode cEl_takeLeader 22 = .ok (.iconst 0, 1) := by decide +kernel
theorem dEl_takeLeader_23 : decode cEl_takeLeader 23 = .ok (.bastore, 1) := by decide +kernel
theorem dEl_takeLeader_24 : decode cEl_takeLeader 24 = .ok (.aload_n 0, 1) := by decide +kernel
theorem dEl_takeLeader_25 : decode cEl_takeLeader 25 = .ok (.iload_n 1, 1) := by decide +kernel
theorem dEl_takeLeader_26 : decode cEl_takeLeader 26 = .ok (.iconst 1, 1) := by decide +kernel
theorem dEl_takeLeader_27 : decode cEl_takeLeader 27 = .ok (.iload_n 2, 1) := by decide +kernel
theorem dEl_takeLeader_28 : decode cEl_takeLeader 28 = .ok (.invokevirtual 28, 3) := by decide +kernel
theorem dEl_takeLeader_31 : decode cEl_takeLeader 31 = .ok (.return_, 1) := by decide +kernel
theorem dEl_receive_0 : decode cEl_receive 0 = .ok (.aload_n 3, 1) := by decide +kernel
theorem dEl_receive_1 : decode cEl_receive 1 = .ok (.getfield 32, 3) := by decide +kernel
theorem dEl_receive_4 : decode cEl_receive 4 = .ok (.ifCond .ne 15, 3) := by decide +kernel
theorem dEl_receive_7 : decode cEl_receive 7 = .ok (.aload_n 0, 1) := by decide +kernel
theorem dEl_receive_8 : decode cEl_receive 8 = .ok (.iload_n 2, 1) := by decide +kernel
theorem dEl_receive_9 : decode cEl_receive 9 = .ok (.aload_n 3, 1) := by decide +kernel
theorem dEl_receive_10 : decode cEl_receive 10 = .ok (.getfield 38, 3) := by decide +kernel
theorem dEl_receive_13 : decode cEl_receive 13 = .ok (.invokevirtual 41, 3) := by decide +kernel
theorem dEl_receive_16 : decode cEl_receive 16 = .ok (.goto 12, 3) := by decide +kernel
theorem dEl_receive_19 : decode cEl_receive 19 = .ok (.aload_n 0, 1) := by decide +kernel
theorem dEl_receive_20 : decode cEl_receive 20 = .ok (.iload_n 2, 1) := by decide +kernel
theorem dEl_receive_21 : decode cEl_receive 21 = .ok (.aload_n 3, 1) := by decide +kernel
theorem dEl_receive_22 : decode cEl_receive 22 = .ok (.getfield 38, 3) := by decide +kernel
theorem dEl_receive_25 : decode cEl_receive 25 = .ok (.invokevirtual 45, 3) := by decide +kernel
theorem dEl_receive_28 : decode cEl_receive 28 = .ok (.return_, 1) := by decide +kernel
theorem dWk_isEngaged_0 : decode cWk_isEngaged 0 = .ok (.aload_n 0, 1) := by decide +kernel
theorem dWk_isEngaged_1 : decode cWk_isEngaged 1 = .ok (.getfield 15, 3) := by decide +kernel
theorem dWk_isEngaged_4 : decode cWk_isEngaged 4 = .ok (.iload_n 1, 1) := by decide +kernel
theorem dWk_isEngaged_5 : decode cWk_isEngaged 5 = .ok (.if_icmp .eq 13, 3) := by decide +kernel
theorem dWk_isEngaged_8 : decode cWk_isEngaged 8 = .ok (.aload_n 0, 1) := by decide +kernel
theorem dWk_isEngaged_9 : decode cWk_isEngaged 9 = .ok (.getfield 19, 3) := by decide +kernel
theorem dWk_isEngaged_12 : decode cWk_isEngaged 12 = .ok (.iload_n 1, 1) := by decide +kernel
theorem dWk_isEngaged_13 : decode cWk_isEngaged 13 = .ok (.iaload, 1) := by decide +kernel
theorem dWk_isEngaged_14 : decode cWk_isEngaged 14 = .ok (.iconst (-1), 1) := by decide +kernel
theorem dWk_isEngaged_15 : decode cWk_isEngaged 15 = .ok (.if_icmp .eq 7, 3) := by decide +kernel
theorem dWk_isEngaged_18 : decode cWk_isEngaged 18 = .ok (.iconst 1, 1) := by decide +kernel
theorem dWk_isEngaged_19 : decode cWk_isEngaged 19 = .ok (.goto 4, 3) := by decide +kernel
theorem dWk_isEngaged_22 : decode cWk_isEngaged 22 = .ok (.iconst 0, 1) := by decide +kernel
theorem dWk_isEngaged_23 : decode cWk_isEngaged 23 = .ok (.ireturn, 1) := by decide +kernel
theorem dWk_condition_0 : decode cWk_condition 0 = .ok (.aload_n 0, 1) := by decide +kernel
theorem dWk_condition_1 : decode cWk_condition 1 = .ok (.getfield 9, 3) := by decide +kernel
theorem dWk_condition_4 : decode cWk_condition 4 = .ok (.iload_n 1, 1) := by decide +kernel
theorem dWk_condition_5 : decode cWk_condition 5 = .ok (.baload, 1) := by decide +kernel
theorem dWk_condition_6 : decode cWk_condition 6 = .ok (.ifCond .eq 7, 3) := by decide +kernel
theorem dWk_condition_9 : decode cWk_condition 9 = .ok (.iconst 1, 1) := by decide +kernel
theorem dWk_condition_10 : decode cWk_condition 10 = .ok (.goto 4, 3) := by decide +kernel
theorem dWk_condition_13 : decode cWk_condition 13 = .ok (.iconst 0, 1) := by decide +kernel
theorem dWk_condition_14 : decode cWk_condition 14 = .ok (.aload_n 0, 1) := by decide +kernel
theorem dWk_condition_15 : decode cWk_condition 15 = .ok (.iload_n 1, 1) := by decide +kernel
theorem dWk_condition_16 : decode cWk_condition 16 = .ok (.invokevirtual 26, 3) := by decide +kernel
theorem dWk_condition_19 : decode cWk_condition 19 = .ok (.ifCond .eq 7, 3) := by decide +kernel
theorem dWk_condition_22 : decode cWk_condition 22 = .ok (.iconst 2, 1) := by decide +kernel
theorem dWk_condition_23 : decode cWk_condition 23 = .ok (.goto 4, 3) := by decide +kernel
theorem dWk_condition_26 : decode cWk_condition 26 = .ok (.iconst 0, 1) := by decide +kernel
theorem dWk_condition_27 : decode cWk_condition 27 = .ok (.iadd, 1) := by decide +kernel
theorem dWk_condition_28 : decode cWk_condition 28 = .ok (.iconst 4, 1) := by decide +kernel
theorem dWk_condition_29 : decode cWk_condition 29 = .ok (.aload_n 0, 1) := by decide +kernel
theorem dWk_condition_30 : decode cWk_condition 30 = .ok (.getfield 23, 3) := by decide +kernel
theorem dWk_condition_33 : decode cWk_condition 33 = .ok (.iload_n 1, 1) := by decide +kernel
theorem dWk_condition_34 : decode cWk_condition 34 = .ok (.iaload, 1) := by decide +kernel
theorem dWk_condition_35 : decode cWk_condition 35 = .ok (.imul, 1) := by decide +kernel
theorem dWk_condition_36 : decode cWk_condition 36 = .ok (.iadd, 1) := by decide +kernel
theorem dWk_condition_37 : decode cWk_condition 37 = .ok (.ireturn, 1) := by decide +kernel
theorem dWk_detail_0 : decode cWk_detail 0 = .ok (.aload_n 0, 1) := by decide +kernel
theorem dWk_detail_1 : decode cWk_detail 1 = .ok (.getfield 19, 3) := by decide +kernel
theorem dWk_detail_4 : decode cWk_detail 4 = .ok (.iload_n 1, 1) := by decide +kernel
theorem dWk_detail_5 : decode cWk_detail 5 = .ok (.iaload, 1) := by decide +kernel
theorem dWk_detail_6 : decode cWk_detail 6 = .ok (.ireturn, 1) := by decide +kernel
theorem dWk_isOver_0 : decode cWk_isOver 0 = .ok (.iconst 0, 1) := by decide +kernel
theorem dWk_isOver_1 : decode cWk_isOver 1 = .ok (.istore_n 1, 1) := by decide +kernel
theorem dWk_isOver_2 : decode cWk_isOver 2 = .ok (.iload_n 1, 1) := by decide +kernel
theorem dWk_isOver_3 : decode cWk_isOver 3 = .ok (.iconst 4, 1) := by decide +kernel
theorem dWk_isOver_4 : decode cWk_isOver 4 = .ok (.if_icmp .ge 37, 3) := by decide +kernel
theorem dWk_isOver_7 : decode cWk_isOver 7 = .ok (.aload_n 0, 1) := by decide +kernel
theorem dWk_isOver_8 : decode cWk_isOver 8 = .ok (.getfield 9, 3) := by decide +kernel
theorem dWk_isOver_11 : decode cWk_isOver 11 = .ok (.iload_n 1, 1) := by decide +kernel
theorem dWk_isOver_12 : decode cWk_isOver 12 = .ok (.baload, 1) := by decide +kernel
theorem dWk_isOver_13 : decode cWk_isOver 13 = .ok (.ifCond .ne 20, 3) := by decide +kernel
theorem dWk_isOver_16 : decode cWk_isOver 16 = .ok (.aload_n 0, 1) := by decide +kernel
theorem dWk_isOver_17 : decode cWk_isOver 17 = .ok (.iload_n 1, 1) := by decide +kernel
theorem dWk_isOver_18 : decode cWk_isOver 18 = .ok (.invokevirtual 26, 3) := by decide +kernel
theorem dWk_isOver_21 : decode cWk_isOver 21 = .ok (.ifCond .ne 12, 3) := by decide +kernel
theorem dWk_isOver_24 : decode cWk_isOver 24 = .ok (.aload_n 0, 1) := by decide +kernel
theorem dWk_isOver_25 : decode cWk_isOver 25 = .ok (.getfield 23, 3) := by decide +kernel
theorem dWk_isOver_28 : decode cWk_isOver 28 = .ok (.iload_n 1, 1) := by decide +kernel
theorem dWk_isOver_29 : decode cWk_isOver 29 = .ok (.iaload, 1) := by decide +kernel
theorem dWk_isOver_30 : decode cWk_isOver 30 = .ok (.ifCond .eq 5, 3) := by decide +kernel
theorem dWk_isOver_33 : decode cWk_isOver 33 = .ok (.iconst 0, 1) := by decide +kernel
theorem dWk_isOver_34 : decode cWk_isOver 34 = .ok (.ireturn, 1) := by decide +kernel
theorem dWk_isOver_35 : decode cWk_isOver 35 = .ok (.iinc 1 1, 3) := by decide +kernel
theorem dWk_isOver_38 : decode cWk_isOver 38 = .ok (.goto (-36), 3) := by decide +kernel
theorem dWk_isOver_41 : decode cWk_isOver 41 = .ok (.iconst 1, 1) := by decide +kernel
theorem dWk_isOver_42 : decode cWk_isOver 42 = .ok (.ireturn, 1) := by decide +kernel
theorem dWk_hasMostUnanswered_0 : decode cWk_hasMostUnanswered 0 = .ok (.aload_n 0, 1) := by decide +kernel
theorem dWk_hasMostUnanswered_1 : decode cWk_hasMostUnanswered 1 = .ok (.getfield 23, 3) := by decide +kernel
theorem dWk_hasMostUnanswered_4 : decode cWk_hasMostUnanswered 4 = .ok (.iload_n 1, 1) := by decide +kernel
theorem dWk_hasMostUnanswered_5 : decode cWk_hasMostUnanswered 5 = .ok (.iaload, 1) := by decide +kernel
theorem dWk_hasMostUnanswered_6 : decode cWk_hasMostUnanswered 6 = .ok (.bipush 20, 2) := by decide +kernel
theorem dWk_hasMostUnanswered_8 : decode cWk_hasMostUnanswered 8 = .ok (.if_icmp .lt 7, 3) := by decide +kernel
theorem dWk_hasMostUnanswered_11 : decode cWk_hasMostUnanswered 11 = .ok (.iconst 1, 1) := by decide +kernel
theorem dWk_hasMostUnanswered_12 : decode cWk_hasMostUnanswered 12 = .ok (.goto 4, 3) := by decide +kernel
theorem dWk_hasMostUnanswered_15 : decode cWk_hasMostUnanswered 15 = .ok (.iconst 0, 1) := by decide +kernel
theorem dWk_hasMostUnanswered_16 : decode cWk_hasMostUnanswered 16 = .ok (.ireturn, 1) := by decide +kernel
theorem dWk_plant_0 : decode cWk_plant 0 = .ok (.aload_n 0, 1) := by decide +kernel
theorem dWk_plant_1 : decode cWk_plant 1 = .ok (.iload_n 1, 1) := by decide +kernel
theorem dWk_plant_2 : decode cWk_plant 2 = .ok (.putfield 15, 3) := by decide +kernel
theorem dWk_plant_5 : decode cWk_plant 5 = .ok (.aload_n 0, 1) := by decide +kernel
theorem dWk_plant_6 : decode cWk_plant 6 = .ok (.getfield 9, 3) := by decide +kernel
theorem dWk_plant_9 : decode cWk_plant 9 = .ok (.iload_n 1, 1) := by decide +kernel
theorem dWk_plant_10 : decode cWk_plant 10 = .ok (.iconst 1, 1) := by decide +kernel
theorem dWk_plant_11 : decode cWk_plant 11 = .ok (.bastore, 1) := by decide +kernel
theorem dWk_plant_12 : decode cWk_plant 12 = .ok (.return_, 1) := by decide +kernel
theorem dWk_share_0 : decode cWk_share 0 = .ok (.aload_n 0, 1) := by decide +kernel
theorem dWk_share_1 : decode cWk_share 1 = .ok (.getfield 23, 3) := by decide +kernel
theorem dWk_share_4 : decode cWk_share 4 = .ok (.iload_n 1, 1) := by decide +kernel
theorem dWk_share_5 : decode cWk_share 5 = .ok (.dup2, 1) := by decide +kernel
theorem dWk_share_6 : decode cWk_share 6 = .ok (.iaload, 1) := by decide +kernel
theorem dWk_share_7 : decode cWk_share 7 = .ok (.iconst 1, 1) := by decide +kernel
theorem dWk_share_8 : decode cWk_share 8 = .ok (.iadd, 1) := by decide +kernel
theorem dWk_share_9 : decode cWk_share 9 = .ok (.iastore, 1) := by decide +kernel
theorem dWk_share_10 : decode cWk_share 10 = .ok (.aload_n 0, 1) := by decide +kernel
theorem dWk_share_11 : decode cWk_share 11 = .ok (.iload_n 1, 1) := by decide +kernel
theorem dWk_share_12 : decode cWk_share 12 = .ok (.iload_n 2, 1) := by decide +kernel
theorem dWk_share_13 : decode cWk_share 13 = .ok (.iconst 0, 1) := by decide +kernel
theorem dWk_share_14 : decode cWk_share 14 = .ok (.iconst 0, 1) := by decide +kernel
theorem dWk_share_15 : decode cWk_share 15 = .ok (.invokevirtual 30, 3) := by decide +kernel
theorem dWk_share_18 : decode cWk_share 18 = .ok (.return_, 1) := by decide +kernel
theorem dWk_settle_0 : decode cWk_settle 0 = .ok (.aload_n 0, 1) := by decide +kernel
theorem dWk_settle_1 : decode cWk_settle 1 = .ok (.getfield 9, 3) := by decide +kernel
theorem dWk_settle_4 : decode cWk_settle 4 = .ok (.iload_n 1, 1) := by decide +kernel
theorem dWk_settle_5 : decode cWk_settle 5 = .ok (.baload, 1) := by decide +kernel
theorem dWk_settle_6 : decode cWk_settle 6 = .ok (.ifCond .ne 12, 3) := by decide +kernel
theorem dWk_settle_9 : decode cWk_settle 9 = .ok (.aload_n 0, 1) := by decide +kernel
theorem dWk_settle_10 : decode cWk_settle 10 = .ok (.getfield 23, 3) := by decide +kernel
theorem dWk_settle_13 : decode cWk_settle 13 = .ok (.iload_n 1, 1) := by decide +kernel
theorem dWk_settle_14 : decode cWk_settle 14 = .ok (.iaload, 1) := by decide +kernel
theorem dWk_settle_15 : decode cWk_settle 15 = .ok (.ifCond .eq 4, 3) := by decide +kernel
theorem dWk_settle_18 : decode cWk_settle 18 = .ok (.return_, 1) := by decide +kernel
theorem dWk_settle_19 : decode cWk_settle 19 = .ok (.aload_n 0, 1) := by decide +kernel
theorem dWk_settle_20 : decode cWk_settle 20 = .ok (.getfield 19, 3) := by decide +kernel
theorem dWk_settle_23 : decode cWk_settle 23 = .ok (.iload_n 1, 1) := by decide +kernel
theorem dWk_settle_24 : decode cWk_settle 24 = .ok (.iaload, 1) := by decide +kernel
theorem dWk_settle_25 : decode cWk_settle 25 = .ok (.iconst (-1), 1) := by decide +kernel
theorem dWk_settle_26 : decode cWk_settle 26 = .ok (.if_icmp .eq 25, 3) := by decide +kernel
theorem dWk_settle_29 : decode cWk_settle 29 = .ok (.aload_n 0, 1) := by decide +kernel
theorem dWk_settle_30 : decode cWk_settle 30 = .ok (.getfield 19, 3) := by decide +kernel
theorem dWk_settle_33 : decode cWk_settle 33 = .ok (.iload_n 1, 1) := by decide +kernel
theorem dWk_settle_34 : decode cWk_settle 34 = .ok (.iaload, 1) := by decide +kernel
theorem dWk_settle_35 : decode cWk_settle 35 = .ok (.istore_n 2, 1) := by decide +kernel
theorem dWk_settle_36 : decode cWk_settle 36 = .ok (.aload_n 0, 1) := by decide +kernel
theorem dWk_settle_37 : decode cWk_settle 37 = .ok (.getfield 19, 3) := by decide +kernel
theorem dWk_settle_40 : decode cWk_settle 40 = .ok (.iload_n 1, 1) := by decide +kernel
theorem dWk_settle_41 : decode cWk_settle 41 = .ok (.iconst (-1), 1) := by decide +kernel
theorem dWk_settle_42 : decode cWk_settle 42 = .ok (.iastore, 1) := by decide +kernel
theorem dWk_settle_43 : decode cWk_settle 43 = .ok (.aload_n 0, 1) := by decide +kernel
theorem dWk_settle_44 : decode cWk_settle 44 = .ok (.iload_n 1, 1) := by decide +kernel
theorem dWk_settle_45 : decode cWk_settle 45 = .ok (.iload_n 2, 1) := by decide +kernel
theorem dWk_settle_46 : decode cWk_settle 46 = .ok (.iconst 1, 1) := by decide +kernel
theorem dWk_settle_47 : decode cWk_settle 47 = .ok (.iconst 0, 1) := by decide +kernel
theorem dWk_settle_48 : decode cWk_settle 48 = .ok (.invokevirtual 30, 3) := by decide +kernel
theorem dWk_settle_51 : decode cWk_settle 51 = .ok (.aload_n 0, 1) := by decide +kernel
theorem dWk_settle_52 : decode cWk_settle 52 = .ok (.getfield 15, 3) := by decide +kernel
theorem dWk_settle_55 : decode cWk_settle 55 = .ok (.iload_n 1, 1) := by decide +kernel
theorem dWk_settle_56 : decode cWk_settle 56 = .ok (.if_icmp .ne 18, 3) := by decide +kernel
theorem dWk_settle_59 : decode cWk_settle 59 = .ok (.aload_n 0, 1) := by decide +kernel
theorem dWk_settle_60 : decode cWk_settle 60 = .ok (.iconst (-1), 1) := by decide +kernel
theorem dWk_settle_61 : decode cWk_settle 61 = .ok (.putfield 15, 3) := by decide +kernel
theorem dWk_settle_64 : decode cWk_settle 64 = .ok (.aload_n 0, 1) := by decide +kernel
theorem dWk_settle_65 : decode cWk_settle 65 = .ok (.dup, 1) := by decide +kernel
theorem dWk_settle_66 : decode cWk_settle 66 = .ok (.getfield 47, 3) := by decide +kernel
theorem dWk_settle_69 : decode cWk_settle 69 = .ok (.iconst 1, 1) := by decide +kernel
theorem dWk_settle_70 : decode cWk_settle 70 = .ok (.iadd, 1) := by decide +kernel
theorem dWk_settle_71 : decode cWk_settle 71 = .ok (.putfield 47, 3) := by decide +kernel
theorem dWk_settle_74 : decode cWk_settle 74 = .ok (.return_, 1) := by decide +kernel
theorem dWk_pause_0 : decode cWk_pause 0 = .ok (.aload_n 0, 1) := by decide +kernel
theorem dWk_pause_1 : decode cWk_pause 1 = .ok (.getfield 9, 3) := by decide +kernel
theorem dWk_pause_4 : decode cWk_pause 4 = .ok (.iload_n 1, 1) := by decide +kernel
theorem dWk_pause_5 : decode cWk_pause 5 = .ok (.iconst 0, 1) := by decide +kernel
theorem dWk_pause_6 : decode cWk_pause 6 = .ok (.bastore, 1) := by decide +kernel
theorem dWk_pause_7 : decode cWk_pause 7 = .ok (.aload_n 0, 1) := by decide +kernel
theorem dWk_pause_8 : decode cWk_pause 8 = .ok (.iload_n 1, 1) := by decide +kernel
theorem dWk_pause_9 : decode cWk_pause 9 = .ok (.invokevirtual 34, 3) := by decide +kernel
theorem dWk_pause_12 : decode cWk_pause 12 = .ok (.return_, 1) := by decide +kernel
theorem dWk_takeWork_0 : decode cWk_takeWork 0 = .ok (.aload_n 0, 1) := by decide +kernel
theorem dWk_takeWork_1 : decode cWk_takeWork 1 = .ok (.iload_n 2, 1) := by decide +kernel
theorem dWk_takeWork_2 : decode cWk_takeWork 2 = .ok (.invokevirtual 26, 3) := by decide +kernel
theorem dWk_takeWork_5 : decode cWk_takeWork 5 = .ok (.ifCond .eq 14, 3) := by decide +kernel
theorem dWk_takeWork_8 : decode cWk_takeWork 8 = .ok (.aload_n 0, 1) := by decide +kernel
theorem dWk_takeWork_9 : decode cWk_takeWork 9 = .ok (.iload_n 2, 1) := by decide +kernel
theorem dWk_takeWork_10 : decode cWk_takeWork 10 = .ok (.iload_n 1, 1) := by decide +kernel
theorem dWk_takeWork_11 : decode cWk_takeWork 11 = .ok (.iconst 1, 1) := by decide +kernel
theorem dWk_takeWork_12 : decode cWk_takeWork 12 = .ok (.iconst 0, 1) := by decide +kernel
theorem dWk_takeWork_13 : decode cWk_takeWork 13 = .ok (.invokevirtual 30, 3) := by decide +kernel
theorem dWk_takeWork_16 : decode cWk_takeWork 16 = .ok (.goto 10, 3) := by decide +kernel
theorem dWk_takeWork_19 : decode cWk_takeWork 19 = .ok (.aload_n 0, 1) := by decide +kernel
theorem dWk_takeWork_20 : decode cWk_takeWork 20 = .ok (.getfield 19, 3) := by decide +kernel
theorem dWk_takeWork_23 : decode cWk_takeWork 23 = .ok (.iload_n 2, 1) := by decide +kernel
theorem dWk_takeWork_24 : decode cWk_takeWork 24 = .ok (.iload_n 1, 1) := by decide +kernel
theorem dWk_takeWork_25 : decode cWk_takeWork 25 = .ok (.iastore, 1) := by decide +kernel
theorem dWk_takeWork_26 : decode cWk_takeWork 26 = .ok (.aload_n 0, 1) := by decide +kernel
theorem dWk_takeWork_27 : decode cWk_takeWork 27 = .ok (.getfield 9, 3) := by decide +kernel
theorem dWk_takeWork_30 : decode cWk_takeWork 30 = .ok (.iload_n 2, 1) := by decide +kernel
theorem dWk_takeWork_31 : decode cWk_takeWork 31 = .ok (.iconst 1, 1) := by decide +kernel
theorem dWk_takeWork_32 : decode cWk_takeWork 32 = .ok (.bastore, 1) := by decide +kernel
theorem dWk_takeWork_33 : decode cWk_takeWork 33 = .ok (.return_, 1) := by decide +kernel
theorem dWk_receive_0 : decode cWk_receive 0 = .ok (.aload_n 3, 1) := by decide +kernel
theorem dWk_receive_1 : decode cWk_receive 1 = .ok (.getfield 38, 3) := by decide +kernel
theorem dWk_receive_4 : decode cWk_receive 4 = .ok (.ifCond .ne 12, 3) := by decide +kernel
theorem dWk_receive_7 : decode cWk_receive 7 = .ok (.aload_n 0, 1) := by decide +kernel
theorem dWk_receive_8 : decode cWk_receive 8 = .ok (.iload_n 1, 1) := by decide +kernel
theorem dWk_receive_9 : decode cWk_receive 9 = .ok (.iload_n 2, 1) := by decide +kernel
theorem dWk_receive_10 : decode cWk_receive 10 = .ok (.invokevirtual 43, 3) := by decide +kernel
theorem dWk_receive_13 : decode cWk_receive 13 = .ok (.goto 18, 3) := by decide +kernel
theorem dWk_receive_16 : decode cWk_receive 16 = .ok (.aload_n 0, 1) := by decide +kernel
theorem dWk_receive_17 : decode cWk_receive 17 = .ok (.getfield 23, 3) := by decide +kernel
theorem dWk_receive_20 : decode cWk_receive 20 = .ok (.iload_n 2, 1) := by decide +kernel
theorem dWk_receive_21 : decode cWk_receive 21 = .ok (.dup2, 1) := by decide +kernel
theorem dWk_receive_22 : decode cWk_receive 22 = .ok (.iaload, 1) := by decide +kernel
theorem dWk_receive_23 : decode cWk_receive 23 = .ok (.iconst 1, 1) := by decide +kernel
theorem dWk_receive_24 : decode cWk_receive 24 = .ok (.isub, 1) := by decide +kernel
theorem dWk_receive_25 : decode cWk_receive 25 = .ok (.iastore, 1) := by decide +kernel
theorem dWk_receive_26 : decode cWk_receive 26 = .ok (.aload_n 0, 1) := by decide +kernel
theorem dWk_receive_27 : decode cWk_receive 27 = .ok (.iload_n 2, 1) := by decide +kernel
theorem dWk_receive_28 : decode cWk_receive 28 = .ok (.invokevirtual 34, 3) := by decide +kernel
theorem dWk_receive_31 : decode cWk_receive 31 = .ok (.return_, 1) := by decide +kernel
end
section
-- NodeServices$Message: NodeServices$Message(int, int, int), on Ms
def wC_Ms_init (a : Nat → Nat) (q : Nat) (R : CS → Prop) (σ : CS) (x1 x2 x3 : Int32) : Prop :=
  (q ∈ σ.2.2 ∧ (∀ σ3 : CS, σ3 = cu σ 41 q x1 → (q ∈ σ3.2.2 ∧ (∀ σ6 : CS, σ6 = cu σ3 42 q x2 → (q ∈ σ6.2.2 ∧ (∀ σ9 : CS, σ9 = cu σ6 43 q x3 → R σ9))))))
abbrev wsMs_init : List Cond := .code yMs_init cMs_init 4 none :: wg
abbrev rmC_Ms_init : Room := { frames := 1, cells := 0, slots := 0, locals := 12 }
set_option maxHeartbeats 4000000 in
set_option maxRecDepth 100000 in
theorem kC_Ms_init (l : Launch) (D : va_G) (a : Nat → Nat) (A : Nat → Prop) (t : Nat → ClassId) (q : Nat) (σ : CS) (x1 x2 x3 : Int32) (R : CS → Prop) (hwp : wC_Ms_init a q R σ x1 x2 x3) : Met l yMs_init wsMs_init rmC_Ms_init (va_Pc [.ref q, .int x1, .int x2, .int x3] (uI D clA (cT t) A true (cw a t) σ)) (va_Qv R (uI D clA (cT t) A true (cw a t)) A) 0 0 A := by
  refine Met.ofW (cc := cMs_init) (maxL := 4) (ret := none) (by decide) rfl ?_
  intro p e s m args below meth c s₁ B hml hv
  obtain ⟨rfl, hP, hK, hD, hA⟩ := hv
  have hx := B.exec
  have hb := B.bytes
  have hr := B.returns
  have hts := atoms_spec (ws := wsMs_init) B.pre
  have hown : s.vm.findClass RMs = some m.cls := findClass_of_methodNamed B.named
  have hlocks := B.notSynchronized
  have hin : meth.name = "<init>" := (name_of_methodNamed B.named B.method).1
  have hinMs : ∀ w ∈ u_ws RMs TMs 4, w ∈ wsMs_init := fun w h => List.mem_cons_of_mem _ (inMs w h)
  have lk13 := hts _ (List.mem_cons_of_mem _ wm_388)
  have lk16 := hts _ (List.mem_cons_of_mem _ wm_395)
  have lk7 := hts _ (List.mem_cons_of_mem _ wm_386)
  have hS : va_S A s.heap s.heap [] := va_S.rf
  have hl := lv_entry ([.ref q, .int x1, .int x2, .int x3]) (n := 4) (Nat.le_of_ble_eq_true rfl)
  rw [lg_entry_eq]
  generalize (lg_sl ([.ref q, .int x1, .int x2, .int x3]) ++ List.replicate (4 - (lg_sl ([.ref q, .int x1, .int x2, .int x3])).length) Slot.unset).toArray = ls at hl ⊢
  have hl : lv_has ls 4 [(0, .ref q), (1, .int x1), (2, .int x2), (3, .int x3)] := hl
  refine lv_aload_n hx hb dMs_init_0 rfl (lv_at hl 0 rfl) ?_
  refine W.objInit hx hb hown (hts _ (List.mem_cons_of_mem _ wm_385)) (hts _ (List.mem_cons_of_mem _ wm_27)) (hts _ (List.mem_cons_of_mem _ wm_28)) rfl (by rw [hml]; exact hl.1) rfl dMs_init_1 (Nat.le_of_ble_eq_true rfl) (Nat.le_of_ble_eq_true rfl) ?_
  refine W.eq (g2 := F0 m 4 ls []) rfl ?_
  refine lv_aload_n hx hb dMs_init_4 rfl (lv_at hl 0 rfl) ?_
  refine lv_iload_n hx hb dMs_init_5 rfl (lv_at hl 1 rfl) ?_
  have hD0 := hD
  obtain ⟨hm1, hwp⟩ := hwp
  obtain ⟨km2, hkm2⟩ := cw_ms (a := a) (t := t) hm1
  refine va_putF (ty := .int) (D := D) (ci := 4) (C := RMs) (T := TMs) (N := 4) hx hb hts hinMs tyMs tyMs_ok nmMs hown hK hP hD hS km2 hkm2 rfl 0 (by decide) lk7 (fun _ h9 => h9) rfl hin rfl (by decide +kernel) rfl rfl (Nat.le_of_ble_eq_true rfl) dMs_init_6 (fun H locs hP hD hS => ?_)
  obtain ⟨σ3, eσ3⟩ : ∃ z, z = cu σ 41 q x1 := ⟨_, rfl⟩
  have hwp := hwp σ3 eσ3
  have hP : va_P D clA (cw a t σ3) H := by rw [eσ3, ← cw_ms0 (a := a) (t := t) (σ := σ) hD0 hm1 hkm2 x1]; exact hP
  have hD : va_D A (cw a t σ3) := by rw [eσ3, ← cw_ms0 (a := a) (t := t) (σ := σ) hD0 hm1 hkm2 x1]; exact hD
  refine lv_aload_n hx hb dMs_init_9 rfl (lv_at hl 0 rfl) ?_
  refine lv_iload_n hx hb dMs_init_10 rfl (lv_at hl 2 rfl) ?_
  have hD0 := hD
  obtain ⟨hm4, hwp⟩ := hwp
  obtain ⟨km5, hkm5⟩ := cw_ms (a := a) (t := t) hm4
  refine va_putF (ty := .int) (D := D) (ci := 4) (C := RMs) (T := TMs) (N := 4) hx hb hts hinMs tyMs tyMs_ok nmMs hown hK hP hD hS km5 hkm5 rfl 1 (by decide) lk13 (fun _ h9 => h9) rfl hin rfl (by decide +kernel) rfl rfl (Nat.le_of_ble_eq_true rfl) dMs_init_11 (fun H locs hP hD hS => ?_)
  obtain ⟨σ6, eσ6⟩ : ∃ z, z = cu σ3 42 q x2 := ⟨_, rfl⟩
  have hwp := hwp σ6 eσ6
  have hP : va_P D clA (cw a t σ6) H := by rw [eσ6, ← cw_ms1 (a := a) (t := t) (σ := σ3) hD0 hm4 hkm5 x2]; exact hP
  have hD : va_D A (cw a t σ6) := by rw [eσ6, ← cw_ms1 (a := a) (t := t) (σ := σ3) hD0 hm4 hkm5 x2]; exact hD
  refine lv_aload_n hx hb dMs_init_14 rfl (lv_at hl 0 rfl) ?_
  refine lv_iload_n hx hb dMs_init_15 rfl (lv_at hl 3 rfl) ?_
  have hD0 := hD
  obtain ⟨hm7, hwp⟩ := hwp
  obtain ⟨km8, hkm8⟩ := cw_ms (a := a) (t := t) hm7
  refine va_putF (ty := .int) (D := D) (ci := 4) (C := RMs) (T := TMs) (N := 4) hx hb hts hinMs tyMs tyMs_ok nmMs hown hK hP hD hS km8 hkm8 rfl 2 (by decide) lk16 (fun _ h9 => h9) rfl hin rfl (by decide +kernel) rfl rfl (Nat.le_of_ble_eq_true rfl) dMs_init_16 (fun H locs hP hD hS => ?_)
  obtain ⟨σ9, eσ9⟩ : ∃ z, z = cu σ6 43 q x3 := ⟨_, rfl⟩
  have hwp := hwp σ9 eσ9
  have hP : va_P D clA (cw a t σ9) H := by rw [eσ9, ← cw_ms2 (a := a) (t := t) (σ := σ6) hD0 hm7 hkm8 x3]; exact hP
  have hD : va_D A (cw a t σ9) := by rw [eσ9, ← cw_ms2 (a := a) (t := t) (σ := σ6) hD0 hm7 hkm8 x3]; exact hD
  exact W.vret hx hb hr (fun t ht hW => ⟨⟨σ9, rfl, hwp, uEnd ht hW hP hK hD hS hA⟩, hS.F ht⟩) hS.2.2 dMs_init_19
-- NodeServices$Channel: void append(NodeServices$Message), on Ch
def wC_Ch_append_34 (a : Nat → Nat) (k : Nat) (q : Nat) (R : CS → Prop) (σ : CS)  : Prop :=
  (∀ σ1 : CS, σ1 = cr σ 1 k (some q) → (∀ σ2 : CS, σ2 = cu σ1 40 k ((σ1.1 40 k) + 1) → R σ2))
def wC_Ch_append (a : Nat → Nat) (k : Nat) (q : Nat) (R : CS → Prop) (σ : CS) : Prop :=
  ((((σ.1 40 k) < 1024) → ((σ.2.1 1 k = none → (∀ σ6 : CS, σ6 = cr σ 0 k (some q) → wC_Ch_append_34 a k q R σ6)) ∧ (∀ q5 : Nat, σ.2.1 1 k = some q5 → (q5 ∈ σ.2.2 ∧ (∀ σ9 : CS, σ9 = cr σ 2 q5 (some q) → wC_Ch_append_34 a k q R σ9))))) ∧ ((¬ (σ.1 40 k) < 1024) → R σ))
abbrev wsCh_append : List Cond := .code yCh_append cCh_append 2 none :: wg
abbrev rmC_Ch_append : Room := { frames := 0, cells := 0, slots := 0, locals := 0 }
set_option maxHeartbeats 4000000 in
set_option maxRecDepth 100000 in
theorem kC_Ch_append (l : Launch) (D : va_G) (a : Nat → Nat) (A : Nat → Prop) (t : Nat → ClassId) (k : Nat) (q : Nat) (hpk : k < 16) (σ : CS) (R : CS → Prop) (hwp : wC_Ch_append a k q R σ ) : Met l yCh_append wsCh_append rmC_Ch_append (va_Pc [.ref (a (42 + k)), .ref q] (uI D clA (cT t) A true (cw a t) σ)) (va_Qv R (uI D clA (cT t) A true (cw a t)) A) 0 0 A := by
  refine Met.ofW (cc := cCh_append) (maxL := 2) (ret := none) (by decide) rfl ?_
  intro p e s m args below meth c s₁ B hml hv
  obtain ⟨rfl, hP, hK, hD, hA⟩ := hv
  have hx := B.exec
  have hb := B.bytes
  have hr := B.returns
  have hts := atoms_spec (ws := wsCh_append) B.pre
  have hown : s.vm.findClass RCh = some m.cls := findClass_of_methodNamed B.named
  have hlocks := B.notSynchronized
  have hinCh : ∀ w ∈ u_ws RCh TCh 3, w ∈ wsCh_append := fun w h => List.mem_cons_of_mem _ (inCh w h)
  have hinMs : ∀ w ∈ u_ws RMs TMs 4, w ∈ wsCh_append := fun w h => List.mem_cons_of_mem _ (inMs w h)
  have lk13 := hts _ (List.mem_cons_of_mem _ wm_44)
  have lk17 := hts _ (List.mem_cons_of_mem _ wm_42)
  have lk20 := hts _ (List.mem_cons_of_mem _ wm_399)
  have lk7 := hts _ (List.mem_cons_of_mem _ wm_45)
  have hS : va_S A s.heap s.heap [] := va_S.rf
  have cut34 : ∀ (σ : CS) (H : Heap) (locs : List Loc) (ls : Array Slot), wC_Ch_append_34 a k q R σ → va_P D clA (cw a t σ) H → va_D A (cw a t σ) → va_S A s.heap H locs → lv_has ls 2 [(0, .ref (a (42 + k))), (1, .ref q)] → W p l e (headSpec wsCh_append rmC_Ch_append).room s m ([.ref (a (42 + k)), .ref q] : List Value).toArray below meth c H locs 0 0 (MQ below (va_Qv R (uI D clA (cT t) A true (cw a t)) A) ([.ref (a (42 + k)), .ref q] : List Value).toArray s 0 0 A) (F0 m 34 ls []) := by
    intro σ H locs ls hwp hP hD hS hl
    refine lv_aload_n hx hb dCh_append_34 rfl (lv_at hl 0 rfl) ?_
    refine lv_aload_n hx hb dCh_append_35 rfl (lv_at hl 1 rfl) ?_
    refine va_put (ty := .object "NodeServices$Message") (D := D) (ci := 3) (C := RCh) (T := TCh) (N := 3) hx hb hts hinCh tyCh tyCh_ok nmCh hown hK hP hD hS (42 + k) (cw_ch hpk) rfl 1 (by decide) lk13 (fun _ h9 => h9) rfl (by decide +kernel) rfl rfl (Nat.le_of_ble_eq_true rfl) dCh_append_36 (fun H locs hP hD hS => ?_)
    obtain ⟨σ1, eσ1⟩ : ∃ z, z = cr σ 1 k (some q) := ⟨_, rfl⟩
    have hwp := hwp σ1 eσ1
    have hP : va_P D clA (cw a t σ1) H := by rw [eσ1, ← cw_ch1 (a := a) (t := t) (σ := σ) hpk (some q)]; exact hP
    have hD : va_D A (cw a t σ1) := by rw [eσ1, ← cw_ch1 (a := a) (t := t) (σ := σ) hpk (some q)]; exact hD
    refine lv_aload_n hx hb dCh_append_39 rfl (lv_at hl 0 rfl) ?_
    refine lv_dup hx hb dCh_append_40 rfl ?_
    refine va_get (D := D) (ci := 3) (C := RCh) (T := TCh) (N := 3) hx hb hts hinCh hown hK hP (42 + k) (cw_ch hpk) rfl 2 (by decide) lk7 (fun _ h9 => h9) rfl dCh_append_41 ?_
    refine lv_iconst (v := 1) hx hb dCh_append_44 (by decide) ?_
    refine lv_iadd hx hb dCh_append_45 ?_
    refine va_put (ty := .int) (D := D) (ci := 3) (C := RCh) (T := TCh) (N := 3) hx hb hts hinCh tyCh tyCh_ok nmCh hown hK hP hD hS (42 + k) (cw_ch hpk) rfl 2 (by decide) lk7 (fun _ h9 => h9) rfl (by decide +kernel) rfl rfl (Nat.le_of_ble_eq_true rfl) dCh_append_46 (fun H locs hP hD hS => ?_)
    obtain ⟨σ2, eσ2⟩ : ∃ z, z = cu σ1 40 k ((σ1.1 40 k) + 1) := ⟨_, rfl⟩
    have hwp := hwp σ2 eσ2
    have hP : va_P D clA (cw a t σ2) H := by rw [eσ2, ← cw_ch2 (a := a) (t := t) (σ := σ1) hpk ((σ1.1 40 k) + 1)]; exact hP
    have hD : va_D A (cw a t σ2) := by rw [eσ2, ← cw_ch2 (a := a) (t := t) (σ := σ1) hpk ((σ1.1 40 k) + 1)]; exact hD
    exact W.vret hx hb hr (fun t ht hW => ⟨⟨σ2, rfl, hwp, uEnd ht hW hP hK hD hS hA⟩, hS.F ht⟩) hS.2.2 dCh_append_49
  have hl := lv_entry ([.ref (a (42 + k)), .ref q]) (n := 2) (Nat.le_of_ble_eq_true rfl)
  rw [lg_entry_eq]
  generalize (lg_sl ([.ref (a (42 + k)), .ref q]) ++ List.replicate (2 - (lg_sl ([.ref (a (42 + k)), .ref q])).length) Slot.unset).toArray = ls at hl ⊢
  have hl : lv_has ls 2 [(0, .ref (a (42 + k))), (1, .ref q)] := hl
  refine lv_aload_n hx hb dCh_append_0 rfl (lv_at hl 0 rfl) ?_
  refine va_get (D := D) (ci := 3) (C := RCh) (T := TCh) (N := 3) hx hb hts hinCh hown hK hP (42 + k) (cw_ch hpk) rfl 2 (by decide) lk7 (fun _ h9 => h9) rfl dCh_append_1 ?_
  refine lv_sipush (v := 1024) hx hb dCh_append_4 (by decide) ?_
  refine lv_icmp_lt hx hb dCh_append_7 rfl (fun h3 => ?_) (fun h3 => ?_)
  · have hwp := hwp.1 h3
    refine lv_aload_n hx hb dCh_append_11 rfl (lv_at hl 0 rfl) ?_
    refine va_get (D := D) (ci := 3) (C := RCh) (T := TCh) (N := 3) hx hb hts hinCh hown hK hP (42 + k) (cw_ch hpk) rfl 1 (by decide) lk13 (fun _ h9 => h9) rfl dCh_append_12 ?_
    refine fx_caseq (fun hq4 => ?_) (fun q5 hq4 => ?_)
    · have hwp := hwp.1 hq4
      refine lv_ifnonnullN hx hb dCh_append_15 ?_
      refine lv_aload_n hx hb dCh_append_18 rfl (lv_at hl 0 rfl) ?_
      refine lv_aload_n hx hb dCh_append_19 rfl (lv_at hl 1 rfl) ?_
      refine va_put (ty := .object "NodeServices$Message") (D := D) (ci := 3) (C := RCh) (T := TCh) (N := 3) hx hb hts hinCh tyCh tyCh_ok nmCh hown hK hP hD hS (42 + k) (cw_ch hpk) rfl 0 (by decide) lk17 (fun _ h9 => h9) rfl (by decide +kernel) rfl rfl (Nat.le_of_ble_eq_true rfl) dCh_append_20 (fun H locs hP hD hS => ?_)
      obtain ⟨σ6, eσ6⟩ : ∃ z, z = cr σ 0 k (some q) := ⟨_, rfl⟩
      have hwp := hwp σ6 eσ6
      have hP : va_P D clA (cw a t σ6) H := by rw [eσ6, ← cw_ch0 (a := a) (t := t) (σ := σ) hpk (some q)]; exact hP
      have hD : va_D A (cw a t σ6) := by rw [eσ6, ← cw_ch0 (a := a) (t := t) (σ := σ) hpk (some q)]; exact hD
      refine lv_goto hx hb dCh_append_23 rfl ?_
      exact cut34 σ6 _ _ _ hwp hP hD hS (lv_sub hl [0, 1] rfl)
    · have hwp := hwp.2 q5 hq4
      refine lv_ifnonnull hx hb dCh_append_15 rfl ?_
      refine lv_aload_n hx hb dCh_append_26 rfl (lv_at hl 0 rfl) ?_
      refine va_get (D := D) (ci := 3) (C := RCh) (T := TCh) (N := 3) hx hb hts hinCh hown hK hP (42 + k) (cw_ch hpk) rfl 1 (by decide) lk13 (fun _ h9 => h9) rfl dCh_append_27 ?_
      refine W.eq (g2 := F0 m 30 ls [.ref q5]) (by rw [hq4]; rfl) ?_
      refine lv_aload_n hx hb dCh_append_30 rfl (lv_at hl 1 rfl) ?_
      have hD0 := hD
      obtain ⟨hm7, hwp⟩ := hwp
      obtain ⟨km8, hkm8⟩ := cw_ms (a := a) (t := t) hm7
      refine va_put (ty := .object "NodeServices$Message") (D := D) (ci := 4) (C := RMs) (T := TMs) (N := 4) hx hb hts hinMs tyMs tyMs_ok nmMs hown hK hP hD hS km8 hkm8 rfl 3 (by decide) lk20 (fun _ h9 => h9) rfl (by decide +kernel) rfl rfl (Nat.le_of_ble_eq_true rfl) dCh_append_31 (fun H locs hP hD hS => ?_)
      obtain ⟨σ9, eσ9⟩ : ∃ z, z = cr σ 2 q5 (some q) := ⟨_, rfl⟩
      have hwp := hwp σ9 eσ9
      have hP : va_P D clA (cw a t σ9) H := by rw [eσ9, ← cw_ms3 (a := a) (t := t) (σ := σ) hD0 hm7 hkm8 (some q)]; exact hP
      have hD : va_D A (cw a t σ9) := by rw [eσ9, ← cw_ms3 (a := a) (t := t) (σ := σ) hD0 hm7 hkm8 (some q)]; exact hD
      exact cut34 σ9 _ _ _ hwp hP hD hS (lv_sub hl [0, 1] rfl)
  · have hwp := hwp.2 h3
    exact W.vret hx hb hr (fun t ht hW => ⟨⟨σ, rfl, hwp, uEnd ht hW hP hK hD hS hA⟩, hS.F ht⟩) hS.2.2 dCh_append_10
-- NodeServices$Channel: NodeServices$Message takeHead(), on Ch
def wC_Ch_takeHead_31 (a : Nat → Nat) (k : Nat) (R : Option Nat → CS → Prop) (σ : CS) (y1 : Nat) : Prop :=
  (∀ σ1 : CS, σ1 = cu σ 40 k ((σ.1 40 k) - 1) → R (some y1) σ1)
def wC_Ch_takeHead (a : Nat → Nat) (k : Nat) (R : Option Nat → CS → Prop) (σ : CS) : Prop :=
  ((σ.2.1 0 k = none → R (none) σ) ∧ (∀ q3 : Nat, σ.2.1 0 k = some q3 → (q3 ∈ σ.2.2 ∧ ((σ.2.1 2 q3 = none → (∀ σ8 : CS, σ8 = cr σ 0 k none → ((σ8.2.1 0 k = none → (∀ σ11 : CS, σ11 = cr σ8 1 k none → wC_Ch_takeHead_31 a k R σ11 q3)) ∧ (∀ q10 : Nat, σ8.2.1 0 k = some q10 → wC_Ch_takeHead_31 a k R σ8 q3)))) ∧ (∀ q7 : Nat, σ.2.1 2 q3 = some q7 → (∀ σ12 : CS, σ12 = cr σ 0 k (some q7) → ((σ12.2.1 0 k = none → (∀ σ15 : CS, σ15 = cr σ12 1 k none → wC_Ch_takeHead_31 a k R σ15 q3)) ∧ (∀ q14 : Nat, σ12.2.1 0 k = some q14 → wC_Ch_takeHead_31 a k R σ12 q3))))))))
abbrev wsCh_takeHead : List Cond := .code yCh_takeHead cCh_takeHead 2 (some (.object "NodeServices$Message")) :: wg
abbrev rmC_Ch_takeHead : Room := { frames := 0, cells := 0, slots := 0, locals := 0 }
set_option maxHeartbeats 4000000 in
set_option maxRecDepth 100000 in
theorem kC_Ch_takeHead (l : Launch) (D : va_G) (a : Nat → Nat) (A : Nat → Prop) (t : Nat → ClassId) (k : Nat) (hpk : k < 16) (σ : CS) (R : Option Nat → CS → Prop) (hwp : wC_Ch_takeHead a k R σ ) : Met l yCh_takeHead wsCh_takeHead rmC_Ch_takeHead (va_Pc [.ref (a (42 + k))] (uI D clA (cT t) A true (cw a t) σ)) (va_Qq R (uI D clA (cT t) A true (cw a t)) A) 0 0 A := by
  refine Met.ofW (cc := cCh_takeHead) (maxL := 2) (ret := (some (.object "NodeServices$Message"))) (by decide) rfl ?_
  intro p e s m args below meth c s₁ B hml hv
  obtain ⟨rfl, hP, hK, hD, hA⟩ := hv
  have hx := B.exec
  have hb := B.bytes
  have hr := B.returns
  have hts := atoms_spec (ws := wsCh_takeHead) B.pre
  have hown : s.vm.findClass RCh = some m.cls := findClass_of_methodNamed B.named
  have hlocks := B.notSynchronized
  have hinCh : ∀ w ∈ u_ws RCh TCh 3, w ∈ wsCh_takeHead := fun w h => List.mem_cons_of_mem _ (inCh w h)
  have hinMs : ∀ w ∈ u_ws RMs TMs 4, w ∈ wsCh_takeHead := fun w h => List.mem_cons_of_mem _ (inMs w h)
  have lk13 := hts _ (List.mem_cons_of_mem _ wm_44)
  have lk17 := hts _ (List.mem_cons_of_mem _ wm_42)
  have lk20 := hts _ (List.mem_cons_of_mem _ wm_399)
  have lk7 := hts _ (List.mem_cons_of_mem _ wm_45)
  have hS : va_S A s.heap s.heap [] := va_S.rf
  have cut31 : ∀ (σ : CS) (y1 : Nat) (H : Heap) (locs : List Loc) (ls : Array Slot), wC_Ch_takeHead_31 a k R σ y1 → va_P D clA (cw a t σ) H → va_D A (cw a t σ) → va_S A s.heap H locs → lv_has ls 2 [(0, .ref (a (42 + k))), (1, .ref y1)] → W p l e (headSpec wsCh_takeHead rmC_Ch_takeHead).room s m ([.ref (a (42 + k))] : List Value).toArray below meth c H locs 0 0 (MQ below (va_Qq R (uI D clA (cT t) A true (cw a t)) A) ([.ref (a (42 + k))] : List Value).toArray s 0 0 A) (F0 m 31 ls []) := by
    intro σ y1 H locs ls hwp hP hD hS hl
    refine lv_aload_n hx hb dCh_takeHead_31 rfl (lv_at hl 0 rfl) ?_
    refine lv_dup hx hb dCh_takeHead_32 rfl ?_
    refine va_get (D := D) (ci := 3) (C := RCh) (T := TCh) (N := 3) hx hb hts hinCh hown hK hP (42 + k) (cw_ch hpk) rfl 2 (by decide) lk7 (fun _ h9 => h9) rfl dCh_takeHead_33 ?_
    refine lv_iconst (v := 1) hx hb dCh_takeHead_36 (by decide) ?_
    refine lv_isub hx hb dCh_takeHead_37 ?_
    refine va_put (ty := .int) (D := D) (ci := 3) (C := RCh) (T := TCh) (N := 3) hx hb hts hinCh tyCh tyCh_ok nmCh hown hK hP hD hS (42 + k) (cw_ch hpk) rfl 2 (by decide) lk7 (fun _ h9 => h9) rfl (by decide +kernel) rfl rfl (Nat.le_of_ble_eq_true rfl) dCh_takeHead_38 (fun H locs hP hD hS => ?_)
    obtain ⟨σ1, eσ1⟩ : ∃ z, z = cu σ 40 k ((σ.1 40 k) - 1) := ⟨_, rfl⟩
    have hwp := hwp σ1 eσ1
    have hP : va_P D clA (cw a t σ1) H := by rw [eσ1, ← cw_ch2 (a := a) (t := t) (σ := σ) hpk ((σ.1 40 k) - 1)]; exact hP
    have hD : va_D A (cw a t σ1) := by rw [eσ1, ← cw_ch2 (a := a) (t := t) (σ := σ) hpk ((σ.1 40 k) - 1)]; exact hD
    refine lv_aload_n hx hb dCh_takeHead_41 rfl (lv_at hl 1 rfl) ?_
    exact W.aret (v := .ref y1) hx hb hr (Or.inl ⟨_, rfl⟩) (Or.inr ⟨_, rfl⟩) (fun t ht hW => ⟨⟨some y1, σ1, rfl, hwp, uEnd ht hW hP hK hD hS hA⟩, hS.F ht⟩) hS.2.2 dCh_takeHead_42
  have hl := lv_entry ([.ref (a (42 + k))]) (n := 2) (Nat.le_of_ble_eq_true rfl)
  rw [lg_entry_eq]
  generalize (lg_sl ([.ref (a (42 + k))]) ++ List.replicate (2 - (lg_sl ([.ref (a (42 + k))])).length) Slot.unset).toArray = ls at hl ⊢
  have hl : lv_has ls 2 [(0, .ref (a (42 + k)))] := hl
  refine lv_aload_n hx hb dCh_takeHead_0 rfl (lv_at hl 0 rfl) ?_
  refine va_get (D := D) (ci := 3) (C := RCh) (T := TCh) (N := 3) hx hb hts hinCh hown hK hP (42 + k) (cw_ch hpk) rfl 0 (by decide) lk17 (fun _ h9 => h9) rfl dCh_takeHead_1 ?_
  refine fx_caseq (fun hq2 => ?_) (fun q3 hq2 => ?_)
  · have hwp := hwp.1 hq2
    refine lv_astore_nN hx hb dCh_takeHead_4 rfl hl (by decide) rfl (fun ls hl => ?_)
    have hl : lv_has ls 2 [(1, .null), (0, .ref (a (42 + k)))] := hl
    refine lv_aload_nN hx hb dCh_takeHead_5 rfl (lv_at hl 0 rfl) ?_
    refine lv_ifnonnullN hx hb dCh_takeHead_6 ?_
    refine lv_null hx hb dCh_takeHead_9 ?_
    exact W.aret (v := .null) hx hb hr (Or.inl ⟨_, rfl⟩) (Or.inl rfl) (fun t ht hW => ⟨⟨none, σ, rfl, hwp, uEnd ht hW hP hK hD hS hA⟩, hS.F ht⟩) hS.2.2 dCh_takeHead_10
  · have hwp := hwp.2 q3 hq2
    refine lv_astore_n hx hb dCh_takeHead_4 rfl hl (by decide) rfl (fun ls hl => ?_)
    have hl : lv_has ls 2 [(1, .ref q3), (0, .ref (a (42 + k)))] := hl
    refine lv_aload_n hx hb dCh_takeHead_5 rfl (lv_at hl 0 rfl) ?_
    refine lv_ifnonnull hx hb dCh_takeHead_6 rfl ?_
    refine lv_aload_n hx hb dCh_takeHead_11 rfl (lv_at hl 1 rfl) ?_
    refine lv_aload_n hx hb dCh_takeHead_12 rfl (lv_at hl 0 rfl) ?_
    obtain ⟨hm4, hwp⟩ := hwp
    obtain ⟨km5, hkm5⟩ := cw_ms (a := a) (t := t) hm4
    refine va_get (D := D) (ci := 4) (C := RMs) (T := TMs) (N := 4) hx hb hts hinMs hown hK hP km5 hkm5 rfl 3 (by decide) lk20 (fun _ h9 => h9) rfl dCh_takeHead_13 ?_
    refine fx_caseq (fun hq6 => ?_) (fun q7 hq6 => ?_)
    · have hwp := hwp.1 hq6
      refine va_put (ty := .object "NodeServices$Message") (D := D) (ci := 3) (C := RCh) (T := TCh) (N := 3) hx hb hts hinCh tyCh tyCh_ok nmCh hown hK hP hD hS (42 + k) (cw_ch hpk) rfl 0 (by decide) lk17 (fun _ h9 => h9) rfl (by decide +kernel) rfl rfl (Nat.le_of_ble_eq_true rfl) dCh_takeHead_16 (fun H locs hP hD hS => ?_)
      obtain ⟨σ8, eσ8⟩ : ∃ z, z = cr σ 0 k none := ⟨_, rfl⟩
      have hwp := hwp σ8 eσ8
      have hP : va_P D clA (cw a t σ8) H := by rw [eσ8, ← cw_ch0 (a := a) (t := t) (σ := σ) hpk none]; exact hP
      have hD : va_D A (cw a t σ8) := by rw [eσ8, ← cw_ch0 (a := a) (t := t) (σ := σ) hpk none]; exact hD
      refine lv_aload_n hx hb dCh_takeHead_19 rfl (lv_at hl 1 rfl) ?_
      refine va_get (D := D) (ci := 3) (C := RCh) (T := TCh) (N := 3) hx hb hts hinCh hown hK hP (42 + k) (cw_ch hpk) rfl 0 (by decide) lk17 (fun _ h9 => h9) rfl dCh_takeHead_20 ?_
      refine fx_caseq (fun hq9 => ?_) (fun q10 hq9 => ?_)
      · have hwp := hwp.1 hq9
        refine lv_ifnonnullN hx hb dCh_takeHead_23 ?_
        refine lv_aload_n hx hb dCh_takeHead_26 rfl (lv_at hl 1 rfl) ?_
        refine lv_null hx hb dCh_takeHead_27 ?_
        refine va_put (ty := .object "NodeServices$Message") (D := D) (ci := 3) (C := RCh) (T := TCh) (N := 3) hx hb hts hinCh tyCh tyCh_ok nmCh hown hK hP hD hS (42 + k) (cw_ch hpk) rfl 1 (by decide) lk13 (fun _ h9 => h9) rfl (by decide +kernel) rfl rfl (Nat.le_of_ble_eq_true rfl) dCh_takeHead_28 (fun H locs hP hD hS => ?_)
        obtain ⟨σ11, eσ11⟩ : ∃ z, z = cr σ8 1 k none := ⟨_, rfl⟩
        have hwp := hwp σ11 eσ11
        have hP : va_P D clA (cw a t σ11) H := by rw [eσ11, ← cw_ch1 (a := a) (t := t) (σ := σ8) hpk none]; exact hP
        have hD : va_D A (cw a t σ11) := by rw [eσ11, ← cw_ch1 (a := a) (t := t) (σ := σ8) hpk none]; exact hD
        exact cut31 σ11 q3 _ _ _ hwp hP hD hS (lv_sub hl [1, 0] rfl)
      · have hwp := hwp.2 q10 hq9
        refine lv_ifnonnull hx hb dCh_takeHead_23 rfl ?_
        exact cut31 σ8 q3 _ _ _ hwp hP hD hS (lv_sub hl [1, 0] rfl)
    · have hwp := hwp.2 q7 hq6
      refine va_put (ty := .object "NodeServices$Message") (D := D) (ci := 3) (C := RCh) (T := TCh) (N := 3) hx hb hts hinCh tyCh tyCh_ok nmCh hown hK hP hD hS (42 + k) (cw_ch hpk) rfl 0 (by decide) lk17 (fun _ h9 => h9) rfl (by decide +kernel) rfl rfl (Nat.le_of_ble_eq_true rfl) dCh_takeHead_16 (fun H locs hP hD hS => ?_)
      obtain ⟨σ12, eσ12⟩ : ∃ z, z = cr σ 0 k (some q7) := ⟨_, rfl⟩
      have hwp := hwp σ12 eσ12
      have hP : va_P D clA (cw a t σ12) H := by rw [eσ12, ← cw_ch0 (a := a) (t := t) (σ := σ) hpk (some q7)]; exact hP
      have hD : va_D A (cw a t σ12) := by rw [eσ12, ← cw_ch0 (a := a) (t := t) (σ := σ) hpk (some q7)]; exact hD
      refine lv_aload_n hx hb dCh_takeHead_19 rfl (lv_at hl 1 rfl) ?_
      refine va_get (D := D) (ci := 3) (C := RCh) (T := TCh) (N := 3) hx hb hts hinCh hown hK hP (42 + k) (cw_ch hpk) rfl 0 (by decide) lk17 (fun _ h9 => h9) rfl dCh_takeHead_20 ?_
      refine fx_caseq (fun hq13 => ?_) (fun q14 hq13 => ?_)
      · have hwp := hwp.1 hq13
        refine lv_ifnonnullN hx hb dCh_takeHead_23 ?_
        refine lv_aload_n hx hb dCh_takeHead_26 rfl (lv_at hl 1 rfl) ?_
        refine lv_null hx hb dCh_takeHead_27 ?_
        refine va_put (ty := .object "NodeServices$Message") (D := D) (ci := 3) (C := RCh) (T := TCh) (N := 3) hx hb hts hinCh tyCh tyCh_ok nmCh hown hK hP hD hS (42 + k) (cw_ch hpk) rfl 1 (by decide) lk13 (fun _ h9 => h9) rfl (by decide +kernel) rfl rfl (Nat.le_of_ble_eq_true rfl) dCh_takeHead_28 (fun H locs hP hD hS => ?_)
        obtain ⟨σ15, eσ15⟩ : ∃ z, z = cr σ12 1 k none := ⟨_, rfl⟩
        have hwp := hwp σ15 eσ15
        have hP : va_P D clA (cw a t σ15) H := by rw [eσ15, ← cw_ch1 (a := a) (t := t) (σ := σ12) hpk none]; exact hP
        have hD : va_D A (cw a t σ15) := by rw [eσ15, ← cw_ch1 (a := a) (t := t) (σ := σ12) hpk none]; exact hD
        exact cut31 σ15 q3 _ _ _ hwp hP hD hS (lv_sub hl [1, 0] rfl)
      · have hwp := hwp.2 q14 hq13
        refine lv_ifnonnull hx hb dCh_takeHead_23 rfl ?_
        exact cut31 σ12 q3 _ _ _ hwp hP hD hS (lv_sub hl [1, 0] rfl)
-- NodeServices$NodeRow: boolean isEmpty(), on Ro
def wC_Ro_isEmpty (a : Nat → Nat) (r : Nat) (R : Int32 → CS → Prop) (σ : CS) : Prop :=
  (((¬ (σ.1 (19 + r) 0) = 0) → R 0 σ) ∧ (((σ.1 (19 + r) 0) = 0) → R 1 σ))
abbrev wsRo_isEmpty : List Cond := .code yRo_isEmpty cRo_isEmpty 1 (some .boolean) :: wg
abbrev rmC_Ro_isEmpty : Room := { frames := 0, cells := 0, slots := 0, locals := 0 }
set_option maxHeartbeats 4000000 in
set_option maxRecDepth 100000 in
theorem kC_Ro_isEmpty (l : Launch) (D : va_G) (a : Nat → Nat) (A : Nat → Prop) (t : Nat → ClassId) (r : Nat) (hpr : r < 5) (σ : CS) (R : Int32 → CS → Prop) (hwp : wC_Ro_isEmpty a r R σ ) : Met l yRo_isEmpty wsRo_isEmpty rmC_Ro_isEmpty (va_Pc [.ref (a (25 + r))] (uI D clA (cT t) A true (cw a t) σ)) (va_Qi R (uI D clA (cT t) A true (cw a t)) A) 0 0 A := by
  refine Met.ofW (cc := cRo_isEmpty) (maxL := 1) (ret := (some .boolean)) (by decide) rfl ?_
  intro p e s m args below meth c s₁ B hml hv
  obtain ⟨rfl, hP, hK, hD, hA⟩ := hv
  have hx := B.exec
  have hb := B.bytes
  have hr := B.returns
  have hts := atoms_spec (ws := wsRo_isEmpty) B.pre
  have hown : s.vm.findClass RRo = some m.cls := findClass_of_methodNamed B.named
  have hlocks := B.notSynchronized
  have hinRo : ∀ w ∈ u_ws RRo TRo 2, w ∈ wsRo_isEmpty := fun w h => List.mem_cons_of_mem _ (inRo w h)
  have lk15 := hts _ (List.mem_cons_of_mem _ wm_126)
  have hS : va_S A s.heap s.heap [] := va_S.rf
  have hl := lv_entry ([.ref (a (25 + r))]) (n := 1) (Nat.le_of_ble_eq_true rfl)
  rw [lg_entry_eq]
  generalize (lg_sl ([.ref (a (25 + r))]) ++ List.replicate (1 - (lg_sl ([.ref (a (25 + r))])).length) Slot.unset).toArray = ls at hl ⊢
  have hl : lv_has ls 1 [(0, .ref (a (25 + r)))] := hl
  refine lv_aload_n hx hb dRo_isEmpty_0 rfl (lv_at hl 0 rfl) ?_
  refine va_get (D := D) (ci := 5) (C := RRo) (T := TRo) (N := 2) hx hb hts hinRo hown hK hP (25 + r) (cw_ro hpr) rfl 1 (by decide) lk15 (fun _ h9 => h9) rfl dRo_isEmpty_1 ?_
  refine lv_if_ne hx hb dRo_isEmpty_4 rfl (fun h1 => ?_) (fun h1 => ?_)
  · have hwp := hwp.1 h1
    refine lv_iconst (v := 0) hx hb dRo_isEmpty_11 (by decide) ?_
    exact W.zret (v := 0) hx hb hr (by decide) (fun t ht hW => ⟨⟨0, σ, rfl, hwp, uEnd ht hW hP hK hD hS hA⟩, hS.F ht⟩) hS.2.2 dRo_isEmpty_12
  · have hwp := hwp.2 h1
    refine lv_iconst (v := 1) hx hb dRo_isEmpty_7 (by decide) ?_
    refine lv_goto hx hb dRo_isEmpty_8 rfl ?_
    exact W.zret (v := 1) hx hb hr (by decide) (fun t ht hW => ⟨⟨1, σ, rfl, hwp, uEnd ht hW hP hK hD hS hA⟩, hS.F ht⟩) hS.2.2 dRo_isEmpty_12
-- NodeServices$NodeRow: boolean contains(int), on Ro
def wC_Ro_contains_2_step (a : Nat → Nat) (r : Nat) (K2 : CS → Int32 → Int32 → Prop) (R : Int32 → CS → Prop) (σ : CS) (y1 : Int32) (y2 : Int32) : Prop :=
  ((((σ.1 (19 + r) 0) ≤ y2) → R 0 σ) ∧ ((¬ (σ.1 (19 + r) 0) ≤ y2) → (vp_in y2 4 ∧ (((¬ (σ.1 (24 + r) y2.toNatClampNeg) = y1) → K2 σ y1 (y2 + 1)) ∧ (((σ.1 (24 + r) y2.toNatClampNeg) = y1) → R 1 σ)))))
def wC_Ro_contains_2 (a : Nat → Nat) (r : Nat) (R : Int32 → CS → Prop) : Nat → CS → Int32 → Int32 → Prop
  | 0 => fun _ _ _ => False
  | k + 1 => fun σ y1 y2 => wC_Ro_contains_2_step a r (wC_Ro_contains_2 a r R k) R σ y1 y2
def wC_Ro_contains (a : Nat → Nat) (r : Nat) (R : Int32 → CS → Prop) (σ : CS) (x1 : Int32) : Prop :=
  wC_Ro_contains_2 a r R 5 σ x1 0
abbrev wsRo_contains : List Cond := .code yRo_contains cRo_contains 3 (some .boolean) :: wg
abbrev rmC_Ro_contains : Room := { frames := 0, cells := 0, slots := 0, locals := 0 }
set_option maxHeartbeats 4000000 in
set_option maxRecDepth 100000 in
theorem kC_Ro_contains (l : Launch) (D : va_G) (a : Nat → Nat) (A : Nat → Prop) (t : Nat → ClassId) (r : Nat) (hpr : r < 5) (σ : CS) (x1 : Int32) (R : Int32 → CS → Prop) (hwp : wC_Ro_contains a r R σ x1) : Met l yRo_contains wsRo_contains rmC_Ro_contains (va_Pc [.ref (a (25 + r)), .int x1] (uI D clA (cT t) A true (cw a t) σ)) (va_Qi R (uI D clA (cT t) A true (cw a t)) A) 0 0 A := by
  refine Met.ofW (cc := cRo_contains) (maxL := 3) (ret := (some .boolean)) (by decide) rfl ?_
  intro p e s m args below meth c s₁ B hml hv
  obtain ⟨rfl, hP, hK, hD, hA⟩ := hv
  have hx := B.exec
  have hb := B.bytes
  have hr := B.returns
  have hts := atoms_spec (ws := wsRo_contains) B.pre
  have hown : s.vm.findClass RRo = some m.cls := findClass_of_methodNamed B.named
  have hlocks := B.notSynchronized
  have hinRo : ∀ w ∈ u_ws RRo TRo 2, w ∈ wsRo_contains := fun w h => List.mem_cons_of_mem _ (inRo w h)
  have lk15 := hts _ (List.mem_cons_of_mem _ wm_126)
  have lk9 := hts _ (List.mem_cons_of_mem _ wm_125)
  have hS : va_S A s.heap s.heap [] := va_S.rf
  have cut2 : ∀ (k2 : Nat) (σ : CS) (y1 : Int32) (y2 : Int32) (H : Heap) (locs : List Loc) (ls : Array Slot), wC_Ro_contains_2 a r R k2 σ y1 y2 → va_P D clA (cw a t σ) H → va_D A (cw a t σ) → va_S A s.heap H locs → lv_has ls 3 [(0, .ref (a (25 + r))), (1, .int y1), (2, .int y2)] → W p l e (headSpec wsRo_contains rmC_Ro_contains).room s m ([.ref (a (25 + r)), .int x1] : List Value).toArray below meth c H locs 0 0 (MQ below (va_Qi R (uI D clA (cT t) A true (cw a t)) A) ([.ref (a (25 + r)), .int x1] : List Value).toArray s 0 0 A) (F0 m 2 ls []) := by
    intro k2
    induction k2 with
    | zero => intro σ y1 y2 H locs ls hwp hP hD hS hl; exact False.elim hwp
    | succ k2 ih2 =>
      intro σ y1 y2 H locs ls hwp hP hD hS hl
      have hwp : wC_Ro_contains_2_step a r (wC_Ro_contains_2 a r R k2) R σ y1 y2 := hwp
      refine lv_iload_n hx hb dRo_contains_2 rfl (lv_at hl 2 rfl) ?_
      refine lv_aload_n hx hb dRo_contains_3 rfl (lv_at hl 0 rfl) ?_
      refine va_get (D := D) (ci := 5) (C := RRo) (T := TRo) (N := 2) hx hb hts hinRo hown hK hP (25 + r) (cw_ro hpr) rfl 1 (by decide) lk15 (fun _ h9 => h9) rfl dRo_contains_4 ?_
      refine lv_icmp_ge hx hb dRo_contains_7 rfl (fun h1 => ?_) (fun h1 => ?_)
      · have hwp := hwp.1 h1
        refine lv_iconst (v := 0) hx hb dRo_contains_28 (by decide) ?_
        exact W.zret (v := 0) hx hb hr (by decide) (fun t ht hW => ⟨⟨0, σ, rfl, hwp, uEnd ht hW hP hK hD hS hA⟩, hS.F ht⟩) hS.2.2 dRo_contains_29
      · have hwp := hwp.2 h1
        refine lv_aload_n hx hb dRo_contains_10 rfl (lv_at hl 0 rfl) ?_
        refine va_get (D := D) (ci := 5) (C := RRo) (T := TRo) (N := 2) hx hb hts hinRo hown hK hP (25 + r) (cw_ro hpr) rfl 0 (by decide) lk9 (fun _ h9 => h9) rfl dRo_contains_11 ?_
        refine lv_iload_n hx hb dRo_contains_14 rfl (lv_at hl 2 rfl) ?_
        obtain ⟨hi2, hwp⟩ := hwp
        refine va_iald hx hb hK hP (30 + r) 0 (cw_na hpr) rfl hi2 dRo_contains_15 ?_
        refine lv_iload_n hx hb dRo_contains_16 rfl (lv_at hl 1 rfl) ?_
        refine lv_icmp_ne hx hb dRo_contains_17 rfl (fun h3 => ?_) (fun h3 => ?_)
        · have hwp := hwp.1 h3
          refine lv_iinc (k := 2) hx hb dRo_contains_22 hl rfl (fx_inc1 _) (by decide) rfl (fun ls hl => ?_)
          have hl : lv_has ls 3 [(2, .int (y2 + 1)), (0, .ref (a (25 + r))), (1, .int y1)] := hl
          refine lv_goto hx hb dRo_contains_25 rfl ?_
          exact ih2 σ y1 (y2 + 1) _ _ _ hwp hP hD hS (lv_sub hl [1, 2, 0] rfl)
        · have hwp := hwp.2 h3
          refine lv_iconst (v := 1) hx hb dRo_contains_20 (by decide) ?_
          exact W.zret (v := 1) hx hb hr (by decide) (fun t ht hW => ⟨⟨1, σ, rfl, hwp, uEnd ht hW hP hK hD hS hA⟩, hS.F ht⟩) hS.2.2 dRo_contains_21
  have hl := lv_entry ([.ref (a (25 + r)), .int x1]) (n := 3) (Nat.le_of_ble_eq_true rfl)
  rw [lg_entry_eq]
  generalize (lg_sl ([.ref (a (25 + r)), .int x1]) ++ List.replicate (3 - (lg_sl ([.ref (a (25 + r)), .int x1])).length) Slot.unset).toArray = ls at hl ⊢
  have hl : lv_has ls 3 [(0, .ref (a (25 + r))), (1, .int x1)] := hl
  refine lv_iconst (v := 0) hx hb dRo_contains_0 (by decide) ?_
  refine lv_istore_n hx hb dRo_contains_1 rfl hl (by decide) rfl (fun ls hl => ?_)
  have hl : lv_has ls 3 [(2, .int 0), (0, .ref (a (25 + r))), (1, .int x1)] := hl
  exact cut2 5 σ x1 0 _ _ _ hwp hP hD hS (lv_sub hl [1, 2, 0] rfl)
-- NodeServices$NodeRow: void append(int), on Ro
def wC_Ro_append (a : Nat → Nat) (r : Nat) (R : CS → Prop) (σ : CS) (x1 : Int32) : Prop :=
  (((4 ≤ (σ.1 (19 + r) 0)) → R σ) ∧ ((¬ 4 ≤ (σ.1 (19 + r) 0)) → (vp_in (σ.1 (19 + r) 0) 4 ∧ (∀ σ3 : CS, σ3 = cu σ (24 + r) (σ.1 (19 + r) 0).toNatClampNeg x1 → (∀ σ4 : CS, σ4 = cu σ3 (19 + r) 0 ((σ3.1 (19 + r) 0) + 1) → R σ4)))))
abbrev wsRo_append : List Cond := .code yRo_append cRo_append 2 none :: wg
abbrev rmC_Ro_append : Room := { frames := 0, cells := 0, slots := 0, locals := 0 }
set_option maxHeartbeats 4000000 in
set_option maxRecDepth 100000 in
theorem kC_Ro_append (l : Launch) (D : va_G) (a : Nat → Nat) (A : Nat → Prop) (t : Nat → ClassId) (r : Nat) (hpr : r < 5) (σ : CS) (x1 : Int32) (R : CS → Prop) (hwp : wC_Ro_append a r R σ x1) : Met l yRo_append wsRo_append rmC_Ro_append (va_Pc [.ref (a (25 + r)), .int x1] (uI D clA (cT t) A true (cw a t) σ)) (va_Qv R (uI D clA (cT t) A true (cw a t)) A) 0 0 A := by
  refine Met.ofW (cc := cRo_append) (maxL := 2) (ret := none) (by decide) rfl ?_
  intro p e s m args below meth c s₁ B hml hv
  obtain ⟨rfl, hP, hK, hD, hA⟩ := hv
  have hx := B.exec
  have hb := B.bytes
  have hr := B.returns
  have hts := atoms_spec (ws := wsRo_append) B.pre
  have hown : s.vm.findClass RRo = some m.cls := findClass_of_methodNamed B.named
  have hlocks := B.notSynchronized
  have hinRo : ∀ w ∈ u_ws RRo TRo 2, w ∈ wsRo_append := fun w h => List.mem_cons_of_mem _ (inRo w h)
  have lk15 := hts _ (List.mem_cons_of_mem _ wm_126)
  have lk9 := hts _ (List.mem_cons_of_mem _ wm_125)
  have hS : va_S A s.heap s.heap [] := va_S.rf
  have hl := lv_entry ([.ref (a (25 + r)), .int x1]) (n := 2) (Nat.le_of_ble_eq_true rfl)
  rw [lg_entry_eq]
  generalize (lg_sl ([.ref (a (25 + r)), .int x1]) ++ List.replicate (2 - (lg_sl ([.ref (a (25 + r)), .int x1])).length) Slot.unset).toArray = ls at hl ⊢
  have hl : lv_has ls 2 [(0, .ref (a (25 + r))), (1, .int x1)] := hl
  refine lv_aload_n hx hb dRo_append_0 rfl (lv_at hl 0 rfl) ?_
  refine va_get (D := D) (ci := 5) (C := RRo) (T := TRo) (N := 2) hx hb hts hinRo hown hK hP (25 + r) (cw_ro hpr) rfl 1 (by decide) lk15 (fun _ h9 => h9) rfl dRo_append_1 ?_
  refine lv_iconst (v := 4) hx hb dRo_append_4 (by decide) ?_
  refine lv_icmp_ge hx hb dRo_append_5 rfl (fun h1 => ?_) (fun h1 => ?_)
  · have hwp := hwp.1 h1
    exact W.vret hx hb hr (fun t ht hW => ⟨⟨σ, rfl, hwp, uEnd ht hW hP hK hD hS hA⟩, hS.F ht⟩) hS.2.2 dRo_append_28
  · have hwp := hwp.2 h1
    refine lv_aload_n hx hb dRo_append_8 rfl (lv_at hl 0 rfl) ?_
    refine va_get (D := D) (ci := 5) (C := RRo) (T := TRo) (N := 2) hx hb hts hinRo hown hK hP (25 + r) (cw_ro hpr) rfl 0 (by decide) lk9 (fun _ h9 => h9) rfl dRo_append_9 ?_
    refine lv_aload_n hx hb dRo_append_12 rfl (lv_at hl 0 rfl) ?_
    refine va_get (D := D) (ci := 5) (C := RRo) (T := TRo) (N := 2) hx hb hts hinRo hown hK hP (25 + r) (cw_ro hpr) rfl 1 (by decide) lk15 (fun _ h9 => h9) rfl dRo_append_13 ?_
    refine lv_iload_n hx hb dRo_append_16 rfl (lv_at hl 1 rfl) ?_
    obtain ⟨hi2, hwp⟩ := hwp
    refine va_iast hx hb hK hP hD hS (30 + r) 0 (cw_na hpr) rfl hi2 dRo_append_17 (fun H locs hP hD hS => ?_)
    obtain ⟨σ3, eσ3⟩ : ∃ z, z = cu σ (24 + r) (σ.1 (19 + r) 0).toNatClampNeg x1 := ⟨_, rfl⟩
    have hwp := hwp σ3 eσ3
    have hP : va_P D clA (cw a t σ3) H := by rw [eσ3, ← cw_na1 (a := a) (t := t) (σ := σ) hpr (σ.1 (19 + r) 0).toNatClampNeg x1]; exact hP
    have hD : va_D A (cw a t σ3) := by rw [eσ3, ← cw_na1 (a := a) (t := t) (σ := σ) hpr (σ.1 (19 + r) 0).toNatClampNeg x1]; exact hD
    refine lv_aload_n hx hb dRo_append_18 rfl (lv_at hl 0 rfl) ?_
    refine lv_dup hx hb dRo_append_19 rfl ?_
    refine va_get (D := D) (ci := 5) (C := RRo) (T := TRo) (N := 2) hx hb hts hinRo hown hK hP (25 + r) (cw_ro hpr) rfl 1 (by decide) lk15 (fun _ h9 => h9) rfl dRo_append_20 ?_
    refine lv_iconst (v := 1) hx hb dRo_append_23 (by decide) ?_
    refine lv_iadd hx hb dRo_append_24 ?_
    refine va_put (ty := .int) (D := D) (ci := 5) (C := RRo) (T := TRo) (N := 2) hx hb hts hinRo tyRo tyRo_ok nmRo hown hK hP hD hS (25 + r) (cw_ro hpr) rfl 1 (by decide) lk15 (fun _ h9 => h9) rfl (by decide +kernel) rfl rfl (Nat.le_of_ble_eq_true rfl) dRo_append_25 (fun H locs hP hD hS => ?_)
    obtain ⟨σ4, eσ4⟩ : ∃ z, z = cu σ3 (19 + r) 0 ((σ3.1 (19 + r) 0) + 1) := ⟨_, rfl⟩
    have hwp := hwp σ4 eσ4
    have hP : va_P D clA (cw a t σ4) H := by rw [eσ4, ← cw_ro1 (a := a) (t := t) (σ := σ3) hpr ((σ3.1 (19 + r) 0) + 1)]; exact hP
    have hD : va_D A (cw a t σ4) := by rw [eσ4, ← cw_ro1 (a := a) (t := t) (σ := σ3) hpr ((σ3.1 (19 + r) 0) + 1)]; exact hD
    exact W.vret hx hb hr (fun t ht hW => ⟨⟨σ4, rfl, hwp, uEnd ht hW hP hK hD hS hA⟩, hS.F ht⟩) hS.2.2 dRo_append_28
-- NodeServices$NodeRow: int takeHead(), on Ro
def wC_Ro_takeHead_54 (a : Nat → Nat) (r : Nat) (R : Int32 → CS → Prop) (σ : CS) (y1 : Int32) (y2 : Int32) : Prop :=
  R y1 σ
def wC_Ro_takeHead_9_step (a : Nat → Nat) (r : Nat) (K9 : CS → Int32 → Int32 → Prop) (R : Int32 → CS → Prop) (σ : CS) (y1 : Int32) (y2 : Int32) : Prop :=
  ((((σ.1 (19 + r) 0) ≤ y2) → ((((σ.1 (19 + r) 0) ≤ 0) → wC_Ro_takeHead_54 a r R σ y1 y2) ∧ ((¬ (σ.1 (19 + r) 0) ≤ 0) → (∀ σ3 : CS, σ3 = cu σ (19 + r) 0 ((σ.1 (19 + r) 0) - 1) → wC_Ro_takeHead_54 a r R σ3 y1 y2)))) ∧ ((¬ (σ.1 (19 + r) 0) ≤ y2) → (vp_in y2 4 ∧ (vp_in (y2 - 1) 4 ∧ (∀ σ6 : CS, σ6 = cu σ (24 + r) (y2 - 1).toNatClampNeg (σ.1 (24 + r) y2.toNatClampNeg) → K9 σ6 y1 (y2 + 1))))))
def wC_Ro_takeHead_9 (a : Nat → Nat) (r : Nat) (R : Int32 → CS → Prop) : Nat → CS → Int32 → Int32 → Prop
  | 0 => fun _ _ _ => False
  | k + 1 => fun σ y1 y2 => wC_Ro_takeHead_9_step a r (wC_Ro_takeHead_9 a r R k) R σ y1 y2
def wC_Ro_takeHead (a : Nat → Nat) (r : Nat) (R : Int32 → CS → Prop) (σ : CS) : Prop :=
  (∀ v7 : Int32, v7 = σ.1 (24 + r) (0 : Int32).toNatClampNeg → wC_Ro_takeHead_9 a r R 5 σ v7 1)
abbrev wsRo_takeHead : List Cond := .code yRo_takeHead cRo_takeHead 3 (some .int) :: wg
abbrev rmC_Ro_takeHead : Room := { frames := 0, cells := 0, slots := 0, locals := 0 }
set_option maxHeartbeats 4000000 in
set_option maxRecDepth 100000 in
theorem kC_Ro_takeHead (l : Launch) (D : va_G) (a : Nat → Nat) (A : Nat → Prop) (t : Nat → ClassId) (r : Nat) (hpr : r < 5) (σ : CS) (R : Int32 → CS → Prop) (hwp : wC_Ro_takeHead a r R σ ) : Met l yRo_takeHead wsRo_takeHead rmC_Ro_takeHead (va_Pc [.ref (a (25 + r))] (uI D clA (cT t) A true (cw a t) σ)) (va_Qi R (uI D clA (cT t) A true (cw a t)) A) 0 0 A := by
  refine Met.ofW (cc := cRo_takeHead) (maxL := 3) (ret := (some .int)) (by decide) rfl ?_
  intro p e s m args below meth c s₁ B hml hv
  obtain ⟨rfl, hP, hK, hD, hA⟩ := hv
  have hx := B.exec
  have hb := B.bytes
  have hr := B.returns
  have hts := atoms_spec (ws := wsRo_takeHead) B.pre
  have hown : s.vm.findClass RRo = some m.cls := findClass_of_methodNamed B.named
  have hlocks := B.notSynchronized
  have hinRo : ∀ w ∈ u_ws RRo TRo 2, w ∈ wsRo_takeHead := fun w h => List.mem_cons_of_mem _ (inRo w h)
  have lk15 := hts _ (List.mem_cons_of_mem _ wm_126)
  have lk9 := hts _ (List.mem_cons_of_mem _ wm_125)
  have hS : va_S A s.heap s.heap [] := va_S.rf
  have cut54 : ∀ (σ : CS) (y1 : Int32) (y2 : Int32) (H : Heap) (locs : List Loc) (ls : Array Slot), wC_Ro_takeHead_54 a r R σ y1 y2 → va_P D clA (cw a t σ) H → va_D A (cw a t σ) → va_S A s.heap H locs → lv_has ls 3 [(0, .ref (a (25 + r))), (1, .int y1), (2, .int y2)] → W p l e (headSpec wsRo_takeHead rmC_Ro_takeHead).room s m ([.ref (a (25 + r))] : List Value).toArray below meth c H locs 0 0 (MQ below (va_Qi R (uI D clA (cT t) A true (cw a t)) A) ([.ref (a (25 + r))] : List Value).toArray s 0 0 A) (F0 m 54 ls []) := by
    intro σ y1 y2 H locs ls hwp hP hD hS hl
    refine lv_iload_n hx hb dRo_takeHead_54 rfl (lv_at hl 1 rfl) ?_
    exact W.iret (v := y1) hx hb hr (fun t ht hW => ⟨⟨y1, σ, rfl, hwp, uEnd ht hW hP hK hD hS hA⟩, hS.F ht⟩) hS.2.2 dRo_takeHead_55
  have cut9 : ∀ (k9 : Nat) (σ : CS) (y1 : Int32) (y2 : Int32) (H : Heap) (locs : List Loc) (ls : Array Slot), wC_Ro_takeHead_9 a r R k9 σ y1 y2 → va_P D clA (cw a t σ) H → va_D A (cw a t σ) → va_S A s.heap H locs → lv_has ls 3 [(0, .ref (a (25 + r))), (1, .int y1), (2, .int y2)] → W p l e (headSpec wsRo_takeHead rmC_Ro_takeHead).room s m ([.ref (a (25 + r))] : List Value).toArray below meth c H locs 0 0 (MQ below (va_Qi R (uI D clA (cT t) A true (cw a t)) A) ([.ref (a (25 + r))] : List Value).toArray s 0 0 A) (F0 m 9 ls []) := by
    intro k9
    induction k9 with
    | zero => intro σ y1 y2 H locs ls hwp hP hD hS hl; exact False.elim hwp
    | succ k9 ih9 =>
      intro σ y1 y2 H locs ls hwp hP hD hS hl
      have hwp : wC_Ro_takeHead_9_step a r (wC_Ro_takeHead_9 a r R k9) R σ y1 y2 := hwp
      refine lv_iload_n hx hb dRo_takeHead_9 rfl (lv_at hl 2 rfl) ?_
      refine lv_aload_n hx hb dRo_takeHead_10 rfl (lv_at hl 0 rfl) ?_
      refine va_get (D := D) (ci := 5) (C := RRo) (T := TRo) (N := 2) hx hb hts hinRo hown hK hP (25 + r) (cw_ro hpr) rfl 1 (by decide) lk15 (fun _ h9 => h9) rfl dRo_takeHead_11 ?_
      refine lv_icmp_ge hx hb dRo_takeHead_14 rfl (fun h1 => ?_) (fun h1 => ?_)
      · have hwp := hwp.1 h1
        refine lv_aload_n hx hb dRo_takeHead_37 rfl (lv_at hl 0 rfl) ?_
        refine va_get (D := D) (ci := 5) (C := RRo) (T := TRo) (N := 2) hx hb hts hinRo hown hK hP (25 + r) (cw_ro hpr) rfl 1 (by decide) lk15 (fun _ h9 => h9) rfl dRo_takeHead_38 ?_
        refine lv_if_le hx hb dRo_takeHead_41 rfl (fun h2 => ?_) (fun h2 => ?_)
        · have hwp := hwp.1 h2
          exact cut54 σ y1 y2 _ _ _ hwp hP hD hS (lv_sub hl [0, 1, 2] rfl)
        · have hwp := hwp.2 h2
          refine lv_aload_n hx hb dRo_takeHead_44 rfl (lv_at hl 0 rfl) ?_
          refine lv_dup hx hb dRo_takeHead_45 rfl ?_
          refine va_get (D := D) (ci := 5) (C := RRo) (T := TRo) (N := 2) hx hb hts hinRo hown hK hP (25 + r) (cw_ro hpr) rfl 1 (by decide) lk15 (fun _ h9 => h9) rfl dRo_takeHead_46 ?_
          refine lv_iconst (v := 1) hx hb dRo_takeHead_49 (by decide) ?_
          refine lv_isub hx hb dRo_takeHead_50 ?_
          refine va_put (ty := .int) (D := D) (ci := 5) (C := RRo) (T := TRo) (N := 2) hx hb hts hinRo tyRo tyRo_ok nmRo hown hK hP hD hS (25 + r) (cw_ro hpr) rfl 1 (by decide) lk15 (fun _ h9 => h9) rfl (by decide +kernel) rfl rfl (Nat.le_of_ble_eq_true rfl) dRo_takeHead_51 (fun H locs hP hD hS => ?_)
          obtain ⟨σ3, eσ3⟩ : ∃ z, z = cu σ (19 + r) 0 ((σ.1 (19 + r) 0) - 1) := ⟨_, rfl⟩
          have hwp := hwp σ3 eσ3
          have hP : va_P D clA (cw a t σ3) H := by rw [eσ3, ← cw_ro1 (a := a) (t := t) (σ := σ) hpr ((σ.1 (19 + r) 0) - 1)]; exact hP
          have hD : va_D A (cw a t σ3) := by rw [eσ3, ← cw_ro1 (a := a) (t := t) (σ := σ) hpr ((σ.1 (19 + r) 0) - 1)]; exact hD
          exact cut54 σ3 y1 y2 _ _ _ hwp hP hD hS (lv_sub hl [0, 1, 2] rfl)
      · have hwp := hwp.2 h1
        refine lv_aload_n hx hb dRo_takeHead_17 rfl (lv_at hl 0 rfl) ?_
        refine va_get (D := D) (ci := 5) (C := RRo) (T := TRo) (N := 2) hx hb hts hinRo hown hK hP (25 + r) (cw_ro hpr) rfl 0 (by decide) lk9 (fun _ h9 => h9) rfl dRo_takeHead_18 ?_
        refine lv_iload_n hx hb dRo_takeHead_21 rfl (lv_at hl 2 rfl) ?_
        refine lv_iconst (v := 1) hx hb dRo_takeHead_22 (by decide) ?_
        refine lv_isub hx hb dRo_takeHead_23 ?_
        refine lv_aload_n hx hb dRo_takeHead_24 rfl (lv_at hl 0 rfl) ?_
        refine va_get (D := D) (ci := 5) (C := RRo) (T := TRo) (N := 2) hx hb hts hinRo hown hK hP (25 + r) (cw_ro hpr) rfl 0 (by decide) lk9 (fun _ h9 => h9) rfl dRo_takeHead_25 ?_
        refine lv_iload_n hx hb dRo_takeHead_28 rfl (lv_at hl 2 rfl) ?_
        obtain ⟨hi4, hwp⟩ := hwp
        refine va_iald hx hb hK hP (30 + r) 0 (cw_na hpr) rfl hi4 dRo_takeHead_29 ?_
        obtain ⟨hi5, hwp⟩ := hwp
        refine va_iast hx hb hK hP hD hS (30 + r) 0 (cw_na hpr) rfl hi5 dRo_takeHead_30 (fun H locs hP hD hS => ?_)
        obtain ⟨σ6, eσ6⟩ : ∃ z, z = cu σ (24 + r) (y2 - 1).toNatClampNeg (σ.1 (24 + r) y2.toNatClampNeg) := ⟨_, rfl⟩
        have hwp := hwp σ6 eσ6
        have hP : va_P D clA (cw a t σ6) H := by rw [eσ6, ← cw_na1 (a := a) (t := t) (σ := σ) hpr (y2 - 1).toNatClampNeg (σ.1 (24 + r) y2.toNatClampNeg)]; exact hP
        have hD : va_D A (cw a t σ6) := by rw [eσ6, ← cw_na1 (a := a) (t := t) (σ := σ) hpr (y2 - 1).toNatClampNeg (σ.1 (24 + r) y2.toNatClampNeg)]; exact hD
        refine lv_iinc (k := 2) hx hb dRo_takeHead_31 hl rfl (fx_inc1 _) (by decide) rfl (fun ls hl => ?_)
        have hl : lv_has ls 3 [(2, .int (y2 + 1)), (0, .ref (a (25 + r))), (1, .int y1)] := hl
        refine lv_goto hx hb dRo_takeHead_34 rfl ?_
        exact ih9 σ6 y1 (y2 + 1) _ _ _ hwp hP hD hS (lv_sub hl [1, 2, 0] rfl)
  have hl := lv_entry ([.ref (a (25 + r))]) (n := 3) (Nat.le_of_ble_eq_true rfl)
  rw [lg_entry_eq]
  generalize (lg_sl ([.ref (a (25 + r))]) ++ List.replicate (3 - (lg_sl ([.ref (a (25 + r))])).length) Slot.unset).toArray = ls at hl ⊢
  have hl : lv_has ls 3 [(0, .ref (a (25 + r)))] := hl
  refine lv_aload_n hx hb dRo_takeHead_0 rfl (lv_at hl 0 rfl) ?_
  refine va_get (D := D) (ci := 5) (C := RRo) (T := TRo) (N := 2) hx hb hts hinRo hown hK hP (25 + r) (cw_ro hpr) rfl 0 (by decide) lk9 (fun _ h9 => h9) rfl dRo_takeHead_1 ?_
  refine lv_iconst (v := 0) hx hb dRo_takeHead_4 (by decide) ?_
  refine va_iald hx hb hK hP (30 + r) 0 (cw_na hpr) rfl (by unfold vp_in; decide) dRo_takeHead_5 ?_
  refine lv_topi (fun v7 ev7 => ?_)
  have hwp := hwp v7 ev7
  refine lv_istore_n hx hb dRo_takeHead_6 rfl hl (by decide) rfl (fun ls hl => ?_)
  have hl : lv_has ls 3 [(1, .int v7), (0, .ref (a (25 + r)))] := hl
  refine lv_iconst (v := 1) hx hb dRo_takeHead_7 (by decide) ?_
  refine lv_istore_n hx hb dRo_takeHead_8 rfl hl (by decide) rfl (fun ls hl => ?_)
  have hl : lv_has ls 3 [(2, .int 1), (1, .int v7), (0, .ref (a (25 + r)))] := hl
  exact cut9 5 σ v7 1 _ _ _ hwp hP hD hS (lv_sub hl [2, 1, 0] rfl)
-- NodeServices$Network: NodeServices$Channel channel(int, int), on Nw
def wC_Nw_channel (a : Nat → Nat) (R : Option Nat → CS → Prop) (σ : CS) (x1 x2 : Int32) : Prop :=
  (vp_in ((x1 * 4) + x2) 16 ∧ R (some (a (42 + ((x1 * 4) + x2).toNatClampNeg))) σ)
abbrev wsNw_channel : List Cond := .code yNw_channel cNw_channel 3 (some (.object "NodeServices$Channel")) :: wg
abbrev rmC_Nw_channel : Room := { frames := 0, cells := 0, slots := 0, locals := 0 }
set_option maxHeartbeats 4000000 in
set_option maxRecDepth 100000 in
theorem kC_Nw_channel (l : Launch) (D : va_G) (a : Nat → Nat) (A : Nat → Prop) (t : Nat → ClassId) (σ : CS) (x1 x2 : Int32) (R : Option Nat → CS → Prop) (hwp : wC_Nw_channel a R σ x1 x2) : Met l yNw_channel wsNw_channel rmC_Nw_channel (va_Pc [.ref (a 1), .int x1, .int x2] (uI D clA (cT t) A true (cw a t) σ)) (va_Qq R (uI D clA (cT t) A true (cw a t)) A) 0 0 A := by
  refine Met.ofW (cc := cNw_channel) (maxL := 3) (ret := (some (.object "NodeServices$Channel"))) (by decide) rfl ?_
  intro p e s m args below meth c s₁ B hml hv
  obtain ⟨rfl, hP, hK, hD, hA⟩ := hv
  have hx := B.exec
  have hb := B.bytes
  have hr := B.returns
  have hts := atoms_spec (ws := wsNw_channel) B.pre
  have hown : s.vm.findClass RNw = some m.cls := findClass_of_methodNamed B.named
  have hlocks := B.notSynchronized
  have hinNw : ∀ w ∈ u_ws RNw TNw 2, w ∈ wsNw_channel := fun w h => List.mem_cons_of_mem _ (inNw w h)
  have lk11 := hts _ (List.mem_cons_of_mem _ wm_54)
  have hS : va_S A s.heap s.heap [] := va_S.rf
  have hl := lv_entry ([.ref (a 1), .int x1, .int x2]) (n := 3) (Nat.le_of_ble_eq_true rfl)
  rw [lg_entry_eq]
  generalize (lg_sl ([.ref (a 1), .int x1, .int x2]) ++ List.replicate (3 - (lg_sl ([.ref (a 1), .int x1, .int x2])).length) Slot.unset).toArray = ls at hl ⊢
  have hl : lv_has ls 3 [(0, .ref (a 1)), (1, .int x1), (2, .int x2)] := hl
  refine lv_aload_n hx hb dNw_channel_0 rfl (lv_at hl 0 rfl) ?_
  refine va_get (D := D) (ci := 2) (C := RNw) (T := TNw) (N := 2) hx hb hts hinNw hown hK hP 1 rfl rfl 0 (by decide) lk11 (fun _ h9 => h9) rfl dNw_channel_1 ?_
  refine lv_iload_n hx hb dNw_channel_4 rfl (lv_at hl 1 rfl) ?_
  refine lv_iconst (v := 4) hx hb dNw_channel_5 (by decide) ?_
  refine lv_imul hx hb dNw_channel_6 ?_
  refine lv_iload_n hx hb dNw_channel_7 rfl (lv_at hl 2 rfl) ?_
  refine lv_iadd hx hb dNw_channel_8 ?_
  obtain ⟨hi1, hwp⟩ := hwp
  refine va_aldq hx hb hK hP 2 2 rfl rfl hi1 dNw_channel_9 ?_
  refine W.eq (g2 := F0 m 10 ls [.ref (a (42 + ((x1 * 4) + x2).toNatClampNeg))]) rfl ?_
  exact W.aret (v := .ref (a (42 + ((x1 * 4) + x2).toNatClampNeg))) hx hb hr (Or.inl ⟨_, rfl⟩) (Or.inr ⟨_, rfl⟩) (fun t ht hW => ⟨⟨some (a (42 + ((x1 * 4) + x2).toNatClampNeg)), σ, rfl, hwp, uEnd ht hW hP hK hD hS hA⟩, hS.F ht⟩) hS.2.2 dNw_channel_10
-- NodeServices$Network: void post(int, int, NodeServices$Message), on Nw
def wC_Nw_post (a : Nat → Nat) (q : Nat) (R : CS → Prop) (σ : CS) (x1 x2 : Int32) : Prop :=
  (∀ σ1 : CS, σ1 = cu σ 0 0 ((σ.1 0 0) + 1) → (∃ P2 : Option Nat → CS → Prop, wC_Nw_channel a P2 σ1 x1 x2 ∧ (∀ (r4 : Option Nat) (u3 : CS), P2 r4 u3 → (∃ k5 : Nat, k5 < 16 ∧ r4 = some (a (42 + k5)) ∧ (∃ P6 : CS → Prop, wC_Ch_append a k5 q P6 u3 ∧ (∀ (u7 : CS), P6 u7 → R u7))))))
abbrev wsNw_post : List Cond := .code yNw_post cNw_post 4 none :: wg
abbrev rmC_Nw_post : Room := { frames := 1, cells := 0, slots := 0, locals := 22 }
set_option maxHeartbeats 4000000 in
set_option maxRecDepth 100000 in
theorem kC_Nw_post (l : Launch) (D : va_G) (a : Nat → Nat) (A : Nat → Prop) (t : Nat → ClassId) (q : Nat) (σ : CS) (x1 x2 : Int32) (R : CS → Prop) (hwp : wC_Nw_post a q R σ x1 x2) : Met l yNw_post wsNw_post rmC_Nw_post (va_Pc [.ref (a 1), .int x1, .int x2, .ref q] (uI D clA (cT t) A true (cw a t) σ)) (va_Qv R (uI D clA (cT t) A true (cw a t)) A) 0 0 A := by
  refine Met.ofW (cc := cNw_post) (maxL := 4) (ret := none) (by decide) rfl ?_
  intro p e s m args below meth c s₁ B hml hv
  obtain ⟨rfl, hP, hK, hD, hA⟩ := hv
  have hx := B.exec
  have hb := B.bytes
  have hr := B.returns
  have hts := atoms_spec (ws := wsNw_post) B.pre
  have hown : s.vm.findClass RNw = some m.cls := findClass_of_methodNamed B.named
  have hlocks := B.notSynchronized
  have hinNw : ∀ w ∈ u_ws RNw TNw 2, w ∈ wsNw_post := fun w h => List.mem_cons_of_mem _ (inNw w h)
  have lk18 := hts _ (List.mem_cons_of_mem _ wm_55)
  have hS : va_S A s.heap s.heap [] := va_S.rf
  have hl := lv_entry ([.ref (a 1), .int x1, .int x2, .ref q]) (n := 4) (Nat.le_of_ble_eq_true rfl)
  rw [lg_entry_eq]
  generalize (lg_sl ([.ref (a 1), .int x1, .int x2, .ref q]) ++ List.replicate (4 - (lg_sl ([.ref (a 1), .int x1, .int x2, .ref q])).length) Slot.unset).toArray = ls at hl ⊢
  have hl : lv_has ls 4 [(0, .ref (a 1)), (1, .int x1), (2, .int x2), (3, .ref q)] := hl
  refine lv_aload_n hx hb dNw_post_0 rfl (lv_at hl 0 rfl) ?_
  refine lv_dup hx hb dNw_post_1 rfl ?_
  refine va_get (D := D) (ci := 2) (C := RNw) (T := TNw) (N := 2) hx hb hts hinNw hown hK hP 1 rfl rfl 1 (by decide) lk18 (fun _ h9 => h9) rfl dNw_post_2 ?_
  refine lv_iconst (v := 1) hx hb dNw_post_5 (by decide) ?_
  refine lv_iadd hx hb dNw_post_6 ?_
  refine va_put (ty := .int) (D := D) (ci := 2) (C := RNw) (T := TNw) (N := 2) hx hb hts hinNw tyNw tyNw_ok nmNw hown hK hP hD hS 1 rfl rfl 1 (by decide) lk18 (fun _ h9 => h9) rfl (by decide +kernel) rfl rfl (Nat.le_of_ble_eq_true rfl) dNw_post_7 (fun H locs hP hD hS => ?_)
  obtain ⟨σ1, eσ1⟩ : ∃ z, z = cu σ 0 0 ((σ.1 0 0) + 1) := ⟨_, rfl⟩
  have hwp := hwp σ1 eσ1
  have hP : va_P D clA (cw a t σ1) H := by rw [eσ1]; exact hP
  have hD : va_D A (cw a t σ1) := by rw [eσ1]; exact hD
  refine lv_aload_n hx hb dNw_post_10 rfl (lv_at hl 0 rfl) ?_
  refine lv_iload_n hx hb dNw_post_11 rfl (lv_at hl 1 rfl) ?_
  refine lv_iload_n hx hb dNw_post_12 rfl (lv_at hl 2 rfl) ?_
  obtain ⟨P2, hP2, hwp⟩ := hwp
  refine uCallVq (As := [.int x1, .int x2]) (rest := []) (C := RNw) ⟨hx, hb, hml, hown, hts⟩ (kC_Nw_channel l D a A t   σ1 x1 x2 P2 hP2) (cwV 2 hts (gdV wm_414 wm_415 wm_416 wm_2 wm_417) rfl rfl rfl (by decide +kernel) ⟨Nat.le_of_ble_eq_true rfl, Nat.le_of_ble_eq_true rfl⟩) (va_recv (ci := 2) (q0 := 1) hK hP rfl rfl) hP hK hD hA hS rfl hl.1 rfl (Nat.le_of_ble_eq_true rfl) dNw_post_13 ⟨Nat.le_of_ble_eq_true rfl, Nat.le_of_ble_eq_true rfl⟩ (fun r4 u3 H locs hu3 hP hD hS => ?_)
  have hwp := hwp r4 u3 hu3
  obtain ⟨k5, hk5, ek5, hwp⟩ := hwp
  subst ek5
  refine W.eq (g2 := F0 m 16 ls [.ref (a (42 + k5))]) rfl ?_
  refine lv_aload_n hx hb dNw_post_16 rfl (lv_at hl 3 rfl) ?_
  obtain ⟨P6, hP6, hwp⟩ := hwp
  refine uCallVv (As := [.ref q]) (rest := []) (C := RCh) ⟨hx, hb, hml, hown, hts⟩ (kC_Ch_append l D a A t k5 q hk5 u3  P6 hP6) (cwV 1 hts (gdV wm_418 wm_419 wm_420 wm_3 wm_421) rfl rfl rfl (by decide +kernel) ⟨Nat.le_of_ble_eq_true rfl, Nat.le_of_ble_eq_true rfl⟩) (va_recv (ci := 3) (q0 := (42 + k5)) hK hP rfl (cw_ch hk5)) hP hK hD hA hS rfl hl.1 rfl (Nat.le_of_ble_eq_true rfl) dNw_post_17 ⟨Nat.le_of_ble_eq_true rfl, Nat.le_of_ble_eq_true rfl⟩ (fun u7 H locs hu7 hP hD hS => ?_)
  have hwp := hwp u7 hu7
  exact W.vret hx hb hr (fun t ht hW => ⟨⟨u7, rfl, hwp, uEnd ht hW hP hK hD hS hA⟩, hS.F ht⟩) hS.2.2 dNw_post_20
-- NodeServices$Service: void send(int, int, int, int), on St
def wC_St_send (a : Nat → Nat) (R : CS → Prop) (σ : CS) (x1 x2 x3 x4 : Int32) : Prop :=
  (∀ q1 : Nat, q1 ∉ σ.2.2 → ∀ σ2 : CS, σ2 = cn σ q1 → (∃ P3 : CS → Prop, wC_Ms_init a q1 P3 σ2 0 x3 x4 ∧ (∀ (u4 : CS), P3 u4 → (∃ P5 : CS → Prop, wC_Nw_post a q1 P5 u4 x1 x2 ∧ (∀ (u6 : CS), P5 u6 → R u6)))))
abbrev wsSv_send : List Cond := .code ySv_send cSv_send 5 none :: wg
abbrev rmC_St_send : Room := { frames := 2, cells := 1, slots := 4, locals := 45 }
set_option maxHeartbeats 4000000 in
set_option maxRecDepth 100000 in
theorem kC_St_send (l : Launch) (D : va_G) (a : Nat → Nat) (A : Nat → Prop) (t : Nat → ClassId) (σ : CS) (x1 x2 x3 x4 : Int32) (R : CS → Prop) (hwp : wC_St_send a R σ x1 x2 x3 x4) : Met l ySv_send wsSv_send rmC_St_send (va_Pc [.ref (a 5), .int x1, .int x2, .int x3, .int x4] (uI D clA (cT t) A true (cw a t) σ)) (va_Qv R (uI D clA (cT t) A true (cw a t)) A) 1 4 A := by
  refine Met.ofW (cc := cSv_send) (maxL := 5) (ret := none) (by decide) rfl ?_
  intro p e s m args below meth c s₁ B hml hv
  obtain ⟨rfl, hP, hK, hD, hA⟩ := hv
  have hx := B.exec
  have hb := B.bytes
  have hr := B.returns
  have hts := atoms_spec (ws := wsSv_send) B.pre
  have hown : s.vm.findClass RSv = some m.cls := findClass_of_methodNamed B.named
  have hlocks := B.notSynchronized
  have hinMs : ∀ w ∈ u_ws RMs TMs 4, w ∈ wsSv_send := fun w h => List.mem_cons_of_mem _ (inMs w h)
  have hinSt : ∀ w ∈ u_ws RSt TSt 8, w ∈ wsSv_send := fun w h => List.mem_cons_of_mem _ (inSt w h)
  have lk15 := hts _ (List.mem_cons_of_mem _ wm_91)
  have lk9 := hts _ (List.mem_cons_of_mem _ wm_90)
  have hS : va_S A s.heap s.heap [] := va_S.rf
  have hl := lv_entry ([.ref (a 5), .int x1, .int x2, .int x3, .int x4]) (n := 5) (Nat.le_of_ble_eq_true rfl)
  rw [lg_entry_eq]
  generalize (lg_sl ([.ref (a 5), .int x1, .int x2, .int x3, .int x4]) ++ List.replicate (5 - (lg_sl ([.ref (a 5), .int x1, .int x2, .int x3, .int x4])).length) Slot.unset).toArray = ls at hl ⊢
  have hl : lv_has ls 5 [(0, .ref (a 5)), (1, .int x1), (2, .int x2), (3, .int x3), (4, .int x4)] := hl
  refine lv_aload_n hx hb dSv_send_0 rfl (lv_at hl 0 rfl) ?_
  refine va_get (D := D) (ci := 6) (C := RSt) (T := TSt) (N := 8) hx hb hts hinSt hown hK hP 5 rfl rfl 6 (by decide) lk9 (fun _ h9 => h9) rfl dSv_send_1 ?_
  refine lv_iload_n hx hb dSv_send_4 rfl (lv_at hl 1 rfl) ?_
  refine lv_iload_n hx hb dSv_send_5 rfl (lv_at hl 2 rfl) ?_
  refine va_new (ci := 4) (fs := [.int 0, .int 0, .int 0, .null]) (C := RMs) (T := TMs) (N := 4) hx hb hts hinMs tyMs tyMs_ok hown (hts _ (List.mem_cons_of_mem _ wm_380)) (hts _ (List.mem_cons_of_mem _ wm_381)) (hts _ (List.mem_cons_of_mem _ wm_19)) hK hP hD hS (hA rfl) rfl (fun j hj => by rcases (show j = 0 ∨ j = 1 ∨ j = 2 ∨ j = 3 by omega) with rfl | rfl | rfl | rfl <;> rfl) (Nat.le_of_ble_eq_true rfl) (Nat.le_of_ble_eq_true rfl) dSv_send_6 (fun q1 H hP hD hS => ?_)
  have hqq1 : q1 ∉ σ.2.2 := va_pl_fresh2 (X := cF a t σ) (f := cG σ) hD
  obtain ⟨σ2, eσ2⟩ : ∃ z, z = cn σ q1 := ⟨_, rfl⟩
  have hwp := hwp q1 hqq1 σ2 eσ2
  have hP : va_P D clA (cw a t σ2) H := by rw [eσ2, ← cw_new hqq1]; exact hP
  have hD : va_D A (cw a t σ2) := by rw [eσ2, ← cw_new hqq1]; exact hD
  refine lv_dup hx hb dSv_send_9 rfl ?_
  refine lv_aload_n hx hb dSv_send_10 rfl (lv_at hl 0 rfl) ?_
  refine va_get (D := D) (ci := 6) (C := RSt) (T := TSt) (N := 8) hx hb hts hinSt hown hK hP 5 rfl rfl 7 (by decide) lk15 (fun _ h9 => h9) rfl dSv_send_11 ?_
  refine lv_iload_n hx hb dSv_send_14 rfl (lv_at hl 3 rfl) ?_
  refine lv_iload hx hb dSv_send_15 (lv_at hl 4 rfl) ?_
  obtain ⟨P3, hP3, hwp⟩ := hwp
  refine uCallIv (b := q1) (As := [.int 0, .int x3, .int x4]) (rest := [.ref q1, .int x2, .int x1, .ref (a 1)]) ⟨hx, hb, hml, hown, hts⟩ (kC_Ms_init l D a A t q1  σ2 0 x3 x4 P3 hP3) (cwI 3 hts (gdc wm_384) rfl rfl rfl (hts _ (List.mem_cons_of_mem _ wm_19)) (hts _ (List.mem_cons_of_mem _ wm_382)) (hts _ (List.mem_cons_of_mem _ wm_383)) rfl (by decide +kernel) ⟨Nat.le_of_ble_eq_true rfl, Nat.le_of_ble_eq_true rfl⟩) hP hK hD hA hS rfl hl.1 rfl (Nat.le_of_ble_eq_true rfl) dSv_send_17 ⟨Nat.le_of_ble_eq_true rfl, Nat.le_of_ble_eq_true rfl⟩ (fun u4 H locs hu4 hP hD hS => ?_)
  have hwp := hwp u4 hu4
  obtain ⟨P5, hP5, hwp⟩ := hwp
  refine uCallVv (As := [.int x1, .int x2, .ref q1]) (rest := []) (C := RNw) ⟨hx, hb, hml, hown, hts⟩ (kC_Nw_post l D a A t q1  u4 x1 x2 P5 hP5) (cwV 3 hts (gdV wm_410 wm_411 wm_412 wm_2 wm_413) rfl rfl rfl (by decide +kernel) ⟨Nat.le_of_ble_eq_true rfl, Nat.le_of_ble_eq_true rfl⟩) (va_recv (ci := 2) (q0 := 1) hK hP rfl rfl) hP hK hD hA hS rfl hl.1 rfl (Nat.le_of_ble_eq_true rfl) dSv_send_20 ⟨Nat.le_of_ble_eq_true rfl, Nat.le_of_ble_eq_true rfl⟩ (fun u6 H locs hu6 hP hD hS => ?_)
  have hwp := hwp u6 hu6
  exact W.vret hx hb hr (fun t ht hW => ⟨⟨u6, rfl, hwp, uEnd ht hW hP hK hD hS hA⟩, hS.F ht⟩) hS.2.2 dSv_send_23
-- NodeServices$Service: void send(int, int, int, int), on Tk
def wC_Tk_send (a : Nat → Nat) (R : CS → Prop) (σ : CS) (x1 x2 x3 x4 : Int32) : Prop :=
  (∀ q1 : Nat, q1 ∉ σ.2.2 → ∀ σ2 : CS, σ2 = cn σ q1 → (∃ P3 : CS → Prop, wC_Ms_init a q1 P3 σ2 1 x3 x4 ∧ (∀ (u4 : CS), P3 u4 → (∃ P5 : CS → Prop, wC_Nw_post a q1 P5 u4 x1 x2 ∧ (∀ (u6 : CS), P5 u6 → R u6)))))
abbrev rmC_Tk_send : Room := { frames := 2, cells := 1, slots := 4, locals := 45 }
set_option maxHeartbeats 4000000 in
set_option maxRecDepth 100000 in
theorem kC_Tk_send (l : Launch) (D : va_G) (a : Nat → Nat) (A : Nat → Prop) (t : Nat → ClassId) (σ : CS) (x1 x2 x3 x4 : Int32) (R : CS → Prop) (hwp : wC_Tk_send a R σ x1 x2 x3 x4) : Met l ySv_send wsSv_send rmC_Tk_send (va_Pc [.ref (a 11), .int x1, .int x2, .int x3, .int x4] (uI D clA (cT t) A true (cw a t) σ)) (va_Qv R (uI D clA (cT t) A true (cw a t)) A) 1 4 A := by
  refine Met.ofW (cc := cSv_send) (maxL := 5) (ret := none) (by decide) rfl ?_
  intro p e s m args below meth c s₁ B hml hv
  obtain ⟨rfl, hP, hK, hD, hA⟩ := hv
  have hx := B.exec
  have hb := B.bytes
  have hr := B.returns
  have hts := atoms_spec (ws := wsSv_send) B.pre
  have hown : s.vm.findClass RSv = some m.cls := findClass_of_methodNamed B.named
  have hlocks := B.notSynchronized
  have hinMs : ∀ w ∈ u_ws RMs TMs 4, w ∈ wsSv_send := fun w h => List.mem_cons_of_mem _ (inMs w h)
  have hinTk : ∀ w ∈ u_ws RTk TTk 8, w ∈ wsSv_send := fun w h => List.mem_cons_of_mem _ (inTk w h)
  have lk15 := hts _ (List.mem_cons_of_mem _ wm_91)
  have lk9 := hts _ (List.mem_cons_of_mem _ wm_90)
  have hS : va_S A s.heap s.heap [] := va_S.rf
  have hl := lv_entry ([.ref (a 11), .int x1, .int x2, .int x3, .int x4]) (n := 5) (Nat.le_of_ble_eq_true rfl)
  rw [lg_entry_eq]
  generalize (lg_sl ([.ref (a 11), .int x1, .int x2, .int x3, .int x4]) ++ List.replicate (5 - (lg_sl ([.ref (a 11), .int x1, .int x2, .int x3, .int x4])).length) Slot.unset).toArray = ls at hl ⊢
  have hl : lv_has ls 5 [(0, .ref (a 11)), (1, .int x1), (2, .int x2), (3, .int x3), (4, .int x4)] := hl
  refine lv_aload_n hx hb dSv_send_0 rfl (lv_at hl 0 rfl) ?_
  refine va_get (D := D) (ci := 7) (C := RTk) (T := TTk) (N := 8) hx hb hts hinTk hown hK hP 11 rfl rfl 6 (by decide) lk9 (fun _ h9 => h9) rfl dSv_send_1 ?_
  refine lv_iload_n hx hb dSv_send_4 rfl (lv_at hl 1 rfl) ?_
  refine lv_iload_n hx hb dSv_send_5 rfl (lv_at hl 2 rfl) ?_
  refine va_new (ci := 4) (fs := [.int 0, .int 0, .int 0, .null]) (C := RMs) (T := TMs) (N := 4) hx hb hts hinMs tyMs tyMs_ok hown (hts _ (List.mem_cons_of_mem _ wm_380)) (hts _ (List.mem_cons_of_mem _ wm_381)) (hts _ (List.mem_cons_of_mem _ wm_19)) hK hP hD hS (hA rfl) rfl (fun j hj => by rcases (show j = 0 ∨ j = 1 ∨ j = 2 ∨ j = 3 by omega) with rfl | rfl | rfl | rfl <;> rfl) (Nat.le_of_ble_eq_true rfl) (Nat.le_of_ble_eq_true rfl) dSv_send_6 (fun q1 H hP hD hS => ?_)
  have hqq1 : q1 ∉ σ.2.2 := va_pl_fresh2 (X := cF a t σ) (f := cG σ) hD
  obtain ⟨σ2, eσ2⟩ : ∃ z, z = cn σ q1 := ⟨_, rfl⟩
  have hwp := hwp q1 hqq1 σ2 eσ2
  have hP : va_P D clA (cw a t σ2) H := by rw [eσ2, ← cw_new hqq1]; exact hP
  have hD : va_D A (cw a t σ2) := by rw [eσ2, ← cw_new hqq1]; exact hD
  refine lv_dup hx hb dSv_send_9 rfl ?_
  refine lv_aload_n hx hb dSv_send_10 rfl (lv_at hl 0 rfl) ?_
  refine va_get (D := D) (ci := 7) (C := RTk) (T := TTk) (N := 8) hx hb hts hinTk hown hK hP 11 rfl rfl 7 (by decide) lk15 (fun _ h9 => h9) rfl dSv_send_11 ?_
  refine lv_iload_n hx hb dSv_send_14 rfl (lv_at hl 3 rfl) ?_
  refine lv_iload hx hb dSv_send_15 (lv_at hl 4 rfl) ?_
  obtain ⟨P3, hP3, hwp⟩ := hwp
  refine uCallIv (b := q1) (As := [.int 1, .int x3, .int x4]) (rest := [.ref q1, .int x2, .int x1, .ref (a 1)]) ⟨hx, hb, hml, hown, hts⟩ (kC_Ms_init l D a A t q1  σ2 1 x3 x4 P3 hP3) (cwI 3 hts (gdc wm_384) rfl rfl rfl (hts _ (List.mem_cons_of_mem _ wm_19)) (hts _ (List.mem_cons_of_mem _ wm_382)) (hts _ (List.mem_cons_of_mem _ wm_383)) rfl (by decide +kernel) ⟨Nat.le_of_ble_eq_true rfl, Nat.le_of_ble_eq_true rfl⟩) hP hK hD hA hS rfl hl.1 rfl (Nat.le_of_ble_eq_true rfl) dSv_send_17 ⟨Nat.le_of_ble_eq_true rfl, Nat.le_of_ble_eq_true rfl⟩ (fun u4 H locs hu4 hP hD hS => ?_)
  have hwp := hwp u4 hu4
  obtain ⟨P5, hP5, hwp⟩ := hwp
  refine uCallVv (As := [.int x1, .int x2, .ref q1]) (rest := []) (C := RNw) ⟨hx, hb, hml, hown, hts⟩ (kC_Nw_post l D a A t q1  u4 x1 x2 P5 hP5) (cwV 3 hts (gdV wm_410 wm_411 wm_412 wm_2 wm_413) rfl rfl rfl (by decide +kernel) ⟨Nat.le_of_ble_eq_true rfl, Nat.le_of_ble_eq_true rfl⟩) (va_recv (ci := 2) (q0 := 1) hK hP rfl rfl) hP hK hD hA hS rfl hl.1 rfl (Nat.le_of_ble_eq_true rfl) dSv_send_20 ⟨Nat.le_of_ble_eq_true rfl, Nat.le_of_ble_eq_true rfl⟩ (fun u6 H locs hu6 hP hD hS => ?_)
  have hwp := hwp u6 hu6
  exact W.vret hx hb hr (fun t ht hW => ⟨⟨u6, rfl, hwp, uEnd ht hW hP hK hD hS hA⟩, hS.F ht⟩) hS.2.2 dSv_send_23
-- NodeServices$Service: void send(int, int, int, int), on Tr
def wC_Tr_send (a : Nat → Nat) (R : CS → Prop) (σ : CS) (x1 x2 x3 x4 : Int32) : Prop :=
  (∀ q1 : Nat, q1 ∉ σ.2.2 → ∀ σ2 : CS, σ2 = cn σ q1 → (∃ P3 : CS → Prop, wC_Ms_init a q1 P3 σ2 2 x3 x4 ∧ (∀ (u4 : CS), P3 u4 → (∃ P5 : CS → Prop, wC_Nw_post a q1 P5 u4 x1 x2 ∧ (∀ (u6 : CS), P5 u6 → R u6)))))
abbrev rmC_Tr_send : Room := { frames := 2, cells := 1, slots := 4, locals := 45 }
set_option maxHeartbeats 4000000 in
set_option maxRecDepth 100000 in
theorem kC_Tr_send (l : Launch) (D : va_G) (a : Nat → Nat) (A : Nat → Prop) (t : Nat → ClassId) (σ : CS) (x1 x2 x3 x4 : Int32) (R : CS → Prop) (hwp : wC_Tr_send a R σ x1 x2 x3 x4) : Met l ySv_send wsSv_send rmC_Tr_send (va_Pc [.ref (a 19), .int x1, .int x2, .int x3, .int x4] (uI D clA (cT t) A true (cw a t) σ)) (va_Qv R (uI D clA (cT t) A true (cw a t)) A) 1 4 A := by
  refine Met.ofW (cc := cSv_send) (maxL := 5) (ret := none) (by decide) rfl ?_
  intro p e s m args below meth c s₁ B hml hv
  obtain ⟨rfl, hP, hK, hD, hA⟩ := hv
  have hx := B.exec
  have hb := B.bytes
  have hr := B.returns
  have hts := atoms_spec (ws := wsSv_send) B.pre
  have hown : s.vm.findClass RSv = some m.cls := findClass_of_methodNamed B.named
  have hlocks := B.notSynchronized
  have hinMs : ∀ w ∈ u_ws RMs TMs 4, w ∈ wsSv_send := fun w h => List.mem_cons_of_mem _ (inMs w h)
  have hinTr : ∀ w ∈ u_ws RTr TTr 7, w ∈ wsSv_send := fun w h => List.mem_cons_of_mem _ (inTr w h)
  have lk15 := hts _ (List.mem_cons_of_mem _ wm_91)
  have lk9 := hts _ (List.mem_cons_of_mem _ wm_90)
  have hS : va_S A s.heap s.heap [] := va_S.rf
  have hl := lv_entry ([.ref (a 19), .int x1, .int x2, .int x3, .int x4]) (n := 5) (Nat.le_of_ble_eq_true rfl)
  rw [lg_entry_eq]
  generalize (lg_sl ([.ref (a 19), .int x1, .int x2, .int x3, .int x4]) ++ List.replicate (5 - (lg_sl ([.ref (a 19), .int x1, .int x2, .int x3, .int x4])).length) Slot.unset).toArray = ls at hl ⊢
  have hl : lv_has ls 5 [(0, .ref (a 19)), (1, .int x1), (2, .int x2), (3, .int x3), (4, .int x4)] := hl
  refine lv_aload_n hx hb dSv_send_0 rfl (lv_at hl 0 rfl) ?_
  refine va_get (D := D) (ci := 8) (C := RTr) (T := TTr) (N := 7) hx hb hts hinTr hown hK hP 19 rfl rfl 5 (by decide) lk9 (fun _ h9 => h9) rfl dSv_send_1 ?_
  refine lv_iload_n hx hb dSv_send_4 rfl (lv_at hl 1 rfl) ?_
  refine lv_iload_n hx hb dSv_send_5 rfl (lv_at hl 2 rfl) ?_
  refine va_new (ci := 4) (fs := [.int 0, .int 0, .int 0, .null]) (C := RMs) (T := TMs) (N := 4) hx hb hts hinMs tyMs tyMs_ok hown (hts _ (List.mem_cons_of_mem _ wm_380)) (hts _ (List.mem_cons_of_mem _ wm_381)) (hts _ (List.mem_cons_of_mem _ wm_19)) hK hP hD hS (hA rfl) rfl (fun j hj => by rcases (show j = 0 ∨ j = 1 ∨ j = 2 ∨ j = 3 by omega) with rfl | rfl | rfl | rfl <;> rfl) (Nat.le_of_ble_eq_true rfl) (Nat.le_of_ble_eq_true rfl) dSv_send_6 (fun q1 H hP hD hS => ?_)
  have hqq1 : q1 ∉ σ.2.2 := va_pl_fresh2 (X := cF a t σ) (f := cG σ) hD
  obtain ⟨σ2, eσ2⟩ : ∃ z, z = cn σ q1 := ⟨_, rfl⟩
  have hwp := hwp q1 hqq1 σ2 eσ2
  have hP : va_P D clA (cw a t σ2) H := by rw [eσ2, ← cw_new hqq1]; exact hP
  have hD : va_D A (cw a t σ2) := by rw [eσ2, ← cw_new hqq1]; exact hD
  refine lv_dup hx hb dSv_send_9 rfl ?_
  refine lv_aload_n hx hb dSv_send_10 rfl (lv_at hl 0 rfl) ?_
  refine va_get (D := D) (ci := 8) (C := RTr) (T := TTr) (N := 7) hx hb hts hinTr hown hK hP 19 rfl rfl 6 (by decide) lk15 (fun _ h9 => h9) rfl dSv_send_11 ?_
  refine lv_iload_n hx hb dSv_send_14 rfl (lv_at hl 3 rfl) ?_
  refine lv_iload hx hb dSv_send_15 (lv_at hl 4 rfl) ?_
  obtain ⟨P3, hP3, hwp⟩ := hwp
  refine uCallIv (b := q1) (As := [.int 2, .int x3, .int x4]) (rest := [.ref q1, .int x2, .int x1, .ref (a 1)]) ⟨hx, hb, hml, hown, hts⟩ (kC_Ms_init l D a A t q1  σ2 2 x3 x4 P3 hP3) (cwI 3 hts (gdc wm_384) rfl rfl rfl (hts _ (List.mem_cons_of_mem _ wm_19)) (hts _ (List.mem_cons_of_mem _ wm_382)) (hts _ (List.mem_cons_of_mem _ wm_383)) rfl (by decide +kernel) ⟨Nat.le_of_ble_eq_true rfl, Nat.le_of_ble_eq_true rfl⟩) hP hK hD hA hS rfl hl.1 rfl (Nat.le_of_ble_eq_true rfl) dSv_send_17 ⟨Nat.le_of_ble_eq_true rfl, Nat.le_of_ble_eq_true rfl⟩ (fun u4 H locs hu4 hP hD hS => ?_)
  have hwp := hwp u4 hu4
  obtain ⟨P5, hP5, hwp⟩ := hwp
  refine uCallVv (As := [.int x1, .int x2, .ref q1]) (rest := []) (C := RNw) ⟨hx, hb, hml, hown, hts⟩ (kC_Nw_post l D a A t q1  u4 x1 x2 P5 hP5) (cwV 3 hts (gdV wm_410 wm_411 wm_412 wm_2 wm_413) rfl rfl rfl (by decide +kernel) ⟨Nat.le_of_ble_eq_true rfl, Nat.le_of_ble_eq_true rfl⟩) (va_recv (ci := 2) (q0 := 1) hK hP rfl rfl) hP hK hD hA hS rfl hl.1 rfl (Nat.le_of_ble_eq_true rfl) dSv_send_20 ⟨Nat.le_of_ble_eq_true rfl, Nat.le_of_ble_eq_true rfl⟩ (fun u6 H locs hu6 hP hD hS => ?_)
  have hwp := hwp u6 hu6
  exact W.vret hx hb hr (fun t ht hW => ⟨⟨u6, rfl, hwp, uEnd ht hW hP hK hD hS hA⟩, hS.F ht⟩) hS.2.2 dSv_send_23
-- NodeServices$Service: void send(int, int, int, int), on El
def wC_El_send (a : Nat → Nat) (R : CS → Prop) (σ : CS) (x1 x2 x3 x4 : Int32) : Prop :=
  (∀ q1 : Nat, q1 ∉ σ.2.2 → ∀ σ2 : CS, σ2 = cn σ q1 → (∃ P3 : CS → Prop, wC_Ms_init a q1 P3 σ2 3 x3 x4 ∧ (∀ (u4 : CS), P3 u4 → (∃ P5 : CS → Prop, wC_Nw_post a q1 P5 u4 x1 x2 ∧ (∀ (u6 : CS), P5 u6 → R u6)))))
abbrev rmC_El_send : Room := { frames := 2, cells := 1, slots := 4, locals := 45 }
set_option maxHeartbeats 4000000 in
set_option maxRecDepth 100000 in
theorem kC_El_send (l : Launch) (D : va_G) (a : Nat → Nat) (A : Nat → Prop) (t : Nat → ClassId) (σ : CS) (x1 x2 x3 x4 : Int32) (R : CS → Prop) (hwp : wC_El_send a R σ x1 x2 x3 x4) : Met l ySv_send wsSv_send rmC_El_send (va_Pc [.ref (a 24), .int x1, .int x2, .int x3, .int x4] (uI D clA (cT t) A true (cw a t) σ)) (va_Qv R (uI D clA (cT t) A true (cw a t)) A) 1 4 A := by
  refine Met.ofW (cc := cSv_send) (maxL := 5) (ret := none) (by decide) rfl ?_
  intro p e s m args below meth c s₁ B hml hv
  obtain ⟨rfl, hP, hK, hD, hA⟩ := hv
  have hx := B.exec
  have hb := B.bytes
  have hr := B.returns
  have hts := atoms_spec (ws := wsSv_send) B.pre
  have hown : s.vm.findClass RSv = some m.cls := findClass_of_methodNamed B.named
  have hlocks := B.notSynchronized
  have hinEl : ∀ w ∈ u_ws REl TEl 5, w ∈ wsSv_send := fun w h => List.mem_cons_of_mem _ (inEl w h)
  have hinMs : ∀ w ∈ u_ws RMs TMs 4, w ∈ wsSv_send := fun w h => List.mem_cons_of_mem _ (inMs w h)
  have lk15 := hts _ (List.mem_cons_of_mem _ wm_91)
  have lk9 := hts _ (List.mem_cons_of_mem _ wm_90)
  have hS : va_S A s.heap s.heap [] := va_S.rf
  have hl := lv_entry ([.ref (a 24), .int x1, .int x2, .int x3, .int x4]) (n := 5) (Nat.le_of_ble_eq_true rfl)
  rw [lg_entry_eq]
  generalize (lg_sl ([.ref (a 24), .int x1, .int x2, .int x3, .int x4]) ++ List.replicate (5 - (lg_sl ([.ref (a 24), .int x1, .int x2, .int x3, .int x4])).length) Slot.unset).toArray = ls at hl ⊢
  have hl : lv_has ls 5 [(0, .ref (a 24)), (1, .int x1), (2, .int x2), (3, .int x3), (4, .int x4)] := hl
  refine lv_aload_n hx hb dSv_send_0 rfl (lv_at hl 0 rfl) ?_
  refine va_get (D := D) (ci := 9) (C := REl) (T := TEl) (N := 5) hx hb hts hinEl hown hK hP 24 rfl rfl 3 (by decide) lk9 (fun _ h9 => h9) rfl dSv_send_1 ?_
  refine lv_iload_n hx hb dSv_send_4 rfl (lv_at hl 1 rfl) ?_
  refine lv_iload_n hx hb dSv_send_5 rfl (lv_at hl 2 rfl) ?_
  refine va_new (ci := 4) (fs := [.int 0, .int 0, .int 0, .null]) (C := RMs) (T := TMs) (N := 4) hx hb hts hinMs tyMs tyMs_ok hown (hts _ (List.mem_cons_of_mem _ wm_380)) (hts _ (List.mem_cons_of_mem _ wm_381)) (hts _ (List.mem_cons_of_mem _ wm_19)) hK hP hD hS (hA rfl) rfl (fun j hj => by rcases (show j = 0 ∨ j = 1 ∨ j = 2 ∨ j = 3 by omega) with rfl | rfl | rfl | rfl <;> rfl) (Nat.le_of_ble_eq_true rfl) (Nat.le_of_ble_eq_true rfl) dSv_send_6 (fun q1 H hP hD hS => ?_)
  have hqq1 : q1 ∉ σ.2.2 := va_pl_fresh2 (X := cF a t σ) (f := cG σ) hD
  obtain ⟨σ2, eσ2⟩ : ∃ z, z = cn σ q1 := ⟨_, rfl⟩
  have hwp := hwp q1 hqq1 σ2 eσ2
  have hP : va_P D clA (cw a t σ2) H := by rw [eσ2, ← cw_new hqq1]; exact hP
  have hD : va_D A (cw a t σ2) := by rw [eσ2, ← cw_new hqq1]; exact hD
  refine lv_dup hx hb dSv_send_9 rfl ?_
  refine lv_aload_n hx hb dSv_send_10 rfl (lv_at hl 0 rfl) ?_
  refine va_get (D := D) (ci := 9) (C := REl) (T := TEl) (N := 5) hx hb hts hinEl hown hK hP 24 rfl rfl 4 (by decide) lk15 (fun _ h9 => h9) rfl dSv_send_11 ?_
  refine lv_iload_n hx hb dSv_send_14 rfl (lv_at hl 3 rfl) ?_
  refine lv_iload hx hb dSv_send_15 (lv_at hl 4 rfl) ?_
  obtain ⟨P3, hP3, hwp⟩ := hwp
  refine uCallIv (b := q1) (As := [.int 3, .int x3, .int x4]) (rest := [.ref q1, .int x2, .int x1, .ref (a 1)]) ⟨hx, hb, hml, hown, hts⟩ (kC_Ms_init l D a A t q1  σ2 3 x3 x4 P3 hP3) (cwI 3 hts (gdc wm_384) rfl rfl rfl (hts _ (List.mem_cons_of_mem _ wm_19)) (hts _ (List.mem_cons_of_mem _ wm_382)) (hts _ (List.mem_cons_of_mem _ wm_383)) rfl (by decide +kernel) ⟨Nat.le_of_ble_eq_true rfl, Nat.le_of_ble_eq_true rfl⟩) hP hK hD hA hS rfl hl.1 rfl (Nat.le_of_ble_eq_true rfl) dSv_send_17 ⟨Nat.le_of_ble_eq_true rfl, Nat.le_of_ble_eq_true rfl⟩ (fun u4 H locs hu4 hP hD hS => ?_)
  have hwp := hwp u4 hu4
  obtain ⟨P5, hP5, hwp⟩ := hwp
  refine uCallVv (As := [.int x1, .int x2, .ref q1]) (rest := []) (C := RNw) ⟨hx, hb, hml, hown, hts⟩ (kC_Nw_post l D a A t q1  u4 x1 x2 P5 hP5) (cwV 3 hts (gdV wm_410 wm_411 wm_412 wm_2 wm_413) rfl rfl rfl (by decide +kernel) ⟨Nat.le_of_ble_eq_true rfl, Nat.le_of_ble_eq_true rfl⟩) (va_recv (ci := 2) (q0 := 1) hK hP rfl rfl) hP hK hD hA hS rfl hl.1 rfl (Nat.le_of_ble_eq_true rfl) dSv_send_20 ⟨Nat.le_of_ble_eq_true rfl, Nat.le_of_ble_eq_true rfl⟩ (fun u6 H locs hu6 hP hD hS => ?_)
  have hwp := hwp u6 hu6
  exact W.vret hx hb hr (fun t ht hW => ⟨⟨u6, rfl, hwp, uEnd ht hW hP hK hD hS hA⟩, hS.F ht⟩) hS.2.2 dSv_send_23
-- NodeServices$Service: void send(int, int, int, int), on Wk
def wC_Wk_send (a : Nat → Nat) (R : CS → Prop) (σ : CS) (x1 x2 x3 x4 : Int32) : Prop :=
  (∀ q1 : Nat, q1 ∉ σ.2.2 → ∀ σ2 : CS, σ2 = cn σ q1 → (∃ P3 : CS → Prop, wC_Ms_init a q1 P3 σ2 4 x3 x4 ∧ (∀ (u4 : CS), P3 u4 → (∃ P5 : CS → Prop, wC_Nw_post a q1 P5 u4 x1 x2 ∧ (∀ (u6 : CS), P5 u6 → R u6)))))
abbrev rmC_Wk_send : Room := { frames := 2, cells := 1, slots := 4, locals := 45 }
set_option maxHeartbeats 4000000 in
set_option maxRecDepth 100000 in
theorem kC_Wk_send (l : Launch) (D : va_G) (a : Nat → Nat) (A : Nat → Prop) (t : Nat → ClassId) (σ : CS) (x1 x2 x3 x4 : Int32) (R : CS → Prop) (hwp : wC_Wk_send a R σ x1 x2 x3 x4) : Met l ySv_send wsSv_send rmC_Wk_send (va_Pc [.ref (a 38), .int x1, .int x2, .int x3, .int x4] (uI D clA (cT t) A true (cw a t) σ)) (va_Qv R (uI D clA (cT t) A true (cw a t)) A) 1 4 A := by
  refine Met.ofW (cc := cSv_send) (maxL := 5) (ret := none) (by decide) rfl ?_
  intro p e s m args below meth c s₁ B hml hv
  obtain ⟨rfl, hP, hK, hD, hA⟩ := hv
  have hx := B.exec
  have hb := B.bytes
  have hr := B.returns
  have hts := atoms_spec (ws := wsSv_send) B.pre
  have hown : s.vm.findClass RSv = some m.cls := findClass_of_methodNamed B.named
  have hlocks := B.notSynchronized
  have hinMs : ∀ w ∈ u_ws RMs TMs 4, w ∈ wsSv_send := fun w h => List.mem_cons_of_mem _ (inMs w h)
  have hinWk : ∀ w ∈ u_ws RWk TWk 7, w ∈ wsSv_send := fun w h => List.mem_cons_of_mem _ (inWk w h)
  have lk15 := hts _ (List.mem_cons_of_mem _ wm_91)
  have lk9 := hts _ (List.mem_cons_of_mem _ wm_90)
  have hS : va_S A s.heap s.heap [] := va_S.rf
  have hl := lv_entry ([.ref (a 38), .int x1, .int x2, .int x3, .int x4]) (n := 5) (Nat.le_of_ble_eq_true rfl)
  rw [lg_entry_eq]
  generalize (lg_sl ([.ref (a 38), .int x1, .int x2, .int x3, .int x4]) ++ List.replicate (5 - (lg_sl ([.ref (a 38), .int x1, .int x2, .int x3, .int x4])).length) Slot.unset).toArray = ls at hl ⊢
  have hl : lv_has ls 5 [(0, .ref (a 38)), (1, .int x1), (2, .int x2), (3, .int x3), (4, .int x4)] := hl
  refine lv_aload_n hx hb dSv_send_0 rfl (lv_at hl 0 rfl) ?_
  refine va_get (D := D) (ci := 10) (C := RWk) (T := TWk) (N := 7) hx hb hts hinWk hown hK hP 38 rfl rfl 5 (by decide) lk9 (fun _ h9 => h9) rfl dSv_send_1 ?_
  refine lv_iload_n hx hb dSv_send_4 rfl (lv_at hl 1 rfl) ?_
  refine lv_iload_n hx hb dSv_send_5 rfl (lv_at hl 2 rfl) ?_
  refine va_new (ci := 4) (fs := [.int 0, .int 0, .int 0, .null]) (C := RMs) (T := TMs) (N := 4) hx hb hts hinMs tyMs tyMs_ok hown (hts _ (List.mem_cons_of_mem _ wm_380)) (hts _ (List.mem_cons_of_mem _ wm_381)) (hts _ (List.mem_cons_of_mem _ wm_19)) hK hP hD hS (hA rfl) rfl (fun j hj => by rcases (show j = 0 ∨ j = 1 ∨ j = 2 ∨ j = 3 by omega) with rfl | rfl | rfl | rfl <;> rfl) (Nat.le_of_ble_eq_true rfl) (Nat.le_of_ble_eq_true rfl) dSv_send_6 (fun q1 H hP hD hS => ?_)
  have hqq1 : q1 ∉ σ.2.2 := va_pl_fresh2 (X := cF a t σ) (f := cG σ) hD
  obtain ⟨σ2, eσ2⟩ : ∃ z, z = cn σ q1 := ⟨_, rfl⟩
  have hwp := hwp q1 hqq1 σ2 eσ2
  have hP : va_P D clA (cw a t σ2) H := by rw [eσ2, ← cw_new hqq1]; exact hP
  have hD : va_D A (cw a t σ2) := by rw [eσ2, ← cw_new hqq1]; exact hD
  refine lv_dup hx hb dSv_send_9 rfl ?_
  refine lv_aload_n hx hb dSv_send_10 rfl (lv_at hl 0 rfl) ?_
  refine va_get (D := D) (ci := 10) (C := RWk) (T := TWk) (N := 7) hx hb hts hinWk hown hK hP 38 rfl rfl 6 (by decide) lk15 (fun _ h9 => h9) rfl dSv_send_11 ?_
  refine lv_iload_n hx hb dSv_send_14 rfl (lv_at hl 3 rfl) ?_
  refine lv_iload hx hb dSv_send_15 (lv_at hl 4 rfl) ?_
  obtain ⟨P3, hP3, hwp⟩ := hwp
  refine uCallIv (b := q1) (As := [.int 4, .int x3, .int x4]) (rest := [.ref q1, .int x2, .int x1, .ref (a 1)]) ⟨hx, hb, hml, hown, hts⟩ (kC_Ms_init l D a A t q1  σ2 4 x3 x4 P3 hP3) (cwI 3 hts (gdc wm_384) rfl rfl rfl (hts _ (List.mem_cons_of_mem _ wm_19)) (hts _ (List.mem_cons_of_mem _ wm_382)) (hts _ (List.mem_cons_of_mem _ wm_383)) rfl (by decide +kernel) ⟨Nat.le_of_ble_eq_true rfl, Nat.le_of_ble_eq_true rfl⟩) hP hK hD hA hS rfl hl.1 rfl (Nat.le_of_ble_eq_true rfl) dSv_send_17 ⟨Nat.le_of_ble_eq_true rfl, Nat.le_of_ble_eq_true rfl⟩ (fun u4 H locs hu4 hP hD hS => ?_)
  have hwp := hwp u4 hu4
  obtain ⟨P5, hP5, hwp⟩ := hwp
  refine uCallVv (As := [.int x1, .int x2, .ref q1]) (rest := []) (C := RNw) ⟨hx, hb, hml, hown, hts⟩ (kC_Nw_post l D a A t q1  u4 x1 x2 P5 hP5) (cwV 3 hts (gdV wm_410 wm_411 wm_412 wm_2 wm_413) rfl rfl rfl (by decide +kernel) ⟨Nat.le_of_ble_eq_true rfl, Nat.le_of_ble_eq_true rfl⟩) (va_recv (ci := 2) (q0 := 1) hK hP rfl rfl) hP hK hD hA hS rfl hl.1 rfl (Nat.le_of_ble_eq_true rfl) dSv_send_20 ⟨Nat.le_of_ble_eq_true rfl, Nat.le_of_ble_eq_true rfl⟩ (fun u6 H locs hu6 hP hD hS => ?_)
  have hwp := hwp u6 hu6
  exact W.vret hx hb hr (fun t ht hW => ⟨⟨u6, rfl, hwp, uEnd ht hW hP hK hD hS hA⟩, hS.F ht⟩) hS.2.2 dSv_send_23
-- NodeServices$Service: void sendToAllOthers(int, int, int), on St
def wC_St_sendToAllOthers_24 (a : Nat → Nat) (K3 : CS → Int32 → Int32 → Int32 → Int32 → Prop) (R : CS → Prop) (σ : CS) (y1 : Int32) (y2 : Int32) (y3 : Int32) (y4 : Int32) : Prop :=
  K3 σ y1 y2 y3 (y4 + 1)
def wC_St_sendToAllOthers_3_step (a : Nat → Nat) (K3 : CS → Int32 → Int32 → Int32 → Int32 → Prop) (R : CS → Prop) (σ : CS) (y1 : Int32) (y2 : Int32) (y3 : Int32) (y4 : Int32) : Prop :=
  (((4 ≤ y4) → R σ) ∧ ((¬ 4 ≤ y4) → (((y4 = y1) → wC_St_sendToAllOthers_24 a K3 R σ y1 y2 y3 y4) ∧ ((¬ y4 = y1) → (∃ P3 : CS → Prop, wC_St_send a P3 σ y1 y4 y2 y3 ∧ (∀ (u4 : CS), P3 u4 → wC_St_sendToAllOthers_24 a K3 R u4 y1 y2 y3 y4))))))
def wC_St_sendToAllOthers_3 (a : Nat → Nat) (R : CS → Prop) : Nat → CS → Int32 → Int32 → Int32 → Int32 → Prop
  | 0 => fun _ _ _ _ _ => False
  | k + 1 => fun σ y1 y2 y3 y4 => wC_St_sendToAllOthers_3_step a (wC_St_sendToAllOthers_3 a R k) R σ y1 y2 y3 y4
def wC_St_sendToAllOthers (a : Nat → Nat) (R : CS → Prop) (σ : CS) (x1 x2 x3 : Int32) : Prop :=
  wC_St_sendToAllOthers_3 a R 5 σ x1 x2 x3 0
abbrev wsSv_sendToAllOthers : List Cond := .code ySv_sendToAllOthers cSv_sendToAllOthers 5 none :: wg
abbrev rmC_St_sendToAllOthers : Room := { frames := 3, cells := 5, slots := 20, locals := 69 }
set_option maxHeartbeats 4000000 in
set_option maxRecDepth 100000 in
theorem kC_St_sendToAllOthers (l : Launch) (D : va_G) (a : Nat → Nat) (A : Nat → Prop) (t : Nat → ClassId) (σ : CS) (x1 x2 x3 : Int32) (R : CS → Prop) (hwp : wC_St_sendToAllOthers a R σ x1 x2 x3) : Met l ySv_sendToAllOthers wsSv_sendToAllOthers rmC_St_sendToAllOthers (va_Pc [.ref (a 5), .int x1, .int x2, .int x3] (uI D clA (cT t) A true (cw a t) σ)) (va_Qv R (uI D clA (cT t) A true (cw a t)) A) 5 20 A := by
  refine Met.ofW (cc := cSv_sendToAllOthers) (maxL := 5) (ret := none) (by decide) rfl ?_
  intro p e s m args below meth c s₁ B hml hv
  obtain ⟨rfl, hP, hK, hD, hA⟩ := hv
  have hx := B.exec
  have hb := B.bytes
  have hr := B.returns
  have hts := atoms_spec (ws := wsSv_sendToAllOthers) B.pre
  have hown : s.vm.findClass RSv = some m.cls := findClass_of_methodNamed B.named
  have hlocks := B.notSynchronized
  have hS : va_S A s.heap s.heap [] := va_S.rf
  have cut3 : ∀ (k3 : Nat), k3 ≤ 5 → ∀ (σ : CS) (y1 : Int32) (y2 : Int32) (y3 : Int32) (y4 : Int32) (H : Heap) (locs : List Loc) (ls : Array Slot), wC_St_sendToAllOthers_3 a R k3 σ y1 y2 y3 y4 → va_P D clA (cw a t σ) H → va_D A (cw a t σ) → va_S A s.heap H locs → lv_has ls 5 [(0, .ref (a 5)), (1, .int y1), (2, .int y2), (3, .int y3), (4, .int y4)] → W p l e (headSpec wsSv_sendToAllOthers rmC_St_sendToAllOthers).room s m ([.ref (a 5), .int x1, .int x2, .int x3] : List Value).toArray below meth c H locs (1 * (5 - k3)) (4 * (5 - k3)) (MQ below (va_Qv R (uI D clA (cT t) A true (cw a t)) A) ([.ref (a 5), .int x1, .int x2, .int x3] : List Value).toArray s 5 20 A) (F0 m 3 ls []) := by
    intro k3
    induction k3 with
    | zero => intro hk3 σ y1 y2 y3 y4 H locs ls hwp hP hD hS hl; exact False.elim hwp
    | succ k3 ih3 =>
      intro hk3 σ y1 y2 y3 y4 H locs ls hwp hP hD hS hl
      have cut24 : ∀ (σ : CS) (y1 : Int32) (y2 : Int32) (y3 : Int32) (y4 : Int32) (H : Heap) (locs : List Loc) (ls : Array Slot), wC_St_sendToAllOthers_24 a (wC_St_sendToAllOthers_3 a R k3) R σ y1 y2 y3 y4 → va_P D clA (cw a t σ) H → va_D A (cw a t σ) → va_S A s.heap H locs → lv_has ls 5 [(0, .ref (a 5)), (1, .int y1), (2, .int y2), (3, .int y3), (4, .int y4)] → W p l e (headSpec wsSv_sendToAllOthers rmC_St_sendToAllOthers).room s m ([.ref (a 5), .int x1, .int x2, .int x3] : List Value).toArray below meth c H locs (1 * (5 - k3)) (4 * (5 - k3)) (MQ below (va_Qv R (uI D clA (cT t) A true (cw a t)) A) ([.ref (a 5), .int x1, .int x2, .int x3] : List Value).toArray s 5 20 A) (F0 m 24 ls []) := by
        intro σ y1 y2 y3 y4 H locs ls hwp hP hD hS hl
        refine lv_iinc (k := 4) hx hb dSv_sendToAllOthers_24 hl rfl (fx_inc1 _) (by decide) rfl (fun ls hl => ?_)
        have hl : lv_has ls 5 [(4, .int (y4 + 1)), (0, .ref (a 5)), (1, .int y1), (2, .int y2), (3, .int y3)] := hl
        refine lv_goto hx hb dSv_sendToAllOthers_27 rfl ?_
        exact ih3 (by omega) σ y1 y2 y3 (y4 + 1) _ _ _ hwp hP hD hS (lv_sub hl [1, 2, 3, 4, 0] rfl)
      have hwp : wC_St_sendToAllOthers_3_step a (wC_St_sendToAllOthers_3 a R k3) R σ y1 y2 y3 y4 := hwp
      refine lv_iload hx hb dSv_sendToAllOthers_3 (lv_at hl 4 rfl) ?_
      refine lv_iconst (v := 4) hx hb dSv_sendToAllOthers_5 (by decide) ?_
      refine lv_icmp_ge hx hb dSv_sendToAllOthers_6 rfl (fun h1 => ?_) (fun h1 => ?_)
      · have hwp := hwp.1 h1
        refine W.widen (k := 5) (n := 20) (by omega) (by omega) ?_
        exact W.vret hx hb hr (fun t ht hW => ⟨⟨σ, rfl, hwp, uEnd ht hW hP hK hD hS hA⟩, hS.F ht⟩) hS.2.2 dSv_sendToAllOthers_30
      · have hwp := hwp.2 h1
        refine lv_iload hx hb dSv_sendToAllOthers_9 (lv_at hl 4 rfl) ?_
        refine lv_iload_n hx hb dSv_sendToAllOthers_11 rfl (lv_at hl 1 rfl) ?_
        refine lv_icmp_eq hx hb dSv_sendToAllOthers_12 rfl (fun h2 => ?_) (fun h2 => ?_)
        · have hwp := hwp.1 h2
          refine W.widen (k := (1 * (5 - k3))) (n := (4 * (5 - k3))) (by omega) (by omega) ?_
          exact cut24 σ y1 y2 y3 y4 _ _ _ hwp hP hD hS (lv_sub hl [0, 1, 2, 3, 4] rfl)
        · have hwp := hwp.2 h2
          refine lv_aload_n hx hb dSv_sendToAllOthers_15 rfl (lv_at hl 0 rfl) ?_
          refine lv_iload_n hx hb dSv_sendToAllOthers_16 rfl (lv_at hl 1 rfl) ?_
          refine lv_iload hx hb dSv_sendToAllOthers_17 (lv_at hl 4 rfl) ?_
          refine lv_iload_n hx hb dSv_sendToAllOthers_19 rfl (lv_at hl 2 rfl) ?_
          refine lv_iload_n hx hb dSv_sendToAllOthers_20 rfl (lv_at hl 3 rfl) ?_
          obtain ⟨P3, hP3, hwp⟩ := hwp
          refine uCallUv (As := [.int y1, .int y4, .int y2, .int y3]) (rest := []) (C := RSt) ⟨hx, hb, hml, hown, hts⟩ (kC_St_send l D a A t   σ y1 y4 y2 y3 P3 hP3) (va_cwU (x := ⟨"NodeServices$Service", "send", "(IIII)V"⟩) (owner := "NodeServices$Service") 4 hts (gdU wm_371 wm_373 wm_375 wm_372 wm_4 wm_379) rfl rfl rfl rfl (by decide +kernel) ⟨Nat.le_of_ble_eq_true rfl, Nat.le_of_ble_eq_true rfl⟩) (va_recv (ci := 6) (q0 := 5) hK hP rfl rfl) hP hK hD hA hS rfl hl.1 rfl (Nat.le_of_ble_eq_true rfl) dSv_sendToAllOthers_21 ⟨by show (1 * (5 - (k3 + 1))) + 1 ≤ 5; omega, by show (4 * (5 - (k3 + 1))) + 4 ≤ 20; omega⟩ (fun u4 H locs hu4 hP hD hS => ?_)
          have hwp := hwp u4 hu4
          refine W.widen (k := (1 * (5 - k3))) (n := (4 * (5 - k3))) (by omega) (by omega) ?_
          exact cut24 u4 y1 y2 y3 y4 _ _ _ hwp hP hD hS (lv_sub hl [0, 1, 2, 3, 4] rfl)
  have hl := lv_entry ([.ref (a 5), .int x1, .int x2, .int x3]) (n := 5) (Nat.le_of_ble_eq_true rfl)
  rw [lg_entry_eq]
  generalize (lg_sl ([.ref (a 5), .int x1, .int x2, .int x3]) ++ List.replicate (5 - (lg_sl ([.ref (a 5), .int x1, .int x2, .int x3])).length) Slot.unset).toArray = ls at hl ⊢
  have hl : lv_has ls 5 [(0, .ref (a 5)), (1, .int x1), (2, .int x2), (3, .int x3)] := hl
  refine lv_iconst (v := 0) hx hb dSv_sendToAllOthers_0 (by decide) ?_
  refine lv_istore hx hb dSv_sendToAllOthers_1 hl (by decide) rfl (fun ls hl => ?_)
  have hl : lv_has ls 5 [(4, .int 0), (0, .ref (a 5)), (1, .int x1), (2, .int x2), (3, .int x3)] := hl
  refine W.widen (k := (1 * (5 - 5))) (n := (4 * (5 - 5))) (by omega) (by omega) ?_
  exact cut3 5 (by omega) σ x1 x2 x3 0 _ _ _ hwp hP hD hS (lv_sub hl [1, 2, 3, 4, 0] rfl)
-- NodeServices$Service: void sendToAllOthers(int, int, int), on Tk
def wC_Tk_sendToAllOthers_24 (a : Nat → Nat) (K3 : CS → Int32 → Int32 → Int32 → Int32 → Prop) (R : CS → Prop) (σ : CS) (y1 : Int32) (y2 : Int32) (y3 : Int32) (y4 : Int32) : Prop :=
  K3 σ y1 y2 y3 (y4 + 1)
def wC_Tk_sendToAllOthers_3_step (a : Nat → Nat) (K3 : CS → Int32 → Int32 → Int32 → Int32 → Prop) (R : CS → Prop) (σ : CS) (y1 : Int32) (y2 : Int32) (y3 : Int32) (y4 : Int32) : Prop :=
  (((4 ≤ y4) → R σ) ∧ ((¬ 4 ≤ y4) → (((y4 = y1) → wC_Tk_sendToAllOthers_24 a K3 R σ y1 y2 y3 y4) ∧ ((¬ y4 = y1) → (∃ P3 : CS → Prop, wC_Tk_send a P3 σ y1 y4 y2 y3 ∧ (∀ (u4 : CS), P3 u4 → wC_Tk_sendToAllOthers_24 a K3 R u4 y1 y2 y3 y4))))))
def wC_Tk_sendToAllOthers_3 (a : Nat → Nat) (R : CS → Prop) : Nat → CS → Int32 → Int32 → Int32 → Int32 → Prop
  | 0 => fun _ _ _ _ _ => False
  | k + 1 => fun σ y1 y2 y3 y4 => wC_Tk_sendToAllOthers_3_step a (wC_Tk_sendToAllOthers_3 a R k) R σ y1 y2 y3 y4
def wC_Tk_sendToAllOthers (a : Nat → Nat) (R : CS → Prop) (σ : CS) (x1 x2 x3 : Int32) : Prop :=
  wC_Tk_sendToAllOthers_3 a R 5 σ x1 x2 x3 0
abbrev rmC_Tk_sendToAllOthers : Room := { frames := 3, cells := 5, slots := 20, locals := 69 }
set_option maxHeartbeats 4000000 in
set_option maxRecDepth 100000 in
theorem kC_Tk_sendToAllOthers (l : Launch) (D : va_G) (a : Nat → Nat) (A : Nat → Prop) (t : Nat → ClassId) (σ : CS) (x1 x2 x3 : Int32) (R : CS → Prop) (hwp : wC_Tk_sendToAllOthers a R σ x1 x2 x3) : Met l ySv_sendToAllOthers wsSv_sendToAllOthers rmC_Tk_sendToAllOthers (va_Pc [.ref (a 11), .int x1, .int x2, .int x3] (uI D clA (cT t) A true (cw a t) σ)) (va_Qv R (uI D clA (cT t) A true (cw a t)) A) 5 20 A := by
  refine Met.ofW (cc := cSv_sendToAllOthers) (maxL := 5) (ret := none) (by decide) rfl ?_
  intro p e s m args below meth c s₁ B hml hv
  obtain ⟨rfl, hP, hK, hD, hA⟩ := hv
  have hx := B.exec
  have hb := B.bytes
  have hr := B.returns
  have hts := atoms_spec (ws := wsSv_sendToAllOthers) B.pre
  have hown : s.vm.findClass RSv = some m.cls := findClass_of_methodNamed B.named
  have hlocks := B.notSynchronized
  have hS : va_S A s.heap s.heap [] := va_S.rf
  have cut3 : ∀ (k3 : Nat), k3 ≤ 5 → ∀ (σ : CS) (y1 : Int32) (y2 : Int32) (y3 : Int32) (y4 : Int32) (H : Heap) (locs : List Loc) (ls : Array Slot), wC_Tk_sendToAllOthers_3 a R k3 σ y1 y2 y3 y4 → va_P D clA (cw a t σ) H → va_D A (cw a t σ) → va_S A s.heap H locs → lv_has ls 5 [(0, .ref (a 11)), (1, .int y1), (2, .int y2), (3, .int y3), (4, .int y4)] → W p l e (headSpec wsSv_sendToAllOthers rmC_Tk_sendToAllOthers).room s m ([.ref (a 11), .int x1, .int x2, .int x3] : List Value).toArray below meth c H locs (1 * (5 - k3)) (4 * (5 - k3)) (MQ below (va_Qv R (uI D clA (cT t) A true (cw a t)) A) ([.ref (a 11), .int x1, .int x2, .int x3] : List Value).toArray s 5 20 A) (F0 m 3 ls []) := by
    intro k3
    induction k3 with
    | zero => intro hk3 σ y1 y2 y3 y4 H locs ls hwp hP hD hS hl; exact False.elim hwp
    | succ k3 ih3 =>
      intro hk3 σ y1 y2 y3 y4 H locs ls hwp hP hD hS hl
      have cut24 : ∀ (σ : CS) (y1 : Int32) (y2 : Int32) (y3 : Int32) (y4 : Int32) (H : Heap) (locs : List Loc) (ls : Array Slot), wC_Tk_sendToAllOthers_24 a (wC_Tk_sendToAllOthers_3 a R k3) R σ y1 y2 y3 y4 → va_P D clA (cw a t σ) H → va_D A (cw a t σ) → va_S A s.heap H locs → lv_has ls 5 [(0, .ref (a 11)), (1, .int y1), (2, .int y2), (3, .int y3), (4, .int y4)] → W p l e (headSpec wsSv_sendToAllOthers rmC_Tk_sendToAllOthers).room s m ([.ref (a 11), .int x1, .int x2, .int x3] : List Value).toArray below meth c H locs (1 * (5 - k3)) (4 * (5 - k3)) (MQ below (va_Qv R (uI D clA (cT t) A true (cw a t)) A) ([.ref (a 11), .int x1, .int x2, .int x3] : List Value).toArray s 5 20 A) (F0 m 24 ls []) := by
        intro σ y1 y2 y3 y4 H locs ls hwp hP hD hS hl
        refine lv_iinc (k := 4) hx hb dSv_sendToAllOthers_24 hl rfl (fx_inc1 _) (by decide) rfl (fun ls hl => ?_)
        have hl : lv_has ls 5 [(4, .int (y4 + 1)), (0, .ref (a 11)), (1, .int y1), (2, .int y2), (3, .int y3)] := hl
        refine lv_goto hx hb dSv_sendToAllOthers_27 rfl ?_
        exact ih3 (by omega) σ y1 y2 y3 (y4 + 1) _ _ _ hwp hP hD hS (lv_sub hl [1, 2, 3, 4, 0] rfl)
      have hwp : wC_Tk_sendToAllOthers_3_step a (wC_Tk_sendToAllOthers_3 a R k3) R σ y1 y2 y3 y4 := hwp
      refine lv_iload hx hb dSv_sendToAllOthers_3 (lv_at hl 4 rfl) ?_
      refine lv_iconst (v := 4) hx hb dSv_sendToAllOthers_5 (by decide) ?_
      refine lv_icmp_ge hx hb dSv_sendToAllOthers_6 rfl (fun h1 => ?_) (fun h1 => ?_)
      · have hwp := hwp.1 h1
        refine W.widen (k := 5) (n := 20) (by omega) (by omega) ?_
        exact W.vret hx hb hr (fun t ht hW => ⟨⟨σ, rfl, hwp, uEnd ht hW hP hK hD hS hA⟩, hS.F ht⟩) hS.2.2 dSv_sendToAllOthers_30
      · have hwp := hwp.2 h1
        refine lv_iload hx hb dSv_sendToAllOthers_9 (lv_at hl 4 rfl) ?_
        refine lv_iload_n hx hb dSv_sendToAllOthers_11 rfl (lv_at hl 1 rfl) ?_
        refine lv_icmp_eq hx hb dSv_sendToAllOthers_12 rfl (fun h2 => ?_) (fun h2 => ?_)
        · have hwp := hwp.1 h2
          refine W.widen (k := (1 * (5 - k3))) (n := (4 * (5 - k3))) (by omega) (by omega) ?_
          exact cut24 σ y1 y2 y3 y4 _ _ _ hwp hP hD hS (lv_sub hl [0, 1, 2, 3, 4] rfl)
        · have hwp := hwp.2 h2
          refine lv_aload_n hx hb dSv_sendToAllOthers_15 rfl (lv_at hl 0 rfl) ?_
          refine lv_iload_n hx hb dSv_sendToAllOthers_16 rfl (lv_at hl 1 rfl) ?_
          refine lv_iload hx hb dSv_sendToAllOthers_17 (lv_at hl 4 rfl) ?_
          refine lv_iload_n hx hb dSv_sendToAllOthers_19 rfl (lv_at hl 2 rfl) ?_
          refine lv_iload_n hx hb dSv_sendToAllOthers_20 rfl (lv_at hl 3 rfl) ?_
          obtain ⟨P3, hP3, hwp⟩ := hwp
          refine uCallUv (As := [.int y1, .int y4, .int y2, .int y3]) (rest := []) (C := RTk) ⟨hx, hb, hml, hown, hts⟩ (kC_Tk_send l D a A t   σ y1 y4 y2 y3 P3 hP3) (va_cwU (x := ⟨"NodeServices$Service", "send", "(IIII)V"⟩) (owner := "NodeServices$Service") 4 hts (gdU wm_371 wm_373 wm_376 wm_372 wm_4 wm_379) rfl rfl rfl rfl (by decide +kernel) ⟨Nat.le_of_ble_eq_true rfl, Nat.le_of_ble_eq_true rfl⟩) (va_recv (ci := 7) (q0 := 11) hK hP rfl rfl) hP hK hD hA hS rfl hl.1 rfl (Nat.le_of_ble_eq_true rfl) dSv_sendToAllOthers_21 ⟨by show (1 * (5 - (k3 + 1))) + 1 ≤ 5; omega, by show (4 * (5 - (k3 + 1))) + 4 ≤ 20; omega⟩ (fun u4 H locs hu4 hP hD hS => ?_)
          have hwp := hwp u4 hu4
          refine W.widen (k := (1 * (5 - k3))) (n := (4 * (5 - k3))) (by omega) (by omega) ?_
          exact cut24 u4 y1 y2 y3 y4 _ _ _ hwp hP hD hS (lv_sub hl [0, 1, 2, 3, 4] rfl)
  have hl := lv_entry ([.ref (a 11), .int x1, .int x2, .int x3]) (n := 5) (Nat.le_of_ble_eq_true rfl)
  rw [lg_entry_eq]
  generalize (lg_sl ([.ref (a 11), .int x1, .int x2, .int x3]) ++ List.replicate (5 - (lg_sl ([.ref (a 11), .int x1, .int x2, .int x3])).length) Slot.unset).toArray = ls at hl ⊢
  have hl : lv_has ls 5 [(0, .ref (a 11)), (1, .int x1), (2, .int x2), (3, .int x3)] := hl
  refine lv_iconst (v := 0) hx hb dSv_sendToAllOthers_0 (by decide) ?_
  refine lv_istore hx hb dSv_sendToAllOthers_1 hl (by decide) rfl (fun ls hl => ?_)
  have hl : lv_has ls 5 [(4, .int 0), (0, .ref (a 11)), (1, .int x1), (2, .int x2), (3, .int x3)] := hl
  refine W.widen (k := (1 * (5 - 5))) (n := (4 * (5 - 5))) (by omega) (by omega) ?_
  exact cut3 5 (by omega) σ x1 x2 x3 0 _ _ _ hwp hP hD hS (lv_sub hl [1, 2, 3, 4, 0] rfl)
-- NodeServices$Lock: void enter(int), on St
def wC_St_enter (a : Nat → Nat) (R : CS → Prop) (σ : CS) (x1 : Int32) : Prop :=
  (vp_in x1 4 ∧ (∀ σ2 : CS, σ2 = cu σ 1 x1.toNatClampNeg 2 → (∀ σ3 : CS, σ3 = cu σ2 2 0 ((σ2.1 2 0) + 1) → R σ3)))
abbrev wsLk_enter : List Cond := .code yLk_enter cLk_enter 2 none :: wg
abbrev rmC_St_enter : Room := { frames := 0, cells := 0, slots := 0, locals := 0 }
set_option maxHeartbeats 4000000 in
set_option maxRecDepth 100000 in
theorem kC_St_enter (l : Launch) (D : va_G) (a : Nat → Nat) (A : Nat → Prop) (t : Nat → ClassId) (σ : CS) (x1 : Int32) (R : CS → Prop) (hwp : wC_St_enter a R σ x1) : Met l yLk_enter wsLk_enter rmC_St_enter (va_Pc [.ref (a 5), .int x1] (uI D clA (cT t) A true (cw a t) σ)) (va_Qv R (uI D clA (cT t) A true (cw a t)) A) 0 0 A := by
  refine Met.ofW (cc := cLk_enter) (maxL := 2) (ret := none) (by decide) rfl ?_
  intro p e s m args below meth c s₁ B hml hv
  obtain ⟨rfl, hP, hK, hD, hA⟩ := hv
  have hx := B.exec
  have hb := B.bytes
  have hr := B.returns
  have hts := atoms_spec (ws := wsLk_enter) B.pre
  have hown : s.vm.findClass RLk = some m.cls := findClass_of_methodNamed B.named
  have hlocks := B.notSynchronized
  have hinSt : ∀ w ∈ u_ws RSt TSt 8, w ∈ wsLk_enter := fun w h => List.mem_cons_of_mem _ (inSt w h)
  have lk15 := hts _ (List.mem_cons_of_mem _ wm_88)
  have lk9 := hts _ (List.mem_cons_of_mem _ wm_80)
  have hS : va_S A s.heap s.heap [] := va_S.rf
  have hl := lv_entry ([.ref (a 5), .int x1]) (n := 2) (Nat.le_of_ble_eq_true rfl)
  rw [lg_entry_eq]
  generalize (lg_sl ([.ref (a 5), .int x1]) ++ List.replicate (2 - (lg_sl ([.ref (a 5), .int x1])).length) Slot.unset).toArray = ls at hl ⊢
  have hl : lv_has ls 2 [(0, .ref (a 5)), (1, .int x1)] := hl
  refine lv_aload_n hx hb dLk_enter_0 rfl (lv_at hl 0 rfl) ?_
  refine va_get (D := D) (ci := 6) (C := RSt) (T := TSt) (N := 8) hx hb hts hinSt hown hK hP 5 rfl rfl 4 (by decide) lk9 (fun _ h9 => h9) rfl dLk_enter_1 ?_
  refine lv_iload_n hx hb dLk_enter_4 rfl (lv_at hl 1 rfl) ?_
  refine lv_iconst (v := 2) hx hb dLk_enter_5 (by decide) ?_
  obtain ⟨hi1, hwp⟩ := hwp
  refine va_iast hx hb hK hP hD hS 6 0 rfl rfl hi1 dLk_enter_6 (fun H locs hP hD hS => ?_)
  obtain ⟨σ2, eσ2⟩ : ∃ z, z = cu σ 1 x1.toNatClampNeg 2 := ⟨_, rfl⟩
  have hwp := hwp σ2 eσ2
  have hP : va_P D clA (cw a t σ2) H := by rw [eσ2]; exact hP
  have hD : va_D A (cw a t σ2) := by rw [eσ2]; exact hD
  refine lv_aload_n hx hb dLk_enter_7 rfl (lv_at hl 0 rfl) ?_
  refine lv_dup hx hb dLk_enter_8 rfl ?_
  refine va_get (D := D) (ci := 6) (C := RSt) (T := TSt) (N := 8) hx hb hts hinSt hown hK hP 5 rfl rfl 5 (by decide) lk15 (fun _ h9 => h9) rfl dLk_enter_9 ?_
  refine lv_iconst (v := 1) hx hb dLk_enter_12 (by decide) ?_
  refine lv_iadd hx hb dLk_enter_13 ?_
  refine va_put (ty := .int) (D := D) (ci := 6) (C := RSt) (T := TSt) (N := 8) hx hb hts hinSt tySt tySt_ok nmSt hown hK hP hD hS 5 rfl rfl 5 (by decide) lk15 (fun _ h9 => h9) rfl (by decide +kernel) rfl rfl (Nat.le_of_ble_eq_true rfl) dLk_enter_14 (fun H locs hP hD hS => ?_)
  obtain ⟨σ3, eσ3⟩ : ∃ z, z = cu σ2 2 0 ((σ2.1 2 0) + 1) := ⟨_, rfl⟩
  have hwp := hwp σ3 eσ3
  have hP : va_P D clA (cw a t σ3) H := by rw [eσ3]; exact hP
  have hD : va_D A (cw a t σ3) := by rw [eσ3]; exact hD
  exact W.vret hx hb hr (fun t ht hW => ⟨⟨σ3, rfl, hwp, uEnd ht hW hP hK hD hS hA⟩, hS.F ht⟩) hS.2.2 dLk_enter_17
-- NodeServices$Lock: int condition(int), on St
def wC_St_condition (a : Nat → Nat) (R : Int32 → CS → Prop) (σ : CS) (x1 : Int32) : Prop :=
  (vp_in x1 4 ∧ R (σ.1 1 x1.toNatClampNeg) σ)
abbrev wsLk_condition : List Cond := .code yLk_condition cLk_condition 2 (some .int) :: wg
abbrev rmC_St_condition : Room := { frames := 0, cells := 0, slots := 0, locals := 0 }
set_option maxHeartbeats 4000000 in
set_option maxRecDepth 100000 in
theorem kC_St_condition (l : Launch) (D : va_G) (a : Nat → Nat) (A : Nat → Prop) (t : Nat → ClassId) (σ : CS) (x1 : Int32) (R : Int32 → CS → Prop) (hwp : wC_St_condition a R σ x1) : Met l yLk_condition wsLk_condition rmC_St_condition (va_Pc [.ref (a 5), .int x1] (uI D clA (cT t) A true (cw a t) σ)) (va_Qi R (uI D clA (cT t) A true (cw a t)) A) 0 0 A := by
  refine Met.ofW (cc := cLk_condition) (maxL := 2) (ret := (some .int)) (by decide) rfl ?_
  intro p e s m args below meth c s₁ B hml hv
  obtain ⟨rfl, hP, hK, hD, hA⟩ := hv
  have hx := B.exec
  have hb := B.bytes
  have hr := B.returns
  have hts := atoms_spec (ws := wsLk_condition) B.pre
  have hown : s.vm.findClass RLk = some m.cls := findClass_of_methodNamed B.named
  have hlocks := B.notSynchronized
  have hinSt : ∀ w ∈ u_ws RSt TSt 8, w ∈ wsLk_condition := fun w h => List.mem_cons_of_mem _ (inSt w h)
  have lk9 := hts _ (List.mem_cons_of_mem _ wm_80)
  have hS : va_S A s.heap s.heap [] := va_S.rf
  have hl := lv_entry ([.ref (a 5), .int x1]) (n := 2) (Nat.le_of_ble_eq_true rfl)
  rw [lg_entry_eq]
  generalize (lg_sl ([.ref (a 5), .int x1]) ++ List.replicate (2 - (lg_sl ([.ref (a 5), .int x1])).length) Slot.unset).toArray = ls at hl ⊢
  have hl : lv_has ls 2 [(0, .ref (a 5)), (1, .int x1)] := hl
  refine lv_aload_n hx hb dLk_condition_0 rfl (lv_at hl 0 rfl) ?_
  refine va_get (D := D) (ci := 6) (C := RSt) (T := TSt) (N := 8) hx hb hts hinSt hown hK hP 5 rfl rfl 4 (by decide) lk9 (fun _ h9 => h9) rfl dLk_condition_1 ?_
  refine lv_iload_n hx hb dLk_condition_4 rfl (lv_at hl 1 rfl) ?_
  obtain ⟨hi1, hwp⟩ := hwp
  refine va_iald hx hb hK hP 6 0 rfl rfl hi1 dLk_condition_5 ?_
  exact W.iret (v := σ.1 1 x1.toNatClampNeg) hx hb hr (fun t ht hW => ⟨⟨σ.1 1 x1.toNatClampNeg, σ, rfl, hwp, uEnd ht hW hP hK hD hS hA⟩, hS.F ht⟩) hS.2.2 dLk_condition_6
-- NodeServices$Lock: void enter(int), on Tk
def wC_Tk_enter (a : Nat → Nat) (R : CS → Prop) (σ : CS) (x1 : Int32) : Prop :=
  (vp_in x1 4 ∧ (∀ σ2 : CS, σ2 = cu σ 7 x1.toNatClampNeg 2 → (∀ σ3 : CS, σ3 = cu σ2 8 0 ((σ2.1 8 0) + 1) → R σ3)))
abbrev rmC_Tk_enter : Room := { frames := 0, cells := 0, slots := 0, locals := 0 }
set_option maxHeartbeats 4000000 in
set_option maxRecDepth 100000 in
theorem kC_Tk_enter (l : Launch) (D : va_G) (a : Nat → Nat) (A : Nat → Prop) (t : Nat → ClassId) (σ : CS) (x1 : Int32) (R : CS → Prop) (hwp : wC_Tk_enter a R σ x1) : Met l yLk_enter wsLk_enter rmC_Tk_enter (va_Pc [.ref (a 11), .int x1] (uI D clA (cT t) A true (cw a t) σ)) (va_Qv R (uI D clA (cT t) A true (cw a t)) A) 0 0 A := by
  refine Met.ofW (cc := cLk_enter) (maxL := 2) (ret := none) (by decide) rfl ?_
  intro p e s m args below meth c s₁ B hml hv
  obtain ⟨rfl, hP, hK, hD, hA⟩ := hv
  have hx := B.exec
  have hb := B.bytes
  have hr := B.returns
  have hts := atoms_spec (ws := wsLk_enter) B.pre
  have hown : s.vm.findClass RLk = some m.cls := findClass_of_methodNamed B.named
  have hlocks := B.notSynchronized
  have hinTk : ∀ w ∈ u_ws RTk TTk 8, w ∈ wsLk_enter := fun w h => List.mem_cons_of_mem _ (inTk w h)
  have lk15 := hts _ (List.mem_cons_of_mem _ wm_88)
  have lk9 := hts _ (List.mem_cons_of_mem _ wm_80)
  have hS : va_S A s.heap s.heap [] := va_S.rf
  have hl := lv_entry ([.ref (a 11), .int x1]) (n := 2) (Nat.le_of_ble_eq_true rfl)
  rw [lg_entry_eq]
  generalize (lg_sl ([.ref (a 11), .int x1]) ++ List.replicate (2 - (lg_sl ([.ref (a 11), .int x1])).length) Slot.unset).toArray = ls at hl ⊢
  have hl : lv_has ls 2 [(0, .ref (a 11)), (1, .int x1)] := hl
  refine lv_aload_n hx hb dLk_enter_0 rfl (lv_at hl 0 rfl) ?_
  refine va_get (D := D) (ci := 7) (C := RTk) (T := TTk) (N := 8) hx hb hts hinTk hown hK hP 11 rfl rfl 4 (by decide) lk9 (fun _ h9 => h9) rfl dLk_enter_1 ?_
  refine lv_iload_n hx hb dLk_enter_4 rfl (lv_at hl 1 rfl) ?_
  refine lv_iconst (v := 2) hx hb dLk_enter_5 (by decide) ?_
  obtain ⟨hi1, hwp⟩ := hwp
  refine va_iast hx hb hK hP hD hS 12 0 rfl rfl hi1 dLk_enter_6 (fun H locs hP hD hS => ?_)
  obtain ⟨σ2, eσ2⟩ : ∃ z, z = cu σ 7 x1.toNatClampNeg 2 := ⟨_, rfl⟩
  have hwp := hwp σ2 eσ2
  have hP : va_P D clA (cw a t σ2) H := by rw [eσ2]; exact hP
  have hD : va_D A (cw a t σ2) := by rw [eσ2]; exact hD
  refine lv_aload_n hx hb dLk_enter_7 rfl (lv_at hl 0 rfl) ?_
  refine lv_dup hx hb dLk_enter_8 rfl ?_
  refine va_get (D := D) (ci := 7) (C := RTk) (T := TTk) (N := 8) hx hb hts hinTk hown hK hP 11 rfl rfl 5 (by decide) lk15 (fun _ h9 => h9) rfl dLk_enter_9 ?_
  refine lv_iconst (v := 1) hx hb dLk_enter_12 (by decide) ?_
  refine lv_iadd hx hb dLk_enter_13 ?_
  refine va_put (ty := .int) (D := D) (ci := 7) (C := RTk) (T := TTk) (N := 8) hx hb hts hinTk tyTk tyTk_ok nmTk hown hK hP hD hS 11 rfl rfl 5 (by decide) lk15 (fun _ h9 => h9) rfl (by decide +kernel) rfl rfl (Nat.le_of_ble_eq_true rfl) dLk_enter_14 (fun H locs hP hD hS => ?_)
  obtain ⟨σ3, eσ3⟩ : ∃ z, z = cu σ2 8 0 ((σ2.1 8 0) + 1) := ⟨_, rfl⟩
  have hwp := hwp σ3 eσ3
  have hP : va_P D clA (cw a t σ3) H := by rw [eσ3]; exact hP
  have hD : va_D A (cw a t σ3) := by rw [eσ3]; exact hD
  exact W.vret hx hb hr (fun t ht hW => ⟨⟨σ3, rfl, hwp, uEnd ht hW hP hK hD hS hA⟩, hS.F ht⟩) hS.2.2 dLk_enter_17
-- NodeServices$Lock: int condition(int), on Tk
def wC_Tk_condition (a : Nat → Nat) (R : Int32 → CS → Prop) (σ : CS) (x1 : Int32) : Prop :=
  (vp_in x1 4 ∧ R (σ.1 7 x1.toNatClampNeg) σ)
abbrev rmC_Tk_condition : Room := { frames := 0, cells := 0, slots := 0, locals := 0 }
set_option maxHeartbeats 4000000 in
set_option maxRecDepth 100000 in
theorem kC_Tk_condition (l : Launch) (D : va_G) (a : Nat → Nat) (A : Nat → Prop) (t : Nat → ClassId) (σ : CS) (x1 : Int32) (R : Int32 → CS → Prop) (hwp : wC_Tk_condition a R σ x1) : Met l yLk_condition wsLk_condition rmC_Tk_condition (va_Pc [.ref (a 11), .int x1] (uI D clA (cT t) A true (cw a t) σ)) (va_Qi R (uI D clA (cT t) A true (cw a t)) A) 0 0 A := by
  refine Met.ofW (cc := cLk_condition) (maxL := 2) (ret := (some .int)) (by decide) rfl ?_
  intro p e s m args below meth c s₁ B hml hv
  obtain ⟨rfl, hP, hK, hD, hA⟩ := hv
  have hx := B.exec
  have hb := B.bytes
  have hr := B.returns
  have hts := atoms_spec (ws := wsLk_condition) B.pre
  have hown : s.vm.findClass RLk = some m.cls := findClass_of_methodNamed B.named
  have hlocks := B.notSynchronized
  have hinTk : ∀ w ∈ u_ws RTk TTk 8, w ∈ wsLk_condition := fun w h => List.mem_cons_of_mem _ (inTk w h)
  have lk9 := hts _ (List.mem_cons_of_mem _ wm_80)
  have hS : va_S A s.heap s.heap [] := va_S.rf
  have hl := lv_entry ([.ref (a 11), .int x1]) (n := 2) (Nat.le_of_ble_eq_true rfl)
  rw [lg_entry_eq]
  generalize (lg_sl ([.ref (a 11), .int x1]) ++ List.replicate (2 - (lg_sl ([.ref (a 11), .int x1])).length) Slot.unset).toArray = ls at hl ⊢
  have hl : lv_has ls 2 [(0, .ref (a 11)), (1, .int x1)] := hl
  refine lv_aload_n hx hb dLk_condition_0 rfl (lv_at hl 0 rfl) ?_
  refine va_get (D := D) (ci := 7) (C := RTk) (T := TTk) (N := 8) hx hb hts hinTk hown hK hP 11 rfl rfl 4 (by decide) lk9 (fun _ h9 => h9) rfl dLk_condition_1 ?_
  refine lv_iload_n hx hb dLk_condition_4 rfl (lv_at hl 1 rfl) ?_
  obtain ⟨hi1, hwp⟩ := hwp
  refine va_iald hx hb hK hP 12 0 rfl rfl hi1 dLk_condition_5 ?_
  exact W.iret (v := σ.1 7 x1.toNatClampNeg) hx hb hr (fun t ht hW => ⟨⟨σ.1 7 x1.toNatClampNeg, σ, rfl, hwp, uEnd ht hW hP hK hD hS hA⟩, hS.F ht⟩) hS.2.2 dLk_condition_6
-- NodeServices$Lock: void enter(int), on Tr
def wC_Tr_enter (a : Nat → Nat) (R : CS → Prop) (σ : CS) (x1 : Int32) : Prop :=
  (vp_in x1 4 ∧ (∀ σ2 : CS, σ2 = cu σ 15 x1.toNatClampNeg 2 → (∀ σ3 : CS, σ3 = cu σ2 16 0 ((σ2.1 16 0) + 1) → R σ3)))
abbrev rmC_Tr_enter : Room := { frames := 0, cells := 0, slots := 0, locals := 0 }
set_option maxHeartbeats 4000000 in
set_option maxRecDepth 100000 in
theorem kC_Tr_enter (l : Launch) (D : va_G) (a : Nat → Nat) (A : Nat → Prop) (t : Nat → ClassId) (σ : CS) (x1 : Int32) (R : CS → Prop) (hwp : wC_Tr_enter a R σ x1) : Met l yLk_enter wsLk_enter rmC_Tr_enter (va_Pc [.ref (a 19), .int x1] (uI D clA (cT t) A true (cw a t) σ)) (va_Qv R (uI D clA (cT t) A true (cw a t)) A) 0 0 A := by
  refine Met.ofW (cc := cLk_enter) (maxL := 2) (ret := none) (by decide) rfl ?_
  intro p e s m args below meth c s₁ B hml hv
  obtain ⟨rfl, hP, hK, hD, hA⟩ := hv
  have hx := B.exec
  have hb := B.bytes
  have hr := B.returns
  have hts := atoms_spec (ws := wsLk_enter) B.pre
  have hown : s.vm.findClass RLk = some m.cls := findClass_of_methodNamed B.named
  have hlocks := B.notSynchronized
  have hinTr : ∀ w ∈ u_ws RTr TTr 7, w ∈ wsLk_enter := fun w h => List.mem_cons_of_mem _ (inTr w h)
  have lk15 := hts _ (List.mem_cons_of_mem _ wm_88)
  have lk9 := hts _ (List.mem_cons_of_mem _ wm_80)
  have hS : va_S A s.heap s.heap [] := va_S.rf
  have hl := lv_entry ([.ref (a 19), .int x1]) (n := 2) (Nat.le_of_ble_eq_true rfl)
  rw [lg_entry_eq]
  generalize (lg_sl ([.ref (a 19), .int x1]) ++ List.replicate (2 - (lg_sl ([.ref (a 19), .int x1])).length) Slot.unset).toArray = ls at hl ⊢
  have hl : lv_has ls 2 [(0, .ref (a 19)), (1, .int x1)] := hl
  refine lv_aload_n hx hb dLk_enter_0 rfl (lv_at hl 0 rfl) ?_
  refine va_get (D := D) (ci := 8) (C := RTr) (T := TTr) (N := 7) hx hb hts hinTr hown hK hP 19 rfl rfl 3 (by decide) lk9 (fun _ h9 => h9) rfl dLk_enter_1 ?_
  refine lv_iload_n hx hb dLk_enter_4 rfl (lv_at hl 1 rfl) ?_
  refine lv_iconst (v := 2) hx hb dLk_enter_5 (by decide) ?_
  obtain ⟨hi1, hwp⟩ := hwp
  refine va_iast hx hb hK hP hD hS 20 0 rfl rfl hi1 dLk_enter_6 (fun H locs hP hD hS => ?_)
  obtain ⟨σ2, eσ2⟩ : ∃ z, z = cu σ 15 x1.toNatClampNeg 2 := ⟨_, rfl⟩
  have hwp := hwp σ2 eσ2
  have hP : va_P D clA (cw a t σ2) H := by rw [eσ2]; exact hP
  have hD : va_D A (cw a t σ2) := by rw [eσ2]; exact hD
  refine lv_aload_n hx hb dLk_enter_7 rfl (lv_at hl 0 rfl) ?_
  refine lv_dup hx hb dLk_enter_8 rfl ?_
  refine va_get (D := D) (ci := 8) (C := RTr) (T := TTr) (N := 7) hx hb hts hinTr hown hK hP 19 rfl rfl 4 (by decide) lk15 (fun _ h9 => h9) rfl dLk_enter_9 ?_
  refine lv_iconst (v := 1) hx hb dLk_enter_12 (by decide) ?_
  refine lv_iadd hx hb dLk_enter_13 ?_
  refine va_put (ty := .int) (D := D) (ci := 8) (C := RTr) (T := TTr) (N := 7) hx hb hts hinTr tyTr tyTr_ok nmTr hown hK hP hD hS 19 rfl rfl 4 (by decide) lk15 (fun _ h9 => h9) rfl (by decide +kernel) rfl rfl (Nat.le_of_ble_eq_true rfl) dLk_enter_14 (fun H locs hP hD hS => ?_)
  obtain ⟨σ3, eσ3⟩ : ∃ z, z = cu σ2 16 0 ((σ2.1 16 0) + 1) := ⟨_, rfl⟩
  have hwp := hwp σ3 eσ3
  have hP : va_P D clA (cw a t σ3) H := by rw [eσ3]; exact hP
  have hD : va_D A (cw a t σ3) := by rw [eσ3]; exact hD
  exact W.vret hx hb hr (fun t ht hW => ⟨⟨σ3, rfl, hwp, uEnd ht hW hP hK hD hS hA⟩, hS.F ht⟩) hS.2.2 dLk_enter_17
-- NodeServices$Lock: int condition(int), on Tr
def wC_Tr_condition (a : Nat → Nat) (R : Int32 → CS → Prop) (σ : CS) (x1 : Int32) : Prop :=
  (vp_in x1 4 ∧ R (σ.1 15 x1.toNatClampNeg) σ)
abbrev rmC_Tr_condition : Room := { frames := 0, cells := 0, slots := 0, locals := 0 }
set_option maxHeartbeats 4000000 in
set_option maxRecDepth 100000 in
theorem kC_Tr_condition (l : Launch) (D : va_G) (a : Nat → Nat) (A : Nat → Prop) (t : Nat → ClassId) (σ : CS) (x1 : Int32) (R : Int32 → CS → Prop) (hwp : wC_Tr_condition a R σ x1) : Met l yLk_condition wsLk_condition rmC_Tr_condition (va_Pc [.ref (a 19), .int x1] (uI D clA (cT t) A true (cw a t) σ)) (va_Qi R (uI D clA (cT t) A true (cw a t)) A) 0 0 A := by
  refine Met.ofW (cc := cLk_condition) (maxL := 2) (ret := (some .int)) (by decide) rfl ?_
  intro p e s m args below meth c s₁ B hml hv
  obtain ⟨rfl, hP, hK, hD, hA⟩ := hv
  have hx := B.exec
  have hb := B.bytes
  have hr := B.returns
  have hts := atoms_spec (ws := wsLk_condition) B.pre
  have hown : s.vm.findClass RLk = some m.cls := findClass_of_methodNamed B.named
  have hlocks := B.notSynchronized
  have hinTr : ∀ w ∈ u_ws RTr TTr 7, w ∈ wsLk_condition := fun w h => List.mem_cons_of_mem _ (inTr w h)
  have lk9 := hts _ (List.mem_cons_of_mem _ wm_80)
  have hS : va_S A s.heap s.heap [] := va_S.rf
  have hl := lv_entry ([.ref (a 19), .int x1]) (n := 2) (Nat.le_of_ble_eq_true rfl)
  rw [lg_entry_eq]
  generalize (lg_sl ([.ref (a 19), .int x1]) ++ List.replicate (2 - (lg_sl ([.ref (a 19), .int x1])).length) Slot.unset).toArray = ls at hl ⊢
  have hl : lv_has ls 2 [(0, .ref (a 19)), (1, .int x1)] := hl
  refine lv_aload_n hx hb dLk_condition_0 rfl (lv_at hl 0 rfl) ?_
  refine va_get (D := D) (ci := 8) (C := RTr) (T := TTr) (N := 7) hx hb hts hinTr hown hK hP 19 rfl rfl 3 (by decide) lk9 (fun _ h9 => h9) rfl dLk_condition_1 ?_
  refine lv_iload_n hx hb dLk_condition_4 rfl (lv_at hl 1 rfl) ?_
  obtain ⟨hi1, hwp⟩ := hwp
  refine va_iald hx hb hK hP 20 0 rfl rfl hi1 dLk_condition_5 ?_
  exact W.iret (v := σ.1 15 x1.toNatClampNeg) hx hb hr (fun t ht hW => ⟨⟨σ.1 15 x1.toNatClampNeg, σ, rfl, hwp, uEnd ht hW hP hK hD hS hA⟩, hS.F ht⟩) hS.2.2 dLk_condition_6
-- NodeServices$StampLock: int detail(int), on St
def wC_St_detail (a : Nat → Nat) (R : Int32 → CS → Prop) (σ : CS) (x1 : Int32) : Prop :=
  (vp_in x1 4 ∧ R (σ.1 3 x1.toNatClampNeg) σ)
abbrev wsSt_detail : List Cond := .code ySt_detail cSt_detail 2 (some .int) :: wg
abbrev rmC_St_detail : Room := { frames := 0, cells := 0, slots := 0, locals := 0 }
set_option maxHeartbeats 4000000 in
set_option maxRecDepth 100000 in
theorem kC_St_detail (l : Launch) (D : va_G) (a : Nat → Nat) (A : Nat → Prop) (t : Nat → ClassId) (σ : CS) (x1 : Int32) (R : Int32 → CS → Prop) (hwp : wC_St_detail a R σ x1) : Met l ySt_detail wsSt_detail rmC_St_detail (va_Pc [.ref (a 5), .int x1] (uI D clA (cT t) A true (cw a t) σ)) (va_Qi R (uI D clA (cT t) A true (cw a t)) A) 0 0 A := by
  refine Met.ofW (cc := cSt_detail) (maxL := 2) (ret := (some .int)) (by decide) rfl ?_
  intro p e s m args below meth c s₁ B hml hv
  obtain ⟨rfl, hP, hK, hD, hA⟩ := hv
  have hx := B.exec
  have hb := B.bytes
  have hr := B.returns
  have hts := atoms_spec (ws := wsSt_detail) B.pre
  have hown : s.vm.findClass RSt = some m.cls := findClass_of_methodNamed B.named
  have hlocks := B.notSynchronized
  have hinSt : ∀ w ∈ u_ws RSt TSt 8, w ∈ wsSt_detail := fun w h => List.mem_cons_of_mem _ (inSt w h)
  have lk9 := hts _ (List.mem_cons_of_mem _ wm_76)
  have hS : va_S A s.heap s.heap [] := va_S.rf
  have hl := lv_entry ([.ref (a 5), .int x1]) (n := 2) (Nat.le_of_ble_eq_true rfl)
  rw [lg_entry_eq]
  generalize (lg_sl ([.ref (a 5), .int x1]) ++ List.replicate (2 - (lg_sl ([.ref (a 5), .int x1])).length) Slot.unset).toArray = ls at hl ⊢
  have hl : lv_has ls 2 [(0, .ref (a 5)), (1, .int x1)] := hl
  refine lv_aload_n hx hb dSt_detail_0 rfl (lv_at hl 0 rfl) ?_
  refine va_get (D := D) (ci := 6) (C := RSt) (T := TSt) (N := 8) hx hb hts hinSt hown hK hP 5 rfl rfl 0 (by decide) lk9 (fun _ h9 => h9) rfl dSt_detail_1 ?_
  refine lv_iload_n hx hb dSt_detail_4 rfl (lv_at hl 1 rfl) ?_
  obtain ⟨hi1, hwp⟩ := hwp
  refine va_iald hx hb hK hP 7 0 rfl rfl hi1 dSt_detail_5 ?_
  exact W.iret (v := σ.1 3 x1.toNatClampNeg) hx hb hr (fun t ht hW => ⟨⟨σ.1 3 x1.toNatClampNeg, σ, rfl, hwp, uEnd ht hW hP hK hD hS hA⟩, hS.F ht⟩) hS.2.2 dSt_detail_6
-- NodeServices$StampLock: void ask(int), on St
def wC_St_ask (a : Nat → Nat) (R : CS → Prop) (σ : CS) (x1 : Int32) : Prop :=
  (vp_in x1 4 ∧ (vp_in x1 4 ∧ (∀ σ3 : CS, σ3 = cu σ 3 x1.toNatClampNeg ((σ.1 3 x1.toNatClampNeg) + 1) → (vp_in x1 4 ∧ (vp_in x1 4 ∧ (∀ σ6 : CS, σ6 = cu σ3 4 x1.toNatClampNeg (σ3.1 3 x1.toNatClampNeg) → (vp_in x1 4 ∧ (∀ σ8 : CS, σ8 = cu σ6 5 x1.toNatClampNeg 0 → (vp_in x1 4 ∧ (∀ σ10 : CS, σ10 = cu σ8 1 x1.toNatClampNeg 1 → (vp_in x1 4 ∧ (∃ P12 : CS → Prop, wC_St_sendToAllOthers a P12 σ10 x1 0 (σ10.1 4 x1.toNatClampNeg) ∧ (∀ (u13 : CS), P12 u13 → R u13)))))))))))))
abbrev wsSt_ask : List Cond := .code ySt_ask cSt_ask 2 none :: wg
abbrev rmC_St_ask : Room := { frames := 4, cells := 5, slots := 20, locals := 93 }
set_option maxHeartbeats 4000000 in
set_option maxRecDepth 100000 in
theorem kC_St_ask (l : Launch) (D : va_G) (a : Nat → Nat) (A : Nat → Prop) (t : Nat → ClassId) (σ : CS) (x1 : Int32) (R : CS → Prop) (hwp : wC_St_ask a R σ x1) : Met l ySt_ask wsSt_ask rmC_St_ask (va_Pc [.ref (a 5), .int x1] (uI D clA (cT t) A true (cw a t) σ)) (va_Qv R (uI D clA (cT t) A true (cw a t)) A) 5 20 A := by
  refine Met.ofW (cc := cSt_ask) (maxL := 2) (ret := none) (by decide) rfl ?_
  intro p e s m args below meth c s₁ B hml hv
  obtain ⟨rfl, hP, hK, hD, hA⟩ := hv
  have hx := B.exec
  have hb := B.bytes
  have hr := B.returns
  have hts := atoms_spec (ws := wsSt_ask) B.pre
  have hown : s.vm.findClass RSt = some m.cls := findClass_of_methodNamed B.named
  have hlocks := B.notSynchronized
  have hinSt : ∀ w ∈ u_ws RSt TSt 8, w ∈ wsSt_ask := fun w h => List.mem_cons_of_mem _ (inSt w h)
  have ksstate := hts _ (List.mem_cons_of_mem _ wm_87)
  have lk15 := hts _ (List.mem_cons_of_mem _ wm_77)
  have lk18 := hts _ (List.mem_cons_of_mem _ wm_78)
  have lk25 := hts _ (List.mem_cons_of_mem _ wm_86)
  have lk9 := hts _ (List.mem_cons_of_mem _ wm_76)
  have hS : va_S A s.heap s.heap [] := va_S.rf
  have hl := lv_entry ([.ref (a 5), .int x1]) (n := 2) (Nat.le_of_ble_eq_true rfl)
  rw [lg_entry_eq]
  generalize (lg_sl ([.ref (a 5), .int x1]) ++ List.replicate (2 - (lg_sl ([.ref (a 5), .int x1])).length) Slot.unset).toArray = ls at hl ⊢
  have hl : lv_has ls 2 [(0, .ref (a 5)), (1, .int x1)] := hl
  refine lv_aload_n hx hb dSt_ask_0 rfl (lv_at hl 0 rfl) ?_
  refine va_get (D := D) (ci := 6) (C := RSt) (T := TSt) (N := 8) hx hb hts hinSt hown hK hP 5 rfl rfl 0 (by decide) lk9 (fun _ h9 => h9) rfl dSt_ask_1 ?_
  refine lv_iload_n hx hb dSt_ask_4 rfl (lv_at hl 1 rfl) ?_
  refine lv_dup2_11 hx hb dSt_ask_5 rfl rfl ?_
  obtain ⟨hi1, hwp⟩ := hwp
  refine va_iald hx hb hK hP 7 0 rfl rfl hi1 dSt_ask_6 ?_
  refine lv_iconst (v := 1) hx hb dSt_ask_7 (by decide) ?_
  refine lv_iadd hx hb dSt_ask_8 ?_
  obtain ⟨hi2, hwp⟩ := hwp
  refine va_iast hx hb hK hP hD hS 7 0 rfl rfl hi2 dSt_ask_9 (fun H locs hP hD hS => ?_)
  obtain ⟨σ3, eσ3⟩ : ∃ z, z = cu σ 3 x1.toNatClampNeg ((σ.1 3 x1.toNatClampNeg) + 1) := ⟨_, rfl⟩
  have hwp := hwp σ3 eσ3
  have hP : va_P D clA (cw a t σ3) H := by rw [eσ3]; exact hP
  have hD : va_D A (cw a t σ3) := by rw [eσ3]; exact hD
  refine lv_aload_n hx hb dSt_ask_10 rfl (lv_at hl 0 rfl) ?_
  refine va_get (D := D) (ci := 6) (C := RSt) (T := TSt) (N := 8) hx hb hts hinSt hown hK hP 5 rfl rfl 1 (by decide) lk15 (fun _ h9 => h9) rfl dSt_ask_11 ?_
  refine lv_iload_n hx hb dSt_ask_14 rfl (lv_at hl 1 rfl) ?_
  refine lv_aload_n hx hb dSt_ask_15 rfl (lv_at hl 0 rfl) ?_
  refine va_get (D := D) (ci := 6) (C := RSt) (T := TSt) (N := 8) hx hb hts hinSt hown hK hP 5 rfl rfl 0 (by decide) lk9 (fun _ h9 => h9) rfl dSt_ask_16 ?_
  refine lv_iload_n hx hb dSt_ask_19 rfl (lv_at hl 1 rfl) ?_
  obtain ⟨hi4, hwp⟩ := hwp
  refine va_iald hx hb hK hP 7 0 rfl rfl hi4 dSt_ask_20 ?_
  obtain ⟨hi5, hwp⟩ := hwp
  refine va_iast hx hb hK hP hD hS 8 0 rfl rfl hi5 dSt_ask_21 (fun H locs hP hD hS => ?_)
  obtain ⟨σ6, eσ6⟩ : ∃ z, z = cu σ3 4 x1.toNatClampNeg (σ3.1 3 x1.toNatClampNeg) := ⟨_, rfl⟩
  have hwp := hwp σ6 eσ6
  have hP : va_P D clA (cw a t σ6) H := by rw [eσ6]; exact hP
  have hD : va_D A (cw a t σ6) := by rw [eσ6]; exact hD
  refine lv_aload_n hx hb dSt_ask_22 rfl (lv_at hl 0 rfl) ?_
  refine va_get (D := D) (ci := 6) (C := RSt) (T := TSt) (N := 8) hx hb hts hinSt hown hK hP 5 rfl rfl 2 (by decide) lk18 (fun _ h9 => h9) rfl dSt_ask_23 ?_
  refine lv_iload_n hx hb dSt_ask_26 rfl (lv_at hl 1 rfl) ?_
  refine lv_iconst (v := 0) hx hb dSt_ask_27 (by decide) ?_
  obtain ⟨hi7, hwp⟩ := hwp
  refine va_iast hx hb hK hP hD hS 9 0 rfl rfl hi7 dSt_ask_28 (fun H locs hP hD hS => ?_)
  obtain ⟨σ8, eσ8⟩ : ∃ z, z = cu σ6 5 x1.toNatClampNeg 0 := ⟨_, rfl⟩
  have hwp := hwp σ8 eσ8
  have hP : va_P D clA (cw a t σ8) H := by rw [eσ8]; exact hP
  have hD : va_D A (cw a t σ8) := by rw [eσ8]; exact hD
  refine lv_aload_n hx hb dSt_ask_29 rfl (lv_at hl 0 rfl) ?_
  refine va_get (D := D) (ci := 6) (C := RSt) (T := TSt) (N := 8) hx hb hts hinSt hown hK hP 5 rfl rfl 4 (by decide) lk25 (fun x9 h9 => u_same ksstate x9 h9) rfl dSt_ask_30 ?_
  refine lv_iload_n hx hb dSt_ask_33 rfl (lv_at hl 1 rfl) ?_
  refine lv_iconst (v := 1) hx hb dSt_ask_34 (by decide) ?_
  obtain ⟨hi9, hwp⟩ := hwp
  refine va_iast hx hb hK hP hD hS 6 0 rfl rfl hi9 dSt_ask_35 (fun H locs hP hD hS => ?_)
  obtain ⟨σ10, eσ10⟩ : ∃ z, z = cu σ8 1 x1.toNatClampNeg 1 := ⟨_, rfl⟩
  have hwp := hwp σ10 eσ10
  have hP : va_P D clA (cw a t σ10) H := by rw [eσ10]; exact hP
  have hD : va_D A (cw a t σ10) := by rw [eσ10]; exact hD
  refine lv_aload_n hx hb dSt_ask_36 rfl (lv_at hl 0 rfl) ?_
  refine lv_iload_n hx hb dSt_ask_37 rfl (lv_at hl 1 rfl) ?_
  refine lv_iconst (v := 0) hx hb dSt_ask_38 (by decide) ?_
  refine lv_aload_n hx hb dSt_ask_39 rfl (lv_at hl 0 rfl) ?_
  refine va_get (D := D) (ci := 6) (C := RSt) (T := TSt) (N := 8) hx hb hts hinSt hown hK hP 5 rfl rfl 1 (by decide) lk15 (fun _ h9 => h9) rfl dSt_ask_40 ?_
  refine lv_iload_n hx hb dSt_ask_43 rfl (lv_at hl 1 rfl) ?_
  obtain ⟨hi11, hwp⟩ := hwp
  refine va_iald hx hb hK hP 8 0 rfl rfl hi11 dSt_ask_44 ?_
  obtain ⟨P12, hP12, hwp⟩ := hwp
  refine uCallUv (As := [.int x1, .int 0, .int (σ10.1 4 x1.toNatClampNeg)]) (rest := []) (C := RSt) ⟨hx, hb, hml, hown, hts⟩ (kC_St_sendToAllOthers l D a A t   σ10 x1 0 (σ10.1 4 x1.toNatClampNeg) P12 hP12) (va_cwU (x := ⟨"NodeServices$StampLock", "sendToAllOthers", "(III)V"⟩) (owner := "NodeServices$Service") 3 hts (gdU wm_365 wm_366 wm_368 wm_369 wm_4 wm_370) rfl rfl rfl rfl (by decide +kernel) ⟨Nat.le_of_ble_eq_true rfl, Nat.le_of_ble_eq_true rfl⟩) (va_recv (ci := 6) (q0 := 5) hK hP rfl rfl) hP hK hD hA hS rfl hl.1 rfl (Nat.le_of_ble_eq_true rfl) dSt_ask_45 ⟨Nat.le_of_ble_eq_true rfl, Nat.le_of_ble_eq_true rfl⟩ (fun u13 H locs hu13 hP hD hS => ?_)
  have hwp := hwp u13 hu13
  exact W.vret hx hb hr (fun t ht hW => ⟨⟨u13, rfl, hwp, uEnd ht hW hP hK hD hS hA⟩, hS.F ht⟩) hS.2.2 dSt_ask_48
-- NodeServices$StampLock: void release(int), on St
def wC_St_release_46 (a : Nat → Nat) (K9 : CS → Int32 → Int32 → Prop) (R : CS → Prop) (σ : CS) (y1 : Int32) (y2 : Int32) : Prop :=
  K9 σ y1 (y2 + 1)
def wC_St_release_9_step (a : Nat → Nat) (K9 : CS → Int32 → Int32 → Prop) (R : CS → Prop) (σ : CS) (y1 : Int32) (y2 : Int32) : Prop :=
  (((4 ≤ y2) → R σ) ∧ ((¬ 4 ≤ y2) → (vp_in ((y1 * 4) + y2) 16 ∧ ((((σ.1 6 ((y1 * 4) + y2).toNatClampNeg) = 0) → wC_St_release_46 a K9 R σ y1 y2) ∧ ((¬ (σ.1 6 ((y1 * 4) + y2).toNatClampNeg) = 0) → (vp_in ((y1 * 4) + y2) 16 ∧ (∀ σ5 : CS, σ5 = cu σ 6 ((y1 * 4) + y2).toNatClampNeg (vp_nar .boolean 0) → (∃ P6 : CS → Prop, wC_St_send a P6 σ5 y1 y2 1 0 ∧ (∀ (u7 : CS), P6 u7 → wC_St_release_46 a K9 R u7 y1 y2)))))))))
def wC_St_release_9 (a : Nat → Nat) (R : CS → Prop) : Nat → CS → Int32 → Int32 → Prop
  | 0 => fun _ _ _ => False
  | k + 1 => fun σ y1 y2 => wC_St_release_9_step a (wC_St_release_9 a R k) R σ y1 y2
def wC_St_release (a : Nat → Nat) (R : CS → Prop) (σ : CS) (x1 : Int32) : Prop :=
  (vp_in x1 4 ∧ (∀ σ9 : CS, σ9 = cu σ 1 x1.toNatClampNeg 0 → wC_St_release_9 a R 5 σ9 x1 0))
abbrev wsSt_release : List Cond := .code ySt_release cSt_release 3 none :: wg
abbrev rmC_St_release : Room := { frames := 3, cells := 5, slots := 20, locals := 69 }
set_option maxHeartbeats 4000000 in
set_option maxRecDepth 100000 in
theorem kC_St_release (l : Launch) (D : va_G) (a : Nat → Nat) (A : Nat → Prop) (t : Nat → ClassId) (σ : CS) (x1 : Int32) (R : CS → Prop) (hwp : wC_St_release a R σ x1) : Met l ySt_release wsSt_release rmC_St_release (va_Pc [.ref (a 5), .int x1] (uI D clA (cT t) A true (cw a t) σ)) (va_Qv R (uI D clA (cT t) A true (cw a t)) A) 5 20 A := by
  refine Met.ofW (cc := cSt_release) (maxL := 3) (ret := none) (by decide) rfl ?_
  intro p e s m args below meth c s₁ B hml hv
  obtain ⟨rfl, hP, hK, hD, hA⟩ := hv
  have hx := B.exec
  have hb := B.bytes
  have hr := B.returns
  have hts := atoms_spec (ws := wsSt_release) B.pre
  have hown : s.vm.findClass RSt = some m.cls := findClass_of_methodNamed B.named
  have hlocks := B.notSynchronized
  have hinSt : ∀ w ∈ u_ws RSt TSt 8, w ∈ wsSt_release := fun w h => List.mem_cons_of_mem _ (inSt w h)
  have ksstate := hts _ (List.mem_cons_of_mem _ wm_87)
  have lk21 := hts _ (List.mem_cons_of_mem _ wm_79)
  have lk25 := hts _ (List.mem_cons_of_mem _ wm_86)
  have hS : va_S A s.heap s.heap [] := va_S.rf
  have cut9 : ∀ (k9 : Nat), k9 ≤ 5 → ∀ (σ : CS) (y1 : Int32) (y2 : Int32) (H : Heap) (locs : List Loc) (ls : Array Slot), wC_St_release_9 a R k9 σ y1 y2 → va_P D clA (cw a t σ) H → va_D A (cw a t σ) → va_S A s.heap H locs → lv_has ls 3 [(0, .ref (a 5)), (1, .int y1), (2, .int y2)] → W p l e (headSpec wsSt_release rmC_St_release).room s m ([.ref (a 5), .int x1] : List Value).toArray below meth c H locs (1 * (5 - k9)) (4 * (5 - k9)) (MQ below (va_Qv R (uI D clA (cT t) A true (cw a t)) A) ([.ref (a 5), .int x1] : List Value).toArray s 5 20 A) (F0 m 9 ls []) := by
    intro k9
    induction k9 with
    | zero => intro hk9 σ y1 y2 H locs ls hwp hP hD hS hl; exact False.elim hwp
    | succ k9 ih9 =>
      intro hk9 σ y1 y2 H locs ls hwp hP hD hS hl
      have cut46 : ∀ (σ : CS) (y1 : Int32) (y2 : Int32) (H : Heap) (locs : List Loc) (ls : Array Slot), wC_St_release_46 a (wC_St_release_9 a R k9) R σ y1 y2 → va_P D clA (cw a t σ) H → va_D A (cw a t σ) → va_S A s.heap H locs → lv_has ls 3 [(0, .ref (a 5)), (1, .int y1), (2, .int y2)] → W p l e (headSpec wsSt_release rmC_St_release).room s m ([.ref (a 5), .int x1] : List Value).toArray below meth c H locs (1 * (5 - k9)) (4 * (5 - k9)) (MQ below (va_Qv R (uI D clA (cT t) A true (cw a t)) A) ([.ref (a 5), .int x1] : List Value).toArray s 5 20 A) (F0 m 46 ls []) := by
        intro σ y1 y2 H locs ls hwp hP hD hS hl
        refine lv_iinc (k := 2) hx hb dSt_release_46 hl rfl (fx_inc1 _) (by decide) rfl (fun ls hl => ?_)
        have hl : lv_has ls 3 [(2, .int (y2 + 1)), (0, .ref (a 5)), (1, .int y1)] := hl
        refine lv_goto hx hb dSt_release_49 rfl ?_
        exact ih9 (by omega) σ y1 (y2 + 1) _ _ _ hwp hP hD hS (lv_sub hl [1, 2, 0] rfl)
      have hwp : wC_St_release_9_step a (wC_St_release_9 a R k9) R σ y1 y2 := hwp
      refine lv_iload_n hx hb dSt_release_9 rfl (lv_at hl 2 rfl) ?_
      refine lv_iconst (v := 4) hx hb dSt_release_10 (by decide) ?_
      refine lv_icmp_ge hx hb dSt_release_11 rfl (fun h1 => ?_) (fun h1 => ?_)
      · have hwp := hwp.1 h1
        refine W.widen (k := 5) (n := 20) (by omega) (by omega) ?_
        exact W.vret hx hb hr (fun t ht hW => ⟨⟨σ, rfl, hwp, uEnd ht hW hP hK hD hS hA⟩, hS.F ht⟩) hS.2.2 dSt_release_52
      · have hwp := hwp.2 h1
        refine lv_aload_n hx hb dSt_release_14 rfl (lv_at hl 0 rfl) ?_
        refine va_get (D := D) (ci := 6) (C := RSt) (T := TSt) (N := 8) hx hb hts hinSt hown hK hP 5 rfl rfl 3 (by decide) lk21 (fun _ h9 => h9) rfl dSt_release_15 ?_
        refine lv_iload_n hx hb dSt_release_18 rfl (lv_at hl 1 rfl) ?_
        refine lv_iconst (v := 4) hx hb dSt_release_19 (by decide) ?_
        refine lv_imul hx hb dSt_release_20 ?_
        refine lv_iload_n hx hb dSt_release_21 rfl (lv_at hl 2 rfl) ?_
        refine lv_iadd hx hb dSt_release_22 ?_
        obtain ⟨hi2, hwp⟩ := hwp
        refine va_zald hx hb hK hP 10 1 rfl rfl hi2 dSt_release_23 ?_
        refine lv_if_eq hx hb dSt_release_24 rfl (fun h3 => ?_) (fun h3 => ?_)
        · have hwp := hwp.1 h3
          refine W.widen (k := (1 * (5 - k9))) (n := (4 * (5 - k9))) (by omega) (by omega) ?_
          exact cut46 σ y1 y2 _ _ _ hwp hP hD hS (lv_sub hl [0, 1, 2] rfl)
        · have hwp := hwp.2 h3
          refine lv_aload_n hx hb dSt_release_27 rfl (lv_at hl 0 rfl) ?_
          refine va_get (D := D) (ci := 6) (C := RSt) (T := TSt) (N := 8) hx hb hts hinSt hown hK hP 5 rfl rfl 3 (by decide) lk21 (fun _ h9 => h9) rfl dSt_release_28 ?_
          refine lv_iload_n hx hb dSt_release_31 rfl (lv_at hl 1 rfl) ?_
          refine lv_iconst (v := 4) hx hb dSt_release_32 (by decide) ?_
          refine lv_imul hx hb dSt_release_33 ?_
          refine lv_iload_n hx hb dSt_release_34 rfl (lv_at hl 2 rfl) ?_
          refine lv_iadd hx hb dSt_release_35 ?_
          refine lv_iconst (v := 0) hx hb dSt_release_36 (by decide) ?_
          obtain ⟨hi4, hwp⟩ := hwp
          refine va_zast hx hb hK hP hD hS 10 1 rfl rfl hi4 dSt_release_37 (fun H locs hP hD hS => ?_)
          obtain ⟨σ5, eσ5⟩ : ∃ z, z = cu σ 6 ((y1 * 4) + y2).toNatClampNeg (vp_nar .boolean 0) := ⟨_, rfl⟩
          have hwp := hwp σ5 eσ5
          have hP : va_P D clA (cw a t σ5) H := by rw [eσ5]; exact hP
          have hD : va_D A (cw a t σ5) := by rw [eσ5]; exact hD
          refine lv_aload_n hx hb dSt_release_38 rfl (lv_at hl 0 rfl) ?_
          refine lv_iload_n hx hb dSt_release_39 rfl (lv_at hl 1 rfl) ?_
          refine lv_iload_n hx hb dSt_release_40 rfl (lv_at hl 2 rfl) ?_
          refine lv_iconst (v := 1) hx hb dSt_release_41 (by decide) ?_
          refine lv_iconst (v := 0) hx hb dSt_release_42 (by decide) ?_
          obtain ⟨P6, hP6, hwp⟩ := hwp
          refine uCallUv (As := [.int y1, .int y2, .int 1, .int 0]) (rest := []) (C := RSt) ⟨hx, hb, hml, hown, hts⟩ (kC_St_send l D a A t   σ5 y1 y2 1 0 P6 hP6) (va_cwU (x := ⟨"NodeServices$StampLock", "send", "(IIII)V"⟩) (owner := "NodeServices$Service") 4 hts (gdU wm_478 wm_479 wm_480 wm_372 wm_4 wm_379) rfl rfl rfl rfl (by decide +kernel) ⟨Nat.le_of_ble_eq_true rfl, Nat.le_of_ble_eq_true rfl⟩) (va_recv (ci := 6) (q0 := 5) hK hP rfl rfl) hP hK hD hA hS rfl hl.1 rfl (Nat.le_of_ble_eq_true rfl) dSt_release_43 ⟨by show (1 * (5 - (k9 + 1))) + 1 ≤ 5; omega, by show (4 * (5 - (k9 + 1))) + 4 ≤ 20; omega⟩ (fun u7 H locs hu7 hP hD hS => ?_)
          have hwp := hwp u7 hu7
          refine W.widen (k := (1 * (5 - k9))) (n := (4 * (5 - k9))) (by omega) (by omega) ?_
          exact cut46 u7 y1 y2 _ _ _ hwp hP hD hS (lv_sub hl [0, 1, 2] rfl)
  have hl := lv_entry ([.ref (a 5), .int x1]) (n := 3) (Nat.le_of_ble_eq_true rfl)
  rw [lg_entry_eq]
  generalize (lg_sl ([.ref (a 5), .int x1]) ++ List.replicate (3 - (lg_sl ([.ref (a 5), .int x1])).length) Slot.unset).toArray = ls at hl ⊢
  have hl : lv_has ls 3 [(0, .ref (a 5)), (1, .int x1)] := hl
  refine lv_aload_n hx hb dSt_release_0 rfl (lv_at hl 0 rfl) ?_
  refine va_get (D := D) (ci := 6) (C := RSt) (T := TSt) (N := 8) hx hb hts hinSt hown hK hP 5 rfl rfl 4 (by decide) lk25 (fun x9 h9 => u_same ksstate x9 h9) rfl dSt_release_1 ?_
  refine lv_iload_n hx hb dSt_release_4 rfl (lv_at hl 1 rfl) ?_
  refine lv_iconst (v := 0) hx hb dSt_release_5 (by decide) ?_
  obtain ⟨hi8, hwp⟩ := hwp
  refine va_iast hx hb hK hP hD hS 6 0 rfl rfl hi8 dSt_release_6 (fun H locs hP hD hS => ?_)
  obtain ⟨σ9, eσ9⟩ : ∃ z, z = cu σ 1 x1.toNatClampNeg 0 := ⟨_, rfl⟩
  have hwp := hwp σ9 eσ9
  have hP : va_P D clA (cw a t σ9) H := by rw [eσ9]; exact hP
  have hD : va_D A (cw a t σ9) := by rw [eσ9]; exact hD
  refine lv_iconst (v := 0) hx hb dSt_release_7 (by decide) ?_
  refine lv_istore_n hx hb dSt_release_8 rfl hl (by decide) rfl (fun ls hl => ?_)
  have hl : lv_has ls 3 [(2, .int 0), (0, .ref (a 5)), (1, .int x1)] := hl
  refine W.widen (k := (1 * (5 - 5))) (n := (4 * (5 - 5))) (by omega) (by omega) ?_
  exact cut9 5 (by omega) σ9 x1 0 _ _ _ hwp hP hD hS (lv_sub hl [1, 2, 0] rfl)
-- NodeServices$StampLock: private boolean isBefore(int, int, int), on St
def wC_St_isBefore_29 (a : Nat → Nat) (R : Int32 → CS → Prop) (σ : CS) (y1 : Int32) (y2 : Int32) (y3 : Int32) : Prop :=
  R 0 σ
def wC_St_isBefore_25 (a : Nat → Nat) (R : Int32 → CS → Prop) (σ : CS) (y1 : Int32) (y2 : Int32) (y3 : Int32) : Prop :=
  R 1 σ
def wC_St_isBefore (a : Nat → Nat) (R : Int32 → CS → Prop) (σ : CS) (x1 x2 x3 : Int32) : Prop :=
  (vp_in x1 4 ∧ ((((σ.1 4 x1.toNatClampNeg) < x3) → wC_St_isBefore_25 a R σ x1 x2 x3) ∧ ((¬ (σ.1 4 x1.toNatClampNeg) < x3) → (vp_in x1 4 ∧ (((¬ (σ.1 4 x1.toNatClampNeg) = x3) → wC_St_isBefore_29 a R σ x1 x2 x3) ∧ (((σ.1 4 x1.toNatClampNeg) = x3) → (((x2 ≤ x1) → wC_St_isBefore_29 a R σ x1 x2 x3) ∧ ((¬ x2 ≤ x1) → wC_St_isBefore_25 a R σ x1 x2 x3))))))))
abbrev wsSt_isBefore : List Cond := .code ySt_isBefore cSt_isBefore 4 (some .boolean) :: wg
abbrev rmC_St_isBefore : Room := { frames := 0, cells := 0, slots := 0, locals := 0 }
set_option maxHeartbeats 4000000 in
set_option maxRecDepth 100000 in
theorem kC_St_isBefore (l : Launch) (D : va_G) (a : Nat → Nat) (A : Nat → Prop) (t : Nat → ClassId) (σ : CS) (x1 x2 x3 : Int32) (R : Int32 → CS → Prop) (hwp : wC_St_isBefore a R σ x1 x2 x3) : Met l ySt_isBefore wsSt_isBefore rmC_St_isBefore (va_Pc [.ref (a 5), .int x1, .int x2, .int x3] (uI D clA (cT t) A true (cw a t) σ)) (va_Qi R (uI D clA (cT t) A true (cw a t)) A) 0 0 A := by
  refine Met.ofW (cc := cSt_isBefore) (maxL := 4) (ret := (some .boolean)) (by decide) rfl ?_
  intro p e s m args below meth c s₁ B hml hv
  obtain ⟨rfl, hP, hK, hD, hA⟩ := hv
  have hx := B.exec
  have hb := B.bytes
  have hr := B.returns
  have hts := atoms_spec (ws := wsSt_isBefore) B.pre
  have hown : s.vm.findClass RSt = some m.cls := findClass_of_methodNamed B.named
  have hlocks := B.notSynchronized
  have hinSt : ∀ w ∈ u_ws RSt TSt 8, w ∈ wsSt_isBefore := fun w h => List.mem_cons_of_mem _ (inSt w h)
  have lk15 := hts _ (List.mem_cons_of_mem _ wm_77)
  have hS : va_S A s.heap s.heap [] := va_S.rf
  have cut29 : ∀ (σ : CS) (y1 : Int32) (y2 : Int32) (y3 : Int32) (H : Heap) (locs : List Loc) (ls : Array Slot), wC_St_isBefore_29 a R σ y1 y2 y3 → va_P D clA (cw a t σ) H → va_D A (cw a t σ) → va_S A s.heap H locs → lv_has ls 4 [(0, .ref (a 5)), (1, .int y1), (2, .int y2), (3, .int y3)] → W p l e (headSpec wsSt_isBefore rmC_St_isBefore).room s m ([.ref (a 5), .int x1, .int x2, .int x3] : List Value).toArray below meth c H locs 0 0 (MQ below (va_Qi R (uI D clA (cT t) A true (cw a t)) A) ([.ref (a 5), .int x1, .int x2, .int x3] : List Value).toArray s 0 0 A) (F0 m 29 ls []) := by
    intro σ y1 y2 y3 H locs ls hwp hP hD hS hl
    refine lv_iconst (v := 0) hx hb dSt_isBefore_29 (by decide) ?_
    exact W.zret (v := 0) hx hb hr (by decide) (fun t ht hW => ⟨⟨0, σ, rfl, hwp, uEnd ht hW hP hK hD hS hA⟩, hS.F ht⟩) hS.2.2 dSt_isBefore_30
  have cut25 : ∀ (σ : CS) (y1 : Int32) (y2 : Int32) (y3 : Int32) (H : Heap) (locs : List Loc) (ls : Array Slot), wC_St_isBefore_25 a R σ y1 y2 y3 → va_P D clA (cw a t σ) H → va_D A (cw a t σ) → va_S A s.heap H locs → lv_has ls 4 [(0, .ref (a 5)), (1, .int y1), (2, .int y2), (3, .int y3)] → W p l e (headSpec wsSt_isBefore rmC_St_isBefore).room s m ([.ref (a 5), .int x1, .int x2, .int x3] : List Value).toArray below meth c H locs 0 0 (MQ below (va_Qi R (uI D clA (cT t) A true (cw a t)) A) ([.ref (a 5), .int x1, .int x2, .int x3] : List Value).toArray s 0 0 A) (F0 m 25 ls []) := by
    intro σ y1 y2 y3 H locs ls hwp hP hD hS hl
    refine lv_iconst (v := 1) hx hb dSt_isBefore_25 (by decide) ?_
    refine lv_goto hx hb dSt_isBefore_26 rfl ?_
    exact W.zret (v := 1) hx hb hr (by decide) (fun t ht hW => ⟨⟨1, σ, rfl, hwp, uEnd ht hW hP hK hD hS hA⟩, hS.F ht⟩) hS.2.2 dSt_isBefore_30
  have hl := lv_entry ([.ref (a 5), .int x1, .int x2, .int x3]) (n := 4) (Nat.le_of_ble_eq_true rfl)
  rw [lg_entry_eq]
  generalize (lg_sl ([.ref (a 5), .int x1, .int x2, .int x3]) ++ List.replicate (4 - (lg_sl ([.ref (a 5), .int x1, .int x2, .int x3])).length) Slot.unset).toArray = ls at hl ⊢
  have hl : lv_has ls 4 [(0, .ref (a 5)), (1, .int x1), (2, .int x2), (3, .int x3)] := hl
  refine lv_aload_n hx hb dSt_isBefore_0 rfl (lv_at hl 0 rfl) ?_
  refine va_get (D := D) (ci := 6) (C := RSt) (T := TSt) (N := 8) hx hb hts hinSt hown hK hP 5 rfl rfl 1 (by decide) lk15 (fun _ h9 => h9) rfl dSt_isBefore_1 ?_
  refine lv_iload_n hx hb dSt_isBefore_4 rfl (lv_at hl 1 rfl) ?_
  obtain ⟨hi1, hwp⟩ := hwp
  refine va_iald hx hb hK hP 8 0 rfl rfl hi1 dSt_isBefore_5 ?_
  refine lv_iload_n hx hb dSt_isBefore_6 rfl (lv_at hl 3 rfl) ?_
  refine lv_icmp_lt hx hb dSt_isBefore_7 rfl (fun h2 => ?_) (fun h2 => ?_)
  · have hwp := hwp.1 h2
    exact cut25 σ x1 x2 x3 _ _ _ hwp hP hD hS (lv_sub hl [0, 1, 2, 3] rfl)
  · have hwp := hwp.2 h2
    refine lv_aload_n hx hb dSt_isBefore_10 rfl (lv_at hl 0 rfl) ?_
    refine va_get (D := D) (ci := 6) (C := RSt) (T := TSt) (N := 8) hx hb hts hinSt hown hK hP 5 rfl rfl 1 (by decide) lk15 (fun _ h9 => h9) rfl dSt_isBefore_11 ?_
    refine lv_iload_n hx hb dSt_isBefore_14 rfl (lv_at hl 1 rfl) ?_
    obtain ⟨hi3, hwp⟩ := hwp
    refine va_iald hx hb hK hP 8 0 rfl rfl hi3 dSt_isBefore_15 ?_
    refine lv_iload_n hx hb dSt_isBefore_16 rfl (lv_at hl 3 rfl) ?_
    refine lv_icmp_ne hx hb dSt_isBefore_17 rfl (fun h4 => ?_) (fun h4 => ?_)
    · have hwp := hwp.1 h4
      exact cut29 σ x1 x2 x3 _ _ _ hwp hP hD hS (lv_sub hl [0, 1, 2, 3] rfl)
    · have hwp := hwp.2 h4
      refine lv_iload_n hx hb dSt_isBefore_20 rfl (lv_at hl 1 rfl) ?_
      refine lv_iload_n hx hb dSt_isBefore_21 rfl (lv_at hl 2 rfl) ?_
      refine lv_icmp_ge hx hb dSt_isBefore_22 rfl (fun h5 => ?_) (fun h5 => ?_)
      · have hwp := hwp.1 h5
        exact cut29 σ x1 x2 x3 _ _ _ hwp hP hD hS (lv_sub hl [0, 1, 2, 3] rfl)
      · have hwp := hwp.2 h5
        exact cut25 σ x1 x2 x3 _ _ _ hwp hP hD hS (lv_sub hl [0, 1, 2, 3] rfl)
-- NodeServices$StampLock: private void takeRequest(int, int, int), on St
def wC_St_takeRequest_60 (a : Nat → Nat) (R : CS → Prop) (σ : CS) (y1 : Int32) (y2 : Int32) (y3 : Int32) : Prop :=
  (∃ P1 : CS → Prop, wC_St_send a P1 σ y2 y1 1 0 ∧ (∀ (u2 : CS), P1 u2 → R u2))
def wC_St_takeRequest_46 (a : Nat → Nat) (R : CS → Prop) (σ : CS) (y1 : Int32) (y2 : Int32) (y3 : Int32) : Prop :=
  (vp_in ((y2 * 4) + y1) 16 ∧ (∀ σ4 : CS, σ4 = cu σ 6 ((y2 * 4) + y1).toNatClampNeg (vp_nar .boolean 1) → R σ4))
def wC_St_takeRequest (a : Nat → Nat) (R : CS → Prop) (σ : CS) (x1 x2 x3 : Int32) : Prop :=
  (vp_in x2 4 ∧ (vp_in x2 4 ∧ (∀ σ7 : CS, σ7 = cu σ 3 x2.toNatClampNeg (if (σ.1 3 x2.toNatClampNeg) < x3 then x3 else (σ.1 3 x2.toNatClampNeg)) → (vp_in x2 4 ∧ ((((σ7.1 1 x2.toNatClampNeg) = 2) → wC_St_takeRequest_46 a R σ7 x1 x2 x3) ∧ ((¬ (σ7.1 1 x2.toNatClampNeg) = 2) → (vp_in x2 4 ∧ (((¬ (σ7.1 1 x2.toNatClampNeg) = 1) → wC_St_takeRequest_60 a R σ7 x1 x2 x3) ∧ (((σ7.1 1 x2.toNatClampNeg) = 1) → (∃ P12 : Int32 → CS → Prop, wC_St_isBefore a P12 σ7 x2 x1 x3 ∧ (∀ (r14 : Int32) (u13 : CS), P12 r14 u13 → (((r14 = 0) → wC_St_takeRequest_60 a R u13 x1 x2 x3) ∧ ((¬ r14 = 0) → wC_St_takeRequest_46 a R u13 x1 x2 x3)))))))))))))
abbrev wsSt_takeRequest : List Cond := .code ySt_takeRequest cSt_takeRequest 4 none :: wg
abbrev rmC_St_takeRequest : Room := { frames := 3, cells := 1, slots := 4, locals := 69 }
set_option maxHeartbeats 4000000 in
set_option maxRecDepth 100000 in
theorem kC_St_takeRequest (l : Launch) (D : va_G) (a : Nat → Nat) (A : Nat → Prop) (t : Nat → ClassId) (σ : CS) (x1 x2 x3 : Int32) (R : CS → Prop) (hwp : wC_St_takeRequest a R σ x1 x2 x3) : Met l ySt_takeRequest wsSt_takeRequest rmC_St_takeRequest (va_Pc [.ref (a 5), .int x1, .int x2, .int x3] (uI D clA (cT t) A true (cw a t) σ)) (va_Qv R (uI D clA (cT t) A true (cw a t)) A) 1 4 A := by
  refine Met.ofW (cc := cSt_takeRequest) (maxL := 4) (ret := none) (by decide) rfl ?_
  intro p e s m args below meth c s₁ B hml hv
  obtain ⟨rfl, hP, hK, hD, hA⟩ := hv
  have hx := B.exec
  have hb := B.bytes
  have hr := B.returns
  have hts := atoms_spec (ws := wsSt_takeRequest) B.pre
  have hown : s.vm.findClass RSt = some m.cls := findClass_of_methodNamed B.named
  have hlocks := B.notSynchronized
  have hinSt : ∀ w ∈ u_ws RSt TSt 8, w ∈ wsSt_takeRequest := fun w h => List.mem_cons_of_mem _ (inSt w h)
  have ksstate := hts _ (List.mem_cons_of_mem _ wm_87)
  have lk21 := hts _ (List.mem_cons_of_mem _ wm_79)
  have lk25 := hts _ (List.mem_cons_of_mem _ wm_86)
  have lk9 := hts _ (List.mem_cons_of_mem _ wm_76)
  have hS : va_S A s.heap s.heap [] := va_S.rf
  have cut60 : ∀ (σ : CS) (y1 : Int32) (y2 : Int32) (y3 : Int32) (H : Heap) (locs : List Loc) (ls : Array Slot), wC_St_takeRequest_60 a R σ y1 y2 y3 → va_P D clA (cw a t σ) H → va_D A (cw a t σ) → va_S A s.heap H locs → lv_has ls 4 [(0, .ref (a 5)), (1, .int y1), (2, .int y2), (3, .int y3)] → W p l e (headSpec wsSt_takeRequest rmC_St_takeRequest).room s m ([.ref (a 5), .int x1, .int x2, .int x3] : List Value).toArray below meth c H locs 0 0 (MQ below (va_Qv R (uI D clA (cT t) A true (cw a t)) A) ([.ref (a 5), .int x1, .int x2, .int x3] : List Value).toArray s 1 4 A) (F0 m 60 ls []) := by
    intro σ y1 y2 y3 H locs ls hwp hP hD hS hl
    refine lv_aload_n hx hb dSt_takeRequest_60 rfl (lv_at hl 0 rfl) ?_
    refine lv_iload_n hx hb dSt_takeRequest_61 rfl (lv_at hl 2 rfl) ?_
    refine lv_iload_n hx hb dSt_takeRequest_62 rfl (lv_at hl 1 rfl) ?_
    refine lv_iconst (v := 1) hx hb dSt_takeRequest_63 (by decide) ?_
    refine lv_iconst (v := 0) hx hb dSt_takeRequest_64 (by decide) ?_
    obtain ⟨P1, hP1, hwp⟩ := hwp
    refine uCallUv (As := [.int y2, .int y1, .int 1, .int 0]) (rest := []) (C := RSt) ⟨hx, hb, hml, hown, hts⟩ (kC_St_send l D a A t   σ y2 y1 1 0 P1 hP1) (va_cwU (x := ⟨"NodeServices$StampLock", "send", "(IIII)V"⟩) (owner := "NodeServices$Service") 4 hts (gdU wm_478 wm_479 wm_480 wm_372 wm_4 wm_379) rfl rfl rfl rfl (by decide +kernel) ⟨Nat.le_of_ble_eq_true rfl, Nat.le_of_ble_eq_true rfl⟩) (va_recv (ci := 6) (q0 := 5) hK hP rfl rfl) hP hK hD hA hS rfl hl.1 rfl (Nat.le_of_ble_eq_true rfl) dSt_takeRequest_65 ⟨Nat.le_of_ble_eq_true rfl, Nat.le_of_ble_eq_true rfl⟩ (fun u2 H locs hu2 hP hD hS => ?_)
    have hwp := hwp u2 hu2
    exact W.vret hx hb hr (fun t ht hW => ⟨⟨u2, rfl, hwp, uEnd ht hW hP hK hD hS hA⟩, hS.F ht⟩) hS.2.2 dSt_takeRequest_68
  have cut46 : ∀ (σ : CS) (y1 : Int32) (y2 : Int32) (y3 : Int32) (H : Heap) (locs : List Loc) (ls : Array Slot), wC_St_takeRequest_46 a R σ y1 y2 y3 → va_P D clA (cw a t σ) H → va_D A (cw a t σ) → va_S A s.heap H locs → lv_has ls 4 [(0, .ref (a 5)), (1, .int y1), (2, .int y2), (3, .int y3)] → W p l e (headSpec wsSt_takeRequest rmC_St_takeRequest).room s m ([.ref (a 5), .int x1, .int x2, .int x3] : List Value).toArray below meth c H locs 0 0 (MQ below (va_Qv R (uI D clA (cT t) A true (cw a t)) A) ([.ref (a 5), .int x1, .int x2, .int x3] : List Value).toArray s 1 4 A) (F0 m 46 ls []) := by
    intro σ y1 y2 y3 H locs ls hwp hP hD hS hl
    refine lv_aload_n hx hb dSt_takeRequest_46 rfl (lv_at hl 0 rfl) ?_
    refine va_get (D := D) (ci := 6) (C := RSt) (T := TSt) (N := 8) hx hb hts hinSt hown hK hP 5 rfl rfl 3 (by decide) lk21 (fun _ h9 => h9) rfl dSt_takeRequest_47 ?_
    refine lv_iload_n hx hb dSt_takeRequest_50 rfl (lv_at hl 2 rfl) ?_
    refine lv_iconst (v := 4) hx hb dSt_takeRequest_51 (by decide) ?_
    refine lv_imul hx hb dSt_takeRequest_52 ?_
    refine lv_iload_n hx hb dSt_takeRequest_53 rfl (lv_at hl 1 rfl) ?_
    refine lv_iadd hx hb dSt_takeRequest_54 ?_
    refine lv_iconst (v := 1) hx hb dSt_takeRequest_55 (by decide) ?_
    obtain ⟨hi3, hwp⟩ := hwp
    refine va_zast hx hb hK hP hD hS 10 1 rfl rfl hi3 dSt_takeRequest_56 (fun H locs hP hD hS => ?_)
    obtain ⟨σ4, eσ4⟩ : ∃ z, z = cu σ 6 ((y2 * 4) + y1).toNatClampNeg (vp_nar .boolean 1) := ⟨_, rfl⟩
    have hwp := hwp σ4 eσ4
    have hP : va_P D clA (cw a t σ4) H := by rw [eσ4]; exact hP
    have hD : va_D A (cw a t σ4) := by rw [eσ4]; exact hD
    refine lv_goto hx hb dSt_takeRequest_57 rfl ?_
    refine W.widen (k := 1) (n := 4) (by omega) (by omega) ?_
    exact W.vret hx hb hr (fun t ht hW => ⟨⟨σ4, rfl, hwp, uEnd ht hW hP hK hD hS hA⟩, hS.F ht⟩) hS.2.2 dSt_takeRequest_68
  have hl := lv_entry ([.ref (a 5), .int x1, .int x2, .int x3]) (n := 4) (Nat.le_of_ble_eq_true rfl)
  rw [lg_entry_eq]
  generalize (lg_sl ([.ref (a 5), .int x1, .int x2, .int x3]) ++ List.replicate (4 - (lg_sl ([.ref (a 5), .int x1, .int x2, .int x3])).length) Slot.unset).toArray = ls at hl ⊢
  have hl : lv_has ls 4 [(0, .ref (a 5)), (1, .int x1), (2, .int x2), (3, .int x3)] := hl
  refine lv_aload_n hx hb dSt_takeRequest_0 rfl (lv_at hl 0 rfl) ?_
  refine va_get (D := D) (ci := 6) (C := RSt) (T := TSt) (N := 8) hx hb hts hinSt hown hK hP 5 rfl rfl 0 (by decide) lk9 (fun _ h9 => h9) rfl dSt_takeRequest_1 ?_
  refine lv_iload_n hx hb dSt_takeRequest_4 rfl (lv_at hl 2 rfl) ?_
  refine lv_aload_n hx hb dSt_takeRequest_5 rfl (lv_at hl 0 rfl) ?_
  refine va_get (D := D) (ci := 6) (C := RSt) (T := TSt) (N := 8) hx hb hts hinSt hown hK hP 5 rfl rfl 0 (by decide) lk9 (fun _ h9 => h9) rfl dSt_takeRequest_6 ?_
  refine lv_iload_n hx hb dSt_takeRequest_9 rfl (lv_at hl 2 rfl) ?_
  obtain ⟨hi5, hwp⟩ := hwp
  refine va_iald hx hb hK hP 7 0 rfl rfl hi5 dSt_takeRequest_10 ?_
  refine lv_iload_n hx hb dSt_takeRequest_11 rfl (lv_at hl 3 rfl) ?_
  refine va_mmax hx hb (hml.trans hl.1.symm) hown (hts _ (List.mem_cons_of_mem _ wm_634)) (hts _ (List.mem_cons_of_mem _ wm_635)) (hts _ (List.mem_cons_of_mem _ wm_11)) (hts _ (List.mem_cons_of_mem _ wm_636)) (Nat.le_of_ble_eq_true rfl) (Nat.le_of_ble_eq_true rfl) (Nat.le_of_ble_eq_true rfl) (Nat.le_of_ble_eq_true rfl) dSt_takeRequest_12 ?_
  obtain ⟨hi6, hwp⟩ := hwp
  refine va_iast hx hb hK hP hD hS 7 0 rfl rfl hi6 dSt_takeRequest_15 (fun H locs hP hD hS => ?_)
  obtain ⟨σ7, eσ7⟩ : ∃ z, z = cu σ 3 x2.toNatClampNeg (if (σ.1 3 x2.toNatClampNeg) < x3 then x3 else (σ.1 3 x2.toNatClampNeg)) := ⟨_, rfl⟩
  have hwp := hwp σ7 eσ7
  have hP : va_P D clA (cw a t σ7) H := by rw [eσ7]; exact hP
  have hD : va_D A (cw a t σ7) := by rw [eσ7]; exact hD
  refine lv_aload_n hx hb dSt_takeRequest_16 rfl (lv_at hl 0 rfl) ?_
  refine va_get (D := D) (ci := 6) (C := RSt) (T := TSt) (N := 8) hx hb hts hinSt hown hK hP 5 rfl rfl 4 (by decide) lk25 (fun x9 h9 => u_same ksstate x9 h9) rfl dSt_takeRequest_17 ?_
  refine lv_iload_n hx hb dSt_takeRequest_20 rfl (lv_at hl 2 rfl) ?_
  obtain ⟨hi8, hwp⟩ := hwp
  refine va_iald hx hb hK hP 6 0 rfl rfl hi8 dSt_takeRequest_21 ?_
  refine lv_iconst (v := 2) hx hb dSt_takeRequest_22 (by decide) ?_
  refine lv_icmp_eq hx hb dSt_takeRequest_23 rfl (fun h9 => ?_) (fun h9 => ?_)
  · have hwp := hwp.1 h9
    exact cut46 σ7 x1 x2 x3 _ _ _ hwp hP hD hS (lv_sub hl [0, 1, 2, 3] rfl)
  · have hwp := hwp.2 h9
    refine lv_aload_n hx hb dSt_takeRequest_26 rfl (lv_at hl 0 rfl) ?_
    refine va_get (D := D) (ci := 6) (C := RSt) (T := TSt) (N := 8) hx hb hts hinSt hown hK hP 5 rfl rfl 4 (by decide) lk25 (fun x9 h9 => u_same ksstate x9 h9) rfl dSt_takeRequest_27 ?_
    refine lv_iload_n hx hb dSt_takeRequest_30 rfl (lv_at hl 2 rfl) ?_
    obtain ⟨hi10, hwp⟩ := hwp
    refine va_iald hx hb hK hP 6 0 rfl rfl hi10 dSt_takeRequest_31 ?_
    refine lv_iconst (v := 1) hx hb dSt_takeRequest_32 (by decide) ?_
    refine lv_icmp_ne hx hb dSt_takeRequest_33 rfl (fun h11 => ?_) (fun h11 => ?_)
    · have hwp := hwp.1 h11
      exact cut60 σ7 x1 x2 x3 _ _ _ hwp hP hD hS (lv_sub hl [0, 1, 2, 3] rfl)
    · have hwp := hwp.2 h11
      refine lv_aload_n hx hb dSt_takeRequest_36 rfl (lv_at hl 0 rfl) ?_
      refine lv_iload_n hx hb dSt_takeRequest_37 rfl (lv_at hl 2 rfl) ?_
      refine lv_iload_n hx hb dSt_takeRequest_38 rfl (lv_at hl 1 rfl) ?_
      refine lv_iload_n hx hb dSt_takeRequest_39 rfl (lv_at hl 3 rfl) ?_
      obtain ⟨P12, hP12, hwp⟩ := hwp
      refine uCallVi (As := [.int x2, .int x1, .int x3]) (rest := []) (C := RSt) ⟨hx, hb, hml, hown, hts⟩ (kC_St_isBefore l D a A t   σ7 x2 x1 x3 P12 hP12) (cwV 3 hts (gdV wm_637 wm_639 wp_12 wm_6 wm_640) rfl rfl rfl (by decide +kernel) ⟨Nat.le_of_ble_eq_true rfl, Nat.le_of_ble_eq_true rfl⟩) (va_recv (ci := 6) (q0 := 5) hK hP rfl rfl) hP hK hD hA hS rfl hl.1 rfl (Nat.le_of_ble_eq_true rfl) dSt_takeRequest_40 ⟨Nat.le_of_ble_eq_true rfl, Nat.le_of_ble_eq_true rfl⟩ (fun r14 u13 H locs hu13 hP hD hS => ?_)
      have hwp := hwp r14 u13 hu13
      refine lv_if_eq hx hb dSt_takeRequest_43 rfl (fun h15 => ?_) (fun h15 => ?_)
      · have hwp := hwp.1 h15
        exact cut60 u13 x1 x2 x3 _ _ _ hwp hP hD hS (lv_sub hl [0, 1, 2, 3] rfl)
      · have hwp := hwp.2 h15
        exact cut46 u13 x1 x2 x3 _ _ _ hwp hP hD hS (lv_sub hl [0, 1, 2, 3] rfl)
-- NodeServices$StampLock: private void takeReply(int), on St
def wC_St_takeReply (a : Nat → Nat) (R : CS → Prop) (σ : CS) (x1 : Int32) : Prop :=
  (vp_in x1 4 ∧ (vp_in x1 4 ∧ (∀ σ3 : CS, σ3 = cu σ 5 x1.toNatClampNeg ((σ.1 5 x1.toNatClampNeg) + 1) → (vp_in x1 4 ∧ (((¬ (σ3.1 5 x1.toNatClampNeg) = 3) → R σ3) ∧ (((σ3.1 5 x1.toNatClampNeg) = 3) → (∃ P6 : CS → Prop, wC_St_enter a P6 σ3 x1 ∧ (∀ (u7 : CS), P6 u7 → R u7))))))))
abbrev wsSt_takeReply : List Cond := .code ySt_takeReply cSt_takeReply 2 none :: wg
abbrev rmC_St_takeReply : Room := { frames := 1, cells := 0, slots := 0, locals := 21 }
set_option maxHeartbeats 4000000 in
set_option maxRecDepth 100000 in
theorem kC_St_takeReply (l : Launch) (D : va_G) (a : Nat → Nat) (A : Nat → Prop) (t : Nat → ClassId) (σ : CS) (x1 : Int32) (R : CS → Prop) (hwp : wC_St_takeReply a R σ x1) : Met l ySt_takeReply wsSt_takeReply rmC_St_takeReply (va_Pc [.ref (a 5), .int x1] (uI D clA (cT t) A true (cw a t) σ)) (va_Qv R (uI D clA (cT t) A true (cw a t)) A) 0 0 A := by
  refine Met.ofW (cc := cSt_takeReply) (maxL := 2) (ret := none) (by decide) rfl ?_
  intro p e s m args below meth c s₁ B hml hv
  obtain ⟨rfl, hP, hK, hD, hA⟩ := hv
  have hx := B.exec
  have hb := B.bytes
  have hr := B.returns
  have hts := atoms_spec (ws := wsSt_takeReply) B.pre
  have hown : s.vm.findClass RSt = some m.cls := findClass_of_methodNamed B.named
  have hlocks := B.notSynchronized
  have hinSt : ∀ w ∈ u_ws RSt TSt 8, w ∈ wsSt_takeReply := fun w h => List.mem_cons_of_mem _ (inSt w h)
  have lk18 := hts _ (List.mem_cons_of_mem _ wm_78)
  have hS : va_S A s.heap s.heap [] := va_S.rf
  have hl := lv_entry ([.ref (a 5), .int x1]) (n := 2) (Nat.le_of_ble_eq_true rfl)
  rw [lg_entry_eq]
  generalize (lg_sl ([.ref (a 5), .int x1]) ++ List.replicate (2 - (lg_sl ([.ref (a 5), .int x1])).length) Slot.unset).toArray = ls at hl ⊢
  have hl : lv_has ls 2 [(0, .ref (a 5)), (1, .int x1)] := hl
  refine lv_aload_n hx hb dSt_takeReply_0 rfl (lv_at hl 0 rfl) ?_
  refine va_get (D := D) (ci := 6) (C := RSt) (T := TSt) (N := 8) hx hb hts hinSt hown hK hP 5 rfl rfl 2 (by decide) lk18 (fun _ h9 => h9) rfl dSt_takeReply_1 ?_
  refine lv_iload_n hx hb dSt_takeReply_4 rfl (lv_at hl 1 rfl) ?_
  refine lv_dup2_11 hx hb dSt_takeReply_5 rfl rfl ?_
  obtain ⟨hi1, hwp⟩ := hwp
  refine va_iald hx hb hK hP 9 0 rfl rfl hi1 dSt_takeReply_6 ?_
  refine lv_iconst (v := 1) hx hb dSt_takeReply_7 (by decide) ?_
  refine lv_iadd hx hb dSt_takeReply_8 ?_
  obtain ⟨hi2, hwp⟩ := hwp
  refine va_iast hx hb hK hP hD hS 9 0 rfl rfl hi2 dSt_takeReply_9 (fun H locs hP hD hS => ?_)
  obtain ⟨σ3, eσ3⟩ : ∃ z, z = cu σ 5 x1.toNatClampNeg ((σ.1 5 x1.toNatClampNeg) + 1) := ⟨_, rfl⟩
  have hwp := hwp σ3 eσ3
  have hP : va_P D clA (cw a t σ3) H := by rw [eσ3]; exact hP
  have hD : va_D A (cw a t σ3) := by rw [eσ3]; exact hD
  refine lv_aload_n hx hb dSt_takeReply_10 rfl (lv_at hl 0 rfl) ?_
  refine va_get (D := D) (ci := 6) (C := RSt) (T := TSt) (N := 8) hx hb hts hinSt hown hK hP 5 rfl rfl 2 (by decide) lk18 (fun _ h9 => h9) rfl dSt_takeReply_11 ?_
  refine lv_iload_n hx hb dSt_takeReply_14 rfl (lv_at hl 1 rfl) ?_
  obtain ⟨hi4, hwp⟩ := hwp
  refine va_iald hx hb hK hP 9 0 rfl rfl hi4 dSt_takeReply_15 ?_
  refine lv_iconst (v := 3) hx hb dSt_takeReply_16 (by decide) ?_
  refine lv_icmp_ne hx hb dSt_takeReply_17 rfl (fun h5 => ?_) (fun h5 => ?_)
  · have hwp := hwp.1 h5
    exact W.vret hx hb hr (fun t ht hW => ⟨⟨σ3, rfl, hwp, uEnd ht hW hP hK hD hS hA⟩, hS.F ht⟩) hS.2.2 dSt_takeReply_25
  · have hwp := hwp.2 h5
    refine lv_aload_n hx hb dSt_takeReply_20 rfl (lv_at hl 0 rfl) ?_
    refine lv_iload_n hx hb dSt_takeReply_21 rfl (lv_at hl 1 rfl) ?_
    obtain ⟨P6, hP6, hwp⟩ := hwp
    refine uCallUv (As := [.int x1]) (rest := []) (C := RSt) ⟨hx, hb, hml, hown, hts⟩ (kC_St_enter l D a A t   σ3 x1 P6 hP6) (va_cwU (x := ⟨"NodeServices$StampLock", "enter", "(I)V"⟩) (owner := "NodeServices$Lock") 1 hts (gdU wm_645 wm_646 wm_647 wm_429 wm_5 wm_430) rfl rfl rfl rfl (by decide +kernel) ⟨Nat.le_of_ble_eq_true rfl, Nat.le_of_ble_eq_true rfl⟩) (va_recv (ci := 6) (q0 := 5) hK hP rfl rfl) hP hK hD hA hS rfl hl.1 rfl (Nat.le_of_ble_eq_true rfl) dSt_takeReply_22 ⟨Nat.le_of_ble_eq_true rfl, Nat.le_of_ble_eq_true rfl⟩ (fun u7 H locs hu7 hP hD hS => ?_)
    have hwp := hwp u7 hu7
    exact W.vret hx hb hr (fun t ht hW => ⟨⟨u7, rfl, hwp, uEnd ht hW hP hK hD hS hA⟩, hS.F ht⟩) hS.2.2 dSt_takeReply_25
-- NodeServices$StampLock: void receive(int, int, NodeServices$Message), on St
def wC_St_receive (a : Nat → Nat) (q : Nat) (R : CS → Prop) (σ : CS) (x1 x2 : Int32) : Prop :=
  (q ∈ σ.2.2 ∧ (((¬ (σ.1 42 q) = 0) → (∃ P4 : CS → Prop, wC_St_takeReply a P4 σ x2 ∧ (∀ (u5 : CS), P4 u5 → R u5))) ∧ (((σ.1 42 q) = 0) → (q ∈ σ.2.2 ∧ (∃ P8 : CS → Prop, wC_St_takeRequest a P8 σ x1 x2 (σ.1 43 q) ∧ (∀ (u9 : CS), P8 u9 → R u9))))))
abbrev wsSt_receive : List Cond := .code ySt_receive cSt_receive 4 none :: wg
abbrev rmC_St_receive : Room := { frames := 4, cells := 1, slots := 4, locals := 92 }
set_option maxHeartbeats 4000000 in
set_option maxRecDepth 100000 in
theorem kC_St_receive (l : Launch) (D : va_G) (a : Nat → Nat) (A : Nat → Prop) (t : Nat → ClassId) (q : Nat) (σ : CS) (x1 x2 : Int32) (R : CS → Prop) (hwp : wC_St_receive a q R σ x1 x2) : Met l ySt_receive wsSt_receive rmC_St_receive (va_Pc [.ref (a 5), .int x1, .int x2, .ref q] (uI D clA (cT t) A true (cw a t) σ)) (va_Qv R (uI D clA (cT t) A true (cw a t)) A) 1 4 A := by
  refine Met.ofW (cc := cSt_receive) (maxL := 4) (ret := none) (by decide) rfl ?_
  intro p e s m args below meth c s₁ B hml hv
  obtain ⟨rfl, hP, hK, hD, hA⟩ := hv
  have hx := B.exec
  have hb := B.bytes
  have hr := B.returns
  have hts := atoms_spec (ws := wsSt_receive) B.pre
  have hown : s.vm.findClass RSt = some m.cls := findClass_of_methodNamed B.named
  have hlocks := B.notSynchronized
  have hinMs : ∀ w ∈ u_ws RMs TMs 4, w ∈ wsSt_receive := fun w h => List.mem_cons_of_mem _ (inMs w h)
  have lk36 := hts _ (List.mem_cons_of_mem _ wm_390)
  have lk42 := hts _ (List.mem_cons_of_mem _ wm_397)
  have hS : va_S A s.heap s.heap [] := va_S.rf
  have hl := lv_entry ([.ref (a 5), .int x1, .int x2, .ref q]) (n := 4) (Nat.le_of_ble_eq_true rfl)
  rw [lg_entry_eq]
  generalize (lg_sl ([.ref (a 5), .int x1, .int x2, .ref q]) ++ List.replicate (4 - (lg_sl ([.ref (a 5), .int x1, .int x2, .ref q])).length) Slot.unset).toArray = ls at hl ⊢
  have hl : lv_has ls 4 [(0, .ref (a 5)), (1, .int x1), (2, .int x2), (3, .ref q)] := hl
  refine lv_aload_n hx hb dSt_receive_0 rfl (lv_at hl 3 rfl) ?_
  obtain ⟨hm1, hwp⟩ := hwp
  obtain ⟨km2, hkm2⟩ := cw_ms (a := a) (t := t) hm1
  refine va_get (D := D) (ci := 4) (C := RMs) (T := TMs) (N := 4) hx hb hts hinMs hown hK hP km2 hkm2 rfl 1 (by decide) lk36 (fun _ h9 => h9) rfl dSt_receive_1 ?_
  refine lv_if_ne hx hb dSt_receive_4 rfl (fun h3 => ?_) (fun h3 => ?_)
  · have hwp := hwp.1 h3
    refine lv_aload_n hx hb dSt_receive_20 rfl (lv_at hl 0 rfl) ?_
    refine lv_iload_n hx hb dSt_receive_21 rfl (lv_at hl 2 rfl) ?_
    obtain ⟨P4, hP4, hwp⟩ := hwp
    refine uCallVv (As := [.int x2]) (rest := []) (C := RSt) ⟨hx, hb, hml, hown, hts⟩ (kC_St_takeReply l D a A t   σ x2 P4 hP4) (cwV 1 hts (gdV wm_641 wm_643 wp_13 wm_6 wm_644) rfl rfl rfl (by decide +kernel) ⟨Nat.le_of_ble_eq_true rfl, Nat.le_of_ble_eq_true rfl⟩) (va_recv (ci := 6) (q0 := 5) hK hP rfl rfl) hP hK hD hA hS rfl hl.1 rfl (Nat.le_of_ble_eq_true rfl) dSt_receive_22 ⟨Nat.le_of_ble_eq_true rfl, Nat.le_of_ble_eq_true rfl⟩ (fun u5 H locs hu5 hP hD hS => ?_)
    have hwp := hwp u5 hu5
    refine W.widen (k := 1) (n := 4) (by omega) (by omega) ?_
    exact W.vret hx hb hr (fun t ht hW => ⟨⟨u5, rfl, hwp, uEnd ht hW hP hK hD hS hA⟩, hS.F ht⟩) hS.2.2 dSt_receive_25
  · have hwp := hwp.2 h3
    refine lv_aload_n hx hb dSt_receive_7 rfl (lv_at hl 0 rfl) ?_
    refine lv_iload_n hx hb dSt_receive_8 rfl (lv_at hl 1 rfl) ?_
    refine lv_iload_n hx hb dSt_receive_9 rfl (lv_at hl 2 rfl) ?_
    refine lv_aload_n hx hb dSt_receive_10 rfl (lv_at hl 3 rfl) ?_
    obtain ⟨hm6, hwp⟩ := hwp
    obtain ⟨km7, hkm7⟩ := cw_ms (a := a) (t := t) hm6
    refine va_get (D := D) (ci := 4) (C := RMs) (T := TMs) (N := 4) hx hb hts hinMs hown hK hP km7 hkm7 rfl 2 (by decide) lk42 (fun _ h9 => h9) rfl dSt_receive_11 ?_
    obtain ⟨P8, hP8, hwp⟩ := hwp
    refine uCallVv (As := [.int x1, .int x2, .int (σ.1 43 q)]) (rest := []) (C := RSt) ⟨hx, hb, hml, hown, hts⟩ (kC_St_takeRequest l D a A t   σ x1 x2 (σ.1 43 q) P8 hP8) (cwV 3 hts (gdV wm_630 wm_632 wp_11 wm_6 wm_633) rfl rfl rfl (by decide +kernel) ⟨Nat.le_of_ble_eq_true rfl, Nat.le_of_ble_eq_true rfl⟩) (va_recv (ci := 6) (q0 := 5) hK hP rfl rfl) hP hK hD hA hS rfl hl.1 rfl (Nat.le_of_ble_eq_true rfl) dSt_receive_14 ⟨Nat.le_of_ble_eq_true rfl, Nat.le_of_ble_eq_true rfl⟩ (fun u9 H locs hu9 hP hD hS => ?_)
    have hwp := hwp u9 hu9
    refine lv_goto hx hb dSt_receive_17 rfl ?_
    exact W.vret hx hb hr (fun t ht hW => ⟨⟨u9, rfl, hwp, uEnd ht hW hP hK hD hS hA⟩, hS.F ht⟩) hS.2.2 dSt_receive_25
-- NodeServices$TokenLock: int detail(int), on Tk
def wC_Tk_detail (a : Nat → Nat) (R : Int32 → CS → Prop) (σ : CS) (x1 : Int32) : Prop :=
  (vp_in x1 4 ∧ (vp_in x1 4 ∧ R (σ.1 (10 + x1.toNatClampNeg) x1.toNatClampNeg) σ))
abbrev wsTk_detail : List Cond := .code yTk_detail cTk_detail 2 (some .int) :: wg
abbrev rmC_Tk_detail : Room := { frames := 0, cells := 0, slots := 0, locals := 0 }
set_option maxHeartbeats 4000000 in
set_option maxRecDepth 100000 in
theorem kC_Tk_detail (l : Launch) (D : va_G) (a : Nat → Nat) (A : Nat → Prop) (t : Nat → ClassId) (σ : CS) (x1 : Int32) (R : Int32 → CS → Prop) (hwp : wC_Tk_detail a R σ x1) : Met l yTk_detail wsTk_detail rmC_Tk_detail (va_Pc [.ref (a 11), .int x1] (uI D clA (cT t) A true (cw a t) σ)) (va_Qi R (uI D clA (cT t) A true (cw a t)) A) 0 0 A := by
  refine Met.ofW (cc := cTk_detail) (maxL := 2) (ret := (some .int)) (by decide) rfl ?_
  intro p e s m args below meth c s₁ B hml hv
  obtain ⟨rfl, hP, hK, hD, hA⟩ := hv
  have hx := B.exec
  have hb := B.bytes
  have hr := B.returns
  have hts := atoms_spec (ws := wsTk_detail) B.pre
  have hown : s.vm.findClass RTk = some m.cls := findClass_of_methodNamed B.named
  have hlocks := B.notSynchronized
  have hinTk : ∀ w ∈ u_ws RTk TTk 8, w ∈ wsTk_detail := fun w h => List.mem_cons_of_mem _ (inTk w h)
  have lk11 := hts _ (List.mem_cons_of_mem _ wm_132)
  have hS : va_S A s.heap s.heap [] := va_S.rf
  have hl := lv_entry ([.ref (a 11), .int x1]) (n := 2) (Nat.le_of_ble_eq_true rfl)
  rw [lg_entry_eq]
  generalize (lg_sl ([.ref (a 11), .int x1]) ++ List.replicate (2 - (lg_sl ([.ref (a 11), .int x1])).length) Slot.unset).toArray = ls at hl ⊢
  have hl : lv_has ls 2 [(0, .ref (a 11)), (1, .int x1)] := hl
  refine lv_aload_n hx hb dTk_detail_0 rfl (lv_at hl 0 rfl) ?_
  refine va_get (D := D) (ci := 7) (C := RTk) (T := TTk) (N := 8) hx hb hts hinTk hown hK hP 11 rfl rfl 0 (by decide) lk11 (fun _ h9 => h9) rfl dTk_detail_1 ?_
  refine lv_iload_n hx hb dTk_detail_4 rfl (lv_at hl 1 rfl) ?_
  obtain ⟨hi1, hwp⟩ := hwp
  refine fx_aldA hx hb hK hP 13 6 rfl rfl rfl hi1 dTk_detail_5 ?_
  refine W.eq (g2 := F0 m 6 ls [.ref (a (14 + x1.toNatClampNeg))]) rfl ?_
  refine lv_iload_n hx hb dTk_detail_6 rfl (lv_at hl 1 rfl) ?_
  obtain ⟨hi2, hwp⟩ := hwp
  refine va_iald hx hb hK hP (14 + x1.toNatClampNeg) 0 (cw_kn (fx_lt hi1)) rfl hi2 dTk_detail_7 ?_
  exact W.iret (v := σ.1 (10 + x1.toNatClampNeg) x1.toNatClampNeg) hx hb hr (fun t ht hW => ⟨⟨σ.1 (10 + x1.toNatClampNeg) x1.toNatClampNeg, σ, rfl, hwp, uEnd ht hW hP hK hD hS hA⟩, hS.F ht⟩) hS.2.2 dTk_detail_8
-- NodeServices$TokenLock: void ask(int), on Tk
def wC_Tk_ask (a : Nat → Nat) (R : CS → Prop) (σ : CS) (x1 : Int32) : Prop :=
  (((¬ (σ.1 9 0) = x1) → (vp_in x1 4 ∧ (vp_in x1 4 ∧ (vp_in x1 4 ∧ (∀ σ5 : CS, σ5 = cu σ (10 + x1.toNatClampNeg) x1.toNatClampNeg ((σ.1 (10 + x1.toNatClampNeg) x1.toNatClampNeg) + 1) → (vp_in x1 4 ∧ (∀ σ7 : CS, σ7 = cu σ5 7 x1.toNatClampNeg 1 → (vp_in x1 4 ∧ (vp_in x1 4 ∧ (∃ P10 : CS → Prop, wC_Tk_sendToAllOthers a P10 σ7 x1 0 (σ7.1 (10 + x1.toNatClampNeg) x1.toNatClampNeg) ∧ (∀ (u11 : CS), P10 u11 → R u11))))))))))) ∧ (((σ.1 9 0) = x1) → (∃ P12 : CS → Prop, wC_Tk_enter a P12 σ x1 ∧ (∀ (u13 : CS), P12 u13 → R u13))))
abbrev wsTk_ask : List Cond := .code yTk_ask cTk_ask 2 none :: wg
abbrev rmC_Tk_ask : Room := { frames := 4, cells := 5, slots := 20, locals := 93 }
set_option maxHeartbeats 4000000 in
set_option maxRecDepth 100000 in
theorem kC_Tk_ask (l : Launch) (D : va_G) (a : Nat → Nat) (A : Nat → Prop) (t : Nat → ClassId) (σ : CS) (x1 : Int32) (R : CS → Prop) (hwp : wC_Tk_ask a R σ x1) : Met l yTk_ask wsTk_ask rmC_Tk_ask (va_Pc [.ref (a 11), .int x1] (uI D clA (cT t) A true (cw a t) σ)) (va_Qv R (uI D clA (cT t) A true (cw a t)) A) 5 20 A := by
  refine Met.ofW (cc := cTk_ask) (maxL := 2) (ret := none) (by decide) rfl ?_
  intro p e s m args below meth c s₁ B hml hv
  obtain ⟨rfl, hP, hK, hD, hA⟩ := hv
  have hx := B.exec
  have hb := B.bytes
  have hr := B.returns
  have hts := atoms_spec (ws := wsTk_ask) B.pre
  have hown : s.vm.findClass RTk = some m.cls := findClass_of_methodNamed B.named
  have hlocks := B.notSynchronized
  have hinTk : ∀ w ∈ u_ws RTk TTk 8, w ∈ wsTk_ask := fun w h => List.mem_cons_of_mem _ (inTk w h)
  have ksstate := hts _ (List.mem_cons_of_mem _ wm_85)
  have lk11 := hts _ (List.mem_cons_of_mem _ wm_132)
  have lk29 := hts _ (List.mem_cons_of_mem _ wm_135)
  have lk37 := hts _ (List.mem_cons_of_mem _ wm_84)
  have hS : va_S A s.heap s.heap [] := va_S.rf
  have hl := lv_entry ([.ref (a 11), .int x1]) (n := 2) (Nat.le_of_ble_eq_true rfl)
  rw [lg_entry_eq]
  generalize (lg_sl ([.ref (a 11), .int x1]) ++ List.replicate (2 - (lg_sl ([.ref (a 11), .int x1])).length) Slot.unset).toArray = ls at hl ⊢
  have hl : lv_has ls 2 [(0, .ref (a 11)), (1, .int x1)] := hl
  refine lv_aload_n hx hb dTk_ask_0 rfl (lv_at hl 0 rfl) ?_
  refine va_get (D := D) (ci := 7) (C := RTk) (T := TTk) (N := 8) hx hb hts hinTk hown hK hP 11 rfl rfl 3 (by decide) lk29 (fun _ h9 => h9) rfl dTk_ask_1 ?_
  refine lv_iload_n hx hb dTk_ask_4 rfl (lv_at hl 1 rfl) ?_
  refine lv_icmp_ne hx hb dTk_ask_5 rfl (fun h1 => ?_) (fun h1 => ?_)
  · have hwp := hwp.1 h1
    refine lv_aload_n hx hb dTk_ask_14 rfl (lv_at hl 0 rfl) ?_
    refine va_get (D := D) (ci := 7) (C := RTk) (T := TTk) (N := 8) hx hb hts hinTk hown hK hP 11 rfl rfl 0 (by decide) lk11 (fun _ h9 => h9) rfl dTk_ask_15 ?_
    refine lv_iload_n hx hb dTk_ask_18 rfl (lv_at hl 1 rfl) ?_
    obtain ⟨hi2, hwp⟩ := hwp
    refine fx_aldA hx hb hK hP 13 6 rfl rfl rfl hi2 dTk_ask_19 ?_
    refine W.eq (g2 := F0 m 20 ls [.ref (a (14 + x1.toNatClampNeg))]) rfl ?_
    refine lv_iload_n hx hb dTk_ask_20 rfl (lv_at hl 1 rfl) ?_
    refine lv_dup2_11 hx hb dTk_ask_21 rfl rfl ?_
    obtain ⟨hi3, hwp⟩ := hwp
    refine va_iald hx hb hK hP (14 + x1.toNatClampNeg) 0 (cw_kn (fx_lt hi2)) rfl hi3 dTk_ask_22 ?_
    refine lv_iconst (v := 1) hx hb dTk_ask_23 (by decide) ?_
    refine lv_iadd hx hb dTk_ask_24 ?_
    obtain ⟨hi4, hwp⟩ := hwp
    refine va_iast hx hb hK hP hD hS (14 + x1.toNatClampNeg) 0 (cw_kn (fx_lt hi2)) rfl hi4 dTk_ask_25 (fun H locs hP hD hS => ?_)
    obtain ⟨σ5, eσ5⟩ : ∃ z, z = cu σ (10 + x1.toNatClampNeg) x1.toNatClampNeg ((σ.1 (10 + x1.toNatClampNeg) x1.toNatClampNeg) + 1) := ⟨_, rfl⟩
    have hwp := hwp σ5 eσ5
    have hP : va_P D clA (cw a t σ5) H := by rw [eσ5, ← cw_kn1 (a := a) (t := t) (σ := σ) (fx_lt hi2) x1.toNatClampNeg ((σ.1 (10 + x1.toNatClampNeg) x1.toNatClampNeg) + 1)]; exact hP
    have hD : va_D A (cw a t σ5) := by rw [eσ5, ← cw_kn1 (a := a) (t := t) (σ := σ) (fx_lt hi2) x1.toNatClampNeg ((σ.1 (10 + x1.toNatClampNeg) x1.toNatClampNeg) + 1)]; exact hD
    refine lv_aload_n hx hb dTk_ask_26 rfl (lv_at hl 0 rfl) ?_
    refine va_get (D := D) (ci := 7) (C := RTk) (T := TTk) (N := 8) hx hb hts hinTk hown hK hP 11 rfl rfl 4 (by decide) lk37 (fun x9 h9 => u_same ksstate x9 h9) rfl dTk_ask_27 ?_
    refine lv_iload_n hx hb dTk_ask_30 rfl (lv_at hl 1 rfl) ?_
    refine lv_iconst (v := 1) hx hb dTk_ask_31 (by decide) ?_
    obtain ⟨hi6, hwp⟩ := hwp
    refine va_iast hx hb hK hP hD hS 12 0 rfl rfl hi6 dTk_ask_32 (fun H locs hP hD hS => ?_)
    obtain ⟨σ7, eσ7⟩ : ∃ z, z = cu σ5 7 x1.toNatClampNeg 1 := ⟨_, rfl⟩
    have hwp := hwp σ7 eσ7
    have hP : va_P D clA (cw a t σ7) H := by rw [eσ7]; exact hP
    have hD : va_D A (cw a t σ7) := by rw [eσ7]; exact hD
    refine lv_aload_n hx hb dTk_ask_33 rfl (lv_at hl 0 rfl) ?_
    refine lv_iload_n hx hb dTk_ask_34 rfl (lv_at hl 1 rfl) ?_
    refine lv_iconst (v := 0) hx hb dTk_ask_35 (by decide) ?_
    refine lv_aload_n hx hb dTk_ask_36 rfl (lv_at hl 0 rfl) ?_
    refine va_get (D := D) (ci := 7) (C := RTk) (T := TTk) (N := 8) hx hb hts hinTk hown hK hP 11 rfl rfl 0 (by decide) lk11 (fun _ h9 => h9) rfl dTk_ask_37 ?_
    refine lv_iload_n hx hb dTk_ask_40 rfl (lv_at hl 1 rfl) ?_
    obtain ⟨hi8, hwp⟩ := hwp
    refine fx_aldA hx hb hK hP 13 6 rfl rfl rfl hi8 dTk_ask_41 ?_
    refine W.eq (g2 := F0 m 42 ls [.ref (a (14 + x1.toNatClampNeg)), .int 0, .int x1, .ref (a 11)]) rfl ?_
    refine lv_iload_n hx hb dTk_ask_42 rfl (lv_at hl 1 rfl) ?_
    obtain ⟨hi9, hwp⟩ := hwp
    refine va_iald hx hb hK hP (14 + x1.toNatClampNeg) 0 (cw_kn (fx_lt hi8)) rfl hi9 dTk_ask_43 ?_
    obtain ⟨P10, hP10, hwp⟩ := hwp
    refine uCallUv (As := [.int x1, .int 0, .int (σ7.1 (10 + x1.toNatClampNeg) x1.toNatClampNeg)]) (rest := []) (C := RTk) ⟨hx, hb, hml, hown, hts⟩ (kC_Tk_sendToAllOthers l D a A t   σ7 x1 0 (σ7.1 (10 + x1.toNatClampNeg) x1.toNatClampNeg) P10 hP10) (va_cwU (x := ⟨"NodeServices$TokenLock", "sendToAllOthers", "(III)V"⟩) (owner := "NodeServices$Service") 3 hts (gdU wm_431 wm_432 wm_433 wm_369 wm_4 wm_370) rfl rfl rfl rfl (by decide +kernel) ⟨Nat.le_of_ble_eq_true rfl, Nat.le_of_ble_eq_true rfl⟩) (va_recv (ci := 7) (q0 := 11) hK hP rfl rfl) hP hK hD hA hS rfl hl.1 rfl (Nat.le_of_ble_eq_true rfl) dTk_ask_44 ⟨Nat.le_of_ble_eq_true rfl, Nat.le_of_ble_eq_true rfl⟩ (fun u11 H locs hu11 hP hD hS => ?_)
    have hwp := hwp u11 hu11
    exact W.vret hx hb hr (fun t ht hW => ⟨⟨u11, rfl, hwp, uEnd ht hW hP hK hD hS hA⟩, hS.F ht⟩) hS.2.2 dTk_ask_47
  · have hwp := hwp.2 h1
    refine lv_aload_n hx hb dTk_ask_8 rfl (lv_at hl 0 rfl) ?_
    refine lv_iload_n hx hb dTk_ask_9 rfl (lv_at hl 1 rfl) ?_
    obtain ⟨P12, hP12, hwp⟩ := hwp
    refine uCallUv (As := [.int x1]) (rest := []) (C := RTk) ⟨hx, hb, hml, hown, hts⟩ (kC_Tk_enter l D a A t   σ x1 P12 hP12) (va_cwU (x := ⟨"NodeServices$TokenLock", "enter", "(I)V"⟩) (owner := "NodeServices$Lock") 1 hts (gdU wm_425 wm_426 wm_428 wm_429 wm_5 wm_430) rfl rfl rfl rfl (by decide +kernel) ⟨Nat.le_of_ble_eq_true rfl, Nat.le_of_ble_eq_true rfl⟩) (va_recv (ci := 7) (q0 := 11) hK hP rfl rfl) hP hK hD hA hS rfl hl.1 rfl (Nat.le_of_ble_eq_true rfl) dTk_ask_10 ⟨Nat.le_of_ble_eq_true rfl, Nat.le_of_ble_eq_true rfl⟩ (fun u13 H locs hu13 hP hD hS => ?_)
    have hwp := hwp u13 hu13
    refine W.widen (k := 5) (n := 20) (by omega) (by omega) ?_
    exact W.vret hx hb hr (fun t ht hW => ⟨⟨u13, rfl, hwp, uEnd ht hW hP hK hD hS hA⟩, hS.F ht⟩) hS.2.2 dTk_ask_13
-- NodeServices$TokenLock: private boolean isOwed(int, int), on Tk
def wC_Tk_isOwed (a : Nat → Nat) (R : Int32 → CS → Prop) (σ : CS) (x1 x2 : Int32) : Prop :=
  (vp_in x1 4 ∧ (vp_in x2 4 ∧ (vp_in x2 4 ∧ (((¬ (σ.1 (10 + x1.toNatClampNeg) x2.toNatClampNeg) = ((σ.1 14 x2.toNatClampNeg) + 1)) → R 0 σ) ∧ (((σ.1 (10 + x1.toNatClampNeg) x2.toNatClampNeg) = ((σ.1 14 x2.toNatClampNeg) + 1)) → R 1 σ)))))
abbrev wsTk_isOwed : List Cond := .code yTk_isOwed cTk_isOwed 3 (some .boolean) :: wg
abbrev rmC_Tk_isOwed : Room := { frames := 0, cells := 0, slots := 0, locals := 0 }
set_option maxHeartbeats 4000000 in
set_option maxRecDepth 100000 in
theorem kC_Tk_isOwed (l : Launch) (D : va_G) (a : Nat → Nat) (A : Nat → Prop) (t : Nat → ClassId) (σ : CS) (x1 x2 : Int32) (R : Int32 → CS → Prop) (hwp : wC_Tk_isOwed a R σ x1 x2) : Met l yTk_isOwed wsTk_isOwed rmC_Tk_isOwed (va_Pc [.ref (a 11), .int x1, .int x2] (uI D clA (cT t) A true (cw a t) σ)) (va_Qi R (uI D clA (cT t) A true (cw a t)) A) 0 0 A := by
  refine Met.ofW (cc := cTk_isOwed) (maxL := 3) (ret := (some .boolean)) (by decide) rfl ?_
  intro p e s m args below meth c s₁ B hml hv
  obtain ⟨rfl, hP, hK, hD, hA⟩ := hv
  have hx := B.exec
  have hb := B.bytes
  have hr := B.returns
  have hts := atoms_spec (ws := wsTk_isOwed) B.pre
  have hown : s.vm.findClass RTk = some m.cls := findClass_of_methodNamed B.named
  have hlocks := B.notSynchronized
  have hinTk : ∀ w ∈ u_ws RTk TTk 8, w ∈ wsTk_isOwed := fun w h => List.mem_cons_of_mem _ (inTk w h)
  have lk11 := hts _ (List.mem_cons_of_mem _ wm_132)
  have lk16 := hts _ (List.mem_cons_of_mem _ wm_133)
  have hS : va_S A s.heap s.heap [] := va_S.rf
  have hl := lv_entry ([.ref (a 11), .int x1, .int x2]) (n := 3) (Nat.le_of_ble_eq_true rfl)
  rw [lg_entry_eq]
  generalize (lg_sl ([.ref (a 11), .int x1, .int x2]) ++ List.replicate (3 - (lg_sl ([.ref (a 11), .int x1, .int x2])).length) Slot.unset).toArray = ls at hl ⊢
  have hl : lv_has ls 3 [(0, .ref (a 11)), (1, .int x1), (2, .int x2)] := hl
  refine lv_aload_n hx hb dTk_isOwed_0 rfl (lv_at hl 0 rfl) ?_
  refine va_get (D := D) (ci := 7) (C := RTk) (T := TTk) (N := 8) hx hb hts hinTk hown hK hP 11 rfl rfl 0 (by decide) lk11 (fun _ h9 => h9) rfl dTk_isOwed_1 ?_
  refine lv_iload_n hx hb dTk_isOwed_4 rfl (lv_at hl 1 rfl) ?_
  obtain ⟨hi1, hwp⟩ := hwp
  refine fx_aldA hx hb hK hP 13 6 rfl rfl rfl hi1 dTk_isOwed_5 ?_
  refine W.eq (g2 := F0 m 6 ls [.ref (a (14 + x1.toNatClampNeg))]) rfl ?_
  refine lv_iload_n hx hb dTk_isOwed_6 rfl (lv_at hl 2 rfl) ?_
  obtain ⟨hi2, hwp⟩ := hwp
  refine va_iald hx hb hK hP (14 + x1.toNatClampNeg) 0 (cw_kn (fx_lt hi1)) rfl hi2 dTk_isOwed_7 ?_
  refine lv_aload_n hx hb dTk_isOwed_8 rfl (lv_at hl 0 rfl) ?_
  refine va_get (D := D) (ci := 7) (C := RTk) (T := TTk) (N := 8) hx hb hts hinTk hown hK hP 11 rfl rfl 1 (by decide) lk16 (fun _ h9 => h9) rfl dTk_isOwed_9 ?_
  refine lv_iload_n hx hb dTk_isOwed_12 rfl (lv_at hl 2 rfl) ?_
  obtain ⟨hi3, hwp⟩ := hwp
  refine va_iald hx hb hK hP 18 0 rfl rfl hi3 dTk_isOwed_13 ?_
  refine lv_iconst (v := 1) hx hb dTk_isOwed_14 (by decide) ?_
  refine lv_iadd hx hb dTk_isOwed_15 ?_
  refine lv_icmp_ne hx hb dTk_isOwed_16 rfl (fun h4 => ?_) (fun h4 => ?_)
  · have hwp := hwp.1 h4
    refine lv_iconst (v := 0) hx hb dTk_isOwed_23 (by decide) ?_
    exact W.zret (v := 0) hx hb hr (by decide) (fun t ht hW => ⟨⟨0, σ, rfl, hwp, uEnd ht hW hP hK hD hS hA⟩, hS.F ht⟩) hS.2.2 dTk_isOwed_24
  · have hwp := hwp.2 h4
    refine lv_iconst (v := 1) hx hb dTk_isOwed_19 (by decide) ?_
    refine lv_goto hx hb dTk_isOwed_20 rfl ?_
    exact W.zret (v := 1) hx hb hr (by decide) (fun t ht hW => ⟨⟨1, σ, rfl, hwp, uEnd ht hW hP hK hD hS hA⟩, hS.F ht⟩) hS.2.2 dTk_isOwed_24
-- NodeServices$TokenLock: private void passToken(int, int), on Tk
def wC_Tk_passToken (a : Nat → Nat) (R : CS → Prop) (σ : CS) (x1 x2 : Int32) : Prop :=
  (∀ σ1 : CS, σ1 = cu σ 9 0 (-1) → (∃ P2 : CS → Prop, wC_Tk_send a P2 σ1 x1 x2 1 0 ∧ (∀ (u3 : CS), P2 u3 → R u3)))
abbrev wsTk_passToken : List Cond := .code yTk_passToken cTk_passToken 3 none :: wg
abbrev rmC_Tk_passToken : Room := { frames := 3, cells := 1, slots := 4, locals := 69 }
set_option maxHeartbeats 4000000 in
set_option maxRecDepth 100000 in
theorem kC_Tk_passToken (l : Launch) (D : va_G) (a : Nat → Nat) (A : Nat → Prop) (t : Nat → ClassId) (σ : CS) (x1 x2 : Int32) (R : CS → Prop) (hwp : wC_Tk_passToken a R σ x1 x2) : Met l yTk_passToken wsTk_passToken rmC_Tk_passToken (va_Pc [.ref (a 11), .int x1, .int x2] (uI D clA (cT t) A true (cw a t) σ)) (va_Qv R (uI D clA (cT t) A true (cw a t)) A) 1 4 A := by
  refine Met.ofW (cc := cTk_passToken) (maxL := 3) (ret := none) (by decide) rfl ?_
  intro p e s m args below meth c s₁ B hml hv
  obtain ⟨rfl, hP, hK, hD, hA⟩ := hv
  have hx := B.exec
  have hb := B.bytes
  have hr := B.returns
  have hts := atoms_spec (ws := wsTk_passToken) B.pre
  have hown : s.vm.findClass RTk = some m.cls := findClass_of_methodNamed B.named
  have hlocks := B.notSynchronized
  have hinTk : ∀ w ∈ u_ws RTk TTk 8, w ∈ wsTk_passToken := fun w h => List.mem_cons_of_mem _ (inTk w h)
  have lk29 := hts _ (List.mem_cons_of_mem _ wm_135)
  have hS : va_S A s.heap s.heap [] := va_S.rf
  have hl := lv_entry ([.ref (a 11), .int x1, .int x2]) (n := 3) (Nat.le_of_ble_eq_true rfl)
  rw [lg_entry_eq]
  generalize (lg_sl ([.ref (a 11), .int x1, .int x2]) ++ List.replicate (3 - (lg_sl ([.ref (a 11), .int x1, .int x2])).length) Slot.unset).toArray = ls at hl ⊢
  have hl : lv_has ls 3 [(0, .ref (a 11)), (1, .int x1), (2, .int x2)] := hl
  refine lv_aload_n hx hb dTk_passToken_0 rfl (lv_at hl 0 rfl) ?_
  refine lv_iconst (v := (-1)) hx hb dTk_passToken_1 (by decide) ?_
  refine va_put (ty := .int) (D := D) (ci := 7) (C := RTk) (T := TTk) (N := 8) hx hb hts hinTk tyTk tyTk_ok nmTk hown hK hP hD hS 11 rfl rfl 3 (by decide) lk29 (fun _ h9 => h9) rfl (by decide +kernel) rfl rfl (Nat.le_of_ble_eq_true rfl) dTk_passToken_2 (fun H locs hP hD hS => ?_)
  obtain ⟨σ1, eσ1⟩ : ∃ z, z = cu σ 9 0 (-1) := ⟨_, rfl⟩
  have hwp := hwp σ1 eσ1
  have hP : va_P D clA (cw a t σ1) H := by rw [eσ1]; exact hP
  have hD : va_D A (cw a t σ1) := by rw [eσ1]; exact hD
  refine lv_aload_n hx hb dTk_passToken_5 rfl (lv_at hl 0 rfl) ?_
  refine lv_iload_n hx hb dTk_passToken_6 rfl (lv_at hl 1 rfl) ?_
  refine lv_iload_n hx hb dTk_passToken_7 rfl (lv_at hl 2 rfl) ?_
  refine lv_iconst (v := 1) hx hb dTk_passToken_8 (by decide) ?_
  refine lv_iconst (v := 0) hx hb dTk_passToken_9 (by decide) ?_
  obtain ⟨P2, hP2, hwp⟩ := hwp
  refine uCallUv (As := [.int x1, .int x2, .int 1, .int 0]) (rest := []) (C := RTk) ⟨hx, hb, hml, hown, hts⟩ (kC_Tk_send l D a A t   σ1 x1 x2 1 0 P2 hP2) (va_cwU (x := ⟨"NodeServices$TokenLock", "send", "(IIII)V"⟩) (owner := "NodeServices$Service") 4 hts (gdU wm_499 wm_500 wm_501 wm_372 wm_4 wm_379) rfl rfl rfl rfl (by decide +kernel) ⟨Nat.le_of_ble_eq_true rfl, Nat.le_of_ble_eq_true rfl⟩) (va_recv (ci := 7) (q0 := 11) hK hP rfl rfl) hP hK hD hA hS rfl hl.1 rfl (Nat.le_of_ble_eq_true rfl) dTk_passToken_10 ⟨Nat.le_of_ble_eq_true rfl, Nat.le_of_ble_eq_true rfl⟩ (fun u3 H locs hu3 hP hD hS => ?_)
  have hwp := hwp u3 hu3
  exact W.vret hx hb hr (fun t ht hW => ⟨⟨u3, rfl, hwp, uEnd ht hW hP hK hD hS hA⟩, hS.F ht⟩) hS.2.2 dTk_passToken_13
-- NodeServices$TokenLock: void release(int), on Tk
def wC_Tk_release_56 (a : Nat → Nat) (K23 : CS → Int32 → Int32 → Prop) (R : CS → Prop) (σ : CS) (y1 : Int32) (y2 : Int32) : Prop :=
  K23 σ y1 (y2 + 1)
def wC_Tk_release_23_step (a : Nat → Nat) (K23 : CS → Int32 → Int32 → Prop) (R : CS → Prop) (σ : CS) (y1 : Int32) (y2 : Int32) : Prop :=
  (((4 ≤ y2) → (∃ P2 : Int32 → CS → Prop, wC_Ro_isEmpty a 4 P2 σ ∧ (∀ (r4 : Int32) (u3 : CS), P2 r4 u3 → (((¬ r4 = 0) → R u3) ∧ ((r4 = 0) → (∃ P6 : Int32 → CS → Prop, wC_Ro_takeHead a 4 P6 u3 ∧ (∀ (r8 : Int32) (u7 : CS), P6 r8 u7 → (∃ P9 : CS → Prop, wC_Tk_passToken a P9 u7 y1 r8 ∧ (∀ (u10 : CS), P9 u10 → R u10))))))))) ∧ ((¬ 4 ≤ y2) → (∃ P11 : Int32 → CS → Prop, wC_Ro_contains a 4 P11 σ y2 ∧ (∀ (r13 : Int32) (u12 : CS), P11 r13 u12 → (((¬ r13 = 0) → wC_Tk_release_56 a K23 R u12 y1 y2) ∧ ((r13 = 0) → (∃ P15 : Int32 → CS → Prop, wC_Tk_isOwed a P15 u12 y1 y2 ∧ (∀ (r17 : Int32) (u16 : CS), P15 r17 u16 → (((r17 = 0) → wC_Tk_release_56 a K23 R u16 y1 y2) ∧ ((¬ r17 = 0) → (∃ P19 : CS → Prop, wC_Ro_append a 4 P19 u16 y2 ∧ (∀ (u20 : CS), P19 u20 → wC_Tk_release_56 a K23 R u20 y1 y2))))))))))))
def wC_Tk_release_23 (a : Nat → Nat) (R : CS → Prop) : Nat → CS → Int32 → Int32 → Prop
  | 0 => fun _ _ _ => False
  | k + 1 => fun σ y1 y2 => wC_Tk_release_23_step a (wC_Tk_release_23 a R k) R σ y1 y2
def wC_Tk_release (a : Nat → Nat) (R : CS → Prop) (σ : CS) (x1 : Int32) : Prop :=
  (vp_in x1 4 ∧ (∀ σ22 : CS, σ22 = cu σ 7 x1.toNatClampNeg 0 → (vp_in x1 4 ∧ (vp_in x1 4 ∧ (vp_in x1 4 ∧ (∀ σ26 : CS, σ26 = cu σ22 14 x1.toNatClampNeg (σ22.1 (10 + x1.toNatClampNeg) x1.toNatClampNeg) → wC_Tk_release_23 a R 5 σ26 x1 0))))))
abbrev wsTk_release : List Cond := .code yTk_release cTk_release 3 none :: wg
abbrev rmC_Tk_release : Room := { frames := 4, cells := 1, slots := 4, locals := 91 }
set_option maxHeartbeats 4000000 in
set_option maxRecDepth 100000 in
theorem kC_Tk_release (l : Launch) (D : va_G) (a : Nat → Nat) (A : Nat → Prop) (t : Nat → ClassId) (σ : CS) (x1 : Int32) (R : CS → Prop) (hwp : wC_Tk_release a R σ x1) : Met l yTk_release wsTk_release rmC_Tk_release (va_Pc [.ref (a 11), .int x1] (uI D clA (cT t) A true (cw a t) σ)) (va_Qv R (uI D clA (cT t) A true (cw a t)) A) 1 4 A := by
  refine Met.ofW (cc := cTk_release) (maxL := 3) (ret := none) (by decide) rfl ?_
  intro p e s m args below meth c s₁ B hml hv
  obtain ⟨rfl, hP, hK, hD, hA⟩ := hv
  have hx := B.exec
  have hb := B.bytes
  have hr := B.returns
  have hts := atoms_spec (ws := wsTk_release) B.pre
  have hown : s.vm.findClass RTk = some m.cls := findClass_of_methodNamed B.named
  have hlocks := B.notSynchronized
  have hinTk : ∀ w ∈ u_ws RTk TTk 8, w ∈ wsTk_release := fun w h => List.mem_cons_of_mem _ (inTk w h)
  have ksstate := hts _ (List.mem_cons_of_mem _ wm_85)
  have lk11 := hts _ (List.mem_cons_of_mem _ wm_132)
  have lk16 := hts _ (List.mem_cons_of_mem _ wm_133)
  have lk25 := hts _ (List.mem_cons_of_mem _ wm_134)
  have lk37 := hts _ (List.mem_cons_of_mem _ wm_84)
  have hS : va_S A s.heap s.heap [] := va_S.rf
  have cut23 : ∀ (k23 : Nat) (σ : CS) (y1 : Int32) (y2 : Int32) (H : Heap) (locs : List Loc) (ls : Array Slot), wC_Tk_release_23 a R k23 σ y1 y2 → va_P D clA (cw a t σ) H → va_D A (cw a t σ) → va_S A s.heap H locs → lv_has ls 3 [(0, .ref (a 11)), (1, .int y1), (2, .int y2)] → W p l e (headSpec wsTk_release rmC_Tk_release).room s m ([.ref (a 11), .int x1] : List Value).toArray below meth c H locs 0 0 (MQ below (va_Qv R (uI D clA (cT t) A true (cw a t)) A) ([.ref (a 11), .int x1] : List Value).toArray s 1 4 A) (F0 m 23 ls []) := by
    intro k23
    induction k23 with
    | zero => intro σ y1 y2 H locs ls hwp hP hD hS hl; exact False.elim hwp
    | succ k23 ih23 =>
      intro σ y1 y2 H locs ls hwp hP hD hS hl
      have cut56 : ∀ (σ : CS) (y1 : Int32) (y2 : Int32) (H : Heap) (locs : List Loc) (ls : Array Slot), wC_Tk_release_56 a (wC_Tk_release_23 a R k23) R σ y1 y2 → va_P D clA (cw a t σ) H → va_D A (cw a t σ) → va_S A s.heap H locs → lv_has ls 3 [(0, .ref (a 11)), (1, .int y1), (2, .int y2)] → W p l e (headSpec wsTk_release rmC_Tk_release).room s m ([.ref (a 11), .int x1] : List Value).toArray below meth c H locs 0 0 (MQ below (va_Qv R (uI D clA (cT t) A true (cw a t)) A) ([.ref (a 11), .int x1] : List Value).toArray s 1 4 A) (F0 m 56 ls []) := by
        intro σ y1 y2 H locs ls hwp hP hD hS hl
        refine lv_iinc (k := 2) hx hb dTk_release_56 hl rfl (fx_inc1 _) (by decide) rfl (fun ls hl => ?_)
        have hl : lv_has ls 3 [(2, .int (y2 + 1)), (0, .ref (a 11)), (1, .int y1)] := hl
        refine lv_goto hx hb dTk_release_59 rfl ?_
        exact ih23 σ y1 (y2 + 1) _ _ _ hwp hP hD hS (lv_sub hl [1, 2, 0] rfl)
      have hwp : wC_Tk_release_23_step a (wC_Tk_release_23 a R k23) R σ y1 y2 := hwp
      refine lv_iload_n hx hb dTk_release_23 rfl (lv_at hl 2 rfl) ?_
      refine lv_iconst (v := 4) hx hb dTk_release_24 (by decide) ?_
      refine lv_icmp_ge hx hb dTk_release_25 rfl (fun h1 => ?_) (fun h1 => ?_)
      · have hwp := hwp.1 h1
        refine lv_aload_n hx hb dTk_release_62 rfl (lv_at hl 0 rfl) ?_
        refine va_get (D := D) (ci := 7) (C := RTk) (T := TTk) (N := 8) hx hb hts hinTk hown hK hP 11 rfl rfl 2 (by decide) lk25 (fun _ h9 => h9) rfl dTk_release_63 ?_
        obtain ⟨P2, hP2, hwp⟩ := hwp
        refine uCallVi (As := []) (rest := []) (C := RRo) ⟨hx, hb, hml, hown, hts⟩ (kC_Ro_isEmpty l D a A t 4 (by decide) σ  P2 hP2) (cwV 0 hts (gdV wm_493 wm_446 wm_447 wm_8 wm_448) rfl rfl rfl (by decide +kernel) ⟨Nat.le_of_ble_eq_true rfl, Nat.le_of_ble_eq_true rfl⟩) (va_recv (ci := 5) (q0 := (25 + 4)) hK hP rfl (cw_ro (by decide))) hP hK hD hA hS rfl hl.1 rfl (Nat.le_of_ble_eq_true rfl) dTk_release_66 ⟨Nat.le_of_ble_eq_true rfl, Nat.le_of_ble_eq_true rfl⟩ (fun r4 u3 H locs hu3 hP hD hS => ?_)
        have hwp := hwp r4 u3 hu3
        refine lv_if_ne hx hb dTk_release_69 rfl (fun h5 => ?_) (fun h5 => ?_)
        · have hwp := hwp.1 h5
          refine W.widen (k := 1) (n := 4) (by omega) (by omega) ?_
          exact W.vret hx hb hr (fun t ht hW => ⟨⟨u3, rfl, hwp, uEnd ht hW hP hK hD hS hA⟩, hS.F ht⟩) hS.2.2 dTk_release_84
        · have hwp := hwp.2 h5
          refine lv_aload_n hx hb dTk_release_72 rfl (lv_at hl 0 rfl) ?_
          refine lv_iload_n hx hb dTk_release_73 rfl (lv_at hl 1 rfl) ?_
          refine lv_aload_n hx hb dTk_release_74 rfl (lv_at hl 0 rfl) ?_
          refine va_get (D := D) (ci := 7) (C := RTk) (T := TTk) (N := 8) hx hb hts hinTk hown hK hP 11 rfl rfl 2 (by decide) lk25 (fun _ h9 => h9) rfl dTk_release_75 ?_
          obtain ⟨P6, hP6, hwp⟩ := hwp
          refine uCallVi (As := []) (rest := [.int y1, .ref (a 11)]) (C := RRo) ⟨hx, hb, hml, hown, hts⟩ (kC_Ro_takeHead l D a A t 4 (by decide) u3  P6 hP6) (cwV 0 hts (gdV wm_494 wm_450 wm_451 wm_8 wm_452) rfl rfl rfl (by decide +kernel) ⟨Nat.le_of_ble_eq_true rfl, Nat.le_of_ble_eq_true rfl⟩) (va_recv (ci := 5) (q0 := (25 + 4)) hK hP rfl (cw_ro (by decide))) hP hK hD hA hS rfl hl.1 rfl (Nat.le_of_ble_eq_true rfl) dTk_release_78 ⟨Nat.le_of_ble_eq_true rfl, Nat.le_of_ble_eq_true rfl⟩ (fun r8 u7 H locs hu7 hP hD hS => ?_)
          have hwp := hwp r8 u7 hu7
          obtain ⟨P9, hP9, hwp⟩ := hwp
          refine uCallVv (As := [.int y1, .int r8]) (rest := []) (C := RTk) ⟨hx, hb, hml, hown, hts⟩ (kC_Tk_passToken l D a A t   u7 y1 r8 P9 hP9) (cwV 2 hts (gdV wm_495 wm_497 wp_5 wm_7 wm_498) rfl rfl rfl (by decide +kernel) ⟨Nat.le_of_ble_eq_true rfl, Nat.le_of_ble_eq_true rfl⟩) (va_recv (ci := 7) (q0 := 11) hK hP rfl rfl) hP hK hD hA hS rfl hl.1 rfl (Nat.le_of_ble_eq_true rfl) dTk_release_81 ⟨Nat.le_of_ble_eq_true rfl, Nat.le_of_ble_eq_true rfl⟩ (fun u10 H locs hu10 hP hD hS => ?_)
          have hwp := hwp u10 hu10
          exact W.vret hx hb hr (fun t ht hW => ⟨⟨u10, rfl, hwp, uEnd ht hW hP hK hD hS hA⟩, hS.F ht⟩) hS.2.2 dTk_release_84
      · have hwp := hwp.2 h1
        refine lv_aload_n hx hb dTk_release_28 rfl (lv_at hl 0 rfl) ?_
        refine va_get (D := D) (ci := 7) (C := RTk) (T := TTk) (N := 8) hx hb hts hinTk hown hK hP 11 rfl rfl 2 (by decide) lk25 (fun _ h9 => h9) rfl dTk_release_29 ?_
        refine lv_iload_n hx hb dTk_release_32 rfl (lv_at hl 2 rfl) ?_
        obtain ⟨P11, hP11, hwp⟩ := hwp
        refine uCallVi (As := [.int y2]) (rest := []) (C := RRo) ⟨hx, hb, hml, hown, hts⟩ (kC_Ro_contains l D a A t 4 (by decide) σ y2 P11 hP11) (cwV 1 hts (gdV wm_484 wm_485 wm_486 wm_8 wm_487) rfl rfl rfl (by decide +kernel) ⟨Nat.le_of_ble_eq_true rfl, Nat.le_of_ble_eq_true rfl⟩) (va_recv (ci := 5) (q0 := (25 + 4)) hK hP rfl (cw_ro (by decide))) hP hK hD hA hS rfl hl.1 rfl (Nat.le_of_ble_eq_true rfl) dTk_release_33 ⟨Nat.le_of_ble_eq_true rfl, Nat.le_of_ble_eq_true rfl⟩ (fun r13 u12 H locs hu12 hP hD hS => ?_)
        have hwp := hwp r13 u12 hu12
        refine lv_if_ne hx hb dTk_release_36 rfl (fun h14 => ?_) (fun h14 => ?_)
        · have hwp := hwp.1 h14
          exact cut56 u12 y1 y2 _ _ _ hwp hP hD hS (lv_sub hl [0, 1, 2] rfl)
        · have hwp := hwp.2 h14
          refine lv_aload_n hx hb dTk_release_39 rfl (lv_at hl 0 rfl) ?_
          refine lv_iload_n hx hb dTk_release_40 rfl (lv_at hl 1 rfl) ?_
          refine lv_iload_n hx hb dTk_release_41 rfl (lv_at hl 2 rfl) ?_
          obtain ⟨P15, hP15, hwp⟩ := hwp
          refine uCallVi (As := [.int y1, .int y2]) (rest := []) (C := RTk) ⟨hx, hb, hml, hown, hts⟩ (kC_Tk_isOwed l D a A t   u12 y1 y2 P15 hP15) (cwV 2 hts (gdV wm_488 wm_490 wp_4 wm_7 wm_491) rfl rfl rfl (by decide +kernel) ⟨Nat.le_of_ble_eq_true rfl, Nat.le_of_ble_eq_true rfl⟩) (va_recv (ci := 7) (q0 := 11) hK hP rfl rfl) hP hK hD hA hS rfl hl.1 rfl (Nat.le_of_ble_eq_true rfl) dTk_release_42 ⟨Nat.le_of_ble_eq_true rfl, Nat.le_of_ble_eq_true rfl⟩ (fun r17 u16 H locs hu16 hP hD hS => ?_)
          have hwp := hwp r17 u16 hu16
          refine lv_if_eq hx hb dTk_release_45 rfl (fun h18 => ?_) (fun h18 => ?_)
          · have hwp := hwp.1 h18
            exact cut56 u16 y1 y2 _ _ _ hwp hP hD hS (lv_sub hl [0, 1, 2] rfl)
          · have hwp := hwp.2 h18
            refine lv_aload_n hx hb dTk_release_48 rfl (lv_at hl 0 rfl) ?_
            refine va_get (D := D) (ci := 7) (C := RTk) (T := TTk) (N := 8) hx hb hts hinTk hown hK hP 11 rfl rfl 2 (by decide) lk25 (fun _ h9 => h9) rfl dTk_release_49 ?_
            refine lv_iload_n hx hb dTk_release_52 rfl (lv_at hl 2 rfl) ?_
            obtain ⟨P19, hP19, hwp⟩ := hwp
            refine uCallVv (As := [.int y2]) (rest := []) (C := RRo) ⟨hx, hb, hml, hown, hts⟩ (kC_Ro_append l D a A t 4 (by decide) u16 y2 P19 hP19) (cwV 1 hts (gdV wm_492 wm_438 wm_439 wm_8 wm_440) rfl rfl rfl (by decide +kernel) ⟨Nat.le_of_ble_eq_true rfl, Nat.le_of_ble_eq_true rfl⟩) (va_recv (ci := 5) (q0 := (25 + 4)) hK hP rfl (cw_ro (by decide))) hP hK hD hA hS rfl hl.1 rfl (Nat.le_of_ble_eq_true rfl) dTk_release_53 ⟨Nat.le_of_ble_eq_true rfl, Nat.le_of_ble_eq_true rfl⟩ (fun u20 H locs hu20 hP hD hS => ?_)
            have hwp := hwp u20 hu20
            exact cut56 u20 y1 y2 _ _ _ hwp hP hD hS (lv_sub hl [0, 1, 2] rfl)
  have hl := lv_entry ([.ref (a 11), .int x1]) (n := 3) (Nat.le_of_ble_eq_true rfl)
  rw [lg_entry_eq]
  generalize (lg_sl ([.ref (a 11), .int x1]) ++ List.replicate (3 - (lg_sl ([.ref (a 11), .int x1])).length) Slot.unset).toArray = ls at hl ⊢
  have hl : lv_has ls 3 [(0, .ref (a 11)), (1, .int x1)] := hl
  refine lv_aload_n hx hb dTk_release_0 rfl (lv_at hl 0 rfl) ?_
  refine va_get (D := D) (ci := 7) (C := RTk) (T := TTk) (N := 8) hx hb hts hinTk hown hK hP 11 rfl rfl 4 (by decide) lk37 (fun x9 h9 => u_same ksstate x9 h9) rfl dTk_release_1 ?_
  refine lv_iload_n hx hb dTk_release_4 rfl (lv_at hl 1 rfl) ?_
  refine lv_iconst (v := 0) hx hb dTk_release_5 (by decide) ?_
  obtain ⟨hi21, hwp⟩ := hwp
  refine va_iast hx hb hK hP hD hS 12 0 rfl rfl hi21 dTk_release_6 (fun H locs hP hD hS => ?_)
  obtain ⟨σ22, eσ22⟩ : ∃ z, z = cu σ 7 x1.toNatClampNeg 0 := ⟨_, rfl⟩
  have hwp := hwp σ22 eσ22
  have hP : va_P D clA (cw a t σ22) H := by rw [eσ22]; exact hP
  have hD : va_D A (cw a t σ22) := by rw [eσ22]; exact hD
  refine lv_aload_n hx hb dTk_release_7 rfl (lv_at hl 0 rfl) ?_
  refine va_get (D := D) (ci := 7) (C := RTk) (T := TTk) (N := 8) hx hb hts hinTk hown hK hP 11 rfl rfl 1 (by decide) lk16 (fun _ h9 => h9) rfl dTk_release_8 ?_
  refine lv_iload_n hx hb dTk_release_11 rfl (lv_at hl 1 rfl) ?_
  refine lv_aload_n hx hb dTk_release_12 rfl (lv_at hl 0 rfl) ?_
  refine va_get (D := D) (ci := 7) (C := RTk) (T := TTk) (N := 8) hx hb hts hinTk hown hK hP 11 rfl rfl 0 (by decide) lk11 (fun _ h9 => h9) rfl dTk_release_13 ?_
  refine lv_iload_n hx hb dTk_release_16 rfl (lv_at hl 1 rfl) ?_
  obtain ⟨hi23, hwp⟩ := hwp
  refine fx_aldA hx hb hK hP 13 6 rfl rfl rfl hi23 dTk_release_17 ?_
  refine W.eq (g2 := F0 m 18 ls [.ref (a (14 + x1.toNatClampNeg)), .int x1, .ref (a 18)]) rfl ?_
  refine lv_iload_n hx hb dTk_release_18 rfl (lv_at hl 1 rfl) ?_
  obtain ⟨hi24, hwp⟩ := hwp
  refine va_iald hx hb hK hP (14 + x1.toNatClampNeg) 0 (cw_kn (fx_lt hi23)) rfl hi24 dTk_release_19 ?_
  obtain ⟨hi25, hwp⟩ := hwp
  refine va_iast hx hb hK hP hD hS 18 0 rfl rfl hi25 dTk_release_20 (fun H locs hP hD hS => ?_)
  obtain ⟨σ26, eσ26⟩ : ∃ z, z = cu σ22 14 x1.toNatClampNeg (σ22.1 (10 + x1.toNatClampNeg) x1.toNatClampNeg) := ⟨_, rfl⟩
  have hwp := hwp σ26 eσ26
  have hP : va_P D clA (cw a t σ26) H := by rw [eσ26]; exact hP
  have hD : va_D A (cw a t σ26) := by rw [eσ26]; exact hD
  refine lv_iconst (v := 0) hx hb dTk_release_21 (by decide) ?_
  refine lv_istore_n hx hb dTk_release_22 rfl hl (by decide) rfl (fun ls hl => ?_)
  have hl : lv_has ls 3 [(2, .int 0), (0, .ref (a 11)), (1, .int x1)] := hl
  exact cut23 5 σ26 x1 0 _ _ _ hwp hP hD hS (lv_sub hl [1, 2, 0] rfl)
-- NodeServices$TokenLock: private void takeRequest(int, int, int), on Tk
def wC_Tk_takeRequest (a : Nat → Nat) (R : CS → Prop) (σ : CS) (x1 x2 x3 : Int32) : Prop :=
  (vp_in x2 4 ∧ (vp_in x2 4 ∧ (vp_in x1 4 ∧ (vp_in x1 4 ∧ (∀ σ5 : CS, σ5 = cu σ (10 + x2.toNatClampNeg) x1.toNatClampNeg (if (σ.1 (10 + x2.toNatClampNeg) x1.toNatClampNeg) < x3 then x3 else (σ.1 (10 + x2.toNatClampNeg) x1.toNatClampNeg)) → (((¬ (σ5.1 9 0) = x2) → R σ5) ∧ (((σ5.1 9 0) = x2) → (vp_in x2 4 ∧ (((¬ (σ5.1 7 x2.toNatClampNeg) = 0) → R σ5) ∧ (((σ5.1 7 x2.toNatClampNeg) = 0) → (∃ P9 : Int32 → CS → Prop, wC_Tk_isOwed a P9 σ5 x2 x1 ∧ (∀ (r11 : Int32) (u10 : CS), P9 r11 u10 → (((r11 = 0) → R u10) ∧ ((¬ r11 = 0) → (∃ P13 : CS → Prop, wC_Tk_passToken a P13 u10 x2 x1 ∧ (∀ (u14 : CS), P13 u14 → R u14))))))))))))))))
abbrev wsTk_takeRequest : List Cond := .code yTk_takeRequest cTk_takeRequest 4 none :: wg
abbrev rmC_Tk_takeRequest : Room := { frames := 4, cells := 1, slots := 4, locals := 91 }
set_option maxHeartbeats 4000000 in
set_option maxRecDepth 100000 in
theorem kC_Tk_takeRequest (l : Launch) (D : va_G) (a : Nat → Nat) (A : Nat → Prop) (t : Nat → ClassId) (σ : CS) (x1 x2 x3 : Int32) (R : CS → Prop) (hwp : wC_Tk_takeRequest a R σ x1 x2 x3) : Met l yTk_takeRequest wsTk_takeRequest rmC_Tk_takeRequest (va_Pc [.ref (a 11), .int x1, .int x2, .int x3] (uI D clA (cT t) A true (cw a t) σ)) (va_Qv R (uI D clA (cT t) A true (cw a t)) A) 1 4 A := by
  refine Met.ofW (cc := cTk_takeRequest) (maxL := 4) (ret := none) (by decide) rfl ?_
  intro p e s m args below meth c s₁ B hml hv
  obtain ⟨rfl, hP, hK, hD, hA⟩ := hv
  have hx := B.exec
  have hb := B.bytes
  have hr := B.returns
  have hts := atoms_spec (ws := wsTk_takeRequest) B.pre
  have hown : s.vm.findClass RTk = some m.cls := findClass_of_methodNamed B.named
  have hlocks := B.notSynchronized
  have hinTk : ∀ w ∈ u_ws RTk TTk 8, w ∈ wsTk_takeRequest := fun w h => List.mem_cons_of_mem _ (inTk w h)
  have ksstate := hts _ (List.mem_cons_of_mem _ wm_85)
  have lk11 := hts _ (List.mem_cons_of_mem _ wm_132)
  have lk29 := hts _ (List.mem_cons_of_mem _ wm_135)
  have lk37 := hts _ (List.mem_cons_of_mem _ wm_84)
  have hS : va_S A s.heap s.heap [] := va_S.rf
  have hl := lv_entry ([.ref (a 11), .int x1, .int x2, .int x3]) (n := 4) (Nat.le_of_ble_eq_true rfl)
  rw [lg_entry_eq]
  generalize (lg_sl ([.ref (a 11), .int x1, .int x2, .int x3]) ++ List.replicate (4 - (lg_sl ([.ref (a 11), .int x1, .int x2, .int x3])).length) Slot.unset).toArray = ls at hl ⊢
  have hl : lv_has ls 4 [(0, .ref (a 11)), (1, .int x1), (2, .int x2), (3, .int x3)] := hl
  refine lv_aload_n hx hb dTk_takeRequest_0 rfl (lv_at hl 0 rfl) ?_
  refine va_get (D := D) (ci := 7) (C := RTk) (T := TTk) (N := 8) hx hb hts hinTk hown hK hP 11 rfl rfl 0 (by decide) lk11 (fun _ h9 => h9) rfl dTk_takeRequest_1 ?_
  refine lv_iload_n hx hb dTk_takeRequest_4 rfl (lv_at hl 2 rfl) ?_
  obtain ⟨hi1, hwp⟩ := hwp
  refine fx_aldA hx hb hK hP 13 6 rfl rfl rfl hi1 dTk_takeRequest_5 ?_
  refine W.eq (g2 := F0 m 6 ls [.ref (a (14 + x2.toNatClampNeg))]) rfl ?_
  refine lv_iload_n hx hb dTk_takeRequest_6 rfl (lv_at hl 1 rfl) ?_
  refine lv_aload_n hx hb dTk_takeRequest_7 rfl (lv_at hl 0 rfl) ?_
  refine va_get (D := D) (ci := 7) (C := RTk) (T := TTk) (N := 8) hx hb hts hinTk hown hK hP 11 rfl rfl 0 (by decide) lk11 (fun _ h9 => h9) rfl dTk_takeRequest_8 ?_
  refine lv_iload_n hx hb dTk_takeRequest_11 rfl (lv_at hl 2 rfl) ?_
  obtain ⟨hi2, hwp⟩ := hwp
  refine fx_aldA hx hb hK hP 13 6 rfl rfl rfl hi2 dTk_takeRequest_12 ?_
  refine W.eq (g2 := F0 m 13 ls [.ref (a (14 + x2.toNatClampNeg)), .int x1, .ref (a (14 + x2.toNatClampNeg))]) rfl ?_
  refine lv_iload_n hx hb dTk_takeRequest_13 rfl (lv_at hl 1 rfl) ?_
  obtain ⟨hi3, hwp⟩ := hwp
  refine va_iald hx hb hK hP (14 + x2.toNatClampNeg) 0 (cw_kn (fx_lt hi2)) rfl hi3 dTk_takeRequest_14 ?_
  refine lv_iload_n hx hb dTk_takeRequest_15 rfl (lv_at hl 3 rfl) ?_
  refine va_mmax hx hb (hml.trans hl.1.symm) hown (hts _ (List.mem_cons_of_mem _ wm_655)) (hts _ (List.mem_cons_of_mem _ wm_635)) (hts _ (List.mem_cons_of_mem _ wm_11)) (hts _ (List.mem_cons_of_mem _ wm_636)) (Nat.le_of_ble_eq_true rfl) (Nat.le_of_ble_eq_true rfl) (Nat.le_of_ble_eq_true rfl) (Nat.le_of_ble_eq_true rfl) dTk_takeRequest_16 ?_
  obtain ⟨hi4, hwp⟩ := hwp
  refine va_iast hx hb hK hP hD hS (14 + x2.toNatClampNeg) 0 (cw_kn (fx_lt hi1)) rfl hi4 dTk_takeRequest_19 (fun H locs hP hD hS => ?_)
  obtain ⟨σ5, eσ5⟩ : ∃ z, z = cu σ (10 + x2.toNatClampNeg) x1.toNatClampNeg (if (σ.1 (10 + x2.toNatClampNeg) x1.toNatClampNeg) < x3 then x3 else (σ.1 (10 + x2.toNatClampNeg) x1.toNatClampNeg)) := ⟨_, rfl⟩
  have hwp := hwp σ5 eσ5
  have hP : va_P D clA (cw a t σ5) H := by rw [eσ5, ← cw_kn1 (a := a) (t := t) (σ := σ) (fx_lt hi1) x1.toNatClampNeg (if (σ.1 (10 + x2.toNatClampNeg) x1.toNatClampNeg) < x3 then x3 else (σ.1 (10 + x2.toNatClampNeg) x1.toNatClampNeg))]; exact hP
  have hD : va_D A (cw a t σ5) := by rw [eσ5, ← cw_kn1 (a := a) (t := t) (σ := σ) (fx_lt hi1) x1.toNatClampNeg (if (σ.1 (10 + x2.toNatClampNeg) x1.toNatClampNeg) < x3 then x3 else (σ.1 (10 + x2.toNatClampNeg) x1.toNatClampNeg))]; exact hD
  refine lv_aload_n hx hb dTk_takeRequest_20 rfl (lv_at hl 0 rfl) ?_
  refine va_get (D := D) (ci := 7) (C := RTk) (T := TTk) (N := 8) hx hb hts hinTk hown hK hP 11 rfl rfl 3 (by decide) lk29 (fun _ h9 => h9) rfl dTk_takeRequest_21 ?_
  refine lv_iload_n hx hb dTk_takeRequest_24 rfl (lv_at hl 2 rfl) ?_
  refine lv_icmp_ne hx hb dTk_takeRequest_25 rfl (fun h6 => ?_) (fun h6 => ?_)
  · have hwp := hwp.1 h6
    refine W.widen (k := 1) (n := 4) (by omega) (by omega) ?_
    exact W.vret hx hb hr (fun t ht hW => ⟨⟨σ5, rfl, hwp, uEnd ht hW hP hK hD hS hA⟩, hS.F ht⟩) hS.2.2 dTk_takeRequest_52
  · have hwp := hwp.2 h6
    refine lv_aload_n hx hb dTk_takeRequest_28 rfl (lv_at hl 0 rfl) ?_
    refine va_get (D := D) (ci := 7) (C := RTk) (T := TTk) (N := 8) hx hb hts hinTk hown hK hP 11 rfl rfl 4 (by decide) lk37 (fun x9 h9 => u_same ksstate x9 h9) rfl dTk_takeRequest_29 ?_
    refine lv_iload_n hx hb dTk_takeRequest_32 rfl (lv_at hl 2 rfl) ?_
    obtain ⟨hi7, hwp⟩ := hwp
    refine va_iald hx hb hK hP 12 0 rfl rfl hi7 dTk_takeRequest_33 ?_
    refine lv_if_ne hx hb dTk_takeRequest_34 rfl (fun h8 => ?_) (fun h8 => ?_)
    · have hwp := hwp.1 h8
      refine W.widen (k := 1) (n := 4) (by omega) (by omega) ?_
      exact W.vret hx hb hr (fun t ht hW => ⟨⟨σ5, rfl, hwp, uEnd ht hW hP hK hD hS hA⟩, hS.F ht⟩) hS.2.2 dTk_takeRequest_52
    · have hwp := hwp.2 h8
      refine lv_aload_n hx hb dTk_takeRequest_37 rfl (lv_at hl 0 rfl) ?_
      refine lv_iload_n hx hb dTk_takeRequest_38 rfl (lv_at hl 2 rfl) ?_
      refine lv_iload_n hx hb dTk_takeRequest_39 rfl (lv_at hl 1 rfl) ?_
      obtain ⟨P9, hP9, hwp⟩ := hwp
      refine uCallVi (As := [.int x2, .int x1]) (rest := []) (C := RTk) ⟨hx, hb, hml, hown, hts⟩ (kC_Tk_isOwed l D a A t   σ5 x2 x1 P9 hP9) (cwV 2 hts (gdV wm_488 wm_490 wp_4 wm_7 wm_491) rfl rfl rfl (by decide +kernel) ⟨Nat.le_of_ble_eq_true rfl, Nat.le_of_ble_eq_true rfl⟩) (va_recv (ci := 7) (q0 := 11) hK hP rfl rfl) hP hK hD hA hS rfl hl.1 rfl (Nat.le_of_ble_eq_true rfl) dTk_takeRequest_40 ⟨Nat.le_of_ble_eq_true rfl, Nat.le_of_ble_eq_true rfl⟩ (fun r11 u10 H locs hu10 hP hD hS => ?_)
      have hwp := hwp r11 u10 hu10
      refine lv_if_eq hx hb dTk_takeRequest_43 rfl (fun h12 => ?_) (fun h12 => ?_)
      · have hwp := hwp.1 h12
        refine W.widen (k := 1) (n := 4) (by omega) (by omega) ?_
        exact W.vret hx hb hr (fun t ht hW => ⟨⟨u10, rfl, hwp, uEnd ht hW hP hK hD hS hA⟩, hS.F ht⟩) hS.2.2 dTk_takeRequest_52
      · have hwp := hwp.2 h12
        refine lv_aload_n hx hb dTk_takeRequest_46 rfl (lv_at hl 0 rfl) ?_
        refine lv_iload_n hx hb dTk_takeRequest_47 rfl (lv_at hl 2 rfl) ?_
        refine lv_iload_n hx hb dTk_takeRequest_48 rfl (lv_at hl 1 rfl) ?_
        obtain ⟨P13, hP13, hwp⟩ := hwp
        refine uCallVv (As := [.int x2, .int x1]) (rest := []) (C := RTk) ⟨hx, hb, hml, hown, hts⟩ (kC_Tk_passToken l D a A t   u10 x2 x1 P13 hP13) (cwV 2 hts (gdV wm_495 wm_497 wp_5 wm_7 wm_498) rfl rfl rfl (by decide +kernel) ⟨Nat.le_of_ble_eq_true rfl, Nat.le_of_ble_eq_true rfl⟩) (va_recv (ci := 7) (q0 := 11) hK hP rfl rfl) hP hK hD hA hS rfl hl.1 rfl (Nat.le_of_ble_eq_true rfl) dTk_takeRequest_49 ⟨Nat.le_of_ble_eq_true rfl, Nat.le_of_ble_eq_true rfl⟩ (fun u14 H locs hu14 hP hD hS => ?_)
        have hwp := hwp u14 hu14
        exact W.vret hx hb hr (fun t ht hW => ⟨⟨u14, rfl, hwp, uEnd ht hW hP hK hD hS hA⟩, hS.F ht⟩) hS.2.2 dTk_takeRequest_52
-- NodeServices$TokenLock: void receive(int, int, NodeServices$Message), on Tk
def wC_Tk_receive (a : Nat → Nat) (q : Nat) (R : CS → Prop) (σ : CS) (x1 x2 : Int32) : Prop :=
  (q ∈ σ.2.2 ∧ (((¬ (σ.1 42 q) = 0) → (∀ σ4 : CS, σ4 = cu σ 9 0 x2 → (∃ P5 : CS → Prop, wC_Tk_enter a P5 σ4 x2 ∧ (∀ (u6 : CS), P5 u6 → R u6)))) ∧ (((σ.1 42 q) = 0) → (q ∈ σ.2.2 ∧ (∃ P9 : CS → Prop, wC_Tk_takeRequest a P9 σ x1 x2 (σ.1 43 q) ∧ (∀ (u10 : CS), P9 u10 → R u10))))))
abbrev wsTk_receive : List Cond := .code yTk_receive cTk_receive 4 none :: wg
abbrev rmC_Tk_receive : Room := { frames := 5, cells := 1, slots := 4, locals := 114 }
set_option maxHeartbeats 4000000 in
set_option maxRecDepth 100000 in
theorem kC_Tk_receive (l : Launch) (D : va_G) (a : Nat → Nat) (A : Nat → Prop) (t : Nat → ClassId) (q : Nat) (σ : CS) (x1 x2 : Int32) (R : CS → Prop) (hwp : wC_Tk_receive a q R σ x1 x2) : Met l yTk_receive wsTk_receive rmC_Tk_receive (va_Pc [.ref (a 11), .int x1, .int x2, .ref q] (uI D clA (cT t) A true (cw a t) σ)) (va_Qv R (uI D clA (cT t) A true (cw a t)) A) 1 4 A := by
  refine Met.ofW (cc := cTk_receive) (maxL := 4) (ret := none) (by decide) rfl ?_
  intro p e s m args below meth c s₁ B hml hv
  obtain ⟨rfl, hP, hK, hD, hA⟩ := hv
  have hx := B.exec
  have hb := B.bytes
  have hr := B.returns
  have hts := atoms_spec (ws := wsTk_receive) B.pre
  have hown : s.vm.findClass RTk = some m.cls := findClass_of_methodNamed B.named
  have hlocks := B.notSynchronized
  have hinMs : ∀ w ∈ u_ws RMs TMs 4, w ∈ wsTk_receive := fun w h => List.mem_cons_of_mem _ (inMs w h)
  have hinTk : ∀ w ∈ u_ws RTk TTk 8, w ∈ wsTk_receive := fun w h => List.mem_cons_of_mem _ (inTk w h)
  have lk29 := hts _ (List.mem_cons_of_mem _ wm_135)
  have lk67 := hts _ (List.mem_cons_of_mem _ wm_391)
  have lk72 := hts _ (List.mem_cons_of_mem _ wm_398)
  have hS : va_S A s.heap s.heap [] := va_S.rf
  have hl := lv_entry ([.ref (a 11), .int x1, .int x2, .ref q]) (n := 4) (Nat.le_of_ble_eq_true rfl)
  rw [lg_entry_eq]
  generalize (lg_sl ([.ref (a 11), .int x1, .int x2, .ref q]) ++ List.replicate (4 - (lg_sl ([.ref (a 11), .int x1, .int x2, .ref q])).length) Slot.unset).toArray = ls at hl ⊢
  have hl : lv_has ls 4 [(0, .ref (a 11)), (1, .int x1), (2, .int x2), (3, .ref q)] := hl
  refine lv_aload_n hx hb dTk_receive_0 rfl (lv_at hl 3 rfl) ?_
  obtain ⟨hm1, hwp⟩ := hwp
  obtain ⟨km2, hkm2⟩ := cw_ms (a := a) (t := t) hm1
  refine va_get (D := D) (ci := 4) (C := RMs) (T := TMs) (N := 4) hx hb hts hinMs hown hK hP km2 hkm2 rfl 1 (by decide) lk67 (fun _ h9 => h9) rfl dTk_receive_1 ?_
  refine lv_if_ne hx hb dTk_receive_4 rfl (fun h3 => ?_) (fun h3 => ?_)
  · have hwp := hwp.1 h3
    refine lv_aload_n hx hb dTk_receive_20 rfl (lv_at hl 0 rfl) ?_
    refine lv_iload_n hx hb dTk_receive_21 rfl (lv_at hl 2 rfl) ?_
    refine va_put (ty := .int) (D := D) (ci := 7) (C := RTk) (T := TTk) (N := 8) hx hb hts hinTk tyTk tyTk_ok nmTk hown hK hP hD hS 11 rfl rfl 3 (by decide) lk29 (fun _ h9 => h9) rfl (by decide +kernel) rfl rfl (Nat.le_of_ble_eq_true rfl) dTk_receive_22 (fun H locs hP hD hS => ?_)
    obtain ⟨σ4, eσ4⟩ : ∃ z, z = cu σ 9 0 x2 := ⟨_, rfl⟩
    have hwp := hwp σ4 eσ4
    have hP : va_P D clA (cw a t σ4) H := by rw [eσ4]; exact hP
    have hD : va_D A (cw a t σ4) := by rw [eσ4]; exact hD
    refine lv_aload_n hx hb dTk_receive_25 rfl (lv_at hl 0 rfl) ?_
    refine lv_iload_n hx hb dTk_receive_26 rfl (lv_at hl 2 rfl) ?_
    obtain ⟨P5, hP5, hwp⟩ := hwp
    refine uCallUv (As := [.int x2]) (rest := []) (C := RTk) ⟨hx, hb, hml, hown, hts⟩ (kC_Tk_enter l D a A t   σ4 x2 P5 hP5) (va_cwU (x := ⟨"NodeServices$TokenLock", "enter", "(I)V"⟩) (owner := "NodeServices$Lock") 1 hts (gdU wm_425 wm_426 wm_428 wm_429 wm_5 wm_430) rfl rfl rfl rfl (by decide +kernel) ⟨Nat.le_of_ble_eq_true rfl, Nat.le_of_ble_eq_true rfl⟩) (va_recv (ci := 7) (q0 := 11) hK hP rfl rfl) hP hK hD hA hS rfl hl.1 rfl (Nat.le_of_ble_eq_true rfl) dTk_receive_27 ⟨Nat.le_of_ble_eq_true rfl, Nat.le_of_ble_eq_true rfl⟩ (fun u6 H locs hu6 hP hD hS => ?_)
    have hwp := hwp u6 hu6
    refine W.widen (k := 1) (n := 4) (by omega) (by omega) ?_
    exact W.vret hx hb hr (fun t ht hW => ⟨⟨u6, rfl, hwp, uEnd ht hW hP hK hD hS hA⟩, hS.F ht⟩) hS.2.2 dTk_receive_30
  · have hwp := hwp.2 h3
    refine lv_aload_n hx hb dTk_receive_7 rfl (lv_at hl 0 rfl) ?_
    refine lv_iload_n hx hb dTk_receive_8 rfl (lv_at hl 1 rfl) ?_
    refine lv_iload_n hx hb dTk_receive_9 rfl (lv_at hl 2 rfl) ?_
    refine lv_aload_n hx hb dTk_receive_10 rfl (lv_at hl 3 rfl) ?_
    obtain ⟨hm7, hwp⟩ := hwp
    obtain ⟨km8, hkm8⟩ := cw_ms (a := a) (t := t) hm7
    refine va_get (D := D) (ci := 4) (C := RMs) (T := TMs) (N := 4) hx hb hts hinMs hown hK hP km8 hkm8 rfl 2 (by decide) lk72 (fun _ h9 => h9) rfl dTk_receive_11 ?_
    obtain ⟨P9, hP9, hwp⟩ := hwp
    refine uCallVv (As := [.int x1, .int x2, .int (σ.1 43 q)]) (rest := []) (C := RTk) ⟨hx, hb, hml, hown, hts⟩ (kC_Tk_takeRequest l D a A t   σ x1 x2 (σ.1 43 q) P9 hP9) (cwV 3 hts (gdV wm_651 wm_653 wp_14 wm_7 wm_654) rfl rfl rfl (by decide +kernel) ⟨Nat.le_of_ble_eq_true rfl, Nat.le_of_ble_eq_true rfl⟩) (va_recv (ci := 7) (q0 := 11) hK hP rfl rfl) hP hK hD hA hS rfl hl.1 rfl (Nat.le_of_ble_eq_true rfl) dTk_receive_14 ⟨Nat.le_of_ble_eq_true rfl, Nat.le_of_ble_eq_true rfl⟩ (fun u10 H locs hu10 hP hD hS => ?_)
    have hwp := hwp u10 hu10
    refine lv_goto hx hb dTk_receive_17 rfl ?_
    exact W.vret hx hb hr (fun t ht hW => ⟨⟨u10, rfl, hwp, uEnd ht hW hP hK hD hS hA⟩, hS.F ht⟩) hS.2.2 dTk_receive_30
-- NodeServices$TreeLock: int detail(int), on Tr
def wC_Tr_detail (a : Nat → Nat) (R : Int32 → CS → Prop) (σ : CS) (x1 : Int32) : Prop :=
  (vp_in x1 4 ∧ R (σ.1 17 x1.toNatClampNeg) σ)
abbrev wsTr_detail : List Cond := .code yTr_detail cTr_detail 2 (some .int) :: wg
abbrev rmC_Tr_detail : Room := { frames := 0, cells := 0, slots := 0, locals := 0 }
set_option maxHeartbeats 4000000 in
set_option maxRecDepth 100000 in
theorem kC_Tr_detail (l : Launch) (D : va_G) (a : Nat → Nat) (A : Nat → Prop) (t : Nat → ClassId) (σ : CS) (x1 : Int32) (R : Int32 → CS → Prop) (hwp : wC_Tr_detail a R σ x1) : Met l yTr_detail wsTr_detail rmC_Tr_detail (va_Pc [.ref (a 19), .int x1] (uI D clA (cT t) A true (cw a t) σ)) (va_Qi R (uI D clA (cT t) A true (cw a t)) A) 0 0 A := by
  refine Met.ofW (cc := cTr_detail) (maxL := 2) (ret := (some .int)) (by decide) rfl ?_
  intro p e s m args below meth c s₁ B hml hv
  obtain ⟨rfl, hP, hK, hD, hA⟩ := hv
  have hx := B.exec
  have hb := B.bytes
  have hr := B.returns
  have hts := atoms_spec (ws := wsTr_detail) B.pre
  have hown : s.vm.findClass RTr = some m.cls := findClass_of_methodNamed B.named
  have hlocks := B.notSynchronized
  have hinTr : ∀ w ∈ u_ws RTr TTr 7, w ∈ wsTr_detail := fun w h => List.mem_cons_of_mem _ (inTr w h)
  have lk20 := hts _ (List.mem_cons_of_mem _ wm_167)
  have hS : va_S A s.heap s.heap [] := va_S.rf
  have hl := lv_entry ([.ref (a 19), .int x1]) (n := 2) (Nat.le_of_ble_eq_true rfl)
  rw [lg_entry_eq]
  generalize (lg_sl ([.ref (a 19), .int x1]) ++ List.replicate (2 - (lg_sl ([.ref (a 19), .int x1])).length) Slot.unset).toArray = ls at hl ⊢
  have hl : lv_has ls 2 [(0, .ref (a 19)), (1, .int x1)] := hl
  refine lv_aload_n hx hb dTr_detail_0 rfl (lv_at hl 0 rfl) ?_
  refine va_get (D := D) (ci := 8) (C := RTr) (T := TTr) (N := 7) hx hb hts hinTr hown hK hP 19 rfl rfl 0 (by decide) lk20 (fun _ h9 => h9) rfl dTr_detail_1 ?_
  refine lv_iload_n hx hb dTr_detail_4 rfl (lv_at hl 1 rfl) ?_
  obtain ⟨hi1, hwp⟩ := hwp
  refine va_iald hx hb hK hP 21 0 rfl rfl hi1 dTr_detail_5 ?_
  exact W.iret (v := σ.1 17 x1.toNatClampNeg) hx hb hr (fun t ht hW => ⟨⟨σ.1 17 x1.toNatClampNeg, σ, rfl, hwp, uEnd ht hW hP hK hD hS hA⟩, hS.F ht⟩) hS.2.2 dTr_detail_6
-- NodeServices$TreeLock: private void serve(int, int), on Tr
def wC_Tr_serve (a : Nat → Nat) (R : CS → Prop) (σ : CS) (x1 x2 : Int32) : Prop :=
  (vp_in x1 4 ∧ (∀ σ2 : CS, σ2 = cu σ 18 x1.toNatClampNeg (vp_nar .boolean 0) → (((¬ x2 = x1) → (vp_in x1 4 ∧ (∀ σ5 : CS, σ5 = cu σ2 17 x1.toNatClampNeg x2 → (∃ P6 : CS → Prop, wC_Tr_send a P6 σ5 x1 x2 1 0 ∧ (∀ (u7 : CS), P6 u7 → R u7))))) ∧ ((x2 = x1) → (∃ P8 : CS → Prop, wC_Tr_enter a P8 σ2 x1 ∧ (∀ (u9 : CS), P8 u9 → R u9))))))
abbrev wsTr_serve : List Cond := .code yTr_serve cTr_serve 3 none :: wg
abbrev rmC_Tr_serve : Room := { frames := 3, cells := 1, slots := 4, locals := 69 }
set_option maxHeartbeats 4000000 in
set_option maxRecDepth 100000 in
theorem kC_Tr_serve (l : Launch) (D : va_G) (a : Nat → Nat) (A : Nat → Prop) (t : Nat → ClassId) (σ : CS) (x1 x2 : Int32) (R : CS → Prop) (hwp : wC_Tr_serve a R σ x1 x2) : Met l yTr_serve wsTr_serve rmC_Tr_serve (va_Pc [.ref (a 19), .int x1, .int x2] (uI D clA (cT t) A true (cw a t) σ)) (va_Qv R (uI D clA (cT t) A true (cw a t)) A) 1 4 A := by
  refine Met.ofW (cc := cTr_serve) (maxL := 3) (ret := none) (by decide) rfl ?_
  intro p e s m args below meth c s₁ B hml hv
  obtain ⟨rfl, hP, hK, hD, hA⟩ := hv
  have hx := B.exec
  have hb := B.bytes
  have hr := B.returns
  have hts := atoms_spec (ws := wsTr_serve) B.pre
  have hown : s.vm.findClass RTr = some m.cls := findClass_of_methodNamed B.named
  have hlocks := B.notSynchronized
  have hinTr : ∀ w ∈ u_ws RTr TTr 7, w ∈ wsTr_serve := fun w h => List.mem_cons_of_mem _ (inTr w h)
  have lk20 := hts _ (List.mem_cons_of_mem _ wm_167)
  have lk29 := hts _ (List.mem_cons_of_mem _ wm_169)
  have hS : va_S A s.heap s.heap [] := va_S.rf
  have hl := lv_entry ([.ref (a 19), .int x1, .int x2]) (n := 3) (Nat.le_of_ble_eq_true rfl)
  rw [lg_entry_eq]
  generalize (lg_sl ([.ref (a 19), .int x1, .int x2]) ++ List.replicate (3 - (lg_sl ([.ref (a 19), .int x1, .int x2])).length) Slot.unset).toArray = ls at hl ⊢
  have hl : lv_has ls 3 [(0, .ref (a 19)), (1, .int x1), (2, .int x2)] := hl
  refine lv_aload_n hx hb dTr_serve_0 rfl (lv_at hl 0 rfl) ?_
  refine va_get (D := D) (ci := 8) (C := RTr) (T := TTr) (N := 7) hx hb hts hinTr hown hK hP 19 rfl rfl 2 (by decide) lk29 (fun _ h9 => h9) rfl dTr_serve_1 ?_
  refine lv_iload_n hx hb dTr_serve_4 rfl (lv_at hl 1 rfl) ?_
  refine lv_iconst (v := 0) hx hb dTr_serve_5 (by decide) ?_
  obtain ⟨hi1, hwp⟩ := hwp
  refine va_zast hx hb hK hP hD hS 23 1 rfl rfl hi1 dTr_serve_6 (fun H locs hP hD hS => ?_)
  obtain ⟨σ2, eσ2⟩ : ∃ z, z = cu σ 18 x1.toNatClampNeg (vp_nar .boolean 0) := ⟨_, rfl⟩
  have hwp := hwp σ2 eσ2
  have hP : va_P D clA (cw a t σ2) H := by rw [eσ2]; exact hP
  have hD : va_D A (cw a t σ2) := by rw [eσ2]; exact hD
  refine lv_iload_n hx hb dTr_serve_7 rfl (lv_at hl 2 rfl) ?_
  refine lv_iload_n hx hb dTr_serve_8 rfl (lv_at hl 1 rfl) ?_
  refine lv_icmp_ne hx hb dTr_serve_9 rfl (fun h3 => ?_) (fun h3 => ?_)
  · have hwp := hwp.1 h3
    refine lv_aload_n hx hb dTr_serve_20 rfl (lv_at hl 0 rfl) ?_
    refine va_get (D := D) (ci := 8) (C := RTr) (T := TTr) (N := 7) hx hb hts hinTr hown hK hP 19 rfl rfl 0 (by decide) lk20 (fun _ h9 => h9) rfl dTr_serve_21 ?_
    refine lv_iload_n hx hb dTr_serve_24 rfl (lv_at hl 1 rfl) ?_
    refine lv_iload_n hx hb dTr_serve_25 rfl (lv_at hl 2 rfl) ?_
    obtain ⟨hi4, hwp⟩ := hwp
    refine va_iast hx hb hK hP hD hS 21 0 rfl rfl hi4 dTr_serve_26 (fun H locs hP hD hS => ?_)
    obtain ⟨σ5, eσ5⟩ : ∃ z, z = cu σ2 17 x1.toNatClampNeg x2 := ⟨_, rfl⟩
    have hwp := hwp σ5 eσ5
    have hP : va_P D clA (cw a t σ5) H := by rw [eσ5]; exact hP
    have hD : va_D A (cw a t σ5) := by rw [eσ5]; exact hD
    refine lv_aload_n hx hb dTr_serve_27 rfl (lv_at hl 0 rfl) ?_
    refine lv_iload_n hx hb dTr_serve_28 rfl (lv_at hl 1 rfl) ?_
    refine lv_iload_n hx hb dTr_serve_29 rfl (lv_at hl 2 rfl) ?_
    refine lv_iconst (v := 1) hx hb dTr_serve_30 (by decide) ?_
    refine lv_iconst (v := 0) hx hb dTr_serve_31 (by decide) ?_
    obtain ⟨P6, hP6, hwp⟩ := hwp
    refine uCallUv (As := [.int x1, .int x2, .int 1, .int 0]) (rest := []) (C := RTr) ⟨hx, hb, hml, hown, hts⟩ (kC_Tr_send l D a A t   σ5 x1 x2 1 0 P6 hP6) (va_cwU (x := ⟨"NodeServices$TreeLock", "send", "(IIII)V"⟩) (owner := "NodeServices$Service") 4 hts (gdU wm_460 wm_461 wm_463 wm_372 wm_4 wm_379) rfl rfl rfl rfl (by decide +kernel) ⟨Nat.le_of_ble_eq_true rfl, Nat.le_of_ble_eq_true rfl⟩) (va_recv (ci := 8) (q0 := 19) hK hP rfl rfl) hP hK hD hA hS rfl hl.1 rfl (Nat.le_of_ble_eq_true rfl) dTr_serve_32 ⟨Nat.le_of_ble_eq_true rfl, Nat.le_of_ble_eq_true rfl⟩ (fun u7 H locs hu7 hP hD hS => ?_)
    have hwp := hwp u7 hu7
    exact W.vret hx hb hr (fun t ht hW => ⟨⟨u7, rfl, hwp, uEnd ht hW hP hK hD hS hA⟩, hS.F ht⟩) hS.2.2 dTr_serve_35
  · have hwp := hwp.2 h3
    refine lv_aload_n hx hb dTr_serve_12 rfl (lv_at hl 0 rfl) ?_
    refine lv_iload_n hx hb dTr_serve_13 rfl (lv_at hl 1 rfl) ?_
    obtain ⟨P8, hP8, hwp⟩ := hwp
    refine uCallUv (As := [.int x1]) (rest := []) (C := RTr) ⟨hx, hb, hml, hown, hts⟩ (kC_Tr_enter l D a A t   σ2 x1 P8 hP8) (va_cwU (x := ⟨"NodeServices$TreeLock", "enter", "(I)V"⟩) (owner := "NodeServices$Lock") 1 hts (gdU wm_457 wm_458 wm_459 wm_429 wm_5 wm_430) rfl rfl rfl rfl (by decide +kernel) ⟨Nat.le_of_ble_eq_true rfl, Nat.le_of_ble_eq_true rfl⟩) (va_recv (ci := 8) (q0 := 19) hK hP rfl rfl) hP hK hD hA hS rfl hl.1 rfl (Nat.le_of_ble_eq_true rfl) dTr_serve_14 ⟨Nat.le_of_ble_eq_true rfl, Nat.le_of_ble_eq_true rfl⟩ (fun u9 H locs hu9 hP hD hS => ?_)
    have hwp := hwp u9 hu9
    refine lv_goto hx hb dTr_serve_17 rfl ?_
    refine W.widen (k := 1) (n := 4) (by omega) (by omega) ?_
    exact W.vret hx hb hr (fun t ht hW => ⟨⟨u9, rfl, hwp, uEnd ht hW hP hK hD hS hA⟩, hS.F ht⟩) hS.2.2 dTr_serve_35
-- NodeServices$TreeLock: private void goOn(int), on Tr
def wC_Tr_goOn_46 (a : Nat → Nat) (R : CS → Prop) (σ : CS) (y1 : Int32) : Prop :=
  (vp_in y1 4 ∧ ((((σ.1 17 y1.toNatClampNeg) = y1) → R σ) ∧ ((¬ (σ.1 17 y1.toNatClampNeg) = y1) → (vp_in y1 4 ∧ (∃ P4 : Int32 → CS → Prop, wC_Ro_isEmpty a (y1.toNatClampNeg) P4 σ ∧ (∀ (r6 : Int32) (u5 : CS), P4 r6 u5 → (((¬ r6 = 0) → R u5) ∧ ((r6 = 0) → (vp_in y1 4 ∧ (((¬ (u5.1 18 y1.toNatClampNeg) = 0) → R u5) ∧ (((u5.1 18 y1.toNatClampNeg) = 0) → (vp_in y1 4 ∧ (∀ σ11 : CS, σ11 = cu u5 18 y1.toNatClampNeg (vp_nar .boolean 1) → (vp_in y1 4 ∧ (∃ P13 : CS → Prop, wC_Tr_send a P13 σ11 y1 (σ11.1 17 y1.toNatClampNeg) 0 0 ∧ (∀ (u14 : CS), P13 u14 → R u14))))))))))))))))
def wC_Tr_goOn (a : Nat → Nat) (R : CS → Prop) (σ : CS) (x1 : Int32) : Prop :=
  (vp_in x1 4 ∧ (((¬ (σ.1 17 x1.toNatClampNeg) = x1) → wC_Tr_goOn_46 a R σ x1) ∧ (((σ.1 17 x1.toNatClampNeg) = x1) → (vp_in x1 4 ∧ ((((σ.1 15 x1.toNatClampNeg) = 2) → wC_Tr_goOn_46 a R σ x1) ∧ ((¬ (σ.1 15 x1.toNatClampNeg) = 2) → (vp_in x1 4 ∧ (∃ P20 : Int32 → CS → Prop, wC_Ro_isEmpty a (x1.toNatClampNeg) P20 σ ∧ (∀ (r22 : Int32) (u21 : CS), P20 r22 u21 → (((¬ r22 = 0) → wC_Tr_goOn_46 a R u21 x1) ∧ ((r22 = 0) → (vp_in x1 4 ∧ (∃ P25 : Int32 → CS → Prop, wC_Ro_takeHead a (x1.toNatClampNeg) P25 u21 ∧ (∀ (r27 : Int32) (u26 : CS), P25 r27 u26 → (∃ P28 : CS → Prop, wC_Tr_serve a P28 u26 x1 r27 ∧ (∀ (u29 : CS), P28 u29 → wC_Tr_goOn_46 a R u29 x1))))))))))))))))
abbrev wsTr_goOn : List Cond := .code yTr_goOn cTr_goOn 2 none :: wg
abbrev rmC_Tr_goOn : Room := { frames := 4, cells := 2, slots := 8, locals := 91 }
set_option maxHeartbeats 4000000 in
set_option maxRecDepth 100000 in
theorem kC_Tr_goOn (l : Launch) (D : va_G) (a : Nat → Nat) (A : Nat → Prop) (t : Nat → ClassId) (σ : CS) (x1 : Int32) (R : CS → Prop) (hwp : wC_Tr_goOn a R σ x1) : Met l yTr_goOn wsTr_goOn rmC_Tr_goOn (va_Pc [.ref (a 19), .int x1] (uI D clA (cT t) A true (cw a t) σ)) (va_Qv R (uI D clA (cT t) A true (cw a t)) A) 2 8 A := by
  refine Met.ofW (cc := cTr_goOn) (maxL := 2) (ret := none) (by decide) rfl ?_
  intro p e s m args below meth c s₁ B hml hv
  obtain ⟨rfl, hP, hK, hD, hA⟩ := hv
  have hx := B.exec
  have hb := B.bytes
  have hr := B.returns
  have hts := atoms_spec (ws := wsTr_goOn) B.pre
  have hown : s.vm.findClass RTr = some m.cls := findClass_of_methodNamed B.named
  have hlocks := B.notSynchronized
  have hinTr : ∀ w ∈ u_ws RTr TTr 7, w ∈ wsTr_goOn := fun w h => List.mem_cons_of_mem _ (inTr w h)
  have ksstate := hts _ (List.mem_cons_of_mem _ wm_83)
  have lk20 := hts _ (List.mem_cons_of_mem _ wm_167)
  have lk25 := hts _ (List.mem_cons_of_mem _ wm_168)
  have lk29 := hts _ (List.mem_cons_of_mem _ wm_169)
  have lk36 := hts _ (List.mem_cons_of_mem _ wm_82)
  have hS : va_S A s.heap s.heap [] := va_S.rf
  have cut46 : ∀ (σ : CS) (y1 : Int32) (H : Heap) (locs : List Loc) (ls : Array Slot), wC_Tr_goOn_46 a R σ y1 → va_P D clA (cw a t σ) H → va_D A (cw a t σ) → va_S A s.heap H locs → lv_has ls 2 [(0, .ref (a 19)), (1, .int y1)] → W p l e (headSpec wsTr_goOn rmC_Tr_goOn).room s m ([.ref (a 19), .int x1] : List Value).toArray below meth c H locs 1 4 (MQ below (va_Qv R (uI D clA (cT t) A true (cw a t)) A) ([.ref (a 19), .int x1] : List Value).toArray s 2 8 A) (F0 m 46 ls []) := by
    intro σ y1 H locs ls hwp hP hD hS hl
    refine lv_aload_n hx hb dTr_goOn_46 rfl (lv_at hl 0 rfl) ?_
    refine va_get (D := D) (ci := 8) (C := RTr) (T := TTr) (N := 7) hx hb hts hinTr hown hK hP 19 rfl rfl 0 (by decide) lk20 (fun _ h9 => h9) rfl dTr_goOn_47 ?_
    refine lv_iload_n hx hb dTr_goOn_50 rfl (lv_at hl 1 rfl) ?_
    obtain ⟨hi1, hwp⟩ := hwp
    refine va_iald hx hb hK hP 21 0 rfl rfl hi1 dTr_goOn_51 ?_
    refine lv_iload_n hx hb dTr_goOn_52 rfl (lv_at hl 1 rfl) ?_
    refine lv_icmp_eq hx hb dTr_goOn_53 rfl (fun h2 => ?_) (fun h2 => ?_)
    · have hwp := hwp.1 h2
      refine W.widen (k := 2) (n := 8) (by omega) (by omega) ?_
      exact W.vret hx hb hr (fun t ht hW => ⟨⟨σ, rfl, hwp, uEnd ht hW hP hK hD hS hA⟩, hS.F ht⟩) hS.2.2 dTr_goOn_97
    · have hwp := hwp.2 h2
      refine lv_aload_n hx hb dTr_goOn_56 rfl (lv_at hl 0 rfl) ?_
      refine va_get (D := D) (ci := 8) (C := RTr) (T := TTr) (N := 7) hx hb hts hinTr hown hK hP 19 rfl rfl 1 (by decide) lk25 (fun _ h9 => h9) rfl dTr_goOn_57 ?_
      refine lv_iload_n hx hb dTr_goOn_60 rfl (lv_at hl 1 rfl) ?_
      obtain ⟨hi3, hwp⟩ := hwp
      refine va_aldq hx hb hK hP 22 5 rfl rfl hi3 dTr_goOn_61 ?_
      refine W.eq (g2 := F0 m 62 ls [.ref (a (25 + y1.toNatClampNeg))]) rfl ?_
      obtain ⟨P4, hP4, hwp⟩ := hwp
      refine uCallVi (As := []) (rest := []) (C := RRo) ⟨hx, hb, hml, hown, hts⟩ (kC_Ro_isEmpty l D a A t (y1.toNatClampNeg) (fx_lt5 hi3) σ  P4 hP4) (cwV 0 hts (gdV wm_445 wm_446 wm_447 wm_8 wm_448) rfl rfl rfl (by decide +kernel) ⟨Nat.le_of_ble_eq_true rfl, Nat.le_of_ble_eq_true rfl⟩) (va_recv (ci := 5) (q0 := (25 + y1.toNatClampNeg)) hK hP rfl (cw_ro (fx_lt5 hi3))) hP hK hD hA hS rfl hl.1 rfl (Nat.le_of_ble_eq_true rfl) dTr_goOn_62 ⟨Nat.le_of_ble_eq_true rfl, Nat.le_of_ble_eq_true rfl⟩ (fun r6 u5 H locs hu5 hP hD hS => ?_)
      have hwp := hwp r6 u5 hu5
      refine lv_if_ne hx hb dTr_goOn_65 rfl (fun h7 => ?_) (fun h7 => ?_)
      · have hwp := hwp.1 h7
        refine W.widen (k := 2) (n := 8) (by omega) (by omega) ?_
        exact W.vret hx hb hr (fun t ht hW => ⟨⟨u5, rfl, hwp, uEnd ht hW hP hK hD hS hA⟩, hS.F ht⟩) hS.2.2 dTr_goOn_97
      · have hwp := hwp.2 h7
        refine lv_aload_n hx hb dTr_goOn_68 rfl (lv_at hl 0 rfl) ?_
        refine va_get (D := D) (ci := 8) (C := RTr) (T := TTr) (N := 7) hx hb hts hinTr hown hK hP 19 rfl rfl 2 (by decide) lk29 (fun _ h9 => h9) rfl dTr_goOn_69 ?_
        refine lv_iload_n hx hb dTr_goOn_72 rfl (lv_at hl 1 rfl) ?_
        obtain ⟨hi8, hwp⟩ := hwp
        refine va_zald hx hb hK hP 23 1 rfl rfl hi8 dTr_goOn_73 ?_
        refine lv_if_ne hx hb dTr_goOn_74 rfl (fun h9 => ?_) (fun h9 => ?_)
        · have hwp := hwp.1 h9
          refine W.widen (k := 2) (n := 8) (by omega) (by omega) ?_
          exact W.vret hx hb hr (fun t ht hW => ⟨⟨u5, rfl, hwp, uEnd ht hW hP hK hD hS hA⟩, hS.F ht⟩) hS.2.2 dTr_goOn_97
        · have hwp := hwp.2 h9
          refine lv_aload_n hx hb dTr_goOn_77 rfl (lv_at hl 0 rfl) ?_
          refine va_get (D := D) (ci := 8) (C := RTr) (T := TTr) (N := 7) hx hb hts hinTr hown hK hP 19 rfl rfl 2 (by decide) lk29 (fun _ h9 => h9) rfl dTr_goOn_78 ?_
          refine lv_iload_n hx hb dTr_goOn_81 rfl (lv_at hl 1 rfl) ?_
          refine lv_iconst (v := 1) hx hb dTr_goOn_82 (by decide) ?_
          obtain ⟨hi10, hwp⟩ := hwp
          refine va_zast hx hb hK hP hD hS 23 1 rfl rfl hi10 dTr_goOn_83 (fun H locs hP hD hS => ?_)
          obtain ⟨σ11, eσ11⟩ : ∃ z, z = cu u5 18 y1.toNatClampNeg (vp_nar .boolean 1) := ⟨_, rfl⟩
          have hwp := hwp σ11 eσ11
          have hP : va_P D clA (cw a t σ11) H := by rw [eσ11]; exact hP
          have hD : va_D A (cw a t σ11) := by rw [eσ11]; exact hD
          refine lv_aload_n hx hb dTr_goOn_84 rfl (lv_at hl 0 rfl) ?_
          refine lv_iload_n hx hb dTr_goOn_85 rfl (lv_at hl 1 rfl) ?_
          refine lv_aload_n hx hb dTr_goOn_86 rfl (lv_at hl 0 rfl) ?_
          refine va_get (D := D) (ci := 8) (C := RTr) (T := TTr) (N := 7) hx hb hts hinTr hown hK hP 19 rfl rfl 0 (by decide) lk20 (fun _ h9 => h9) rfl dTr_goOn_87 ?_
          refine lv_iload_n hx hb dTr_goOn_90 rfl (lv_at hl 1 rfl) ?_
          obtain ⟨hi12, hwp⟩ := hwp
          refine va_iald hx hb hK hP 21 0 rfl rfl hi12 dTr_goOn_91 ?_
          refine lv_iconst (v := 0) hx hb dTr_goOn_92 (by decide) ?_
          refine lv_iconst (v := 0) hx hb dTr_goOn_93 (by decide) ?_
          obtain ⟨P13, hP13, hwp⟩ := hwp
          refine uCallUv (As := [.int y1, .int (σ11.1 17 y1.toNatClampNeg), .int 0, .int 0]) (rest := []) (C := RTr) ⟨hx, hb, hml, hown, hts⟩ (kC_Tr_send l D a A t   σ11 y1 (σ11.1 17 y1.toNatClampNeg) 0 0 P13 hP13) (va_cwU (x := ⟨"NodeServices$TreeLock", "send", "(IIII)V"⟩) (owner := "NodeServices$Service") 4 hts (gdU wm_460 wm_461 wm_463 wm_372 wm_4 wm_379) rfl rfl rfl rfl (by decide +kernel) ⟨Nat.le_of_ble_eq_true rfl, Nat.le_of_ble_eq_true rfl⟩) (va_recv (ci := 8) (q0 := 19) hK hP rfl rfl) hP hK hD hA hS rfl hl.1 rfl (Nat.le_of_ble_eq_true rfl) dTr_goOn_94 ⟨Nat.le_of_ble_eq_true rfl, Nat.le_of_ble_eq_true rfl⟩ (fun u14 H locs hu14 hP hD hS => ?_)
          have hwp := hwp u14 hu14
          exact W.vret hx hb hr (fun t ht hW => ⟨⟨u14, rfl, hwp, uEnd ht hW hP hK hD hS hA⟩, hS.F ht⟩) hS.2.2 dTr_goOn_97
  have hl := lv_entry ([.ref (a 19), .int x1]) (n := 2) (Nat.le_of_ble_eq_true rfl)
  rw [lg_entry_eq]
  generalize (lg_sl ([.ref (a 19), .int x1]) ++ List.replicate (2 - (lg_sl ([.ref (a 19), .int x1])).length) Slot.unset).toArray = ls at hl ⊢
  have hl : lv_has ls 2 [(0, .ref (a 19)), (1, .int x1)] := hl
  refine lv_aload_n hx hb dTr_goOn_0 rfl (lv_at hl 0 rfl) ?_
  refine va_get (D := D) (ci := 8) (C := RTr) (T := TTr) (N := 7) hx hb hts hinTr hown hK hP 19 rfl rfl 0 (by decide) lk20 (fun _ h9 => h9) rfl dTr_goOn_1 ?_
  refine lv_iload_n hx hb dTr_goOn_4 rfl (lv_at hl 1 rfl) ?_
  obtain ⟨hi15, hwp⟩ := hwp
  refine va_iald hx hb hK hP 21 0 rfl rfl hi15 dTr_goOn_5 ?_
  refine lv_iload_n hx hb dTr_goOn_6 rfl (lv_at hl 1 rfl) ?_
  refine lv_icmp_ne hx hb dTr_goOn_7 rfl (fun h16 => ?_) (fun h16 => ?_)
  · have hwp := hwp.1 h16
    refine W.widen (k := 1) (n := 4) (by omega) (by omega) ?_
    exact cut46 σ x1 _ _ _ hwp hP hD hS (lv_sub hl [0, 1] rfl)
  · have hwp := hwp.2 h16
    refine lv_aload_n hx hb dTr_goOn_10 rfl (lv_at hl 0 rfl) ?_
    refine va_get (D := D) (ci := 8) (C := RTr) (T := TTr) (N := 7) hx hb hts hinTr hown hK hP 19 rfl rfl 3 (by decide) lk36 (fun x9 h9 => u_same ksstate x9 h9) rfl dTr_goOn_11 ?_
    refine lv_iload_n hx hb dTr_goOn_14 rfl (lv_at hl 1 rfl) ?_
    obtain ⟨hi17, hwp⟩ := hwp
    refine va_iald hx hb hK hP 20 0 rfl rfl hi17 dTr_goOn_15 ?_
    refine lv_iconst (v := 2) hx hb dTr_goOn_16 (by decide) ?_
    refine lv_icmp_eq hx hb dTr_goOn_17 rfl (fun h18 => ?_) (fun h18 => ?_)
    · have hwp := hwp.1 h18
      refine W.widen (k := 1) (n := 4) (by omega) (by omega) ?_
      exact cut46 σ x1 _ _ _ hwp hP hD hS (lv_sub hl [0, 1] rfl)
    · have hwp := hwp.2 h18
      refine lv_aload_n hx hb dTr_goOn_20 rfl (lv_at hl 0 rfl) ?_
      refine va_get (D := D) (ci := 8) (C := RTr) (T := TTr) (N := 7) hx hb hts hinTr hown hK hP 19 rfl rfl 1 (by decide) lk25 (fun _ h9 => h9) rfl dTr_goOn_21 ?_
      refine lv_iload_n hx hb dTr_goOn_24 rfl (lv_at hl 1 rfl) ?_
      obtain ⟨hi19, hwp⟩ := hwp
      refine va_aldq hx hb hK hP 22 5 rfl rfl hi19 dTr_goOn_25 ?_
      refine W.eq (g2 := F0 m 26 ls [.ref (a (25 + x1.toNatClampNeg))]) rfl ?_
      obtain ⟨P20, hP20, hwp⟩ := hwp
      refine uCallVi (As := []) (rest := []) (C := RRo) ⟨hx, hb, hml, hown, hts⟩ (kC_Ro_isEmpty l D a A t (x1.toNatClampNeg) (fx_lt5 hi19) σ  P20 hP20) (cwV 0 hts (gdV wm_445 wm_446 wm_447 wm_8 wm_448) rfl rfl rfl (by decide +kernel) ⟨Nat.le_of_ble_eq_true rfl, Nat.le_of_ble_eq_true rfl⟩) (va_recv (ci := 5) (q0 := (25 + x1.toNatClampNeg)) hK hP rfl (cw_ro (fx_lt5 hi19))) hP hK hD hA hS rfl hl.1 rfl (Nat.le_of_ble_eq_true rfl) dTr_goOn_26 ⟨Nat.le_of_ble_eq_true rfl, Nat.le_of_ble_eq_true rfl⟩ (fun r22 u21 H locs hu21 hP hD hS => ?_)
      have hwp := hwp r22 u21 hu21
      refine lv_if_ne hx hb dTr_goOn_29 rfl (fun h23 => ?_) (fun h23 => ?_)
      · have hwp := hwp.1 h23
        refine W.widen (k := 1) (n := 4) (by omega) (by omega) ?_
        exact cut46 u21 x1 _ _ _ hwp hP hD hS (lv_sub hl [0, 1] rfl)
      · have hwp := hwp.2 h23
        refine lv_aload_n hx hb dTr_goOn_32 rfl (lv_at hl 0 rfl) ?_
        refine lv_iload_n hx hb dTr_goOn_33 rfl (lv_at hl 1 rfl) ?_
        refine lv_aload_n hx hb dTr_goOn_34 rfl (lv_at hl 0 rfl) ?_
        refine va_get (D := D) (ci := 8) (C := RTr) (T := TTr) (N := 7) hx hb hts hinTr hown hK hP 19 rfl rfl 1 (by decide) lk25 (fun _ h9 => h9) rfl dTr_goOn_35 ?_
        refine lv_iload_n hx hb dTr_goOn_38 rfl (lv_at hl 1 rfl) ?_
        obtain ⟨hi24, hwp⟩ := hwp
        refine va_aldq hx hb hK hP 22 5 rfl rfl hi24 dTr_goOn_39 ?_
        refine W.eq (g2 := F0 m 40 ls [.ref (a (25 + x1.toNatClampNeg)), .int x1, .ref (a 19)]) rfl ?_
        obtain ⟨P25, hP25, hwp⟩ := hwp
        refine uCallVi (As := []) (rest := [.int x1, .ref (a 19)]) (C := RRo) ⟨hx, hb, hml, hown, hts⟩ (kC_Ro_takeHead l D a A t (x1.toNatClampNeg) (fx_lt5 hi24) u21  P25 hP25) (cwV 0 hts (gdV wm_449 wm_450 wm_451 wm_8 wm_452) rfl rfl rfl (by decide +kernel) ⟨Nat.le_of_ble_eq_true rfl, Nat.le_of_ble_eq_true rfl⟩) (va_recv (ci := 5) (q0 := (25 + x1.toNatClampNeg)) hK hP rfl (cw_ro (fx_lt5 hi24))) hP hK hD hA hS rfl hl.1 rfl (Nat.le_of_ble_eq_true rfl) dTr_goOn_40 ⟨Nat.le_of_ble_eq_true rfl, Nat.le_of_ble_eq_true rfl⟩ (fun r27 u26 H locs hu26 hP hD hS => ?_)
        have hwp := hwp r27 u26 hu26
        obtain ⟨P28, hP28, hwp⟩ := hwp
        refine uCallVv (As := [.int x1, .int r27]) (rest := []) (C := RTr) ⟨hx, hb, hml, hown, hts⟩ (kC_Tr_serve l D a A t   u26 x1 r27 P28 hP28) (cwV 2 hts (gdV wm_453 wm_455 wp_3 wm_9 wm_456) rfl rfl rfl (by decide +kernel) ⟨Nat.le_of_ble_eq_true rfl, Nat.le_of_ble_eq_true rfl⟩) (va_recv (ci := 8) (q0 := 19) hK hP rfl rfl) hP hK hD hA hS rfl hl.1 rfl (Nat.le_of_ble_eq_true rfl) dTr_goOn_43 ⟨Nat.le_of_ble_eq_true rfl, Nat.le_of_ble_eq_true rfl⟩ (fun u29 H locs hu29 hP hD hS => ?_)
        have hwp := hwp u29 hu29
        exact cut46 u29 x1 _ _ _ hwp hP hD hS (lv_sub hl [0, 1] rfl)
-- NodeServices$TreeLock: void ask(int), on Tr
def wC_Tr_ask (a : Nat → Nat) (R : CS → Prop) (σ : CS) (x1 : Int32) : Prop :=
  (vp_in x1 4 ∧ (∀ σ2 : CS, σ2 = cu σ 15 x1.toNatClampNeg 1 → (vp_in x1 4 ∧ (∃ P4 : CS → Prop, wC_Ro_append a (x1.toNatClampNeg) P4 σ2 x1 ∧ (∀ (u5 : CS), P4 u5 → (∃ P6 : CS → Prop, wC_Tr_goOn a P6 u5 x1 ∧ (∀ (u7 : CS), P6 u7 → R u7)))))))
abbrev wsTr_ask : List Cond := .code yTr_ask cTr_ask 2 none :: wg
abbrev rmC_Tr_ask : Room := { frames := 5, cells := 2, slots := 8, locals := 112 }
set_option maxHeartbeats 4000000 in
set_option maxRecDepth 100000 in
theorem kC_Tr_ask (l : Launch) (D : va_G) (a : Nat → Nat) (A : Nat → Prop) (t : Nat → ClassId) (σ : CS) (x1 : Int32) (R : CS → Prop) (hwp : wC_Tr_ask a R σ x1) : Met l yTr_ask wsTr_ask rmC_Tr_ask (va_Pc [.ref (a 19), .int x1] (uI D clA (cT t) A true (cw a t) σ)) (va_Qv R (uI D clA (cT t) A true (cw a t)) A) 2 8 A := by
  refine Met.ofW (cc := cTr_ask) (maxL := 2) (ret := none) (by decide) rfl ?_
  intro p e s m args below meth c s₁ B hml hv
  obtain ⟨rfl, hP, hK, hD, hA⟩ := hv
  have hx := B.exec
  have hb := B.bytes
  have hr := B.returns
  have hts := atoms_spec (ws := wsTr_ask) B.pre
  have hown : s.vm.findClass RTr = some m.cls := findClass_of_methodNamed B.named
  have hlocks := B.notSynchronized
  have hinTr : ∀ w ∈ u_ws RTr TTr 7, w ∈ wsTr_ask := fun w h => List.mem_cons_of_mem _ (inTr w h)
  have ksstate := hts _ (List.mem_cons_of_mem _ wm_83)
  have lk25 := hts _ (List.mem_cons_of_mem _ wm_168)
  have lk36 := hts _ (List.mem_cons_of_mem _ wm_82)
  have hS : va_S A s.heap s.heap [] := va_S.rf
  have hl := lv_entry ([.ref (a 19), .int x1]) (n := 2) (Nat.le_of_ble_eq_true rfl)
  rw [lg_entry_eq]
  generalize (lg_sl ([.ref (a 19), .int x1]) ++ List.replicate (2 - (lg_sl ([.ref (a 19), .int x1])).length) Slot.unset).toArray = ls at hl ⊢
  have hl : lv_has ls 2 [(0, .ref (a 19)), (1, .int x1)] := hl
  refine lv_aload_n hx hb dTr_ask_0 rfl (lv_at hl 0 rfl) ?_
  refine va_get (D := D) (ci := 8) (C := RTr) (T := TTr) (N := 7) hx hb hts hinTr hown hK hP 19 rfl rfl 3 (by decide) lk36 (fun x9 h9 => u_same ksstate x9 h9) rfl dTr_ask_1 ?_
  refine lv_iload_n hx hb dTr_ask_4 rfl (lv_at hl 1 rfl) ?_
  refine lv_iconst (v := 1) hx hb dTr_ask_5 (by decide) ?_
  obtain ⟨hi1, hwp⟩ := hwp
  refine va_iast hx hb hK hP hD hS 20 0 rfl rfl hi1 dTr_ask_6 (fun H locs hP hD hS => ?_)
  obtain ⟨σ2, eσ2⟩ : ∃ z, z = cu σ 15 x1.toNatClampNeg 1 := ⟨_, rfl⟩
  have hwp := hwp σ2 eσ2
  have hP : va_P D clA (cw a t σ2) H := by rw [eσ2]; exact hP
  have hD : va_D A (cw a t σ2) := by rw [eσ2]; exact hD
  refine lv_aload_n hx hb dTr_ask_7 rfl (lv_at hl 0 rfl) ?_
  refine va_get (D := D) (ci := 8) (C := RTr) (T := TTr) (N := 7) hx hb hts hinTr hown hK hP 19 rfl rfl 1 (by decide) lk25 (fun _ h9 => h9) rfl dTr_ask_8 ?_
  refine lv_iload_n hx hb dTr_ask_11 rfl (lv_at hl 1 rfl) ?_
  obtain ⟨hi3, hwp⟩ := hwp
  refine va_aldq hx hb hK hP 22 5 rfl rfl hi3 dTr_ask_12 ?_
  refine W.eq (g2 := F0 m 13 ls [.ref (a (25 + x1.toNatClampNeg))]) rfl ?_
  refine lv_iload_n hx hb dTr_ask_13 rfl (lv_at hl 1 rfl) ?_
  obtain ⟨P4, hP4, hwp⟩ := hwp
  refine uCallVv (As := [.int x1]) (rest := []) (C := RRo) ⟨hx, hb, hml, hown, hts⟩ (kC_Ro_append l D a A t (x1.toNatClampNeg) (fx_lt5 hi3) σ2 x1 P4 hP4) (cwV 1 hts (gdV wm_437 wm_438 wm_439 wm_8 wm_440) rfl rfl rfl (by decide +kernel) ⟨Nat.le_of_ble_eq_true rfl, Nat.le_of_ble_eq_true rfl⟩) (va_recv (ci := 5) (q0 := (25 + x1.toNatClampNeg)) hK hP rfl (cw_ro (fx_lt5 hi3))) hP hK hD hA hS rfl hl.1 rfl (Nat.le_of_ble_eq_true rfl) dTr_ask_14 ⟨Nat.le_of_ble_eq_true rfl, Nat.le_of_ble_eq_true rfl⟩ (fun u5 H locs hu5 hP hD hS => ?_)
  have hwp := hwp u5 hu5
  refine lv_aload_n hx hb dTr_ask_17 rfl (lv_at hl 0 rfl) ?_
  refine lv_iload_n hx hb dTr_ask_18 rfl (lv_at hl 1 rfl) ?_
  obtain ⟨P6, hP6, hwp⟩ := hwp
  refine uCallVv (As := [.int x1]) (rest := []) (C := RTr) ⟨hx, hb, hml, hown, hts⟩ (kC_Tr_goOn l D a A t   u5 x1 P6 hP6) (cwV 1 hts (gdV wm_441 wm_443 wp_2 wm_9 wm_444) rfl rfl rfl (by decide +kernel) ⟨Nat.le_of_ble_eq_true rfl, Nat.le_of_ble_eq_true rfl⟩) (va_recv (ci := 8) (q0 := 19) hK hP rfl rfl) hP hK hD hA hS rfl hl.1 rfl (Nat.le_of_ble_eq_true rfl) dTr_ask_19 ⟨Nat.le_of_ble_eq_true rfl, Nat.le_of_ble_eq_true rfl⟩ (fun u7 H locs hu7 hP hD hS => ?_)
  have hwp := hwp u7 hu7
  exact W.vret hx hb hr (fun t ht hW => ⟨⟨u7, rfl, hwp, uEnd ht hW hP hK hD hS hA⟩, hS.F ht⟩) hS.2.2 dTr_ask_22
-- NodeServices$TreeLock: void release(int), on Tr
def wC_Tr_release (a : Nat → Nat) (R : CS → Prop) (σ : CS) (x1 : Int32) : Prop :=
  (vp_in x1 4 ∧ (∀ σ2 : CS, σ2 = cu σ 15 x1.toNatClampNeg 0 → (∃ P3 : CS → Prop, wC_Tr_goOn a P3 σ2 x1 ∧ (∀ (u4 : CS), P3 u4 → R u4))))
abbrev wsTr_release : List Cond := .code yTr_release cTr_release 2 none :: wg
abbrev rmC_Tr_release : Room := { frames := 5, cells := 2, slots := 8, locals := 112 }
set_option maxHeartbeats 4000000 in
set_option maxRecDepth 100000 in
theorem kC_Tr_release (l : Launch) (D : va_G) (a : Nat → Nat) (A : Nat → Prop) (t : Nat → ClassId) (σ : CS) (x1 : Int32) (R : CS → Prop) (hwp : wC_Tr_release a R σ x1) : Met l yTr_release wsTr_release rmC_Tr_release (va_Pc [.ref (a 19), .int x1] (uI D clA (cT t) A true (cw a t) σ)) (va_Qv R (uI D clA (cT t) A true (cw a t)) A) 2 8 A := by
  refine Met.ofW (cc := cTr_release) (maxL := 2) (ret := none) (by decide) rfl ?_
  intro p e s m args below meth c s₁ B hml hv
  obtain ⟨rfl, hP, hK, hD, hA⟩ := hv
  have hx := B.exec
  have hb := B.bytes
  have hr := B.returns
  have hts := atoms_spec (ws := wsTr_release) B.pre
  have hown : s.vm.findClass RTr = some m.cls := findClass_of_methodNamed B.named
  have hlocks := B.notSynchronized
  have hinTr : ∀ w ∈ u_ws RTr TTr 7, w ∈ wsTr_release := fun w h => List.mem_cons_of_mem _ (inTr w h)
  have ksstate := hts _ (List.mem_cons_of_mem _ wm_83)
  have lk36 := hts _ (List.mem_cons_of_mem _ wm_82)
  have hS : va_S A s.heap s.heap [] := va_S.rf
  have hl := lv_entry ([.ref (a 19), .int x1]) (n := 2) (Nat.le_of_ble_eq_true rfl)
  rw [lg_entry_eq]
  generalize (lg_sl ([.ref (a 19), .int x1]) ++ List.replicate (2 - (lg_sl ([.ref (a 19), .int x1])).length) Slot.unset).toArray = ls at hl ⊢
  have hl : lv_has ls 2 [(0, .ref (a 19)), (1, .int x1)] := hl
  refine lv_aload_n hx hb dTr_release_0 rfl (lv_at hl 0 rfl) ?_
  refine va_get (D := D) (ci := 8) (C := RTr) (T := TTr) (N := 7) hx hb hts hinTr hown hK hP 19 rfl rfl 3 (by decide) lk36 (fun x9 h9 => u_same ksstate x9 h9) rfl dTr_release_1 ?_
  refine lv_iload_n hx hb dTr_release_4 rfl (lv_at hl 1 rfl) ?_
  refine lv_iconst (v := 0) hx hb dTr_release_5 (by decide) ?_
  obtain ⟨hi1, hwp⟩ := hwp
  refine va_iast hx hb hK hP hD hS 20 0 rfl rfl hi1 dTr_release_6 (fun H locs hP hD hS => ?_)
  obtain ⟨σ2, eσ2⟩ : ∃ z, z = cu σ 15 x1.toNatClampNeg 0 := ⟨_, rfl⟩
  have hwp := hwp σ2 eσ2
  have hP : va_P D clA (cw a t σ2) H := by rw [eσ2]; exact hP
  have hD : va_D A (cw a t σ2) := by rw [eσ2]; exact hD
  refine lv_aload_n hx hb dTr_release_7 rfl (lv_at hl 0 rfl) ?_
  refine lv_iload_n hx hb dTr_release_8 rfl (lv_at hl 1 rfl) ?_
  obtain ⟨P3, hP3, hwp⟩ := hwp
  refine uCallVv (As := [.int x1]) (rest := []) (C := RTr) ⟨hx, hb, hml, hown, hts⟩ (kC_Tr_goOn l D a A t   σ2 x1 P3 hP3) (cwV 1 hts (gdV wm_441 wm_443 wp_2 wm_9 wm_444) rfl rfl rfl (by decide +kernel) ⟨Nat.le_of_ble_eq_true rfl, Nat.le_of_ble_eq_true rfl⟩) (va_recv (ci := 8) (q0 := 19) hK hP rfl rfl) hP hK hD hA hS rfl hl.1 rfl (Nat.le_of_ble_eq_true rfl) dTr_release_9 ⟨Nat.le_of_ble_eq_true rfl, Nat.le_of_ble_eq_true rfl⟩ (fun u4 H locs hu4 hP hD hS => ?_)
  have hwp := hwp u4 hu4
  exact W.vret hx hb hr (fun t ht hW => ⟨⟨u4, rfl, hwp, uEnd ht hW hP hK hD hS hA⟩, hS.F ht⟩) hS.2.2 dTr_release_12
-- NodeServices$TreeLock: void receive(int, int, NodeServices$Message), on Tr
def wC_Tr_receive_27 (a : Nat → Nat) (q : Nat) (R : CS → Prop) (σ : CS) (y1 : Int32) (y2 : Int32) : Prop :=
  (∃ P1 : CS → Prop, wC_Tr_goOn a P1 σ y2 ∧ (∀ (u2 : CS), P1 u2 → R u2))
def wC_Tr_receive (a : Nat → Nat) (q : Nat) (R : CS → Prop) (σ : CS) (x1 x2 : Int32) : Prop :=
  (q ∈ σ.2.2 ∧ (((¬ (σ.1 42 q) = 0) → (vp_in x2 4 ∧ (∀ σ7 : CS, σ7 = cu σ 17 x2.toNatClampNeg x2 → wC_Tr_receive_27 a q R σ7 x1 x2))) ∧ (((σ.1 42 q) = 0) → (vp_in x2 4 ∧ (∃ P9 : CS → Prop, wC_Ro_append a (x2.toNatClampNeg) P9 σ x1 ∧ (∀ (u10 : CS), P9 u10 → wC_Tr_receive_27 a q R u10 x1 x2))))))
abbrev wsTr_receive : List Cond := .code yTr_receive cTr_receive 4 none :: wg
abbrev rmC_Tr_receive : Room := { frames := 5, cells := 2, slots := 8, locals := 112 }
set_option maxHeartbeats 4000000 in
set_option maxRecDepth 100000 in
theorem kC_Tr_receive (l : Launch) (D : va_G) (a : Nat → Nat) (A : Nat → Prop) (t : Nat → ClassId) (q : Nat) (σ : CS) (x1 x2 : Int32) (R : CS → Prop) (hwp : wC_Tr_receive a q R σ x1 x2) : Met l yTr_receive wsTr_receive rmC_Tr_receive (va_Pc [.ref (a 19), .int x1, .int x2, .ref q] (uI D clA (cT t) A true (cw a t) σ)) (va_Qv R (uI D clA (cT t) A true (cw a t)) A) 2 8 A := by
  refine Met.ofW (cc := cTr_receive) (maxL := 4) (ret := none) (by decide) rfl ?_
  intro p e s m args below meth c s₁ B hml hv
  obtain ⟨rfl, hP, hK, hD, hA⟩ := hv
  have hx := B.exec
  have hb := B.bytes
  have hr := B.returns
  have hts := atoms_spec (ws := wsTr_receive) B.pre
  have hown : s.vm.findClass RTr = some m.cls := findClass_of_methodNamed B.named
  have hlocks := B.notSynchronized
  have hinMs : ∀ w ∈ u_ws RMs TMs 4, w ∈ wsTr_receive := fun w h => List.mem_cons_of_mem _ (inMs w h)
  have hinTr : ∀ w ∈ u_ws RTr TTr 7, w ∈ wsTr_receive := fun w h => List.mem_cons_of_mem _ (inTr w h)
  have lk20 := hts _ (List.mem_cons_of_mem _ wm_167)
  have lk25 := hts _ (List.mem_cons_of_mem _ wm_168)
  have lk46 := hts _ (List.mem_cons_of_mem _ wm_392)
  have hS : va_S A s.heap s.heap [] := va_S.rf
  have cut27 : ∀ (σ : CS) (y1 : Int32) (y2 : Int32) (H : Heap) (locs : List Loc) (ls : Array Slot), wC_Tr_receive_27 a q R σ y1 y2 → va_P D clA (cw a t σ) H → va_D A (cw a t σ) → va_S A s.heap H locs → lv_has ls 4 [(0, .ref (a 19)), (1, .int y1), (2, .int y2), (3, .ref q)] → W p l e (headSpec wsTr_receive rmC_Tr_receive).room s m ([.ref (a 19), .int x1, .int x2, .ref q] : List Value).toArray below meth c H locs 0 0 (MQ below (va_Qv R (uI D clA (cT t) A true (cw a t)) A) ([.ref (a 19), .int x1, .int x2, .ref q] : List Value).toArray s 2 8 A) (F0 m 27 ls []) := by
    intro σ y1 y2 H locs ls hwp hP hD hS hl
    refine lv_aload_n hx hb dTr_receive_27 rfl (lv_at hl 0 rfl) ?_
    refine lv_iload_n hx hb dTr_receive_28 rfl (lv_at hl 2 rfl) ?_
    obtain ⟨P1, hP1, hwp⟩ := hwp
    refine uCallVv (As := [.int y2]) (rest := []) (C := RTr) ⟨hx, hb, hml, hown, hts⟩ (kC_Tr_goOn l D a A t   σ y2 P1 hP1) (cwV 1 hts (gdV wm_441 wm_443 wp_2 wm_9 wm_444) rfl rfl rfl (by decide +kernel) ⟨Nat.le_of_ble_eq_true rfl, Nat.le_of_ble_eq_true rfl⟩) (va_recv (ci := 8) (q0 := 19) hK hP rfl rfl) hP hK hD hA hS rfl hl.1 rfl (Nat.le_of_ble_eq_true rfl) dTr_receive_29 ⟨Nat.le_of_ble_eq_true rfl, Nat.le_of_ble_eq_true rfl⟩ (fun u2 H locs hu2 hP hD hS => ?_)
    have hwp := hwp u2 hu2
    exact W.vret hx hb hr (fun t ht hW => ⟨⟨u2, rfl, hwp, uEnd ht hW hP hK hD hS hA⟩, hS.F ht⟩) hS.2.2 dTr_receive_32
  have hl := lv_entry ([.ref (a 19), .int x1, .int x2, .ref q]) (n := 4) (Nat.le_of_ble_eq_true rfl)
  rw [lg_entry_eq]
  generalize (lg_sl ([.ref (a 19), .int x1, .int x2, .ref q]) ++ List.replicate (4 - (lg_sl ([.ref (a 19), .int x1, .int x2, .ref q])).length) Slot.unset).toArray = ls at hl ⊢
  have hl : lv_has ls 4 [(0, .ref (a 19)), (1, .int x1), (2, .int x2), (3, .ref q)] := hl
  refine lv_aload_n hx hb dTr_receive_0 rfl (lv_at hl 3 rfl) ?_
  obtain ⟨hm3, hwp⟩ := hwp
  obtain ⟨km4, hkm4⟩ := cw_ms (a := a) (t := t) hm3
  refine va_get (D := D) (ci := 4) (C := RMs) (T := TMs) (N := 4) hx hb hts hinMs hown hK hP km4 hkm4 rfl 1 (by decide) lk46 (fun _ h9 => h9) rfl dTr_receive_1 ?_
  refine lv_if_ne hx hb dTr_receive_4 rfl (fun h5 => ?_) (fun h5 => ?_)
  · have hwp := hwp.1 h5
    refine lv_aload_n hx hb dTr_receive_20 rfl (lv_at hl 0 rfl) ?_
    refine va_get (D := D) (ci := 8) (C := RTr) (T := TTr) (N := 7) hx hb hts hinTr hown hK hP 19 rfl rfl 0 (by decide) lk20 (fun _ h9 => h9) rfl dTr_receive_21 ?_
    refine lv_iload_n hx hb dTr_receive_24 rfl (lv_at hl 2 rfl) ?_
    refine lv_iload_n hx hb dTr_receive_25 rfl (lv_at hl 2 rfl) ?_
    obtain ⟨hi6, hwp⟩ := hwp
    refine va_iast hx hb hK hP hD hS 21 0 rfl rfl hi6 dTr_receive_26 (fun H locs hP hD hS => ?_)
    obtain ⟨σ7, eσ7⟩ : ∃ z, z = cu σ 17 x2.toNatClampNeg x2 := ⟨_, rfl⟩
    have hwp := hwp σ7 eσ7
    have hP : va_P D clA (cw a t σ7) H := by rw [eσ7]; exact hP
    have hD : va_D A (cw a t σ7) := by rw [eσ7]; exact hD
    exact cut27 σ7 x1 x2 _ _ _ hwp hP hD hS (lv_sub hl [0, 1, 2, 3] rfl)
  · have hwp := hwp.2 h5
    refine lv_aload_n hx hb dTr_receive_7 rfl (lv_at hl 0 rfl) ?_
    refine va_get (D := D) (ci := 8) (C := RTr) (T := TTr) (N := 7) hx hb hts hinTr hown hK hP 19 rfl rfl 1 (by decide) lk25 (fun _ h9 => h9) rfl dTr_receive_8 ?_
    refine lv_iload_n hx hb dTr_receive_11 rfl (lv_at hl 2 rfl) ?_
    obtain ⟨hi8, hwp⟩ := hwp
    refine va_aldq hx hb hK hP 22 5 rfl rfl hi8 dTr_receive_12 ?_
    refine W.eq (g2 := F0 m 13 ls [.ref (a (25 + x2.toNatClampNeg))]) rfl ?_
    refine lv_iload_n hx hb dTr_receive_13 rfl (lv_at hl 1 rfl) ?_
    obtain ⟨P9, hP9, hwp⟩ := hwp
    refine uCallVv (As := [.int x1]) (rest := []) (C := RRo) ⟨hx, hb, hml, hown, hts⟩ (kC_Ro_append l D a A t (x2.toNatClampNeg) (fx_lt5 hi8) σ x1 P9 hP9) (cwV 1 hts (gdV wm_437 wm_438 wm_439 wm_8 wm_440) rfl rfl rfl (by decide +kernel) ⟨Nat.le_of_ble_eq_true rfl, Nat.le_of_ble_eq_true rfl⟩) (va_recv (ci := 5) (q0 := (25 + x2.toNatClampNeg)) hK hP rfl (cw_ro (fx_lt5 hi8))) hP hK hD hA hS rfl hl.1 rfl (Nat.le_of_ble_eq_true rfl) dTr_receive_14 ⟨Nat.le_of_ble_eq_true rfl, Nat.le_of_ble_eq_true rfl⟩ (fun u10 H locs hu10 hP hD hS => ?_)
    have hwp := hwp u10 hu10
    refine lv_goto hx hb dTr_receive_17 rfl ?_
    exact cut27 u10 x1 x2 _ _ _ hwp hP hD hS (lv_sub hl [0, 1, 2, 3] rfl)
-- NodeServices$Election: int condition(int), on El
def wC_El_condition (a : Nat → Nat) (R : Int32 → CS → Prop) (σ : CS) (x1 : Int32) : Prop :=
  (vp_in x1 4 ∧ R (σ.1 31 x1.toNatClampNeg) σ)
abbrev wsEl_condition : List Cond := .code yEl_condition cEl_condition 2 (some .int) :: wg
abbrev rmC_El_condition : Room := { frames := 0, cells := 0, slots := 0, locals := 0 }
set_option maxHeartbeats 4000000 in
set_option maxRecDepth 100000 in
theorem kC_El_condition (l : Launch) (D : va_G) (a : Nat → Nat) (A : Nat → Prop) (t : Nat → ClassId) (σ : CS) (x1 : Int32) (R : Int32 → CS → Prop) (hwp : wC_El_condition a R σ x1) : Met l yEl_condition wsEl_condition rmC_El_condition (va_Pc [.ref (a 24), .int x1] (uI D clA (cT t) A true (cw a t) σ)) (va_Qi R (uI D clA (cT t) A true (cw a t)) A) 0 0 A := by
  refine Met.ofW (cc := cEl_condition) (maxL := 2) (ret := (some .int)) (by decide) rfl ?_
  intro p e s m args below meth c s₁ B hml hv
  obtain ⟨rfl, hP, hK, hD, hA⟩ := hv
  have hx := B.exec
  have hb := B.bytes
  have hr := B.returns
  have hts := atoms_spec (ws := wsEl_condition) B.pre
  have hown : s.vm.findClass REl = some m.cls := findClass_of_methodNamed B.named
  have hlocks := B.notSynchronized
  have hinEl : ∀ w ∈ u_ws REl TEl 5, w ∈ wsEl_condition := fun w h => List.mem_cons_of_mem _ (inEl w h)
  have lk19 := hts _ (List.mem_cons_of_mem _ wm_193)
  have hS : va_S A s.heap s.heap [] := va_S.rf
  have hl := lv_entry ([.ref (a 24), .int x1]) (n := 2) (Nat.le_of_ble_eq_true rfl)
  rw [lg_entry_eq]
  generalize (lg_sl ([.ref (a 24), .int x1]) ++ List.replicate (2 - (lg_sl ([.ref (a 24), .int x1])).length) Slot.unset).toArray = ls at hl ⊢
  have hl : lv_has ls 2 [(0, .ref (a 24)), (1, .int x1)] := hl
  refine lv_aload_n hx hb dEl_condition_0 rfl (lv_at hl 0 rfl) ?_
  refine va_get (D := D) (ci := 9) (C := REl) (T := TEl) (N := 5) hx hb hts hinEl hown hK hP 24 rfl rfl 2 (by decide) lk19 (fun _ h9 => h9) rfl dEl_condition_1 ?_
  refine lv_iload_n hx hb dEl_condition_4 rfl (lv_at hl 1 rfl) ?_
  obtain ⟨hi1, hwp⟩ := hwp
  refine va_iald hx hb hK hP 37 0 rfl rfl hi1 dEl_condition_5 ?_
  exact W.iret (v := σ.1 31 x1.toNatClampNeg) hx hb hr (fun t ht hW => ⟨⟨σ.1 31 x1.toNatClampNeg, σ, rfl, hwp, uEnd ht hW hP hK hD hS hA⟩, hS.F ht⟩) hS.2.2 dEl_condition_6
-- NodeServices$Election: int detail(int), on El
def wC_El_detail (a : Nat → Nat) (R : Int32 → CS → Prop) (σ : CS) (x1 : Int32) : Prop :=
  (vp_in x1 4 ∧ ((((σ.1 29 x1.toNatClampNeg) = 0) → (vp_in x1 4 ∧ R (σ.1 30 x1.toNatClampNeg) σ)) ∧ ((¬ (σ.1 29 x1.toNatClampNeg) = 0) → (vp_in x1 4 ∧ R ((σ.1 30 x1.toNatClampNeg) + 1000) σ))))
abbrev wsEl_detail : List Cond := .code yEl_detail cEl_detail 2 (some .int) :: wg
abbrev rmC_El_detail : Room := { frames := 0, cells := 0, slots := 0, locals := 0 }
set_option maxHeartbeats 4000000 in
set_option maxRecDepth 100000 in
theorem kC_El_detail (l : Launch) (D : va_G) (a : Nat → Nat) (A : Nat → Prop) (t : Nat → ClassId) (σ : CS) (x1 : Int32) (R : Int32 → CS → Prop) (hwp : wC_El_detail a R σ x1) : Met l yEl_detail wsEl_detail rmC_El_detail (va_Pc [.ref (a 24), .int x1] (uI D clA (cT t) A true (cw a t) σ)) (va_Qi R (uI D clA (cT t) A true (cw a t)) A) 0 0 A := by
  refine Met.ofW (cc := cEl_detail) (maxL := 2) (ret := (some .int)) (by decide) rfl ?_
  intro p e s m args below meth c s₁ B hml hv
  obtain ⟨rfl, hP, hK, hD, hA⟩ := hv
  have hx := B.exec
  have hb := B.bytes
  have hr := B.returns
  have hts := atoms_spec (ws := wsEl_detail) B.pre
  have hown : s.vm.findClass REl = some m.cls := findClass_of_methodNamed B.named
  have hlocks := B.notSynchronized
  have hinEl : ∀ w ∈ u_ws REl TEl 5, w ∈ wsEl_detail := fun w h => List.mem_cons_of_mem _ (inEl w h)
  have lk15 := hts _ (List.mem_cons_of_mem _ wm_192)
  have lk9 := hts _ (List.mem_cons_of_mem _ wm_190)
  have hS : va_S A s.heap s.heap [] := va_S.rf
  have hl := lv_entry ([.ref (a 24), .int x1]) (n := 2) (Nat.le_of_ble_eq_true rfl)
  rw [lg_entry_eq]
  generalize (lg_sl ([.ref (a 24), .int x1]) ++ List.replicate (2 - (lg_sl ([.ref (a 24), .int x1])).length) Slot.unset).toArray = ls at hl ⊢
  have hl : lv_has ls 2 [(0, .ref (a 24)), (1, .int x1)] := hl
  refine lv_aload_n hx hb dEl_detail_0 rfl (lv_at hl 0 rfl) ?_
  refine va_get (D := D) (ci := 9) (C := REl) (T := TEl) (N := 5) hx hb hts hinEl hown hK hP 24 rfl rfl 0 (by decide) lk9 (fun _ h9 => h9) rfl dEl_detail_1 ?_
  refine lv_iload_n hx hb dEl_detail_4 rfl (lv_at hl 1 rfl) ?_
  obtain ⟨hi1, hwp⟩ := hwp
  refine va_zald hx hb hK hP 35 1 rfl rfl hi1 dEl_detail_5 ?_
  refine lv_if_eq hx hb dEl_detail_6 rfl (fun h2 => ?_) (fun h2 => ?_)
  · have hwp := hwp.1 h2
    refine lv_aload_n hx hb dEl_detail_22 rfl (lv_at hl 0 rfl) ?_
    refine va_get (D := D) (ci := 9) (C := REl) (T := TEl) (N := 5) hx hb hts hinEl hown hK hP 24 rfl rfl 1 (by decide) lk15 (fun _ h9 => h9) rfl dEl_detail_23 ?_
    refine lv_iload_n hx hb dEl_detail_26 rfl (lv_at hl 1 rfl) ?_
    obtain ⟨hi3, hwp⟩ := hwp
    refine va_iald hx hb hK hP 36 0 rfl rfl hi3 dEl_detail_27 ?_
    exact W.iret (v := σ.1 30 x1.toNatClampNeg) hx hb hr (fun t ht hW => ⟨⟨σ.1 30 x1.toNatClampNeg, σ, rfl, hwp, uEnd ht hW hP hK hD hS hA⟩, hS.F ht⟩) hS.2.2 dEl_detail_28
  · have hwp := hwp.2 h2
    refine lv_aload_n hx hb dEl_detail_9 rfl (lv_at hl 0 rfl) ?_
    refine va_get (D := D) (ci := 9) (C := REl) (T := TEl) (N := 5) hx hb hts hinEl hown hK hP 24 rfl rfl 1 (by decide) lk15 (fun _ h9 => h9) rfl dEl_detail_10 ?_
    refine lv_iload_n hx hb dEl_detail_13 rfl (lv_at hl 1 rfl) ?_
    obtain ⟨hi4, hwp⟩ := hwp
    refine va_iald hx hb hK hP 36 0 rfl rfl hi4 dEl_detail_14 ?_
    refine lv_sipush (v := 1000) hx hb dEl_detail_15 (by decide) ?_
    refine lv_iadd hx hb dEl_detail_18 ?_
    refine lv_goto hx hb dEl_detail_19 rfl ?_
    exact W.iret (v := (σ.1 30 x1.toNatClampNeg) + 1000) hx hb hr (fun t ht hW => ⟨⟨(σ.1 30 x1.toNatClampNeg) + 1000, σ, rfl, hwp, uEnd ht hW hP hK hD hS hA⟩, hS.F ht⟩) hS.2.2 dEl_detail_28
-- NodeServices$Election: private void sendOn(int, int, int), on El
def wC_El_sendOn (a : Nat → Nat) (R : CS → Prop) (σ : CS) (x1 x2 x3 : Int32) : Prop :=
  (∃ P1 : CS → Prop, wC_El_send a P1 σ x1 ((x1 + 1) - (x1 + 1) / 4 * 4) x2 x3 ∧ (∀ (u2 : CS), P1 u2 → R u2))
abbrev wsEl_sendOn : List Cond := .code yEl_sendOn cEl_sendOn 4 none :: wg
abbrev rmC_El_sendOn : Room := { frames := 3, cells := 1, slots := 4, locals := 69 }
set_option maxHeartbeats 4000000 in
set_option maxRecDepth 100000 in
theorem kC_El_sendOn (l : Launch) (D : va_G) (a : Nat → Nat) (A : Nat → Prop) (t : Nat → ClassId) (σ : CS) (x1 x2 x3 : Int32) (R : CS → Prop) (hwp : wC_El_sendOn a R σ x1 x2 x3) : Met l yEl_sendOn wsEl_sendOn rmC_El_sendOn (va_Pc [.ref (a 24), .int x1, .int x2, .int x3] (uI D clA (cT t) A true (cw a t) σ)) (va_Qv R (uI D clA (cT t) A true (cw a t)) A) 1 4 A := by
  refine Met.ofW (cc := cEl_sendOn) (maxL := 4) (ret := none) (by decide) rfl ?_
  intro p e s m args below meth c s₁ B hml hv
  obtain ⟨rfl, hP, hK, hD, hA⟩ := hv
  have hx := B.exec
  have hb := B.bytes
  have hr := B.returns
  have hts := atoms_spec (ws := wsEl_sendOn) B.pre
  have hown : s.vm.findClass REl = some m.cls := findClass_of_methodNamed B.named
  have hlocks := B.notSynchronized
  have hS : va_S A s.heap s.heap [] := va_S.rf
  have hl := lv_entry ([.ref (a 24), .int x1, .int x2, .int x3]) (n := 4) (Nat.le_of_ble_eq_true rfl)
  rw [lg_entry_eq]
  generalize (lg_sl ([.ref (a 24), .int x1, .int x2, .int x3]) ++ List.replicate (4 - (lg_sl ([.ref (a 24), .int x1, .int x2, .int x3])).length) Slot.unset).toArray = ls at hl ⊢
  have hl : lv_has ls 4 [(0, .ref (a 24)), (1, .int x1), (2, .int x2), (3, .int x3)] := hl
  refine lv_aload_n hx hb dEl_sendOn_0 rfl (lv_at hl 0 rfl) ?_
  refine lv_iload_n hx hb dEl_sendOn_1 rfl (lv_at hl 1 rfl) ?_
  refine lv_iload_n hx hb dEl_sendOn_2 rfl (lv_at hl 1 rfl) ?_
  refine lv_iconst (v := 1) hx hb dEl_sendOn_3 (by decide) ?_
  refine lv_iadd hx hb dEl_sendOn_4 ?_
  refine lv_iconst (v := 4) hx hb dEl_sendOn_5 (by decide) ?_
  refine lv_irem hx hb dEl_sendOn_6 (by decide) ?_
  refine lv_iload_n hx hb dEl_sendOn_7 rfl (lv_at hl 2 rfl) ?_
  refine lv_iload_n hx hb dEl_sendOn_8 rfl (lv_at hl 3 rfl) ?_
  obtain ⟨P1, hP1, hwp⟩ := hwp
  refine uCallUv (As := [.int x1, .int ((x1 + 1) - (x1 + 1) / 4 * 4), .int x2, .int x3]) (rest := []) (C := REl) ⟨hx, hb, hml, hown, hts⟩ (kC_El_send l D a A t   σ x1 ((x1 + 1) - (x1 + 1) / 4 * 4) x2 x3 P1 hP1) (va_cwU (x := ⟨"NodeServices$Election", "send", "(IIII)V"⟩) (owner := "NodeServices$Service") 4 hts (gdU wm_521 wm_522 wm_523 wm_372 wm_4 wm_379) rfl rfl rfl rfl (by decide +kernel) ⟨Nat.le_of_ble_eq_true rfl, Nat.le_of_ble_eq_true rfl⟩) (va_recv (ci := 9) (q0 := 24) hK hP rfl rfl) hP hK hD hA hS rfl hl.1 rfl (Nat.le_of_ble_eq_true rfl) dEl_sendOn_9 ⟨Nat.le_of_ble_eq_true rfl, Nat.le_of_ble_eq_true rfl⟩ (fun u2 H locs hu2 hP hD hS => ?_)
  have hwp := hwp u2 hu2
  exact W.vret hx hb hr (fun t ht hW => ⟨⟨u2, rfl, hwp, uEnd ht hW hP hK hD hS hA⟩, hS.F ht⟩) hS.2.2 dEl_sendOn_12
-- NodeServices$Election: void stand(int), on El
def wC_El_stand (a : Nat → Nat) (R : CS → Prop) (σ : CS) (x1 : Int32) : Prop :=
  (vp_in x1 4 ∧ (∀ σ2 : CS, σ2 = cu σ 29 x1.toNatClampNeg (vp_nar .boolean 1) → (vp_in x1 4 ∧ (∃ P4 : CS → Prop, wC_El_sendOn a P4 σ2 x1 0 (σ2.1 30 x1.toNatClampNeg) ∧ (∀ (u5 : CS), P4 u5 → R u5)))))
abbrev wsEl_stand : List Cond := .code yEl_stand cEl_stand 2 none :: wg
abbrev rmC_El_stand : Room := { frames := 4, cells := 1, slots := 4, locals := 92 }
set_option maxHeartbeats 4000000 in
set_option maxRecDepth 100000 in
theorem kC_El_stand (l : Launch) (D : va_G) (a : Nat → Nat) (A : Nat → Prop) (t : Nat → ClassId) (σ : CS) (x1 : Int32) (R : CS → Prop) (hwp : wC_El_stand a R σ x1) : Met l yEl_stand wsEl_stand rmC_El_stand (va_Pc [.ref (a 24), .int x1] (uI D clA (cT t) A true (cw a t) σ)) (va_Qv R (uI D clA (cT t) A true (cw a t)) A) 1 4 A := by
  refine Met.ofW (cc := cEl_stand) (maxL := 2) (ret := none) (by decide) rfl ?_
  intro p e s m args below meth c s₁ B hml hv
  obtain ⟨rfl, hP, hK, hD, hA⟩ := hv
  have hx := B.exec
  have hb := B.bytes
  have hr := B.returns
  have hts := atoms_spec (ws := wsEl_stand) B.pre
  have hown : s.vm.findClass REl = some m.cls := findClass_of_methodNamed B.named
  have hlocks := B.notSynchronized
  have hinEl : ∀ w ∈ u_ws REl TEl 5, w ∈ wsEl_stand := fun w h => List.mem_cons_of_mem _ (inEl w h)
  have lk15 := hts _ (List.mem_cons_of_mem _ wm_192)
  have lk9 := hts _ (List.mem_cons_of_mem _ wm_190)
  have hS : va_S A s.heap s.heap [] := va_S.rf
  have hl := lv_entry ([.ref (a 24), .int x1]) (n := 2) (Nat.le_of_ble_eq_true rfl)
  rw [lg_entry_eq]
  generalize (lg_sl ([.ref (a 24), .int x1]) ++ List.replicate (2 - (lg_sl ([.ref (a 24), .int x1])).length) Slot.unset).toArray = ls at hl ⊢
  have hl : lv_has ls 2 [(0, .ref (a 24)), (1, .int x1)] := hl
  refine lv_aload_n hx hb dEl_stand_0 rfl (lv_at hl 0 rfl) ?_
  refine va_get (D := D) (ci := 9) (C := REl) (T := TEl) (N := 5) hx hb hts hinEl hown hK hP 24 rfl rfl 0 (by decide) lk9 (fun _ h9 => h9) rfl dEl_stand_1 ?_
  refine lv_iload_n hx hb dEl_stand_4 rfl (lv_at hl 1 rfl) ?_
  refine lv_iconst (v := 1) hx hb dEl_stand_5 (by decide) ?_
  obtain ⟨hi1, hwp⟩ := hwp
  refine va_zast hx hb hK hP hD hS 35 1 rfl rfl hi1 dEl_stand_6 (fun H locs hP hD hS => ?_)
  obtain ⟨σ2, eσ2⟩ : ∃ z, z = cu σ 29 x1.toNatClampNeg (vp_nar .boolean 1) := ⟨_, rfl⟩
  have hwp := hwp σ2 eσ2
  have hP : va_P D clA (cw a t σ2) H := by rw [eσ2]; exact hP
  have hD : va_D A (cw a t σ2) := by rw [eσ2]; exact hD
  refine lv_aload_n hx hb dEl_stand_7 rfl (lv_at hl 0 rfl) ?_
  refine lv_iload_n hx hb dEl_stand_8 rfl (lv_at hl 1 rfl) ?_
  refine lv_iconst (v := 0) hx hb dEl_stand_9 (by decide) ?_
  refine lv_aload_n hx hb dEl_stand_10 rfl (lv_at hl 0 rfl) ?_
  refine va_get (D := D) (ci := 9) (C := REl) (T := TEl) (N := 5) hx hb hts hinEl hown hK hP 24 rfl rfl 1 (by decide) lk15 (fun _ h9 => h9) rfl dEl_stand_11 ?_
  refine lv_iload_n hx hb dEl_stand_14 rfl (lv_at hl 1 rfl) ?_
  obtain ⟨hi3, hwp⟩ := hwp
  refine va_iald hx hb hK hP 36 0 rfl rfl hi3 dEl_stand_15 ?_
  obtain ⟨P4, hP4, hwp⟩ := hwp
  refine uCallVv (As := [.int x1, .int 0, .int (σ2.1 30 x1.toNatClampNeg)]) (rest := []) (C := REl) ⟨hx, hb, hml, hown, hts⟩ (kC_El_sendOn l D a A t   σ2 x1 0 (σ2.1 30 x1.toNatClampNeg) P4 hP4) (cwV 3 hts (gdV wm_517 wm_519 wp_6 wm_10 wm_520) rfl rfl rfl (by decide +kernel) ⟨Nat.le_of_ble_eq_true rfl, Nat.le_of_ble_eq_true rfl⟩) (va_recv (ci := 9) (q0 := 24) hK hP rfl rfl) hP hK hD hA hS rfl hl.1 rfl (Nat.le_of_ble_eq_true rfl) dEl_stand_16 ⟨Nat.le_of_ble_eq_true rfl, Nat.le_of_ble_eq_true rfl⟩ (fun u5 H locs hu5 hP hD hS => ?_)
  have hwp := hwp u5 hu5
  exact W.vret hx hb hr (fun t ht hW => ⟨⟨u5, rfl, hwp, uEnd ht hW hP hK hD hS hA⟩, hS.F ht⟩) hS.2.2 dEl_stand_19
-- NodeServices$Election: private void takeElect(int, int), on El
def wC_El_takeElect (a : Nat → Nat) (R : CS → Prop) (σ : CS) (x1 x2 : Int32) : Prop :=
  (vp_in x1 4 ∧ (((x2 ≤ (σ.1 30 x1.toNatClampNeg)) → (vp_in x1 4 ∧ (((¬ x2 = (σ.1 30 x1.toNatClampNeg)) → (vp_in x1 4 ∧ (((¬ (σ.1 29 x1.toNatClampNeg) = 0) → R σ) ∧ (((σ.1 29 x1.toNatClampNeg) = 0) → (∃ P7 : CS → Prop, wC_El_stand a P7 σ x1 ∧ (∀ (u8 : CS), P7 u8 → R u8)))))) ∧ ((x2 = (σ.1 30 x1.toNatClampNeg)) → (vp_in x1 4 ∧ (∀ σ10 : CS, σ10 = cu σ 29 x1.toNatClampNeg (vp_nar .boolean 0) → (vp_in x1 4 ∧ (∀ σ12 : CS, σ12 = cu σ10 31 x1.toNatClampNeg x2 → (∃ P13 : CS → Prop, wC_El_sendOn a P13 σ12 x1 1 x2 ∧ (∀ (u14 : CS), P13 u14 → R u14)))))))))) ∧ ((¬ x2 ≤ (σ.1 30 x1.toNatClampNeg)) → (vp_in x1 4 ∧ (∀ σ16 : CS, σ16 = cu σ 29 x1.toNatClampNeg (vp_nar .boolean 1) → (∃ P17 : CS → Prop, wC_El_sendOn a P17 σ16 x1 0 x2 ∧ (∀ (u18 : CS), P17 u18 → R u18)))))))
abbrev wsEl_takeElect : List Cond := .code yEl_takeElect cEl_takeElect 3 none :: wg
abbrev rmC_El_takeElect : Room := { frames := 5, cells := 1, slots := 4, locals := 113 }
set_option maxHeartbeats 4000000 in
set_option maxRecDepth 100000 in
theorem kC_El_takeElect (l : Launch) (D : va_G) (a : Nat → Nat) (A : Nat → Prop) (t : Nat → ClassId) (σ : CS) (x1 x2 : Int32) (R : CS → Prop) (hwp : wC_El_takeElect a R σ x1 x2) : Met l yEl_takeElect wsEl_takeElect rmC_El_takeElect (va_Pc [.ref (a 24), .int x1, .int x2] (uI D clA (cT t) A true (cw a t) σ)) (va_Qv R (uI D clA (cT t) A true (cw a t)) A) 1 4 A := by
  refine Met.ofW (cc := cEl_takeElect) (maxL := 3) (ret := none) (by decide) rfl ?_
  intro p e s m args below meth c s₁ B hml hv
  obtain ⟨rfl, hP, hK, hD, hA⟩ := hv
  have hx := B.exec
  have hb := B.bytes
  have hr := B.returns
  have hts := atoms_spec (ws := wsEl_takeElect) B.pre
  have hown : s.vm.findClass REl = some m.cls := findClass_of_methodNamed B.named
  have hlocks := B.notSynchronized
  have hinEl : ∀ w ∈ u_ws REl TEl 5, w ∈ wsEl_takeElect := fun w h => List.mem_cons_of_mem _ (inEl w h)
  have lk15 := hts _ (List.mem_cons_of_mem _ wm_192)
  have lk19 := hts _ (List.mem_cons_of_mem _ wm_193)
  have lk9 := hts _ (List.mem_cons_of_mem _ wm_190)
  have hS : va_S A s.heap s.heap [] := va_S.rf
  have hl := lv_entry ([.ref (a 24), .int x1, .int x2]) (n := 3) (Nat.le_of_ble_eq_true rfl)
  rw [lg_entry_eq]
  generalize (lg_sl ([.ref (a 24), .int x1, .int x2]) ++ List.replicate (3 - (lg_sl ([.ref (a 24), .int x1, .int x2])).length) Slot.unset).toArray = ls at hl ⊢
  have hl : lv_has ls 3 [(0, .ref (a 24)), (1, .int x1), (2, .int x2)] := hl
  refine lv_iload_n hx hb dEl_takeElect_0 rfl (lv_at hl 2 rfl) ?_
  refine lv_aload_n hx hb dEl_takeElect_1 rfl (lv_at hl 0 rfl) ?_
  refine va_get (D := D) (ci := 9) (C := REl) (T := TEl) (N := 5) hx hb hts hinEl hown hK hP 24 rfl rfl 1 (by decide) lk15 (fun _ h9 => h9) rfl dEl_takeElect_2 ?_
  refine lv_iload_n hx hb dEl_takeElect_5 rfl (lv_at hl 1 rfl) ?_
  obtain ⟨hi1, hwp⟩ := hwp
  refine va_iald hx hb hK hP 36 0 rfl rfl hi1 dEl_takeElect_6 ?_
  refine lv_icmp_le hx hb dEl_takeElect_7 rfl (fun h2 => ?_) (fun h2 => ?_)
  · have hwp := hwp.1 h2
    refine lv_iload_n hx hb dEl_takeElect_27 rfl (lv_at hl 2 rfl) ?_
    refine lv_aload_n hx hb dEl_takeElect_28 rfl (lv_at hl 0 rfl) ?_
    refine va_get (D := D) (ci := 9) (C := REl) (T := TEl) (N := 5) hx hb hts hinEl hown hK hP 24 rfl rfl 1 (by decide) lk15 (fun _ h9 => h9) rfl dEl_takeElect_29 ?_
    refine lv_iload_n hx hb dEl_takeElect_32 rfl (lv_at hl 1 rfl) ?_
    obtain ⟨hi3, hwp⟩ := hwp
    refine va_iald hx hb hK hP 36 0 rfl rfl hi3 dEl_takeElect_33 ?_
    refine lv_icmp_ne hx hb dEl_takeElect_34 rfl (fun h4 => ?_) (fun h4 => ?_)
    · have hwp := hwp.1 h4
      refine lv_aload_n hx hb dEl_takeElect_61 rfl (lv_at hl 0 rfl) ?_
      refine va_get (D := D) (ci := 9) (C := REl) (T := TEl) (N := 5) hx hb hts hinEl hown hK hP 24 rfl rfl 0 (by decide) lk9 (fun _ h9 => h9) rfl dEl_takeElect_62 ?_
      refine lv_iload_n hx hb dEl_takeElect_65 rfl (lv_at hl 1 rfl) ?_
      obtain ⟨hi5, hwp⟩ := hwp
      refine va_zald hx hb hK hP 35 1 rfl rfl hi5 dEl_takeElect_66 ?_
      refine lv_if_ne hx hb dEl_takeElect_67 rfl (fun h6 => ?_) (fun h6 => ?_)
      · have hwp := hwp.1 h6
        refine W.widen (k := 1) (n := 4) (by omega) (by omega) ?_
        exact W.vret hx hb hr (fun t ht hW => ⟨⟨σ, rfl, hwp, uEnd ht hW hP hK hD hS hA⟩, hS.F ht⟩) hS.2.2 dEl_takeElect_75
      · have hwp := hwp.2 h6
        refine lv_aload_n hx hb dEl_takeElect_70 rfl (lv_at hl 0 rfl) ?_
        refine lv_iload_n hx hb dEl_takeElect_71 rfl (lv_at hl 1 rfl) ?_
        obtain ⟨P7, hP7, hwp⟩ := hwp
        refine uCallVv (As := [.int x1]) (rest := []) (C := REl) ⟨hx, hb, hml, hown, hts⟩ (kC_El_stand l D a A t   σ x1 P7 hP7) (cwV 1 hts (gdV wm_622 wm_514 wm_515 wm_10 wm_516) rfl rfl rfl (by decide +kernel) ⟨Nat.le_of_ble_eq_true rfl, Nat.le_of_ble_eq_true rfl⟩) (va_recv (ci := 9) (q0 := 24) hK hP rfl rfl) hP hK hD hA hS rfl hl.1 rfl (Nat.le_of_ble_eq_true rfl) dEl_takeElect_72 ⟨Nat.le_of_ble_eq_true rfl, Nat.le_of_ble_eq_true rfl⟩ (fun u8 H locs hu8 hP hD hS => ?_)
        have hwp := hwp u8 hu8
        exact W.vret hx hb hr (fun t ht hW => ⟨⟨u8, rfl, hwp, uEnd ht hW hP hK hD hS hA⟩, hS.F ht⟩) hS.2.2 dEl_takeElect_75
    · have hwp := hwp.2 h4
      refine lv_aload_n hx hb dEl_takeElect_37 rfl (lv_at hl 0 rfl) ?_
      refine va_get (D := D) (ci := 9) (C := REl) (T := TEl) (N := 5) hx hb hts hinEl hown hK hP 24 rfl rfl 0 (by decide) lk9 (fun _ h9 => h9) rfl dEl_takeElect_38 ?_
      refine lv_iload_n hx hb dEl_takeElect_41 rfl (lv_at hl 1 rfl) ?_
      refine lv_iconst (v := 0) hx hb dEl_takeElect_42 (by decide) ?_
      obtain ⟨hi9, hwp⟩ := hwp
      refine va_zast hx hb hK hP hD hS 35 1 rfl rfl hi9 dEl_takeElect_43 (fun H locs hP hD hS => ?_)
      obtain ⟨σ10, eσ10⟩ : ∃ z, z = cu σ 29 x1.toNatClampNeg (vp_nar .boolean 0) := ⟨_, rfl⟩
      have hwp := hwp σ10 eσ10
      have hP : va_P D clA (cw a t σ10) H := by rw [eσ10]; exact hP
      have hD : va_D A (cw a t σ10) := by rw [eσ10]; exact hD
      refine lv_aload_n hx hb dEl_takeElect_44 rfl (lv_at hl 0 rfl) ?_
      refine va_get (D := D) (ci := 9) (C := REl) (T := TEl) (N := 5) hx hb hts hinEl hown hK hP 24 rfl rfl 2 (by decide) lk19 (fun _ h9 => h9) rfl dEl_takeElect_45 ?_
      refine lv_iload_n hx hb dEl_takeElect_48 rfl (lv_at hl 1 rfl) ?_
      refine lv_iload_n hx hb dEl_takeElect_49 rfl (lv_at hl 2 rfl) ?_
      obtain ⟨hi11, hwp⟩ := hwp
      refine va_iast hx hb hK hP hD hS 37 0 rfl rfl hi11 dEl_takeElect_50 (fun H locs hP hD hS => ?_)
      obtain ⟨σ12, eσ12⟩ : ∃ z, z = cu σ10 31 x1.toNatClampNeg x2 := ⟨_, rfl⟩
      have hwp := hwp σ12 eσ12
      have hP : va_P D clA (cw a t σ12) H := by rw [eσ12]; exact hP
      have hD : va_D A (cw a t σ12) := by rw [eσ12]; exact hD
      refine lv_aload_n hx hb dEl_takeElect_51 rfl (lv_at hl 0 rfl) ?_
      refine lv_iload_n hx hb dEl_takeElect_52 rfl (lv_at hl 1 rfl) ?_
      refine lv_iconst (v := 1) hx hb dEl_takeElect_53 (by decide) ?_
      refine lv_iload_n hx hb dEl_takeElect_54 rfl (lv_at hl 2 rfl) ?_
      obtain ⟨P13, hP13, hwp⟩ := hwp
      refine uCallVv (As := [.int x1, .int 1, .int x2]) (rest := []) (C := REl) ⟨hx, hb, hml, hown, hts⟩ (kC_El_sendOn l D a A t   σ12 x1 1 x2 P13 hP13) (cwV 3 hts (gdV wm_517 wm_519 wp_6 wm_10 wm_520) rfl rfl rfl (by decide +kernel) ⟨Nat.le_of_ble_eq_true rfl, Nat.le_of_ble_eq_true rfl⟩) (va_recv (ci := 9) (q0 := 24) hK hP rfl rfl) hP hK hD hA hS rfl hl.1 rfl (Nat.le_of_ble_eq_true rfl) dEl_takeElect_55 ⟨Nat.le_of_ble_eq_true rfl, Nat.le_of_ble_eq_true rfl⟩ (fun u14 H locs hu14 hP hD hS => ?_)
      have hwp := hwp u14 hu14
      refine lv_goto hx hb dEl_takeElect_58 rfl ?_
      exact W.vret hx hb hr (fun t ht hW => ⟨⟨u14, rfl, hwp, uEnd ht hW hP hK hD hS hA⟩, hS.F ht⟩) hS.2.2 dEl_takeElect_75
  · have hwp := hwp.2 h2
    refine lv_aload_n hx hb dEl_takeElect_10 rfl (lv_at hl 0 rfl) ?_
    refine va_get (D := D) (ci := 9) (C := REl) (T := TEl) (N := 5) hx hb hts hinEl hown hK hP 24 rfl rfl 0 (by decide) lk9 (fun _ h9 => h9) rfl dEl_takeElect_11 ?_
    refine lv_iload_n hx hb dEl_takeElect_14 rfl (lv_at hl 1 rfl) ?_
    refine lv_iconst (v := 1) hx hb dEl_takeElect_15 (by decide) ?_
    obtain ⟨hi15, hwp⟩ := hwp
    refine va_zast hx hb hK hP hD hS 35 1 rfl rfl hi15 dEl_takeElect_16 (fun H locs hP hD hS => ?_)
    obtain ⟨σ16, eσ16⟩ : ∃ z, z = cu σ 29 x1.toNatClampNeg (vp_nar .boolean 1) := ⟨_, rfl⟩
    have hwp := hwp σ16 eσ16
    have hP : va_P D clA (cw a t σ16) H := by rw [eσ16]; exact hP
    have hD : va_D A (cw a t σ16) := by rw [eσ16]; exact hD
    refine lv_aload_n hx hb dEl_takeElect_17 rfl (lv_at hl 0 rfl) ?_
    refine lv_iload_n hx hb dEl_takeElect_18 rfl (lv_at hl 1 rfl) ?_
    refine lv_iconst (v := 0) hx hb dEl_takeElect_19 (by decide) ?_
    refine lv_iload_n hx hb dEl_takeElect_20 rfl (lv_at hl 2 rfl) ?_
    obtain ⟨P17, hP17, hwp⟩ := hwp
    refine uCallVv (As := [.int x1, .int 0, .int x2]) (rest := []) (C := REl) ⟨hx, hb, hml, hown, hts⟩ (kC_El_sendOn l D a A t   σ16 x1 0 x2 P17 hP17) (cwV 3 hts (gdV wm_517 wm_519 wp_6 wm_10 wm_520) rfl rfl rfl (by decide +kernel) ⟨Nat.le_of_ble_eq_true rfl, Nat.le_of_ble_eq_true rfl⟩) (va_recv (ci := 9) (q0 := 24) hK hP rfl rfl) hP hK hD hA hS rfl hl.1 rfl (Nat.le_of_ble_eq_true rfl) dEl_takeElect_21 ⟨Nat.le_of_ble_eq_true rfl, Nat.le_of_ble_eq_true rfl⟩ (fun u18 H locs hu18 hP hD hS => ?_)
    have hwp := hwp u18 hu18
    refine lv_goto hx hb dEl_takeElect_24 rfl ?_
    exact W.vret hx hb hr (fun t ht hW => ⟨⟨u18, rfl, hwp, uEnd ht hW hP hK hD hS hA⟩, hS.F ht⟩) hS.2.2 dEl_takeElect_75
-- NodeServices$Election: private void takeLeader(int, int), on El
def wC_El_takeLeader (a : Nat → Nat) (R : CS → Prop) (σ : CS) (x1 x2 : Int32) : Prop :=
  (vp_in x1 4 ∧ (((x2 = (σ.1 30 x1.toNatClampNeg)) → R σ) ∧ ((¬ x2 = (σ.1 30 x1.toNatClampNeg)) → (vp_in x1 4 ∧ (∀ σ4 : CS, σ4 = cu σ 31 x1.toNatClampNeg x2 → (vp_in x1 4 ∧ (∀ σ6 : CS, σ6 = cu σ4 29 x1.toNatClampNeg (vp_nar .boolean 0) → (∃ P7 : CS → Prop, wC_El_sendOn a P7 σ6 x1 1 x2 ∧ (∀ (u8 : CS), P7 u8 → R u8)))))))))
abbrev wsEl_takeLeader : List Cond := .code yEl_takeLeader cEl_takeLeader 3 none :: wg
abbrev rmC_El_takeLeader : Room := { frames := 4, cells := 1, slots := 4, locals := 92 }
set_option maxHeartbeats 4000000 in
set_option maxRecDepth 100000 in
theorem kC_El_takeLeader (l : Launch) (D : va_G) (a : Nat → Nat) (A : Nat → Prop) (t : Nat → ClassId) (σ : CS) (x1 x2 : Int32) (R : CS → Prop) (hwp : wC_El_takeLeader a R σ x1 x2) : Met l yEl_takeLeader wsEl_takeLeader rmC_El_takeLeader (va_Pc [.ref (a 24), .int x1, .int x2] (uI D clA (cT t) A true (cw a t) σ)) (va_Qv R (uI D clA (cT t) A true (cw a t)) A) 1 4 A := by
  refine Met.ofW (cc := cEl_takeLeader) (maxL := 3) (ret := none) (by decide) rfl ?_
  intro p e s m args below meth c s₁ B hml hv
  obtain ⟨rfl, hP, hK, hD, hA⟩ := hv
  have hx := B.exec
  have hb := B.bytes
  have hr := B.returns
  have hts := atoms_spec (ws := wsEl_takeLeader) B.pre
  have hown : s.vm.findClass REl = some m.cls := findClass_of_methodNamed B.named
  have hlocks := B.notSynchronized
  have hinEl : ∀ w ∈ u_ws REl TEl 5, w ∈ wsEl_takeLeader := fun w h => List.mem_cons_of_mem _ (inEl w h)
  have lk15 := hts _ (List.mem_cons_of_mem _ wm_192)
  have lk19 := hts _ (List.mem_cons_of_mem _ wm_193)
  have lk9 := hts _ (List.mem_cons_of_mem _ wm_190)
  have hS : va_S A s.heap s.heap [] := va_S.rf
  have hl := lv_entry ([.ref (a 24), .int x1, .int x2]) (n := 3) (Nat.le_of_ble_eq_true rfl)
  rw [lg_entry_eq]
  generalize (lg_sl ([.ref (a 24), .int x1, .int x2]) ++ List.replicate (3 - (lg_sl ([.ref (a 24), .int x1, .int x2])).length) Slot.unset).toArray = ls at hl ⊢
  have hl : lv_has ls 3 [(0, .ref (a 24)), (1, .int x1), (2, .int x2)] := hl
  refine lv_iload_n hx hb dEl_takeLeader_0 rfl (lv_at hl 2 rfl) ?_
  refine lv_aload_n hx hb dEl_takeLeader_1 rfl (lv_at hl 0 rfl) ?_
  refine va_get (D := D) (ci := 9) (C := REl) (T := TEl) (N := 5) hx hb hts hinEl hown hK hP 24 rfl rfl 1 (by decide) lk15 (fun _ h9 => h9) rfl dEl_takeLeader_2 ?_
  refine lv_iload_n hx hb dEl_takeLeader_5 rfl (lv_at hl 1 rfl) ?_
  obtain ⟨hi1, hwp⟩ := hwp
  refine va_iald hx hb hK hP 36 0 rfl rfl hi1 dEl_takeLeader_6 ?_
  refine lv_icmp_eq hx hb dEl_takeLeader_7 rfl (fun h2 => ?_) (fun h2 => ?_)
  · have hwp := hwp.1 h2
    refine W.widen (k := 1) (n := 4) (by omega) (by omega) ?_
    exact W.vret hx hb hr (fun t ht hW => ⟨⟨σ, rfl, hwp, uEnd ht hW hP hK hD hS hA⟩, hS.F ht⟩) hS.2.2 dEl_takeLeader_31
  · have hwp := hwp.2 h2
    refine lv_aload_n hx hb dEl_takeLeader_10 rfl (lv_at hl 0 rfl) ?_
    refine va_get (D := D) (ci := 9) (C := REl) (T := TEl) (N := 5) hx hb hts hinEl hown hK hP 24 rfl rfl 2 (by decide) lk19 (fun _ h9 => h9) rfl dEl_takeLeader_11 ?_
    refine lv_iload_n hx hb dEl_takeLeader_14 rfl (lv_at hl 1 rfl) ?_
    refine lv_iload_n hx hb dEl_takeLeader_15 rfl (lv_at hl 2 rfl) ?_
    obtain ⟨hi3, hwp⟩ := hwp
    refine va_iast hx hb hK hP hD hS 37 0 rfl rfl hi3 dEl_takeLeader_16 (fun H locs hP hD hS => ?_)
    obtain ⟨σ4, eσ4⟩ : ∃ z, z = cu σ 31 x1.toNatClampNeg x2 := ⟨_, rfl⟩
    have hwp := hwp σ4 eσ4
    have hP : va_P D clA (cw a t σ4) H := by rw [eσ4]; exact hP
    have hD : va_D A (cw a t σ4) := by rw [eσ4]; exact hD
    refine lv_aload_n hx hb dEl_takeLeader_17 rfl (lv_at hl 0 rfl) ?_
    refine va_get (D := D) (ci := 9) (C := REl) (T := TEl) (N := 5) hx hb hts hinEl hown hK hP 24 rfl rfl 0 (by decide) lk9 (fun _ h9 => h9) rfl dEl_takeLeader_18 ?_
    refine lv_iload_n hx hb dEl_takeLeader_21 rfl (lv_at hl 1 rfl) ?_
    refine lv_iconst (v := 0) hx hb dEl_takeLeader_22 (by decide) ?_
    obtain ⟨hi5, hwp⟩ := hwp
    refine va_zast hx hb hK hP hD hS 35 1 rfl rfl hi5 dEl_takeLeader_23 (fun H locs hP hD hS => ?_)
    obtain ⟨σ6, eσ6⟩ : ∃ z, z = cu σ4 29 x1.toNatClampNeg (vp_nar .boolean 0) := ⟨_, rfl⟩
    have hwp := hwp σ6 eσ6
    have hP : va_P D clA (cw a t σ6) H := by rw [eσ6]; exact hP
    have hD : va_D A (cw a t σ6) := by rw [eσ6]; exact hD
    refine lv_aload_n hx hb dEl_takeLeader_24 rfl (lv_at hl 0 rfl) ?_
    refine lv_iload_n hx hb dEl_takeLeader_25 rfl (lv_at hl 1 rfl) ?_
    refine lv_iconst (v := 1) hx hb dEl_takeLeader_26 (by decide) ?_
    refine lv_iload_n hx hb dEl_takeLeader_27 rfl (lv_at hl 2 rfl) ?_
    obtain ⟨P7, hP7, hwp⟩ := hwp
    refine uCallVv (As := [.int x1, .int 1, .int x2]) (rest := []) (C := REl) ⟨hx, hb, hml, hown, hts⟩ (kC_El_sendOn l D a A t   σ6 x1 1 x2 P7 hP7) (cwV 3 hts (gdV wm_517 wm_519 wp_6 wm_10 wm_520) rfl rfl rfl (by decide +kernel) ⟨Nat.le_of_ble_eq_true rfl, Nat.le_of_ble_eq_true rfl⟩) (va_recv (ci := 9) (q0 := 24) hK hP rfl rfl) hP hK hD hA hS rfl hl.1 rfl (Nat.le_of_ble_eq_true rfl) dEl_takeLeader_28 ⟨Nat.le_of_ble_eq_true rfl, Nat.le_of_ble_eq_true rfl⟩ (fun u8 H locs hu8 hP hD hS => ?_)
    have hwp := hwp u8 hu8
    exact W.vret hx hb hr (fun t ht hW => ⟨⟨u8, rfl, hwp, uEnd ht hW hP hK hD hS hA⟩, hS.F ht⟩) hS.2.2 dEl_takeLeader_31
-- NodeServices$Election: void receive(int, int, NodeServices$Message), on El
def wC_El_receive (a : Nat → Nat) (q : Nat) (R : CS → Prop) (σ : CS) (x1 x2 : Int32) : Prop :=
  (q ∈ σ.2.2 ∧ (((¬ (σ.1 42 q) = 0) → (q ∈ σ.2.2 ∧ (∃ P6 : CS → Prop, wC_El_takeLeader a P6 σ x2 (σ.1 43 q) ∧ (∀ (u7 : CS), P6 u7 → R u7)))) ∧ (((σ.1 42 q) = 0) → (q ∈ σ.2.2 ∧ (∃ P10 : CS → Prop, wC_El_takeElect a P10 σ x2 (σ.1 43 q) ∧ (∀ (u11 : CS), P10 u11 → R u11))))))
abbrev wsEl_receive : List Cond := .code yEl_receive cEl_receive 4 none :: wg
abbrev rmC_El_receive : Room := { frames := 6, cells := 1, slots := 4, locals := 135 }
set_option maxHeartbeats 4000000 in
set_option maxRecDepth 100000 in
theorem kC_El_receive (l : Launch) (D : va_G) (a : Nat → Nat) (A : Nat → Prop) (t : Nat → ClassId) (q : Nat) (σ : CS) (x1 x2 : Int32) (R : CS → Prop) (hwp : wC_El_receive a q R σ x1 x2) : Met l yEl_receive wsEl_receive rmC_El_receive (va_Pc [.ref (a 24), .int x1, .int x2, .ref q] (uI D clA (cT t) A true (cw a t) σ)) (va_Qv R (uI D clA (cT t) A true (cw a t)) A) 1 4 A := by
  refine Met.ofW (cc := cEl_receive) (maxL := 4) (ret := none) (by decide) rfl ?_
  intro p e s m args below meth c s₁ B hml hv
  obtain ⟨rfl, hP, hK, hD, hA⟩ := hv
  have hx := B.exec
  have hb := B.bytes
  have hr := B.returns
  have hts := atoms_spec (ws := wsEl_receive) B.pre
  have hown : s.vm.findClass REl = some m.cls := findClass_of_methodNamed B.named
  have hlocks := B.notSynchronized
  have hinMs : ∀ w ∈ u_ws RMs TMs 4, w ∈ wsEl_receive := fun w h => List.mem_cons_of_mem _ (inMs w h)
  have lk32 := hts _ (List.mem_cons_of_mem _ wm_389)
  have lk38 := hts _ (List.mem_cons_of_mem _ wm_396)
  have hS : va_S A s.heap s.heap [] := va_S.rf
  have hl := lv_entry ([.ref (a 24), .int x1, .int x2, .ref q]) (n := 4) (Nat.le_of_ble_eq_true rfl)
  rw [lg_entry_eq]
  generalize (lg_sl ([.ref (a 24), .int x1, .int x2, .ref q]) ++ List.replicate (4 - (lg_sl ([.ref (a 24), .int x1, .int x2, .ref q])).length) Slot.unset).toArray = ls at hl ⊢
  have hl : lv_has ls 4 [(0, .ref (a 24)), (1, .int x1), (2, .int x2), (3, .ref q)] := hl
  refine lv_aload_n hx hb dEl_receive_0 rfl (lv_at hl 3 rfl) ?_
  obtain ⟨hm1, hwp⟩ := hwp
  obtain ⟨km2, hkm2⟩ := cw_ms (a := a) (t := t) hm1
  refine va_get (D := D) (ci := 4) (C := RMs) (T := TMs) (N := 4) hx hb hts hinMs hown hK hP km2 hkm2 rfl 1 (by decide) lk32 (fun _ h9 => h9) rfl dEl_receive_1 ?_
  refine lv_if_ne hx hb dEl_receive_4 rfl (fun h3 => ?_) (fun h3 => ?_)
  · have hwp := hwp.1 h3
    refine lv_aload_n hx hb dEl_receive_19 rfl (lv_at hl 0 rfl) ?_
    refine lv_iload_n hx hb dEl_receive_20 rfl (lv_at hl 2 rfl) ?_
    refine lv_aload_n hx hb dEl_receive_21 rfl (lv_at hl 3 rfl) ?_
    obtain ⟨hm4, hwp⟩ := hwp
    obtain ⟨km5, hkm5⟩ := cw_ms (a := a) (t := t) hm4
    refine va_get (D := D) (ci := 4) (C := RMs) (T := TMs) (N := 4) hx hb hts hinMs hown hK hP km5 hkm5 rfl 2 (by decide) lk38 (fun _ h9 => h9) rfl dEl_receive_22 ?_
    obtain ⟨P6, hP6, hwp⟩ := hwp
    refine uCallVv (As := [.int x2, .int (σ.1 43 q)]) (rest := []) (C := REl) ⟨hx, hb, hml, hown, hts⟩ (kC_El_takeLeader l D a A t   σ x2 (σ.1 43 q) P6 hP6) (cwV 2 hts (gdV wm_623 wm_625 wp_10 wm_10 wm_626) rfl rfl rfl (by decide +kernel) ⟨Nat.le_of_ble_eq_true rfl, Nat.le_of_ble_eq_true rfl⟩) (va_recv (ci := 9) (q0 := 24) hK hP rfl rfl) hP hK hD hA hS rfl hl.1 rfl (Nat.le_of_ble_eq_true rfl) dEl_receive_25 ⟨Nat.le_of_ble_eq_true rfl, Nat.le_of_ble_eq_true rfl⟩ (fun u7 H locs hu7 hP hD hS => ?_)
    have hwp := hwp u7 hu7
    exact W.vret hx hb hr (fun t ht hW => ⟨⟨u7, rfl, hwp, uEnd ht hW hP hK hD hS hA⟩, hS.F ht⟩) hS.2.2 dEl_receive_28
  · have hwp := hwp.2 h3
    refine lv_aload_n hx hb dEl_receive_7 rfl (lv_at hl 0 rfl) ?_
    refine lv_iload_n hx hb dEl_receive_8 rfl (lv_at hl 2 rfl) ?_
    refine lv_aload_n hx hb dEl_receive_9 rfl (lv_at hl 3 rfl) ?_
    obtain ⟨hm8, hwp⟩ := hwp
    obtain ⟨km9, hkm9⟩ := cw_ms (a := a) (t := t) hm8
    refine va_get (D := D) (ci := 4) (C := RMs) (T := TMs) (N := 4) hx hb hts hinMs hown hK hP km9 hkm9 rfl 2 (by decide) lk38 (fun _ h9 => h9) rfl dEl_receive_10 ?_
    obtain ⟨P10, hP10, hwp⟩ := hwp
    refine uCallVv (As := [.int x2, .int (σ.1 43 q)]) (rest := []) (C := REl) ⟨hx, hb, hml, hown, hts⟩ (kC_El_takeElect l D a A t   σ x2 (σ.1 43 q) P10 hP10) (cwV 2 hts (gdV wm_618 wm_620 wp_9 wm_10 wm_621) rfl rfl rfl (by decide +kernel) ⟨Nat.le_of_ble_eq_true rfl, Nat.le_of_ble_eq_true rfl⟩) (va_recv (ci := 9) (q0 := 24) hK hP rfl rfl) hP hK hD hA hS rfl hl.1 rfl (Nat.le_of_ble_eq_true rfl) dEl_receive_13 ⟨Nat.le_of_ble_eq_true rfl, Nat.le_of_ble_eq_true rfl⟩ (fun u11 H locs hu11 hP hD hS => ?_)
    have hwp := hwp u11 hu11
    refine lv_goto hx hb dEl_receive_16 rfl ?_
    exact W.vret hx hb hr (fun t ht hW => ⟨⟨u11, rfl, hwp, uEnd ht hW hP hK hD hS hA⟩, hS.F ht⟩) hS.2.2 dEl_receive_28
-- NodeServices$Work: private boolean isEngaged(int), on Wk
def wC_Wk_isEngaged_18 (a : Nat → Nat) (R : Int32 → CS → Prop) (σ : CS) (y1 : Int32) : Prop :=
  R 1 σ
def wC_Wk_isEngaged (a : Nat → Nat) (R : Int32 → CS → Prop) (σ : CS) (x1 : Int32) : Prop :=
  ((((σ.1 33 0) = x1) → wC_Wk_isEngaged_18 a R σ x1) ∧ ((¬ (σ.1 33 0) = x1) → (vp_in x1 4 ∧ ((((σ.1 35 x1.toNatClampNeg) = (-1)) → R 0 σ) ∧ ((¬ (σ.1 35 x1.toNatClampNeg) = (-1)) → wC_Wk_isEngaged_18 a R σ x1)))))
abbrev wsWk_isEngaged : List Cond := .code yWk_isEngaged cWk_isEngaged 2 (some .boolean) :: wg
abbrev rmC_Wk_isEngaged : Room := { frames := 0, cells := 0, slots := 0, locals := 0 }
set_option maxHeartbeats 4000000 in
set_option maxRecDepth 100000 in
theorem kC_Wk_isEngaged (l : Launch) (D : va_G) (a : Nat → Nat) (A : Nat → Prop) (t : Nat → ClassId) (σ : CS) (x1 : Int32) (R : Int32 → CS → Prop) (hwp : wC_Wk_isEngaged a R σ x1) : Met l yWk_isEngaged wsWk_isEngaged rmC_Wk_isEngaged (va_Pc [.ref (a 38), .int x1] (uI D clA (cT t) A true (cw a t) σ)) (va_Qi R (uI D clA (cT t) A true (cw a t)) A) 0 0 A := by
  refine Met.ofW (cc := cWk_isEngaged) (maxL := 2) (ret := (some .boolean)) (by decide) rfl ?_
  intro p e s m args below meth c s₁ B hml hv
  obtain ⟨rfl, hP, hK, hD, hA⟩ := hv
  have hx := B.exec
  have hb := B.bytes
  have hr := B.returns
  have hts := atoms_spec (ws := wsWk_isEngaged) B.pre
  have hown : s.vm.findClass RWk = some m.cls := findClass_of_methodNamed B.named
  have hlocks := B.notSynchronized
  have hinWk : ∀ w ∈ u_ws RWk TWk 7, w ∈ wsWk_isEngaged := fun w h => List.mem_cons_of_mem _ (inWk w h)
  have lk15 := hts _ (List.mem_cons_of_mem _ wm_211)
  have lk19 := hts _ (List.mem_cons_of_mem _ wm_215)
  have hS : va_S A s.heap s.heap [] := va_S.rf
  have cut18 : ∀ (σ : CS) (y1 : Int32) (H : Heap) (locs : List Loc) (ls : Array Slot), wC_Wk_isEngaged_18 a R σ y1 → va_P D clA (cw a t σ) H → va_D A (cw a t σ) → va_S A s.heap H locs → lv_has ls 2 [(0, .ref (a 38)), (1, .int y1)] → W p l e (headSpec wsWk_isEngaged rmC_Wk_isEngaged).room s m ([.ref (a 38), .int x1] : List Value).toArray below meth c H locs 0 0 (MQ below (va_Qi R (uI D clA (cT t) A true (cw a t)) A) ([.ref (a 38), .int x1] : List Value).toArray s 0 0 A) (F0 m 18 ls []) := by
    intro σ y1 H locs ls hwp hP hD hS hl
    refine lv_iconst (v := 1) hx hb dWk_isEngaged_18 (by decide) ?_
    refine lv_goto hx hb dWk_isEngaged_19 rfl ?_
    exact W.zret (v := 1) hx hb hr (by decide) (fun t ht hW => ⟨⟨1, σ, rfl, hwp, uEnd ht hW hP hK hD hS hA⟩, hS.F ht⟩) hS.2.2 dWk_isEngaged_23
  have hl := lv_entry ([.ref (a 38), .int x1]) (n := 2) (Nat.le_of_ble_eq_true rfl)
  rw [lg_entry_eq]
  generalize (lg_sl ([.ref (a 38), .int x1]) ++ List.replicate (2 - (lg_sl ([.ref (a 38), .int x1])).length) Slot.unset).toArray = ls at hl ⊢
  have hl : lv_has ls 2 [(0, .ref (a 38)), (1, .int x1)] := hl
  refine lv_aload_n hx hb dWk_isEngaged_0 rfl (lv_at hl 0 rfl) ?_
  refine va_get (D := D) (ci := 10) (C := RWk) (T := TWk) (N := 7) hx hb hts hinWk hown hK hP 38 rfl rfl 1 (by decide) lk15 (fun _ h9 => h9) rfl dWk_isEngaged_1 ?_
  refine lv_iload_n hx hb dWk_isEngaged_4 rfl (lv_at hl 1 rfl) ?_
  refine lv_icmp_eq hx hb dWk_isEngaged_5 rfl (fun h1 => ?_) (fun h1 => ?_)
  · have hwp := hwp.1 h1
    exact cut18 σ x1 _ _ _ hwp hP hD hS (lv_sub hl [0, 1] rfl)
  · have hwp := hwp.2 h1
    refine lv_aload_n hx hb dWk_isEngaged_8 rfl (lv_at hl 0 rfl) ?_
    refine va_get (D := D) (ci := 10) (C := RWk) (T := TWk) (N := 7) hx hb hts hinWk hown hK hP 38 rfl rfl 3 (by decide) lk19 (fun _ h9 => h9) rfl dWk_isEngaged_9 ?_
    refine lv_iload_n hx hb dWk_isEngaged_12 rfl (lv_at hl 1 rfl) ?_
    obtain ⟨hi2, hwp⟩ := hwp
    refine va_iald hx hb hK hP 40 0 rfl rfl hi2 dWk_isEngaged_13 ?_
    refine lv_iconst (v := (-1)) hx hb dWk_isEngaged_14 (by decide) ?_
    refine lv_icmp_eq hx hb dWk_isEngaged_15 rfl (fun h3 => ?_) (fun h3 => ?_)
    · have hwp := hwp.1 h3
      refine lv_iconst (v := 0) hx hb dWk_isEngaged_22 (by decide) ?_
      exact W.zret (v := 0) hx hb hr (by decide) (fun t ht hW => ⟨⟨0, σ, rfl, hwp, uEnd ht hW hP hK hD hS hA⟩, hS.F ht⟩) hS.2.2 dWk_isEngaged_23
    · have hwp := hwp.2 h3
      exact cut18 σ x1 _ _ _ hwp hP hD hS (lv_sub hl [0, 1] rfl)
-- NodeServices$Work: int condition(int), on Wk
def wC_Wk_condition_27 (a : Nat → Nat) (R : Int32 → CS → Prop) (σ : CS) (y1 : Int32) (z0 : Int32) (z1 : Int32) : Prop :=
  (vp_in y1 4 ∧ R ((z0 + z1) + (4 * (σ.1 36 y1.toNatClampNeg))) σ)
def wC_Wk_condition_14 (a : Nat → Nat) (R : Int32 → CS → Prop) (σ : CS) (y1 : Int32) (z0 : Int32) : Prop :=
  (∃ P2 : Int32 → CS → Prop, wC_Wk_isEngaged a P2 σ y1 ∧ (∀ (r4 : Int32) (u3 : CS), P2 r4 u3 → (((r4 = 0) → wC_Wk_condition_27 a R u3 y1 z0 0) ∧ ((¬ r4 = 0) → wC_Wk_condition_27 a R u3 y1 z0 2))))
def wC_Wk_condition (a : Nat → Nat) (R : Int32 → CS → Prop) (σ : CS) (x1 : Int32) : Prop :=
  (vp_in x1 4 ∧ ((((σ.1 32 x1.toNatClampNeg) = 0) → wC_Wk_condition_14 a R σ x1 0) ∧ ((¬ (σ.1 32 x1.toNatClampNeg) = 0) → wC_Wk_condition_14 a R σ x1 1)))
abbrev wsWk_condition : List Cond := .code yWk_condition cWk_condition 2 (some .int) :: wg
abbrev rmC_Wk_condition : Room := { frames := 1, cells := 0, slots := 0, locals := 21 }
set_option maxHeartbeats 4000000 in
set_option maxRecDepth 100000 in
theorem kC_Wk_condition (l : Launch) (D : va_G) (a : Nat → Nat) (A : Nat → Prop) (t : Nat → ClassId) (σ : CS) (x1 : Int32) (R : Int32 → CS → Prop) (hwp : wC_Wk_condition a R σ x1) : Met l yWk_condition wsWk_condition rmC_Wk_condition (va_Pc [.ref (a 38), .int x1] (uI D clA (cT t) A true (cw a t) σ)) (va_Qi R (uI D clA (cT t) A true (cw a t)) A) 0 0 A := by
  refine Met.ofW (cc := cWk_condition) (maxL := 2) (ret := (some .int)) (by decide) rfl ?_
  intro p e s m args below meth c s₁ B hml hv
  obtain ⟨rfl, hP, hK, hD, hA⟩ := hv
  have hx := B.exec
  have hb := B.bytes
  have hr := B.returns
  have hts := atoms_spec (ws := wsWk_condition) B.pre
  have hown : s.vm.findClass RWk = some m.cls := findClass_of_methodNamed B.named
  have hlocks := B.notSynchronized
  have hinWk : ∀ w ∈ u_ws RWk TWk 7, w ∈ wsWk_condition := fun w h => List.mem_cons_of_mem _ (inWk w h)
  have lk23 := hts _ (List.mem_cons_of_mem _ wm_216)
  have lk9 := hts _ (List.mem_cons_of_mem _ wm_209)
  have hS : va_S A s.heap s.heap [] := va_S.rf
  have cut27 : ∀ (σ : CS) (y1 : Int32) (z0 : Int32) (z1 : Int32) (H : Heap) (locs : List Loc) (ls : Array Slot), wC_Wk_condition_27 a R σ y1 z0 z1 → va_P D clA (cw a t σ) H → va_D A (cw a t σ) → va_S A s.heap H locs → lv_has ls 2 [(0, .ref (a 38)), (1, .int y1)] → W p l e (headSpec wsWk_condition rmC_Wk_condition).room s m ([.ref (a 38), .int x1] : List Value).toArray below meth c H locs 0 0 (MQ below (va_Qi R (uI D clA (cT t) A true (cw a t)) A) ([.ref (a 38), .int x1] : List Value).toArray s 0 0 A) (F0 m 27 ls [.int z1, .int z0]) := by
    intro σ y1 z0 z1 H locs ls hwp hP hD hS hl
    refine lv_iadd hx hb dWk_condition_27 ?_
    refine lv_iconst (v := 4) hx hb dWk_condition_28 (by decide) ?_
    refine lv_aload_n hx hb dWk_condition_29 rfl (lv_at hl 0 rfl) ?_
    refine va_get (D := D) (ci := 10) (C := RWk) (T := TWk) (N := 7) hx hb hts hinWk hown hK hP 38 rfl rfl 4 (by decide) lk23 (fun _ h9 => h9) rfl dWk_condition_30 ?_
    refine lv_iload_n hx hb dWk_condition_33 rfl (lv_at hl 1 rfl) ?_
    obtain ⟨hi1, hwp⟩ := hwp
    refine va_iald hx hb hK hP 41 0 rfl rfl hi1 dWk_condition_34 ?_
    refine lv_imul hx hb dWk_condition_35 ?_
    refine lv_iadd hx hb dWk_condition_36 ?_
    exact W.iret (v := (z0 + z1) + (4 * (σ.1 36 y1.toNatClampNeg))) hx hb hr (fun t ht hW => ⟨⟨(z0 + z1) + (4 * (σ.1 36 y1.toNatClampNeg)), σ, rfl, hwp, uEnd ht hW hP hK hD hS hA⟩, hS.F ht⟩) hS.2.2 dWk_condition_37
  have cut14 : ∀ (σ : CS) (y1 : Int32) (z0 : Int32) (H : Heap) (locs : List Loc) (ls : Array Slot), wC_Wk_condition_14 a R σ y1 z0 → va_P D clA (cw a t σ) H → va_D A (cw a t σ) → va_S A s.heap H locs → lv_has ls 2 [(0, .ref (a 38)), (1, .int y1)] → W p l e (headSpec wsWk_condition rmC_Wk_condition).room s m ([.ref (a 38), .int x1] : List Value).toArray below meth c H locs 0 0 (MQ below (va_Qi R (uI D clA (cT t) A true (cw a t)) A) ([.ref (a 38), .int x1] : List Value).toArray s 0 0 A) (F0 m 14 ls [.int z0]) := by
    intro σ y1 z0 H locs ls hwp hP hD hS hl
    refine lv_aload_n hx hb dWk_condition_14 rfl (lv_at hl 0 rfl) ?_
    refine lv_iload_n hx hb dWk_condition_15 rfl (lv_at hl 1 rfl) ?_
    obtain ⟨P2, hP2, hwp⟩ := hwp
    refine uCallVi (As := [.int y1]) (rest := [.int z0]) (C := RWk) ⟨hx, hb, hml, hown, hts⟩ (kC_Wk_isEngaged l D a A t   σ y1 P2 hP2) (cwV 1 hts (gdV wm_535 wm_537 wp_7 wm_12 wm_538) rfl rfl rfl (by decide +kernel) ⟨Nat.le_of_ble_eq_true rfl, Nat.le_of_ble_eq_true rfl⟩) (va_recv (ci := 10) (q0 := 38) hK hP rfl rfl) hP hK hD hA hS rfl hl.1 rfl (Nat.le_of_ble_eq_true rfl) dWk_condition_16 ⟨Nat.le_of_ble_eq_true rfl, Nat.le_of_ble_eq_true rfl⟩ (fun r4 u3 H locs hu3 hP hD hS => ?_)
    have hwp := hwp r4 u3 hu3
    refine lv_if_eq hx hb dWk_condition_19 rfl (fun h5 => ?_) (fun h5 => ?_)
    · have hwp := hwp.1 h5
      refine lv_iconst (v := 0) hx hb dWk_condition_26 (by decide) ?_
      exact cut27 u3 y1 z0 0 _ _ _ hwp hP hD hS (lv_sub hl [0, 1] rfl)
    · have hwp := hwp.2 h5
      refine lv_iconst (v := 2) hx hb dWk_condition_22 (by decide) ?_
      refine lv_goto hx hb dWk_condition_23 rfl ?_
      exact cut27 u3 y1 z0 2 _ _ _ hwp hP hD hS (lv_sub hl [0, 1] rfl)
  have hl := lv_entry ([.ref (a 38), .int x1]) (n := 2) (Nat.le_of_ble_eq_true rfl)
  rw [lg_entry_eq]
  generalize (lg_sl ([.ref (a 38), .int x1]) ++ List.replicate (2 - (lg_sl ([.ref (a 38), .int x1])).length) Slot.unset).toArray = ls at hl ⊢
  have hl : lv_has ls 2 [(0, .ref (a 38)), (1, .int x1)] := hl
  refine lv_aload_n hx hb dWk_condition_0 rfl (lv_at hl 0 rfl) ?_
  refine va_get (D := D) (ci := 10) (C := RWk) (T := TWk) (N := 7) hx hb hts hinWk hown hK hP 38 rfl rfl 0 (by decide) lk9 (fun _ h9 => h9) rfl dWk_condition_1 ?_
  refine lv_iload_n hx hb dWk_condition_4 rfl (lv_at hl 1 rfl) ?_
  obtain ⟨hi6, hwp⟩ := hwp
  refine va_zald hx hb hK hP 39 1 rfl rfl hi6 dWk_condition_5 ?_
  refine lv_if_eq hx hb dWk_condition_6 rfl (fun h7 => ?_) (fun h7 => ?_)
  · have hwp := hwp.1 h7
    refine lv_iconst (v := 0) hx hb dWk_condition_13 (by decide) ?_
    exact cut14 σ x1 0 _ _ _ hwp hP hD hS (lv_sub hl [0, 1] rfl)
  · have hwp := hwp.2 h7
    refine lv_iconst (v := 1) hx hb dWk_condition_9 (by decide) ?_
    refine lv_goto hx hb dWk_condition_10 rfl ?_
    exact cut14 σ x1 1 _ _ _ hwp hP hD hS (lv_sub hl [0, 1] rfl)
-- NodeServices$Work: int detail(int), on Wk
def wC_Wk_detail (a : Nat → Nat) (R : Int32 → CS → Prop) (σ : CS) (x1 : Int32) : Prop :=
  (vp_in x1 4 ∧ R (σ.1 35 x1.toNatClampNeg) σ)
abbrev wsWk_detail : List Cond := .code yWk_detail cWk_detail 2 (some .int) :: wg
abbrev rmC_Wk_detail : Room := { frames := 0, cells := 0, slots := 0, locals := 0 }
set_option maxHeartbeats 4000000 in
set_option maxRecDepth 100000 in
theorem kC_Wk_detail (l : Launch) (D : va_G) (a : Nat → Nat) (A : Nat → Prop) (t : Nat → ClassId) (σ : CS) (x1 : Int32) (R : Int32 → CS → Prop) (hwp : wC_Wk_detail a R σ x1) : Met l yWk_detail wsWk_detail rmC_Wk_detail (va_Pc [.ref (a 38), .int x1] (uI D clA (cT t) A true (cw a t) σ)) (va_Qi R (uI D clA (cT t) A true (cw a t)) A) 0 0 A := by
  refine Met.ofW (cc := cWk_detail) (maxL := 2) (ret := (some .int)) (by decide) rfl ?_
  intro p e s m args below meth c s₁ B hml hv
  obtain ⟨rfl, hP, hK, hD, hA⟩ := hv
  have hx := B.exec
  have hb := B.bytes
  have hr := B.returns
  have hts := atoms_spec (ws := wsWk_detail) B.pre
  have hown : s.vm.findClass RWk = some m.cls := findClass_of_methodNamed B.named
  have hlocks := B.notSynchronized
  have hinWk : ∀ w ∈ u_ws RWk TWk 7, w ∈ wsWk_detail := fun w h => List.mem_cons_of_mem _ (inWk w h)
  have lk19 := hts _ (List.mem_cons_of_mem _ wm_215)
  have hS : va_S A s.heap s.heap [] := va_S.rf
  have hl := lv_entry ([.ref (a 38), .int x1]) (n := 2) (Nat.le_of_ble_eq_true rfl)
  rw [lg_entry_eq]
  generalize (lg_sl ([.ref (a 38), .int x1]) ++ List.replicate (2 - (lg_sl ([.ref (a 38), .int x1])).length) Slot.unset).toArray = ls at hl ⊢
  have hl : lv_has ls 2 [(0, .ref (a 38)), (1, .int x1)] := hl
  refine lv_aload_n hx hb dWk_detail_0 rfl (lv_at hl 0 rfl) ?_
  refine va_get (D := D) (ci := 10) (C := RWk) (T := TWk) (N := 7) hx hb hts hinWk hown hK hP 38 rfl rfl 3 (by decide) lk19 (fun _ h9 => h9) rfl dWk_detail_1 ?_
  refine lv_iload_n hx hb dWk_detail_4 rfl (lv_at hl 1 rfl) ?_
  obtain ⟨hi1, hwp⟩ := hwp
  refine va_iald hx hb hK hP 40 0 rfl rfl hi1 dWk_detail_5 ?_
  exact W.iret (v := σ.1 35 x1.toNatClampNeg) hx hb hr (fun t ht hW => ⟨⟨σ.1 35 x1.toNatClampNeg, σ, rfl, hwp, uEnd ht hW hP hK hD hS hA⟩, hS.F ht⟩) hS.2.2 dWk_detail_6
-- NodeServices$Work: boolean isOver(), on Wk
def wC_Wk_isOver_33 (a : Nat → Nat) (K2 : CS → Int32 → Prop) (R : Int32 → CS → Prop) (σ : CS) (y1 : Int32) : Prop :=
  R 0 σ
def wC_Wk_isOver_2_step (a : Nat → Nat) (K2 : CS → Int32 → Prop) (R : Int32 → CS → Prop) (σ : CS) (y1 : Int32) : Prop :=
  (((4 ≤ y1) → R 1 σ) ∧ ((¬ 4 ≤ y1) → (vp_in y1 4 ∧ (((¬ (σ.1 32 y1.toNatClampNeg) = 0) → wC_Wk_isOver_33 a K2 R σ y1) ∧ (((σ.1 32 y1.toNatClampNeg) = 0) → (∃ P4 : Int32 → CS → Prop, wC_Wk_isEngaged a P4 σ y1 ∧ (∀ (r6 : Int32) (u5 : CS), P4 r6 u5 → (((¬ r6 = 0) → wC_Wk_isOver_33 a K2 R u5 y1) ∧ ((r6 = 0) → (vp_in y1 4 ∧ ((((u5.1 36 y1.toNatClampNeg) = 0) → K2 u5 (y1 + 1)) ∧ ((¬ (u5.1 36 y1.toNatClampNeg) = 0) → wC_Wk_isOver_33 a K2 R u5 y1))))))))))))
def wC_Wk_isOver_2 (a : Nat → Nat) (R : Int32 → CS → Prop) : Nat → CS → Int32 → Prop
  | 0 => fun _ _ => False
  | k + 1 => fun σ y1 => wC_Wk_isOver_2_step a (wC_Wk_isOver_2 a R k) R σ y1
def wC_Wk_isOver (a : Nat → Nat) (R : Int32 → CS → Prop) (σ : CS) : Prop :=
  wC_Wk_isOver_2 a R 5 σ 0
abbrev wsWk_isOver : List Cond := .code yWk_isOver cWk_isOver 2 (some .boolean) :: wg
abbrev rmC_Wk_isOver : Room := { frames := 1, cells := 0, slots := 0, locals := 21 }
set_option maxHeartbeats 4000000 in
set_option maxRecDepth 100000 in
theorem kC_Wk_isOver (l : Launch) (D : va_G) (a : Nat → Nat) (A : Nat → Prop) (t : Nat → ClassId) (σ : CS) (R : Int32 → CS → Prop) (hwp : wC_Wk_isOver a R σ ) : Met l yWk_isOver wsWk_isOver rmC_Wk_isOver (va_Pc [.ref (a 38)] (uI D clA (cT t) A true (cw a t) σ)) (va_Qi R (uI D clA (cT t) A true (cw a t)) A) 0 0 A := by
  refine Met.ofW (cc := cWk_isOver) (maxL := 2) (ret := (some .boolean)) (by decide) rfl ?_
  intro p e s m args below meth c s₁ B hml hv
  obtain ⟨rfl, hP, hK, hD, hA⟩ := hv
  have hx := B.exec
  have hb := B.bytes
  have hr := B.returns
  have hts := atoms_spec (ws := wsWk_isOver) B.pre
  have hown : s.vm.findClass RWk = some m.cls := findClass_of_methodNamed B.named
  have hlocks := B.notSynchronized
  have hinWk : ∀ w ∈ u_ws RWk TWk 7, w ∈ wsWk_isOver := fun w h => List.mem_cons_of_mem _ (inWk w h)
  have lk23 := hts _ (List.mem_cons_of_mem _ wm_216)
  have lk9 := hts _ (List.mem_cons_of_mem _ wm_209)
  have hS : va_S A s.heap s.heap [] := va_S.rf
  have cut2 : ∀ (k2 : Nat) (σ : CS) (y1 : Int32) (H : Heap) (locs : List Loc) (ls : Array Slot), wC_Wk_isOver_2 a R k2 σ y1 → va_P D clA (cw a t σ) H → va_D A (cw a t σ) → va_S A s.heap H locs → lv_has ls 2 [(0, .ref (a 38)), (1, .int y1)] → W p l e (headSpec wsWk_isOver rmC_Wk_isOver).room s m ([.ref (a 38)] : List Value).toArray below meth c H locs 0 0 (MQ below (va_Qi R (uI D clA (cT t) A true (cw a t)) A) ([.ref (a 38)] : List Value).toArray s 0 0 A) (F0 m 2 ls []) := by
    intro k2
    induction k2 with
    | zero => intro σ y1 H locs ls hwp hP hD hS hl; exact False.elim hwp
    | succ k2 ih2 =>
      intro σ y1 H locs ls hwp hP hD hS hl
      have cut33 : ∀ (σ : CS) (y1 : Int32) (H : Heap) (locs : List Loc) (ls : Array Slot), wC_Wk_isOver_33 a (wC_Wk_isOver_2 a R k2) R σ y1 → va_P D clA (cw a t σ) H → va_D A (cw a t σ) → va_S A s.heap H locs → lv_has ls 2 [(0, .ref (a 38)), (1, .int y1)] → W p l e (headSpec wsWk_isOver rmC_Wk_isOver).room s m ([.ref (a 38)] : List Value).toArray below meth c H locs 0 0 (MQ below (va_Qi R (uI D clA (cT t) A true (cw a t)) A) ([.ref (a 38)] : List Value).toArray s 0 0 A) (F0 m 33 ls []) := by
        intro σ y1 H locs ls hwp hP hD hS hl
        refine lv_iconst (v := 0) hx hb dWk_isOver_33 (by decide) ?_
        exact W.zret (v := 0) hx hb hr (by decide) (fun t ht hW => ⟨⟨0, σ, rfl, hwp, uEnd ht hW hP hK hD hS hA⟩, hS.F ht⟩) hS.2.2 dWk_isOver_34
      have hwp : wC_Wk_isOver_2_step a (wC_Wk_isOver_2 a R k2) R σ y1 := hwp
      refine lv_iload_n hx hb dWk_isOver_2 rfl (lv_at hl 1 rfl) ?_
      refine lv_iconst (v := 4) hx hb dWk_isOver_3 (by decide) ?_
      refine lv_icmp_ge hx hb dWk_isOver_4 rfl (fun h1 => ?_) (fun h1 => ?_)
      · have hwp := hwp.1 h1
        refine lv_iconst (v := 1) hx hb dWk_isOver_41 (by decide) ?_
        exact W.zret (v := 1) hx hb hr (by decide) (fun t ht hW => ⟨⟨1, σ, rfl, hwp, uEnd ht hW hP hK hD hS hA⟩, hS.F ht⟩) hS.2.2 dWk_isOver_42
      · have hwp := hwp.2 h1
        refine lv_aload_n hx hb dWk_isOver_7 rfl (lv_at hl 0 rfl) ?_
        refine va_get (D := D) (ci := 10) (C := RWk) (T := TWk) (N := 7) hx hb hts hinWk hown hK hP 38 rfl rfl 0 (by decide) lk9 (fun _ h9 => h9) rfl dWk_isOver_8 ?_
        refine lv_iload_n hx hb dWk_isOver_11 rfl (lv_at hl 1 rfl) ?_
        obtain ⟨hi2, hwp⟩ := hwp
        refine va_zald hx hb hK hP 39 1 rfl rfl hi2 dWk_isOver_12 ?_
        refine lv_if_ne hx hb dWk_isOver_13 rfl (fun h3 => ?_) (fun h3 => ?_)
        · have hwp := hwp.1 h3
          exact cut33 σ y1 _ _ _ hwp hP hD hS (lv_sub hl [0, 1] rfl)
        · have hwp := hwp.2 h3
          refine lv_aload_n hx hb dWk_isOver_16 rfl (lv_at hl 0 rfl) ?_
          refine lv_iload_n hx hb dWk_isOver_17 rfl (lv_at hl 1 rfl) ?_
          obtain ⟨P4, hP4, hwp⟩ := hwp
          refine uCallVi (As := [.int y1]) (rest := []) (C := RWk) ⟨hx, hb, hml, hown, hts⟩ (kC_Wk_isEngaged l D a A t   σ y1 P4 hP4) (cwV 1 hts (gdV wm_535 wm_537 wp_7 wm_12 wm_538) rfl rfl rfl (by decide +kernel) ⟨Nat.le_of_ble_eq_true rfl, Nat.le_of_ble_eq_true rfl⟩) (va_recv (ci := 10) (q0 := 38) hK hP rfl rfl) hP hK hD hA hS rfl hl.1 rfl (Nat.le_of_ble_eq_true rfl) dWk_isOver_18 ⟨Nat.le_of_ble_eq_true rfl, Nat.le_of_ble_eq_true rfl⟩ (fun r6 u5 H locs hu5 hP hD hS => ?_)
          have hwp := hwp r6 u5 hu5
          refine lv_if_ne hx hb dWk_isOver_21 rfl (fun h7 => ?_) (fun h7 => ?_)
          · have hwp := hwp.1 h7
            exact cut33 u5 y1 _ _ _ hwp hP hD hS (lv_sub hl [0, 1] rfl)
          · have hwp := hwp.2 h7
            refine lv_aload_n hx hb dWk_isOver_24 rfl (lv_at hl 0 rfl) ?_
            refine va_get (D := D) (ci := 10) (C := RWk) (T := TWk) (N := 7) hx hb hts hinWk hown hK hP 38 rfl rfl 4 (by decide) lk23 (fun _ h9 => h9) rfl dWk_isOver_25 ?_
            refine lv_iload_n hx hb dWk_isOver_28 rfl (lv_at hl 1 rfl) ?_
            obtain ⟨hi8, hwp⟩ := hwp
            refine va_iald hx hb hK hP 41 0 rfl rfl hi8 dWk_isOver_29 ?_
            refine lv_if_eq hx hb dWk_isOver_30 rfl (fun h9 => ?_) (fun h9 => ?_)
            · have hwp := hwp.1 h9
              refine lv_iinc (k := 1) hx hb dWk_isOver_35 hl rfl (fx_inc1 _) (by decide) rfl (fun ls hl => ?_)
              have hl : lv_has ls 2 [(1, .int (y1 + 1)), (0, .ref (a 38))] := hl
              refine lv_goto hx hb dWk_isOver_38 rfl ?_
              exact ih2 u5 (y1 + 1) _ _ _ hwp hP hD hS (lv_sub hl [1, 0] rfl)
            · have hwp := hwp.2 h9
              exact cut33 u5 y1 _ _ _ hwp hP hD hS (lv_sub hl [0, 1] rfl)
  have hl := lv_entry ([.ref (a 38)]) (n := 2) (Nat.le_of_ble_eq_true rfl)
  rw [lg_entry_eq]
  generalize (lg_sl ([.ref (a 38)]) ++ List.replicate (2 - (lg_sl ([.ref (a 38)])).length) Slot.unset).toArray = ls at hl ⊢
  have hl : lv_has ls 2 [(0, .ref (a 38))] := hl
  refine lv_iconst (v := 0) hx hb dWk_isOver_0 (by decide) ?_
  refine lv_istore_n hx hb dWk_isOver_1 rfl hl (by decide) rfl (fun ls hl => ?_)
  have hl : lv_has ls 2 [(1, .int 0), (0, .ref (a 38))] := hl
  exact cut2 5 σ 0 _ _ _ hwp hP hD hS (lv_sub hl [1, 0] rfl)
-- NodeServices$Work: boolean hasMostUnanswered(int), on Wk
def wC_Wk_hasMostUnanswered (a : Nat → Nat) (R : Int32 → CS → Prop) (σ : CS) (x1 : Int32) : Prop :=
  (vp_in x1 4 ∧ ((((σ.1 36 x1.toNatClampNeg) < 20) → R 0 σ) ∧ ((¬ (σ.1 36 x1.toNatClampNeg) < 20) → R 1 σ)))
abbrev wsWk_hasMostUnanswered : List Cond := .code yWk_hasMostUnanswered cWk_hasMostUnanswered 2 (some .boolean) :: wg
abbrev rmC_Wk_hasMostUnanswered : Room := { frames := 0, cells := 0, slots := 0, locals := 0 }
set_option maxHeartbeats 4000000 in
set_option maxRecDepth 100000 in
theorem kC_Wk_hasMostUnanswered (l : Launch) (D : va_G) (a : Nat → Nat) (A : Nat → Prop) (t : Nat → ClassId) (σ : CS) (x1 : Int32) (R : Int32 → CS → Prop) (hwp : wC_Wk_hasMostUnanswered a R σ x1) : Met l yWk_hasMostUnanswered wsWk_hasMostUnanswered rmC_Wk_hasMostUnanswered (va_Pc [.ref (a 38), .int x1] (uI D clA (cT t) A true (cw a t) σ)) (va_Qi R (uI D clA (cT t) A true (cw a t)) A) 0 0 A := by
  refine Met.ofW (cc := cWk_hasMostUnanswered) (maxL := 2) (ret := (some .boolean)) (by decide) rfl ?_
  intro p e s m args below meth c s₁ B hml hv
  obtain ⟨rfl, hP, hK, hD, hA⟩ := hv
  have hx := B.exec
  have hb := B.bytes
  have hr := B.returns
  have hts := atoms_spec (ws := wsWk_hasMostUnanswered) B.pre
  have hown : s.vm.findClass RWk = some m.cls := findClass_of_methodNamed B.named
  have hlocks := B.notSynchronized
  have hinWk : ∀ w ∈ u_ws RWk TWk 7, w ∈ wsWk_hasMostUnanswered := fun w h => List.mem_cons_of_mem _ (inWk w h)
  have lk23 := hts _ (List.mem_cons_of_mem _ wm_216)
  have hS : va_S A s.heap s.heap [] := va_S.rf
  have hl := lv_entry ([.ref (a 38), .int x1]) (n := 2) (Nat.le_of_ble_eq_true rfl)
  rw [lg_entry_eq]
  generalize (lg_sl ([.ref (a 38), .int x1]) ++ List.replicate (2 - (lg_sl ([.ref (a 38), .int x1])).length) Slot.unset).toArray = ls at hl ⊢
  have hl : lv_has ls 2 [(0, .ref (a 38)), (1, .int x1)] := hl
  refine lv_aload_n hx hb dWk_hasMostUnanswered_0 rfl (lv_at hl 0 rfl) ?_
  refine va_get (D := D) (ci := 10) (C := RWk) (T := TWk) (N := 7) hx hb hts hinWk hown hK hP 38 rfl rfl 4 (by decide) lk23 (fun _ h9 => h9) rfl dWk_hasMostUnanswered_1 ?_
  refine lv_iload_n hx hb dWk_hasMostUnanswered_4 rfl (lv_at hl 1 rfl) ?_
  obtain ⟨hi1, hwp⟩ := hwp
  refine va_iald hx hb hK hP 41 0 rfl rfl hi1 dWk_hasMostUnanswered_5 ?_
  refine lv_bipush (v := 20) hx hb dWk_hasMostUnanswered_6 (by decide) ?_
  refine lv_icmp_lt hx hb dWk_hasMostUnanswered_8 rfl (fun h2 => ?_) (fun h2 => ?_)
  · have hwp := hwp.1 h2
    refine lv_iconst (v := 0) hx hb dWk_hasMostUnanswered_15 (by decide) ?_
    exact W.zret (v := 0) hx hb hr (by decide) (fun t ht hW => ⟨⟨0, σ, rfl, hwp, uEnd ht hW hP hK hD hS hA⟩, hS.F ht⟩) hS.2.2 dWk_hasMostUnanswered_16
  · have hwp := hwp.2 h2
    refine lv_iconst (v := 1) hx hb dWk_hasMostUnanswered_11 (by decide) ?_
    refine lv_goto hx hb dWk_hasMostUnanswered_12 rfl ?_
    exact W.zret (v := 1) hx hb hr (by decide) (fun t ht hW => ⟨⟨1, σ, rfl, hwp, uEnd ht hW hP hK hD hS hA⟩, hS.F ht⟩) hS.2.2 dWk_hasMostUnanswered_16
-- NodeServices$Work: void plant(int), on Wk
def wC_Wk_plant (a : Nat → Nat) (R : CS → Prop) (σ : CS) (x1 : Int32) : Prop :=
  (∀ σ1 : CS, σ1 = cu σ 33 0 x1 → (vp_in x1 4 ∧ (∀ σ3 : CS, σ3 = cu σ1 32 x1.toNatClampNeg (vp_nar .boolean 1) → R σ3)))
abbrev wsWk_plant : List Cond := .code yWk_plant cWk_plant 2 none :: wg
abbrev rmC_Wk_plant : Room := { frames := 0, cells := 0, slots := 0, locals := 0 }
set_option maxHeartbeats 4000000 in
set_option maxRecDepth 100000 in
theorem kC_Wk_plant (l : Launch) (D : va_G) (a : Nat → Nat) (A : Nat → Prop) (t : Nat → ClassId) (σ : CS) (x1 : Int32) (R : CS → Prop) (hwp : wC_Wk_plant a R σ x1) : Met l yWk_plant wsWk_plant rmC_Wk_plant (va_Pc [.ref (a 38), .int x1] (uI D clA (cT t) A true (cw a t) σ)) (va_Qv R (uI D clA (cT t) A true (cw a t)) A) 0 0 A := by
  refine Met.ofW (cc := cWk_plant) (maxL := 2) (ret := none) (by decide) rfl ?_
  intro p e s m args below meth c s₁ B hml hv
  obtain ⟨rfl, hP, hK, hD, hA⟩ := hv
  have hx := B.exec
  have hb := B.bytes
  have hr := B.returns
  have hts := atoms_spec (ws := wsWk_plant) B.pre
  have hown : s.vm.findClass RWk = some m.cls := findClass_of_methodNamed B.named
  have hlocks := B.notSynchronized
  have hinWk : ∀ w ∈ u_ws RWk TWk 7, w ∈ wsWk_plant := fun w h => List.mem_cons_of_mem _ (inWk w h)
  have lk15 := hts _ (List.mem_cons_of_mem _ wm_211)
  have lk9 := hts _ (List.mem_cons_of_mem _ wm_209)
  have hS : va_S A s.heap s.heap [] := va_S.rf
  have hl := lv_entry ([.ref (a 38), .int x1]) (n := 2) (Nat.le_of_ble_eq_true rfl)
  rw [lg_entry_eq]
  generalize (lg_sl ([.ref (a 38), .int x1]) ++ List.replicate (2 - (lg_sl ([.ref (a 38), .int x1])).length) Slot.unset).toArray = ls at hl ⊢
  have hl : lv_has ls 2 [(0, .ref (a 38)), (1, .int x1)] := hl
  refine lv_aload_n hx hb dWk_plant_0 rfl (lv_at hl 0 rfl) ?_
  refine lv_iload_n hx hb dWk_plant_1 rfl (lv_at hl 1 rfl) ?_
  refine va_put (ty := .int) (D := D) (ci := 10) (C := RWk) (T := TWk) (N := 7) hx hb hts hinWk tyWk tyWk_ok nmWk hown hK hP hD hS 38 rfl rfl 1 (by decide) lk15 (fun _ h9 => h9) rfl (by decide +kernel) rfl rfl (Nat.le_of_ble_eq_true rfl) dWk_plant_2 (fun H locs hP hD hS => ?_)
  obtain ⟨σ1, eσ1⟩ : ∃ z, z = cu σ 33 0 x1 := ⟨_, rfl⟩
  have hwp := hwp σ1 eσ1
  have hP : va_P D clA (cw a t σ1) H := by rw [eσ1]; exact hP
  have hD : va_D A (cw a t σ1) := by rw [eσ1]; exact hD
  refine lv_aload_n hx hb dWk_plant_5 rfl (lv_at hl 0 rfl) ?_
  refine va_get (D := D) (ci := 10) (C := RWk) (T := TWk) (N := 7) hx hb hts hinWk hown hK hP 38 rfl rfl 0 (by decide) lk9 (fun _ h9 => h9) rfl dWk_plant_6 ?_
  refine lv_iload_n hx hb dWk_plant_9 rfl (lv_at hl 1 rfl) ?_
  refine lv_iconst (v := 1) hx hb dWk_plant_10 (by decide) ?_
  obtain ⟨hi2, hwp⟩ := hwp
  refine va_zast hx hb hK hP hD hS 39 1 rfl rfl hi2 dWk_plant_11 (fun H locs hP hD hS => ?_)
  obtain ⟨σ3, eσ3⟩ : ∃ z, z = cu σ1 32 x1.toNatClampNeg (vp_nar .boolean 1) := ⟨_, rfl⟩
  have hwp := hwp σ3 eσ3
  have hP : va_P D clA (cw a t σ3) H := by rw [eσ3]; exact hP
  have hD : va_D A (cw a t σ3) := by rw [eσ3]; exact hD
  exact W.vret hx hb hr (fun t ht hW => ⟨⟨σ3, rfl, hwp, uEnd ht hW hP hK hD hS hA⟩, hS.F ht⟩) hS.2.2 dWk_plant_12
-- NodeServices$Work: void share(int, int), on Wk
def wC_Wk_share (a : Nat → Nat) (R : CS → Prop) (σ : CS) (x1 x2 : Int32) : Prop :=
  (vp_in x1 4 ∧ (vp_in x1 4 ∧ (∀ σ3 : CS, σ3 = cu σ 36 x1.toNatClampNeg ((σ.1 36 x1.toNatClampNeg) + 1) → (∃ P4 : CS → Prop, wC_Wk_send a P4 σ3 x1 x2 0 0 ∧ (∀ (u5 : CS), P4 u5 → R u5)))))
abbrev wsWk_share : List Cond := .code yWk_share cWk_share 3 none :: wg
abbrev rmC_Wk_share : Room := { frames := 3, cells := 1, slots := 4, locals := 69 }
set_option maxHeartbeats 4000000 in
set_option maxRecDepth 100000 in
theorem kC_Wk_share (l : Launch) (D : va_G) (a : Nat → Nat) (A : Nat → Prop) (t : Nat → ClassId) (σ : CS) (x1 x2 : Int32) (R : CS → Prop) (hwp : wC_Wk_share a R σ x1 x2) : Met l yWk_share wsWk_share rmC_Wk_share (va_Pc [.ref (a 38), .int x1, .int x2] (uI D clA (cT t) A true (cw a t) σ)) (va_Qv R (uI D clA (cT t) A true (cw a t)) A) 1 4 A := by
  refine Met.ofW (cc := cWk_share) (maxL := 3) (ret := none) (by decide) rfl ?_
  intro p e s m args below meth c s₁ B hml hv
  obtain ⟨rfl, hP, hK, hD, hA⟩ := hv
  have hx := B.exec
  have hb := B.bytes
  have hr := B.returns
  have hts := atoms_spec (ws := wsWk_share) B.pre
  have hown : s.vm.findClass RWk = some m.cls := findClass_of_methodNamed B.named
  have hlocks := B.notSynchronized
  have hinWk : ∀ w ∈ u_ws RWk TWk 7, w ∈ wsWk_share := fun w h => List.mem_cons_of_mem _ (inWk w h)
  have lk23 := hts _ (List.mem_cons_of_mem _ wm_216)
  have hS : va_S A s.heap s.heap [] := va_S.rf
  have hl := lv_entry ([.ref (a 38), .int x1, .int x2]) (n := 3) (Nat.le_of_ble_eq_true rfl)
  rw [lg_entry_eq]
  generalize (lg_sl ([.ref (a 38), .int x1, .int x2]) ++ List.replicate (3 - (lg_sl ([.ref (a 38), .int x1, .int x2])).length) Slot.unset).toArray = ls at hl ⊢
  have hl : lv_has ls 3 [(0, .ref (a 38)), (1, .int x1), (2, .int x2)] := hl
  refine lv_aload_n hx hb dWk_share_0 rfl (lv_at hl 0 rfl) ?_
  refine va_get (D := D) (ci := 10) (C := RWk) (T := TWk) (N := 7) hx hb hts hinWk hown hK hP 38 rfl rfl 4 (by decide) lk23 (fun _ h9 => h9) rfl dWk_share_1 ?_
  refine lv_iload_n hx hb dWk_share_4 rfl (lv_at hl 1 rfl) ?_
  refine lv_dup2_11 hx hb dWk_share_5 rfl rfl ?_
  obtain ⟨hi1, hwp⟩ := hwp
  refine va_iald hx hb hK hP 41 0 rfl rfl hi1 dWk_share_6 ?_
  refine lv_iconst (v := 1) hx hb dWk_share_7 (by decide) ?_
  refine lv_iadd hx hb dWk_share_8 ?_
  obtain ⟨hi2, hwp⟩ := hwp
  refine va_iast hx hb hK hP hD hS 41 0 rfl rfl hi2 dWk_share_9 (fun H locs hP hD hS => ?_)
  obtain ⟨σ3, eσ3⟩ : ∃ z, z = cu σ 36 x1.toNatClampNeg ((σ.1 36 x1.toNatClampNeg) + 1) := ⟨_, rfl⟩
  have hwp := hwp σ3 eσ3
  have hP : va_P D clA (cw a t σ3) H := by rw [eσ3]; exact hP
  have hD : va_D A (cw a t σ3) := by rw [eσ3]; exact hD
  refine lv_aload_n hx hb dWk_share_10 rfl (lv_at hl 0 rfl) ?_
  refine lv_iload_n hx hb dWk_share_11 rfl (lv_at hl 1 rfl) ?_
  refine lv_iload_n hx hb dWk_share_12 rfl (lv_at hl 2 rfl) ?_
  refine lv_iconst (v := 0) hx hb dWk_share_13 (by decide) ?_
  refine lv_iconst (v := 0) hx hb dWk_share_14 (by decide) ?_
  obtain ⟨P4, hP4, hwp⟩ := hwp
  refine uCallUv (As := [.int x1, .int x2, .int 0, .int 0]) (rest := []) (C := RWk) ⟨hx, hb, hml, hown, hts⟩ (kC_Wk_send l D a A t   σ3 x1 x2 0 0 P4 hP4) (va_cwU (x := ⟨"NodeServices$Work", "send", "(IIII)V"⟩) (owner := "NodeServices$Service") 4 hts (gdU wm_564 wm_565 wm_566 wm_372 wm_4 wm_379) rfl rfl rfl rfl (by decide +kernel) ⟨Nat.le_of_ble_eq_true rfl, Nat.le_of_ble_eq_true rfl⟩) (va_recv (ci := 10) (q0 := 38) hK hP rfl rfl) hP hK hD hA hS rfl hl.1 rfl (Nat.le_of_ble_eq_true rfl) dWk_share_15 ⟨Nat.le_of_ble_eq_true rfl, Nat.le_of_ble_eq_true rfl⟩ (fun u5 H locs hu5 hP hD hS => ?_)
  have hwp := hwp u5 hu5
  exact W.vret hx hb hr (fun t ht hW => ⟨⟨u5, rfl, hwp, uEnd ht hW hP hK hD hS hA⟩, hS.F ht⟩) hS.2.2 dWk_share_18
-- NodeServices$Work: private void settle(int), on Wk
def wC_Wk_settle_51 (a : Nat → Nat) (R : CS → Prop) (σ : CS) (y1 : Int32) : Prop :=
  (((¬ (σ.1 33 0) = y1) → R σ) ∧ (((σ.1 33 0) = y1) → (∀ σ2 : CS, σ2 = cu σ 33 0 (-1) → (∀ σ3 : CS, σ3 = cu σ2 34 0 ((σ2.1 34 0) + 1) → R σ3))))
def wC_Wk_settle (a : Nat → Nat) (R : CS → Prop) (σ : CS) (x1 : Int32) : Prop :=
  (vp_in x1 4 ∧ (((¬ (σ.1 32 x1.toNatClampNeg) = 0) → R σ) ∧ (((σ.1 32 x1.toNatClampNeg) = 0) → (vp_in x1 4 ∧ ((((σ.1 36 x1.toNatClampNeg) = 0) → (vp_in x1 4 ∧ ((((σ.1 35 x1.toNatClampNeg) = (-1)) → wC_Wk_settle_51 a R σ x1) ∧ ((¬ (σ.1 35 x1.toNatClampNeg) = (-1)) → (vp_in x1 4 ∧ (∀ v11 : Int32, v11 = σ.1 35 x1.toNatClampNeg → (vp_in x1 4 ∧ (∀ σ13 : CS, σ13 = cu σ 35 x1.toNatClampNeg (-1) → (∃ P14 : CS → Prop, wC_Wk_send a P14 σ13 x1 v11 1 0 ∧ (∀ (u15 : CS), P14 u15 → wC_Wk_settle_51 a R u15 x1)))))))))) ∧ ((¬ (σ.1 36 x1.toNatClampNeg) = 0) → R σ))))))
abbrev wsWk_settle : List Cond := .code yWk_settle cWk_settle 3 none :: wg
abbrev rmC_Wk_settle : Room := { frames := 3, cells := 1, slots := 4, locals := 69 }
set_option maxHeartbeats 4000000 in
set_option maxRecDepth 100000 in
theorem kC_Wk_settle (l : Launch) (D : va_G) (a : Nat → Nat) (A : Nat → Prop) (t : Nat → ClassId) (σ : CS) (x1 : Int32) (R : CS → Prop) (hwp : wC_Wk_settle a R σ x1) : Met l yWk_settle wsWk_settle rmC_Wk_settle (va_Pc [.ref (a 38), .int x1] (uI D clA (cT t) A true (cw a t) σ)) (va_Qv R (uI D clA (cT t) A true (cw a t)) A) 1 4 A := by
  refine Met.ofW (cc := cWk_settle) (maxL := 3) (ret := none) (by decide) rfl ?_
  intro p e s m args below meth c s₁ B hml hv
  obtain ⟨rfl, hP, hK, hD, hA⟩ := hv
  have hx := B.exec
  have hb := B.bytes
  have hr := B.returns
  have hts := atoms_spec (ws := wsWk_settle) B.pre
  have hown : s.vm.findClass RWk = some m.cls := findClass_of_methodNamed B.named
  have hlocks := B.notSynchronized
  have hinWk : ∀ w ∈ u_ws RWk TWk 7, w ∈ wsWk_settle := fun w h => List.mem_cons_of_mem _ (inWk w h)
  have lk15 := hts _ (List.mem_cons_of_mem _ wm_211)
  have lk19 := hts _ (List.mem_cons_of_mem _ wm_215)
  have lk23 := hts _ (List.mem_cons_of_mem _ wm_216)
  have lk47 := hts _ (List.mem_cons_of_mem _ wm_213)
  have lk9 := hts _ (List.mem_cons_of_mem _ wm_209)
  have hS : va_S A s.heap s.heap [] := va_S.rf
  have cut51 : ∀ (σ : CS) (y1 : Int32) (H : Heap) (locs : List Loc) (ls : Array Slot), wC_Wk_settle_51 a R σ y1 → va_P D clA (cw a t σ) H → va_D A (cw a t σ) → va_S A s.heap H locs → lv_has ls 3 [(0, .ref (a 38)), (1, .int y1)] → W p l e (headSpec wsWk_settle rmC_Wk_settle).room s m ([.ref (a 38), .int x1] : List Value).toArray below meth c H locs 1 4 (MQ below (va_Qv R (uI D clA (cT t) A true (cw a t)) A) ([.ref (a 38), .int x1] : List Value).toArray s 1 4 A) (F0 m 51 ls []) := by
    intro σ y1 H locs ls hwp hP hD hS hl
    refine lv_aload_n hx hb dWk_settle_51 rfl (lv_at hl 0 rfl) ?_
    refine va_get (D := D) (ci := 10) (C := RWk) (T := TWk) (N := 7) hx hb hts hinWk hown hK hP 38 rfl rfl 1 (by decide) lk15 (fun _ h9 => h9) rfl dWk_settle_52 ?_
    refine lv_iload_n hx hb dWk_settle_55 rfl (lv_at hl 1 rfl) ?_
    refine lv_icmp_ne hx hb dWk_settle_56 rfl (fun h1 => ?_) (fun h1 => ?_)
    · have hwp := hwp.1 h1
      exact W.vret hx hb hr (fun t ht hW => ⟨⟨σ, rfl, hwp, uEnd ht hW hP hK hD hS hA⟩, hS.F ht⟩) hS.2.2 dWk_settle_74
    · have hwp := hwp.2 h1
      refine lv_aload_n hx hb dWk_settle_59 rfl (lv_at hl 0 rfl) ?_
      refine lv_iconst (v := (-1)) hx hb dWk_settle_60 (by decide) ?_
      refine va_put (ty := .int) (D := D) (ci := 10) (C := RWk) (T := TWk) (N := 7) hx hb hts hinWk tyWk tyWk_ok nmWk hown hK hP hD hS 38 rfl rfl 1 (by decide) lk15 (fun _ h9 => h9) rfl (by decide +kernel) rfl rfl (Nat.le_of_ble_eq_true rfl) dWk_settle_61 (fun H locs hP hD hS => ?_)
      obtain ⟨σ2, eσ2⟩ : ∃ z, z = cu σ 33 0 (-1) := ⟨_, rfl⟩
      have hwp := hwp σ2 eσ2
      have hP : va_P D clA (cw a t σ2) H := by rw [eσ2]; exact hP
      have hD : va_D A (cw a t σ2) := by rw [eσ2]; exact hD
      refine lv_aload_n hx hb dWk_settle_64 rfl (lv_at hl 0 rfl) ?_
      refine lv_dup hx hb dWk_settle_65 rfl ?_
      refine va_get (D := D) (ci := 10) (C := RWk) (T := TWk) (N := 7) hx hb hts hinWk hown hK hP 38 rfl rfl 2 (by decide) lk47 (fun _ h9 => h9) rfl dWk_settle_66 ?_
      refine lv_iconst (v := 1) hx hb dWk_settle_69 (by decide) ?_
      refine lv_iadd hx hb dWk_settle_70 ?_
      refine va_put (ty := .int) (D := D) (ci := 10) (C := RWk) (T := TWk) (N := 7) hx hb hts hinWk tyWk tyWk_ok nmWk hown hK hP hD hS 38 rfl rfl 2 (by decide) lk47 (fun _ h9 => h9) rfl (by decide +kernel) rfl rfl (Nat.le_of_ble_eq_true rfl) dWk_settle_71 (fun H locs hP hD hS => ?_)
      obtain ⟨σ3, eσ3⟩ : ∃ z, z = cu σ2 34 0 ((σ2.1 34 0) + 1) := ⟨_, rfl⟩
      have hwp := hwp σ3 eσ3
      have hP : va_P D clA (cw a t σ3) H := by rw [eσ3]; exact hP
      have hD : va_D A (cw a t σ3) := by rw [eσ3]; exact hD
      exact W.vret hx hb hr (fun t ht hW => ⟨⟨σ3, rfl, hwp, uEnd ht hW hP hK hD hS hA⟩, hS.F ht⟩) hS.2.2 dWk_settle_74
  have hl := lv_entry ([.ref (a 38), .int x1]) (n := 3) (Nat.le_of_ble_eq_true rfl)
  rw [lg_entry_eq]
  generalize (lg_sl ([.ref (a 38), .int x1]) ++ List.replicate (3 - (lg_sl ([.ref (a 38), .int x1])).length) Slot.unset).toArray = ls at hl ⊢
  have hl : lv_has ls 3 [(0, .ref (a 38)), (1, .int x1)] := hl
  refine lv_aload_n hx hb dWk_settle_0 rfl (lv_at hl 0 rfl) ?_
  refine va_get (D := D) (ci := 10) (C := RWk) (T := TWk) (N := 7) hx hb hts hinWk hown hK hP 38 rfl rfl 0 (by decide) lk9 (fun _ h9 => h9) rfl dWk_settle_1 ?_
  refine lv_iload_n hx hb dWk_settle_4 rfl (lv_at hl 1 rfl) ?_
  obtain ⟨hi4, hwp⟩ := hwp
  refine va_zald hx hb hK hP 39 1 rfl rfl hi4 dWk_settle_5 ?_
  refine lv_if_ne hx hb dWk_settle_6 rfl (fun h5 => ?_) (fun h5 => ?_)
  · have hwp := hwp.1 h5
    refine W.widen (k := 1) (n := 4) (by omega) (by omega) ?_
    exact W.vret hx hb hr (fun t ht hW => ⟨⟨σ, rfl, hwp, uEnd ht hW hP hK hD hS hA⟩, hS.F ht⟩) hS.2.2 dWk_settle_18
  · have hwp := hwp.2 h5
    refine lv_aload_n hx hb dWk_settle_9 rfl (lv_at hl 0 rfl) ?_
    refine va_get (D := D) (ci := 10) (C := RWk) (T := TWk) (N := 7) hx hb hts hinWk hown hK hP 38 rfl rfl 4 (by decide) lk23 (fun _ h9 => h9) rfl dWk_settle_10 ?_
    refine lv_iload_n hx hb dWk_settle_13 rfl (lv_at hl 1 rfl) ?_
    obtain ⟨hi6, hwp⟩ := hwp
    refine va_iald hx hb hK hP 41 0 rfl rfl hi6 dWk_settle_14 ?_
    refine lv_if_eq hx hb dWk_settle_15 rfl (fun h7 => ?_) (fun h7 => ?_)
    · have hwp := hwp.1 h7
      refine lv_aload_n hx hb dWk_settle_19 rfl (lv_at hl 0 rfl) ?_
      refine va_get (D := D) (ci := 10) (C := RWk) (T := TWk) (N := 7) hx hb hts hinWk hown hK hP 38 rfl rfl 3 (by decide) lk19 (fun _ h9 => h9) rfl dWk_settle_20 ?_
      refine lv_iload_n hx hb dWk_settle_23 rfl (lv_at hl 1 rfl) ?_
      obtain ⟨hi8, hwp⟩ := hwp
      refine va_iald hx hb hK hP 40 0 rfl rfl hi8 dWk_settle_24 ?_
      refine lv_iconst (v := (-1)) hx hb dWk_settle_25 (by decide) ?_
      refine lv_icmp_eq hx hb dWk_settle_26 rfl (fun h9 => ?_) (fun h9 => ?_)
      · have hwp := hwp.1 h9
        refine W.widen (k := 1) (n := 4) (by omega) (by omega) ?_
        exact cut51 σ x1 _ _ _ hwp hP hD hS (lv_sub hl [0, 1] rfl)
      · have hwp := hwp.2 h9
        refine lv_aload_n hx hb dWk_settle_29 rfl (lv_at hl 0 rfl) ?_
        refine va_get (D := D) (ci := 10) (C := RWk) (T := TWk) (N := 7) hx hb hts hinWk hown hK hP 38 rfl rfl 3 (by decide) lk19 (fun _ h9 => h9) rfl dWk_settle_30 ?_
        refine lv_iload_n hx hb dWk_settle_33 rfl (lv_at hl 1 rfl) ?_
        obtain ⟨hi10, hwp⟩ := hwp
        refine va_iald hx hb hK hP 40 0 rfl rfl hi10 dWk_settle_34 ?_
        refine lv_topi (fun v11 ev11 => ?_)
        have hwp := hwp v11 ev11
        refine lv_istore_n hx hb dWk_settle_35 rfl hl (by decide) rfl (fun ls hl => ?_)
        have hl : lv_has ls 3 [(2, .int v11), (0, .ref (a 38)), (1, .int x1)] := hl
        refine lv_aload_n hx hb dWk_settle_36 rfl (lv_at hl 1 rfl) ?_
        refine va_get (D := D) (ci := 10) (C := RWk) (T := TWk) (N := 7) hx hb hts hinWk hown hK hP 38 rfl rfl 3 (by decide) lk19 (fun _ h9 => h9) rfl dWk_settle_37 ?_
        refine lv_iload_n hx hb dWk_settle_40 rfl (lv_at hl 2 rfl) ?_
        refine lv_iconst (v := (-1)) hx hb dWk_settle_41 (by decide) ?_
        obtain ⟨hi12, hwp⟩ := hwp
        refine va_iast hx hb hK hP hD hS 40 0 rfl rfl hi12 dWk_settle_42 (fun H locs hP hD hS => ?_)
        obtain ⟨σ13, eσ13⟩ : ∃ z, z = cu σ 35 x1.toNatClampNeg (-1) := ⟨_, rfl⟩
        have hwp := hwp σ13 eσ13
        have hP : va_P D clA (cw a t σ13) H := by rw [eσ13]; exact hP
        have hD : va_D A (cw a t σ13) := by rw [eσ13]; exact hD
        refine lv_aload_n hx hb dWk_settle_43 rfl (lv_at hl 1 rfl) ?_
        refine lv_iload_n hx hb dWk_settle_44 rfl (lv_at hl 2 rfl) ?_
        refine lv_iload_n hx hb dWk_settle_45 rfl (lv_at hl 0 rfl) ?_
        refine lv_iconst (v := 1) hx hb dWk_settle_46 (by decide) ?_
        refine lv_iconst (v := 0) hx hb dWk_settle_47 (by decide) ?_
        obtain ⟨P14, hP14, hwp⟩ := hwp
        refine uCallUv (As := [.int x1, .int v11, .int 1, .int 0]) (rest := []) (C := RWk) ⟨hx, hb, hml, hown, hts⟩ (kC_Wk_send l D a A t   σ13 x1 v11 1 0 P14 hP14) (va_cwU (x := ⟨"NodeServices$Work", "send", "(IIII)V"⟩) (owner := "NodeServices$Service") 4 hts (gdU wm_564 wm_565 wm_566 wm_372 wm_4 wm_379) rfl rfl rfl rfl (by decide +kernel) ⟨Nat.le_of_ble_eq_true rfl, Nat.le_of_ble_eq_true rfl⟩) (va_recv (ci := 10) (q0 := 38) hK hP rfl rfl) hP hK hD hA hS rfl hl.1 rfl (Nat.le_of_ble_eq_true rfl) dWk_settle_48 ⟨Nat.le_of_ble_eq_true rfl, Nat.le_of_ble_eq_true rfl⟩ (fun u15 H locs hu15 hP hD hS => ?_)
        have hwp := hwp u15 hu15
        exact cut51 u15 x1 _ _ _ hwp hP hD hS (lv_sub hl [1, 2] rfl)
    · have hwp := hwp.2 h7
      refine W.widen (k := 1) (n := 4) (by omega) (by omega) ?_
      exact W.vret hx hb hr (fun t ht hW => ⟨⟨σ, rfl, hwp, uEnd ht hW hP hK hD hS hA⟩, hS.F ht⟩) hS.2.2 dWk_settle_18
-- NodeServices$Work: void pause(int), on Wk
def wC_Wk_pause (a : Nat → Nat) (R : CS → Prop) (σ : CS) (x1 : Int32) : Prop :=
  (vp_in x1 4 ∧ (∀ σ2 : CS, σ2 = cu σ 32 x1.toNatClampNeg (vp_nar .boolean 0) → (∃ P3 : CS → Prop, wC_Wk_settle a P3 σ2 x1 ∧ (∀ (u4 : CS), P3 u4 → R u4))))
abbrev wsWk_pause : List Cond := .code yWk_pause cWk_pause 2 none :: wg
abbrev rmC_Wk_pause : Room := { frames := 4, cells := 1, slots := 4, locals := 91 }
set_option maxHeartbeats 4000000 in
set_option maxRecDepth 100000 in
theorem kC_Wk_pause (l : Launch) (D : va_G) (a : Nat → Nat) (A : Nat → Prop) (t : Nat → ClassId) (σ : CS) (x1 : Int32) (R : CS → Prop) (hwp : wC_Wk_pause a R σ x1) : Met l yWk_pause wsWk_pause rmC_Wk_pause (va_Pc [.ref (a 38), .int x1] (uI D clA (cT t) A true (cw a t) σ)) (va_Qv R (uI D clA (cT t) A true (cw a t)) A) 1 4 A := by
  refine Met.ofW (cc := cWk_pause) (maxL := 2) (ret := none) (by decide) rfl ?_
  intro p e s m args below meth c s₁ B hml hv
  obtain ⟨rfl, hP, hK, hD, hA⟩ := hv
  have hx := B.exec
  have hb := B.bytes
  have hr := B.returns
  have hts := atoms_spec (ws := wsWk_pause) B.pre
  have hown : s.vm.findClass RWk = some m.cls := findClass_of_methodNamed B.named
  have hlocks := B.notSynchronized
  have hinWk : ∀ w ∈ u_ws RWk TWk 7, w ∈ wsWk_pause := fun w h => List.mem_cons_of_mem _ (inWk w h)
  have lk9 := hts _ (List.mem_cons_of_mem _ wm_209)
  have hS : va_S A s.heap s.heap [] := va_S.rf
  have hl := lv_entry ([.ref (a 38), .int x1]) (n := 2) (Nat.le_of_ble_eq_true rfl)
  rw [lg_entry_eq]
  generalize (lg_sl ([.ref (a 38), .int x1]) ++ List.replicate (2 - (lg_sl ([.ref (a 38), .int x1])).length) Slot.unset).toArray = ls at hl ⊢
  have hl : lv_has ls 2 [(0, .ref (a 38)), (1, .int x1)] := hl
  refine lv_aload_n hx hb dWk_pause_0 rfl (lv_at hl 0 rfl) ?_
  refine va_get (D := D) (ci := 10) (C := RWk) (T := TWk) (N := 7) hx hb hts hinWk hown hK hP 38 rfl rfl 0 (by decide) lk9 (fun _ h9 => h9) rfl dWk_pause_1 ?_
  refine lv_iload_n hx hb dWk_pause_4 rfl (lv_at hl 1 rfl) ?_
  refine lv_iconst (v := 0) hx hb dWk_pause_5 (by decide) ?_
  obtain ⟨hi1, hwp⟩ := hwp
  refine va_zast hx hb hK hP hD hS 39 1 rfl rfl hi1 dWk_pause_6 (fun H locs hP hD hS => ?_)
  obtain ⟨σ2, eσ2⟩ : ∃ z, z = cu σ 32 x1.toNatClampNeg (vp_nar .boolean 0) := ⟨_, rfl⟩
  have hwp := hwp σ2 eσ2
  have hP : va_P D clA (cw a t σ2) H := by rw [eσ2]; exact hP
  have hD : va_D A (cw a t σ2) := by rw [eσ2]; exact hD
  refine lv_aload_n hx hb dWk_pause_7 rfl (lv_at hl 0 rfl) ?_
  refine lv_iload_n hx hb dWk_pause_8 rfl (lv_at hl 1 rfl) ?_
  obtain ⟨P3, hP3, hwp⟩ := hwp
  refine uCallVv (As := [.int x1]) (rest := []) (C := RWk) ⟨hx, hb, hml, hown, hts⟩ (kC_Wk_settle l D a A t   σ2 x1 P3 hP3) (cwV 1 hts (gdV wm_579 wm_581 wp_8 wm_12 wm_582) rfl rfl rfl (by decide +kernel) ⟨Nat.le_of_ble_eq_true rfl, Nat.le_of_ble_eq_true rfl⟩) (va_recv (ci := 10) (q0 := 38) hK hP rfl rfl) hP hK hD hA hS rfl hl.1 rfl (Nat.le_of_ble_eq_true rfl) dWk_pause_9 ⟨Nat.le_of_ble_eq_true rfl, Nat.le_of_ble_eq_true rfl⟩ (fun u4 H locs hu4 hP hD hS => ?_)
  have hwp := hwp u4 hu4
  exact W.vret hx hb hr (fun t ht hW => ⟨⟨u4, rfl, hwp, uEnd ht hW hP hK hD hS hA⟩, hS.F ht⟩) hS.2.2 dWk_pause_12
-- NodeServices$Work: private void takeWork(int, int), on Wk
def wC_Wk_takeWork_26 (a : Nat → Nat) (R : CS → Prop) (σ : CS) (y1 : Int32) (y2 : Int32) : Prop :=
  (vp_in y2 4 ∧ (∀ σ2 : CS, σ2 = cu σ 32 y2.toNatClampNeg (vp_nar .boolean 1) → R σ2))
def wC_Wk_takeWork (a : Nat → Nat) (R : CS → Prop) (σ : CS) (x1 x2 : Int32) : Prop :=
  (∃ P3 : Int32 → CS → Prop, wC_Wk_isEngaged a P3 σ x2 ∧ (∀ (r5 : Int32) (u4 : CS), P3 r5 u4 → (((r5 = 0) → (vp_in x2 4 ∧ (∀ σ8 : CS, σ8 = cu u4 35 x2.toNatClampNeg x1 → wC_Wk_takeWork_26 a R σ8 x1 x2))) ∧ ((¬ r5 = 0) → (∃ P9 : CS → Prop, wC_Wk_send a P9 u4 x2 x1 1 0 ∧ (∀ (u10 : CS), P9 u10 → wC_Wk_takeWork_26 a R u10 x1 x2))))))
abbrev wsWk_takeWork : List Cond := .code yWk_takeWork cWk_takeWork 3 none :: wg
abbrev rmC_Wk_takeWork : Room := { frames := 3, cells := 1, slots := 4, locals := 69 }
set_option maxHeartbeats 4000000 in
set_option maxRecDepth 100000 in
theorem kC_Wk_takeWork (l : Launch) (D : va_G) (a : Nat → Nat) (A : Nat → Prop) (t : Nat → ClassId) (σ : CS) (x1 x2 : Int32) (R : CS → Prop) (hwp : wC_Wk_takeWork a R σ x1 x2) : Met l yWk_takeWork wsWk_takeWork rmC_Wk_takeWork (va_Pc [.ref (a 38), .int x1, .int x2] (uI D clA (cT t) A true (cw a t) σ)) (va_Qv R (uI D clA (cT t) A true (cw a t)) A) 1 4 A := by
  refine Met.ofW (cc := cWk_takeWork) (maxL := 3) (ret := none) (by decide) rfl ?_
  intro p e s m args below meth c s₁ B hml hv
  obtain ⟨rfl, hP, hK, hD, hA⟩ := hv
  have hx := B.exec
  have hb := B.bytes
  have hr := B.returns
  have hts := atoms_spec (ws := wsWk_takeWork) B.pre
  have hown : s.vm.findClass RWk = some m.cls := findClass_of_methodNamed B.named
  have hlocks := B.notSynchronized
  have hinWk : ∀ w ∈ u_ws RWk TWk 7, w ∈ wsWk_takeWork := fun w h => List.mem_cons_of_mem _ (inWk w h)
  have lk19 := hts _ (List.mem_cons_of_mem _ wm_215)
  have lk9 := hts _ (List.mem_cons_of_mem _ wm_209)
  have hS : va_S A s.heap s.heap [] := va_S.rf
  have cut26 : ∀ (σ : CS) (y1 : Int32) (y2 : Int32) (H : Heap) (locs : List Loc) (ls : Array Slot), wC_Wk_takeWork_26 a R σ y1 y2 → va_P D clA (cw a t σ) H → va_D A (cw a t σ) → va_S A s.heap H locs → lv_has ls 3 [(0, .ref (a 38)), (1, .int y1), (2, .int y2)] → W p l e (headSpec wsWk_takeWork rmC_Wk_takeWork).room s m ([.ref (a 38), .int x1, .int x2] : List Value).toArray below meth c H locs 1 4 (MQ below (va_Qv R (uI D clA (cT t) A true (cw a t)) A) ([.ref (a 38), .int x1, .int x2] : List Value).toArray s 1 4 A) (F0 m 26 ls []) := by
    intro σ y1 y2 H locs ls hwp hP hD hS hl
    refine lv_aload_n hx hb dWk_takeWork_26 rfl (lv_at hl 0 rfl) ?_
    refine va_get (D := D) (ci := 10) (C := RWk) (T := TWk) (N := 7) hx hb hts hinWk hown hK hP 38 rfl rfl 0 (by decide) lk9 (fun _ h9 => h9) rfl dWk_takeWork_27 ?_
    refine lv_iload_n hx hb dWk_takeWork_30 rfl (lv_at hl 2 rfl) ?_
    refine lv_iconst (v := 1) hx hb dWk_takeWork_31 (by decide) ?_
    obtain ⟨hi1, hwp⟩ := hwp
    refine va_zast hx hb hK hP hD hS 39 1 rfl rfl hi1 dWk_takeWork_32 (fun H locs hP hD hS => ?_)
    obtain ⟨σ2, eσ2⟩ : ∃ z, z = cu σ 32 y2.toNatClampNeg (vp_nar .boolean 1) := ⟨_, rfl⟩
    have hwp := hwp σ2 eσ2
    have hP : va_P D clA (cw a t σ2) H := by rw [eσ2]; exact hP
    have hD : va_D A (cw a t σ2) := by rw [eσ2]; exact hD
    exact W.vret hx hb hr (fun t ht hW => ⟨⟨σ2, rfl, hwp, uEnd ht hW hP hK hD hS hA⟩, hS.F ht⟩) hS.2.2 dWk_takeWork_33
  have hl := lv_entry ([.ref (a 38), .int x1, .int x2]) (n := 3) (Nat.le_of_ble_eq_true rfl)
  rw [lg_entry_eq]
  generalize (lg_sl ([.ref (a 38), .int x1, .int x2]) ++ List.replicate (3 - (lg_sl ([.ref (a 38), .int x1, .int x2])).length) Slot.unset).toArray = ls at hl ⊢
  have hl : lv_has ls 3 [(0, .ref (a 38)), (1, .int x1), (2, .int x2)] := hl
  refine lv_aload_n hx hb dWk_takeWork_0 rfl (lv_at hl 0 rfl) ?_
  refine lv_iload_n hx hb dWk_takeWork_1 rfl (lv_at hl 2 rfl) ?_
  obtain ⟨P3, hP3, hwp⟩ := hwp
  refine uCallVi (As := [.int x2]) (rest := []) (C := RWk) ⟨hx, hb, hml, hown, hts⟩ (kC_Wk_isEngaged l D a A t   σ x2 P3 hP3) (cwV 1 hts (gdV wm_535 wm_537 wp_7 wm_12 wm_538) rfl rfl rfl (by decide +kernel) ⟨Nat.le_of_ble_eq_true rfl, Nat.le_of_ble_eq_true rfl⟩) (va_recv (ci := 10) (q0 := 38) hK hP rfl rfl) hP hK hD hA hS rfl hl.1 rfl (Nat.le_of_ble_eq_true rfl) dWk_takeWork_2 ⟨Nat.le_of_ble_eq_true rfl, Nat.le_of_ble_eq_true rfl⟩ (fun r5 u4 H locs hu4 hP hD hS => ?_)
  have hwp := hwp r5 u4 hu4
  refine lv_if_eq hx hb dWk_takeWork_5 rfl (fun h6 => ?_) (fun h6 => ?_)
  · have hwp := hwp.1 h6
    refine lv_aload_n hx hb dWk_takeWork_19 rfl (lv_at hl 0 rfl) ?_
    refine va_get (D := D) (ci := 10) (C := RWk) (T := TWk) (N := 7) hx hb hts hinWk hown hK hP 38 rfl rfl 3 (by decide) lk19 (fun _ h9 => h9) rfl dWk_takeWork_20 ?_
    refine lv_iload_n hx hb dWk_takeWork_23 rfl (lv_at hl 2 rfl) ?_
    refine lv_iload_n hx hb dWk_takeWork_24 rfl (lv_at hl 1 rfl) ?_
    obtain ⟨hi7, hwp⟩ := hwp
    refine va_iast hx hb hK hP hD hS 40 0 rfl rfl hi7 dWk_takeWork_25 (fun H locs hP hD hS => ?_)
    obtain ⟨σ8, eσ8⟩ : ∃ z, z = cu u4 35 x2.toNatClampNeg x1 := ⟨_, rfl⟩
    have hwp := hwp σ8 eσ8
    have hP : va_P D clA (cw a t σ8) H := by rw [eσ8]; exact hP
    have hD : va_D A (cw a t σ8) := by rw [eσ8]; exact hD
    refine W.widen (k := 1) (n := 4) (by omega) (by omega) ?_
    exact cut26 σ8 x1 x2 _ _ _ hwp hP hD hS (lv_sub hl [0, 1, 2] rfl)
  · have hwp := hwp.2 h6
    refine lv_aload_n hx hb dWk_takeWork_8 rfl (lv_at hl 0 rfl) ?_
    refine lv_iload_n hx hb dWk_takeWork_9 rfl (lv_at hl 2 rfl) ?_
    refine lv_iload_n hx hb dWk_takeWork_10 rfl (lv_at hl 1 rfl) ?_
    refine lv_iconst (v := 1) hx hb dWk_takeWork_11 (by decide) ?_
    refine lv_iconst (v := 0) hx hb dWk_takeWork_12 (by decide) ?_
    obtain ⟨P9, hP9, hwp⟩ := hwp
    refine uCallUv (As := [.int x2, .int x1, .int 1, .int 0]) (rest := []) (C := RWk) ⟨hx, hb, hml, hown, hts⟩ (kC_Wk_send l D a A t   u4 x2 x1 1 0 P9 hP9) (va_cwU (x := ⟨"NodeServices$Work", "send", "(IIII)V"⟩) (owner := "NodeServices$Service") 4 hts (gdU wm_564 wm_565 wm_566 wm_372 wm_4 wm_379) rfl rfl rfl rfl (by decide +kernel) ⟨Nat.le_of_ble_eq_true rfl, Nat.le_of_ble_eq_true rfl⟩) (va_recv (ci := 10) (q0 := 38) hK hP rfl rfl) hP hK hD hA hS rfl hl.1 rfl (Nat.le_of_ble_eq_true rfl) dWk_takeWork_13 ⟨Nat.le_of_ble_eq_true rfl, Nat.le_of_ble_eq_true rfl⟩ (fun u10 H locs hu10 hP hD hS => ?_)
    have hwp := hwp u10 hu10
    refine lv_goto hx hb dWk_takeWork_16 rfl ?_
    exact cut26 u10 x1 x2 _ _ _ hwp hP hD hS (lv_sub hl [0, 1, 2] rfl)
-- NodeServices$Work: void receive(int, int, NodeServices$Message), on Wk
def wC_Wk_receive (a : Nat → Nat) (q : Nat) (R : CS → Prop) (σ : CS) (x1 x2 : Int32) : Prop :=
  (q ∈ σ.2.2 ∧ (((¬ (σ.1 42 q) = 0) → (vp_in x2 4 ∧ (vp_in x2 4 ∧ (∀ σ6 : CS, σ6 = cu σ 36 x2.toNatClampNeg ((σ.1 36 x2.toNatClampNeg) - 1) → (∃ P7 : CS → Prop, wC_Wk_settle a P7 σ6 x2 ∧ (∀ (u8 : CS), P7 u8 → R u8)))))) ∧ (((σ.1 42 q) = 0) → (∃ P9 : CS → Prop, wC_Wk_takeWork a P9 σ x1 x2 ∧ (∀ (u10 : CS), P9 u10 → R u10)))))
abbrev wsWk_receive : List Cond := .code yWk_receive cWk_receive 4 none :: wg
abbrev rmC_Wk_receive : Room := { frames := 4, cells := 1, slots := 4, locals := 91 }
set_option maxHeartbeats 4000000 in
set_option maxRecDepth 100000 in
theorem kC_Wk_receive (l : Launch) (D : va_G) (a : Nat → Nat) (A : Nat → Prop) (t : Nat → ClassId) (q : Nat) (σ : CS) (x1 x2 : Int32) (R : CS → Prop) (hwp : wC_Wk_receive a q R σ x1 x2) : Met l yWk_receive wsWk_receive rmC_Wk_receive (va_Pc [.ref (a 38), .int x1, .int x2, .ref q] (uI D clA (cT t) A true (cw a t) σ)) (va_Qv R (uI D clA (cT t) A true (cw a t)) A) 1 4 A := by
  refine Met.ofW (cc := cWk_receive) (maxL := 4) (ret := none) (by decide) rfl ?_
  intro p e s m args below meth c s₁ B hml hv
  obtain ⟨rfl, hP, hK, hD, hA⟩ := hv
  have hx := B.exec
  have hb := B.bytes
  have hr := B.returns
  have hts := atoms_spec (ws := wsWk_receive) B.pre
  have hown : s.vm.findClass RWk = some m.cls := findClass_of_methodNamed B.named
  have hlocks := B.notSynchronized
  have hinMs : ∀ w ∈ u_ws RMs TMs 4, w ∈ wsWk_receive := fun w h => List.mem_cons_of_mem _ (inMs w h)
  have hinWk : ∀ w ∈ u_ws RWk TWk 7, w ∈ wsWk_receive := fun w h => List.mem_cons_of_mem _ (inWk w h)
  have lk23 := hts _ (List.mem_cons_of_mem _ wm_216)
  have lk38 := hts _ (List.mem_cons_of_mem _ wm_393)
  have hS : va_S A s.heap s.heap [] := va_S.rf
  have hl := lv_entry ([.ref (a 38), .int x1, .int x2, .ref q]) (n := 4) (Nat.le_of_ble_eq_true rfl)
  rw [lg_entry_eq]
  generalize (lg_sl ([.ref (a 38), .int x1, .int x2, .ref q]) ++ List.replicate (4 - (lg_sl ([.ref (a 38), .int x1, .int x2, .ref q])).length) Slot.unset).toArray = ls at hl ⊢
  have hl : lv_has ls 4 [(0, .ref (a 38)), (1, .int x1), (2, .int x2), (3, .ref q)] := hl
  refine lv_aload_n hx hb dWk_receive_0 rfl (lv_at hl 3 rfl) ?_
  obtain ⟨hm1, hwp⟩ := hwp
  obtain ⟨km2, hkm2⟩ := cw_ms (a := a) (t := t) hm1
  refine va_get (D := D) (ci := 4) (C := RMs) (T := TMs) (N := 4) hx hb hts hinMs hown hK hP km2 hkm2 rfl 1 (by decide) lk38 (fun _ h9 => h9) rfl dWk_receive_1 ?_
  refine lv_if_ne hx hb dWk_receive_4 rfl (fun h3 => ?_) (fun h3 => ?_)
  · have hwp := hwp.1 h3
    refine lv_aload_n hx hb dWk_receive_16 rfl (lv_at hl 0 rfl) ?_
    refine va_get (D := D) (ci := 10) (C := RWk) (T := TWk) (N := 7) hx hb hts hinWk hown hK hP 38 rfl rfl 4 (by decide) lk23 (fun _ h9 => h9) rfl dWk_receive_17 ?_
    refine lv_iload_n hx hb dWk_receive_20 rfl (lv_at hl 2 rfl) ?_
    refine lv_dup2_11 hx hb dWk_receive_21 rfl rfl ?_
    obtain ⟨hi4, hwp⟩ := hwp
    refine va_iald hx hb hK hP 41 0 rfl rfl hi4 dWk_receive_22 ?_
    refine lv_iconst (v := 1) hx hb dWk_receive_23 (by decide) ?_
    refine lv_isub hx hb dWk_receive_24 ?_
    obtain ⟨hi5, hwp⟩ := hwp
    refine va_iast hx hb hK hP hD hS 41 0 rfl rfl hi5 dWk_receive_25 (fun H locs hP hD hS => ?_)
    obtain ⟨σ6, eσ6⟩ : ∃ z, z = cu σ 36 x2.toNatClampNeg ((σ.1 36 x2.toNatClampNeg) - 1) := ⟨_, rfl⟩
    have hwp := hwp σ6 eσ6
    have hP : va_P D clA (cw a t σ6) H := by rw [eσ6]; exact hP
    have hD : va_D A (cw a t σ6) := by rw [eσ6]; exact hD
    refine lv_aload_n hx hb dWk_receive_26 rfl (lv_at hl 0 rfl) ?_
    refine lv_iload_n hx hb dWk_receive_27 rfl (lv_at hl 2 rfl) ?_
    obtain ⟨P7, hP7, hwp⟩ := hwp
    refine uCallVv (As := [.int x2]) (rest := []) (C := RWk) ⟨hx, hb, hml, hown, hts⟩ (kC_Wk_settle l D a A t   σ6 x2 P7 hP7) (cwV 1 hts (gdV wm_579 wm_581 wp_8 wm_12 wm_582) rfl rfl rfl (by decide +kernel) ⟨Nat.le_of_ble_eq_true rfl, Nat.le_of_ble_eq_true rfl⟩) (va_recv (ci := 10) (q0 := 38) hK hP rfl rfl) hP hK hD hA hS rfl hl.1 rfl (Nat.le_of_ble_eq_true rfl) dWk_receive_28 ⟨Nat.le_of_ble_eq_true rfl, Nat.le_of_ble_eq_true rfl⟩ (fun u8 H locs hu8 hP hD hS => ?_)
    have hwp := hwp u8 hu8
    exact W.vret hx hb hr (fun t ht hW => ⟨⟨u8, rfl, hwp, uEnd ht hW hP hK hD hS hA⟩, hS.F ht⟩) hS.2.2 dWk_receive_31
  · have hwp := hwp.2 h3
    refine lv_aload_n hx hb dWk_receive_7 rfl (lv_at hl 0 rfl) ?_
    refine lv_iload_n hx hb dWk_receive_8 rfl (lv_at hl 1 rfl) ?_
    refine lv_iload_n hx hb dWk_receive_9 rfl (lv_at hl 2 rfl) ?_
    obtain ⟨P9, hP9, hwp⟩ := hwp
    refine uCallVv (As := [.int x1, .int x2]) (rest := []) (C := RWk) ⟨hx, hb, hml, hown, hts⟩ (kC_Wk_takeWork l D a A t   σ x1 x2 P9 hP9) (cwV 2 hts (gdV wm_662 wm_664 wp_15 wm_12 wm_665) rfl rfl rfl (by decide +kernel) ⟨Nat.le_of_ble_eq_true rfl, Nat.le_of_ble_eq_true rfl⟩) (va_recv (ci := 10) (q0 := 38) hK hP rfl rfl) hP hK hD hA hS rfl hl.1 rfl (Nat.le_of_ble_eq_true rfl) dWk_receive_10 ⟨Nat.le_of_ble_eq_true rfl, Nat.le_of_ble_eq_true rfl⟩ (fun u10 H locs hu10 hP hD hS => ?_)
    have hwp := hwp u10 hu10
    refine lv_goto hx hb dWk_receive_13 rfl ?_
    exact W.vret hx hb hr (fun t ht hW => ⟨⟨u10, rfl, hwp, uEnd ht hW hP hK hD hS hA⟩, hS.F ht⟩) hS.2.2 dWk_receive_31
end
