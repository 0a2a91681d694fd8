abbrev mT (tI tZ : ClassId) : List (ClassId × FieldType) := [(tI, .int), (tZ, .boolean)]
def mw (a : Nat → Nat) (tI tZ : ClassId) (σ : MS) : va_W := [(a 0, .inr (0, [.ref (a 1), .ref (a 2), .ref (a 3), .ref (a 4), .ref (a 5), .ref (a 6), .int (σ 6 0), .int (σ 7 0), .ref (a 7), .int (σ 9 0), .int (σ 10 0), .ref (a 8), .ref (a 9), .ref (a 10), .ref (a 11), .ref (a 12), .ref (a 13), .int (σ 17 0), .int (σ 18 0), .ref (a 14), .ref (a 15), .ref (a 16), .ref (a 17), .ref (a 18), .ref (a 19), .ref (a 20), .ref (a 21), .int (σ 27 0), .int (σ 28 0), .ref (a 22), .ref (a 23), .ref (a 24), .int (σ 32 0)])),
  (a 1, .inl (tI, 16, .inl (σ 0))),
  (a 2, .inl (tI, 16, .inl (σ 1))),
  (a 3, .inl (tI, 16, .inl (σ 2))),
  (a 4, .inl (tI, 700, .inl (σ 3))),
  (a 5, .inl (tI, 700, .inl (σ 4))),
  (a 6, .inl (tI, 700, .inl (σ 5))),
  (a 7, .inl (tI, 12, .inl (σ 8))),
  (a 8, .inl (tI, 4, .inl (σ 11))),
  (a 9, .inl (tI, 4, .inl (σ 12))),
  (a 10, .inl (tI, 4, .inl (σ 13))),
  (a 11, .inl (tI, 4, .inl (σ 14))),
  (a 12, .inl (tI, 16, .inl (σ 15))),
  (a 13, .inl (tI, 4, .inl (σ 16))),
  (a 14, .inl (tI, 4, .inl (σ 19))),
  (a 15, .inl (tI, 4, .inl (σ 20))),
  (a 16, .inl (tI, 4, .inl (σ 21))),
  (a 17, .inl (tI, 32, .inl (σ 22))),
  (a 18, .inl (tZ, 4, .inl (σ 23))),
  (a 19, .inl (tI, 4, .inl (σ 24))),
  (a 20, .inl (tI, 4, .inl (σ 25))),
  (a 21, .inl (tZ, 4, .inl (σ 26))),
  (a 22, .inl (tZ, 4, .inl (σ 29))),
  (a 23, .inl (tI, 4, .inl (σ 30))),
  (a 24, .inl (tI, 4, .inl (σ 31)))]
-- public int thrown()
def wM_thrown (R : Int32 → MS → Prop) (σ : MS) : Prop :=
  R (σ 32 0) σ
abbrev wsMo_thrown : List Cond := .code yMo_thrown cMo_thrown 1 (some .int) :: wg
abbrev rmM_thrown : Room := { frames := 0, cells := 0, slots := 0, locals := 0 }
set_option maxHeartbeats 4000000 in
set_option maxRecDepth 100000 in
theorem kM_thrown (l : Launch) (D : va_G) (a : Nat → Nat) (A : Nat → Prop) (tI tZ : ClassId) (σ : MS) (R : Int32 → MS → Prop) (hwp : wM_thrown R σ ) : Met l yMo_thrown wsMo_thrown rmM_thrown (va_Pc [.ref (a 0)] (uI D clA (mT tI tZ) A false (mw a tI tZ) σ)) (va_Qi R (uI D clA (mT tI tZ) A false (mw a tI tZ)) A) 0 0 A := by
  refine Met.ofW (cc := cMo_thrown) (maxL := 1) (ret := (some .int)) (by decide) rfl ?_
  intro p e s m args below meth c s₁ B hml hv
  obtain ⟨rfl, hP, hK, hD, hA⟩ := hv
  have hx := B.exec
  have hb := B.bytes
  have hr := B.returns
  have hts := atoms_spec (ws := wsMo_thrown) B.pre
  have hown : s.vm.findClass RMo = some m.cls := findClass_of_methodNamed B.named
  have hlocks := B.notSynchronized
  have hin0 : ∀ w ∈ u_ws RMo TMo 33, w ∈ wsMo_thrown := fun w h => List.mem_cons_of_mem _ (inMo w h)
  have k90 := hts _ (List.mem_cons_of_mem _ wm_768)
  have hS : va_S A s.heap s.heap [] := va_S.rf
  have hl := lv_entry ([.ref (a 0)]) (n := 1) (Nat.le_of_ble_eq_true rfl)
  rw [lg_entry_eq]
  generalize (lg_sl ([.ref (a 0)]) ++ List.replicate (1 - (lg_sl ([.ref (a 0)])).length) Slot.unset).toArray = ls at hl ⊢
  have hl : lv_has ls 1 [(0, .ref (a 0))] := hl
  refine lv_aload_n hx hb dMo_thrown_0 rfl (lv_at hl 0 rfl) ?_
  refine va_get (D := D) (ci := 0) (C := RMo) (T := TMo) (N := 33) hx hb hts hin0 hown hK hP 0 rfl rfl 32 (by decide) k90 (fun _ h9 => h9) rfl dMo_thrown_1 ?_
  exact W.iret (v := σ 32 0) hx hb hr (fun t ht hW => ⟨⟨σ 32 0, σ, rfl, hwp, uEnd ht hW hP hK hD hS hA⟩, hS.F ht⟩) hS.2.2 dMo_thrown_4
-- private static boolean isNode(int)
def wM_isNode_13 (R : Int32 → MS → Prop) (σ : MS) (y0 : Int32) : Prop :=
  R 0 σ
def wM_isNode (R : Int32 → MS → Prop) (σ : MS) (x1 : Int32) : Prop :=
  (((x1 < 0) → wM_isNode_13 R σ x1) ∧ ((¬ x1 < 0) → (((4 ≤ x1) → wM_isNode_13 R σ x1) ∧ ((¬ 4 ≤ x1) → R 1 σ))))
abbrev wsMo_isNode : List Cond := .code yMo_isNode cMo_isNode 1 (some .boolean) :: wg
abbrev rmM_isNode : Room := { frames := 0, cells := 0, slots := 0, locals := 0 }
set_option maxHeartbeats 4000000 in
set_option maxRecDepth 100000 in
theorem kM_isNode (l : Launch) (D : va_G) (a : Nat → Nat) (A : Nat → Prop) (tI tZ : ClassId) (σ : MS) (x1 : Int32) (R : Int32 → MS → Prop) (hwp : wM_isNode R σ x1) : Met l yMo_isNode wsMo_isNode rmM_isNode (va_Pc [.int x1] (uI D clA (mT tI tZ) A false (mw a tI tZ) σ)) (va_Qi R (uI D clA (mT tI tZ) A false (mw a tI tZ)) A) 0 0 A := by
  refine Met.ofW (cc := cMo_isNode) (maxL := 1) (ret := (some .boolean)) (by decide) rfl ?_
  intro p e s m args below meth c s₁ B hml hv
  obtain ⟨rfl, hP, hK, hD, hA⟩ := hv
  have hx := B.exec
  have hb := B.bytes
  have hr := B.returns
  have hts := atoms_spec (ws := wsMo_isNode) B.pre
  have hown : s.vm.findClass RMo = some m.cls := findClass_of_methodNamed B.named
  have hlocks := B.notSynchronized
  have hS : va_S A s.heap s.heap [] := va_S.rf
  have cut13 : ∀ (σ : MS) (y0 : Int32) (H : Heap) (locs : List Loc) (ls : Array Slot), wM_isNode_13 R σ y0 → va_P D clA (mw a tI tZ σ) H → va_D A (mw a tI tZ σ) → va_S A s.heap H locs → lv_has ls 1 [(0, .int y0)] → W p l e (headSpec wsMo_isNode rmM_isNode).room s m ([.int x1] : List Value).toArray below meth c H locs 0 0 (MQ below (va_Qi R (uI D clA (mT tI tZ) A false (mw a tI tZ)) A) ([.int x1] : List Value).toArray s 0 0 A) (F0 m 13 ls []) := by
    intro σ y0 H locs ls hwp hP hD hS hl
    refine lv_iconst (v := 0) hx hb dMo_isNode_13 (by decide) ?_
    exact W.zret (v := 0) hx hb hr (by decide) (fun t ht hW => ⟨⟨0, σ, rfl, hwp, uEnd ht hW hP hK hD hS hA⟩, hS.F ht⟩) hS.2.2 dMo_isNode_14
  have hl := lv_entry ([.int x1]) (n := 1) (Nat.le_of_ble_eq_true rfl)
  rw [lg_entry_eq]
  generalize (lg_sl ([.int x1]) ++ List.replicate (1 - (lg_sl ([.int x1])).length) Slot.unset).toArray = ls at hl ⊢
  have hl : lv_has ls 1 [(0, .int x1)] := hl
  refine lv_iload_n hx hb dMo_isNode_0 rfl (lv_at hl 0 rfl) ?_
  refine lv_if_lt hx hb dMo_isNode_1 rfl (fun h1 => ?_) (fun h1 => ?_)
  · have hwp := hwp.1 h1
    exact cut13 σ x1 _ _ _ hwp hP hD hS (lv_sub hl [0] rfl)
  · have hwp := hwp.2 h1
    refine lv_iload_n hx hb dMo_isNode_4 rfl (lv_at hl 0 rfl) ?_
    refine lv_iconst (v := 4) hx hb dMo_isNode_5 (by decide) ?_
    refine lv_icmp_ge hx hb dMo_isNode_6 rfl (fun h2 => ?_) (fun h2 => ?_)
    · have hwp := hwp.1 h2
      exact cut13 σ x1 _ _ _ hwp hP hD hS (lv_sub hl [0] rfl)
    · have hwp := hwp.2 h2
      refine lv_iconst (v := 1) hx hb dMo_isNode_9 (by decide) ?_
      refine lv_goto hx hb dMo_isNode_10 rfl ?_
      exact W.zret (v := 1) hx hb hr (by decide) (fun t ht hW => ⟨⟨1, σ, rfl, hwp, uEnd ht hW hP hK hD hS hA⟩, hS.F ht⟩) hS.2.2 dMo_isNode_14
-- private static boolean isChannel(int, int)
def wM_isChannel_23 (R : Int32 → MS → Prop) (σ : MS) (y0 : Int32) (y1 : Int32) : Prop :=
  R 0 σ
def wM_isChannel (R : Int32 → MS → Prop) (σ : MS) (x1 x2 : Int32) : Prop :=
  (∃ P1 : Int32 → MS → Prop, wM_isNode P1 σ x1 ∧ (∀ (r3 : Int32) (u2 : MS), P1 r3 u2 → (((r3 = 0) → wM_isChannel_23 R u2 x1 x2) ∧ ((¬ r3 = 0) → (∃ P5 : Int32 → MS → Prop, wM_isNode P5 u2 x2 ∧ (∀ (r7 : Int32) (u6 : MS), P5 r7 u6 → (((r7 = 0) → wM_isChannel_23 R u6 x1 x2) ∧ ((¬ r7 = 0) → (((x1 = x2) → wM_isChannel_23 R u6 x1 x2) ∧ ((¬ x1 = x2) → R 1 u6))))))))))
abbrev wsMo_isChannel : List Cond := .code yMo_isChannel cMo_isChannel 2 (some .boolean) :: wg
abbrev rmM_isChannel : Room := { frames := 1, cells := 0, slots := 0, locals := 20 }
set_option maxHeartbeats 4000000 in
set_option maxRecDepth 100000 in
theorem kM_isChannel (l : Launch) (D : va_G) (a : Nat → Nat) (A : Nat → Prop) (tI tZ : ClassId) (σ : MS) (x1 x2 : Int32) (R : Int32 → MS → Prop) (hwp : wM_isChannel R σ x1 x2) : Met l yMo_isChannel wsMo_isChannel rmM_isChannel (va_Pc [.int x1, .int x2] (uI D clA (mT tI tZ) A false (mw a tI tZ) σ)) (va_Qi R (uI D clA (mT tI tZ) A false (mw a tI tZ)) A) 0 0 A := by
  refine Met.ofW (cc := cMo_isChannel) (maxL := 2) (ret := (some .boolean)) (by decide) rfl ?_
  intro p e s m args below meth c s₁ B hml hv
  obtain ⟨rfl, hP, hK, hD, hA⟩ := hv
  have hx := B.exec
  have hb := B.bytes
  have hr := B.returns
  have hts := atoms_spec (ws := wsMo_isChannel) B.pre
  have hown : s.vm.findClass RMo = some m.cls := findClass_of_methodNamed B.named
  have hlocks := B.notSynchronized
  have hS : va_S A s.heap s.heap [] := va_S.rf
  have cut23 : ∀ (σ : MS) (y0 : Int32) (y1 : Int32) (H : Heap) (locs : List Loc) (ls : Array Slot), wM_isChannel_23 R σ y0 y1 → va_P D clA (mw a tI tZ σ) H → va_D A (mw a tI tZ σ) → va_S A s.heap H locs → lv_has ls 2 [(0, .int y0), (1, .int y1)] → W p l e (headSpec wsMo_isChannel rmM_isChannel).room s m ([.int x1, .int x2] : List Value).toArray below meth c H locs 0 0 (MQ below (va_Qi R (uI D clA (mT tI tZ) A false (mw a tI tZ)) A) ([.int x1, .int x2] : List Value).toArray s 0 0 A) (F0 m 23 ls []) := by
    intro σ y0 y1 H locs ls hwp hP hD hS hl
    refine lv_iconst (v := 0) hx hb dMo_isChannel_23 (by decide) ?_
    exact W.zret (v := 0) hx hb hr (by decide) (fun t ht hW => ⟨⟨0, σ, rfl, hwp, uEnd ht hW hP hK hD hS hA⟩, hS.F ht⟩) hS.2.2 dMo_isChannel_24
  have hl := lv_entry ([.int x1, .int x2]) (n := 2) (Nat.le_of_ble_eq_true rfl)
  rw [lg_entry_eq]
  generalize (lg_sl ([.int x1, .int x2]) ++ List.replicate (2 - (lg_sl ([.int x1, .int x2])).length) Slot.unset).toArray = ls at hl ⊢
  have hl : lv_has ls 2 [(0, .int x1), (1, .int x2)] := hl
  refine lv_iload_n hx hb dMo_isChannel_0 rfl (lv_at hl 0 rfl) ?_
  obtain ⟨P1, hP1, hwp⟩ := hwp
  refine uCallSi (As := [.int x1]) (rest := []) ⟨hx, hb, hml, hown, hts⟩ (kM_isNode l D a A tI tZ σ x1 P1 hP1) (cwS 1 hts (gdS wm_847 wm_848 wm_13 wm_849) rfl rfl rfl (by decide +kernel) ⟨Nat.le_of_ble_eq_true rfl, Nat.le_of_ble_eq_true rfl⟩) hP hK hD hA hS rfl hl.1 rfl (Nat.le_of_ble_eq_true rfl) dMo_isChannel_1 ⟨Nat.le_of_ble_eq_true rfl, Nat.le_of_ble_eq_true rfl⟩ (fun r3 u2 H locs hu2 hP hD hS => ?_)
  have hwp := hwp r3 u2 hu2
  refine lv_if_eq hx hb dMo_isChannel_4 rfl (fun h4 => ?_) (fun h4 => ?_)
  · have hwp := hwp.1 h4
    exact cut23 u2 x1 x2 _ _ _ hwp hP hD hS (lv_sub hl [0, 1] rfl)
  · have hwp := hwp.2 h4
    refine lv_iload_n hx hb dMo_isChannel_7 rfl (lv_at hl 1 rfl) ?_
    obtain ⟨P5, hP5, hwp⟩ := hwp
    refine uCallSi (As := [.int x2]) (rest := []) ⟨hx, hb, hml, hown, hts⟩ (kM_isNode l D a A tI tZ u2 x2 P5 hP5) (cwS 1 hts (gdS wm_847 wm_848 wm_13 wm_849) rfl rfl rfl (by decide +kernel) ⟨Nat.le_of_ble_eq_true rfl, Nat.le_of_ble_eq_true rfl⟩) hP hK hD hA hS rfl hl.1 rfl (Nat.le_of_ble_eq_true rfl) dMo_isChannel_8 ⟨Nat.le_of_ble_eq_true rfl, Nat.le_of_ble_eq_true rfl⟩ (fun r7 u6 H locs hu6 hP hD hS => ?_)
    have hwp := hwp r7 u6 hu6
    refine lv_if_eq hx hb dMo_isChannel_11 rfl (fun h8 => ?_) (fun h8 => ?_)
    · have hwp := hwp.1 h8
      exact cut23 u6 x1 x2 _ _ _ hwp hP hD hS (lv_sub hl [0, 1] rfl)
    · have hwp := hwp.2 h8
      refine lv_iload_n hx hb dMo_isChannel_14 rfl (lv_at hl 0 rfl) ?_
      refine lv_iload_n hx hb dMo_isChannel_15 rfl (lv_at hl 1 rfl) ?_
      refine lv_icmp_eq hx hb dMo_isChannel_16 rfl (fun h9 => ?_) (fun h9 => ?_)
      · have hwp := hwp.1 h9
        exact cut23 u6 x1 x2 _ _ _ hwp hP hD hS (lv_sub hl [0, 1] rfl)
      · have hwp := hwp.2 h9
        refine lv_iconst (v := 1) hx hb dMo_isChannel_19 (by decide) ?_
        refine lv_goto hx hb dMo_isChannel_20 rfl ?_
        exact W.zret (v := 1) hx hb hr (by decide) (fun t ht hW => ⟨⟨1, u6, rfl, hwp, uEnd ht hW hP hK hD hS hA⟩, hS.F ht⟩) hS.2.2 dMo_isChannel_24
-- private static boolean isLock(int, int)
def wM_isLock_20 (R : Int32 → MS → Prop) (σ : MS) (y0 : Int32) (y1 : Int32) : Prop :=
  R 0 σ
def wM_isLock (R : Int32 → MS → Prop) (σ : MS) (x1 x2 : Int32) : Prop :=
  (((x1 < 0) → wM_isLock_20 R σ x1 x2) ∧ ((¬ x1 < 0) → (((3 ≤ x1) → wM_isLock_20 R σ x1 x2) ∧ ((¬ 3 ≤ x1) → (∃ P3 : Int32 → MS → Prop, wM_isNode P3 σ x2 ∧ (∀ (r5 : Int32) (u4 : MS), P3 r5 u4 → (((r5 = 0) → wM_isLock_20 R u4 x1 x2) ∧ ((¬ r5 = 0) → R 1 u4))))))))
abbrev wsMo_isLock : List Cond := .code yMo_isLock cMo_isLock 2 (some .boolean) :: wg
abbrev rmM_isLock : Room := { frames := 1, cells := 0, slots := 0, locals := 20 }
set_option maxHeartbeats 4000000 in
set_option maxRecDepth 100000 in
theorem kM_isLock (l : Launch) (D : va_G) (a : Nat → Nat) (A : Nat → Prop) (tI tZ : ClassId) (σ : MS) (x1 x2 : Int32) (R : Int32 → MS → Prop) (hwp : wM_isLock R σ x1 x2) : Met l yMo_isLock wsMo_isLock rmM_isLock (va_Pc [.int x1, .int x2] (uI D clA (mT tI tZ) A false (mw a tI tZ) σ)) (va_Qi R (uI D clA (mT tI tZ) A false (mw a tI tZ)) A) 0 0 A := by
  refine Met.ofW (cc := cMo_isLock) (maxL := 2) (ret := (some .boolean)) (by decide) rfl ?_
  intro p e s m args below meth c s₁ B hml hv
  obtain ⟨rfl, hP, hK, hD, hA⟩ := hv
  have hx := B.exec
  have hb := B.bytes
  have hr := B.returns
  have hts := atoms_spec (ws := wsMo_isLock) B.pre
  have hown : s.vm.findClass RMo = some m.cls := findClass_of_methodNamed B.named
  have hlocks := B.notSynchronized
  have hS : va_S A s.heap s.heap [] := va_S.rf
  have cut20 : ∀ (σ : MS) (y0 : Int32) (y1 : Int32) (H : Heap) (locs : List Loc) (ls : Array Slot), wM_isLock_20 R σ y0 y1 → va_P D clA (mw a tI tZ σ) H → va_D A (mw a tI tZ σ) → va_S A s.heap H locs → lv_has ls 2 [(0, .int y0), (1, .int y1)] → W p l e (headSpec wsMo_isLock rmM_isLock).room s m ([.int x1, .int x2] : List Value).toArray below meth c H locs 0 0 (MQ below (va_Qi R (uI D clA (mT tI tZ) A false (mw a tI tZ)) A) ([.int x1, .int x2] : List Value).toArray s 0 0 A) (F0 m 20 ls []) := by
    intro σ y0 y1 H locs ls hwp hP hD hS hl
    refine lv_iconst (v := 0) hx hb dMo_isLock_20 (by decide) ?_
    exact W.zret (v := 0) hx hb hr (by decide) (fun t ht hW => ⟨⟨0, σ, rfl, hwp, uEnd ht hW hP hK hD hS hA⟩, hS.F ht⟩) hS.2.2 dMo_isLock_21
  have hl := lv_entry ([.int x1, .int x2]) (n := 2) (Nat.le_of_ble_eq_true rfl)
  rw [lg_entry_eq]
  generalize (lg_sl ([.int x1, .int x2]) ++ List.replicate (2 - (lg_sl ([.int x1, .int x2])).length) Slot.unset).toArray = ls at hl ⊢
  have hl : lv_has ls 2 [(0, .int x1), (1, .int x2)] := hl
  refine lv_iload_n hx hb dMo_isLock_0 rfl (lv_at hl 0 rfl) ?_
  refine lv_if_lt hx hb dMo_isLock_1 rfl (fun h1 => ?_) (fun h1 => ?_)
  · have hwp := hwp.1 h1
    exact cut20 σ x1 x2 _ _ _ hwp hP hD hS (lv_sub hl [0, 1] rfl)
  · have hwp := hwp.2 h1
    refine lv_iload_n hx hb dMo_isLock_4 rfl (lv_at hl 0 rfl) ?_
    refine lv_iconst (v := 3) hx hb dMo_isLock_5 (by decide) ?_
    refine lv_icmp_ge hx hb dMo_isLock_6 rfl (fun h2 => ?_) (fun h2 => ?_)
    · have hwp := hwp.1 h2
      exact cut20 σ x1 x2 _ _ _ hwp hP hD hS (lv_sub hl [0, 1] rfl)
    · have hwp := hwp.2 h2
      refine lv_iload_n hx hb dMo_isLock_9 rfl (lv_at hl 1 rfl) ?_
      obtain ⟨P3, hP3, hwp⟩ := hwp
      refine uCallSi (As := [.int x2]) (rest := []) ⟨hx, hb, hml, hown, hts⟩ (kM_isNode l D a A tI tZ σ x2 P3 hP3) (cwS 1 hts (gdS wm_847 wm_848 wm_13 wm_849) rfl rfl rfl (by decide +kernel) ⟨Nat.le_of_ble_eq_true rfl, Nat.le_of_ble_eq_true rfl⟩) hP hK hD hA hS rfl hl.1 rfl (Nat.le_of_ble_eq_true rfl) dMo_isLock_10 ⟨Nat.le_of_ble_eq_true rfl, Nat.le_of_ble_eq_true rfl⟩ (fun r5 u4 H locs hu4 hP hD hS => ?_)
      have hwp := hwp r5 u4 hu4
      refine lv_if_eq hx hb dMo_isLock_13 rfl (fun h6 => ?_) (fun h6 => ?_)
      · have hwp := hwp.1 h6
        exact cut20 u4 x1 x2 _ _ _ hwp hP hD hS (lv_sub hl [0, 1] rfl)
      · have hwp := hwp.2 h6
        refine lv_iconst (v := 1) hx hb dMo_isLock_16 (by decide) ?_
        refine lv_goto hx hb dMo_isLock_17 rfl ?_
        exact W.zret (v := 1) hx hb hr (by decide) (fun t ht hW => ⟨⟨1, u4, rfl, hwp, uEnd ht hW hP hK hD hS hA⟩, hS.F ht⟩) hS.2.2 dMo_isLock_21
-- private static boolean isService(int, int)
def wM_isService_20 (R : Int32 → MS → Prop) (σ : MS) (y0 : Int32) (y1 : Int32) : Prop :=
  R 0 σ
def wM_isService (R : Int32 → MS → Prop) (σ : MS) (x1 x2 : Int32) : Prop :=
  (((x1 < 0) → wM_isService_20 R σ x1 x2) ∧ ((¬ x1 < 0) → (((5 ≤ x1) → wM_isService_20 R σ x1 x2) ∧ ((¬ 5 ≤ x1) → (∃ P3 : Int32 → MS → Prop, wM_isNode P3 σ x2 ∧ (∀ (r5 : Int32) (u4 : MS), P3 r5 u4 → (((r5 = 0) → wM_isService_20 R u4 x1 x2) ∧ ((¬ r5 = 0) → R 1 u4))))))))
abbrev wsMo_isService : List Cond := .code yMo_isService cMo_isService 2 (some .boolean) :: wg
abbrev rmM_isService : Room := { frames := 1, cells := 0, slots := 0, locals := 20 }
set_option maxHeartbeats 4000000 in
set_option maxRecDepth 100000 in
theorem kM_isService (l : Launch) (D : va_G) (a : Nat → Nat) (A : Nat → Prop) (tI tZ : ClassId) (σ : MS) (x1 x2 : Int32) (R : Int32 → MS → Prop) (hwp : wM_isService R σ x1 x2) : Met l yMo_isService wsMo_isService rmM_isService (va_Pc [.int x1, .int x2] (uI D clA (mT tI tZ) A false (mw a tI tZ) σ)) (va_Qi R (uI D clA (mT tI tZ) A false (mw a tI tZ)) A) 0 0 A := by
  refine Met.ofW (cc := cMo_isService) (maxL := 2) (ret := (some .boolean)) (by decide) rfl ?_
  intro p e s m args below meth c s₁ B hml hv
  obtain ⟨rfl, hP, hK, hD, hA⟩ := hv
  have hx := B.exec
  have hb := B.bytes
  have hr := B.returns
  have hts := atoms_spec (ws := wsMo_isService) B.pre
  have hown : s.vm.findClass RMo = some m.cls := findClass_of_methodNamed B.named
  have hlocks := B.notSynchronized
  have hS : va_S A s.heap s.heap [] := va_S.rf
  have cut20 : ∀ (σ : MS) (y0 : Int32) (y1 : Int32) (H : Heap) (locs : List Loc) (ls : Array Slot), wM_isService_20 R σ y0 y1 → va_P D clA (mw a tI tZ σ) H → va_D A (mw a tI tZ σ) → va_S A s.heap H locs → lv_has ls 2 [(0, .int y0), (1, .int y1)] → W p l e (headSpec wsMo_isService rmM_isService).room s m ([.int x1, .int x2] : List Value).toArray below meth c H locs 0 0 (MQ below (va_Qi R (uI D clA (mT tI tZ) A false (mw a tI tZ)) A) ([.int x1, .int x2] : List Value).toArray s 0 0 A) (F0 m 20 ls []) := by
    intro σ y0 y1 H locs ls hwp hP hD hS hl
    refine lv_iconst (v := 0) hx hb dMo_isService_20 (by decide) ?_
    exact W.zret (v := 0) hx hb hr (by decide) (fun t ht hW => ⟨⟨0, σ, rfl, hwp, uEnd ht hW hP hK hD hS hA⟩, hS.F ht⟩) hS.2.2 dMo_isService_21
  have hl := lv_entry ([.int x1, .int x2]) (n := 2) (Nat.le_of_ble_eq_true rfl)
  rw [lg_entry_eq]
  generalize (lg_sl ([.int x1, .int x2]) ++ List.replicate (2 - (lg_sl ([.int x1, .int x2])).length) Slot.unset).toArray = ls at hl ⊢
  have hl : lv_has ls 2 [(0, .int x1), (1, .int x2)] := hl
  refine lv_iload_n hx hb dMo_isService_0 rfl (lv_at hl 0 rfl) ?_
  refine lv_if_lt hx hb dMo_isService_1 rfl (fun h1 => ?_) (fun h1 => ?_)
  · have hwp := hwp.1 h1
    exact cut20 σ x1 x2 _ _ _ hwp hP hD hS (lv_sub hl [0, 1] rfl)
  · have hwp := hwp.2 h1
    refine lv_iload_n hx hb dMo_isService_4 rfl (lv_at hl 0 rfl) ?_
    refine lv_iconst (v := 5) hx hb dMo_isService_5 (by decide) ?_
    refine lv_icmp_ge hx hb dMo_isService_6 rfl (fun h2 => ?_) (fun h2 => ?_)
    · have hwp := hwp.1 h2
      exact cut20 σ x1 x2 _ _ _ hwp hP hD hS (lv_sub hl [0, 1] rfl)
    · have hwp := hwp.2 h2
      refine lv_iload_n hx hb dMo_isService_9 rfl (lv_at hl 1 rfl) ?_
      obtain ⟨P3, hP3, hwp⟩ := hwp
      refine uCallSi (As := [.int x2]) (rest := []) ⟨hx, hb, hml, hown, hts⟩ (kM_isNode l D a A tI tZ σ x2 P3 hP3) (cwS 1 hts (gdS wm_847 wm_848 wm_13 wm_849) rfl rfl rfl (by decide +kernel) ⟨Nat.le_of_ble_eq_true rfl, Nat.le_of_ble_eq_true rfl⟩) hP hK hD hA hS rfl hl.1 rfl (Nat.le_of_ble_eq_true rfl) dMo_isService_10 ⟨Nat.le_of_ble_eq_true rfl, Nat.le_of_ble_eq_true rfl⟩ (fun r5 u4 H locs hu4 hP hD hS => ?_)
      have hwp := hwp r5 u4 hu4
      refine lv_if_eq hx hb dMo_isService_13 rfl (fun h6 => ?_) (fun h6 => ?_)
      · have hwp := hwp.1 h6
        exact cut20 u4 x1 x2 _ _ _ hwp hP hD hS (lv_sub hl [0, 1] rfl)
      · have hwp := hwp.2 h6
        refine lv_iconst (v := 1) hx hb dMo_isService_16 (by decide) ?_
        refine lv_goto hx hb dMo_isService_17 rfl ?_
        exact W.zret (v := 1) hx hb hr (by decide) (fun t ht hW => ⟨⟨1, u4, rfl, hwp, uEnd ht hW hP hK hD hS hA⟩, hS.F ht⟩) hS.2.2 dMo_isService_21
-- private void send(int, int, int, int, int)
def wM_send_115 (R : MS → Prop) (σ : MS) (y1 : Int32) (y2 : Int32) (y3 : Int32) (y4 : Int32) (y5 : Int32) (y6 : Int32) (y7 : Int32) : Prop :=
  (vp_in y7 16 ∧ (∀ σ2 : MS, σ2 = up2 σ 1 y7.toNatClampNeg y6 → (vp_in y7 16 ∧ (vp_in y7 16 ∧ (∀ σ5 : MS, σ5 = up2 σ2 2 y7.toNatClampNeg ((σ2 2 y7.toNatClampNeg) + 1) → (∀ σ6 : MS, σ6 = up2 σ5 10 0 ((σ5 10 0) + 1) → R σ6))))))
def wM_send_41 (R : MS → Prop) (σ : MS) (y1 : Int32) (y2 : Int32) (y3 : Int32) (y4 : Int32) (y5 : Int32) (y6 : Int32) : Prop :=
  (vp_in y6 700 ∧ (∀ σ8 : MS, σ8 = up2 σ 3 y6.toNatClampNeg ((10 * y3) + y4) → (vp_in y6 700 ∧ (∀ σ10 : MS, σ10 = up2 σ8 4 y6.toNatClampNeg y5 → (vp_in y6 700 ∧ (∀ σ12 : MS, σ12 = up2 σ10 5 y6.toNatClampNeg (-1) → (∀ v13 : Int32, v13 = (4 * y1) + y2 → (vp_in v13 16 ∧ (((0 ≤ (σ12 0 v13.toNatClampNeg)) → (vp_in v13 16 ∧ (vp_in (σ12 1 v13.toNatClampNeg) 700 ∧ (∀ σ18 : MS, σ18 = up2 σ12 5 (σ12 1 v13.toNatClampNeg).toNatClampNeg y6 → wM_send_115 R σ18 y1 y2 y3 y4 y5 y6 v13)))) ∧ ((¬ 0 ≤ (σ12 0 v13.toNatClampNeg)) → (vp_in v13 16 ∧ (∀ σ20 : MS, σ20 = up2 σ12 0 v13.toNatClampNeg y6 → wM_send_115 R σ20 y1 y2 y3 y4 y5 y6 v13))))))))))))
def wM_send (R : MS → Prop) (σ : MS) (x1 x2 x3 x4 x5 : Int32) : Prop :=
  (∀ v21 : Int32, v21 = σ 7 0 → (((v21 < 0) → (∀ v23 : Int32, v23 = σ 6 0 → (∀ σ24 : MS, σ24 = up2 σ 6 0 ((σ 6 0) + 1) → wM_send_41 R σ24 x1 x2 x3 x4 x5 v23))) ∧ ((¬ v21 < 0) → (vp_in v21 700 ∧ (∀ σ26 : MS, σ26 = up2 σ 7 0 (σ 5 v21.toNatClampNeg) → wM_send_41 R σ26 x1 x2 x3 x4 x5 v21)))))
abbrev wsMo_send : List Cond := .code yMo_send cMo_send 8 none :: wg
abbrev rmM_send : Room := { frames := 0, cells := 0, slots := 0, locals := 0 }
set_option maxHeartbeats 4000000 in
set_option maxRecDepth 100000 in
theorem kM_send (l : Launch) (D : va_G) (a : Nat → Nat) (A : Nat → Prop) (tI tZ : ClassId) (σ : MS) (x1 x2 x3 x4 x5 : Int32) (R : MS → Prop) (hwp : wM_send R σ x1 x2 x3 x4 x5) : Met l yMo_send wsMo_send rmM_send (va_Pc [.ref (a 0), .int x1, .int x2, .int x3, .int x4, .int x5] (uI D clA (mT tI tZ) A false (mw a tI tZ) σ)) (va_Qv R (uI D clA (mT tI tZ) A false (mw a tI tZ)) A) 0 0 A := by
  refine Met.ofW (cc := cMo_send) (maxL := 8) (ret := none) (by decide) rfl ?_
  intro p e s m args below meth c s₁ B hml hv
  obtain ⟨rfl, hP, hK, hD, hA⟩ := hv
  have hx := B.exec
  have hb := B.bytes
  have hr := B.returns
  have hts := atoms_spec (ws := wsMo_send) B.pre
  have hown : s.vm.findClass RMo = some m.cls := findClass_of_methodNamed B.named
  have hlocks := B.notSynchronized
  have hin0 : ∀ w ∈ u_ws RMo TMo 33, w ∈ wsMo_send := fun w h => List.mem_cons_of_mem _ (inMo w h)
  have k13 := hts _ (List.mem_cons_of_mem _ wm_737)
  have k16 := hts _ (List.mem_cons_of_mem _ wm_738)
  have k19 := hts _ (List.mem_cons_of_mem _ wm_739)
  have k22 := hts _ (List.mem_cons_of_mem _ wm_740)
  have k25 := hts _ (List.mem_cons_of_mem _ wm_741)
  have k28 := hts _ (List.mem_cons_of_mem _ wm_743)
  have k7 := hts _ (List.mem_cons_of_mem _ wm_736)
  have k93 := hts _ (List.mem_cons_of_mem _ wm_742)
  have k96 := hts _ (List.mem_cons_of_mem _ wm_746)
  have hS : va_S A s.heap s.heap [] := va_S.rf
  have cut115 : ∀ (σ : MS) (y1 : Int32) (y2 : Int32) (y3 : Int32) (y4 : Int32) (y5 : Int32) (y6 : Int32) (y7 : Int32) (H : Heap) (locs : List Loc) (ls : Array Slot), wM_send_115 R σ y1 y2 y3 y4 y5 y6 y7 → va_P D clA (mw a tI tZ σ) H → va_D A (mw a tI tZ σ) → va_S A s.heap H locs → lv_has ls 8 [(0, .ref (a 0)), (1, .int y1), (2, .int y2), (3, .int y3), (4, .int y4), (5, .int y5), (6, .int y6), (7, .int y7)] → W p l e (headSpec wsMo_send rmM_send).room s m ([.ref (a 0), .int x1, .int x2, .int x3, .int x4, .int x5] : List Value).toArray below meth c H locs 0 0 (MQ below (va_Qv R (uI D clA (mT tI tZ) A false (mw a tI tZ)) A) ([.ref (a 0), .int x1, .int x2, .int x3, .int x4, .int x5] : List Value).toArray s 0 0 A) (F0 m 115 ls []) := by
    intro σ y1 y2 y3 y4 y5 y6 y7 H locs ls hwp hP hD hS hl
    refine lv_aload_n hx hb dMo_send_115 rfl (lv_at hl 0 rfl) ?_
    refine va_get (D := D) (ci := 0) (C := RMo) (T := TMo) (N := 33) hx hb hts hin0 hown hK hP 0 rfl rfl 1 (by decide) k13 (fun _ h9 => h9) rfl dMo_send_116 ?_
    refine lv_iload hx hb dMo_send_119 (lv_at hl 7 rfl) ?_
    refine lv_iload hx hb dMo_send_121 (lv_at hl 6 rfl) ?_
    obtain ⟨hi1, hwp⟩ := hwp
    refine va_iast hx hb hK hP hD hS 2 0 rfl rfl hi1 dMo_send_123 (fun H locs hP hD hS => ?_)
    obtain ⟨σ2, eσ2⟩ : ∃ z, z = up2 σ 1 y7.toNatClampNeg y6 := ⟨_, rfl⟩
    have hwp := hwp σ2 eσ2
    have hP : va_P D clA (mw a tI tZ σ2) H := by rw [eσ2]; exact hP
    have hD : va_D A (mw a tI tZ σ2) := by rw [eσ2]; exact hD
    refine lv_aload_n hx hb dMo_send_124 rfl (lv_at hl 0 rfl) ?_
    refine va_get (D := D) (ci := 0) (C := RMo) (T := TMo) (N := 33) hx hb hts hin0 hown hK hP 0 rfl rfl 2 (by decide) k16 (fun _ h9 => h9) rfl dMo_send_125 ?_
    refine lv_iload hx hb dMo_send_128 (lv_at hl 7 rfl) ?_
    refine lv_dup2_11 hx hb dMo_send_130 rfl rfl ?_
    obtain ⟨hi3, hwp⟩ := hwp
    refine va_iald hx hb hK hP 3 0 rfl rfl hi3 dMo_send_131 ?_
    refine lv_iconst (v := 1) hx hb dMo_send_132 (by decide) ?_
    refine lv_iadd hx hb dMo_send_133 ?_
    obtain ⟨hi4, hwp⟩ := hwp
    refine va_iast hx hb hK hP hD hS 3 0 rfl rfl hi4 dMo_send_134 (fun H locs hP hD hS => ?_)
    obtain ⟨σ5, eσ5⟩ : ∃ z, z = up2 σ2 2 y7.toNatClampNeg ((σ2 2 y7.toNatClampNeg) + 1) := ⟨_, rfl⟩
    have hwp := hwp σ5 eσ5
    have hP : va_P D clA (mw a tI tZ σ5) H := by rw [eσ5]; exact hP
    have hD : va_D A (mw a tI tZ σ5) := by rw [eσ5]; exact hD
    refine lv_aload_n hx hb dMo_send_135 rfl (lv_at hl 0 rfl) ?_
    refine lv_dup hx hb dMo_send_136 rfl ?_
    refine va_get (D := D) (ci := 0) (C := RMo) (T := TMo) (N := 33) hx hb hts hin0 hown hK hP 0 rfl rfl 10 (by decide) k96 (fun _ h9 => h9) rfl dMo_send_137 ?_
    refine lv_iconst (v := 1) hx hb dMo_send_140 (by decide) ?_
    refine lv_iadd hx hb dMo_send_141 ?_
    refine va_put (ty := .int) (D := D) (ci := 0) (C := RMo) (T := TMo) (N := 33) hx hb hts hin0 tyMo tyMo_ok nmMo hown hK hP hD hS 0 rfl rfl 10 (by decide) k96 (fun _ h9 => h9) rfl (by decide +kernel) rfl rfl (Nat.le_of_ble_eq_true rfl) dMo_send_142 (fun H locs hP hD hS => ?_)
    obtain ⟨σ6, eσ6⟩ : ∃ z, z = up2 σ5 10 0 ((σ5 10 0) + 1) := ⟨_, rfl⟩
    have hwp := hwp σ6 eσ6
    have hP : va_P D clA (mw a tI tZ σ6) H := by rw [eσ6]; exact hP
    have hD : va_D A (mw a tI tZ σ6) := by rw [eσ6]; exact hD
    exact W.vret hx hb hr (fun t ht hW => ⟨⟨σ6, rfl, hwp, uEnd ht hW hP hK hD hS hA⟩, hS.F ht⟩) hS.2.2 dMo_send_145
  have cut41 : ∀ (σ : MS) (y1 : Int32) (y2 : Int32) (y3 : Int32) (y4 : Int32) (y5 : Int32) (y6 : Int32) (H : Heap) (locs : List Loc) (ls : Array Slot), wM_send_41 R σ y1 y2 y3 y4 y5 y6 → va_P D clA (mw a tI tZ σ) H → va_D A (mw a tI tZ σ) → va_S A s.heap H locs → lv_has ls 8 [(0, .ref (a 0)), (1, .int y1), (2, .int y2), (3, .int y3), (4, .int y4), (5, .int y5), (6, .int y6)] → W p l e (headSpec wsMo_send rmM_send).room s m ([.ref (a 0), .int x1, .int x2, .int x3, .int x4, .int x5] : List Value).toArray below meth c H locs 0 0 (MQ below (va_Qv R (uI D clA (mT tI tZ) A false (mw a tI tZ)) A) ([.ref (a 0), .int x1, .int x2, .int x3, .int x4, .int x5] : List Value).toArray s 0 0 A) (F0 m 41 ls []) := by
    intro σ y1 y2 y3 y4 y5 y6 H locs ls hwp hP hD hS hl
    refine lv_aload_n hx hb dMo_send_41 rfl (lv_at hl 0 rfl) ?_
    refine va_get (D := D) (ci := 0) (C := RMo) (T := TMo) (N := 33) hx hb hts hin0 hown hK hP 0 rfl rfl 3 (by decide) k19 (fun _ h9 => h9) rfl dMo_send_42 ?_
    refine lv_iload hx hb dMo_send_45 (lv_at hl 6 rfl) ?_
    refine lv_bipush (v := 10) hx hb dMo_send_47 (by decide) ?_
    refine lv_iload_n hx hb dMo_send_49 rfl (lv_at hl 3 rfl) ?_
    refine lv_imul hx hb dMo_send_50 ?_
    refine lv_iload hx hb dMo_send_51 (lv_at hl 4 rfl) ?_
    refine lv_iadd hx hb dMo_send_53 ?_
    obtain ⟨hi7, hwp⟩ := hwp
    refine va_iast hx hb hK hP hD hS 4 0 rfl rfl hi7 dMo_send_54 (fun H locs hP hD hS => ?_)
    obtain ⟨σ8, eσ8⟩ : ∃ z, z = up2 σ 3 y6.toNatClampNeg ((10 * y3) + y4) := ⟨_, rfl⟩
    have hwp := hwp σ8 eσ8
    have hP : va_P D clA (mw a tI tZ σ8) H := by rw [eσ8]; exact hP
    have hD : va_D A (mw a tI tZ σ8) := by rw [eσ8]; exact hD
    refine lv_aload_n hx hb dMo_send_55 rfl (lv_at hl 0 rfl) ?_
    refine va_get (D := D) (ci := 0) (C := RMo) (T := TMo) (N := 33) hx hb hts hin0 hown hK hP 0 rfl rfl 4 (by decide) k22 (fun _ h9 => h9) rfl dMo_send_56 ?_
    refine lv_iload hx hb dMo_send_59 (lv_at hl 6 rfl) ?_
    refine lv_iload hx hb dMo_send_61 (lv_at hl 5 rfl) ?_
    obtain ⟨hi9, hwp⟩ := hwp
    refine va_iast hx hb hK hP hD hS 5 0 rfl rfl hi9 dMo_send_63 (fun H locs hP hD hS => ?_)
    obtain ⟨σ10, eσ10⟩ : ∃ z, z = up2 σ8 4 y6.toNatClampNeg y5 := ⟨_, rfl⟩
    have hwp := hwp σ10 eσ10
    have hP : va_P D clA (mw a tI tZ σ10) H := by rw [eσ10]; exact hP
    have hD : va_D A (mw a tI tZ σ10) := by rw [eσ10]; exact hD
    refine lv_aload_n hx hb dMo_send_64 rfl (lv_at hl 0 rfl) ?_
    refine va_get (D := D) (ci := 0) (C := RMo) (T := TMo) (N := 33) hx hb hts hin0 hown hK hP 0 rfl rfl 5 (by decide) k25 (fun _ h9 => h9) rfl dMo_send_65 ?_
    refine lv_iload hx hb dMo_send_68 (lv_at hl 6 rfl) ?_
    refine lv_iconst (v := (-1)) hx hb dMo_send_70 (by decide) ?_
    obtain ⟨hi11, hwp⟩ := hwp
    refine va_iast hx hb hK hP hD hS 6 0 rfl rfl hi11 dMo_send_71 (fun H locs hP hD hS => ?_)
    obtain ⟨σ12, eσ12⟩ : ∃ z, z = up2 σ10 5 y6.toNatClampNeg (-1) := ⟨_, rfl⟩
    have hwp := hwp σ12 eσ12
    have hP : va_P D clA (mw a tI tZ σ12) H := by rw [eσ12]; exact hP
    have hD : va_D A (mw a tI tZ σ12) := by rw [eσ12]; exact hD
    refine lv_iconst (v := 4) hx hb dMo_send_72 (by decide) ?_
    refine lv_iload_n hx hb dMo_send_73 rfl (lv_at hl 1 rfl) ?_
    refine lv_imul hx hb dMo_send_74 ?_
    refine lv_iload_n hx hb dMo_send_75 rfl (lv_at hl 2 rfl) ?_
    refine lv_iadd hx hb dMo_send_76 ?_
    refine lv_topi (fun v13 ev13 => ?_)
    have hwp := hwp v13 ev13
    refine lv_istore hx hb dMo_send_77 hl (by decide) rfl (fun ls hl => ?_)
    have hl : lv_has ls 8 [(7, .int v13), (0, .ref (a 0)), (1, .int y1), (2, .int y2), (3, .int y3), (4, .int y4), (5, .int y5), (6, .int y6)] := hl
    refine lv_aload_n hx hb dMo_send_79 rfl (lv_at hl 1 rfl) ?_
    refine va_get (D := D) (ci := 0) (C := RMo) (T := TMo) (N := 33) hx hb hts hin0 hown hK hP 0 rfl rfl 0 (by decide) k7 (fun _ h9 => h9) rfl dMo_send_80 ?_
    refine lv_iload hx hb dMo_send_83 (lv_at hl 0 rfl) ?_
    obtain ⟨hi14, hwp⟩ := hwp
    refine va_iald hx hb hK hP 1 0 rfl rfl hi14 dMo_send_85 ?_
    refine lv_if_ge hx hb dMo_send_86 rfl (fun h15 => ?_) (fun h15 => ?_)
    · have hwp := hwp.1 h15
      refine lv_aload_n hx hb dMo_send_101 rfl (lv_at hl 1 rfl) ?_
      refine va_get (D := D) (ci := 0) (C := RMo) (T := TMo) (N := 33) hx hb hts hin0 hown hK hP 0 rfl rfl 5 (by decide) k25 (fun _ h9 => h9) rfl dMo_send_102 ?_
      refine lv_aload_n hx hb dMo_send_105 rfl (lv_at hl 1 rfl) ?_
      refine va_get (D := D) (ci := 0) (C := RMo) (T := TMo) (N := 33) hx hb hts hin0 hown hK hP 0 rfl rfl 1 (by decide) k13 (fun _ h9 => h9) rfl dMo_send_106 ?_
      refine lv_iload hx hb dMo_send_109 (lv_at hl 0 rfl) ?_
      obtain ⟨hi16, hwp⟩ := hwp
      refine va_iald hx hb hK hP 2 0 rfl rfl hi16 dMo_send_111 ?_
      refine lv_iload hx hb dMo_send_112 (lv_at hl 7 rfl) ?_
      obtain ⟨hi17, hwp⟩ := hwp
      refine va_iast hx hb hK hP hD hS 6 0 rfl rfl hi17 dMo_send_114 (fun H locs hP hD hS => ?_)
      obtain ⟨σ18, eσ18⟩ : ∃ z, z = up2 σ12 5 (σ12 1 v13.toNatClampNeg).toNatClampNeg y6 := ⟨_, rfl⟩
      have hwp := hwp σ18 eσ18
      have hP : va_P D clA (mw a tI tZ σ18) H := by rw [eσ18]; exact hP
      have hD : va_D A (mw a tI tZ σ18) := by rw [eσ18]; exact hD
      exact cut115 σ18 y1 y2 y3 y4 y5 y6 v13 _ _ _ hwp hP hD hS (lv_sub hl [1, 2, 3, 4, 5, 6, 7, 0] rfl)
    · have hwp := hwp.2 h15
      refine lv_aload_n hx hb dMo_send_89 rfl (lv_at hl 1 rfl) ?_
      refine va_get (D := D) (ci := 0) (C := RMo) (T := TMo) (N := 33) hx hb hts hin0 hown hK hP 0 rfl rfl 0 (by decide) k7 (fun _ h9 => h9) rfl dMo_send_90 ?_
      refine lv_iload hx hb dMo_send_93 (lv_at hl 0 rfl) ?_
      refine lv_iload hx hb dMo_send_95 (lv_at hl 7 rfl) ?_
      obtain ⟨hi19, hwp⟩ := hwp
      refine va_iast hx hb hK hP hD hS 1 0 rfl rfl hi19 dMo_send_97 (fun H locs hP hD hS => ?_)
      obtain ⟨σ20, eσ20⟩ : ∃ z, z = up2 σ12 0 v13.toNatClampNeg y6 := ⟨_, rfl⟩
      have hwp := hwp σ20 eσ20
      have hP : va_P D clA (mw a tI tZ σ20) H := by rw [eσ20]; exact hP
      have hD : va_D A (mw a tI tZ σ20) := by rw [eσ20]; exact hD
      refine lv_goto hx hb dMo_send_98 rfl ?_
      exact cut115 σ20 y1 y2 y3 y4 y5 y6 v13 _ _ _ hwp hP hD hS (lv_sub hl [1, 2, 3, 4, 5, 6, 7, 0] rfl)
  have hl := lv_entry ([.ref (a 0), .int x1, .int x2, .int x3, .int x4, .int x5]) (n := 8) (Nat.le_of_ble_eq_true rfl)
  rw [lg_entry_eq]
  generalize (lg_sl ([.ref (a 0), .int x1, .int x2, .int x3, .int x4, .int x5]) ++ List.replicate (8 - (lg_sl ([.ref (a 0), .int x1, .int x2, .int x3, .int x4, .int x5])).length) Slot.unset).toArray = ls at hl ⊢
  have hl : lv_has ls 8 [(0, .ref (a 0)), (1, .int x1), (2, .int x2), (3, .int x3), (4, .int x4), (5, .int x5)] := hl
  refine lv_aload_n hx hb dMo_send_0 rfl (lv_at hl 0 rfl) ?_
  refine va_get (D := D) (ci := 0) (C := RMo) (T := TMo) (N := 33) hx hb hts hin0 hown hK hP 0 rfl rfl 7 (by decide) k28 (fun _ h9 => h9) rfl dMo_send_1 ?_
  refine lv_topi (fun v21 ev21 => ?_)
  have hwp := hwp v21 ev21
  refine lv_istore hx hb dMo_send_4 hl (by decide) rfl (fun ls hl => ?_)
  have hl : lv_has ls 8 [(6, .int v21), (0, .ref (a 0)), (1, .int x1), (2, .int x2), (3, .int x3), (4, .int x4), (5, .int x5)] := hl
  refine lv_iload hx hb dMo_send_6 (lv_at hl 0 rfl) ?_
  refine lv_if_lt hx hb dMo_send_8 rfl (fun h22 => ?_) (fun h22 => ?_)
  · have hwp := hwp.1 h22
    refine lv_aload_n hx hb dMo_send_25 rfl (lv_at hl 1 rfl) ?_
    refine va_get (D := D) (ci := 0) (C := RMo) (T := TMo) (N := 33) hx hb hts hin0 hown hK hP 0 rfl rfl 6 (by decide) k93 (fun _ h9 => h9) rfl dMo_send_26 ?_
    refine lv_topi (fun v23 ev23 => ?_)
    have hwp := hwp v23 ev23
    refine lv_istore hx hb dMo_send_29 hl (by decide) rfl (fun ls hl => ?_)
    have hl : lv_has ls 8 [(6, .int v23), (0, .ref (a 0)), (1, .int x1), (2, .int x2), (3, .int x3), (4, .int x4), (5, .int x5)] := hl
    refine lv_aload_n hx hb dMo_send_31 rfl (lv_at hl 1 rfl) ?_
    refine lv_dup hx hb dMo_send_32 rfl ?_
    refine va_get (D := D) (ci := 0) (C := RMo) (T := TMo) (N := 33) hx hb hts hin0 hown hK hP 0 rfl rfl 6 (by decide) k93 (fun _ h9 => h9) rfl dMo_send_33 ?_
    refine lv_iconst (v := 1) hx hb dMo_send_36 (by decide) ?_
    refine lv_iadd hx hb dMo_send_37 ?_
    refine va_put (ty := .int) (D := D) (ci := 0) (C := RMo) (T := TMo) (N := 33) hx hb hts hin0 tyMo tyMo_ok nmMo hown hK hP hD hS 0 rfl rfl 6 (by decide) k93 (fun _ h9 => h9) rfl (by decide +kernel) rfl rfl (Nat.le_of_ble_eq_true rfl) dMo_send_38 (fun H locs hP hD hS => ?_)
    obtain ⟨σ24, eσ24⟩ : ∃ z, z = up2 σ 6 0 ((σ 6 0) + 1) := ⟨_, rfl⟩
    have hwp := hwp σ24 eσ24
    have hP : va_P D clA (mw a tI tZ σ24) H := by rw [eσ24]; exact hP
    have hD : va_D A (mw a tI tZ σ24) := by rw [eσ24]; exact hD
    exact cut41 σ24 x1 x2 x3 x4 x5 v23 _ _ _ hwp hP hD hS (lv_sub hl [1, 2, 3, 4, 5, 6, 0] rfl)
  · have hwp := hwp.2 h22
    refine lv_aload_n hx hb dMo_send_11 rfl (lv_at hl 1 rfl) ?_
    refine lv_aload_n hx hb dMo_send_12 rfl (lv_at hl 1 rfl) ?_
    refine va_get (D := D) (ci := 0) (C := RMo) (T := TMo) (N := 33) hx hb hts hin0 hown hK hP 0 rfl rfl 5 (by decide) k25 (fun _ h9 => h9) rfl dMo_send_13 ?_
    refine lv_iload hx hb dMo_send_16 (lv_at hl 0 rfl) ?_
    obtain ⟨hi25, hwp⟩ := hwp
    refine va_iald hx hb hK hP 6 0 rfl rfl hi25 dMo_send_18 ?_
    refine va_put (ty := .int) (D := D) (ci := 0) (C := RMo) (T := TMo) (N := 33) hx hb hts hin0 tyMo tyMo_ok nmMo hown hK hP hD hS 0 rfl rfl 7 (by decide) k28 (fun _ h9 => h9) rfl (by decide +kernel) rfl rfl (Nat.le_of_ble_eq_true rfl) dMo_send_19 (fun H locs hP hD hS => ?_)
    obtain ⟨σ26, eσ26⟩ : ∃ z, z = up2 σ 7 0 (σ 5 v21.toNatClampNeg) := ⟨_, rfl⟩
    have hwp := hwp σ26 eσ26
    have hP : va_P D clA (mw a tI tZ σ26) H := by rw [eσ26]; exact hP
    have hD : va_D A (mw a tI tZ σ26) := by rw [eσ26]; exact hD
    refine lv_goto hx hb dMo_send_22 rfl ?_
    exact cut41 σ26 x1 x2 x3 x4 x5 v21 _ _ _ hwp hP hD hS (lv_sub hl [1, 2, 3, 4, 5, 6, 0] rfl)
-- private void sendAll(int, int, int, int)
def wM_sendAll_26 (K3 : MS → Int32 → Int32 → Int32 → Int32 → Int32 → Prop) (R : MS → Prop) (σ : MS) (y1 : Int32) (y2 : Int32) (y3 : Int32) (y4 : Int32) (y5 : Int32) : Prop :=
  K3 σ y1 y2 y3 y4 (y5 + 1)
def wM_sendAll_3_step (K3 : MS → Int32 → Int32 → Int32 → Int32 → Int32 → Prop) (R : MS → Prop) (σ : MS) (y1 : Int32) (y2 : Int32) (y3 : Int32) (y4 : Int32) (y5 : Int32) : Prop :=
  (((4 ≤ y5) → R σ) ∧ ((¬ 4 ≤ y5) → (((y5 = y1) → wM_sendAll_26 K3 R σ y1 y2 y3 y4 y5) ∧ ((¬ y5 = y1) → (∃ P3 : MS → Prop, wM_send P3 σ y1 y5 y2 y3 y4 ∧ (∀ (u4 : MS), P3 u4 → wM_sendAll_26 K3 R u4 y1 y2 y3 y4 y5))))))
def wM_sendAll_3 (R : MS → Prop) : Nat → MS → Int32 → Int32 → Int32 → Int32 → Int32 → Prop
  | 0 => fun _ _ _ _ _ _ => False
  | k + 1 => fun σ y1 y2 y3 y4 y5 => wM_sendAll_3_step  (wM_sendAll_3  R k) R σ y1 y2 y3 y4 y5
def wM_sendAll (R : MS → Prop) (σ : MS) (x1 x2 x3 x4 : Int32) : Prop :=
  wM_sendAll_3 R 5 σ x1 x2 x3 x4 0
abbrev wsMo_sendAll : List Cond := .code yMo_sendAll cMo_sendAll 6 none :: wg
abbrev rmM_sendAll : Room := { frames := 1, cells := 0, slots := 0, locals := 27 }
set_option maxHeartbeats 4000000 in
set_option maxRecDepth 100000 in
theorem kM_sendAll (l : Launch) (D : va_G) (a : Nat → Nat) (A : Nat → Prop) (tI tZ : ClassId) (σ : MS) (x1 x2 x3 x4 : Int32) (R : MS → Prop) (hwp : wM_sendAll R σ x1 x2 x3 x4) : Met l yMo_sendAll wsMo_sendAll rmM_sendAll (va_Pc [.ref (a 0), .int x1, .int x2, .int x3, .int x4] (uI D clA (mT tI tZ) A false (mw a tI tZ) σ)) (va_Qv R (uI D clA (mT tI tZ) A false (mw a tI tZ)) A) 0 0 A := by
  refine Met.ofW (cc := cMo_sendAll) (maxL := 6) (ret := none) (by decide) rfl ?_
  intro p e s m args below meth c s₁ B hml hv
  obtain ⟨rfl, hP, hK, hD, hA⟩ := hv
  have hx := B.exec
  have hb := B.bytes
  have hr := B.returns
  have hts := atoms_spec (ws := wsMo_sendAll) B.pre
  have hown : s.vm.findClass RMo = some m.cls := findClass_of_methodNamed B.named
  have hlocks := B.notSynchronized
  have hS : va_S A s.heap s.heap [] := va_S.rf
  have cut3 : ∀ (k3 : Nat) (σ : MS) (y1 : Int32) (y2 : Int32) (y3 : Int32) (y4 : Int32) (y5 : Int32) (H : Heap) (locs : List Loc) (ls : Array Slot), wM_sendAll_3 R k3 σ y1 y2 y3 y4 y5 → va_P D clA (mw a tI tZ σ) H → va_D A (mw a tI tZ σ) → va_S A s.heap H locs → lv_has ls 6 [(0, .ref (a 0)), (1, .int y1), (2, .int y2), (3, .int y3), (4, .int y4), (5, .int y5)] → W p l e (headSpec wsMo_sendAll rmM_sendAll).room s m ([.ref (a 0), .int x1, .int x2, .int x3, .int x4] : List Value).toArray below meth c H locs 0 0 (MQ below (va_Qv R (uI D clA (mT tI tZ) A false (mw a tI tZ)) A) ([.ref (a 0), .int x1, .int x2, .int x3, .int x4] : List Value).toArray s 0 0 A) (F0 m 3 ls []) := by
    intro k3
    induction k3 with
    | zero => intro σ y1 y2 y3 y4 y5 H locs ls hwp hP hD hS hl; exact False.elim hwp
    | succ k3 ih3 =>
      intro σ y1 y2 y3 y4 y5 H locs ls hwp hP hD hS hl
      have cut26 : ∀ (σ : MS) (y1 : Int32) (y2 : Int32) (y3 : Int32) (y4 : Int32) (y5 : Int32) (H : Heap) (locs : List Loc) (ls : Array Slot), wM_sendAll_26 (wM_sendAll_3 R k3) R σ y1 y2 y3 y4 y5 → va_P D clA (mw a tI tZ σ) H → va_D A (mw a tI tZ σ) → va_S A s.heap H locs → lv_has ls 6 [(0, .ref (a 0)), (1, .int y1), (2, .int y2), (3, .int y3), (4, .int y4), (5, .int y5)] → W p l e (headSpec wsMo_sendAll rmM_sendAll).room s m ([.ref (a 0), .int x1, .int x2, .int x3, .int x4] : List Value).toArray below meth c H locs 0 0 (MQ below (va_Qv R (uI D clA (mT tI tZ) A false (mw a tI tZ)) A) ([.ref (a 0), .int x1, .int x2, .int x3, .int x4] : List Value).toArray s 0 0 A) (F0 m 26 ls []) := by
        intro σ y1 y2 y3 y4 y5 H locs ls hwp hP hD hS hl
        refine lv_iinc (k := 5) hx hb dMo_sendAll_26 hl rfl (fx_inc1 _) (by decide) rfl (fun ls hl => ?_)
        have hl : lv_has ls 6 [(5, .int (y5 + 1)), (0, .ref (a 0)), (1, .int y1), (2, .int y2), (3, .int y3), (4, .int y4)] := hl
        refine lv_goto hx hb dMo_sendAll_29 rfl ?_
        exact ih3 σ y1 y2 y3 y4 (y5 + 1) _ _ _ hwp hP hD hS (lv_sub hl [1, 2, 3, 4, 5, 0] rfl)
      have hwp : wM_sendAll_3_step (wM_sendAll_3 R k3) R σ y1 y2 y3 y4 y5 := hwp
      refine lv_iload hx hb dMo_sendAll_3 (lv_at hl 5 rfl) ?_
      refine lv_iconst (v := 4) hx hb dMo_sendAll_5 (by decide) ?_
      refine lv_icmp_ge hx hb dMo_sendAll_6 rfl (fun h1 => ?_) (fun h1 => ?_)
      · have hwp := hwp.1 h1
        exact W.vret hx hb hr (fun t ht hW => ⟨⟨σ, rfl, hwp, uEnd ht hW hP hK hD hS hA⟩, hS.F ht⟩) hS.2.2 dMo_sendAll_32
      · have hwp := hwp.2 h1
        refine lv_iload hx hb dMo_sendAll_9 (lv_at hl 5 rfl) ?_
        refine lv_iload_n hx hb dMo_sendAll_11 rfl (lv_at hl 1 rfl) ?_
        refine lv_icmp_eq hx hb dMo_sendAll_12 rfl (fun h2 => ?_) (fun h2 => ?_)
        · have hwp := hwp.1 h2
          exact cut26 σ y1 y2 y3 y4 y5 _ _ _ hwp hP hD hS (lv_sub hl [0, 1, 2, 3, 4, 5] rfl)
        · have hwp := hwp.2 h2
          refine lv_aload_n hx hb dMo_sendAll_15 rfl (lv_at hl 0 rfl) ?_
          refine lv_iload_n hx hb dMo_sendAll_16 rfl (lv_at hl 1 rfl) ?_
          refine lv_iload hx hb dMo_sendAll_17 (lv_at hl 5 rfl) ?_
          refine lv_iload_n hx hb dMo_sendAll_19 rfl (lv_at hl 2 rfl) ?_
          refine lv_iload_n hx hb dMo_sendAll_20 rfl (lv_at hl 3 rfl) ?_
          refine lv_iload hx hb dMo_sendAll_21 (lv_at hl 4 rfl) ?_
          obtain ⟨P3, hP3, hwp⟩ := hwp
          refine uCallVv (As := [.int y1, .int y5, .int y2, .int y3, .int y4]) (rest := []) (C := RMo) ⟨hx, hb, hml, hown, hts⟩ (kM_send l D a A tI tZ σ y1 y5 y2 y3 y4 P3 hP3) (cwV 5 hts (gdV wm_858 wm_860 wp_18 wm_13 wm_861) rfl rfl rfl (by decide +kernel) ⟨Nat.le_of_ble_eq_true rfl, Nat.le_of_ble_eq_true rfl⟩) (va_recv (ci := 0) (q0 := 0) hK hP rfl rfl) hP hK hD hA hS rfl hl.1 rfl (Nat.le_of_ble_eq_true rfl) dMo_sendAll_23 ⟨Nat.le_of_ble_eq_true rfl, Nat.le_of_ble_eq_true rfl⟩ (fun u4 H locs hu4 hP hD hS => ?_)
          have hwp := hwp u4 hu4
          exact cut26 u4 y1 y2 y3 y4 y5 _ _ _ hwp hP hD hS (lv_sub hl [0, 1, 2, 3, 4, 5] rfl)
  have hl := lv_entry ([.ref (a 0), .int x1, .int x2, .int x3, .int x4]) (n := 6) (Nat.le_of_ble_eq_true rfl)
  rw [lg_entry_eq]
  generalize (lg_sl ([.ref (a 0), .int x1, .int x2, .int x3, .int x4]) ++ List.replicate (6 - (lg_sl ([.ref (a 0), .int x1, .int x2, .int x3, .int x4])).length) Slot.unset).toArray = ls at hl ⊢
  have hl : lv_has ls 6 [(0, .ref (a 0)), (1, .int x1), (2, .int x2), (3, .int x3), (4, .int x4)] := hl
  refine lv_iconst (v := 0) hx hb dMo_sendAll_0 (by decide) ?_
  refine lv_istore hx hb dMo_sendAll_1 hl (by decide) rfl (fun ls hl => ?_)
  have hl : lv_has ls 6 [(5, .int 0), (0, .ref (a 0)), (1, .int x1), (2, .int x2), (3, .int x3), (4, .int x4)] := hl
  exact cut3 5 σ x1 x2 x3 x4 0 _ _ _ hwp hP hD hS (lv_sub hl [1, 2, 3, 4, 5, 0] rfl)
-- private void comeIn(int, int)
def wM_comeIn (R : MS → Prop) (σ : MS) (x1 x2 : Int32) : Prop :=
  (vp_in ((4 * x1) + x2) 12 ∧ (∀ σ2 : MS, σ2 = up2 σ 8 ((4 * x1) + x2).toNatClampNeg 2 → (∀ σ3 : MS, σ3 = up2 σ2 9 0 ((σ2 9 0) + 1) → R σ3)))
abbrev wsMo_comeIn : List Cond := .code yMo_comeIn cMo_comeIn 3 none :: wg
abbrev rmM_comeIn : Room := { frames := 0, cells := 0, slots := 0, locals := 0 }
set_option maxHeartbeats 4000000 in
set_option maxRecDepth 100000 in
theorem kM_comeIn (l : Launch) (D : va_G) (a : Nat → Nat) (A : Nat → Prop) (tI tZ : ClassId) (σ : MS) (x1 x2 : Int32) (R : MS → Prop) (hwp : wM_comeIn R σ x1 x2) : Met l yMo_comeIn wsMo_comeIn rmM_comeIn (va_Pc [.ref (a 0), .int x1, .int x2] (uI D clA (mT tI tZ) A false (mw a tI tZ) σ)) (va_Qv R (uI D clA (mT tI tZ) A false (mw a tI tZ)) A) 0 0 A := by
  refine Met.ofW (cc := cMo_comeIn) (maxL := 3) (ret := none) (by decide) rfl ?_
  intro p e s m args below meth c s₁ B hml hv
  obtain ⟨rfl, hP, hK, hD, hA⟩ := hv
  have hx := B.exec
  have hb := B.bytes
  have hr := B.returns
  have hts := atoms_spec (ws := wsMo_comeIn) B.pre
  have hown : s.vm.findClass RMo = some m.cls := findClass_of_methodNamed B.named
  have hlocks := B.notSynchronized
  have hin0 : ∀ w ∈ u_ws RMo TMo 33, w ∈ wsMo_comeIn := fun w h => List.mem_cons_of_mem _ (inMo w h)
  have k128 := hts _ (List.mem_cons_of_mem _ wm_745)
  have k32 := hts _ (List.mem_cons_of_mem _ wm_744)
  have hS : va_S A s.heap s.heap [] := va_S.rf
  have hl := lv_entry ([.ref (a 0), .int x1, .int x2]) (n := 3) (Nat.le_of_ble_eq_true rfl)
  rw [lg_entry_eq]
  generalize (lg_sl ([.ref (a 0), .int x1, .int x2]) ++ List.replicate (3 - (lg_sl ([.ref (a 0), .int x1, .int x2])).length) Slot.unset).toArray = ls at hl ⊢
  have hl : lv_has ls 3 [(0, .ref (a 0)), (1, .int x1), (2, .int x2)] := hl
  refine lv_aload_n hx hb dMo_comeIn_0 rfl (lv_at hl 0 rfl) ?_
  refine va_get (D := D) (ci := 0) (C := RMo) (T := TMo) (N := 33) hx hb hts hin0 hown hK hP 0 rfl rfl 8 (by decide) k32 (fun _ h9 => h9) rfl dMo_comeIn_1 ?_
  refine lv_iconst (v := 4) hx hb dMo_comeIn_4 (by decide) ?_
  refine lv_iload_n hx hb dMo_comeIn_5 rfl (lv_at hl 1 rfl) ?_
  refine lv_imul hx hb dMo_comeIn_6 ?_
  refine lv_iload_n hx hb dMo_comeIn_7 rfl (lv_at hl 2 rfl) ?_
  refine lv_iadd hx hb dMo_comeIn_8 ?_
  refine lv_iconst (v := 2) hx hb dMo_comeIn_9 (by decide) ?_
  obtain ⟨hi1, hwp⟩ := hwp
  refine va_iast hx hb hK hP hD hS 7 0 rfl rfl hi1 dMo_comeIn_10 (fun H locs hP hD hS => ?_)
  obtain ⟨σ2, eσ2⟩ : ∃ z, z = up2 σ 8 ((4 * x1) + x2).toNatClampNeg 2 := ⟨_, rfl⟩
  have hwp := hwp σ2 eσ2
  have hP : va_P D clA (mw a tI tZ σ2) H := by rw [eσ2]; exact hP
  have hD : va_D A (mw a tI tZ σ2) := by rw [eσ2]; exact hD
  refine lv_aload_n hx hb dMo_comeIn_11 rfl (lv_at hl 0 rfl) ?_
  refine lv_dup hx hb dMo_comeIn_12 rfl ?_
  refine va_get (D := D) (ci := 0) (C := RMo) (T := TMo) (N := 33) hx hb hts hin0 hown hK hP 0 rfl rfl 9 (by decide) k128 (fun _ h9 => h9) rfl dMo_comeIn_13 ?_
  refine lv_iconst (v := 1) hx hb dMo_comeIn_16 (by decide) ?_
  refine lv_iadd hx hb dMo_comeIn_17 ?_
  refine va_put (ty := .int) (D := D) (ci := 0) (C := RMo) (T := TMo) (N := 33) hx hb hts hin0 tyMo tyMo_ok nmMo hown hK hP hD hS 0 rfl rfl 9 (by decide) k128 (fun _ h9 => h9) rfl (by decide +kernel) rfl rfl (Nat.le_of_ble_eq_true rfl) dMo_comeIn_18 (fun H locs hP hD hS => ?_)
  obtain ⟨σ3, eσ3⟩ : ∃ z, z = up2 σ2 9 0 ((σ2 9 0) + 1) := ⟨_, rfl⟩
  have hwp := hwp σ3 eσ3
  have hP : va_P D clA (mw a tI tZ σ3) H := by rw [eσ3]; exact hP
  have hD : va_D A (mw a tI tZ σ3) := by rw [eσ3]; exact hD
  exact W.vret hx hb hr (fun t ht hW => ⟨⟨σ3, rfl, hwp, uEnd ht hW hP hK hD hS hA⟩, hS.F ht⟩) hS.2.2 dMo_comeIn_21
-- private boolean isDue(int, int)
def wM_isDue (R : Int32 → MS → Prop) (σ : MS) (x1 x2 : Int32) : Prop :=
  (vp_in ((4 * x1) + x2) 16 ∧ (vp_in x2 4 ∧ (((¬ (σ 15 ((4 * x1) + x2).toNatClampNeg) = ((σ 16 x2.toNatClampNeg) + 1)) → R 0 σ) ∧ (((σ 15 ((4 * x1) + x2).toNatClampNeg) = ((σ 16 x2.toNatClampNeg) + 1)) → R 1 σ))))
abbrev wsMo_isDue : List Cond := .code yMo_isDue cMo_isDue 3 (some .boolean) :: wg
abbrev rmM_isDue : Room := { frames := 0, cells := 0, slots := 0, locals := 0 }
set_option maxHeartbeats 4000000 in
set_option maxRecDepth 100000 in
theorem kM_isDue (l : Launch) (D : va_G) (a : Nat → Nat) (A : Nat → Prop) (tI tZ : ClassId) (σ : MS) (x1 x2 : Int32) (R : Int32 → MS → Prop) (hwp : wM_isDue R σ x1 x2) : Met l yMo_isDue wsMo_isDue rmM_isDue (va_Pc [.ref (a 0), .int x1, .int x2] (uI D clA (mT tI tZ) A false (mw a tI tZ) σ)) (va_Qi R (uI D clA (mT tI tZ) A false (mw a tI tZ)) A) 0 0 A := by
  refine Met.ofW (cc := cMo_isDue) (maxL := 3) (ret := (some .boolean)) (by decide) rfl ?_
  intro p e s m args below meth c s₁ B hml hv
  obtain ⟨rfl, hP, hK, hD, hA⟩ := hv
  have hx := B.exec
  have hb := B.bytes
  have hr := B.returns
  have hts := atoms_spec (ws := wsMo_isDue) B.pre
  have hown : s.vm.findClass RMo = some m.cls := findClass_of_methodNamed B.named
  have hlocks := B.notSynchronized
  have hin0 : ∀ w ∈ u_ws RMo TMo 33, w ∈ wsMo_isDue := fun w h => List.mem_cons_of_mem _ (inMo w h)
  have k47 := hts _ (List.mem_cons_of_mem _ wm_751)
  have k50 := hts _ (List.mem_cons_of_mem _ wm_752)
  have hS : va_S A s.heap s.heap [] := va_S.rf
  have hl := lv_entry ([.ref (a 0), .int x1, .int x2]) (n := 3) (Nat.le_of_ble_eq_true rfl)
  rw [lg_entry_eq]
  generalize (lg_sl ([.ref (a 0), .int x1, .int x2]) ++ List.replicate (3 - (lg_sl ([.ref (a 0), .int x1, .int x2])).length) Slot.unset).toArray = ls at hl ⊢
  have hl : lv_has ls 3 [(0, .ref (a 0)), (1, .int x1), (2, .int x2)] := hl
  refine lv_aload_n hx hb dMo_isDue_0 rfl (lv_at hl 0 rfl) ?_
  refine va_get (D := D) (ci := 0) (C := RMo) (T := TMo) (N := 33) hx hb hts hin0 hown hK hP 0 rfl rfl 15 (by decide) k47 (fun _ h9 => h9) rfl dMo_isDue_1 ?_
  refine lv_iconst (v := 4) hx hb dMo_isDue_4 (by decide) ?_
  refine lv_iload_n hx hb dMo_isDue_5 rfl (lv_at hl 1 rfl) ?_
  refine lv_imul hx hb dMo_isDue_6 ?_
  refine lv_iload_n hx hb dMo_isDue_7 rfl (lv_at hl 2 rfl) ?_
  refine lv_iadd hx hb dMo_isDue_8 ?_
  obtain ⟨hi1, hwp⟩ := hwp
  refine va_iald hx hb hK hP 12 0 rfl rfl hi1 dMo_isDue_9 ?_
  refine lv_aload_n hx hb dMo_isDue_10 rfl (lv_at hl 0 rfl) ?_
  refine va_get (D := D) (ci := 0) (C := RMo) (T := TMo) (N := 33) hx hb hts hin0 hown hK hP 0 rfl rfl 16 (by decide) k50 (fun _ h9 => h9) rfl dMo_isDue_11 ?_
  refine lv_iload_n hx hb dMo_isDue_14 rfl (lv_at hl 2 rfl) ?_
  obtain ⟨hi2, hwp⟩ := hwp
  refine va_iald hx hb hK hP 13 0 rfl rfl hi2 dMo_isDue_15 ?_
  refine lv_iconst (v := 1) hx hb dMo_isDue_16 (by decide) ?_
  refine lv_iadd hx hb dMo_isDue_17 ?_
  refine lv_icmp_ne hx hb dMo_isDue_18 rfl (fun h3 => ?_) (fun h3 => ?_)
  · have hwp := hwp.1 h3
    refine lv_iconst (v := 0) hx hb dMo_isDue_25 (by decide) ?_
    exact W.zret (v := 0) hx hb hr (by decide) (fun t ht hW => ⟨⟨0, σ, rfl, hwp, uEnd ht hW hP hK hD hS hA⟩, hS.F ht⟩) hS.2.2 dMo_isDue_26
  · have hwp := hwp.2 h3
    refine lv_iconst (v := 1) hx hb dMo_isDue_21 (by decide) ?_
    refine lv_goto hx hb dMo_isDue_22 rfl ?_
    exact W.zret (v := 1) hx hb hr (by decide) (fun t ht hW => ⟨⟨1, σ, rfl, hwp, uEnd ht hW hP hK hD hS hA⟩, hS.F ht⟩) hS.2.2 dMo_isDue_26
-- private void enqueue(int, int)
def wM_enqueue (R : MS → Prop) (σ : MS) (x1 x2 : Int32) : Prop :=
  (vp_in x1 4 ∧ (vp_in ((8 * x1) + (σ 21 x1.toNatClampNeg)) 32 ∧ (∀ σ3 : MS, σ3 = up2 σ 22 ((8 * x1) + (σ 21 x1.toNatClampNeg)).toNatClampNeg x2 → (vp_in x1 4 ∧ (vp_in x1 4 ∧ (∀ σ6 : MS, σ6 = up2 σ3 21 x1.toNatClampNeg ((σ3 21 x1.toNatClampNeg) + 1) → R σ6))))))
abbrev wsMo_enqueue : List Cond := .code yMo_enqueue cMo_enqueue 3 none :: wg
abbrev rmM_enqueue : Room := { frames := 0, cells := 0, slots := 0, locals := 0 }
set_option maxHeartbeats 4000000 in
set_option maxRecDepth 100000 in
theorem kM_enqueue (l : Launch) (D : va_G) (a : Nat → Nat) (A : Nat → Prop) (tI tZ : ClassId) (σ : MS) (x1 x2 : Int32) (R : MS → Prop) (hwp : wM_enqueue R σ x1 x2) : Met l yMo_enqueue wsMo_enqueue rmM_enqueue (va_Pc [.ref (a 0), .int x1, .int x2] (uI D clA (mT tI tZ) A false (mw a tI tZ) σ)) (va_Qv R (uI D clA (mT tI tZ) A false (mw a tI tZ)) A) 0 0 A := by
  refine Met.ofW (cc := cMo_enqueue) (maxL := 3) (ret := none) (by decide) rfl ?_
  intro p e s m args below meth c s₁ B hml hv
  obtain ⟨rfl, hP, hK, hD, hA⟩ := hv
  have hx := B.exec
  have hb := B.bytes
  have hr := B.returns
  have hts := atoms_spec (ws := wsMo_enqueue) B.pre
  have hown : s.vm.findClass RMo = some m.cls := findClass_of_methodNamed B.named
  have hlocks := B.notSynchronized
  have hin0 : ∀ w ∈ u_ws RMo TMo 33, w ∈ wsMo_enqueue := fun w h => List.mem_cons_of_mem _ (inMo w h)
  have k59 := hts _ (List.mem_cons_of_mem _ wm_757)
  have k62 := hts _ (List.mem_cons_of_mem _ wm_758)
  have hS : va_S A s.heap s.heap [] := va_S.rf
  have hl := lv_entry ([.ref (a 0), .int x1, .int x2]) (n := 3) (Nat.le_of_ble_eq_true rfl)
  rw [lg_entry_eq]
  generalize (lg_sl ([.ref (a 0), .int x1, .int x2]) ++ List.replicate (3 - (lg_sl ([.ref (a 0), .int x1, .int x2])).length) Slot.unset).toArray = ls at hl ⊢
  have hl : lv_has ls 3 [(0, .ref (a 0)), (1, .int x1), (2, .int x2)] := hl
  refine lv_aload_n hx hb dMo_enqueue_0 rfl (lv_at hl 0 rfl) ?_
  refine va_get (D := D) (ci := 0) (C := RMo) (T := TMo) (N := 33) hx hb hts hin0 hown hK hP 0 rfl rfl 22 (by decide) k62 (fun _ h9 => h9) rfl dMo_enqueue_1 ?_
  refine lv_bipush (v := 8) hx hb dMo_enqueue_4 (by decide) ?_
  refine lv_iload_n hx hb dMo_enqueue_6 rfl (lv_at hl 1 rfl) ?_
  refine lv_imul hx hb dMo_enqueue_7 ?_
  refine lv_aload_n hx hb dMo_enqueue_8 rfl (lv_at hl 0 rfl) ?_
  refine va_get (D := D) (ci := 0) (C := RMo) (T := TMo) (N := 33) hx hb hts hin0 hown hK hP 0 rfl rfl 21 (by decide) k59 (fun _ h9 => h9) rfl dMo_enqueue_9 ?_
  refine lv_iload_n hx hb dMo_enqueue_12 rfl (lv_at hl 1 rfl) ?_
  obtain ⟨hi1, hwp⟩ := hwp
  refine va_iald hx hb hK hP 16 0 rfl rfl hi1 dMo_enqueue_13 ?_
  refine lv_iadd hx hb dMo_enqueue_14 ?_
  refine lv_iload_n hx hb dMo_enqueue_15 rfl (lv_at hl 2 rfl) ?_
  obtain ⟨hi2, hwp⟩ := hwp
  refine va_iast hx hb hK hP hD hS 17 0 rfl rfl hi2 dMo_enqueue_16 (fun H locs hP hD hS => ?_)
  obtain ⟨σ3, eσ3⟩ : ∃ z, z = up2 σ 22 ((8 * x1) + (σ 21 x1.toNatClampNeg)).toNatClampNeg x2 := ⟨_, rfl⟩
  have hwp := hwp σ3 eσ3
  have hP : va_P D clA (mw a tI tZ σ3) H := by rw [eσ3]; exact hP
  have hD : va_D A (mw a tI tZ σ3) := by rw [eσ3]; exact hD
  refine lv_aload_n hx hb dMo_enqueue_17 rfl (lv_at hl 0 rfl) ?_
  refine va_get (D := D) (ci := 0) (C := RMo) (T := TMo) (N := 33) hx hb hts hin0 hown hK hP 0 rfl rfl 21 (by decide) k59 (fun _ h9 => h9) rfl dMo_enqueue_18 ?_
  refine lv_iload_n hx hb dMo_enqueue_21 rfl (lv_at hl 1 rfl) ?_
  refine lv_dup2_11 hx hb dMo_enqueue_22 rfl rfl ?_
  obtain ⟨hi4, hwp⟩ := hwp
  refine va_iald hx hb hK hP 16 0 rfl rfl hi4 dMo_enqueue_23 ?_
  refine lv_iconst (v := 1) hx hb dMo_enqueue_24 (by decide) ?_
  refine lv_iadd hx hb dMo_enqueue_25 ?_
  obtain ⟨hi5, hwp⟩ := hwp
  refine va_iast hx hb hK hP hD hS 16 0 rfl rfl hi5 dMo_enqueue_26 (fun H locs hP hD hS => ?_)
  obtain ⟨σ6, eσ6⟩ : ∃ z, z = up2 σ3 21 x1.toNatClampNeg ((σ3 21 x1.toNatClampNeg) + 1) := ⟨_, rfl⟩
  have hwp := hwp σ6 eσ6
  have hP : va_P D clA (mw a tI tZ σ6) H := by rw [eσ6]; exact hP
  have hD : va_D A (mw a tI tZ σ6) := by rw [eσ6]; exact hD
  exact W.vret hx hb hr (fun t ht hW => ⟨⟨σ6, rfl, hwp, uEnd ht hW hP hK hD hS hA⟩, hS.F ht⟩) hS.2.2 dMo_enqueue_27
-- private int dequeue(int)
def wM_dequeue_22_step (K22 : MS → Int32 → Int32 → Int32 → Prop) (R : Int32 → MS → Prop) (σ : MS) (y1 : Int32) (y2 : Int32) (y3 : Int32) : Prop :=
  (vp_in y1 4 ∧ ((((σ 21 y1.toNatClampNeg) ≤ y3) → R y2 σ) ∧ ((¬ (σ 21 y1.toNatClampNeg) ≤ y3) → (vp_in (((8 * y1) + y3) + 1) 32 ∧ (vp_in ((8 * y1) + y3) 32 ∧ (∀ σ5 : MS, σ5 = up2 σ 22 ((8 * y1) + y3).toNatClampNeg (σ 22 (((8 * y1) + y3) + 1).toNatClampNeg) → K22 σ5 y1 y2 (y3 + 1)))))))
def wM_dequeue_22 (R : Int32 → MS → Prop) : Nat → MS → Int32 → Int32 → Int32 → Prop
  | 0 => fun _ _ _ _ => False
  | k + 1 => fun σ y1 y2 y3 => wM_dequeue_22_step  (wM_dequeue_22  R k) R σ y1 y2 y3
def wM_dequeue (R : Int32 → MS → Prop) (σ : MS) (x1 : Int32) : Prop :=
  (vp_in (8 * x1) 32 ∧ (∀ v7 : Int32, v7 = σ 22 (8 * x1).toNatClampNeg → (vp_in x1 4 ∧ (vp_in x1 4 ∧ (∀ σ10 : MS, σ10 = up2 σ 21 x1.toNatClampNeg ((σ 21 x1.toNatClampNeg) - 1) → wM_dequeue_22 R 5 σ10 x1 v7 0)))))
abbrev wsMo_dequeue : List Cond := .code yMo_dequeue cMo_dequeue 4 (some .int) :: wg
abbrev rmM_dequeue : Room := { frames := 0, cells := 0, slots := 0, locals := 0 }
set_option maxHeartbeats 4000000 in
set_option maxRecDepth 100000 in
theorem kM_dequeue (l : Launch) (D : va_G) (a : Nat → Nat) (A : Nat → Prop) (tI tZ : ClassId) (σ : MS) (x1 : Int32) (R : Int32 → MS → Prop) (hwp : wM_dequeue R σ x1) : Met l yMo_dequeue wsMo_dequeue rmM_dequeue (va_Pc [.ref (a 0), .int x1] (uI D clA (mT tI tZ) A false (mw a tI tZ) σ)) (va_Qi R (uI D clA (mT tI tZ) A false (mw a tI tZ)) A) 0 0 A := by
  refine Met.ofW (cc := cMo_dequeue) (maxL := 4) (ret := (some .int)) (by decide) rfl ?_
  intro p e s m args below meth c s₁ B hml hv
  obtain ⟨rfl, hP, hK, hD, hA⟩ := hv
  have hx := B.exec
  have hb := B.bytes
  have hr := B.returns
  have hts := atoms_spec (ws := wsMo_dequeue) B.pre
  have hown : s.vm.findClass RMo = some m.cls := findClass_of_methodNamed B.named
  have hlocks := B.notSynchronized
  have hin0 : ∀ w ∈ u_ws RMo TMo 33, w ∈ wsMo_dequeue := fun w h => List.mem_cons_of_mem _ (inMo w h)
  have k59 := hts _ (List.mem_cons_of_mem _ wm_757)
  have k62 := hts _ (List.mem_cons_of_mem _ wm_758)
  have hS : va_S A s.heap s.heap [] := va_S.rf
  have cut22 : ∀ (k22 : Nat) (σ : MS) (y1 : Int32) (y2 : Int32) (y3 : Int32) (H : Heap) (locs : List Loc) (ls : Array Slot), wM_dequeue_22 R k22 σ y1 y2 y3 → va_P D clA (mw a tI tZ σ) H → va_D A (mw a tI tZ σ) → va_S A s.heap H locs → lv_has ls 4 [(0, .ref (a 0)), (1, .int y1), (2, .int y2), (3, .int y3)] → W p l e (headSpec wsMo_dequeue rmM_dequeue).room s m ([.ref (a 0), .int x1] : List Value).toArray below meth c H locs 0 0 (MQ below (va_Qi R (uI D clA (mT tI tZ) A false (mw a tI tZ)) A) ([.ref (a 0), .int x1] : List Value).toArray s 0 0 A) (F0 m 22 ls []) := by
    intro k22
    induction k22 with
    | zero => intro σ y1 y2 y3 H locs ls hwp hP hD hS hl; exact False.elim hwp
    | succ k22 ih22 =>
      intro σ y1 y2 y3 H locs ls hwp hP hD hS hl
      have hwp : wM_dequeue_22_step (wM_dequeue_22 R k22) R σ y1 y2 y3 := hwp
      refine lv_iload_n hx hb dMo_dequeue_22 rfl (lv_at hl 3 rfl) ?_
      refine lv_aload_n hx hb dMo_dequeue_23 rfl (lv_at hl 0 rfl) ?_
      refine va_get (D := D) (ci := 0) (C := RMo) (T := TMo) (N := 33) hx hb hts hin0 hown hK hP 0 rfl rfl 21 (by decide) k59 (fun _ h9 => h9) rfl dMo_dequeue_24 ?_
      refine lv_iload_n hx hb dMo_dequeue_27 rfl (lv_at hl 1 rfl) ?_
      obtain ⟨hi1, hwp⟩ := hwp
      refine va_iald hx hb hK hP 16 0 rfl rfl hi1 dMo_dequeue_28 ?_
      refine lv_icmp_ge hx hb dMo_dequeue_29 rfl (fun h2 => ?_) (fun h2 => ?_)
      · have hwp := hwp.1 h2
        refine lv_iload_n hx hb dMo_dequeue_62 rfl (lv_at hl 2 rfl) ?_
        exact W.iret (v := y2) hx hb hr (fun t ht hW => ⟨⟨y2, σ, rfl, hwp, uEnd ht hW hP hK hD hS hA⟩, hS.F ht⟩) hS.2.2 dMo_dequeue_63
      · have hwp := hwp.2 h2
        refine lv_aload_n hx hb dMo_dequeue_32 rfl (lv_at hl 0 rfl) ?_
        refine va_get (D := D) (ci := 0) (C := RMo) (T := TMo) (N := 33) hx hb hts hin0 hown hK hP 0 rfl rfl 22 (by decide) k62 (fun _ h9 => h9) rfl dMo_dequeue_33 ?_
        refine lv_bipush (v := 8) hx hb dMo_dequeue_36 (by decide) ?_
        refine lv_iload_n hx hb dMo_dequeue_38 rfl (lv_at hl 1 rfl) ?_
        refine lv_imul hx hb dMo_dequeue_39 ?_
        refine lv_iload_n hx hb dMo_dequeue_40 rfl (lv_at hl 3 rfl) ?_
        refine lv_iadd hx hb dMo_dequeue_41 ?_
        refine lv_aload_n hx hb dMo_dequeue_42 rfl (lv_at hl 0 rfl) ?_
        refine va_get (D := D) (ci := 0) (C := RMo) (T := TMo) (N := 33) hx hb hts hin0 hown hK hP 0 rfl rfl 22 (by decide) k62 (fun _ h9 => h9) rfl dMo_dequeue_43 ?_
        refine lv_bipush (v := 8) hx hb dMo_dequeue_46 (by decide) ?_
        refine lv_iload_n hx hb dMo_dequeue_48 rfl (lv_at hl 1 rfl) ?_
        refine lv_imul hx hb dMo_dequeue_49 ?_
        refine lv_iload_n hx hb dMo_dequeue_50 rfl (lv_at hl 3 rfl) ?_
        refine lv_iadd hx hb dMo_dequeue_51 ?_
        refine lv_iconst (v := 1) hx hb dMo_dequeue_52 (by decide) ?_
        refine lv_iadd hx hb dMo_dequeue_53 ?_
        obtain ⟨hi3, hwp⟩ := hwp
        refine va_iald hx hb hK hP 17 0 rfl rfl hi3 dMo_dequeue_54 ?_
        obtain ⟨hi4, hwp⟩ := hwp
        refine va_iast hx hb hK hP hD hS 17 0 rfl rfl hi4 dMo_dequeue_55 (fun H locs hP hD hS => ?_)
        obtain ⟨σ5, eσ5⟩ : ∃ z, z = up2 σ 22 ((8 * y1) + y3).toNatClampNeg (σ 22 (((8 * y1) + y3) + 1).toNatClampNeg) := ⟨_, rfl⟩
        have hwp := hwp σ5 eσ5
        have hP : va_P D clA (mw a tI tZ σ5) H := by rw [eσ5]; exact hP
        have hD : va_D A (mw a tI tZ σ5) := by rw [eσ5]; exact hD
        refine lv_iinc (k := 3) hx hb dMo_dequeue_56 hl rfl (fx_inc1 _) (by decide) rfl (fun ls hl => ?_)
        have hl : lv_has ls 4 [(3, .int (y3 + 1)), (0, .ref (a 0)), (1, .int y1), (2, .int y2)] := hl
        refine lv_goto hx hb dMo_dequeue_59 rfl ?_
        exact ih22 σ5 y1 y2 (y3 + 1) _ _ _ hwp hP hD hS (lv_sub hl [1, 2, 3, 0] rfl)
  have hl := lv_entry ([.ref (a 0), .int x1]) (n := 4) (Nat.le_of_ble_eq_true rfl)
  rw [lg_entry_eq]
  generalize (lg_sl ([.ref (a 0), .int x1]) ++ List.replicate (4 - (lg_sl ([.ref (a 0), .int x1])).length) Slot.unset).toArray = ls at hl ⊢
  have hl : lv_has ls 4 [(0, .ref (a 0)), (1, .int x1)] := hl
  refine lv_aload_n hx hb dMo_dequeue_0 rfl (lv_at hl 0 rfl) ?_
  refine va_get (D := D) (ci := 0) (C := RMo) (T := TMo) (N := 33) hx hb hts hin0 hown hK hP 0 rfl rfl 22 (by decide) k62 (fun _ h9 => h9) rfl dMo_dequeue_1 ?_
  refine lv_bipush (v := 8) hx hb dMo_dequeue_4 (by decide) ?_
  refine lv_iload_n hx hb dMo_dequeue_6 rfl (lv_at hl 1 rfl) ?_
  refine lv_imul hx hb dMo_dequeue_7 ?_
  obtain ⟨hi6, hwp⟩ := hwp
  refine va_iald hx hb hK hP 17 0 rfl rfl hi6 dMo_dequeue_8 ?_
  refine lv_topi (fun v7 ev7 => ?_)
  have hwp := hwp v7 ev7
  refine lv_istore_n hx hb dMo_dequeue_9 rfl hl (by decide) rfl (fun ls hl => ?_)
  have hl : lv_has ls 4 [(2, .int v7), (0, .ref (a 0)), (1, .int x1)] := hl
  refine lv_aload_n hx hb dMo_dequeue_10 rfl (lv_at hl 1 rfl) ?_
  refine va_get (D := D) (ci := 0) (C := RMo) (T := TMo) (N := 33) hx hb hts hin0 hown hK hP 0 rfl rfl 21 (by decide) k59 (fun _ h9 => h9) rfl dMo_dequeue_11 ?_
  refine lv_iload_n hx hb dMo_dequeue_14 rfl (lv_at hl 2 rfl) ?_
  refine lv_dup2_11 hx hb dMo_dequeue_15 rfl rfl ?_
  obtain ⟨hi8, hwp⟩ := hwp
  refine va_iald hx hb hK hP 16 0 rfl rfl hi8 dMo_dequeue_16 ?_
  refine lv_iconst (v := 1) hx hb dMo_dequeue_17 (by decide) ?_
  refine lv_isub hx hb dMo_dequeue_18 ?_
  obtain ⟨hi9, hwp⟩ := hwp
  refine va_iast hx hb hK hP hD hS 16 0 rfl rfl hi9 dMo_dequeue_19 (fun H locs hP hD hS => ?_)
  obtain ⟨σ10, eσ10⟩ : ∃ z, z = up2 σ 21 x1.toNatClampNeg ((σ 21 x1.toNatClampNeg) - 1) := ⟨_, rfl⟩
  have hwp := hwp σ10 eσ10
  have hP : va_P D clA (mw a tI tZ σ10) H := by rw [eσ10]; exact hP
  have hD : va_D A (mw a tI tZ σ10) := by rw [eσ10]; exact hD
  refine lv_iconst (v := 0) hx hb dMo_dequeue_20 (by decide) ?_
  refine lv_istore_n hx hb dMo_dequeue_21 rfl hl (by decide) rfl (fun ls hl => ?_)
  have hl : lv_has ls 4 [(3, .int 0), (2, .int v7), (0, .ref (a 0)), (1, .int x1)] := hl
  exact cut22 5 σ10 x1 v7 0 _ _ _ hwp hP hD hS (lv_sub hl [2, 3, 1, 0] rfl)
-- private void goOn(int)
def wM_goOn_75 (R : MS → Prop) (σ : MS) (y1 : Int32) : Prop :=
  (vp_in y1 4 ∧ ((((σ 20 y1.toNatClampNeg) = y1) → R σ) ∧ ((¬ (σ 20 y1.toNatClampNeg) = y1) → (vp_in y1 4 ∧ ((((σ 21 y1.toNatClampNeg) ≤ 0) → R σ) ∧ ((¬ (σ 21 y1.toNatClampNeg) ≤ 0) → (vp_in y1 4 ∧ (((¬ (σ 23 y1.toNatClampNeg) = 0) → R σ) ∧ (((σ 23 y1.toNatClampNeg) = 0) → (vp_in y1 4 ∧ (∀ σ8 : MS, σ8 = up2 σ 23 y1.toNatClampNeg (vp_nar .boolean 1) → (vp_in y1 4 ∧ (∃ P10 : MS → Prop, wM_send P10 σ8 y1 (σ8 20 y1.toNatClampNeg) 2 0 0 ∧ (∀ (u11 : MS), P10 u11 → R u11))))))))))))))
def wM_goOn (R : MS → Prop) (σ : MS) (x1 : Int32) : Prop :=
  (vp_in x1 4 ∧ (((¬ (σ 20 x1.toNatClampNeg) = x1) → wM_goOn_75 R σ x1) ∧ (((σ 20 x1.toNatClampNeg) = x1) → (vp_in (8 + x1) 12 ∧ ((((σ 8 (8 + x1).toNatClampNeg) = 2) → wM_goOn_75 R σ x1) ∧ ((¬ (σ 8 (8 + x1).toNatClampNeg) = 2) → (vp_in x1 4 ∧ ((((σ 21 x1.toNatClampNeg) ≤ 0) → wM_goOn_75 R σ x1) ∧ ((¬ (σ 21 x1.toNatClampNeg) ≤ 0) → (∃ P18 : Int32 → MS → Prop, wM_dequeue P18 σ x1 ∧ (∀ (r20 : Int32) (u19 : MS), P18 r20 u19 → (vp_in x1 4 ∧ (∀ σ22 : MS, σ22 = up2 u19 23 x1.toNatClampNeg (vp_nar .boolean 0) → (((¬ r20 = x1) → (vp_in x1 4 ∧ (∀ σ25 : MS, σ25 = up2 σ22 20 x1.toNatClampNeg r20 → (∃ P26 : MS → Prop, wM_send P26 σ25 x1 r20 2 1 0 ∧ (∀ (u27 : MS), P26 u27 → wM_goOn_75 R u27 x1))))) ∧ ((r20 = x1) → (∃ P28 : MS → Prop, wM_comeIn P28 σ22 2 x1 ∧ (∀ (u29 : MS), P28 u29 → wM_goOn_75 R u29 x1)))))))))))))))))
abbrev wsMo_goOn : List Cond := .code yMo_goOn cMo_goOn 3 none :: wg
abbrev rmM_goOn : Room := { frames := 1, cells := 0, slots := 0, locals := 27 }
set_option maxHeartbeats 4000000 in
set_option maxRecDepth 100000 in
theorem kM_goOn (l : Launch) (D : va_G) (a : Nat → Nat) (A : Nat → Prop) (tI tZ : ClassId) (σ : MS) (x1 : Int32) (R : MS → Prop) (hwp : wM_goOn R σ x1) : Met l yMo_goOn wsMo_goOn rmM_goOn (va_Pc [.ref (a 0), .int x1] (uI D clA (mT tI tZ) A false (mw a tI tZ) σ)) (va_Qv R (uI D clA (mT tI tZ) A false (mw a tI tZ)) A) 0 0 A := by
  refine Met.ofW (cc := cMo_goOn) (maxL := 3) (ret := none) (by decide) rfl ?_
  intro p e s m args below meth c s₁ B hml hv
  obtain ⟨rfl, hP, hK, hD, hA⟩ := hv
  have hx := B.exec
  have hb := B.bytes
  have hr := B.returns
  have hts := atoms_spec (ws := wsMo_goOn) B.pre
  have hown : s.vm.findClass RMo = some m.cls := findClass_of_methodNamed B.named
  have hlocks := B.notSynchronized
  have hin0 : ∀ w ∈ u_ws RMo TMo 33, w ∈ wsMo_goOn := fun w h => List.mem_cons_of_mem _ (inMo w h)
  have k32 := hts _ (List.mem_cons_of_mem _ wm_744)
  have k56 := hts _ (List.mem_cons_of_mem _ wm_756)
  have k59 := hts _ (List.mem_cons_of_mem _ wm_757)
  have k65 := hts _ (List.mem_cons_of_mem _ wm_759)
  have hS : va_S A s.heap s.heap [] := va_S.rf
  have cut75 : ∀ (σ : MS) (y1 : Int32) (H : Heap) (locs : List Loc) (ls : Array Slot), wM_goOn_75 R σ y1 → va_P D clA (mw a tI tZ σ) H → va_D A (mw a tI tZ σ) → va_S A s.heap H locs → lv_has ls 3 [(0, .ref (a 0)), (1, .int y1)] → W p l e (headSpec wsMo_goOn rmM_goOn).room s m ([.ref (a 0), .int x1] : List Value).toArray below meth c H locs 0 0 (MQ below (va_Qv R (uI D clA (mT tI tZ) A false (mw a tI tZ)) A) ([.ref (a 0), .int x1] : List Value).toArray s 0 0 A) (F0 m 75 ls []) := by
    intro σ y1 H locs ls hwp hP hD hS hl
    refine lv_aload_n hx hb dMo_goOn_75 rfl (lv_at hl 0 rfl) ?_
    refine va_get (D := D) (ci := 0) (C := RMo) (T := TMo) (N := 33) hx hb hts hin0 hown hK hP 0 rfl rfl 20 (by decide) k56 (fun _ h9 => h9) rfl dMo_goOn_76 ?_
    refine lv_iload_n hx hb dMo_goOn_79 rfl (lv_at hl 1 rfl) ?_
    obtain ⟨hi1, hwp⟩ := hwp
    refine va_iald hx hb hK hP 15 0 rfl rfl hi1 dMo_goOn_80 ?_
    refine lv_iload_n hx hb dMo_goOn_81 rfl (lv_at hl 1 rfl) ?_
    refine lv_icmp_eq hx hb dMo_goOn_82 rfl (fun h2 => ?_) (fun h2 => ?_)
    · have hwp := hwp.1 h2
      exact W.vret hx hb hr (fun t ht hW => ⟨⟨σ, rfl, hwp, uEnd ht hW hP hK hD hS hA⟩, hS.F ht⟩) hS.2.2 dMo_goOn_124
    · have hwp := hwp.2 h2
      refine lv_aload_n hx hb dMo_goOn_85 rfl (lv_at hl 0 rfl) ?_
      refine va_get (D := D) (ci := 0) (C := RMo) (T := TMo) (N := 33) hx hb hts hin0 hown hK hP 0 rfl rfl 21 (by decide) k59 (fun _ h9 => h9) rfl dMo_goOn_86 ?_
      refine lv_iload_n hx hb dMo_goOn_89 rfl (lv_at hl 1 rfl) ?_
      obtain ⟨hi3, hwp⟩ := hwp
      refine va_iald hx hb hK hP 16 0 rfl rfl hi3 dMo_goOn_90 ?_
      refine lv_if_le hx hb dMo_goOn_91 rfl (fun h4 => ?_) (fun h4 => ?_)
      · have hwp := hwp.1 h4
        exact W.vret hx hb hr (fun t ht hW => ⟨⟨σ, rfl, hwp, uEnd ht hW hP hK hD hS hA⟩, hS.F ht⟩) hS.2.2 dMo_goOn_124
      · have hwp := hwp.2 h4
        refine lv_aload_n hx hb dMo_goOn_94 rfl (lv_at hl 0 rfl) ?_
        refine va_get (D := D) (ci := 0) (C := RMo) (T := TMo) (N := 33) hx hb hts hin0 hown hK hP 0 rfl rfl 23 (by decide) k65 (fun _ h9 => h9) rfl dMo_goOn_95 ?_
        refine lv_iload_n hx hb dMo_goOn_98 rfl (lv_at hl 1 rfl) ?_
        obtain ⟨hi5, hwp⟩ := hwp
        refine va_zald hx hb hK hP 18 1 rfl rfl hi5 dMo_goOn_99 ?_
        refine lv_if_ne hx hb dMo_goOn_100 rfl (fun h6 => ?_) (fun h6 => ?_)
        · have hwp := hwp.1 h6
          exact W.vret hx hb hr (fun t ht hW => ⟨⟨σ, rfl, hwp, uEnd ht hW hP hK hD hS hA⟩, hS.F ht⟩) hS.2.2 dMo_goOn_124
        · have hwp := hwp.2 h6
          refine lv_aload_n hx hb dMo_goOn_103 rfl (lv_at hl 0 rfl) ?_
          refine va_get (D := D) (ci := 0) (C := RMo) (T := TMo) (N := 33) hx hb hts hin0 hown hK hP 0 rfl rfl 23 (by decide) k65 (fun _ h9 => h9) rfl dMo_goOn_104 ?_
          refine lv_iload_n hx hb dMo_goOn_107 rfl (lv_at hl 1 rfl) ?_
          refine lv_iconst (v := 1) hx hb dMo_goOn_108 (by decide) ?_
          obtain ⟨hi7, hwp⟩ := hwp
          refine va_zast hx hb hK hP hD hS 18 1 rfl rfl hi7 dMo_goOn_109 (fun H locs hP hD hS => ?_)
          obtain ⟨σ8, eσ8⟩ : ∃ z, z = up2 σ 23 y1.toNatClampNeg (vp_nar .boolean 1) := ⟨_, rfl⟩
          have hwp := hwp σ8 eσ8
          have hP : va_P D clA (mw a tI tZ σ8) H := by rw [eσ8]; exact hP
          have hD : va_D A (mw a tI tZ σ8) := by rw [eσ8]; exact hD
          refine lv_aload_n hx hb dMo_goOn_110 rfl (lv_at hl 0 rfl) ?_
          refine lv_iload_n hx hb dMo_goOn_111 rfl (lv_at hl 1 rfl) ?_
          refine lv_aload_n hx hb dMo_goOn_112 rfl (lv_at hl 0 rfl) ?_
          refine va_get (D := D) (ci := 0) (C := RMo) (T := TMo) (N := 33) hx hb hts hin0 hown hK hP 0 rfl rfl 20 (by decide) k56 (fun _ h9 => h9) rfl dMo_goOn_113 ?_
          refine lv_iload_n hx hb dMo_goOn_116 rfl (lv_at hl 1 rfl) ?_
          obtain ⟨hi9, hwp⟩ := hwp
          refine va_iald hx hb hK hP 15 0 rfl rfl hi9 dMo_goOn_117 ?_
          refine lv_iconst (v := 2) hx hb dMo_goOn_118 (by decide) ?_
          refine lv_iconst (v := 0) hx hb dMo_goOn_119 (by decide) ?_
          refine lv_iconst (v := 0) hx hb dMo_goOn_120 (by decide) ?_
          obtain ⟨P10, hP10, hwp⟩ := hwp
          refine uCallVv (As := [.int y1, .int (σ8 20 y1.toNatClampNeg), .int 2, .int 0, .int 0]) (rest := []) (C := RMo) ⟨hx, hb, hml, hown, hts⟩ (kM_send l D a A tI tZ σ8 y1 (σ8 20 y1.toNatClampNeg) 2 0 0 P10 hP10) (cwV 5 hts (gdV wm_858 wm_860 wp_18 wm_13 wm_861) rfl rfl rfl (by decide +kernel) ⟨Nat.le_of_ble_eq_true rfl, Nat.le_of_ble_eq_true rfl⟩) (va_recv (ci := 0) (q0 := 0) hK hP rfl rfl) hP hK hD hA hS rfl hl.1 rfl (Nat.le_of_ble_eq_true rfl) dMo_goOn_121 ⟨Nat.le_of_ble_eq_true rfl, Nat.le_of_ble_eq_true rfl⟩ (fun u11 H locs hu11 hP hD hS => ?_)
          have hwp := hwp u11 hu11
          exact W.vret hx hb hr (fun t ht hW => ⟨⟨u11, rfl, hwp, uEnd ht hW hP hK hD hS hA⟩, hS.F ht⟩) hS.2.2 dMo_goOn_124
  have hl := lv_entry ([.ref (a 0), .int x1]) (n := 3) (Nat.le_of_ble_eq_true rfl)
  rw [lg_entry_eq]
  generalize (lg_sl ([.ref (a 0), .int x1]) ++ List.replicate (3 - (lg_sl ([.ref (a 0), .int x1])).length) Slot.unset).toArray = ls at hl ⊢
  have hl : lv_has ls 3 [(0, .ref (a 0)), (1, .int x1)] := hl
  refine lv_aload_n hx hb dMo_goOn_0 rfl (lv_at hl 0 rfl) ?_
  refine va_get (D := D) (ci := 0) (C := RMo) (T := TMo) (N := 33) hx hb hts hin0 hown hK hP 0 rfl rfl 20 (by decide) k56 (fun _ h9 => h9) rfl dMo_goOn_1 ?_
  refine lv_iload_n hx hb dMo_goOn_4 rfl (lv_at hl 1 rfl) ?_
  obtain ⟨hi12, hwp⟩ := hwp
  refine va_iald hx hb hK hP 15 0 rfl rfl hi12 dMo_goOn_5 ?_
  refine lv_iload_n hx hb dMo_goOn_6 rfl (lv_at hl 1 rfl) ?_
  refine lv_icmp_ne hx hb dMo_goOn_7 rfl (fun h13 => ?_) (fun h13 => ?_)
  · have hwp := hwp.1 h13
    exact cut75 σ x1 _ _ _ hwp hP hD hS (lv_sub hl [0, 1] rfl)
  · have hwp := hwp.2 h13
    refine lv_aload_n hx hb dMo_goOn_10 rfl (lv_at hl 0 rfl) ?_
    refine va_get (D := D) (ci := 0) (C := RMo) (T := TMo) (N := 33) hx hb hts hin0 hown hK hP 0 rfl rfl 8 (by decide) k32 (fun _ h9 => h9) rfl dMo_goOn_11 ?_
    refine lv_bipush (v := 8) hx hb dMo_goOn_14 (by decide) ?_
    refine lv_iload_n hx hb dMo_goOn_16 rfl (lv_at hl 1 rfl) ?_
    refine lv_iadd hx hb dMo_goOn_17 ?_
    obtain ⟨hi14, hwp⟩ := hwp
    refine va_iald hx hb hK hP 7 0 rfl rfl hi14 dMo_goOn_18 ?_
    refine lv_iconst (v := 2) hx hb dMo_goOn_19 (by decide) ?_
    refine lv_icmp_eq hx hb dMo_goOn_20 rfl (fun h15 => ?_) (fun h15 => ?_)
    · have hwp := hwp.1 h15
      exact cut75 σ x1 _ _ _ hwp hP hD hS (lv_sub hl [0, 1] rfl)
    · have hwp := hwp.2 h15
      refine lv_aload_n hx hb dMo_goOn_23 rfl (lv_at hl 0 rfl) ?_
      refine va_get (D := D) (ci := 0) (C := RMo) (T := TMo) (N := 33) hx hb hts hin0 hown hK hP 0 rfl rfl 21 (by decide) k59 (fun _ h9 => h9) rfl dMo_goOn_24 ?_
      refine lv_iload_n hx hb dMo_goOn_27 rfl (lv_at hl 1 rfl) ?_
      obtain ⟨hi16, hwp⟩ := hwp
      refine va_iald hx hb hK hP 16 0 rfl rfl hi16 dMo_goOn_28 ?_
      refine lv_if_le hx hb dMo_goOn_29 rfl (fun h17 => ?_) (fun h17 => ?_)
      · have hwp := hwp.1 h17
        exact cut75 σ x1 _ _ _ hwp hP hD hS (lv_sub hl [0, 1] rfl)
      · have hwp := hwp.2 h17
        refine lv_aload_n hx hb dMo_goOn_32 rfl (lv_at hl 0 rfl) ?_
        refine lv_iload_n hx hb dMo_goOn_33 rfl (lv_at hl 1 rfl) ?_
        obtain ⟨P18, hP18, hwp⟩ := hwp
        refine uCallVi (As := [.int x1]) (rest := []) (C := RMo) ⟨hx, hb, hml, hown, hts⟩ (kM_dequeue l D a A tI tZ σ x1 P18 hP18) (cwV 1 hts (gdV wm_882 wm_884 wp_24 wm_13 wm_885) rfl rfl rfl (by decide +kernel) ⟨Nat.le_of_ble_eq_true rfl, Nat.le_of_ble_eq_true rfl⟩) (va_recv (ci := 0) (q0 := 0) hK hP rfl rfl) hP hK hD hA hS rfl hl.1 rfl (Nat.le_of_ble_eq_true rfl) dMo_goOn_34 ⟨Nat.le_of_ble_eq_true rfl, Nat.le_of_ble_eq_true rfl⟩ (fun r20 u19 H locs hu19 hP hD hS => ?_)
        have hwp := hwp r20 u19 hu19
        refine lv_istore_n hx hb dMo_goOn_37 rfl hl (by decide) rfl (fun ls hl => ?_)
        have hl : lv_has ls 3 [(2, .int r20), (0, .ref (a 0)), (1, .int x1)] := hl
        refine lv_aload_n hx hb dMo_goOn_38 rfl (lv_at hl 1 rfl) ?_
        refine va_get (D := D) (ci := 0) (C := RMo) (T := TMo) (N := 33) hx hb hts hin0 hown hK hP 0 rfl rfl 23 (by decide) k65 (fun _ h9 => h9) rfl dMo_goOn_39 ?_
        refine lv_iload_n hx hb dMo_goOn_42 rfl (lv_at hl 2 rfl) ?_
        refine lv_iconst (v := 0) hx hb dMo_goOn_43 (by decide) ?_
        obtain ⟨hi21, hwp⟩ := hwp
        refine va_zast hx hb hK hP hD hS 18 1 rfl rfl hi21 dMo_goOn_44 (fun H locs hP hD hS => ?_)
        obtain ⟨σ22, eσ22⟩ : ∃ z, z = up2 u19 23 x1.toNatClampNeg (vp_nar .boolean 0) := ⟨_, rfl⟩
        have hwp := hwp σ22 eσ22
        have hP : va_P D clA (mw a tI tZ σ22) H := by rw [eσ22]; exact hP
        have hD : va_D A (mw a tI tZ σ22) := by rw [eσ22]; exact hD
        refine lv_iload_n hx hb dMo_goOn_45 rfl (lv_at hl 0 rfl) ?_
        refine lv_iload_n hx hb dMo_goOn_46 rfl (lv_at hl 2 rfl) ?_
        refine lv_icmp_ne hx hb dMo_goOn_47 rfl (fun h23 => ?_) (fun h23 => ?_)
        · have hwp := hwp.1 h23
          refine lv_aload_n hx hb dMo_goOn_59 rfl (lv_at hl 1 rfl) ?_
          refine va_get (D := D) (ci := 0) (C := RMo) (T := TMo) (N := 33) hx hb hts hin0 hown hK hP 0 rfl rfl 20 (by decide) k56 (fun _ h9 => h9) rfl dMo_goOn_60 ?_
          refine lv_iload_n hx hb dMo_goOn_63 rfl (lv_at hl 2 rfl) ?_
          refine lv_iload_n hx hb dMo_goOn_64 rfl (lv_at hl 0 rfl) ?_
          obtain ⟨hi24, hwp⟩ := hwp
          refine va_iast hx hb hK hP hD hS 15 0 rfl rfl hi24 dMo_goOn_65 (fun H locs hP hD hS => ?_)
          obtain ⟨σ25, eσ25⟩ : ∃ z, z = up2 σ22 20 x1.toNatClampNeg r20 := ⟨_, rfl⟩
          have hwp := hwp σ25 eσ25
          have hP : va_P D clA (mw a tI tZ σ25) H := by rw [eσ25]; exact hP
          have hD : va_D A (mw a tI tZ σ25) := by rw [eσ25]; exact hD
          refine lv_aload_n hx hb dMo_goOn_66 rfl (lv_at hl 1 rfl) ?_
          refine lv_iload_n hx hb dMo_goOn_67 rfl (lv_at hl 2 rfl) ?_
          refine lv_iload_n hx hb dMo_goOn_68 rfl (lv_at hl 0 rfl) ?_
          refine lv_iconst (v := 2) hx hb dMo_goOn_69 (by decide) ?_
          refine lv_iconst (v := 1) hx hb dMo_goOn_70 (by decide) ?_
          refine lv_iconst (v := 0) hx hb dMo_goOn_71 (by decide) ?_
          obtain ⟨P26, hP26, hwp⟩ := hwp
          refine uCallVv (As := [.int x1, .int r20, .int 2, .int 1, .int 0]) (rest := []) (C := RMo) ⟨hx, hb, hml, hown, hts⟩ (kM_send l D a A tI tZ σ25 x1 r20 2 1 0 P26 hP26) (cwV 5 hts (gdV wm_858 wm_860 wp_18 wm_13 wm_861) rfl rfl rfl (by decide +kernel) ⟨Nat.le_of_ble_eq_true rfl, Nat.le_of_ble_eq_true rfl⟩) (va_recv (ci := 0) (q0 := 0) hK hP rfl rfl) hP hK hD hA hS rfl hl.1 rfl (Nat.le_of_ble_eq_true rfl) dMo_goOn_72 ⟨Nat.le_of_ble_eq_true rfl, Nat.le_of_ble_eq_true rfl⟩ (fun u27 H locs hu27 hP hD hS => ?_)
          have hwp := hwp u27 hu27
          exact cut75 u27 x1 _ _ _ hwp hP hD hS (lv_sub hl [1, 2] rfl)
        · have hwp := hwp.2 h23
          refine lv_aload_n hx hb dMo_goOn_50 rfl (lv_at hl 1 rfl) ?_
          refine lv_iconst (v := 2) hx hb dMo_goOn_51 (by decide) ?_
          refine lv_iload_n hx hb dMo_goOn_52 rfl (lv_at hl 2 rfl) ?_
          obtain ⟨P28, hP28, hwp⟩ := hwp
          refine uCallVv (As := [.int 2, .int x1]) (rest := []) (C := RMo) ⟨hx, hb, hml, hown, hts⟩ (kM_comeIn l D a A tI tZ σ22 2 x1 P28 hP28) (cwV 2 hts (gdV wm_854 wm_856 wp_17 wm_13 wm_857) rfl rfl rfl (by decide +kernel) ⟨Nat.le_of_ble_eq_true rfl, Nat.le_of_ble_eq_true rfl⟩) (va_recv (ci := 0) (q0 := 0) hK hP rfl rfl) hP hK hD hA hS rfl hl.1 rfl (Nat.le_of_ble_eq_true rfl) dMo_goOn_53 ⟨Nat.le_of_ble_eq_true rfl, Nat.le_of_ble_eq_true rfl⟩ (fun u29 H locs hu29 hP hD hS => ?_)
          have hwp := hwp u29 hu29
          refine lv_goto hx hb dMo_goOn_56 rfl ?_
          exact cut75 u29 x1 _ _ _ hwp hP hD hS (lv_sub hl [1, 2] rfl)
-- private void passToken(int)
def wM_passToken_127_step (K127 : MS → Int32 → Int32 → Int32 → Prop) (R : MS → Prop) (σ : MS) (y1 : Int32) (y2 : Int32) (y3 : Int32) : Prop :=
  ((((σ 18 0) ≤ y3) → (∀ σ2 : MS, σ2 = up2 σ 17 0 (-1) → (∃ P3 : MS → Prop, wM_send P3 σ2 y1 y2 1 1 0 ∧ (∀ (u4 : MS), P3 u4 → R u4)))) ∧ ((¬ (σ 18 0) ≤ y3) → (vp_in (y3 + 1) 4 ∧ (vp_in y3 4 ∧ (∀ σ7 : MS, σ7 = up2 σ 19 y3.toNatClampNeg (σ 19 (y3 + 1).toNatClampNeg) → K127 σ7 y1 y2 (y3 + 1))))))
def wM_passToken_127 (R : MS → Prop) : Nat → MS → Int32 → Int32 → Int32 → Prop
  | 0 => fun _ _ _ _ => False
  | k + 1 => fun σ y1 y2 y3 => wM_passToken_127_step  (wM_passToken_127  R k) R σ y1 y2 y3
def wM_passToken_95 (K16 : MS → Int32 → Int32 → Prop) (R : MS → Prop) (σ : MS) (y1 : Int32) (y2 : Int32) (y3 : Int32) (y4 : Int32) : Prop :=
  K16 σ y1 (y2 + 1)
def wM_passToken_55 (K16 : MS → Int32 → Int32 → Prop) (K26 : MS → Int32 → Int32 → Int32 → Int32 → Prop) (R : MS → Prop) (σ : MS) (y1 : Int32) (y2 : Int32) (y3 : Int32) (y4 : Int32) (z0 : Int32) : Prop :=
  K26 σ y1 y2 z0 (y4 + 1)
def wM_passToken_50 (K16 : MS → Int32 → Int32 → Prop) (K26 : MS → Int32 → Int32 → Int32 → Int32 → Prop) (R : MS → Prop) (σ : MS) (y1 : Int32) (y2 : Int32) (y3 : Int32) (y4 : Int32) : Prop :=
  wM_passToken_55 K16 K26 R σ y1 y2 y3 y4 1
def wM_passToken_26_step (K16 : MS → Int32 → Int32 → Prop) (K26 : MS → Int32 → Int32 → Int32 → Int32 → Prop) (R : MS → Prop) (σ : MS) (y1 : Int32) (y2 : Int32) (y3 : Int32) (y4 : Int32) : Prop :=
  ((((σ 18 0) ≤ y4) → (((¬ y3 = 0) → wM_passToken_95 K16 R σ y1 y2 y3 y4) ∧ ((y3 = 0) → (∃ P10 : Int32 → MS → Prop, wM_isDue P10 σ y1 y2 ∧ (∀ (r12 : Int32) (u11 : MS), P10 r12 u11 → (((r12 = 0) → wM_passToken_95 K16 R u11 y1 y2 y3 y4) ∧ ((¬ r12 = 0) → (vp_in (u11 18 0) 4 ∧ (∀ σ15 : MS, σ15 = up2 u11 19 (u11 18 0).toNatClampNeg y2 → (∀ σ16 : MS, σ16 = up2 σ15 18 0 ((σ15 18 0) + 1) → wM_passToken_95 K16 R σ16 y1 y2 y3 y4)))))))))) ∧ ((¬ (σ 18 0) ≤ y4) → (((¬ y3 = 0) → wM_passToken_50 K16 K26 R σ y1 y2 y3 y4) ∧ ((y3 = 0) → (vp_in y4 4 ∧ (((¬ (σ 19 y4.toNatClampNeg) = y2) → wM_passToken_55 K16 K26 R σ y1 y2 y3 y4 0) ∧ (((σ 19 y4.toNatClampNeg) = y2) → wM_passToken_50 K16 K26 R σ y1 y2 y3 y4)))))))
def wM_passToken_26 (K16 : MS → Int32 → Int32 → Prop) (R : MS → Prop) : Nat → MS → Int32 → Int32 → Int32 → Int32 → Prop
  | 0 => fun _ _ _ _ _ => False
  | k + 1 => fun σ y1 y2 y3 y4 => wM_passToken_26_step K16 (wM_passToken_26 K16 R k) R σ y1 y2 y3 y4
def wM_passToken_16_step (K16 : MS → Int32 → Int32 → Prop) (R : MS → Prop) (σ : MS) (y1 : Int32) (y2 : Int32) : Prop :=
  (((4 ≤ y2) → ((((σ 18 0) ≤ 0) → R σ) ∧ ((¬ (σ 18 0) ≤ 0) → (∀ v22 : Int32, v22 = σ 19 (0 : Int32).toNatClampNeg → (∀ σ23 : MS, σ23 = up2 σ 18 0 ((σ 18 0) - 1) → wM_passToken_127 R 5 σ23 y1 v22 0))))) ∧ ((¬ 4 ≤ y2) → wM_passToken_26 K16 R 5 σ y1 y2 0 0))
def wM_passToken_16 (R : MS → Prop) : Nat → MS → Int32 → Int32 → Prop
  | 0 => fun _ _ _ => False
  | k + 1 => fun σ y1 y2 => wM_passToken_16_step  (wM_passToken_16  R k) R σ y1 y2
def wM_passToken (R : MS → Prop) (σ : MS) (x1 : Int32) : Prop :=
  (vp_in (5 * x1) 16 ∧ (vp_in x1 4 ∧ (∀ σ26 : MS, σ26 = up2 σ 16 x1.toNatClampNeg (σ 15 (5 * x1).toNatClampNeg) → wM_passToken_16 R 5 σ26 x1 0)))
abbrev wsMo_passToken : List Cond := .code yMo_passToken cMo_passToken 5 none :: wg
abbrev rmM_passToken : Room := { frames := 1, cells := 0, slots := 0, locals := 27 }
set_option maxHeartbeats 4000000 in
set_option maxRecDepth 100000 in
theorem kM_passToken (l : Launch) (D : va_G) (a : Nat → Nat) (A : Nat → Prop) (tI tZ : ClassId) (σ : MS) (x1 : Int32) (R : MS → Prop) (hwp : wM_passToken R σ x1) : Met l yMo_passToken wsMo_passToken rmM_passToken (va_Pc [.ref (a 0), .int x1] (uI D clA (mT tI tZ) A false (mw a tI tZ) σ)) (va_Qv R (uI D clA (mT tI tZ) A false (mw a tI tZ)) A) 0 0 A := by
  refine Met.ofW (cc := cMo_passToken) (maxL := 5) (ret := none) (by decide) rfl ?_
  intro p e s m args below meth c s₁ B hml hv
  obtain ⟨rfl, hP, hK, hD, hA⟩ := hv
  have hx := B.exec
  have hb := B.bytes
  have hr := B.returns
  have hts := atoms_spec (ws := wsMo_passToken) B.pre
  have hown : s.vm.findClass RMo = some m.cls := findClass_of_methodNamed B.named
  have hlocks := B.notSynchronized
  have hin0 : ∀ w ∈ u_ws RMo TMo 33, w ∈ wsMo_passToken := fun w h => List.mem_cons_of_mem _ (inMo w h)
  have k134 := hts _ (List.mem_cons_of_mem _ wm_753)
  have k157 := hts _ (List.mem_cons_of_mem _ wm_754)
  have k47 := hts _ (List.mem_cons_of_mem _ wm_751)
  have k50 := hts _ (List.mem_cons_of_mem _ wm_752)
  have k53 := hts _ (List.mem_cons_of_mem _ wm_755)
  have hS : va_S A s.heap s.heap [] := va_S.rf
  have cut127 : ∀ (k127 : Nat) (σ : MS) (y1 : Int32) (y2 : Int32) (y3 : Int32) (H : Heap) (locs : List Loc) (ls : Array Slot), wM_passToken_127 R k127 σ y1 y2 y3 → va_P D clA (mw a tI tZ σ) H → va_D A (mw a tI tZ σ) → va_S A s.heap H locs → lv_has ls 5 [(0, .ref (a 0)), (1, .int y1), (2, .int y2), (3, .int y3)] → W p l e (headSpec wsMo_passToken rmM_passToken).room s m ([.ref (a 0), .int x1] : List Value).toArray below meth c H locs 0 0 (MQ below (va_Qv R (uI D clA (mT tI tZ) A false (mw a tI tZ)) A) ([.ref (a 0), .int x1] : List Value).toArray s 0 0 A) (F0 m 127 ls []) := by
    intro k127
    induction k127 with
    | zero => intro σ y1 y2 y3 H locs ls hwp hP hD hS hl; exact False.elim hwp
    | succ k127 ih127 =>
      intro σ y1 y2 y3 H locs ls hwp hP hD hS hl
      have hwp : wM_passToken_127_step (wM_passToken_127 R k127) R σ y1 y2 y3 := hwp
      refine lv_iload_n hx hb dMo_passToken_127 rfl (lv_at hl 3 rfl) ?_
      refine lv_aload_n hx hb dMo_passToken_128 rfl (lv_at hl 0 rfl) ?_
      refine va_get (D := D) (ci := 0) (C := RMo) (T := TMo) (N := 33) hx hb hts hin0 hown hK hP 0 rfl rfl 18 (by decide) k157 (fun _ h9 => h9) rfl dMo_passToken_129 ?_
      refine lv_icmp_ge hx hb dMo_passToken_132 rfl (fun h1 => ?_) (fun h1 => ?_)
      · have hwp := hwp.1 h1
        refine lv_aload_n hx hb dMo_passToken_155 rfl (lv_at hl 0 rfl) ?_
        refine lv_iconst (v := (-1)) hx hb dMo_passToken_156 (by decide) ?_
        refine va_put (ty := .int) (D := D) (ci := 0) (C := RMo) (T := TMo) (N := 33) hx hb hts hin0 tyMo tyMo_ok nmMo hown hK hP hD hS 0 rfl rfl 17 (by decide) k134 (fun _ h9 => h9) rfl (by decide +kernel) rfl rfl (Nat.le_of_ble_eq_true rfl) dMo_passToken_157 (fun H locs hP hD hS => ?_)
        obtain ⟨σ2, eσ2⟩ : ∃ z, z = up2 σ 17 0 (-1) := ⟨_, rfl⟩
        have hwp := hwp σ2 eσ2
        have hP : va_P D clA (mw a tI tZ σ2) H := by rw [eσ2]; exact hP
        have hD : va_D A (mw a tI tZ σ2) := by rw [eσ2]; exact hD
        refine lv_aload_n hx hb dMo_passToken_160 rfl (lv_at hl 0 rfl) ?_
        refine lv_iload_n hx hb dMo_passToken_161 rfl (lv_at hl 1 rfl) ?_
        refine lv_iload_n hx hb dMo_passToken_162 rfl (lv_at hl 2 rfl) ?_
        refine lv_iconst (v := 1) hx hb dMo_passToken_163 (by decide) ?_
        refine lv_iconst (v := 1) hx hb dMo_passToken_164 (by decide) ?_
        refine lv_iconst (v := 0) hx hb dMo_passToken_165 (by decide) ?_
        obtain ⟨P3, hP3, hwp⟩ := hwp
        refine uCallVv (As := [.int y1, .int y2, .int 1, .int 1, .int 0]) (rest := []) (C := RMo) ⟨hx, hb, hml, hown, hts⟩ (kM_send l D a A tI tZ σ2 y1 y2 1 1 0 P3 hP3) (cwV 5 hts (gdV wm_858 wm_860 wp_18 wm_13 wm_861) rfl rfl rfl (by decide +kernel) ⟨Nat.le_of_ble_eq_true rfl, Nat.le_of_ble_eq_true rfl⟩) (va_recv (ci := 0) (q0 := 0) hK hP rfl rfl) hP hK hD hA hS rfl hl.1 rfl (Nat.le_of_ble_eq_true rfl) dMo_passToken_166 ⟨Nat.le_of_ble_eq_true rfl, Nat.le_of_ble_eq_true rfl⟩ (fun u4 H locs hu4 hP hD hS => ?_)
        have hwp := hwp u4 hu4
        exact W.vret hx hb hr (fun t ht hW => ⟨⟨u4, rfl, hwp, uEnd ht hW hP hK hD hS hA⟩, hS.F ht⟩) hS.2.2 dMo_passToken_169
      · have hwp := hwp.2 h1
        refine lv_aload_n hx hb dMo_passToken_135 rfl (lv_at hl 0 rfl) ?_
        refine va_get (D := D) (ci := 0) (C := RMo) (T := TMo) (N := 33) hx hb hts hin0 hown hK hP 0 rfl rfl 19 (by decide) k53 (fun _ h9 => h9) rfl dMo_passToken_136 ?_
        refine lv_iload_n hx hb dMo_passToken_139 rfl (lv_at hl 3 rfl) ?_
        refine lv_aload_n hx hb dMo_passToken_140 rfl (lv_at hl 0 rfl) ?_
        refine va_get (D := D) (ci := 0) (C := RMo) (T := TMo) (N := 33) hx hb hts hin0 hown hK hP 0 rfl rfl 19 (by decide) k53 (fun _ h9 => h9) rfl dMo_passToken_141 ?_
        refine lv_iload_n hx hb dMo_passToken_144 rfl (lv_at hl 3 rfl) ?_
        refine lv_iconst (v := 1) hx hb dMo_passToken_145 (by decide) ?_
        refine lv_iadd hx hb dMo_passToken_146 ?_
        obtain ⟨hi5, hwp⟩ := hwp
        refine va_iald hx hb hK hP 14 0 rfl rfl hi5 dMo_passToken_147 ?_
        obtain ⟨hi6, hwp⟩ := hwp
        refine va_iast hx hb hK hP hD hS 14 0 rfl rfl hi6 dMo_passToken_148 (fun H locs hP hD hS => ?_)
        obtain ⟨σ7, eσ7⟩ : ∃ z, z = up2 σ 19 y3.toNatClampNeg (σ 19 (y3 + 1).toNatClampNeg) := ⟨_, rfl⟩
        have hwp := hwp σ7 eσ7
        have hP : va_P D clA (mw a tI tZ σ7) H := by rw [eσ7]; exact hP
        have hD : va_D A (mw a tI tZ σ7) := by rw [eσ7]; exact hD
        refine lv_iinc (k := 3) hx hb dMo_passToken_149 hl rfl (fx_inc1 _) (by decide) rfl (fun ls hl => ?_)
        have hl : lv_has ls 5 [(3, .int (y3 + 1)), (0, .ref (a 0)), (1, .int y1), (2, .int y2)] := hl
        refine lv_goto hx hb dMo_passToken_152 rfl ?_
        exact ih127 σ7 y1 y2 (y3 + 1) _ _ _ hwp hP hD hS (lv_sub hl [1, 2, 3, 0] rfl)
  have cut16 : ∀ (k16 : Nat) (σ : MS) (y1 : Int32) (y2 : Int32) (H : Heap) (locs : List Loc) (ls : Array Slot), wM_passToken_16 R k16 σ y1 y2 → va_P D clA (mw a tI tZ σ) H → va_D A (mw a tI tZ σ) → va_S A s.heap H locs → lv_has ls 5 [(0, .ref (a 0)), (1, .int y1), (2, .int y2)] → W p l e (headSpec wsMo_passToken rmM_passToken).room s m ([.ref (a 0), .int x1] : List Value).toArray below meth c H locs 0 0 (MQ below (va_Qv R (uI D clA (mT tI tZ) A false (mw a tI tZ)) A) ([.ref (a 0), .int x1] : List Value).toArray s 0 0 A) (F0 m 16 ls []) := by
    intro k16
    induction k16 with
    | zero => intro σ y1 y2 H locs ls hwp hP hD hS hl; exact False.elim hwp
    | succ k16 ih16 =>
      intro σ y1 y2 H locs ls hwp hP hD hS hl
      have cut95 : ∀ (σ : MS) (y1 : Int32) (y2 : Int32) (y3 : Int32) (y4 : Int32) (H : Heap) (locs : List Loc) (ls : Array Slot), wM_passToken_95 (wM_passToken_16 R k16) R σ y1 y2 y3 y4 → va_P D clA (mw a tI tZ σ) H → va_D A (mw a tI tZ σ) → va_S A s.heap H locs → lv_has ls 5 [(0, .ref (a 0)), (1, .int y1), (2, .int y2), (3, .int y3), (4, .int y4)] → W p l e (headSpec wsMo_passToken rmM_passToken).room s m ([.ref (a 0), .int x1] : List Value).toArray below meth c H locs 0 0 (MQ below (va_Qv R (uI D clA (mT tI tZ) A false (mw a tI tZ)) A) ([.ref (a 0), .int x1] : List Value).toArray s 0 0 A) (F0 m 95 ls []) := by
        intro σ y1 y2 y3 y4 H locs ls hwp hP hD hS hl
        refine lv_iinc (k := 2) hx hb dMo_passToken_95 hl rfl (fx_inc1 _) (by decide) rfl (fun ls hl => ?_)
        have hl : lv_has ls 5 [(2, .int (y2 + 1)), (0, .ref (a 0)), (1, .int y1), (3, .int y3), (4, .int y4)] := hl
        refine lv_goto hx hb dMo_passToken_98 rfl ?_
        exact ih16 σ y1 (y2 + 1) _ _ _ hwp hP hD hS (lv_sub hl [1, 2, 0] rfl)
      have cut26 : ∀ (k26 : Nat) (σ : MS) (y1 : Int32) (y2 : Int32) (y3 : Int32) (y4 : Int32) (H : Heap) (locs : List Loc) (ls : Array Slot), wM_passToken_26 (wM_passToken_16 R k16) R k26 σ y1 y2 y3 y4 → va_P D clA (mw a tI tZ σ) H → va_D A (mw a tI tZ σ) → va_S A s.heap H locs → lv_has ls 5 [(0, .ref (a 0)), (1, .int y1), (2, .int y2), (3, .int y3), (4, .int y4)] → W p l e (headSpec wsMo_passToken rmM_passToken).room s m ([.ref (a 0), .int x1] : List Value).toArray below meth c H locs 0 0 (MQ below (va_Qv R (uI D clA (mT tI tZ) A false (mw a tI tZ)) A) ([.ref (a 0), .int x1] : List Value).toArray s 0 0 A) (F0 m 26 ls []) := by
        intro k26
        induction k26 with
        | zero => intro σ y1 y2 y3 y4 H locs ls hwp hP hD hS hl; exact False.elim hwp
        | succ k26 ih26 =>
          intro σ y1 y2 y3 y4 H locs ls hwp hP hD hS hl
          have cut55 : ∀ (σ : MS) (y1 : Int32) (y2 : Int32) (y3 : Int32) (y4 : Int32) (z0 : Int32) (H : Heap) (locs : List Loc) (ls : Array Slot), wM_passToken_55 (wM_passToken_16 R k16) (wM_passToken_26 (wM_passToken_16 R k16) R k26) R σ y1 y2 y3 y4 z0 → va_P D clA (mw a tI tZ σ) H → va_D A (mw a tI tZ σ) → va_S A s.heap H locs → lv_has ls 5 [(0, .ref (a 0)), (1, .int y1), (2, .int y2), (3, .int y3), (4, .int y4)] → W p l e (headSpec wsMo_passToken rmM_passToken).room s m ([.ref (a 0), .int x1] : List Value).toArray below meth c H locs 0 0 (MQ below (va_Qv R (uI D clA (mT tI tZ) A false (mw a tI tZ)) A) ([.ref (a 0), .int x1] : List Value).toArray s 0 0 A) (F0 m 55 ls [.int z0]) := by
            intro σ y1 y2 y3 y4 z0 H locs ls hwp hP hD hS hl
            refine lv_istore_n hx hb dMo_passToken_55 rfl hl (by decide) rfl (fun ls hl => ?_)
            have hl : lv_has ls 5 [(3, .int z0), (0, .ref (a 0)), (1, .int y1), (2, .int y2), (4, .int y4)] := hl
            refine lv_iinc (k := 4) hx hb dMo_passToken_56 hl rfl (fx_inc1 _) (by decide) rfl (fun ls hl => ?_)
            have hl : lv_has ls 5 [(4, .int (y4 + 1)), (3, .int z0), (0, .ref (a 0)), (1, .int y1), (2, .int y2)] := hl
            refine lv_goto hx hb dMo_passToken_59 rfl ?_
            exact ih26 σ y1 y2 z0 (y4 + 1) _ _ _ hwp hP hD hS (lv_sub hl [2, 3, 4, 1, 0] rfl)
          have cut50 : ∀ (σ : MS) (y1 : Int32) (y2 : Int32) (y3 : Int32) (y4 : Int32) (H : Heap) (locs : List Loc) (ls : Array Slot), wM_passToken_50 (wM_passToken_16 R k16) (wM_passToken_26 (wM_passToken_16 R k16) R k26) R σ y1 y2 y3 y4 → va_P D clA (mw a tI tZ σ) H → va_D A (mw a tI tZ σ) → va_S A s.heap H locs → lv_has ls 5 [(0, .ref (a 0)), (1, .int y1), (2, .int y2), (3, .int y3), (4, .int y4)] → W p l e (headSpec wsMo_passToken rmM_passToken).room s m ([.ref (a 0), .int x1] : List Value).toArray below meth c H locs 0 0 (MQ below (va_Qv R (uI D clA (mT tI tZ) A false (mw a tI tZ)) A) ([.ref (a 0), .int x1] : List Value).toArray s 0 0 A) (F0 m 50 ls []) := by
            intro σ y1 y2 y3 y4 H locs ls hwp hP hD hS hl
            refine lv_iconst (v := 1) hx hb dMo_passToken_50 (by decide) ?_
            refine lv_goto hx hb dMo_passToken_51 rfl ?_
            exact cut55 σ y1 y2 y3 y4 1 _ _ _ hwp hP hD hS (lv_sub hl [0, 1, 2, 3, 4] rfl)
          have hwp : wM_passToken_26_step (wM_passToken_16 R k16) (wM_passToken_26 (wM_passToken_16 R k16) R k26) R σ y1 y2 y3 y4 := hwp
          refine lv_iload hx hb dMo_passToken_26 (lv_at hl 4 rfl) ?_
          refine lv_aload_n hx hb dMo_passToken_28 rfl (lv_at hl 0 rfl) ?_
          refine va_get (D := D) (ci := 0) (C := RMo) (T := TMo) (N := 33) hx hb hts hin0 hown hK hP 0 rfl rfl 18 (by decide) k157 (fun _ h9 => h9) rfl dMo_passToken_29 ?_
          refine lv_icmp_ge hx hb dMo_passToken_32 rfl (fun h8 => ?_) (fun h8 => ?_)
          · have hwp := hwp.1 h8
            refine lv_iload_n hx hb dMo_passToken_62 rfl (lv_at hl 3 rfl) ?_
            refine lv_if_ne hx hb dMo_passToken_63 rfl (fun h9 => ?_) (fun h9 => ?_)
            · have hwp := hwp.1 h9
              exact cut95 σ y1 y2 y3 y4 _ _ _ hwp hP hD hS (lv_sub hl [0, 1, 2, 3, 4] rfl)
            · have hwp := hwp.2 h9
              refine lv_aload_n hx hb dMo_passToken_66 rfl (lv_at hl 0 rfl) ?_
              refine lv_iload_n hx hb dMo_passToken_67 rfl (lv_at hl 1 rfl) ?_
              refine lv_iload_n hx hb dMo_passToken_68 rfl (lv_at hl 2 rfl) ?_
              obtain ⟨P10, hP10, hwp⟩ := hwp
              refine uCallVi (As := [.int y1, .int y2]) (rest := []) (C := RMo) ⟨hx, hb, hml, hown, hts⟩ (kM_isDue l D a A tI tZ σ y1 y2 P10 hP10) (cwV 2 hts (gdV wm_866 wm_868 wp_20 wm_13 wm_869) rfl rfl rfl (by decide +kernel) ⟨Nat.le_of_ble_eq_true rfl, Nat.le_of_ble_eq_true rfl⟩) (va_recv (ci := 0) (q0 := 0) hK hP rfl rfl) hP hK hD hA hS rfl hl.1 rfl (Nat.le_of_ble_eq_true rfl) dMo_passToken_69 ⟨Nat.le_of_ble_eq_true rfl, Nat.le_of_ble_eq_true rfl⟩ (fun r12 u11 H locs hu11 hP hD hS => ?_)
              have hwp := hwp r12 u11 hu11
              refine lv_if_eq hx hb dMo_passToken_72 rfl (fun h13 => ?_) (fun h13 => ?_)
              · have hwp := hwp.1 h13
                exact cut95 u11 y1 y2 y3 y4 _ _ _ hwp hP hD hS (lv_sub hl [0, 1, 2, 3, 4] rfl)
              · have hwp := hwp.2 h13
                refine lv_aload_n hx hb dMo_passToken_75 rfl (lv_at hl 0 rfl) ?_
                refine va_get (D := D) (ci := 0) (C := RMo) (T := TMo) (N := 33) hx hb hts hin0 hown hK hP 0 rfl rfl 19 (by decide) k53 (fun _ h9 => h9) rfl dMo_passToken_76 ?_
                refine lv_aload_n hx hb dMo_passToken_79 rfl (lv_at hl 0 rfl) ?_
                refine va_get (D := D) (ci := 0) (C := RMo) (T := TMo) (N := 33) hx hb hts hin0 hown hK hP 0 rfl rfl 18 (by decide) k157 (fun _ h9 => h9) rfl dMo_passToken_80 ?_
                refine lv_iload_n hx hb dMo_passToken_83 rfl (lv_at hl 2 rfl) ?_
                obtain ⟨hi14, hwp⟩ := hwp
                refine va_iast hx hb hK hP hD hS 14 0 rfl rfl hi14 dMo_passToken_84 (fun H locs hP hD hS => ?_)
                obtain ⟨σ15, eσ15⟩ : ∃ z, z = up2 u11 19 (u11 18 0).toNatClampNeg y2 := ⟨_, rfl⟩
                have hwp := hwp σ15 eσ15
                have hP : va_P D clA (mw a tI tZ σ15) H := by rw [eσ15]; exact hP
                have hD : va_D A (mw a tI tZ σ15) := by rw [eσ15]; exact hD
                refine lv_aload_n hx hb dMo_passToken_85 rfl (lv_at hl 0 rfl) ?_
                refine lv_dup hx hb dMo_passToken_86 rfl ?_
                refine va_get (D := D) (ci := 0) (C := RMo) (T := TMo) (N := 33) hx hb hts hin0 hown hK hP 0 rfl rfl 18 (by decide) k157 (fun _ h9 => h9) rfl dMo_passToken_87 ?_
                refine lv_iconst (v := 1) hx hb dMo_passToken_90 (by decide) ?_
                refine lv_iadd hx hb dMo_passToken_91 ?_
                refine va_put (ty := .int) (D := D) (ci := 0) (C := RMo) (T := TMo) (N := 33) hx hb hts hin0 tyMo tyMo_ok nmMo hown hK hP hD hS 0 rfl rfl 18 (by decide) k157 (fun _ h9 => h9) rfl (by decide +kernel) rfl rfl (Nat.le_of_ble_eq_true rfl) dMo_passToken_92 (fun H locs hP hD hS => ?_)
                obtain ⟨σ16, eσ16⟩ : ∃ z, z = up2 σ15 18 0 ((σ15 18 0) + 1) := ⟨_, rfl⟩
                have hwp := hwp σ16 eσ16
                have hP : va_P D clA (mw a tI tZ σ16) H := by rw [eσ16]; exact hP
                have hD : va_D A (mw a tI tZ σ16) := by rw [eσ16]; exact hD
                exact cut95 σ16 y1 y2 y3 y4 _ _ _ hwp hP hD hS (lv_sub hl [0, 1, 2, 3, 4] rfl)
          · have hwp := hwp.2 h8
            refine lv_iload_n hx hb dMo_passToken_35 rfl (lv_at hl 3 rfl) ?_
            refine lv_if_ne hx hb dMo_passToken_36 rfl (fun h17 => ?_) (fun h17 => ?_)
            · have hwp := hwp.1 h17
              exact cut50 σ y1 y2 y3 y4 _ _ _ hwp hP hD hS (lv_sub hl [0, 1, 2, 3, 4] rfl)
            · have hwp := hwp.2 h17
              refine lv_aload_n hx hb dMo_passToken_39 rfl (lv_at hl 0 rfl) ?_
              refine va_get (D := D) (ci := 0) (C := RMo) (T := TMo) (N := 33) hx hb hts hin0 hown hK hP 0 rfl rfl 19 (by decide) k53 (fun _ h9 => h9) rfl dMo_passToken_40 ?_
              refine lv_iload hx hb dMo_passToken_43 (lv_at hl 4 rfl) ?_
              obtain ⟨hi18, hwp⟩ := hwp
              refine va_iald hx hb hK hP 14 0 rfl rfl hi18 dMo_passToken_45 ?_
              refine lv_iload_n hx hb dMo_passToken_46 rfl (lv_at hl 2 rfl) ?_
              refine lv_icmp_ne hx hb dMo_passToken_47 rfl (fun h19 => ?_) (fun h19 => ?_)
              · have hwp := hwp.1 h19
                refine lv_iconst (v := 0) hx hb dMo_passToken_54 (by decide) ?_
                exact cut55 σ y1 y2 y3 y4 0 _ _ _ hwp hP hD hS (lv_sub hl [0, 1, 2, 3, 4] rfl)
              · have hwp := hwp.2 h19
                exact cut50 σ y1 y2 y3 y4 _ _ _ hwp hP hD hS (lv_sub hl [0, 1, 2, 3, 4] rfl)
      have hwp : wM_passToken_16_step (wM_passToken_16 R k16) R σ y1 y2 := hwp
      refine lv_iload_n hx hb dMo_passToken_16 rfl (lv_at hl 2 rfl) ?_
      refine lv_iconst (v := 4) hx hb dMo_passToken_17 (by decide) ?_
      refine lv_icmp_ge hx hb dMo_passToken_18 rfl (fun h20 => ?_) (fun h20 => ?_)
      · have hwp := hwp.1 h20
        refine lv_aload_n hx hb dMo_passToken_101 rfl (lv_at hl 0 rfl) ?_
        refine va_get (D := D) (ci := 0) (C := RMo) (T := TMo) (N := 33) hx hb hts hin0 hown hK hP 0 rfl rfl 18 (by decide) k157 (fun _ h9 => h9) rfl dMo_passToken_102 ?_
        refine lv_if_le hx hb dMo_passToken_105 rfl (fun h21 => ?_) (fun h21 => ?_)
        · have hwp := hwp.1 h21
          exact W.vret hx hb hr (fun t ht hW => ⟨⟨σ, rfl, hwp, uEnd ht hW hP hK hD hS hA⟩, hS.F ht⟩) hS.2.2 dMo_passToken_169
        · have hwp := hwp.2 h21
          refine lv_aload_n hx hb dMo_passToken_108 rfl (lv_at hl 0 rfl) ?_
          refine va_get (D := D) (ci := 0) (C := RMo) (T := TMo) (N := 33) hx hb hts hin0 hown hK hP 0 rfl rfl 19 (by decide) k53 (fun _ h9 => h9) rfl dMo_passToken_109 ?_
          refine lv_iconst (v := 0) hx hb dMo_passToken_112 (by decide) ?_
          refine va_iald hx hb hK hP 14 0 rfl rfl (by unfold vp_in; decide) dMo_passToken_113 ?_
          refine lv_topi (fun v22 ev22 => ?_)
          have hwp := hwp v22 ev22
          refine lv_istore_n hx hb dMo_passToken_114 rfl hl (by decide) rfl (fun ls hl => ?_)
          have hl : lv_has ls 5 [(2, .int v22), (0, .ref (a 0)), (1, .int y1)] := hl
          refine lv_aload_n hx hb dMo_passToken_115 rfl (lv_at hl 1 rfl) ?_
          refine lv_dup hx hb dMo_passToken_116 rfl ?_
          refine va_get (D := D) (ci := 0) (C := RMo) (T := TMo) (N := 33) hx hb hts hin0 hown hK hP 0 rfl rfl 18 (by decide) k157 (fun _ h9 => h9) rfl dMo_passToken_117 ?_
          refine lv_iconst (v := 1) hx hb dMo_passToken_120 (by decide) ?_
          refine lv_isub hx hb dMo_passToken_121 ?_
          refine va_put (ty := .int) (D := D) (ci := 0) (C := RMo) (T := TMo) (N := 33) hx hb hts hin0 tyMo tyMo_ok nmMo hown hK hP hD hS 0 rfl rfl 18 (by decide) k157 (fun _ h9 => h9) rfl (by decide +kernel) rfl rfl (Nat.le_of_ble_eq_true rfl) dMo_passToken_122 (fun H locs hP hD hS => ?_)
          obtain ⟨σ23, eσ23⟩ : ∃ z, z = up2 σ 18 0 ((σ 18 0) - 1) := ⟨_, rfl⟩
          have hwp := hwp σ23 eσ23
          have hP : va_P D clA (mw a tI tZ σ23) H := by rw [eσ23]; exact hP
          have hD : va_D A (mw a tI tZ σ23) := by rw [eσ23]; exact hD
          refine lv_iconst (v := 0) hx hb dMo_passToken_125 (by decide) ?_
          refine lv_istore_n hx hb dMo_passToken_126 rfl hl (by decide) rfl (fun ls hl => ?_)
          have hl : lv_has ls 5 [(3, .int 0), (2, .int v22), (0, .ref (a 0)), (1, .int y1)] := hl
          exact cut127 5 σ23 y1 v22 0 _ _ _ hwp hP hD hS (lv_sub hl [2, 3, 1, 0] rfl)
      · have hwp := hwp.2 h20
        refine lv_iconst (v := 0) hx hb dMo_passToken_21 (by decide) ?_
        refine lv_istore_n hx hb dMo_passToken_22 rfl hl (by decide) rfl (fun ls hl => ?_)
        have hl : lv_has ls 5 [(3, .int 0), (0, .ref (a 0)), (1, .int y1), (2, .int y2)] := hl
        refine lv_iconst (v := 0) hx hb dMo_passToken_23 (by decide) ?_
        refine lv_istore hx hb dMo_passToken_24 hl (by decide) rfl (fun ls hl => ?_)
        have hl : lv_has ls 5 [(4, .int 0), (3, .int 0), (0, .ref (a 0)), (1, .int y1), (2, .int y2)] := hl
        exact cut26 5 σ y1 y2 0 0 _ _ _ hwp hP hD hS (lv_sub hl [2, 3, 4, 1, 0] rfl)
  have hl := lv_entry ([.ref (a 0), .int x1]) (n := 5) (Nat.le_of_ble_eq_true rfl)
  rw [lg_entry_eq]
  generalize (lg_sl ([.ref (a 0), .int x1]) ++ List.replicate (5 - (lg_sl ([.ref (a 0), .int x1])).length) Slot.unset).toArray = ls at hl ⊢
  have hl : lv_has ls 5 [(0, .ref (a 0)), (1, .int x1)] := hl
  refine lv_aload_n hx hb dMo_passToken_0 rfl (lv_at hl 0 rfl) ?_
  refine va_get (D := D) (ci := 0) (C := RMo) (T := TMo) (N := 33) hx hb hts hin0 hown hK hP 0 rfl rfl 16 (by decide) k50 (fun _ h9 => h9) rfl dMo_passToken_1 ?_
  refine lv_iload_n hx hb dMo_passToken_4 rfl (lv_at hl 1 rfl) ?_
  refine lv_aload_n hx hb dMo_passToken_5 rfl (lv_at hl 0 rfl) ?_
  refine va_get (D := D) (ci := 0) (C := RMo) (T := TMo) (N := 33) hx hb hts hin0 hown hK hP 0 rfl rfl 15 (by decide) k47 (fun _ h9 => h9) rfl dMo_passToken_6 ?_
  refine lv_iconst (v := 5) hx hb dMo_passToken_9 (by decide) ?_
  refine lv_iload_n hx hb dMo_passToken_10 rfl (lv_at hl 1 rfl) ?_
  refine lv_imul hx hb dMo_passToken_11 ?_
  obtain ⟨hi24, hwp⟩ := hwp
  refine va_iald hx hb hK hP 12 0 rfl rfl hi24 dMo_passToken_12 ?_
  obtain ⟨hi25, hwp⟩ := hwp
  refine va_iast hx hb hK hP hD hS 13 0 rfl rfl hi25 dMo_passToken_13 (fun H locs hP hD hS => ?_)
  obtain ⟨σ26, eσ26⟩ : ∃ z, z = up2 σ 16 x1.toNatClampNeg (σ 15 (5 * x1).toNatClampNeg) := ⟨_, rfl⟩
  have hwp := hwp σ26 eσ26
  have hP : va_P D clA (mw a tI tZ σ26) H := by rw [eσ26]; exact hP
  have hD : va_D A (mw a tI tZ σ26) := by rw [eσ26]; exact hD
  refine lv_iconst (v := 0) hx hb dMo_passToken_14 (by decide) ?_
  refine lv_istore_n hx hb dMo_passToken_15 rfl hl (by decide) rfl (fun ls hl => ?_)
  have hl : lv_has ls 5 [(2, .int 0), (0, .ref (a 0)), (1, .int x1)] := hl
  exact cut16 5 σ26 x1 0 _ _ _ hwp hP hD hS (lv_sub hl [1, 2, 0] rfl)
-- private void settle(int)
def wM_settle (R : MS → Prop) (σ : MS) (x1 : Int32) : Prop :=
  (vp_in x1 4 ∧ (((¬ (σ 29 x1.toNatClampNeg) = 0) → R σ) ∧ (((σ 29 x1.toNatClampNeg) = 0) → (vp_in x1 4 ∧ ((((σ 31 x1.toNatClampNeg) ≤ 0) → (vp_in x1 4 ∧ ((((σ 30 x1.toNatClampNeg) < 0) → (((¬ (σ 27 0) = x1) → R σ) ∧ (((σ 27 0) = x1) → (∀ σ8 : MS, σ8 = up2 σ 27 0 (-1) → (∀ σ9 : MS, σ9 = up2 σ8 28 0 ((σ8 28 0) + 1) → R σ9))))) ∧ ((¬ (σ 30 x1.toNatClampNeg) < 0) → (vp_in x1 4 ∧ (∀ v11 : Int32, v11 = σ 30 x1.toNatClampNeg → (vp_in x1 4 ∧ (∀ σ13 : MS, σ13 = up2 σ 30 x1.toNatClampNeg (-1) → (∃ P14 : MS → Prop, wM_send P14 σ13 x1 v11 4 1 0 ∧ (∀ (u15 : MS), P14 u15 → R u15)))))))))) ∧ ((¬ (σ 31 x1.toNatClampNeg) ≤ 0) → R σ))))))
abbrev wsMo_settle : List Cond := .code yMo_settle cMo_settle 3 none :: wg
abbrev rmM_settle : Room := { frames := 1, cells := 0, slots := 0, locals := 27 }
set_option maxHeartbeats 4000000 in
set_option maxRecDepth 100000 in
theorem kM_settle (l : Launch) (D : va_G) (a : Nat → Nat) (A : Nat → Prop) (tI tZ : ClassId) (σ : MS) (x1 : Int32) (R : MS → Prop) (hwp : wM_settle R σ x1) : Met l yMo_settle wsMo_settle rmM_settle (va_Pc [.ref (a 0), .int x1] (uI D clA (mT tI tZ) A false (mw a tI tZ) σ)) (va_Qv R (uI D clA (mT tI tZ) A false (mw a tI tZ)) A) 0 0 A := by
  refine Met.ofW (cc := cMo_settle) (maxL := 3) (ret := none) (by decide) rfl ?_
  intro p e s m args below meth c s₁ B hml hv
  obtain ⟨rfl, hP, hK, hD, hA⟩ := hv
  have hx := B.exec
  have hb := B.bytes
  have hr := B.returns
  have hts := atoms_spec (ws := wsMo_settle) B.pre
  have hown : s.vm.findClass RMo = some m.cls := findClass_of_methodNamed B.named
  have hlocks := B.notSynchronized
  have hin0 : ∀ w ∈ u_ws RMo TMo 33, w ∈ wsMo_settle := fun w h => List.mem_cons_of_mem _ (inMo w h)
  have k164 := hts _ (List.mem_cons_of_mem _ wm_764)
  have k78 := hts _ (List.mem_cons_of_mem _ wm_763)
  have k81 := hts _ (List.mem_cons_of_mem _ wm_765)
  have k84 := hts _ (List.mem_cons_of_mem _ wm_766)
  have k87 := hts _ (List.mem_cons_of_mem _ wm_767)
  have hS : va_S A s.heap s.heap [] := va_S.rf
  have hl := lv_entry ([.ref (a 0), .int x1]) (n := 3) (Nat.le_of_ble_eq_true rfl)
  rw [lg_entry_eq]
  generalize (lg_sl ([.ref (a 0), .int x1]) ++ List.replicate (3 - (lg_sl ([.ref (a 0), .int x1])).length) Slot.unset).toArray = ls at hl ⊢
  have hl : lv_has ls 3 [(0, .ref (a 0)), (1, .int x1)] := hl
  refine lv_aload_n hx hb dMo_settle_0 rfl (lv_at hl 0 rfl) ?_
  refine va_get (D := D) (ci := 0) (C := RMo) (T := TMo) (N := 33) hx hb hts hin0 hown hK hP 0 rfl rfl 29 (by decide) k81 (fun _ h9 => h9) rfl dMo_settle_1 ?_
  refine lv_iload_n hx hb dMo_settle_4 rfl (lv_at hl 1 rfl) ?_
  obtain ⟨hi1, hwp⟩ := hwp
  refine va_zald hx hb hK hP 22 1 rfl rfl hi1 dMo_settle_5 ?_
  refine lv_if_ne hx hb dMo_settle_6 rfl (fun h2 => ?_) (fun h2 => ?_)
  · have hwp := hwp.1 h2
    exact W.vret hx hb hr (fun t ht hW => ⟨⟨σ, rfl, hwp, uEnd ht hW hP hK hD hS hA⟩, hS.F ht⟩) hS.2.2 dMo_settle_18
  · have hwp := hwp.2 h2
    refine lv_aload_n hx hb dMo_settle_9 rfl (lv_at hl 0 rfl) ?_
    refine va_get (D := D) (ci := 0) (C := RMo) (T := TMo) (N := 33) hx hb hts hin0 hown hK hP 0 rfl rfl 31 (by decide) k87 (fun _ h9 => h9) rfl dMo_settle_10 ?_
    refine lv_iload_n hx hb dMo_settle_13 rfl (lv_at hl 1 rfl) ?_
    obtain ⟨hi3, hwp⟩ := hwp
    refine va_iald hx hb hK hP 24 0 rfl rfl hi3 dMo_settle_14 ?_
    refine lv_if_le hx hb dMo_settle_15 rfl (fun h4 => ?_) (fun h4 => ?_)
    · have hwp := hwp.1 h4
      refine lv_aload_n hx hb dMo_settle_19 rfl (lv_at hl 0 rfl) ?_
      refine va_get (D := D) (ci := 0) (C := RMo) (T := TMo) (N := 33) hx hb hts hin0 hown hK hP 0 rfl rfl 30 (by decide) k84 (fun _ h9 => h9) rfl dMo_settle_20 ?_
      refine lv_iload_n hx hb dMo_settle_23 rfl (lv_at hl 1 rfl) ?_
      obtain ⟨hi5, hwp⟩ := hwp
      refine va_iald hx hb hK hP 23 0 rfl rfl hi5 dMo_settle_24 ?_
      refine lv_if_lt hx hb dMo_settle_25 rfl (fun h6 => ?_) (fun h6 => ?_)
      · have hwp := hwp.1 h6
        refine lv_aload_n hx hb dMo_settle_54 rfl (lv_at hl 0 rfl) ?_
        refine va_get (D := D) (ci := 0) (C := RMo) (T := TMo) (N := 33) hx hb hts hin0 hown hK hP 0 rfl rfl 27 (by decide) k78 (fun _ h9 => h9) rfl dMo_settle_55 ?_
        refine lv_iload_n hx hb dMo_settle_58 rfl (lv_at hl 1 rfl) ?_
        refine lv_icmp_ne hx hb dMo_settle_59 rfl (fun h7 => ?_) (fun h7 => ?_)
        · have hwp := hwp.1 h7
          exact W.vret hx hb hr (fun t ht hW => ⟨⟨σ, rfl, hwp, uEnd ht hW hP hK hD hS hA⟩, hS.F ht⟩) hS.2.2 dMo_settle_77
        · have hwp := hwp.2 h7
          refine lv_aload_n hx hb dMo_settle_62 rfl (lv_at hl 0 rfl) ?_
          refine lv_iconst (v := (-1)) hx hb dMo_settle_63 (by decide) ?_
          refine va_put (ty := .int) (D := D) (ci := 0) (C := RMo) (T := TMo) (N := 33) hx hb hts hin0 tyMo tyMo_ok nmMo hown hK hP hD hS 0 rfl rfl 27 (by decide) k78 (fun _ h9 => h9) rfl (by decide +kernel) rfl rfl (Nat.le_of_ble_eq_true rfl) dMo_settle_64 (fun H locs hP hD hS => ?_)
          obtain ⟨σ8, eσ8⟩ : ∃ z, z = up2 σ 27 0 (-1) := ⟨_, rfl⟩
          have hwp := hwp σ8 eσ8
          have hP : va_P D clA (mw a tI tZ σ8) H := by rw [eσ8]; exact hP
          have hD : va_D A (mw a tI tZ σ8) := by rw [eσ8]; exact hD
          refine lv_aload_n hx hb dMo_settle_67 rfl (lv_at hl 0 rfl) ?_
          refine lv_dup hx hb dMo_settle_68 rfl ?_
          refine va_get (D := D) (ci := 0) (C := RMo) (T := TMo) (N := 33) hx hb hts hin0 hown hK hP 0 rfl rfl 28 (by decide) k164 (fun _ h9 => h9) rfl dMo_settle_69 ?_
          refine lv_iconst (v := 1) hx hb dMo_settle_72 (by decide) ?_
          refine lv_iadd hx hb dMo_settle_73 ?_
          refine va_put (ty := .int) (D := D) (ci := 0) (C := RMo) (T := TMo) (N := 33) hx hb hts hin0 tyMo tyMo_ok nmMo hown hK hP hD hS 0 rfl rfl 28 (by decide) k164 (fun _ h9 => h9) rfl (by decide +kernel) rfl rfl (Nat.le_of_ble_eq_true rfl) dMo_settle_74 (fun H locs hP hD hS => ?_)
          obtain ⟨σ9, eσ9⟩ : ∃ z, z = up2 σ8 28 0 ((σ8 28 0) + 1) := ⟨_, rfl⟩
          have hwp := hwp σ9 eσ9
          have hP : va_P D clA (mw a tI tZ σ9) H := by rw [eσ9]; exact hP
          have hD : va_D A (mw a tI tZ σ9) := by rw [eσ9]; exact hD
          exact W.vret hx hb hr (fun t ht hW => ⟨⟨σ9, rfl, hwp, uEnd ht hW hP hK hD hS hA⟩, hS.F ht⟩) hS.2.2 dMo_settle_77
      · have hwp := hwp.2 h6
        refine lv_aload_n hx hb dMo_settle_28 rfl (lv_at hl 0 rfl) ?_
        refine va_get (D := D) (ci := 0) (C := RMo) (T := TMo) (N := 33) hx hb hts hin0 hown hK hP 0 rfl rfl 30 (by decide) k84 (fun _ h9 => h9) rfl dMo_settle_29 ?_
        refine lv_iload_n hx hb dMo_settle_32 rfl (lv_at hl 1 rfl) ?_
        obtain ⟨hi10, hwp⟩ := hwp
        refine va_iald hx hb hK hP 23 0 rfl rfl hi10 dMo_settle_33 ?_
        refine lv_topi (fun v11 ev11 => ?_)
        have hwp := hwp v11 ev11
        refine lv_istore_n hx hb dMo_settle_34 rfl hl (by decide) rfl (fun ls hl => ?_)
        have hl : lv_has ls 3 [(2, .int v11), (0, .ref (a 0)), (1, .int x1)] := hl
        refine lv_aload_n hx hb dMo_settle_35 rfl (lv_at hl 1 rfl) ?_
        refine va_get (D := D) (ci := 0) (C := RMo) (T := TMo) (N := 33) hx hb hts hin0 hown hK hP 0 rfl rfl 30 (by decide) k84 (fun _ h9 => h9) rfl dMo_settle_36 ?_
        refine lv_iload_n hx hb dMo_settle_39 rfl (lv_at hl 2 rfl) ?_
        refine lv_iconst (v := (-1)) hx hb dMo_settle_40 (by decide) ?_
        obtain ⟨hi12, hwp⟩ := hwp
        refine va_iast hx hb hK hP hD hS 23 0 rfl rfl hi12 dMo_settle_41 (fun H locs hP hD hS => ?_)
        obtain ⟨σ13, eσ13⟩ : ∃ z, z = up2 σ 30 x1.toNatClampNeg (-1) := ⟨_, rfl⟩
        have hwp := hwp σ13 eσ13
        have hP : va_P D clA (mw a tI tZ σ13) H := by rw [eσ13]; exact hP
        have hD : va_D A (mw a tI tZ σ13) := by rw [eσ13]; exact hD
        refine lv_aload_n hx hb dMo_settle_42 rfl (lv_at hl 1 rfl) ?_
        refine lv_iload_n hx hb dMo_settle_43 rfl (lv_at hl 2 rfl) ?_
        refine lv_iload_n hx hb dMo_settle_44 rfl (lv_at hl 0 rfl) ?_
        refine lv_iconst (v := 4) hx hb dMo_settle_45 (by decide) ?_
        refine lv_iconst (v := 1) hx hb dMo_settle_46 (by decide) ?_
        refine lv_iconst (v := 0) hx hb dMo_settle_47 (by decide) ?_
        obtain ⟨P14, hP14, hwp⟩ := hwp
        refine uCallVv (As := [.int x1, .int v11, .int 4, .int 1, .int 0]) (rest := []) (C := RMo) ⟨hx, hb, hml, hown, hts⟩ (kM_send l D a A tI tZ σ13 x1 v11 4 1 0 P14 hP14) (cwV 5 hts (gdV wm_858 wm_860 wp_18 wm_13 wm_861) rfl rfl rfl (by decide +kernel) ⟨Nat.le_of_ble_eq_true rfl, Nat.le_of_ble_eq_true rfl⟩) (va_recv (ci := 0) (q0 := 0) hK hP rfl rfl) hP hK hD hA hS rfl hl.1 rfl (Nat.le_of_ble_eq_true rfl) dMo_settle_48 ⟨Nat.le_of_ble_eq_true rfl, Nat.le_of_ble_eq_true rfl⟩ (fun u15 H locs hu15 hP hD hS => ?_)
        have hwp := hwp u15 hu15
        refine lv_goto hx hb dMo_settle_51 rfl ?_
        exact W.vret hx hb hr (fun t ht hW => ⟨⟨u15, rfl, hwp, uEnd ht hW hP hK hD hS hA⟩, hS.F ht⟩) hS.2.2 dMo_settle_77
    · have hwp := hwp.2 h4
      exact W.vret hx hb hr (fun t ht hW => ⟨⟨σ, rfl, hwp, uEnd ht hW hP hK hD hS hA⟩, hS.F ht⟩) hS.2.2 dMo_settle_18
-- private void stampArrives(int, int, int, int)
def wM_stampArrives_144 (R : MS → Prop) (σ : MS) (y1 : Int32) (y2 : Int32) (y3 : Int32) (y4 : Int32) (y5 : Int32) : Prop :=
  (∃ P1 : MS → Prop, wM_send P1 σ y2 y1 0 1 0 ∧ (∀ (u2 : MS), P1 u2 → R u2))
def wM_stampArrives_129 (R : MS → Prop) (σ : MS) (y1 : Int32) (y2 : Int32) (y3 : Int32) (y4 : Int32) (y5 : Int32) : Prop :=
  (vp_in y2 4 ∧ (vp_in y2 4 ∧ (∀ σ5 : MS, σ5 = up2 σ 14 y2.toNatClampNeg ((σ 14 y2.toNatClampNeg) ||| (1 <<< (y1 &&& 31))) → R σ5)))
def wM_stampArrives_102 (R : MS → Prop) (σ : MS) (y1 : Int32) (y2 : Int32) (y3 : Int32) (y4 : Int32) (z0 : Int32) : Prop :=
  (vp_in y2 12 ∧ ((((σ 8 y2.toNatClampNeg) = 2) → wM_stampArrives_129 R σ y1 y2 y3 y4 z0) ∧ ((¬ (σ 8 y2.toNatClampNeg) = 2) → (vp_in y2 12 ∧ (((¬ (σ 8 y2.toNatClampNeg) = 1) → wM_stampArrives_144 R σ y1 y2 y3 y4 z0) ∧ (((σ 8 y2.toNatClampNeg) = 1) → (((z0 = 0) → wM_stampArrives_144 R σ y1 y2 y3 y4 z0) ∧ ((¬ z0 = 0) → wM_stampArrives_129 R σ y1 y2 y3 y4 z0))))))))
def wM_stampArrives_101 (R : MS → Prop) (σ : MS) (y1 : Int32) (y2 : Int32) (y3 : Int32) (y4 : Int32) : Prop :=
  wM_stampArrives_102 R σ y1 y2 y3 y4 0
def wM_stampArrives_97 (R : MS → Prop) (σ : MS) (y1 : Int32) (y2 : Int32) (y3 : Int32) (y4 : Int32) : Prop :=
  wM_stampArrives_102 R σ y1 y2 y3 y4 1
def wM_stampArrives_69 (R : MS → Prop) (σ : MS) (y1 : Int32) (y2 : Int32) (y3 : Int32) (y4 : Int32) (z1 : Int32) (z2 : Int32) : Prop :=
  (vp_in z1 4 ∧ (∀ σ12 : MS, σ12 = up2 σ 11 z1.toNatClampNeg z2 → (vp_in y2 4 ∧ ((((σ12 12 y2.toNatClampNeg) < y4) → wM_stampArrives_97 R σ12 y1 y2 y3 y4) ∧ ((¬ (σ12 12 y2.toNatClampNeg) < y4) → (vp_in y2 4 ∧ (((¬ (σ12 12 y2.toNatClampNeg) = y4) → wM_stampArrives_101 R σ12 y1 y2 y3 y4) ∧ (((σ12 12 y2.toNatClampNeg) = y4) → (((y1 ≤ y2) → wM_stampArrives_101 R σ12 y1 y2 y3 y4) ∧ ((¬ y1 ≤ y2) → wM_stampArrives_97 R σ12 y1 y2 y3 y4))))))))))
def wM_stampArrives (R : MS → Prop) (σ : MS) (x1 x2 x3 x4 : Int32) : Prop :=
  (((¬ x3 = 1) → (vp_in x2 4 ∧ (((x4 ≤ (σ 11 x2.toNatClampNeg)) → (vp_in x2 4 ∧ wM_stampArrives_69 R σ x1 x2 x3 x4 x2 (σ 11 x2.toNatClampNeg))) ∧ ((¬ x4 ≤ (σ 11 x2.toNatClampNeg)) → wM_stampArrives_69 R σ x1 x2 x3 x4 x2 x4)))) ∧ ((x3 = 1) → (vp_in x2 4 ∧ (vp_in x2 4 ∧ (∀ σ24 : MS, σ24 = up2 σ 13 x2.toNatClampNeg ((σ 13 x2.toNatClampNeg) + 1) → (vp_in x2 4 ∧ (((¬ (σ24 13 x2.toNatClampNeg) = 3) → R σ24) ∧ (((σ24 13 x2.toNatClampNeg) = 3) → (vp_in x2 12 ∧ (((¬ (σ24 8 x2.toNatClampNeg) = 1) → R σ24) ∧ (((σ24 8 x2.toNatClampNeg) = 1) → (∃ P29 : MS → Prop, wM_comeIn P29 σ24 0 x2 ∧ (∀ (u30 : MS), P29 u30 → R u30)))))))))))))
abbrev wsMo_stampArrives : List Cond := .code yMo_stampArrives cMo_stampArrives 6 none :: wg
abbrev rmM_stampArrives : Room := { frames := 1, cells := 0, slots := 0, locals := 27 }
set_option maxHeartbeats 4000000 in
set_option maxRecDepth 100000 in
theorem kM_stampArrives (l : Launch) (D : va_G) (a : Nat → Nat) (A : Nat → Prop) (tI tZ : ClassId) (σ : MS) (x1 x2 x3 x4 : Int32) (R : MS → Prop) (hwp : wM_stampArrives R σ x1 x2 x3 x4) : Met l yMo_stampArrives wsMo_stampArrives rmM_stampArrives (va_Pc [.ref (a 0), .int x1, .int x2, .int x3, .int x4] (uI D clA (mT tI tZ) A false (mw a tI tZ) σ)) (va_Qv R (uI D clA (mT tI tZ) A false (mw a tI tZ)) A) 0 0 A := by
  refine Met.ofW (cc := cMo_stampArrives) (maxL := 6) (ret := none) (by decide) rfl ?_
  intro p e s m args below meth c s₁ B hml hv
  obtain ⟨rfl, hP, hK, hD, hA⟩ := hv
  have hx := B.exec
  have hb := B.bytes
  have hr := B.returns
  have hts := atoms_spec (ws := wsMo_stampArrives) B.pre
  have hown : s.vm.findClass RMo = some m.cls := findClass_of_methodNamed B.named
  have hlocks := B.notSynchronized
  have hin0 : ∀ w ∈ u_ws RMo TMo 33, w ∈ wsMo_stampArrives := fun w h => List.mem_cons_of_mem _ (inMo w h)
  have k32 := hts _ (List.mem_cons_of_mem _ wm_744)
  have k35 := hts _ (List.mem_cons_of_mem _ wm_747)
  have k38 := hts _ (List.mem_cons_of_mem _ wm_748)
  have k41 := hts _ (List.mem_cons_of_mem _ wm_749)
  have k44 := hts _ (List.mem_cons_of_mem _ wm_750)
  have hS : va_S A s.heap s.heap [] := va_S.rf
  have cut144 : ∀ (σ : MS) (y1 : Int32) (y2 : Int32) (y3 : Int32) (y4 : Int32) (y5 : Int32) (H : Heap) (locs : List Loc) (ls : Array Slot), wM_stampArrives_144 R σ y1 y2 y3 y4 y5 → va_P D clA (mw a tI tZ σ) H → va_D A (mw a tI tZ σ) → va_S A s.heap H locs → lv_has ls 6 [(0, .ref (a 0)), (1, .int y1), (2, .int y2), (3, .int y3), (4, .int y4), (5, .int y5)] → W p l e (headSpec wsMo_stampArrives rmM_stampArrives).room s m ([.ref (a 0), .int x1, .int x2, .int x3, .int x4] : List Value).toArray below meth c H locs 0 0 (MQ below (va_Qv R (uI D clA (mT tI tZ) A false (mw a tI tZ)) A) ([.ref (a 0), .int x1, .int x2, .int x3, .int x4] : List Value).toArray s 0 0 A) (F0 m 144 ls []) := by
    intro σ y1 y2 y3 y4 y5 H locs ls hwp hP hD hS hl
    refine lv_aload_n hx hb dMo_stampArrives_144 rfl (lv_at hl 0 rfl) ?_
    refine lv_iload_n hx hb dMo_stampArrives_145 rfl (lv_at hl 2 rfl) ?_
    refine lv_iload_n hx hb dMo_stampArrives_146 rfl (lv_at hl 1 rfl) ?_
    refine lv_iconst (v := 0) hx hb dMo_stampArrives_147 (by decide) ?_
    refine lv_iconst (v := 1) hx hb dMo_stampArrives_148 (by decide) ?_
    refine lv_iconst (v := 0) hx hb dMo_stampArrives_149 (by decide) ?_
    obtain ⟨P1, hP1, hwp⟩ := hwp
    refine uCallVv (As := [.int y2, .int y1, .int 0, .int 1, .int 0]) (rest := []) (C := RMo) ⟨hx, hb, hml, hown, hts⟩ (kM_send l D a A tI tZ σ y2 y1 0 1 0 P1 hP1) (cwV 5 hts (gdV wm_858 wm_860 wp_18 wm_13 wm_861) rfl rfl rfl (by decide +kernel) ⟨Nat.le_of_ble_eq_true rfl, Nat.le_of_ble_eq_true rfl⟩) (va_recv (ci := 0) (q0 := 0) hK hP rfl rfl) hP hK hD hA hS rfl hl.1 rfl (Nat.le_of_ble_eq_true rfl) dMo_stampArrives_150 ⟨Nat.le_of_ble_eq_true rfl, Nat.le_of_ble_eq_true rfl⟩ (fun u2 H locs hu2 hP hD hS => ?_)
    have hwp := hwp u2 hu2
    exact W.vret hx hb hr (fun t ht hW => ⟨⟨u2, rfl, hwp, uEnd ht hW hP hK hD hS hA⟩, hS.F ht⟩) hS.2.2 dMo_stampArrives_153
  have cut129 : ∀ (σ : MS) (y1 : Int32) (y2 : Int32) (y3 : Int32) (y4 : Int32) (y5 : Int32) (H : Heap) (locs : List Loc) (ls : Array Slot), wM_stampArrives_129 R σ y1 y2 y3 y4 y5 → va_P D clA (mw a tI tZ σ) H → va_D A (mw a tI tZ σ) → va_S A s.heap H locs → lv_has ls 6 [(0, .ref (a 0)), (1, .int y1), (2, .int y2), (3, .int y3), (4, .int y4), (5, .int y5)] → W p l e (headSpec wsMo_stampArrives rmM_stampArrives).room s m ([.ref (a 0), .int x1, .int x2, .int x3, .int x4] : List Value).toArray below meth c H locs 0 0 (MQ below (va_Qv R (uI D clA (mT tI tZ) A false (mw a tI tZ)) A) ([.ref (a 0), .int x1, .int x2, .int x3, .int x4] : List Value).toArray s 0 0 A) (F0 m 129 ls []) := by
    intro σ y1 y2 y3 y4 y5 H locs ls hwp hP hD hS hl
    refine lv_aload_n hx hb dMo_stampArrives_129 rfl (lv_at hl 0 rfl) ?_
    refine va_get (D := D) (ci := 0) (C := RMo) (T := TMo) (N := 33) hx hb hts hin0 hown hK hP 0 rfl rfl 14 (by decide) k44 (fun _ h9 => h9) rfl dMo_stampArrives_130 ?_
    refine lv_iload_n hx hb dMo_stampArrives_133 rfl (lv_at hl 2 rfl) ?_
    refine lv_dup2_11 hx hb dMo_stampArrives_134 rfl rfl ?_
    obtain ⟨hi3, hwp⟩ := hwp
    refine va_iald hx hb hK hP 11 0 rfl rfl hi3 dMo_stampArrives_135 ?_
    refine lv_iconst (v := 1) hx hb dMo_stampArrives_136 (by decide) ?_
    refine lv_iload_n hx hb dMo_stampArrives_137 rfl (lv_at hl 1 rfl) ?_
    refine lv_ishl hx hb dMo_stampArrives_138 ?_
    refine lv_ior hx hb dMo_stampArrives_139 ?_
    obtain ⟨hi4, hwp⟩ := hwp
    refine va_iast hx hb hK hP hD hS 11 0 rfl rfl hi4 dMo_stampArrives_140 (fun H locs hP hD hS => ?_)
    obtain ⟨σ5, eσ5⟩ : ∃ z, z = up2 σ 14 y2.toNatClampNeg ((σ 14 y2.toNatClampNeg) ||| (1 <<< (y1 &&& 31))) := ⟨_, rfl⟩
    have hwp := hwp σ5 eσ5
    have hP : va_P D clA (mw a tI tZ σ5) H := by rw [eσ5]; exact hP
    have hD : va_D A (mw a tI tZ σ5) := by rw [eσ5]; exact hD
    refine lv_goto hx hb dMo_stampArrives_141 rfl ?_
    exact W.vret hx hb hr (fun t ht hW => ⟨⟨σ5, rfl, hwp, uEnd ht hW hP hK hD hS hA⟩, hS.F ht⟩) hS.2.2 dMo_stampArrives_153
  have cut102 : ∀ (σ : MS) (y1 : Int32) (y2 : Int32) (y3 : Int32) (y4 : Int32) (z0 : Int32) (H : Heap) (locs : List Loc) (ls : Array Slot), wM_stampArrives_102 R σ y1 y2 y3 y4 z0 → va_P D clA (mw a tI tZ σ) H → va_D A (mw a tI tZ σ) → va_S A s.heap H locs → lv_has ls 6 [(0, .ref (a 0)), (1, .int y1), (2, .int y2), (3, .int y3), (4, .int y4)] → W p l e (headSpec wsMo_stampArrives rmM_stampArrives).room s m ([.ref (a 0), .int x1, .int x2, .int x3, .int x4] : List Value).toArray below meth c H locs 0 0 (MQ below (va_Qv R (uI D clA (mT tI tZ) A false (mw a tI tZ)) A) ([.ref (a 0), .int x1, .int x2, .int x3, .int x4] : List Value).toArray s 0 0 A) (F0 m 102 ls [.int z0]) := by
    intro σ y1 y2 y3 y4 z0 H locs ls hwp hP hD hS hl
    refine lv_istore hx hb dMo_stampArrives_102 hl (by decide) rfl (fun ls hl => ?_)
    have hl : lv_has ls 6 [(5, .int z0), (0, .ref (a 0)), (1, .int y1), (2, .int y2), (3, .int y3), (4, .int y4)] := hl
    refine lv_aload_n hx hb dMo_stampArrives_104 rfl (lv_at hl 1 rfl) ?_
    refine va_get (D := D) (ci := 0) (C := RMo) (T := TMo) (N := 33) hx hb hts hin0 hown hK hP 0 rfl rfl 8 (by decide) k32 (fun _ h9 => h9) rfl dMo_stampArrives_105 ?_
    refine lv_iload_n hx hb dMo_stampArrives_108 rfl (lv_at hl 3 rfl) ?_
    obtain ⟨hi6, hwp⟩ := hwp
    refine va_iald hx hb hK hP 7 0 rfl rfl hi6 dMo_stampArrives_109 ?_
    refine lv_iconst (v := 2) hx hb dMo_stampArrives_110 (by decide) ?_
    refine lv_icmp_eq hx hb dMo_stampArrives_111 rfl (fun h7 => ?_) (fun h7 => ?_)
    · have hwp := hwp.1 h7
      exact cut129 σ y1 y2 y3 y4 z0 _ _ _ hwp hP hD hS (lv_sub hl [1, 2, 3, 4, 5, 0] rfl)
    · have hwp := hwp.2 h7
      refine lv_aload_n hx hb dMo_stampArrives_114 rfl (lv_at hl 1 rfl) ?_
      refine va_get (D := D) (ci := 0) (C := RMo) (T := TMo) (N := 33) hx hb hts hin0 hown hK hP 0 rfl rfl 8 (by decide) k32 (fun _ h9 => h9) rfl dMo_stampArrives_115 ?_
      refine lv_iload_n hx hb dMo_stampArrives_118 rfl (lv_at hl 3 rfl) ?_
      obtain ⟨hi8, hwp⟩ := hwp
      refine va_iald hx hb hK hP 7 0 rfl rfl hi8 dMo_stampArrives_119 ?_
      refine lv_iconst (v := 1) hx hb dMo_stampArrives_120 (by decide) ?_
      refine lv_icmp_ne hx hb dMo_stampArrives_121 rfl (fun h9 => ?_) (fun h9 => ?_)
      · have hwp := hwp.1 h9
        exact cut144 σ y1 y2 y3 y4 z0 _ _ _ hwp hP hD hS (lv_sub hl [1, 2, 3, 4, 5, 0] rfl)
      · have hwp := hwp.2 h9
        refine lv_iload hx hb dMo_stampArrives_124 (lv_at hl 0 rfl) ?_
        refine lv_if_eq hx hb dMo_stampArrives_126 rfl (fun h10 => ?_) (fun h10 => ?_)
        · have hwp := hwp.1 h10
          exact cut144 σ y1 y2 y3 y4 z0 _ _ _ hwp hP hD hS (lv_sub hl [1, 2, 3, 4, 5, 0] rfl)
        · have hwp := hwp.2 h10
          exact cut129 σ y1 y2 y3 y4 z0 _ _ _ hwp hP hD hS (lv_sub hl [1, 2, 3, 4, 5, 0] rfl)
  have cut101 : ∀ (σ : MS) (y1 : Int32) (y2 : Int32) (y3 : Int32) (y4 : Int32) (H : Heap) (locs : List Loc) (ls : Array Slot), wM_stampArrives_101 R σ y1 y2 y3 y4 → va_P D clA (mw a tI tZ σ) H → va_D A (mw a tI tZ σ) → va_S A s.heap H locs → lv_has ls 6 [(0, .ref (a 0)), (1, .int y1), (2, .int y2), (3, .int y3), (4, .int y4)] → W p l e (headSpec wsMo_stampArrives rmM_stampArrives).room s m ([.ref (a 0), .int x1, .int x2, .int x3, .int x4] : List Value).toArray below meth c H locs 0 0 (MQ below (va_Qv R (uI D clA (mT tI tZ) A false (mw a tI tZ)) A) ([.ref (a 0), .int x1, .int x2, .int x3, .int x4] : List Value).toArray s 0 0 A) (F0 m 101 ls []) := by
    intro σ y1 y2 y3 y4 H locs ls hwp hP hD hS hl
    refine lv_iconst (v := 0) hx hb dMo_stampArrives_101 (by decide) ?_
    exact cut102 σ y1 y2 y3 y4 0 _ _ _ hwp hP hD hS (lv_sub hl [0, 1, 2, 3, 4] rfl)
  have cut97 : ∀ (σ : MS) (y1 : Int32) (y2 : Int32) (y3 : Int32) (y4 : Int32) (H : Heap) (locs : List Loc) (ls : Array Slot), wM_stampArrives_97 R σ y1 y2 y3 y4 → va_P D clA (mw a tI tZ σ) H → va_D A (mw a tI tZ σ) → va_S A s.heap H locs → lv_has ls 6 [(0, .ref (a 0)), (1, .int y1), (2, .int y2), (3, .int y3), (4, .int y4)] → W p l e (headSpec wsMo_stampArrives rmM_stampArrives).room s m ([.ref (a 0), .int x1, .int x2, .int x3, .int x4] : List Value).toArray below meth c H locs 0 0 (MQ below (va_Qv R (uI D clA (mT tI tZ) A false (mw a tI tZ)) A) ([.ref (a 0), .int x1, .int x2, .int x3, .int x4] : List Value).toArray s 0 0 A) (F0 m 97 ls []) := by
    intro σ y1 y2 y3 y4 H locs ls hwp hP hD hS hl
    refine lv_iconst (v := 1) hx hb dMo_stampArrives_97 (by decide) ?_
    refine lv_goto hx hb dMo_stampArrives_98 rfl ?_
    exact cut102 σ y1 y2 y3 y4 1 _ _ _ hwp hP hD hS (lv_sub hl [0, 1, 2, 3, 4] rfl)
  have cut69 : ∀ (σ : MS) (y1 : Int32) (y2 : Int32) (y3 : Int32) (y4 : Int32) (z1 : Int32) (z2 : Int32) (H : Heap) (locs : List Loc) (ls : Array Slot), wM_stampArrives_69 R σ y1 y2 y3 y4 z1 z2 → va_P D clA (mw a tI tZ σ) H → va_D A (mw a tI tZ σ) → va_S A s.heap H locs → lv_has ls 6 [(0, .ref (a 0)), (1, .int y1), (2, .int y2), (3, .int y3), (4, .int y4)] → W p l e (headSpec wsMo_stampArrives rmM_stampArrives).room s m ([.ref (a 0), .int x1, .int x2, .int x3, .int x4] : List Value).toArray below meth c H locs 0 0 (MQ below (va_Qv R (uI D clA (mT tI tZ) A false (mw a tI tZ)) A) ([.ref (a 0), .int x1, .int x2, .int x3, .int x4] : List Value).toArray s 0 0 A) (F0 m 69 ls [.int z2, .int z1, .ref (a 8)]) := by
    intro σ y1 y2 y3 y4 z1 z2 H locs ls hwp hP hD hS hl
    obtain ⟨hi11, hwp⟩ := hwp
    refine va_iast hx hb hK hP hD hS 8 0 rfl rfl hi11 dMo_stampArrives_69 (fun H locs hP hD hS => ?_)
    obtain ⟨σ12, eσ12⟩ : ∃ z, z = up2 σ 11 z1.toNatClampNeg z2 := ⟨_, rfl⟩
    have hwp := hwp σ12 eσ12
    have hP : va_P D clA (mw a tI tZ σ12) H := by rw [eσ12]; exact hP
    have hD : va_D A (mw a tI tZ σ12) := by rw [eσ12]; exact hD
    refine lv_aload_n hx hb dMo_stampArrives_70 rfl (lv_at hl 0 rfl) ?_
    refine va_get (D := D) (ci := 0) (C := RMo) (T := TMo) (N := 33) hx hb hts hin0 hown hK hP 0 rfl rfl 12 (by decide) k38 (fun _ h9 => h9) rfl dMo_stampArrives_71 ?_
    refine lv_iload_n hx hb dMo_stampArrives_74 rfl (lv_at hl 2 rfl) ?_
    obtain ⟨hi13, hwp⟩ := hwp
    refine va_iald hx hb hK hP 9 0 rfl rfl hi13 dMo_stampArrives_75 ?_
    refine lv_iload hx hb dMo_stampArrives_76 (lv_at hl 4 rfl) ?_
    refine lv_icmp_lt hx hb dMo_stampArrives_78 rfl (fun h14 => ?_) (fun h14 => ?_)
    · have hwp := hwp.1 h14
      exact cut97 σ12 y1 y2 y3 y4 _ _ _ hwp hP hD hS (lv_sub hl [0, 1, 2, 3, 4] rfl)
    · have hwp := hwp.2 h14
      refine lv_aload_n hx hb dMo_stampArrives_81 rfl (lv_at hl 0 rfl) ?_
      refine va_get (D := D) (ci := 0) (C := RMo) (T := TMo) (N := 33) hx hb hts hin0 hown hK hP 0 rfl rfl 12 (by decide) k38 (fun _ h9 => h9) rfl dMo_stampArrives_82 ?_
      refine lv_iload_n hx hb dMo_stampArrives_85 rfl (lv_at hl 2 rfl) ?_
      obtain ⟨hi15, hwp⟩ := hwp
      refine va_iald hx hb hK hP 9 0 rfl rfl hi15 dMo_stampArrives_86 ?_
      refine lv_iload hx hb dMo_stampArrives_87 (lv_at hl 4 rfl) ?_
      refine lv_icmp_ne hx hb dMo_stampArrives_89 rfl (fun h16 => ?_) (fun h16 => ?_)
      · have hwp := hwp.1 h16
        exact cut101 σ12 y1 y2 y3 y4 _ _ _ hwp hP hD hS (lv_sub hl [0, 1, 2, 3, 4] rfl)
      · have hwp := hwp.2 h16
        refine lv_iload_n hx hb dMo_stampArrives_92 rfl (lv_at hl 2 rfl) ?_
        refine lv_iload_n hx hb dMo_stampArrives_93 rfl (lv_at hl 1 rfl) ?_
        refine lv_icmp_ge hx hb dMo_stampArrives_94 rfl (fun h17 => ?_) (fun h17 => ?_)
        · have hwp := hwp.1 h17
          exact cut101 σ12 y1 y2 y3 y4 _ _ _ hwp hP hD hS (lv_sub hl [0, 1, 2, 3, 4] rfl)
        · have hwp := hwp.2 h17
          exact cut97 σ12 y1 y2 y3 y4 _ _ _ hwp hP hD hS (lv_sub hl [0, 1, 2, 3, 4] rfl)
  have hl := lv_entry ([.ref (a 0), .int x1, .int x2, .int x3, .int x4]) (n := 6) (Nat.le_of_ble_eq_true rfl)
  rw [lg_entry_eq]
  generalize (lg_sl ([.ref (a 0), .int x1, .int x2, .int x3, .int x4]) ++ List.replicate (6 - (lg_sl ([.ref (a 0), .int x1, .int x2, .int x3, .int x4])).length) Slot.unset).toArray = ls at hl ⊢
  have hl : lv_has ls 6 [(0, .ref (a 0)), (1, .int x1), (2, .int x2), (3, .int x3), (4, .int x4)] := hl
  refine lv_iload_n hx hb dMo_stampArrives_0 rfl (lv_at hl 3 rfl) ?_
  refine lv_iconst (v := 1) hx hb dMo_stampArrives_1 (by decide) ?_
  refine lv_icmp_ne hx hb dMo_stampArrives_2 rfl (fun h18 => ?_) (fun h18 => ?_)
  · have hwp := hwp.1 h18
    refine lv_aload_n hx hb dMo_stampArrives_42 rfl (lv_at hl 0 rfl) ?_
    refine va_get (D := D) (ci := 0) (C := RMo) (T := TMo) (N := 33) hx hb hts hin0 hown hK hP 0 rfl rfl 11 (by decide) k35 (fun _ h9 => h9) rfl dMo_stampArrives_43 ?_
    refine lv_iload_n hx hb dMo_stampArrives_46 rfl (lv_at hl 2 rfl) ?_
    refine lv_iload hx hb dMo_stampArrives_47 (lv_at hl 4 rfl) ?_
    refine lv_aload_n hx hb dMo_stampArrives_49 rfl (lv_at hl 0 rfl) ?_
    refine va_get (D := D) (ci := 0) (C := RMo) (T := TMo) (N := 33) hx hb hts hin0 hown hK hP 0 rfl rfl 11 (by decide) k35 (fun _ h9 => h9) rfl dMo_stampArrives_50 ?_
    refine lv_iload_n hx hb dMo_stampArrives_53 rfl (lv_at hl 2 rfl) ?_
    obtain ⟨hi19, hwp⟩ := hwp
    refine va_iald hx hb hK hP 8 0 rfl rfl hi19 dMo_stampArrives_54 ?_
    refine lv_icmp_le hx hb dMo_stampArrives_55 rfl (fun h20 => ?_) (fun h20 => ?_)
    · have hwp := hwp.1 h20
      refine lv_aload_n hx hb dMo_stampArrives_63 rfl (lv_at hl 0 rfl) ?_
      refine va_get (D := D) (ci := 0) (C := RMo) (T := TMo) (N := 33) hx hb hts hin0 hown hK hP 0 rfl rfl 11 (by decide) k35 (fun _ h9 => h9) rfl dMo_stampArrives_64 ?_
      refine lv_iload_n hx hb dMo_stampArrives_67 rfl (lv_at hl 2 rfl) ?_
      obtain ⟨hi21, hwp⟩ := hwp
      refine va_iald hx hb hK hP 8 0 rfl rfl hi21 dMo_stampArrives_68 ?_
      exact cut69 σ x1 x2 x3 x4 x2 (σ 11 x2.toNatClampNeg) _ _ _ hwp hP hD hS (lv_sub hl [0, 1, 2, 3, 4] rfl)
    · have hwp := hwp.2 h20
      refine lv_iload hx hb dMo_stampArrives_58 (lv_at hl 4 rfl) ?_
      refine lv_goto hx hb dMo_stampArrives_60 rfl ?_
      exact cut69 σ x1 x2 x3 x4 x2 x4 _ _ _ hwp hP hD hS (lv_sub hl [0, 1, 2, 3, 4] rfl)
  · have hwp := hwp.2 h18
    refine lv_aload_n hx hb dMo_stampArrives_5 rfl (lv_at hl 0 rfl) ?_
    refine va_get (D := D) (ci := 0) (C := RMo) (T := TMo) (N := 33) hx hb hts hin0 hown hK hP 0 rfl rfl 13 (by decide) k41 (fun _ h9 => h9) rfl dMo_stampArrives_6 ?_
    refine lv_iload_n hx hb dMo_stampArrives_9 rfl (lv_at hl 2 rfl) ?_
    refine lv_dup2_11 hx hb dMo_stampArrives_10 rfl rfl ?_
    obtain ⟨hi22, hwp⟩ := hwp
    refine va_iald hx hb hK hP 10 0 rfl rfl hi22 dMo_stampArrives_11 ?_
    refine lv_iconst (v := 1) hx hb dMo_stampArrives_12 (by decide) ?_
    refine lv_iadd hx hb dMo_stampArrives_13 ?_
    obtain ⟨hi23, hwp⟩ := hwp
    refine va_iast hx hb hK hP hD hS 10 0 rfl rfl hi23 dMo_stampArrives_14 (fun H locs hP hD hS => ?_)
    obtain ⟨σ24, eσ24⟩ : ∃ z, z = up2 σ 13 x2.toNatClampNeg ((σ 13 x2.toNatClampNeg) + 1) := ⟨_, rfl⟩
    have hwp := hwp σ24 eσ24
    have hP : va_P D clA (mw a tI tZ σ24) H := by rw [eσ24]; exact hP
    have hD : va_D A (mw a tI tZ σ24) := by rw [eσ24]; exact hD
    refine lv_aload_n hx hb dMo_stampArrives_15 rfl (lv_at hl 0 rfl) ?_
    refine va_get (D := D) (ci := 0) (C := RMo) (T := TMo) (N := 33) hx hb hts hin0 hown hK hP 0 rfl rfl 13 (by decide) k41 (fun _ h9 => h9) rfl dMo_stampArrives_16 ?_
    refine lv_iload_n hx hb dMo_stampArrives_19 rfl (lv_at hl 2 rfl) ?_
    obtain ⟨hi25, hwp⟩ := hwp
    refine va_iald hx hb hK hP 10 0 rfl rfl hi25 dMo_stampArrives_20 ?_
    refine lv_iconst (v := 3) hx hb dMo_stampArrives_21 (by decide) ?_
    refine lv_icmp_ne hx hb dMo_stampArrives_22 rfl (fun h26 => ?_) (fun h26 => ?_)
    · have hwp := hwp.1 h26
      exact W.vret hx hb hr (fun t ht hW => ⟨⟨σ24, rfl, hwp, uEnd ht hW hP hK hD hS hA⟩, hS.F ht⟩) hS.2.2 dMo_stampArrives_41
    · have hwp := hwp.2 h26
      refine lv_aload_n hx hb dMo_stampArrives_25 rfl (lv_at hl 0 rfl) ?_
      refine va_get (D := D) (ci := 0) (C := RMo) (T := TMo) (N := 33) hx hb hts hin0 hown hK hP 0 rfl rfl 8 (by decide) k32 (fun _ h9 => h9) rfl dMo_stampArrives_26 ?_
      refine lv_iload_n hx hb dMo_stampArrives_29 rfl (lv_at hl 2 rfl) ?_
      obtain ⟨hi27, hwp⟩ := hwp
      refine va_iald hx hb hK hP 7 0 rfl rfl hi27 dMo_stampArrives_30 ?_
      refine lv_iconst (v := 1) hx hb dMo_stampArrives_31 (by decide) ?_
      refine lv_icmp_ne hx hb dMo_stampArrives_32 rfl (fun h28 => ?_) (fun h28 => ?_)
      · have hwp := hwp.1 h28
        exact W.vret hx hb hr (fun t ht hW => ⟨⟨σ24, rfl, hwp, uEnd ht hW hP hK hD hS hA⟩, hS.F ht⟩) hS.2.2 dMo_stampArrives_41
      · have hwp := hwp.2 h28
        refine lv_aload_n hx hb dMo_stampArrives_35 rfl (lv_at hl 0 rfl) ?_
        refine lv_iconst (v := 0) hx hb dMo_stampArrives_36 (by decide) ?_
        refine lv_iload_n hx hb dMo_stampArrives_37 rfl (lv_at hl 2 rfl) ?_
        obtain ⟨P29, hP29, hwp⟩ := hwp
        refine uCallVv (As := [.int 0, .int x2]) (rest := []) (C := RMo) ⟨hx, hb, hml, hown, hts⟩ (kM_comeIn l D a A tI tZ σ24 0 x2 P29 hP29) (cwV 2 hts (gdV wm_854 wm_856 wp_17 wm_13 wm_857) rfl rfl rfl (by decide +kernel) ⟨Nat.le_of_ble_eq_true rfl, Nat.le_of_ble_eq_true rfl⟩) (va_recv (ci := 0) (q0 := 0) hK hP rfl rfl) hP hK hD hA hS rfl hl.1 rfl (Nat.le_of_ble_eq_true rfl) dMo_stampArrives_38 ⟨Nat.le_of_ble_eq_true rfl, Nat.le_of_ble_eq_true rfl⟩ (fun u30 H locs hu30 hP hD hS => ?_)
        have hwp := hwp u30 hu30
        exact W.vret hx hb hr (fun t ht hW => ⟨⟨u30, rfl, hwp, uEnd ht hW hP hK hD hS hA⟩, hS.F ht⟩) hS.2.2 dMo_stampArrives_41
-- private void tokenArrives(int, int, int, int)
def wM_tokenArrives_56 (R : MS → Prop) (σ : MS) (y1 : Int32) (y2 : Int32) (y3 : Int32) (y4 : Int32) (z1 : Int32) (z2 : Int32) : Prop :=
  (vp_in z1 16 ∧ (∀ σ2 : MS, σ2 = up2 σ 15 z1.toNatClampNeg z2 → (((¬ (σ2 17 0) = y2) → R σ2) ∧ (((σ2 17 0) = y2) → (vp_in (4 + y2) 12 ∧ (((¬ (σ2 8 (4 + y2).toNatClampNeg) = 0) → R σ2) ∧ (((σ2 8 (4 + y2).toNatClampNeg) = 0) → (∃ P6 : Int32 → MS → Prop, wM_isDue P6 σ2 y2 y1 ∧ (∀ (r8 : Int32) (u7 : MS), P6 r8 u7 → (((r8 = 0) → R u7) ∧ ((¬ r8 = 0) → (∀ σ10 : MS, σ10 = up2 u7 17 0 (-1) → (∃ P11 : MS → Prop, wM_send P11 σ10 y2 y1 1 1 0 ∧ (∀ (u12 : MS), P11 u12 → R u12))))))))))))))
def wM_tokenArrives (R : MS → Prop) (σ : MS) (x1 x2 x3 x4 : Int32) : Prop :=
  (((¬ x3 = 1) → (vp_in ((4 * x2) + x1) 16 ∧ (((x4 ≤ (σ 15 ((4 * x2) + x1).toNatClampNeg)) → (vp_in ((4 * x2) + x1) 16 ∧ wM_tokenArrives_56 R σ x1 x2 x3 x4 ((4 * x2) + x1) (σ 15 ((4 * x2) + x1).toNatClampNeg))) ∧ ((¬ x4 ≤ (σ 15 ((4 * x2) + x1).toNatClampNeg)) → wM_tokenArrives_56 R σ x1 x2 x3 x4 ((4 * x2) + x1) x4)))) ∧ ((x3 = 1) → (∀ σ17 : MS, σ17 = up2 σ 17 0 x2 → (∃ P18 : MS → Prop, wM_comeIn P18 σ17 1 x2 ∧ (∀ (u19 : MS), P18 u19 → R u19)))))
abbrev wsMo_tokenArrives : List Cond := .code yMo_tokenArrives cMo_tokenArrives 5 none :: wg
abbrev rmM_tokenArrives : Room := { frames := 1, cells := 0, slots := 0, locals := 27 }
set_option maxHeartbeats 4000000 in
set_option maxRecDepth 100000 in
theorem kM_tokenArrives (l : Launch) (D : va_G) (a : Nat → Nat) (A : Nat → Prop) (tI tZ : ClassId) (σ : MS) (x1 x2 x3 x4 : Int32) (R : MS → Prop) (hwp : wM_tokenArrives R σ x1 x2 x3 x4) : Met l yMo_tokenArrives wsMo_tokenArrives rmM_tokenArrives (va_Pc [.ref (a 0), .int x1, .int x2, .int x3, .int x4] (uI D clA (mT tI tZ) A false (mw a tI tZ) σ)) (va_Qv R (uI D clA (mT tI tZ) A false (mw a tI tZ)) A) 0 0 A := by
  refine Met.ofW (cc := cMo_tokenArrives) (maxL := 5) (ret := none) (by decide) rfl ?_
  intro p e s m args below meth c s₁ B hml hv
  obtain ⟨rfl, hP, hK, hD, hA⟩ := hv
  have hx := B.exec
  have hb := B.bytes
  have hr := B.returns
  have hts := atoms_spec (ws := wsMo_tokenArrives) B.pre
  have hown : s.vm.findClass RMo = some m.cls := findClass_of_methodNamed B.named
  have hlocks := B.notSynchronized
  have hin0 : ∀ w ∈ u_ws RMo TMo 33, w ∈ wsMo_tokenArrives := fun w h => List.mem_cons_of_mem _ (inMo w h)
  have k134 := hts _ (List.mem_cons_of_mem _ wm_753)
  have k32 := hts _ (List.mem_cons_of_mem _ wm_744)
  have k47 := hts _ (List.mem_cons_of_mem _ wm_751)
  have hS : va_S A s.heap s.heap [] := va_S.rf
  have cut56 : ∀ (σ : MS) (y1 : Int32) (y2 : Int32) (y3 : Int32) (y4 : Int32) (z1 : Int32) (z2 : Int32) (H : Heap) (locs : List Loc) (ls : Array Slot), wM_tokenArrives_56 R σ y1 y2 y3 y4 z1 z2 → va_P D clA (mw a tI tZ σ) H → va_D A (mw a tI tZ σ) → va_S A s.heap H locs → lv_has ls 5 [(0, .ref (a 0)), (1, .int y1), (2, .int y2), (3, .int y3), (4, .int y4)] → W p l e (headSpec wsMo_tokenArrives rmM_tokenArrives).room s m ([.ref (a 0), .int x1, .int x2, .int x3, .int x4] : List Value).toArray below meth c H locs 0 0 (MQ below (va_Qv R (uI D clA (mT tI tZ) A false (mw a tI tZ)) A) ([.ref (a 0), .int x1, .int x2, .int x3, .int x4] : List Value).toArray s 0 0 A) (F0 m 56 ls [.int z2, .int z1, .ref (a 12)]) := by
    intro σ y1 y2 y3 y4 z1 z2 H locs ls hwp hP hD hS hl
    obtain ⟨hi1, hwp⟩ := hwp
    refine va_iast hx hb hK hP hD hS 12 0 rfl rfl hi1 dMo_tokenArrives_56 (fun H locs hP hD hS => ?_)
    obtain ⟨σ2, eσ2⟩ : ∃ z, z = up2 σ 15 z1.toNatClampNeg z2 := ⟨_, rfl⟩
    have hwp := hwp σ2 eσ2
    have hP : va_P D clA (mw a tI tZ σ2) H := by rw [eσ2]; exact hP
    have hD : va_D A (mw a tI tZ σ2) := by rw [eσ2]; exact hD
    refine lv_aload_n hx hb dMo_tokenArrives_57 rfl (lv_at hl 0 rfl) ?_
    refine va_get (D := D) (ci := 0) (C := RMo) (T := TMo) (N := 33) hx hb hts hin0 hown hK hP 0 rfl rfl 17 (by decide) k134 (fun _ h9 => h9) rfl dMo_tokenArrives_58 ?_
    refine lv_iload_n hx hb dMo_tokenArrives_61 rfl (lv_at hl 2 rfl) ?_
    refine lv_icmp_ne hx hb dMo_tokenArrives_62 rfl (fun h3 => ?_) (fun h3 => ?_)
    · have hwp := hwp.1 h3
      exact W.vret hx hb hr (fun t ht hW => ⟨⟨σ2, rfl, hwp, uEnd ht hW hP hK hD hS hA⟩, hS.F ht⟩) hS.2.2 dMo_tokenArrives_99
    · have hwp := hwp.2 h3
      refine lv_aload_n hx hb dMo_tokenArrives_65 rfl (lv_at hl 0 rfl) ?_
      refine va_get (D := D) (ci := 0) (C := RMo) (T := TMo) (N := 33) hx hb hts hin0 hown hK hP 0 rfl rfl 8 (by decide) k32 (fun _ h9 => h9) rfl dMo_tokenArrives_66 ?_
      refine lv_iconst (v := 4) hx hb dMo_tokenArrives_69 (by decide) ?_
      refine lv_iload_n hx hb dMo_tokenArrives_70 rfl (lv_at hl 2 rfl) ?_
      refine lv_iadd hx hb dMo_tokenArrives_71 ?_
      obtain ⟨hi4, hwp⟩ := hwp
      refine va_iald hx hb hK hP 7 0 rfl rfl hi4 dMo_tokenArrives_72 ?_
      refine lv_if_ne hx hb dMo_tokenArrives_73 rfl (fun h5 => ?_) (fun h5 => ?_)
      · have hwp := hwp.1 h5
        exact W.vret hx hb hr (fun t ht hW => ⟨⟨σ2, rfl, hwp, uEnd ht hW hP hK hD hS hA⟩, hS.F ht⟩) hS.2.2 dMo_tokenArrives_99
      · have hwp := hwp.2 h5
        refine lv_aload_n hx hb dMo_tokenArrives_76 rfl (lv_at hl 0 rfl) ?_
        refine lv_iload_n hx hb dMo_tokenArrives_77 rfl (lv_at hl 2 rfl) ?_
        refine lv_iload_n hx hb dMo_tokenArrives_78 rfl (lv_at hl 1 rfl) ?_
        obtain ⟨P6, hP6, hwp⟩ := hwp
        refine uCallVi (As := [.int y2, .int y1]) (rest := []) (C := RMo) ⟨hx, hb, hml, hown, hts⟩ (kM_isDue l D a A tI tZ σ2 y2 y1 P6 hP6) (cwV 2 hts (gdV wm_866 wm_868 wp_20 wm_13 wm_869) rfl rfl rfl (by decide +kernel) ⟨Nat.le_of_ble_eq_true rfl, Nat.le_of_ble_eq_true rfl⟩) (va_recv (ci := 0) (q0 := 0) hK hP rfl rfl) hP hK hD hA hS rfl hl.1 rfl (Nat.le_of_ble_eq_true rfl) dMo_tokenArrives_79 ⟨Nat.le_of_ble_eq_true rfl, Nat.le_of_ble_eq_true rfl⟩ (fun r8 u7 H locs hu7 hP hD hS => ?_)
        have hwp := hwp r8 u7 hu7
        refine lv_if_eq hx hb dMo_tokenArrives_82 rfl (fun h9 => ?_) (fun h9 => ?_)
        · have hwp := hwp.1 h9
          exact W.vret hx hb hr (fun t ht hW => ⟨⟨u7, rfl, hwp, uEnd ht hW hP hK hD hS hA⟩, hS.F ht⟩) hS.2.2 dMo_tokenArrives_99
        · have hwp := hwp.2 h9
          refine lv_aload_n hx hb dMo_tokenArrives_85 rfl (lv_at hl 0 rfl) ?_
          refine lv_iconst (v := (-1)) hx hb dMo_tokenArrives_86 (by decide) ?_
          refine va_put (ty := .int) (D := D) (ci := 0) (C := RMo) (T := TMo) (N := 33) hx hb hts hin0 tyMo tyMo_ok nmMo hown hK hP hD hS 0 rfl rfl 17 (by decide) k134 (fun _ h9 => h9) rfl (by decide +kernel) rfl rfl (Nat.le_of_ble_eq_true rfl) dMo_tokenArrives_87 (fun H locs hP hD hS => ?_)
          obtain ⟨σ10, eσ10⟩ : ∃ z, z = up2 u7 17 0 (-1) := ⟨_, rfl⟩
          have hwp := hwp σ10 eσ10
          have hP : va_P D clA (mw a tI tZ σ10) H := by rw [eσ10]; exact hP
          have hD : va_D A (mw a tI tZ σ10) := by rw [eσ10]; exact hD
          refine lv_aload_n hx hb dMo_tokenArrives_90 rfl (lv_at hl 0 rfl) ?_
          refine lv_iload_n hx hb dMo_tokenArrives_91 rfl (lv_at hl 2 rfl) ?_
          refine lv_iload_n hx hb dMo_tokenArrives_92 rfl (lv_at hl 1 rfl) ?_
          refine lv_iconst (v := 1) hx hb dMo_tokenArrives_93 (by decide) ?_
          refine lv_iconst (v := 1) hx hb dMo_tokenArrives_94 (by decide) ?_
          refine lv_iconst (v := 0) hx hb dMo_tokenArrives_95 (by decide) ?_
          obtain ⟨P11, hP11, hwp⟩ := hwp
          refine uCallVv (As := [.int y2, .int y1, .int 1, .int 1, .int 0]) (rest := []) (C := RMo) ⟨hx, hb, hml, hown, hts⟩ (kM_send l D a A tI tZ σ10 y2 y1 1 1 0 P11 hP11) (cwV 5 hts (gdV wm_858 wm_860 wp_18 wm_13 wm_861) rfl rfl rfl (by decide +kernel) ⟨Nat.le_of_ble_eq_true rfl, Nat.le_of_ble_eq_true rfl⟩) (va_recv (ci := 0) (q0 := 0) hK hP rfl rfl) hP hK hD hA hS rfl hl.1 rfl (Nat.le_of_ble_eq_true rfl) dMo_tokenArrives_96 ⟨Nat.le_of_ble_eq_true rfl, Nat.le_of_ble_eq_true rfl⟩ (fun u12 H locs hu12 hP hD hS => ?_)
          have hwp := hwp u12 hu12
          exact W.vret hx hb hr (fun t ht hW => ⟨⟨u12, rfl, hwp, uEnd ht hW hP hK hD hS hA⟩, hS.F ht⟩) hS.2.2 dMo_tokenArrives_99
  have hl := lv_entry ([.ref (a 0), .int x1, .int x2, .int x3, .int x4]) (n := 5) (Nat.le_of_ble_eq_true rfl)
  rw [lg_entry_eq]
  generalize (lg_sl ([.ref (a 0), .int x1, .int x2, .int x3, .int x4]) ++ List.replicate (5 - (lg_sl ([.ref (a 0), .int x1, .int x2, .int x3, .int x4])).length) Slot.unset).toArray = ls at hl ⊢
  have hl : lv_has ls 5 [(0, .ref (a 0)), (1, .int x1), (2, .int x2), (3, .int x3), (4, .int x4)] := hl
  refine lv_iload_n hx hb dMo_tokenArrives_0 rfl (lv_at hl 3 rfl) ?_
  refine lv_iconst (v := 1) hx hb dMo_tokenArrives_1 (by decide) ?_
  refine lv_icmp_ne hx hb dMo_tokenArrives_2 rfl (fun h13 => ?_) (fun h13 => ?_)
  · have hwp := hwp.1 h13
    refine lv_aload_n hx hb dMo_tokenArrives_17 rfl (lv_at hl 0 rfl) ?_
    refine va_get (D := D) (ci := 0) (C := RMo) (T := TMo) (N := 33) hx hb hts hin0 hown hK hP 0 rfl rfl 15 (by decide) k47 (fun _ h9 => h9) rfl dMo_tokenArrives_18 ?_
    refine lv_iconst (v := 4) hx hb dMo_tokenArrives_21 (by decide) ?_
    refine lv_iload_n hx hb dMo_tokenArrives_22 rfl (lv_at hl 2 rfl) ?_
    refine lv_imul hx hb dMo_tokenArrives_23 ?_
    refine lv_iload_n hx hb dMo_tokenArrives_24 rfl (lv_at hl 1 rfl) ?_
    refine lv_iadd hx hb dMo_tokenArrives_25 ?_
    refine lv_iload hx hb dMo_tokenArrives_26 (lv_at hl 4 rfl) ?_
    refine lv_aload_n hx hb dMo_tokenArrives_28 rfl (lv_at hl 0 rfl) ?_
    refine va_get (D := D) (ci := 0) (C := RMo) (T := TMo) (N := 33) hx hb hts hin0 hown hK hP 0 rfl rfl 15 (by decide) k47 (fun _ h9 => h9) rfl dMo_tokenArrives_29 ?_
    refine lv_iconst (v := 4) hx hb dMo_tokenArrives_32 (by decide) ?_
    refine lv_iload_n hx hb dMo_tokenArrives_33 rfl (lv_at hl 2 rfl) ?_
    refine lv_imul hx hb dMo_tokenArrives_34 ?_
    refine lv_iload_n hx hb dMo_tokenArrives_35 rfl (lv_at hl 1 rfl) ?_
    refine lv_iadd hx hb dMo_tokenArrives_36 ?_
    obtain ⟨hi14, hwp⟩ := hwp
    refine va_iald hx hb hK hP 12 0 rfl rfl hi14 dMo_tokenArrives_37 ?_
    refine lv_icmp_le hx hb dMo_tokenArrives_38 rfl (fun h15 => ?_) (fun h15 => ?_)
    · have hwp := hwp.1 h15
      refine lv_aload_n hx hb dMo_tokenArrives_46 rfl (lv_at hl 0 rfl) ?_
      refine va_get (D := D) (ci := 0) (C := RMo) (T := TMo) (N := 33) hx hb hts hin0 hown hK hP 0 rfl rfl 15 (by decide) k47 (fun _ h9 => h9) rfl dMo_tokenArrives_47 ?_
      refine lv_iconst (v := 4) hx hb dMo_tokenArrives_50 (by decide) ?_
      refine lv_iload_n hx hb dMo_tokenArrives_51 rfl (lv_at hl 2 rfl) ?_
      refine lv_imul hx hb dMo_tokenArrives_52 ?_
      refine lv_iload_n hx hb dMo_tokenArrives_53 rfl (lv_at hl 1 rfl) ?_
      refine lv_iadd hx hb dMo_tokenArrives_54 ?_
      obtain ⟨hi16, hwp⟩ := hwp
      refine va_iald hx hb hK hP 12 0 rfl rfl hi16 dMo_tokenArrives_55 ?_
      exact cut56 σ x1 x2 x3 x4 ((4 * x2) + x1) (σ 15 ((4 * x2) + x1).toNatClampNeg) _ _ _ hwp hP hD hS (lv_sub hl [0, 1, 2, 3, 4] rfl)
    · have hwp := hwp.2 h15
      refine lv_iload hx hb dMo_tokenArrives_41 (lv_at hl 4 rfl) ?_
      refine lv_goto hx hb dMo_tokenArrives_43 rfl ?_
      exact cut56 σ x1 x2 x3 x4 ((4 * x2) + x1) x4 _ _ _ hwp hP hD hS (lv_sub hl [0, 1, 2, 3, 4] rfl)
  · have hwp := hwp.2 h13
    refine lv_aload_n hx hb dMo_tokenArrives_5 rfl (lv_at hl 0 rfl) ?_
    refine lv_iload_n hx hb dMo_tokenArrives_6 rfl (lv_at hl 2 rfl) ?_
    refine va_put (ty := .int) (D := D) (ci := 0) (C := RMo) (T := TMo) (N := 33) hx hb hts hin0 tyMo tyMo_ok nmMo hown hK hP hD hS 0 rfl rfl 17 (by decide) k134 (fun _ h9 => h9) rfl (by decide +kernel) rfl rfl (Nat.le_of_ble_eq_true rfl) dMo_tokenArrives_7 (fun H locs hP hD hS => ?_)
    obtain ⟨σ17, eσ17⟩ : ∃ z, z = up2 σ 17 0 x2 := ⟨_, rfl⟩
    have hwp := hwp σ17 eσ17
    have hP : va_P D clA (mw a tI tZ σ17) H := by rw [eσ17]; exact hP
    have hD : va_D A (mw a tI tZ σ17) := by rw [eσ17]; exact hD
    refine lv_aload_n hx hb dMo_tokenArrives_10 rfl (lv_at hl 0 rfl) ?_
    refine lv_iconst (v := 1) hx hb dMo_tokenArrives_11 (by decide) ?_
    refine lv_iload_n hx hb dMo_tokenArrives_12 rfl (lv_at hl 2 rfl) ?_
    obtain ⟨P18, hP18, hwp⟩ := hwp
    refine uCallVv (As := [.int 1, .int x2]) (rest := []) (C := RMo) ⟨hx, hb, hml, hown, hts⟩ (kM_comeIn l D a A tI tZ σ17 1 x2 P18 hP18) (cwV 2 hts (gdV wm_854 wm_856 wp_17 wm_13 wm_857) rfl rfl rfl (by decide +kernel) ⟨Nat.le_of_ble_eq_true rfl, Nat.le_of_ble_eq_true rfl⟩) (va_recv (ci := 0) (q0 := 0) hK hP rfl rfl) hP hK hD hA hS rfl hl.1 rfl (Nat.le_of_ble_eq_true rfl) dMo_tokenArrives_13 ⟨Nat.le_of_ble_eq_true rfl, Nat.le_of_ble_eq_true rfl⟩ (fun u19 H locs hu19 hP hD hS => ?_)
    have hwp := hwp u19 hu19
    exact W.vret hx hb hr (fun t ht hW => ⟨⟨u19, rfl, hwp, uEnd ht hW hP hK hD hS hA⟩, hS.F ht⟩) hS.2.2 dMo_tokenArrives_16
-- private void treeArrives(int, int, int)
def wM_treeArrives_20 (R : MS → Prop) (σ : MS) (y1 : Int32) (y2 : Int32) (y3 : Int32) : Prop :=
  (∃ P1 : MS → Prop, wM_goOn P1 σ y2 ∧ (∀ (u2 : MS), P1 u2 → R u2))
def wM_treeArrives (R : MS → Prop) (σ : MS) (x1 x2 x3 : Int32) : Prop :=
  (((¬ x3 = 0) → (vp_in x2 4 ∧ (∀ σ5 : MS, σ5 = up2 σ 20 x2.toNatClampNeg x2 → wM_treeArrives_20 R σ5 x1 x2 x3))) ∧ ((x3 = 0) → (∃ P6 : MS → Prop, wM_enqueue P6 σ x2 x1 ∧ (∀ (u7 : MS), P6 u7 → wM_treeArrives_20 R u7 x1 x2 x3))))
abbrev wsMo_treeArrives : List Cond := .code yMo_treeArrives cMo_treeArrives 4 none :: wg
abbrev rmM_treeArrives : Room := { frames := 2, cells := 0, slots := 0, locals := 49 }
set_option maxHeartbeats 4000000 in
set_option maxRecDepth 100000 in
theorem kM_treeArrives (l : Launch) (D : va_G) (a : Nat → Nat) (A : Nat → Prop) (tI tZ : ClassId) (σ : MS) (x1 x2 x3 : Int32) (R : MS → Prop) (hwp : wM_treeArrives R σ x1 x2 x3) : Met l yMo_treeArrives wsMo_treeArrives rmM_treeArrives (va_Pc [.ref (a 0), .int x1, .int x2, .int x3] (uI D clA (mT tI tZ) A false (mw a tI tZ) σ)) (va_Qv R (uI D clA (mT tI tZ) A false (mw a tI tZ)) A) 0 0 A := by
  refine Met.ofW (cc := cMo_treeArrives) (maxL := 4) (ret := none) (by decide) rfl ?_
  intro p e s m args below meth c s₁ B hml hv
  obtain ⟨rfl, hP, hK, hD, hA⟩ := hv
  have hx := B.exec
  have hb := B.bytes
  have hr := B.returns
  have hts := atoms_spec (ws := wsMo_treeArrives) B.pre
  have hown : s.vm.findClass RMo = some m.cls := findClass_of_methodNamed B.named
  have hlocks := B.notSynchronized
  have hin0 : ∀ w ∈ u_ws RMo TMo 33, w ∈ wsMo_treeArrives := fun w h => List.mem_cons_of_mem _ (inMo w h)
  have k56 := hts _ (List.mem_cons_of_mem _ wm_756)
  have hS : va_S A s.heap s.heap [] := va_S.rf
  have cut20 : ∀ (σ : MS) (y1 : Int32) (y2 : Int32) (y3 : Int32) (H : Heap) (locs : List Loc) (ls : Array Slot), wM_treeArrives_20 R σ y1 y2 y3 → va_P D clA (mw a tI tZ σ) H → va_D A (mw a tI tZ σ) → va_S A s.heap H locs → lv_has ls 4 [(0, .ref (a 0)), (1, .int y1), (2, .int y2), (3, .int y3)] → W p l e (headSpec wsMo_treeArrives rmM_treeArrives).room s m ([.ref (a 0), .int x1, .int x2, .int x3] : List Value).toArray below meth c H locs 0 0 (MQ below (va_Qv R (uI D clA (mT tI tZ) A false (mw a tI tZ)) A) ([.ref (a 0), .int x1, .int x2, .int x3] : List Value).toArray s 0 0 A) (F0 m 20 ls []) := by
    intro σ y1 y2 y3 H locs ls hwp hP hD hS hl
    refine lv_aload_n hx hb dMo_treeArrives_20 rfl (lv_at hl 0 rfl) ?_
    refine lv_iload_n hx hb dMo_treeArrives_21 rfl (lv_at hl 2 rfl) ?_
    obtain ⟨P1, hP1, hwp⟩ := hwp
    refine uCallVv (As := [.int y2]) (rest := []) (C := RMo) ⟨hx, hb, hml, hown, hts⟩ (kM_goOn l D a A tI tZ σ y2 P1 hP1) (cwV 1 hts (gdV wm_878 wm_880 wp_23 wm_13 wm_881) rfl rfl rfl (by decide +kernel) ⟨Nat.le_of_ble_eq_true rfl, Nat.le_of_ble_eq_true rfl⟩) (va_recv (ci := 0) (q0 := 0) hK hP rfl rfl) hP hK hD hA hS rfl hl.1 rfl (Nat.le_of_ble_eq_true rfl) dMo_treeArrives_22 ⟨Nat.le_of_ble_eq_true rfl, Nat.le_of_ble_eq_true rfl⟩ (fun u2 H locs hu2 hP hD hS => ?_)
    have hwp := hwp u2 hu2
    exact W.vret hx hb hr (fun t ht hW => ⟨⟨u2, rfl, hwp, uEnd ht hW hP hK hD hS hA⟩, hS.F ht⟩) hS.2.2 dMo_treeArrives_25
  have hl := lv_entry ([.ref (a 0), .int x1, .int x2, .int x3]) (n := 4) (Nat.le_of_ble_eq_true rfl)
  rw [lg_entry_eq]
  generalize (lg_sl ([.ref (a 0), .int x1, .int x2, .int x3]) ++ List.replicate (4 - (lg_sl ([.ref (a 0), .int x1, .int x2, .int x3])).length) Slot.unset).toArray = ls at hl ⊢
  have hl : lv_has ls 4 [(0, .ref (a 0)), (1, .int x1), (2, .int x2), (3, .int x3)] := hl
  refine lv_iload_n hx hb dMo_treeArrives_0 rfl (lv_at hl 3 rfl) ?_
  refine lv_if_ne hx hb dMo_treeArrives_1 rfl (fun h3 => ?_) (fun h3 => ?_)
  · have hwp := hwp.1 h3
    refine lv_aload_n hx hb dMo_treeArrives_13 rfl (lv_at hl 0 rfl) ?_
    refine va_get (D := D) (ci := 0) (C := RMo) (T := TMo) (N := 33) hx hb hts hin0 hown hK hP 0 rfl rfl 20 (by decide) k56 (fun _ h9 => h9) rfl dMo_treeArrives_14 ?_
    refine lv_iload_n hx hb dMo_treeArrives_17 rfl (lv_at hl 2 rfl) ?_
    refine lv_iload_n hx hb dMo_treeArrives_18 rfl (lv_at hl 2 rfl) ?_
    obtain ⟨hi4, hwp⟩ := hwp
    refine va_iast hx hb hK hP hD hS 15 0 rfl rfl hi4 dMo_treeArrives_19 (fun H locs hP hD hS => ?_)
    obtain ⟨σ5, eσ5⟩ : ∃ z, z = up2 σ 20 x2.toNatClampNeg x2 := ⟨_, rfl⟩
    have hwp := hwp σ5 eσ5
    have hP : va_P D clA (mw a tI tZ σ5) H := by rw [eσ5]; exact hP
    have hD : va_D A (mw a tI tZ σ5) := by rw [eσ5]; exact hD
    exact cut20 σ5 x1 x2 x3 _ _ _ hwp hP hD hS (lv_sub hl [0, 1, 2, 3] rfl)
  · have hwp := hwp.2 h3
    refine lv_aload_n hx hb dMo_treeArrives_4 rfl (lv_at hl 0 rfl) ?_
    refine lv_iload_n hx hb dMo_treeArrives_5 rfl (lv_at hl 2 rfl) ?_
    refine lv_iload_n hx hb dMo_treeArrives_6 rfl (lv_at hl 1 rfl) ?_
    obtain ⟨P6, hP6, hwp⟩ := hwp
    refine uCallVv (As := [.int x2, .int x1]) (rest := []) (C := RMo) ⟨hx, hb, hml, hown, hts⟩ (kM_enqueue l D a A tI tZ σ x2 x1 P6 hP6) (cwV 2 hts (gdV wm_874 wm_876 wp_22 wm_13 wm_877) rfl rfl rfl (by decide +kernel) ⟨Nat.le_of_ble_eq_true rfl, Nat.le_of_ble_eq_true rfl⟩) (va_recv (ci := 0) (q0 := 0) hK hP rfl rfl) hP hK hD hA hS rfl hl.1 rfl (Nat.le_of_ble_eq_true rfl) dMo_treeArrives_7 ⟨Nat.le_of_ble_eq_true rfl, Nat.le_of_ble_eq_true rfl⟩ (fun u7 H locs hu7 hP hD hS => ?_)
    have hwp := hwp u7 hu7
    refine lv_goto hx hb dMo_treeArrives_10 rfl ?_
    exact cut20 u7 x1 x2 x3 _ _ _ hwp hP hD hS (lv_sub hl [0, 1, 2, 3] rfl)
-- private void ringArrives(int, int, int)
def wM_ringArrives_136 (R : MS → Prop) (σ : MS) (y1 : Int32) (y2 : Int32) (y3 : Int32) (y4 : Int32) (z1 : Int32) (z2 : Int32) (z3 : Int32) (z4 : Int32) (z5 : Int32) : Prop :=
  (∃ P1 : MS → Prop, wM_send P1 σ z1 z2 z3 z4 z5 ∧ (∀ (u2 : MS), P1 u2 → R u2))
def wM_ringArrives_103 (R : MS → Prop) (σ : MS) (y1 : Int32) (y2 : Int32) (y3 : Int32) (y4 : Int32) : Prop :=
  (vp_in y1 4 ∧ (∀ σ4 : MS, σ4 = up2 σ 26 y1.toNatClampNeg (vp_nar .boolean 1) → (vp_in y1 4 ∧ (((y3 ≤ (σ4 24 y1.toNatClampNeg)) → (vp_in y1 4 ∧ wM_ringArrives_136 R σ4 y1 y2 y3 y4 y1 y4 3 0 (σ4 24 y1.toNatClampNeg))) ∧ ((¬ y3 ≤ (σ4 24 y1.toNatClampNeg)) → wM_ringArrives_136 R σ4 y1 y2 y3 y4 y1 y4 3 0 y3)))))
def wM_ringArrives (R : MS → Prop) (σ : MS) (x1 x2 x3 : Int32) : Prop :=
  (∀ v8 : Int32, v8 = (x1 + 1) - (x1 + 1) / 4 * 4 → (((¬ x2 = 1) → (vp_in x1 4 ∧ (((¬ x3 = (σ 24 x1.toNatClampNeg)) → (vp_in x1 4 ∧ ((((σ 24 x1.toNatClampNeg) < x3) → wM_ringArrives_103 R σ x1 x2 x3 v8) ∧ ((¬ (σ 24 x1.toNatClampNeg) < x3) → (vp_in x1 4 ∧ (((¬ (σ 26 x1.toNatClampNeg) = 0) → R σ) ∧ (((σ 26 x1.toNatClampNeg) = 0) → wM_ringArrives_103 R σ x1 x2 x3 v8))))))) ∧ ((x3 = (σ 24 x1.toNatClampNeg)) → (vp_in x1 4 ∧ (∀ σ17 : MS, σ17 = up2 σ 26 x1.toNatClampNeg (vp_nar .boolean 0) → (vp_in x1 4 ∧ (∀ σ19 : MS, σ19 = up2 σ17 25 x1.toNatClampNeg x3 → (∃ P20 : MS → Prop, wM_send P20 σ19 x1 v8 3 1 x3 ∧ (∀ (u21 : MS), P20 u21 → R u21)))))))))) ∧ ((x2 = 1) → (vp_in x1 4 ∧ (((x3 = (σ 24 x1.toNatClampNeg)) → R σ) ∧ ((¬ x3 = (σ 24 x1.toNatClampNeg)) → (vp_in x1 4 ∧ (∀ σ25 : MS, σ25 = up2 σ 25 x1.toNatClampNeg x3 → (vp_in x1 4 ∧ (∀ σ27 : MS, σ27 = up2 σ25 26 x1.toNatClampNeg (vp_nar .boolean 0) → (∃ P28 : MS → Prop, wM_send P28 σ27 x1 v8 3 1 x3 ∧ (∀ (u29 : MS), P28 u29 → R u29))))))))))))
abbrev wsMo_ringArrives : List Cond := .code yMo_ringArrives cMo_ringArrives 5 none :: wg
abbrev rmM_ringArrives : Room := { frames := 1, cells := 0, slots := 0, locals := 27 }
set_option maxHeartbeats 4000000 in
set_option maxRecDepth 100000 in
theorem kM_ringArrives (l : Launch) (D : va_G) (a : Nat → Nat) (A : Nat → Prop) (tI tZ : ClassId) (σ : MS) (x1 x2 x3 : Int32) (R : MS → Prop) (hwp : wM_ringArrives R σ x1 x2 x3) : Met l yMo_ringArrives wsMo_ringArrives rmM_ringArrives (va_Pc [.ref (a 0), .int x1, .int x2, .int x3] (uI D clA (mT tI tZ) A false (mw a tI tZ) σ)) (va_Qv R (uI D clA (mT tI tZ) A false (mw a tI tZ)) A) 0 0 A := by
  refine Met.ofW (cc := cMo_ringArrives) (maxL := 5) (ret := none) (by decide) rfl ?_
  intro p e s m args below meth c s₁ B hml hv
  obtain ⟨rfl, hP, hK, hD, hA⟩ := hv
  have hx := B.exec
  have hb := B.bytes
  have hr := B.returns
  have hts := atoms_spec (ws := wsMo_ringArrives) B.pre
  have hown : s.vm.findClass RMo = some m.cls := findClass_of_methodNamed B.named
  have hlocks := B.notSynchronized
  have hin0 : ∀ w ∈ u_ws RMo TMo 33, w ∈ wsMo_ringArrives := fun w h => List.mem_cons_of_mem _ (inMo w h)
  have k69 := hts _ (List.mem_cons_of_mem _ wm_760)
  have k72 := hts _ (List.mem_cons_of_mem _ wm_761)
  have k75 := hts _ (List.mem_cons_of_mem _ wm_762)
  have hS : va_S A s.heap s.heap [] := va_S.rf
  have cut136 : ∀ (σ : MS) (y1 : Int32) (y2 : Int32) (y3 : Int32) (y4 : Int32) (z1 : Int32) (z2 : Int32) (z3 : Int32) (z4 : Int32) (z5 : Int32) (H : Heap) (locs : List Loc) (ls : Array Slot), wM_ringArrives_136 R σ y1 y2 y3 y4 z1 z2 z3 z4 z5 → va_P D clA (mw a tI tZ σ) H → va_D A (mw a tI tZ σ) → va_S A s.heap H locs → lv_has ls 5 [(0, .ref (a 0)), (1, .int y1), (2, .int y2), (3, .int y3), (4, .int y4)] → W p l e (headSpec wsMo_ringArrives rmM_ringArrives).room s m ([.ref (a 0), .int x1, .int x2, .int x3] : List Value).toArray below meth c H locs 0 0 (MQ below (va_Qv R (uI D clA (mT tI tZ) A false (mw a tI tZ)) A) ([.ref (a 0), .int x1, .int x2, .int x3] : List Value).toArray s 0 0 A) (F0 m 136 ls [.int z5, .int z4, .int z3, .int z2, .int z1, .ref (a 0)]) := by
    intro σ y1 y2 y3 y4 z1 z2 z3 z4 z5 H locs ls hwp hP hD hS hl
    obtain ⟨P1, hP1, hwp⟩ := hwp
    refine uCallVv (As := [.int z1, .int z2, .int z3, .int z4, .int z5]) (rest := []) (C := RMo) ⟨hx, hb, hml, hown, hts⟩ (kM_send l D a A tI tZ σ z1 z2 z3 z4 z5 P1 hP1) (cwV 5 hts (gdV wm_858 wm_860 wp_18 wm_13 wm_861) rfl rfl rfl (by decide +kernel) ⟨Nat.le_of_ble_eq_true rfl, Nat.le_of_ble_eq_true rfl⟩) (va_recv (ci := 0) (q0 := 0) hK hP rfl rfl) hP hK hD hA hS rfl hl.1 rfl (Nat.le_of_ble_eq_true rfl) dMo_ringArrives_136 ⟨Nat.le_of_ble_eq_true rfl, Nat.le_of_ble_eq_true rfl⟩ (fun u2 H locs hu2 hP hD hS => ?_)
    have hwp := hwp u2 hu2
    exact W.vret hx hb hr (fun t ht hW => ⟨⟨u2, rfl, hwp, uEnd ht hW hP hK hD hS hA⟩, hS.F ht⟩) hS.2.2 dMo_ringArrives_139
  have cut103 : ∀ (σ : MS) (y1 : Int32) (y2 : Int32) (y3 : Int32) (y4 : Int32) (H : Heap) (locs : List Loc) (ls : Array Slot), wM_ringArrives_103 R σ y1 y2 y3 y4 → va_P D clA (mw a tI tZ σ) H → va_D A (mw a tI tZ σ) → va_S A s.heap H locs → lv_has ls 5 [(0, .ref (a 0)), (1, .int y1), (2, .int y2), (3, .int y3), (4, .int y4)] → W p l e (headSpec wsMo_ringArrives rmM_ringArrives).room s m ([.ref (a 0), .int x1, .int x2, .int x3] : List Value).toArray below meth c H locs 0 0 (MQ below (va_Qv R (uI D clA (mT tI tZ) A false (mw a tI tZ)) A) ([.ref (a 0), .int x1, .int x2, .int x3] : List Value).toArray s 0 0 A) (F0 m 103 ls []) := by
    intro σ y1 y2 y3 y4 H locs ls hwp hP hD hS hl
    refine lv_aload_n hx hb dMo_ringArrives_103 rfl (lv_at hl 0 rfl) ?_
    refine va_get (D := D) (ci := 0) (C := RMo) (T := TMo) (N := 33) hx hb hts hin0 hown hK hP 0 rfl rfl 26 (by decide) k75 (fun _ h9 => h9) rfl dMo_ringArrives_104 ?_
    refine lv_iload_n hx hb dMo_ringArrives_107 rfl (lv_at hl 1 rfl) ?_
    refine lv_iconst (v := 1) hx hb dMo_ringArrives_108 (by decide) ?_
    obtain ⟨hi3, hwp⟩ := hwp
    refine va_zast hx hb hK hP hD hS 21 1 rfl rfl hi3 dMo_ringArrives_109 (fun H locs hP hD hS => ?_)
    obtain ⟨σ4, eσ4⟩ : ∃ z, z = up2 σ 26 y1.toNatClampNeg (vp_nar .boolean 1) := ⟨_, rfl⟩
    have hwp := hwp σ4 eσ4
    have hP : va_P D clA (mw a tI tZ σ4) H := by rw [eσ4]; exact hP
    have hD : va_D A (mw a tI tZ σ4) := by rw [eσ4]; exact hD
    refine lv_aload_n hx hb dMo_ringArrives_110 rfl (lv_at hl 0 rfl) ?_
    refine lv_iload_n hx hb dMo_ringArrives_111 rfl (lv_at hl 1 rfl) ?_
    refine lv_iload hx hb dMo_ringArrives_112 (lv_at hl 4 rfl) ?_
    refine lv_iconst (v := 3) hx hb dMo_ringArrives_114 (by decide) ?_
    refine lv_iconst (v := 0) hx hb dMo_ringArrives_115 (by decide) ?_
    refine lv_iload_n hx hb dMo_ringArrives_116 rfl (lv_at hl 3 rfl) ?_
    refine lv_aload_n hx hb dMo_ringArrives_117 rfl (lv_at hl 0 rfl) ?_
    refine va_get (D := D) (ci := 0) (C := RMo) (T := TMo) (N := 33) hx hb hts hin0 hown hK hP 0 rfl rfl 24 (by decide) k69 (fun _ h9 => h9) rfl dMo_ringArrives_118 ?_
    refine lv_iload_n hx hb dMo_ringArrives_121 rfl (lv_at hl 1 rfl) ?_
    obtain ⟨hi5, hwp⟩ := hwp
    refine va_iald hx hb hK hP 19 0 rfl rfl hi5 dMo_ringArrives_122 ?_
    refine lv_icmp_le hx hb dMo_ringArrives_123 rfl (fun h6 => ?_) (fun h6 => ?_)
    · have hwp := hwp.1 h6
      refine lv_aload_n hx hb dMo_ringArrives_130 rfl (lv_at hl 0 rfl) ?_
      refine va_get (D := D) (ci := 0) (C := RMo) (T := TMo) (N := 33) hx hb hts hin0 hown hK hP 0 rfl rfl 24 (by decide) k69 (fun _ h9 => h9) rfl dMo_ringArrives_131 ?_
      refine lv_iload_n hx hb dMo_ringArrives_134 rfl (lv_at hl 1 rfl) ?_
      obtain ⟨hi7, hwp⟩ := hwp
      refine va_iald hx hb hK hP 19 0 rfl rfl hi7 dMo_ringArrives_135 ?_
      exact cut136 σ4 y1 y2 y3 y4 y1 y4 3 0 (σ4 24 y1.toNatClampNeg) _ _ _ hwp hP hD hS (lv_sub hl [0, 1, 2, 3, 4] rfl)
    · have hwp := hwp.2 h6
      refine lv_iload_n hx hb dMo_ringArrives_126 rfl (lv_at hl 3 rfl) ?_
      refine lv_goto hx hb dMo_ringArrives_127 rfl ?_
      exact cut136 σ4 y1 y2 y3 y4 y1 y4 3 0 y3 _ _ _ hwp hP hD hS (lv_sub hl [0, 1, 2, 3, 4] rfl)
  have hl := lv_entry ([.ref (a 0), .int x1, .int x2, .int x3]) (n := 5) (Nat.le_of_ble_eq_true rfl)
  rw [lg_entry_eq]
  generalize (lg_sl ([.ref (a 0), .int x1, .int x2, .int x3]) ++ List.replicate (5 - (lg_sl ([.ref (a 0), .int x1, .int x2, .int x3])).length) Slot.unset).toArray = ls at hl ⊢
  have hl : lv_has ls 5 [(0, .ref (a 0)), (1, .int x1), (2, .int x2), (3, .int x3)] := hl
  refine lv_iload_n hx hb dMo_ringArrives_0 rfl (lv_at hl 1 rfl) ?_
  refine lv_iconst (v := 1) hx hb dMo_ringArrives_1 (by decide) ?_
  refine lv_iadd hx hb dMo_ringArrives_2 ?_
  refine lv_iconst (v := 4) hx hb dMo_ringArrives_3 (by decide) ?_
  refine lv_irem hx hb dMo_ringArrives_4 (by decide) ?_
  refine lv_topi (fun v8 ev8 => ?_)
  have hwp := hwp v8 ev8
  refine lv_istore hx hb dMo_ringArrives_5 hl (by decide) rfl (fun ls hl => ?_)
  have hl : lv_has ls 5 [(4, .int v8), (0, .ref (a 0)), (1, .int x1), (2, .int x2), (3, .int x3)] := hl
  refine lv_iload_n hx hb dMo_ringArrives_7 rfl (lv_at hl 3 rfl) ?_
  refine lv_iconst (v := 1) hx hb dMo_ringArrives_8 (by decide) ?_
  refine lv_icmp_ne hx hb dMo_ringArrives_9 rfl (fun h9 => ?_) (fun h9 => ?_)
  · have hwp := hwp.1 h9
    refine lv_iload_n hx hb dMo_ringArrives_47 rfl (lv_at hl 4 rfl) ?_
    refine lv_aload_n hx hb dMo_ringArrives_48 rfl (lv_at hl 1 rfl) ?_
    refine va_get (D := D) (ci := 0) (C := RMo) (T := TMo) (N := 33) hx hb hts hin0 hown hK hP 0 rfl rfl 24 (by decide) k69 (fun _ h9 => h9) rfl dMo_ringArrives_49 ?_
    refine lv_iload_n hx hb dMo_ringArrives_52 rfl (lv_at hl 2 rfl) ?_
    obtain ⟨hi10, hwp⟩ := hwp
    refine va_iald hx hb hK hP 19 0 rfl rfl hi10 dMo_ringArrives_53 ?_
    refine lv_icmp_ne hx hb dMo_ringArrives_54 rfl (fun h11 => ?_) (fun h11 => ?_)
    · have hwp := hwp.1 h11
      refine lv_iload_n hx hb dMo_ringArrives_84 rfl (lv_at hl 4 rfl) ?_
      refine lv_aload_n hx hb dMo_ringArrives_85 rfl (lv_at hl 1 rfl) ?_
      refine va_get (D := D) (ci := 0) (C := RMo) (T := TMo) (N := 33) hx hb hts hin0 hown hK hP 0 rfl rfl 24 (by decide) k69 (fun _ h9 => h9) rfl dMo_ringArrives_86 ?_
      refine lv_iload_n hx hb dMo_ringArrives_89 rfl (lv_at hl 2 rfl) ?_
      obtain ⟨hi12, hwp⟩ := hwp
      refine va_iald hx hb hK hP 19 0 rfl rfl hi12 dMo_ringArrives_90 ?_
      refine lv_icmp_gt hx hb dMo_ringArrives_91 rfl (fun h13 => ?_) (fun h13 => ?_)
      · have hwp := hwp.1 h13
        exact cut103 σ x1 x2 x3 v8 _ _ _ hwp hP hD hS (lv_sub hl [1, 2, 3, 4, 0] rfl)
      · have hwp := hwp.2 h13
        refine lv_aload_n hx hb dMo_ringArrives_94 rfl (lv_at hl 1 rfl) ?_
        refine va_get (D := D) (ci := 0) (C := RMo) (T := TMo) (N := 33) hx hb hts hin0 hown hK hP 0 rfl rfl 26 (by decide) k75 (fun _ h9 => h9) rfl dMo_ringArrives_95 ?_
        refine lv_iload_n hx hb dMo_ringArrives_98 rfl (lv_at hl 2 rfl) ?_
        obtain ⟨hi14, hwp⟩ := hwp
        refine va_zald hx hb hK hP 21 1 rfl rfl hi14 dMo_ringArrives_99 ?_
        refine lv_if_ne hx hb dMo_ringArrives_100 rfl (fun h15 => ?_) (fun h15 => ?_)
        · have hwp := hwp.1 h15
          exact W.vret hx hb hr (fun t ht hW => ⟨⟨σ, rfl, hwp, uEnd ht hW hP hK hD hS hA⟩, hS.F ht⟩) hS.2.2 dMo_ringArrives_139
        · have hwp := hwp.2 h15
          exact cut103 σ x1 x2 x3 v8 _ _ _ hwp hP hD hS (lv_sub hl [1, 2, 3, 4, 0] rfl)
    · have hwp := hwp.2 h11
      refine lv_aload_n hx hb dMo_ringArrives_57 rfl (lv_at hl 1 rfl) ?_
      refine va_get (D := D) (ci := 0) (C := RMo) (T := TMo) (N := 33) hx hb hts hin0 hown hK hP 0 rfl rfl 26 (by decide) k75 (fun _ h9 => h9) rfl dMo_ringArrives_58 ?_
      refine lv_iload_n hx hb dMo_ringArrives_61 rfl (lv_at hl 2 rfl) ?_
      refine lv_iconst (v := 0) hx hb dMo_ringArrives_62 (by decide) ?_
      obtain ⟨hi16, hwp⟩ := hwp
      refine va_zast hx hb hK hP hD hS 21 1 rfl rfl hi16 dMo_ringArrives_63 (fun H locs hP hD hS => ?_)
      obtain ⟨σ17, eσ17⟩ : ∃ z, z = up2 σ 26 x1.toNatClampNeg (vp_nar .boolean 0) := ⟨_, rfl⟩
      have hwp := hwp σ17 eσ17
      have hP : va_P D clA (mw a tI tZ σ17) H := by rw [eσ17]; exact hP
      have hD : va_D A (mw a tI tZ σ17) := by rw [eσ17]; exact hD
      refine lv_aload_n hx hb dMo_ringArrives_64 rfl (lv_at hl 1 rfl) ?_
      refine va_get (D := D) (ci := 0) (C := RMo) (T := TMo) (N := 33) hx hb hts hin0 hown hK hP 0 rfl rfl 25 (by decide) k72 (fun _ h9 => h9) rfl dMo_ringArrives_65 ?_
      refine lv_iload_n hx hb dMo_ringArrives_68 rfl (lv_at hl 2 rfl) ?_
      refine lv_iload_n hx hb dMo_ringArrives_69 rfl (lv_at hl 4 rfl) ?_
      obtain ⟨hi18, hwp⟩ := hwp
      refine va_iast hx hb hK hP hD hS 20 0 rfl rfl hi18 dMo_ringArrives_70 (fun H locs hP hD hS => ?_)
      obtain ⟨σ19, eσ19⟩ : ∃ z, z = up2 σ17 25 x1.toNatClampNeg x3 := ⟨_, rfl⟩
      have hwp := hwp σ19 eσ19
      have hP : va_P D clA (mw a tI tZ σ19) H := by rw [eσ19]; exact hP
      have hD : va_D A (mw a tI tZ σ19) := by rw [eσ19]; exact hD
      refine lv_aload_n hx hb dMo_ringArrives_71 rfl (lv_at hl 1 rfl) ?_
      refine lv_iload_n hx hb dMo_ringArrives_72 rfl (lv_at hl 2 rfl) ?_
      refine lv_iload hx hb dMo_ringArrives_73 (lv_at hl 0 rfl) ?_
      refine lv_iconst (v := 3) hx hb dMo_ringArrives_75 (by decide) ?_
      refine lv_iconst (v := 1) hx hb dMo_ringArrives_76 (by decide) ?_
      refine lv_iload_n hx hb dMo_ringArrives_77 rfl (lv_at hl 4 rfl) ?_
      obtain ⟨P20, hP20, hwp⟩ := hwp
      refine uCallVv (As := [.int x1, .int v8, .int 3, .int 1, .int x3]) (rest := []) (C := RMo) ⟨hx, hb, hml, hown, hts⟩ (kM_send l D a A tI tZ σ19 x1 v8 3 1 x3 P20 hP20) (cwV 5 hts (gdV wm_858 wm_860 wp_18 wm_13 wm_861) rfl rfl rfl (by decide +kernel) ⟨Nat.le_of_ble_eq_true rfl, Nat.le_of_ble_eq_true rfl⟩) (va_recv (ci := 0) (q0 := 0) hK hP rfl rfl) hP hK hD hA hS rfl hl.1 rfl (Nat.le_of_ble_eq_true rfl) dMo_ringArrives_78 ⟨Nat.le_of_ble_eq_true rfl, Nat.le_of_ble_eq_true rfl⟩ (fun u21 H locs hu21 hP hD hS => ?_)
      have hwp := hwp u21 hu21
      refine lv_goto hx hb dMo_ringArrives_81 rfl ?_
      exact W.vret hx hb hr (fun t ht hW => ⟨⟨u21, rfl, hwp, uEnd ht hW hP hK hD hS hA⟩, hS.F ht⟩) hS.2.2 dMo_ringArrives_139
  · have hwp := hwp.2 h9
    refine lv_iload_n hx hb dMo_ringArrives_12 rfl (lv_at hl 4 rfl) ?_
    refine lv_aload_n hx hb dMo_ringArrives_13 rfl (lv_at hl 1 rfl) ?_
    refine va_get (D := D) (ci := 0) (C := RMo) (T := TMo) (N := 33) hx hb hts hin0 hown hK hP 0 rfl rfl 24 (by decide) k69 (fun _ h9 => h9) rfl dMo_ringArrives_14 ?_
    refine lv_iload_n hx hb dMo_ringArrives_17 rfl (lv_at hl 2 rfl) ?_
    obtain ⟨hi22, hwp⟩ := hwp
    refine va_iald hx hb hK hP 19 0 rfl rfl hi22 dMo_ringArrives_18 ?_
    refine lv_icmp_eq hx hb dMo_ringArrives_19 rfl (fun h23 => ?_) (fun h23 => ?_)
    · have hwp := hwp.1 h23
      exact W.vret hx hb hr (fun t ht hW => ⟨⟨σ, rfl, hwp, uEnd ht hW hP hK hD hS hA⟩, hS.F ht⟩) hS.2.2 dMo_ringArrives_46
    · have hwp := hwp.2 h23
      refine lv_aload_n hx hb dMo_ringArrives_22 rfl (lv_at hl 1 rfl) ?_
      refine va_get (D := D) (ci := 0) (C := RMo) (T := TMo) (N := 33) hx hb hts hin0 hown hK hP 0 rfl rfl 25 (by decide) k72 (fun _ h9 => h9) rfl dMo_ringArrives_23 ?_
      refine lv_iload_n hx hb dMo_ringArrives_26 rfl (lv_at hl 2 rfl) ?_
      refine lv_iload_n hx hb dMo_ringArrives_27 rfl (lv_at hl 4 rfl) ?_
      obtain ⟨hi24, hwp⟩ := hwp
      refine va_iast hx hb hK hP hD hS 20 0 rfl rfl hi24 dMo_ringArrives_28 (fun H locs hP hD hS => ?_)
      obtain ⟨σ25, eσ25⟩ : ∃ z, z = up2 σ 25 x1.toNatClampNeg x3 := ⟨_, rfl⟩
      have hwp := hwp σ25 eσ25
      have hP : va_P D clA (mw a tI tZ σ25) H := by rw [eσ25]; exact hP
      have hD : va_D A (mw a tI tZ σ25) := by rw [eσ25]; exact hD
      refine lv_aload_n hx hb dMo_ringArrives_29 rfl (lv_at hl 1 rfl) ?_
      refine va_get (D := D) (ci := 0) (C := RMo) (T := TMo) (N := 33) hx hb hts hin0 hown hK hP 0 rfl rfl 26 (by decide) k75 (fun _ h9 => h9) rfl dMo_ringArrives_30 ?_
      refine lv_iload_n hx hb dMo_ringArrives_33 rfl (lv_at hl 2 rfl) ?_
      refine lv_iconst (v := 0) hx hb dMo_ringArrives_34 (by decide) ?_
      obtain ⟨hi26, hwp⟩ := hwp
      refine va_zast hx hb hK hP hD hS 21 1 rfl rfl hi26 dMo_ringArrives_35 (fun H locs hP hD hS => ?_)
      obtain ⟨σ27, eσ27⟩ : ∃ z, z = up2 σ25 26 x1.toNatClampNeg (vp_nar .boolean 0) := ⟨_, rfl⟩
      have hwp := hwp σ27 eσ27
      have hP : va_P D clA (mw a tI tZ σ27) H := by rw [eσ27]; exact hP
      have hD : va_D A (mw a tI tZ σ27) := by rw [eσ27]; exact hD
      refine lv_aload_n hx hb dMo_ringArrives_36 rfl (lv_at hl 1 rfl) ?_
      refine lv_iload_n hx hb dMo_ringArrives_37 rfl (lv_at hl 2 rfl) ?_
      refine lv_iload hx hb dMo_ringArrives_38 (lv_at hl 0 rfl) ?_
      refine lv_iconst (v := 3) hx hb dMo_ringArrives_40 (by decide) ?_
      refine lv_iconst (v := 1) hx hb dMo_ringArrives_41 (by decide) ?_
      refine lv_iload_n hx hb dMo_ringArrives_42 rfl (lv_at hl 4 rfl) ?_
      obtain ⟨P28, hP28, hwp⟩ := hwp
      refine uCallVv (As := [.int x1, .int v8, .int 3, .int 1, .int x3]) (rest := []) (C := RMo) ⟨hx, hb, hml, hown, hts⟩ (kM_send l D a A tI tZ σ27 x1 v8 3 1 x3 P28 hP28) (cwV 5 hts (gdV wm_858 wm_860 wp_18 wm_13 wm_861) rfl rfl rfl (by decide +kernel) ⟨Nat.le_of_ble_eq_true rfl, Nat.le_of_ble_eq_true rfl⟩) (va_recv (ci := 0) (q0 := 0) hK hP rfl rfl) hP hK hD hA hS rfl hl.1 rfl (Nat.le_of_ble_eq_true rfl) dMo_ringArrives_43 ⟨Nat.le_of_ble_eq_true rfl, Nat.le_of_ble_eq_true rfl⟩ (fun u29 H locs hu29 hP hD hS => ?_)
      have hwp := hwp u29 hu29
      exact W.vret hx hb hr (fun t ht hW => ⟨⟨u29, rfl, hwp, uEnd ht hW hP hK hD hS hA⟩, hS.F ht⟩) hS.2.2 dMo_ringArrives_46
-- private void workArrives(int, int, int)
def wM_workArrives_61 (R : MS → Prop) (σ : MS) (y1 : Int32) (y2 : Int32) (y3 : Int32) : Prop :=
  (∃ P1 : MS → Prop, wM_settle P1 σ y2 ∧ (∀ (u2 : MS), P1 u2 → R u2))
def wM_workArrives_54 (R : MS → Prop) (σ : MS) (y1 : Int32) (y2 : Int32) (y3 : Int32) : Prop :=
  (vp_in y2 4 ∧ (∀ σ4 : MS, σ4 = up2 σ 29 y2.toNatClampNeg (vp_nar .boolean 1) → wM_workArrives_61 R σ4 y1 y2 y3))
def wM_workArrives_35 (R : MS → Prop) (σ : MS) (y1 : Int32) (y2 : Int32) (y3 : Int32) : Prop :=
  (∃ P5 : MS → Prop, wM_send P5 σ y2 y1 4 1 0 ∧ (∀ (u6 : MS), P5 u6 → wM_workArrives_54 R u6 y1 y2 y3))
def wM_workArrives (R : MS → Prop) (σ : MS) (x1 x2 x3 : Int32) : Prop :=
  (((¬ x3 = 1) → ((((σ 27 0) = x2) → wM_workArrives_35 R σ x1 x2 x3) ∧ ((¬ (σ 27 0) = x2) → (vp_in x2 4 ∧ ((((σ 30 x2.toNatClampNeg) < 0) → (vp_in x2 4 ∧ (∀ σ12 : MS, σ12 = up2 σ 30 x2.toNatClampNeg x1 → wM_workArrives_54 R σ12 x1 x2 x3))) ∧ ((¬ (σ 30 x2.toNatClampNeg) < 0) → wM_workArrives_35 R σ x1 x2 x3)))))) ∧ ((x3 = 1) → (vp_in x2 4 ∧ (vp_in x2 4 ∧ (∀ σ15 : MS, σ15 = up2 σ 31 x2.toNatClampNeg ((σ 31 x2.toNatClampNeg) - 1) → wM_workArrives_61 R σ15 x1 x2 x3)))))
abbrev wsMo_workArrives : List Cond := .code yMo_workArrives cMo_workArrives 4 none :: wg
abbrev rmM_workArrives : Room := { frames := 2, cells := 0, slots := 0, locals := 49 }
set_option maxHeartbeats 4000000 in
set_option maxRecDepth 100000 in
theorem kM_workArrives (l : Launch) (D : va_G) (a : Nat → Nat) (A : Nat → Prop) (tI tZ : ClassId) (σ : MS) (x1 x2 x3 : Int32) (R : MS → Prop) (hwp : wM_workArrives R σ x1 x2 x3) : Met l yMo_workArrives wsMo_workArrives rmM_workArrives (va_Pc [.ref (a 0), .int x1, .int x2, .int x3] (uI D clA (mT tI tZ) A false (mw a tI tZ) σ)) (va_Qv R (uI D clA (mT tI tZ) A false (mw a tI tZ)) A) 0 0 A := by
  refine Met.ofW (cc := cMo_workArrives) (maxL := 4) (ret := none) (by decide) rfl ?_
  intro p e s m args below meth c s₁ B hml hv
  obtain ⟨rfl, hP, hK, hD, hA⟩ := hv
  have hx := B.exec
  have hb := B.bytes
  have hr := B.returns
  have hts := atoms_spec (ws := wsMo_workArrives) B.pre
  have hown : s.vm.findClass RMo = some m.cls := findClass_of_methodNamed B.named
  have hlocks := B.notSynchronized
  have hin0 : ∀ w ∈ u_ws RMo TMo 33, w ∈ wsMo_workArrives := fun w h => List.mem_cons_of_mem _ (inMo w h)
  have k78 := hts _ (List.mem_cons_of_mem _ wm_763)
  have k81 := hts _ (List.mem_cons_of_mem _ wm_765)
  have k84 := hts _ (List.mem_cons_of_mem _ wm_766)
  have k87 := hts _ (List.mem_cons_of_mem _ wm_767)
  have hS : va_S A s.heap s.heap [] := va_S.rf
  have cut61 : ∀ (σ : MS) (y1 : Int32) (y2 : Int32) (y3 : Int32) (H : Heap) (locs : List Loc) (ls : Array Slot), wM_workArrives_61 R σ y1 y2 y3 → va_P D clA (mw a tI tZ σ) H → va_D A (mw a tI tZ σ) → va_S A s.heap H locs → lv_has ls 4 [(0, .ref (a 0)), (1, .int y1), (2, .int y2), (3, .int y3)] → W p l e (headSpec wsMo_workArrives rmM_workArrives).room s m ([.ref (a 0), .int x1, .int x2, .int x3] : List Value).toArray below meth c H locs 0 0 (MQ below (va_Qv R (uI D clA (mT tI tZ) A false (mw a tI tZ)) A) ([.ref (a 0), .int x1, .int x2, .int x3] : List Value).toArray s 0 0 A) (F0 m 61 ls []) := by
    intro σ y1 y2 y3 H locs ls hwp hP hD hS hl
    refine lv_aload_n hx hb dMo_workArrives_61 rfl (lv_at hl 0 rfl) ?_
    refine lv_iload_n hx hb dMo_workArrives_62 rfl (lv_at hl 2 rfl) ?_
    obtain ⟨P1, hP1, hwp⟩ := hwp
    refine uCallVv (As := [.int y2]) (rest := []) (C := RMo) ⟨hx, hb, hml, hown, hts⟩ (kM_settle l D a A tI tZ σ y2 P1 hP1) (cwV 1 hts (gdV wm_894 wm_896 wp_27 wm_13 wm_897) rfl rfl rfl (by decide +kernel) ⟨Nat.le_of_ble_eq_true rfl, Nat.le_of_ble_eq_true rfl⟩) (va_recv (ci := 0) (q0 := 0) hK hP rfl rfl) hP hK hD hA hS rfl hl.1 rfl (Nat.le_of_ble_eq_true rfl) dMo_workArrives_63 ⟨Nat.le_of_ble_eq_true rfl, Nat.le_of_ble_eq_true rfl⟩ (fun u2 H locs hu2 hP hD hS => ?_)
    have hwp := hwp u2 hu2
    exact W.vret hx hb hr (fun t ht hW => ⟨⟨u2, rfl, hwp, uEnd ht hW hP hK hD hS hA⟩, hS.F ht⟩) hS.2.2 dMo_workArrives_66
  have cut54 : ∀ (σ : MS) (y1 : Int32) (y2 : Int32) (y3 : Int32) (H : Heap) (locs : List Loc) (ls : Array Slot), wM_workArrives_54 R σ y1 y2 y3 → va_P D clA (mw a tI tZ σ) H → va_D A (mw a tI tZ σ) → va_S A s.heap H locs → lv_has ls 4 [(0, .ref (a 0)), (1, .int y1), (2, .int y2), (3, .int y3)] → W p l e (headSpec wsMo_workArrives rmM_workArrives).room s m ([.ref (a 0), .int x1, .int x2, .int x3] : List Value).toArray below meth c H locs 0 0 (MQ below (va_Qv R (uI D clA (mT tI tZ) A false (mw a tI tZ)) A) ([.ref (a 0), .int x1, .int x2, .int x3] : List Value).toArray s 0 0 A) (F0 m 54 ls []) := by
    intro σ y1 y2 y3 H locs ls hwp hP hD hS hl
    refine lv_aload_n hx hb dMo_workArrives_54 rfl (lv_at hl 0 rfl) ?_
    refine va_get (D := D) (ci := 0) (C := RMo) (T := TMo) (N := 33) hx hb hts hin0 hown hK hP 0 rfl rfl 29 (by decide) k81 (fun _ h9 => h9) rfl dMo_workArrives_55 ?_
    refine lv_iload_n hx hb dMo_workArrives_58 rfl (lv_at hl 2 rfl) ?_
    refine lv_iconst (v := 1) hx hb dMo_workArrives_59 (by decide) ?_
    obtain ⟨hi3, hwp⟩ := hwp
    refine va_zast hx hb hK hP hD hS 22 1 rfl rfl hi3 dMo_workArrives_60 (fun H locs hP hD hS => ?_)
    obtain ⟨σ4, eσ4⟩ : ∃ z, z = up2 σ 29 y2.toNatClampNeg (vp_nar .boolean 1) := ⟨_, rfl⟩
    have hwp := hwp σ4 eσ4
    have hP : va_P D clA (mw a tI tZ σ4) H := by rw [eσ4]; exact hP
    have hD : va_D A (mw a tI tZ σ4) := by rw [eσ4]; exact hD
    exact cut61 σ4 y1 y2 y3 _ _ _ hwp hP hD hS (lv_sub hl [0, 1, 2, 3] rfl)
  have cut35 : ∀ (σ : MS) (y1 : Int32) (y2 : Int32) (y3 : Int32) (H : Heap) (locs : List Loc) (ls : Array Slot), wM_workArrives_35 R σ y1 y2 y3 → va_P D clA (mw a tI tZ σ) H → va_D A (mw a tI tZ σ) → va_S A s.heap H locs → lv_has ls 4 [(0, .ref (a 0)), (1, .int y1), (2, .int y2), (3, .int y3)] → W p l e (headSpec wsMo_workArrives rmM_workArrives).room s m ([.ref (a 0), .int x1, .int x2, .int x3] : List Value).toArray below meth c H locs 0 0 (MQ below (va_Qv R (uI D clA (mT tI tZ) A false (mw a tI tZ)) A) ([.ref (a 0), .int x1, .int x2, .int x3] : List Value).toArray s 0 0 A) (F0 m 35 ls []) := by
    intro σ y1 y2 y3 H locs ls hwp hP hD hS hl
    refine lv_aload_n hx hb dMo_workArrives_35 rfl (lv_at hl 0 rfl) ?_
    refine lv_iload_n hx hb dMo_workArrives_36 rfl (lv_at hl 2 rfl) ?_
    refine lv_iload_n hx hb dMo_workArrives_37 rfl (lv_at hl 1 rfl) ?_
    refine lv_iconst (v := 4) hx hb dMo_workArrives_38 (by decide) ?_
    refine lv_iconst (v := 1) hx hb dMo_workArrives_39 (by decide) ?_
    refine lv_iconst (v := 0) hx hb dMo_workArrives_40 (by decide) ?_
    obtain ⟨P5, hP5, hwp⟩ := hwp
    refine uCallVv (As := [.int y2, .int y1, .int 4, .int 1, .int 0]) (rest := []) (C := RMo) ⟨hx, hb, hml, hown, hts⟩ (kM_send l D a A tI tZ σ y2 y1 4 1 0 P5 hP5) (cwV 5 hts (gdV wm_858 wm_860 wp_18 wm_13 wm_861) rfl rfl rfl (by decide +kernel) ⟨Nat.le_of_ble_eq_true rfl, Nat.le_of_ble_eq_true rfl⟩) (va_recv (ci := 0) (q0 := 0) hK hP rfl rfl) hP hK hD hA hS rfl hl.1 rfl (Nat.le_of_ble_eq_true rfl) dMo_workArrives_41 ⟨Nat.le_of_ble_eq_true rfl, Nat.le_of_ble_eq_true rfl⟩ (fun u6 H locs hu6 hP hD hS => ?_)
    have hwp := hwp u6 hu6
    refine lv_goto hx hb dMo_workArrives_44 rfl ?_
    exact cut54 u6 y1 y2 y3 _ _ _ hwp hP hD hS (lv_sub hl [0, 1, 2, 3] rfl)
  have hl := lv_entry ([.ref (a 0), .int x1, .int x2, .int x3]) (n := 4) (Nat.le_of_ble_eq_true rfl)
  rw [lg_entry_eq]
  generalize (lg_sl ([.ref (a 0), .int x1, .int x2, .int x3]) ++ List.replicate (4 - (lg_sl ([.ref (a 0), .int x1, .int x2, .int x3])).length) Slot.unset).toArray = ls at hl ⊢
  have hl : lv_has ls 4 [(0, .ref (a 0)), (1, .int x1), (2, .int x2), (3, .int x3)] := hl
  refine lv_iload_n hx hb dMo_workArrives_0 rfl (lv_at hl 3 rfl) ?_
  refine lv_iconst (v := 1) hx hb dMo_workArrives_1 (by decide) ?_
  refine lv_icmp_ne hx hb dMo_workArrives_2 rfl (fun h7 => ?_) (fun h7 => ?_)
  · have hwp := hwp.1 h7
    refine lv_aload_n hx hb dMo_workArrives_18 rfl (lv_at hl 0 rfl) ?_
    refine va_get (D := D) (ci := 0) (C := RMo) (T := TMo) (N := 33) hx hb hts hin0 hown hK hP 0 rfl rfl 27 (by decide) k78 (fun _ h9 => h9) rfl dMo_workArrives_19 ?_
    refine lv_iload_n hx hb dMo_workArrives_22 rfl (lv_at hl 2 rfl) ?_
    refine lv_icmp_eq hx hb dMo_workArrives_23 rfl (fun h8 => ?_) (fun h8 => ?_)
    · have hwp := hwp.1 h8
      exact cut35 σ x1 x2 x3 _ _ _ hwp hP hD hS (lv_sub hl [0, 1, 2, 3] rfl)
    · have hwp := hwp.2 h8
      refine lv_aload_n hx hb dMo_workArrives_26 rfl (lv_at hl 0 rfl) ?_
      refine va_get (D := D) (ci := 0) (C := RMo) (T := TMo) (N := 33) hx hb hts hin0 hown hK hP 0 rfl rfl 30 (by decide) k84 (fun _ h9 => h9) rfl dMo_workArrives_27 ?_
      refine lv_iload_n hx hb dMo_workArrives_30 rfl (lv_at hl 2 rfl) ?_
      obtain ⟨hi9, hwp⟩ := hwp
      refine va_iald hx hb hK hP 23 0 rfl rfl hi9 dMo_workArrives_31 ?_
      refine lv_if_lt hx hb dMo_workArrives_32 rfl (fun h10 => ?_) (fun h10 => ?_)
      · have hwp := hwp.1 h10
        refine lv_aload_n hx hb dMo_workArrives_47 rfl (lv_at hl 0 rfl) ?_
        refine va_get (D := D) (ci := 0) (C := RMo) (T := TMo) (N := 33) hx hb hts hin0 hown hK hP 0 rfl rfl 30 (by decide) k84 (fun _ h9 => h9) rfl dMo_workArrives_48 ?_
        refine lv_iload_n hx hb dMo_workArrives_51 rfl (lv_at hl 2 rfl) ?_
        refine lv_iload_n hx hb dMo_workArrives_52 rfl (lv_at hl 1 rfl) ?_
        obtain ⟨hi11, hwp⟩ := hwp
        refine va_iast hx hb hK hP hD hS 23 0 rfl rfl hi11 dMo_workArrives_53 (fun H locs hP hD hS => ?_)
        obtain ⟨σ12, eσ12⟩ : ∃ z, z = up2 σ 30 x2.toNatClampNeg x1 := ⟨_, rfl⟩
        have hwp := hwp σ12 eσ12
        have hP : va_P D clA (mw a tI tZ σ12) H := by rw [eσ12]; exact hP
        have hD : va_D A (mw a tI tZ σ12) := by rw [eσ12]; exact hD
        exact cut54 σ12 x1 x2 x3 _ _ _ hwp hP hD hS (lv_sub hl [0, 1, 2, 3] rfl)
      · have hwp := hwp.2 h10
        exact cut35 σ x1 x2 x3 _ _ _ hwp hP hD hS (lv_sub hl [0, 1, 2, 3] rfl)
  · have hwp := hwp.2 h7
    refine lv_aload_n hx hb dMo_workArrives_5 rfl (lv_at hl 0 rfl) ?_
    refine va_get (D := D) (ci := 0) (C := RMo) (T := TMo) (N := 33) hx hb hts hin0 hown hK hP 0 rfl rfl 31 (by decide) k87 (fun _ h9 => h9) rfl dMo_workArrives_6 ?_
    refine lv_iload_n hx hb dMo_workArrives_9 rfl (lv_at hl 2 rfl) ?_
    refine lv_dup2_11 hx hb dMo_workArrives_10 rfl rfl ?_
    obtain ⟨hi13, hwp⟩ := hwp
    refine va_iald hx hb hK hP 24 0 rfl rfl hi13 dMo_workArrives_11 ?_
    refine lv_iconst (v := 1) hx hb dMo_workArrives_12 (by decide) ?_
    refine lv_isub hx hb dMo_workArrives_13 ?_
    obtain ⟨hi14, hwp⟩ := hwp
    refine va_iast hx hb hK hP hD hS 24 0 rfl rfl hi14 dMo_workArrives_14 (fun H locs hP hD hS => ?_)
    obtain ⟨σ15, eσ15⟩ : ∃ z, z = up2 σ 31 x2.toNatClampNeg ((σ 31 x2.toNatClampNeg) - 1) := ⟨_, rfl⟩
    have hwp := hwp σ15 eσ15
    have hP : va_P D clA (mw a tI tZ σ15) H := by rw [eσ15]; exact hP
    have hD : va_D A (mw a tI tZ σ15) := by rw [eσ15]; exact hD
    refine lv_goto hx hb dMo_workArrives_15 rfl ?_
    exact cut61 σ15 x1 x2 x3 _ _ _ hwp hP hD hS (lv_sub hl [0, 1, 2, 3] rfl)
-- public void want(int, int)
def wM_want_62 (R : MS → Prop) (σ : MS) (y1 : Int32) (y2 : Int32) : Prop :=
  (vp_in ((4 * y1) + y2) 12 ∧ (∀ σ2 : MS, σ2 = up2 σ 8 ((4 * y1) + y2).toNatClampNeg 1 → (((¬ y1 = 0) → (((¬ y1 = 1) → (∃ P5 : MS → Prop, wM_enqueue P5 σ2 y2 y2 ∧ (∀ (u6 : MS), P5 u6 → (∃ P7 : MS → Prop, wM_goOn P7 u6 y2 ∧ (∀ (u8 : MS), P7 u8 → R u8))))) ∧ ((y1 = 1) → (vp_in (5 * y2) 16 ∧ (vp_in (5 * y2) 16 ∧ (∀ σ11 : MS, σ11 = up2 σ2 15 (5 * y2).toNatClampNeg ((σ2 15 (5 * y2).toNatClampNeg) + 1) → (vp_in (5 * y2) 16 ∧ (∃ P13 : MS → Prop, wM_sendAll P13 σ11 y2 1 0 (σ11 15 (5 * y2).toNatClampNeg) ∧ (∀ (u14 : MS), P13 u14 → R u14))))))))) ∧ ((y1 = 0) → (vp_in y2 4 ∧ (vp_in y2 4 ∧ (∀ σ17 : MS, σ17 = up2 σ2 11 y2.toNatClampNeg ((σ2 11 y2.toNatClampNeg) + 1) → (vp_in y2 4 ∧ (vp_in y2 4 ∧ (∀ σ20 : MS, σ20 = up2 σ17 12 y2.toNatClampNeg (σ17 11 y2.toNatClampNeg) → (vp_in y2 4 ∧ (∀ σ22 : MS, σ22 = up2 σ20 13 y2.toNatClampNeg 0 → (vp_in y2 4 ∧ (∃ P24 : MS → Prop, wM_sendAll P24 σ22 y2 0 0 (σ22 12 y2.toNatClampNeg) ∧ (∀ (u25 : MS), P24 u25 → R u25)))))))))))))))
def wM_want_31 (R : MS → Prop) (σ : MS) (y1 : Int32) (y2 : Int32) (z1 : Int32) : Prop :=
  (∀ σ26 : MS, σ26 = up2 σ 32 0 z1 → ((((σ26 32 0) = 0) → (((¬ y1 = 1) → wM_want_62 R σ26 y1 y2) ∧ ((y1 = 1) → (((¬ (σ26 17 0) = y2) → wM_want_62 R σ26 y1 y2) ∧ (((σ26 17 0) = y2) → (∃ P30 : MS → Prop, wM_comeIn P30 σ26 1 y2 ∧ (∀ (u31 : MS), P30 u31 → R u31))))))) ∧ ((¬ (σ26 32 0) = 0) → R σ26)))
def wM_want (R : MS → Prop) (σ : MS) (x1 x2 : Int32) : Prop :=
  (∃ P32 : Int32 → MS → Prop, wM_isLock P32 σ x1 x2 ∧ (∀ (r34 : Int32) (u33 : MS), P32 r34 u33 → (((¬ r34 = 0) → (vp_in ((4 * x1) + x2) 12 ∧ ((((u33 8 ((4 * x1) + x2).toNatClampNeg) = 0) → wM_want_31 R u33 x1 x2 0) ∧ ((¬ (u33 8 ((4 * x1) + x2).toNatClampNeg) = 0) → wM_want_31 R u33 x1 x2 2)))) ∧ ((r34 = 0) → wM_want_31 R u33 x1 x2 1))))
abbrev wsMo_want : List Cond := .code yMo_want cMo_want 3 none :: wg
abbrev rmM_want : Room := { frames := 2, cells := 0, slots := 0, locals := 52 }
set_option maxHeartbeats 4000000 in
set_option maxRecDepth 100000 in
theorem kM_want (l : Launch) (D : va_G) (a : Nat → Nat) (A : Nat → Prop) (tI tZ : ClassId) (σ : MS) (x1 x2 : Int32) (R : MS → Prop) (hwp : wM_want R σ x1 x2) : Met l yMo_want wsMo_want rmM_want (va_Pc [.ref (a 0), .int x1, .int x2] (uI D clA (mT tI tZ) A false (mw a tI tZ) σ)) (va_Qv R (uI D clA (mT tI tZ) A false (mw a tI tZ)) A) 0 0 A := by
  refine Met.ofW (cc := cMo_want) (maxL := 3) (ret := none) (by decide) rfl ?_
  intro p e s m args below meth c s₁ B hml hv
  obtain ⟨rfl, hP, hK, hD, hA⟩ := hv
  have hx := B.exec
  have hb := B.bytes
  have hr := B.returns
  have hts := atoms_spec (ws := wsMo_want) B.pre
  have hown : s.vm.findClass RMo = some m.cls := findClass_of_methodNamed B.named
  have hlocks := B.notSynchronized
  have hin0 : ∀ w ∈ u_ws RMo TMo 33, w ∈ wsMo_want := fun w h => List.mem_cons_of_mem _ (inMo w h)
  have k134 := hts _ (List.mem_cons_of_mem _ wm_753)
  have k32 := hts _ (List.mem_cons_of_mem _ wm_744)
  have k35 := hts _ (List.mem_cons_of_mem _ wm_747)
  have k38 := hts _ (List.mem_cons_of_mem _ wm_748)
  have k41 := hts _ (List.mem_cons_of_mem _ wm_749)
  have k47 := hts _ (List.mem_cons_of_mem _ wm_751)
  have k90 := hts _ (List.mem_cons_of_mem _ wm_768)
  have hS : va_S A s.heap s.heap [] := va_S.rf
  have cut62 : ∀ (σ : MS) (y1 : Int32) (y2 : Int32) (H : Heap) (locs : List Loc) (ls : Array Slot), wM_want_62 R σ y1 y2 → va_P D clA (mw a tI tZ σ) H → va_D A (mw a tI tZ σ) → va_S A s.heap H locs → lv_has ls 3 [(0, .ref (a 0)), (1, .int y1), (2, .int y2)] → W p l e (headSpec wsMo_want rmM_want).room s m ([.ref (a 0), .int x1, .int x2] : List Value).toArray below meth c H locs 0 0 (MQ below (va_Qv R (uI D clA (mT tI tZ) A false (mw a tI tZ)) A) ([.ref (a 0), .int x1, .int x2] : List Value).toArray s 0 0 A) (F0 m 62 ls []) := by
    intro σ y1 y2 H locs ls hwp hP hD hS hl
    refine lv_aload_n hx hb dMo_want_62 rfl (lv_at hl 0 rfl) ?_
    refine va_get (D := D) (ci := 0) (C := RMo) (T := TMo) (N := 33) hx hb hts hin0 hown hK hP 0 rfl rfl 8 (by decide) k32 (fun _ h9 => h9) rfl dMo_want_63 ?_
    refine lv_iconst (v := 4) hx hb dMo_want_66 (by decide) ?_
    refine lv_iload_n hx hb dMo_want_67 rfl (lv_at hl 1 rfl) ?_
    refine lv_imul hx hb dMo_want_68 ?_
    refine lv_iload_n hx hb dMo_want_69 rfl (lv_at hl 2 rfl) ?_
    refine lv_iadd hx hb dMo_want_70 ?_
    refine lv_iconst (v := 1) hx hb dMo_want_71 (by decide) ?_
    obtain ⟨hi1, hwp⟩ := hwp
    refine va_iast hx hb hK hP hD hS 7 0 rfl rfl hi1 dMo_want_72 (fun H locs hP hD hS => ?_)
    obtain ⟨σ2, eσ2⟩ : ∃ z, z = up2 σ 8 ((4 * y1) + y2).toNatClampNeg 1 := ⟨_, rfl⟩
    have hwp := hwp σ2 eσ2
    have hP : va_P D clA (mw a tI tZ σ2) H := by rw [eσ2]; exact hP
    have hD : va_D A (mw a tI tZ σ2) := by rw [eσ2]; exact hD
    refine lv_iload_n hx hb dMo_want_73 rfl (lv_at hl 1 rfl) ?_
    refine lv_if_ne hx hb dMo_want_74 rfl (fun h3 => ?_) (fun h3 => ?_)
    · have hwp := hwp.1 h3
      refine lv_iload_n hx hb dMo_want_122 rfl (lv_at hl 1 rfl) ?_
      refine lv_iconst (v := 1) hx hb dMo_want_123 (by decide) ?_
      refine lv_icmp_ne hx hb dMo_want_124 rfl (fun h4 => ?_) (fun h4 => ?_)
      · have hwp := hwp.1 h4
        refine lv_aload_n hx hb dMo_want_157 rfl (lv_at hl 0 rfl) ?_
        refine lv_iload_n hx hb dMo_want_158 rfl (lv_at hl 2 rfl) ?_
        refine lv_iload_n hx hb dMo_want_159 rfl (lv_at hl 2 rfl) ?_
        obtain ⟨P5, hP5, hwp⟩ := hwp
        refine uCallVv (As := [.int y2, .int y2]) (rest := []) (C := RMo) ⟨hx, hb, hml, hown, hts⟩ (kM_enqueue l D a A tI tZ σ2 y2 y2 P5 hP5) (cwV 2 hts (gdV wm_874 wm_876 wp_22 wm_13 wm_877) rfl rfl rfl (by decide +kernel) ⟨Nat.le_of_ble_eq_true rfl, Nat.le_of_ble_eq_true rfl⟩) (va_recv (ci := 0) (q0 := 0) hK hP rfl rfl) hP hK hD hA hS rfl hl.1 rfl (Nat.le_of_ble_eq_true rfl) dMo_want_160 ⟨Nat.le_of_ble_eq_true rfl, Nat.le_of_ble_eq_true rfl⟩ (fun u6 H locs hu6 hP hD hS => ?_)
        have hwp := hwp u6 hu6
        refine lv_aload_n hx hb dMo_want_163 rfl (lv_at hl 0 rfl) ?_
        refine lv_iload_n hx hb dMo_want_164 rfl (lv_at hl 2 rfl) ?_
        obtain ⟨P7, hP7, hwp⟩ := hwp
        refine uCallVv (As := [.int y2]) (rest := []) (C := RMo) ⟨hx, hb, hml, hown, hts⟩ (kM_goOn l D a A tI tZ u6 y2 P7 hP7) (cwV 1 hts (gdV wm_878 wm_880 wp_23 wm_13 wm_881) rfl rfl rfl (by decide +kernel) ⟨Nat.le_of_ble_eq_true rfl, Nat.le_of_ble_eq_true rfl⟩) (va_recv (ci := 0) (q0 := 0) hK hP rfl rfl) hP hK hD hA hS rfl hl.1 rfl (Nat.le_of_ble_eq_true rfl) dMo_want_165 ⟨Nat.le_of_ble_eq_true rfl, Nat.le_of_ble_eq_true rfl⟩ (fun u8 H locs hu8 hP hD hS => ?_)
        have hwp := hwp u8 hu8
        exact W.vret hx hb hr (fun t ht hW => ⟨⟨u8, rfl, hwp, uEnd ht hW hP hK hD hS hA⟩, hS.F ht⟩) hS.2.2 dMo_want_168
      · have hwp := hwp.2 h4
        refine lv_aload_n hx hb dMo_want_127 rfl (lv_at hl 0 rfl) ?_
        refine va_get (D := D) (ci := 0) (C := RMo) (T := TMo) (N := 33) hx hb hts hin0 hown hK hP 0 rfl rfl 15 (by decide) k47 (fun _ h9 => h9) rfl dMo_want_128 ?_
        refine lv_iconst (v := 5) hx hb dMo_want_131 (by decide) ?_
        refine lv_iload_n hx hb dMo_want_132 rfl (lv_at hl 2 rfl) ?_
        refine lv_imul hx hb dMo_want_133 ?_
        refine lv_dup2_11 hx hb dMo_want_134 rfl rfl ?_
        obtain ⟨hi9, hwp⟩ := hwp
        refine va_iald hx hb hK hP 12 0 rfl rfl hi9 dMo_want_135 ?_
        refine lv_iconst (v := 1) hx hb dMo_want_136 (by decide) ?_
        refine lv_iadd hx hb dMo_want_137 ?_
        obtain ⟨hi10, hwp⟩ := hwp
        refine va_iast hx hb hK hP hD hS 12 0 rfl rfl hi10 dMo_want_138 (fun H locs hP hD hS => ?_)
        obtain ⟨σ11, eσ11⟩ : ∃ z, z = up2 σ2 15 (5 * y2).toNatClampNeg ((σ2 15 (5 * y2).toNatClampNeg) + 1) := ⟨_, rfl⟩
        have hwp := hwp σ11 eσ11
        have hP : va_P D clA (mw a tI tZ σ11) H := by rw [eσ11]; exact hP
        have hD : va_D A (mw a tI tZ σ11) := by rw [eσ11]; exact hD
        refine lv_aload_n hx hb dMo_want_139 rfl (lv_at hl 0 rfl) ?_
        refine lv_iload_n hx hb dMo_want_140 rfl (lv_at hl 2 rfl) ?_
        refine lv_iconst (v := 1) hx hb dMo_want_141 (by decide) ?_
        refine lv_iconst (v := 0) hx hb dMo_want_142 (by decide) ?_
        refine lv_aload_n hx hb dMo_want_143 rfl (lv_at hl 0 rfl) ?_
        refine va_get (D := D) (ci := 0) (C := RMo) (T := TMo) (N := 33) hx hb hts hin0 hown hK hP 0 rfl rfl 15 (by decide) k47 (fun _ h9 => h9) rfl dMo_want_144 ?_
        refine lv_iconst (v := 5) hx hb dMo_want_147 (by decide) ?_
        refine lv_iload_n hx hb dMo_want_148 rfl (lv_at hl 2 rfl) ?_
        refine lv_imul hx hb dMo_want_149 ?_
        obtain ⟨hi12, hwp⟩ := hwp
        refine va_iald hx hb hK hP 12 0 rfl rfl hi12 dMo_want_150 ?_
        obtain ⟨P13, hP13, hwp⟩ := hwp
        refine uCallVv (As := [.int y2, .int 1, .int 0, .int (σ11 15 (5 * y2).toNatClampNeg)]) (rest := []) (C := RMo) ⟨hx, hb, hml, hown, hts⟩ (kM_sendAll l D a A tI tZ σ11 y2 1 0 (σ11 15 (5 * y2).toNatClampNeg) P13 hP13) (cwV 4 hts (gdV wm_913 wm_915 wp_28 wm_13 wm_916) rfl rfl rfl (by decide +kernel) ⟨Nat.le_of_ble_eq_true rfl, Nat.le_of_ble_eq_true rfl⟩) (va_recv (ci := 0) (q0 := 0) hK hP rfl rfl) hP hK hD hA hS rfl hl.1 rfl (Nat.le_of_ble_eq_true rfl) dMo_want_151 ⟨Nat.le_of_ble_eq_true rfl, Nat.le_of_ble_eq_true rfl⟩ (fun u14 H locs hu14 hP hD hS => ?_)
        have hwp := hwp u14 hu14
        refine lv_goto hx hb dMo_want_154 rfl ?_
        exact W.vret hx hb hr (fun t ht hW => ⟨⟨u14, rfl, hwp, uEnd ht hW hP hK hD hS hA⟩, hS.F ht⟩) hS.2.2 dMo_want_168
    · have hwp := hwp.2 h3
      refine lv_aload_n hx hb dMo_want_77 rfl (lv_at hl 0 rfl) ?_
      refine va_get (D := D) (ci := 0) (C := RMo) (T := TMo) (N := 33) hx hb hts hin0 hown hK hP 0 rfl rfl 11 (by decide) k35 (fun _ h9 => h9) rfl dMo_want_78 ?_
      refine lv_iload_n hx hb dMo_want_81 rfl (lv_at hl 2 rfl) ?_
      refine lv_dup2_11 hx hb dMo_want_82 rfl rfl ?_
      obtain ⟨hi15, hwp⟩ := hwp
      refine va_iald hx hb hK hP 8 0 rfl rfl hi15 dMo_want_83 ?_
      refine lv_iconst (v := 1) hx hb dMo_want_84 (by decide) ?_
      refine lv_iadd hx hb dMo_want_85 ?_
      obtain ⟨hi16, hwp⟩ := hwp
      refine va_iast hx hb hK hP hD hS 8 0 rfl rfl hi16 dMo_want_86 (fun H locs hP hD hS => ?_)
      obtain ⟨σ17, eσ17⟩ : ∃ z, z = up2 σ2 11 y2.toNatClampNeg ((σ2 11 y2.toNatClampNeg) + 1) := ⟨_, rfl⟩
      have hwp := hwp σ17 eσ17
      have hP : va_P D clA (mw a tI tZ σ17) H := by rw [eσ17]; exact hP
      have hD : va_D A (mw a tI tZ σ17) := by rw [eσ17]; exact hD
      refine lv_aload_n hx hb dMo_want_87 rfl (lv_at hl 0 rfl) ?_
      refine va_get (D := D) (ci := 0) (C := RMo) (T := TMo) (N := 33) hx hb hts hin0 hown hK hP 0 rfl rfl 12 (by decide) k38 (fun _ h9 => h9) rfl dMo_want_88 ?_
      refine lv_iload_n hx hb dMo_want_91 rfl (lv_at hl 2 rfl) ?_
      refine lv_aload_n hx hb dMo_want_92 rfl (lv_at hl 0 rfl) ?_
      refine va_get (D := D) (ci := 0) (C := RMo) (T := TMo) (N := 33) hx hb hts hin0 hown hK hP 0 rfl rfl 11 (by decide) k35 (fun _ h9 => h9) rfl dMo_want_93 ?_
      refine lv_iload_n hx hb dMo_want_96 rfl (lv_at hl 2 rfl) ?_
      obtain ⟨hi18, hwp⟩ := hwp
      refine va_iald hx hb hK hP 8 0 rfl rfl hi18 dMo_want_97 ?_
      obtain ⟨hi19, hwp⟩ := hwp
      refine va_iast hx hb hK hP hD hS 9 0 rfl rfl hi19 dMo_want_98 (fun H locs hP hD hS => ?_)
      obtain ⟨σ20, eσ20⟩ : ∃ z, z = up2 σ17 12 y2.toNatClampNeg (σ17 11 y2.toNatClampNeg) := ⟨_, rfl⟩
      have hwp := hwp σ20 eσ20
      have hP : va_P D clA (mw a tI tZ σ20) H := by rw [eσ20]; exact hP
      have hD : va_D A (mw a tI tZ σ20) := by rw [eσ20]; exact hD
      refine lv_aload_n hx hb dMo_want_99 rfl (lv_at hl 0 rfl) ?_
      refine va_get (D := D) (ci := 0) (C := RMo) (T := TMo) (N := 33) hx hb hts hin0 hown hK hP 0 rfl rfl 13 (by decide) k41 (fun _ h9 => h9) rfl dMo_want_100 ?_
      refine lv_iload_n hx hb dMo_want_103 rfl (lv_at hl 2 rfl) ?_
      refine lv_iconst (v := 0) hx hb dMo_want_104 (by decide) ?_
      obtain ⟨hi21, hwp⟩ := hwp
      refine va_iast hx hb hK hP hD hS 10 0 rfl rfl hi21 dMo_want_105 (fun H locs hP hD hS => ?_)
      obtain ⟨σ22, eσ22⟩ : ∃ z, z = up2 σ20 13 y2.toNatClampNeg 0 := ⟨_, rfl⟩
      have hwp := hwp σ22 eσ22
      have hP : va_P D clA (mw a tI tZ σ22) H := by rw [eσ22]; exact hP
      have hD : va_D A (mw a tI tZ σ22) := by rw [eσ22]; exact hD
      refine lv_aload_n hx hb dMo_want_106 rfl (lv_at hl 0 rfl) ?_
      refine lv_iload_n hx hb dMo_want_107 rfl (lv_at hl 2 rfl) ?_
      refine lv_iconst (v := 0) hx hb dMo_want_108 (by decide) ?_
      refine lv_iconst (v := 0) hx hb dMo_want_109 (by decide) ?_
      refine lv_aload_n hx hb dMo_want_110 rfl (lv_at hl 0 rfl) ?_
      refine va_get (D := D) (ci := 0) (C := RMo) (T := TMo) (N := 33) hx hb hts hin0 hown hK hP 0 rfl rfl 12 (by decide) k38 (fun _ h9 => h9) rfl dMo_want_111 ?_
      refine lv_iload_n hx hb dMo_want_114 rfl (lv_at hl 2 rfl) ?_
      obtain ⟨hi23, hwp⟩ := hwp
      refine va_iald hx hb hK hP 9 0 rfl rfl hi23 dMo_want_115 ?_
      obtain ⟨P24, hP24, hwp⟩ := hwp
      refine uCallVv (As := [.int y2, .int 0, .int 0, .int (σ22 12 y2.toNatClampNeg)]) (rest := []) (C := RMo) ⟨hx, hb, hml, hown, hts⟩ (kM_sendAll l D a A tI tZ σ22 y2 0 0 (σ22 12 y2.toNatClampNeg) P24 hP24) (cwV 4 hts (gdV wm_913 wm_915 wp_28 wm_13 wm_916) rfl rfl rfl (by decide +kernel) ⟨Nat.le_of_ble_eq_true rfl, Nat.le_of_ble_eq_true rfl⟩) (va_recv (ci := 0) (q0 := 0) hK hP rfl rfl) hP hK hD hA hS rfl hl.1 rfl (Nat.le_of_ble_eq_true rfl) dMo_want_116 ⟨Nat.le_of_ble_eq_true rfl, Nat.le_of_ble_eq_true rfl⟩ (fun u25 H locs hu25 hP hD hS => ?_)
      have hwp := hwp u25 hu25
      refine lv_goto hx hb dMo_want_119 rfl ?_
      exact W.vret hx hb hr (fun t ht hW => ⟨⟨u25, rfl, hwp, uEnd ht hW hP hK hD hS hA⟩, hS.F ht⟩) hS.2.2 dMo_want_168
  have cut31 : ∀ (σ : MS) (y1 : Int32) (y2 : Int32) (z1 : Int32) (H : Heap) (locs : List Loc) (ls : Array Slot), wM_want_31 R σ y1 y2 z1 → va_P D clA (mw a tI tZ σ) H → va_D A (mw a tI tZ σ) → va_S A s.heap H locs → lv_has ls 3 [(0, .ref (a 0)), (1, .int y1), (2, .int y2)] → W p l e (headSpec wsMo_want rmM_want).room s m ([.ref (a 0), .int x1, .int x2] : List Value).toArray below meth c H locs 0 0 (MQ below (va_Qv R (uI D clA (mT tI tZ) A false (mw a tI tZ)) A) ([.ref (a 0), .int x1, .int x2] : List Value).toArray s 0 0 A) (F0 m 31 ls [.int z1, .ref (a 0)]) := by
    intro σ y1 y2 z1 H locs ls hwp hP hD hS hl
    refine va_put (ty := .int) (D := D) (ci := 0) (C := RMo) (T := TMo) (N := 33) hx hb hts hin0 tyMo tyMo_ok nmMo hown hK hP hD hS 0 rfl rfl 32 (by decide) k90 (fun _ h9 => h9) rfl (by decide +kernel) rfl rfl (Nat.le_of_ble_eq_true rfl) dMo_want_31 (fun H locs hP hD hS => ?_)
    obtain ⟨σ26, eσ26⟩ : ∃ z, z = up2 σ 32 0 z1 := ⟨_, rfl⟩
    have hwp := hwp σ26 eσ26
    have hP : va_P D clA (mw a tI tZ σ26) H := by rw [eσ26]; exact hP
    have hD : va_D A (mw a tI tZ σ26) := by rw [eσ26]; exact hD
    refine lv_aload_n hx hb dMo_want_34 rfl (lv_at hl 0 rfl) ?_
    refine va_get (D := D) (ci := 0) (C := RMo) (T := TMo) (N := 33) hx hb hts hin0 hown hK hP 0 rfl rfl 32 (by decide) k90 (fun _ h9 => h9) rfl dMo_want_35 ?_
    refine lv_if_eq hx hb dMo_want_38 rfl (fun h27 => ?_) (fun h27 => ?_)
    · have hwp := hwp.1 h27
      refine lv_iload_n hx hb dMo_want_42 rfl (lv_at hl 1 rfl) ?_
      refine lv_iconst (v := 1) hx hb dMo_want_43 (by decide) ?_
      refine lv_icmp_ne hx hb dMo_want_44 rfl (fun h28 => ?_) (fun h28 => ?_)
      · have hwp := hwp.1 h28
        exact cut62 σ26 y1 y2 _ _ _ hwp hP hD hS (lv_sub hl [0, 1, 2] rfl)
      · have hwp := hwp.2 h28
        refine lv_aload_n hx hb dMo_want_47 rfl (lv_at hl 0 rfl) ?_
        refine va_get (D := D) (ci := 0) (C := RMo) (T := TMo) (N := 33) hx hb hts hin0 hown hK hP 0 rfl rfl 17 (by decide) k134 (fun _ h9 => h9) rfl dMo_want_48 ?_
        refine lv_iload_n hx hb dMo_want_51 rfl (lv_at hl 2 rfl) ?_
        refine lv_icmp_ne hx hb dMo_want_52 rfl (fun h29 => ?_) (fun h29 => ?_)
        · have hwp := hwp.1 h29
          exact cut62 σ26 y1 y2 _ _ _ hwp hP hD hS (lv_sub hl [0, 1, 2] rfl)
        · have hwp := hwp.2 h29
          refine lv_aload_n hx hb dMo_want_55 rfl (lv_at hl 0 rfl) ?_
          refine lv_iconst (v := 1) hx hb dMo_want_56 (by decide) ?_
          refine lv_iload_n hx hb dMo_want_57 rfl (lv_at hl 2 rfl) ?_
          obtain ⟨P30, hP30, hwp⟩ := hwp
          refine uCallVv (As := [.int 1, .int y2]) (rest := []) (C := RMo) ⟨hx, hb, hml, hown, hts⟩ (kM_comeIn l D a A tI tZ σ26 1 y2 P30 hP30) (cwV 2 hts (gdV wm_854 wm_856 wp_17 wm_13 wm_857) rfl rfl rfl (by decide +kernel) ⟨Nat.le_of_ble_eq_true rfl, Nat.le_of_ble_eq_true rfl⟩) (va_recv (ci := 0) (q0 := 0) hK hP rfl rfl) hP hK hD hA hS rfl hl.1 rfl (Nat.le_of_ble_eq_true rfl) dMo_want_58 ⟨Nat.le_of_ble_eq_true rfl, Nat.le_of_ble_eq_true rfl⟩ (fun u31 H locs hu31 hP hD hS => ?_)
          have hwp := hwp u31 hu31
          exact W.vret hx hb hr (fun t ht hW => ⟨⟨u31, rfl, hwp, uEnd ht hW hP hK hD hS hA⟩, hS.F ht⟩) hS.2.2 dMo_want_61
    · have hwp := hwp.2 h27
      exact W.vret hx hb hr (fun t ht hW => ⟨⟨σ26, rfl, hwp, uEnd ht hW hP hK hD hS hA⟩, hS.F ht⟩) hS.2.2 dMo_want_41
  have hl := lv_entry ([.ref (a 0), .int x1, .int x2]) (n := 3) (Nat.le_of_ble_eq_true rfl)
  rw [lg_entry_eq]
  generalize (lg_sl ([.ref (a 0), .int x1, .int x2]) ++ List.replicate (3 - (lg_sl ([.ref (a 0), .int x1, .int x2])).length) Slot.unset).toArray = ls at hl ⊢
  have hl : lv_has ls 3 [(0, .ref (a 0)), (1, .int x1), (2, .int x2)] := hl
  refine lv_aload_n hx hb dMo_want_0 rfl (lv_at hl 0 rfl) ?_
  refine lv_iload_n hx hb dMo_want_1 rfl (lv_at hl 1 rfl) ?_
  refine lv_iload_n hx hb dMo_want_2 rfl (lv_at hl 2 rfl) ?_
  obtain ⟨P32, hP32, hwp⟩ := hwp
  refine uCallSi (As := [.int x1, .int x2]) (rest := [.ref (a 0)]) ⟨hx, hb, hml, hown, hts⟩ (kM_isLock l D a A tI tZ σ x1 x2 P32 hP32) (cwS 2 hts (gdS wm_910 wm_911 wm_13 wm_912) rfl rfl rfl (by decide +kernel) ⟨Nat.le_of_ble_eq_true rfl, Nat.le_of_ble_eq_true rfl⟩) hP hK hD hA hS rfl hl.1 rfl (Nat.le_of_ble_eq_true rfl) dMo_want_3 ⟨Nat.le_of_ble_eq_true rfl, Nat.le_of_ble_eq_true rfl⟩ (fun r34 u33 H locs hu33 hP hD hS => ?_)
  have hwp := hwp r34 u33 hu33
  refine lv_if_ne hx hb dMo_want_6 rfl (fun h35 => ?_) (fun h35 => ?_)
  · have hwp := hwp.1 h35
    refine lv_aload_n hx hb dMo_want_13 rfl (lv_at hl 0 rfl) ?_
    refine va_get (D := D) (ci := 0) (C := RMo) (T := TMo) (N := 33) hx hb hts hin0 hown hK hP 0 rfl rfl 8 (by decide) k32 (fun _ h9 => h9) rfl dMo_want_14 ?_
    refine lv_iconst (v := 4) hx hb dMo_want_17 (by decide) ?_
    refine lv_iload_n hx hb dMo_want_18 rfl (lv_at hl 1 rfl) ?_
    refine lv_imul hx hb dMo_want_19 ?_
    refine lv_iload_n hx hb dMo_want_20 rfl (lv_at hl 2 rfl) ?_
    refine lv_iadd hx hb dMo_want_21 ?_
    obtain ⟨hi36, hwp⟩ := hwp
    refine va_iald hx hb hK hP 7 0 rfl rfl hi36 dMo_want_22 ?_
    refine lv_if_eq hx hb dMo_want_23 rfl (fun h37 => ?_) (fun h37 => ?_)
    · have hwp := hwp.1 h37
      refine lv_iconst (v := 0) hx hb dMo_want_30 (by decide) ?_
      exact cut31 u33 x1 x2 0 _ _ _ hwp hP hD hS (lv_sub hl [0, 1, 2] rfl)
    · have hwp := hwp.2 h37
      refine lv_iconst (v := 2) hx hb dMo_want_26 (by decide) ?_
      refine lv_goto hx hb dMo_want_27 rfl ?_
      exact cut31 u33 x1 x2 2 _ _ _ hwp hP hD hS (lv_sub hl [0, 1, 2] rfl)
  · have hwp := hwp.2 h35
    refine lv_iconst (v := 1) hx hb dMo_want_9 (by decide) ?_
    refine lv_goto hx hb dMo_want_10 rfl ?_
    exact cut31 u33 x1 x2 1 _ _ _ hwp hP hD hS (lv_sub hl [0, 1, 2] rfl)
-- public void leave(int, int)
def wM_leave_101 (K75 : MS → Int32 → Int32 → Int32 → Int32 → Prop) (R : MS → Prop) (σ : MS) (y1 : Int32) (y2 : Int32) (y3 : Int32) (y4 : Int32) : Prop :=
  K75 σ y1 y2 y3 (y4 + 1)
def wM_leave_75_step (K75 : MS → Int32 → Int32 → Int32 → Int32 → Prop) (R : MS → Prop) (σ : MS) (y1 : Int32) (y2 : Int32) (y3 : Int32) (y4 : Int32) : Prop :=
  (((4 ≤ y4) → R σ) ∧ ((¬ 4 ≤ y4) → (((¬ ((y3 >>> (y4 &&& 31)) &&& 1) = 1) → wM_leave_101 K75 R σ y1 y2 y3 y4) ∧ ((((y3 >>> (y4 &&& 31)) &&& 1) = 1) → (∃ P3 : MS → Prop, wM_send P3 σ y2 y4 0 1 0 ∧ (∀ (u4 : MS), P3 u4 → wM_leave_101 K75 R u4 y1 y2 y3 y4))))))
def wM_leave_75 (R : MS → Prop) : Nat → MS → Int32 → Int32 → Int32 → Int32 → Prop
  | 0 => fun _ _ _ _ _ => False
  | k + 1 => fun σ y1 y2 y3 y4 => wM_leave_75_step  (wM_leave_75  R k) R σ y1 y2 y3 y4
def wM_leave_32 (R : MS → Prop) (σ : MS) (y1 : Int32) (y2 : Int32) (z1 : Int32) : Prop :=
  (∀ σ5 : MS, σ5 = up2 σ 32 0 z1 → ((((σ5 32 0) = 0) → (vp_in ((4 * y1) + y2) 12 ∧ (∀ σ8 : MS, σ8 = up2 σ5 8 ((4 * y1) + y2).toNatClampNeg 0 → (((¬ y1 = 0) → (((¬ y1 = 1) → (∃ P11 : MS → Prop, wM_goOn P11 σ8 y2 ∧ (∀ (u12 : MS), P11 u12 → R u12))) ∧ ((y1 = 1) → (∃ P13 : MS → Prop, wM_passToken P13 σ8 y2 ∧ (∀ (u14 : MS), P13 u14 → R u14))))) ∧ ((y1 = 0) → (vp_in y2 4 ∧ (∀ v16 : Int32, v16 = σ8 14 y2.toNatClampNeg → (vp_in y2 4 ∧ (∀ σ18 : MS, σ18 = up2 σ8 14 y2.toNatClampNeg 0 → wM_leave_75 R 5 σ18 y1 y2 v16 0))))))))) ∧ ((¬ (σ5 32 0) = 0) → R σ5)))
def wM_leave (R : MS → Prop) (σ : MS) (x1 x2 : Int32) : Prop :=
  (∃ P19 : Int32 → MS → Prop, wM_isLock P19 σ x1 x2 ∧ (∀ (r21 : Int32) (u20 : MS), P19 r21 u20 → (((¬ r21 = 0) → (vp_in ((4 * x1) + x2) 12 ∧ ((((u20 8 ((4 * x1) + x2).toNatClampNeg) = 2) → wM_leave_32 R u20 x1 x2 0) ∧ ((¬ (u20 8 ((4 * x1) + x2).toNatClampNeg) = 2) → wM_leave_32 R u20 x1 x2 2)))) ∧ ((r21 = 0) → wM_leave_32 R u20 x1 x2 1))))
abbrev wsMo_leave : List Cond := .code yMo_leave cMo_leave 5 none :: wg
abbrev rmM_leave : Room := { frames := 2, cells := 0, slots := 0, locals := 51 }
set_option maxHeartbeats 4000000 in
set_option maxRecDepth 100000 in
theorem kM_leave (l : Launch) (D : va_G) (a : Nat → Nat) (A : Nat → Prop) (tI tZ : ClassId) (σ : MS) (x1 x2 : Int32) (R : MS → Prop) (hwp : wM_leave R σ x1 x2) : Met l yMo_leave wsMo_leave rmM_leave (va_Pc [.ref (a 0), .int x1, .int x2] (uI D clA (mT tI tZ) A false (mw a tI tZ) σ)) (va_Qv R (uI D clA (mT tI tZ) A false (mw a tI tZ)) A) 0 0 A := by
  refine Met.ofW (cc := cMo_leave) (maxL := 5) (ret := none) (by decide) rfl ?_
  intro p e s m args below meth c s₁ B hml hv
  obtain ⟨rfl, hP, hK, hD, hA⟩ := hv
  have hx := B.exec
  have hb := B.bytes
  have hr := B.returns
  have hts := atoms_spec (ws := wsMo_leave) B.pre
  have hown : s.vm.findClass RMo = some m.cls := findClass_of_methodNamed B.named
  have hlocks := B.notSynchronized
  have hin0 : ∀ w ∈ u_ws RMo TMo 33, w ∈ wsMo_leave := fun w h => List.mem_cons_of_mem _ (inMo w h)
  have k32 := hts _ (List.mem_cons_of_mem _ wm_744)
  have k44 := hts _ (List.mem_cons_of_mem _ wm_750)
  have k90 := hts _ (List.mem_cons_of_mem _ wm_768)
  have hS : va_S A s.heap s.heap [] := va_S.rf
  have cut75 : ∀ (k75 : Nat) (σ : MS) (y1 : Int32) (y2 : Int32) (y3 : Int32) (y4 : Int32) (H : Heap) (locs : List Loc) (ls : Array Slot), wM_leave_75 R k75 σ y1 y2 y3 y4 → va_P D clA (mw a tI tZ σ) H → va_D A (mw a tI tZ σ) → va_S A s.heap H locs → lv_has ls 5 [(0, .ref (a 0)), (1, .int y1), (2, .int y2), (3, .int y3), (4, .int y4)] → W p l e (headSpec wsMo_leave rmM_leave).room s m ([.ref (a 0), .int x1, .int x2] : List Value).toArray below meth c H locs 0 0 (MQ below (va_Qv R (uI D clA (mT tI tZ) A false (mw a tI tZ)) A) ([.ref (a 0), .int x1, .int x2] : List Value).toArray s 0 0 A) (F0 m 75 ls []) := by
    intro k75
    induction k75 with
    | zero => intro σ y1 y2 y3 y4 H locs ls hwp hP hD hS hl; exact False.elim hwp
    | succ k75 ih75 =>
      intro σ y1 y2 y3 y4 H locs ls hwp hP hD hS hl
      have cut101 : ∀ (σ : MS) (y1 : Int32) (y2 : Int32) (y3 : Int32) (y4 : Int32) (H : Heap) (locs : List Loc) (ls : Array Slot), wM_leave_101 (wM_leave_75 R k75) R σ y1 y2 y3 y4 → va_P D clA (mw a tI tZ σ) H → va_D A (mw a tI tZ σ) → va_S A s.heap H locs → lv_has ls 5 [(0, .ref (a 0)), (1, .int y1), (2, .int y2), (3, .int y3), (4, .int y4)] → W p l e (headSpec wsMo_leave rmM_leave).room s m ([.ref (a 0), .int x1, .int x2] : List Value).toArray below meth c H locs 0 0 (MQ below (va_Qv R (uI D clA (mT tI tZ) A false (mw a tI tZ)) A) ([.ref (a 0), .int x1, .int x2] : List Value).toArray s 0 0 A) (F0 m 101 ls []) := by
        intro σ y1 y2 y3 y4 H locs ls hwp hP hD hS hl
        refine lv_iinc (k := 4) hx hb dMo_leave_101 hl rfl (fx_inc1 _) (by decide) rfl (fun ls hl => ?_)
        have hl : lv_has ls 5 [(4, .int (y4 + 1)), (0, .ref (a 0)), (1, .int y1), (2, .int y2), (3, .int y3)] := hl
        refine lv_goto hx hb dMo_leave_104 rfl ?_
        exact ih75 σ y1 y2 y3 (y4 + 1) _ _ _ hwp hP hD hS (lv_sub hl [1, 2, 3, 4, 0] rfl)
      have hwp : wM_leave_75_step (wM_leave_75 R k75) R σ y1 y2 y3 y4 := hwp
      refine lv_iload hx hb dMo_leave_75 (lv_at hl 4 rfl) ?_
      refine lv_iconst (v := 4) hx hb dMo_leave_77 (by decide) ?_
      refine lv_icmp_ge hx hb dMo_leave_78 rfl (fun h1 => ?_) (fun h1 => ?_)
      · have hwp := hwp.1 h1
        refine lv_goto hx hb dMo_leave_107 rfl ?_
        exact W.vret hx hb hr (fun t ht hW => ⟨⟨σ, rfl, hwp, uEnd ht hW hP hK hD hS hA⟩, hS.F ht⟩) hS.2.2 dMo_leave_128
      · have hwp := hwp.2 h1
        refine lv_iload_n hx hb dMo_leave_81 rfl (lv_at hl 3 rfl) ?_
        refine lv_iload hx hb dMo_leave_82 (lv_at hl 4 rfl) ?_
        refine lv_ishr hx hb dMo_leave_84 ?_
        refine lv_iconst (v := 1) hx hb dMo_leave_85 (by decide) ?_
        refine lv_iand hx hb dMo_leave_86 ?_
        refine lv_iconst (v := 1) hx hb dMo_leave_87 (by decide) ?_
        refine lv_icmp_ne hx hb dMo_leave_88 rfl (fun h2 => ?_) (fun h2 => ?_)
        · have hwp := hwp.1 h2
          exact cut101 σ y1 y2 y3 y4 _ _ _ hwp hP hD hS (lv_sub hl [0, 1, 2, 3, 4] rfl)
        · have hwp := hwp.2 h2
          refine lv_aload_n hx hb dMo_leave_91 rfl (lv_at hl 0 rfl) ?_
          refine lv_iload_n hx hb dMo_leave_92 rfl (lv_at hl 2 rfl) ?_
          refine lv_iload hx hb dMo_leave_93 (lv_at hl 4 rfl) ?_
          refine lv_iconst (v := 0) hx hb dMo_leave_95 (by decide) ?_
          refine lv_iconst (v := 1) hx hb dMo_leave_96 (by decide) ?_
          refine lv_iconst (v := 0) hx hb dMo_leave_97 (by decide) ?_
          obtain ⟨P3, hP3, hwp⟩ := hwp
          refine uCallVv (As := [.int y2, .int y4, .int 0, .int 1, .int 0]) (rest := []) (C := RMo) ⟨hx, hb, hml, hown, hts⟩ (kM_send l D a A tI tZ σ y2 y4 0 1 0 P3 hP3) (cwV 5 hts (gdV wm_858 wm_860 wp_18 wm_13 wm_861) rfl rfl rfl (by decide +kernel) ⟨Nat.le_of_ble_eq_true rfl, Nat.le_of_ble_eq_true rfl⟩) (va_recv (ci := 0) (q0 := 0) hK hP rfl rfl) hP hK hD hA hS rfl hl.1 rfl (Nat.le_of_ble_eq_true rfl) dMo_leave_98 ⟨Nat.le_of_ble_eq_true rfl, Nat.le_of_ble_eq_true rfl⟩ (fun u4 H locs hu4 hP hD hS => ?_)
          have hwp := hwp u4 hu4
          exact cut101 u4 y1 y2 y3 y4 _ _ _ hwp hP hD hS (lv_sub hl [0, 1, 2, 3, 4] rfl)
  have cut32 : ∀ (σ : MS) (y1 : Int32) (y2 : Int32) (z1 : Int32) (H : Heap) (locs : List Loc) (ls : Array Slot), wM_leave_32 R σ y1 y2 z1 → va_P D clA (mw a tI tZ σ) H → va_D A (mw a tI tZ σ) → va_S A s.heap H locs → lv_has ls 5 [(0, .ref (a 0)), (1, .int y1), (2, .int y2)] → W p l e (headSpec wsMo_leave rmM_leave).room s m ([.ref (a 0), .int x1, .int x2] : List Value).toArray below meth c H locs 0 0 (MQ below (va_Qv R (uI D clA (mT tI tZ) A false (mw a tI tZ)) A) ([.ref (a 0), .int x1, .int x2] : List Value).toArray s 0 0 A) (F0 m 32 ls [.int z1, .ref (a 0)]) := by
    intro σ y1 y2 z1 H locs ls hwp hP hD hS hl
    refine va_put (ty := .int) (D := D) (ci := 0) (C := RMo) (T := TMo) (N := 33) hx hb hts hin0 tyMo tyMo_ok nmMo hown hK hP hD hS 0 rfl rfl 32 (by decide) k90 (fun _ h9 => h9) rfl (by decide +kernel) rfl rfl (Nat.le_of_ble_eq_true rfl) dMo_leave_32 (fun H locs hP hD hS => ?_)
    obtain ⟨σ5, eσ5⟩ : ∃ z, z = up2 σ 32 0 z1 := ⟨_, rfl⟩
    have hwp := hwp σ5 eσ5
    have hP : va_P D clA (mw a tI tZ σ5) H := by rw [eσ5]; exact hP
    have hD : va_D A (mw a tI tZ σ5) := by rw [eσ5]; exact hD
    refine lv_aload_n hx hb dMo_leave_35 rfl (lv_at hl 0 rfl) ?_
    refine va_get (D := D) (ci := 0) (C := RMo) (T := TMo) (N := 33) hx hb hts hin0 hown hK hP 0 rfl rfl 32 (by decide) k90 (fun _ h9 => h9) rfl dMo_leave_36 ?_
    refine lv_if_eq hx hb dMo_leave_39 rfl (fun h6 => ?_) (fun h6 => ?_)
    · have hwp := hwp.1 h6
      refine lv_aload_n hx hb dMo_leave_43 rfl (lv_at hl 0 rfl) ?_
      refine va_get (D := D) (ci := 0) (C := RMo) (T := TMo) (N := 33) hx hb hts hin0 hown hK hP 0 rfl rfl 8 (by decide) k32 (fun _ h9 => h9) rfl dMo_leave_44 ?_
      refine lv_iconst (v := 4) hx hb dMo_leave_47 (by decide) ?_
      refine lv_iload_n hx hb dMo_leave_48 rfl (lv_at hl 1 rfl) ?_
      refine lv_imul hx hb dMo_leave_49 ?_
      refine lv_iload_n hx hb dMo_leave_50 rfl (lv_at hl 2 rfl) ?_
      refine lv_iadd hx hb dMo_leave_51 ?_
      refine lv_iconst (v := 0) hx hb dMo_leave_52 (by decide) ?_
      obtain ⟨hi7, hwp⟩ := hwp
      refine va_iast hx hb hK hP hD hS 7 0 rfl rfl hi7 dMo_leave_53 (fun H locs hP hD hS => ?_)
      obtain ⟨σ8, eσ8⟩ : ∃ z, z = up2 σ5 8 ((4 * y1) + y2).toNatClampNeg 0 := ⟨_, rfl⟩
      have hwp := hwp σ8 eσ8
      have hP : va_P D clA (mw a tI tZ σ8) H := by rw [eσ8]; exact hP
      have hD : va_D A (mw a tI tZ σ8) := by rw [eσ8]; exact hD
      refine lv_iload_n hx hb dMo_leave_54 rfl (lv_at hl 1 rfl) ?_
      refine lv_if_ne hx hb dMo_leave_55 rfl (fun h9 => ?_) (fun h9 => ?_)
      · have hwp := hwp.1 h9
        refine lv_iload_n hx hb dMo_leave_110 rfl (lv_at hl 1 rfl) ?_
        refine lv_iconst (v := 1) hx hb dMo_leave_111 (by decide) ?_
        refine lv_icmp_ne hx hb dMo_leave_112 rfl (fun h10 => ?_) (fun h10 => ?_)
        · have hwp := hwp.1 h10
          refine lv_aload_n hx hb dMo_leave_123 rfl (lv_at hl 0 rfl) ?_
          refine lv_iload_n hx hb dMo_leave_124 rfl (lv_at hl 2 rfl) ?_
          obtain ⟨P11, hP11, hwp⟩ := hwp
          refine uCallVv (As := [.int y2]) (rest := []) (C := RMo) ⟨hx, hb, hml, hown, hts⟩ (kM_goOn l D a A tI tZ σ8 y2 P11 hP11) (cwV 1 hts (gdV wm_878 wm_880 wp_23 wm_13 wm_881) rfl rfl rfl (by decide +kernel) ⟨Nat.le_of_ble_eq_true rfl, Nat.le_of_ble_eq_true rfl⟩) (va_recv (ci := 0) (q0 := 0) hK hP rfl rfl) hP hK hD hA hS rfl hl.1 rfl (Nat.le_of_ble_eq_true rfl) dMo_leave_125 ⟨Nat.le_of_ble_eq_true rfl, Nat.le_of_ble_eq_true rfl⟩ (fun u12 H locs hu12 hP hD hS => ?_)
          have hwp := hwp u12 hu12
          exact W.vret hx hb hr (fun t ht hW => ⟨⟨u12, rfl, hwp, uEnd ht hW hP hK hD hS hA⟩, hS.F ht⟩) hS.2.2 dMo_leave_128
        · have hwp := hwp.2 h10
          refine lv_aload_n hx hb dMo_leave_115 rfl (lv_at hl 0 rfl) ?_
          refine lv_iload_n hx hb dMo_leave_116 rfl (lv_at hl 2 rfl) ?_
          obtain ⟨P13, hP13, hwp⟩ := hwp
          refine uCallVv (As := [.int y2]) (rest := []) (C := RMo) ⟨hx, hb, hml, hown, hts⟩ (kM_passToken l D a A tI tZ σ8 y2 P13 hP13) (cwV 1 hts (gdV wm_921 wm_923 wp_29 wm_13 wm_924) rfl rfl rfl (by decide +kernel) ⟨Nat.le_of_ble_eq_true rfl, Nat.le_of_ble_eq_true rfl⟩) (va_recv (ci := 0) (q0 := 0) hK hP rfl rfl) hP hK hD hA hS rfl hl.1 rfl (Nat.le_of_ble_eq_true rfl) dMo_leave_117 ⟨Nat.le_of_ble_eq_true rfl, Nat.le_of_ble_eq_true rfl⟩ (fun u14 H locs hu14 hP hD hS => ?_)
          have hwp := hwp u14 hu14
          refine lv_goto hx hb dMo_leave_120 rfl ?_
          exact W.vret hx hb hr (fun t ht hW => ⟨⟨u14, rfl, hwp, uEnd ht hW hP hK hD hS hA⟩, hS.F ht⟩) hS.2.2 dMo_leave_128
      · have hwp := hwp.2 h9
        refine lv_aload_n hx hb dMo_leave_58 rfl (lv_at hl 0 rfl) ?_
        refine va_get (D := D) (ci := 0) (C := RMo) (T := TMo) (N := 33) hx hb hts hin0 hown hK hP 0 rfl rfl 14 (by decide) k44 (fun _ h9 => h9) rfl dMo_leave_59 ?_
        refine lv_iload_n hx hb dMo_leave_62 rfl (lv_at hl 2 rfl) ?_
        obtain ⟨hi15, hwp⟩ := hwp
        refine va_iald hx hb hK hP 11 0 rfl rfl hi15 dMo_leave_63 ?_
        refine lv_topi (fun v16 ev16 => ?_)
        have hwp := hwp v16 ev16
        refine lv_istore_n hx hb dMo_leave_64 rfl hl (by decide) rfl (fun ls hl => ?_)
        have hl : lv_has ls 5 [(3, .int v16), (0, .ref (a 0)), (1, .int y1), (2, .int y2)] := hl
        refine lv_aload_n hx hb dMo_leave_65 rfl (lv_at hl 1 rfl) ?_
        refine va_get (D := D) (ci := 0) (C := RMo) (T := TMo) (N := 33) hx hb hts hin0 hown hK hP 0 rfl rfl 14 (by decide) k44 (fun _ h9 => h9) rfl dMo_leave_66 ?_
        refine lv_iload_n hx hb dMo_leave_69 rfl (lv_at hl 3 rfl) ?_
        refine lv_iconst (v := 0) hx hb dMo_leave_70 (by decide) ?_
        obtain ⟨hi17, hwp⟩ := hwp
        refine va_iast hx hb hK hP hD hS 11 0 rfl rfl hi17 dMo_leave_71 (fun H locs hP hD hS => ?_)
        obtain ⟨σ18, eσ18⟩ : ∃ z, z = up2 σ8 14 y2.toNatClampNeg 0 := ⟨_, rfl⟩
        have hwp := hwp σ18 eσ18
        have hP : va_P D clA (mw a tI tZ σ18) H := by rw [eσ18]; exact hP
        have hD : va_D A (mw a tI tZ σ18) := by rw [eσ18]; exact hD
        refine lv_iconst (v := 0) hx hb dMo_leave_72 (by decide) ?_
        refine lv_istore hx hb dMo_leave_73 hl (by decide) rfl (fun ls hl => ?_)
        have hl : lv_has ls 5 [(4, .int 0), (3, .int v16), (0, .ref (a 0)), (1, .int y1), (2, .int y2)] := hl
        exact cut75 5 σ18 y1 y2 v16 0 _ _ _ hwp hP hD hS (lv_sub hl [2, 3, 4, 1, 0] rfl)
    · have hwp := hwp.2 h6
      exact W.vret hx hb hr (fun t ht hW => ⟨⟨σ5, rfl, hwp, uEnd ht hW hP hK hD hS hA⟩, hS.F ht⟩) hS.2.2 dMo_leave_42
  have hl := lv_entry ([.ref (a 0), .int x1, .int x2]) (n := 5) (Nat.le_of_ble_eq_true rfl)
  rw [lg_entry_eq]
  generalize (lg_sl ([.ref (a 0), .int x1, .int x2]) ++ List.replicate (5 - (lg_sl ([.ref (a 0), .int x1, .int x2])).length) Slot.unset).toArray = ls at hl ⊢
  have hl : lv_has ls 5 [(0, .ref (a 0)), (1, .int x1), (2, .int x2)] := hl
  refine lv_aload_n hx hb dMo_leave_0 rfl (lv_at hl 0 rfl) ?_
  refine lv_iload_n hx hb dMo_leave_1 rfl (lv_at hl 1 rfl) ?_
  refine lv_iload_n hx hb dMo_leave_2 rfl (lv_at hl 2 rfl) ?_
  obtain ⟨P19, hP19, hwp⟩ := hwp
  refine uCallSi (As := [.int x1, .int x2]) (rest := [.ref (a 0)]) ⟨hx, hb, hml, hown, hts⟩ (kM_isLock l D a A tI tZ σ x1 x2 P19 hP19) (cwS 2 hts (gdS wm_910 wm_911 wm_13 wm_912) rfl rfl rfl (by decide +kernel) ⟨Nat.le_of_ble_eq_true rfl, Nat.le_of_ble_eq_true rfl⟩) hP hK hD hA hS rfl hl.1 rfl (Nat.le_of_ble_eq_true rfl) dMo_leave_3 ⟨Nat.le_of_ble_eq_true rfl, Nat.le_of_ble_eq_true rfl⟩ (fun r21 u20 H locs hu20 hP hD hS => ?_)
  have hwp := hwp r21 u20 hu20
  refine lv_if_ne hx hb dMo_leave_6 rfl (fun h22 => ?_) (fun h22 => ?_)
  · have hwp := hwp.1 h22
    refine lv_aload_n hx hb dMo_leave_13 rfl (lv_at hl 0 rfl) ?_
    refine va_get (D := D) (ci := 0) (C := RMo) (T := TMo) (N := 33) hx hb hts hin0 hown hK hP 0 rfl rfl 8 (by decide) k32 (fun _ h9 => h9) rfl dMo_leave_14 ?_
    refine lv_iconst (v := 4) hx hb dMo_leave_17 (by decide) ?_
    refine lv_iload_n hx hb dMo_leave_18 rfl (lv_at hl 1 rfl) ?_
    refine lv_imul hx hb dMo_leave_19 ?_
    refine lv_iload_n hx hb dMo_leave_20 rfl (lv_at hl 2 rfl) ?_
    refine lv_iadd hx hb dMo_leave_21 ?_
    obtain ⟨hi23, hwp⟩ := hwp
    refine va_iald hx hb hK hP 7 0 rfl rfl hi23 dMo_leave_22 ?_
    refine lv_iconst (v := 2) hx hb dMo_leave_23 (by decide) ?_
    refine lv_icmp_eq hx hb dMo_leave_24 rfl (fun h24 => ?_) (fun h24 => ?_)
    · have hwp := hwp.1 h24
      refine lv_iconst (v := 0) hx hb dMo_leave_31 (by decide) ?_
      exact cut32 u20 x1 x2 0 _ _ _ hwp hP hD hS (lv_sub hl [0, 1, 2] rfl)
    · have hwp := hwp.2 h24
      refine lv_iconst (v := 2) hx hb dMo_leave_27 (by decide) ?_
      refine lv_goto hx hb dMo_leave_28 rfl ?_
      exact cut32 u20 x1 x2 2 _ _ _ hwp hP hD hS (lv_sub hl [0, 1, 2] rfl)
  · have hwp := hwp.2 h22
    refine lv_iconst (v := 1) hx hb dMo_leave_9 (by decide) ?_
    refine lv_goto hx hb dMo_leave_10 rfl ?_
    exact cut32 u20 x1 x2 1 _ _ _ hwp hP hD hS (lv_sub hl [0, 1, 2] rfl)
-- public void start(int)
def wM_start_26 (R : MS → Prop) (σ : MS) (y1 : Int32) (z1 : Int32) : Prop :=
  (∀ σ1 : MS, σ1 = up2 σ 32 0 z1 → (((¬ (σ1 32 0) = 0) → R σ1) ∧ (((σ1 32 0) = 0) → (vp_in y1 4 ∧ (∀ σ4 : MS, σ4 = up2 σ1 26 y1.toNatClampNeg (vp_nar .boolean 1) → (vp_in y1 4 ∧ (∃ P6 : MS → Prop, wM_send P6 σ4 y1 ((y1 + 1) - (y1 + 1) / 4 * 4) 3 0 (σ4 24 y1.toNatClampNeg) ∧ (∀ (u7 : MS), P6 u7 → R u7))))))))
def wM_start (R : MS → Prop) (σ : MS) (x1 : Int32) : Prop :=
  (∃ P8 : Int32 → MS → Prop, wM_isNode P8 σ x1 ∧ (∀ (r10 : Int32) (u9 : MS), P8 r10 u9 → (((¬ r10 = 0) → (vp_in x1 4 ∧ ((((u9 26 x1.toNatClampNeg) = 0) → wM_start_26 R u9 x1 0) ∧ ((¬ (u9 26 x1.toNatClampNeg) = 0) → wM_start_26 R u9 x1 2)))) ∧ ((r10 = 0) → wM_start_26 R u9 x1 1))))
abbrev wsMo_start : List Cond := .code yMo_start cMo_start 2 none :: wg
abbrev rmM_start : Room := { frames := 1, cells := 0, slots := 0, locals := 27 }
set_option maxHeartbeats 4000000 in
set_option maxRecDepth 100000 in
theorem kM_start (l : Launch) (D : va_G) (a : Nat → Nat) (A : Nat → Prop) (tI tZ : ClassId) (σ : MS) (x1 : Int32) (R : MS → Prop) (hwp : wM_start R σ x1) : Met l yMo_start wsMo_start rmM_start (va_Pc [.ref (a 0), .int x1] (uI D clA (mT tI tZ) A false (mw a tI tZ) σ)) (va_Qv R (uI D clA (mT tI tZ) A false (mw a tI tZ)) A) 0 0 A := by
  refine Met.ofW (cc := cMo_start) (maxL := 2) (ret := none) (by decide) rfl ?_
  intro p e s m args below meth c s₁ B hml hv
  obtain ⟨rfl, hP, hK, hD, hA⟩ := hv
  have hx := B.exec
  have hb := B.bytes
  have hr := B.returns
  have hts := atoms_spec (ws := wsMo_start) B.pre
  have hown : s.vm.findClass RMo = some m.cls := findClass_of_methodNamed B.named
  have hlocks := B.notSynchronized
  have hin0 : ∀ w ∈ u_ws RMo TMo 33, w ∈ wsMo_start := fun w h => List.mem_cons_of_mem _ (inMo w h)
  have k69 := hts _ (List.mem_cons_of_mem _ wm_760)
  have k75 := hts _ (List.mem_cons_of_mem _ wm_762)
  have k90 := hts _ (List.mem_cons_of_mem _ wm_768)
  have hS : va_S A s.heap s.heap [] := va_S.rf
  have cut26 : ∀ (σ : MS) (y1 : Int32) (z1 : Int32) (H : Heap) (locs : List Loc) (ls : Array Slot), wM_start_26 R σ y1 z1 → va_P D clA (mw a tI tZ σ) H → va_D A (mw a tI tZ σ) → va_S A s.heap H locs → lv_has ls 2 [(0, .ref (a 0)), (1, .int y1)] → W p l e (headSpec wsMo_start rmM_start).room s m ([.ref (a 0), .int x1] : List Value).toArray below meth c H locs 0 0 (MQ below (va_Qv R (uI D clA (mT tI tZ) A false (mw a tI tZ)) A) ([.ref (a 0), .int x1] : List Value).toArray s 0 0 A) (F0 m 26 ls [.int z1, .ref (a 0)]) := by
    intro σ y1 z1 H locs ls hwp hP hD hS hl
    refine va_put (ty := .int) (D := D) (ci := 0) (C := RMo) (T := TMo) (N := 33) hx hb hts hin0 tyMo tyMo_ok nmMo hown hK hP hD hS 0 rfl rfl 32 (by decide) k90 (fun _ h9 => h9) rfl (by decide +kernel) rfl rfl (Nat.le_of_ble_eq_true rfl) dMo_start_26 (fun H locs hP hD hS => ?_)
    obtain ⟨σ1, eσ1⟩ : ∃ z, z = up2 σ 32 0 z1 := ⟨_, rfl⟩
    have hwp := hwp σ1 eσ1
    have hP : va_P D clA (mw a tI tZ σ1) H := by rw [eσ1]; exact hP
    have hD : va_D A (mw a tI tZ σ1) := by rw [eσ1]; exact hD
    refine lv_aload_n hx hb dMo_start_29 rfl (lv_at hl 0 rfl) ?_
    refine va_get (D := D) (ci := 0) (C := RMo) (T := TMo) (N := 33) hx hb hts hin0 hown hK hP 0 rfl rfl 32 (by decide) k90 (fun _ h9 => h9) rfl dMo_start_30 ?_
    refine lv_if_ne hx hb dMo_start_33 rfl (fun h2 => ?_) (fun h2 => ?_)
    · have hwp := hwp.1 h2
      exact W.vret hx hb hr (fun t ht hW => ⟨⟨σ1, rfl, hwp, uEnd ht hW hP hK hD hS hA⟩, hS.F ht⟩) hS.2.2 dMo_start_61
    · have hwp := hwp.2 h2
      refine lv_aload_n hx hb dMo_start_36 rfl (lv_at hl 0 rfl) ?_
      refine va_get (D := D) (ci := 0) (C := RMo) (T := TMo) (N := 33) hx hb hts hin0 hown hK hP 0 rfl rfl 26 (by decide) k75 (fun _ h9 => h9) rfl dMo_start_37 ?_
      refine lv_iload_n hx hb dMo_start_40 rfl (lv_at hl 1 rfl) ?_
      refine lv_iconst (v := 1) hx hb dMo_start_41 (by decide) ?_
      obtain ⟨hi3, hwp⟩ := hwp
      refine va_zast hx hb hK hP hD hS 21 1 rfl rfl hi3 dMo_start_42 (fun H locs hP hD hS => ?_)
      obtain ⟨σ4, eσ4⟩ : ∃ z, z = up2 σ1 26 y1.toNatClampNeg (vp_nar .boolean 1) := ⟨_, rfl⟩
      have hwp := hwp σ4 eσ4
      have hP : va_P D clA (mw a tI tZ σ4) H := by rw [eσ4]; exact hP
      have hD : va_D A (mw a tI tZ σ4) := by rw [eσ4]; exact hD
      refine lv_aload_n hx hb dMo_start_43 rfl (lv_at hl 0 rfl) ?_
      refine lv_iload_n hx hb dMo_start_44 rfl (lv_at hl 1 rfl) ?_
      refine lv_iload_n hx hb dMo_start_45 rfl (lv_at hl 1 rfl) ?_
      refine lv_iconst (v := 1) hx hb dMo_start_46 (by decide) ?_
      refine lv_iadd hx hb dMo_start_47 ?_
      refine lv_iconst (v := 4) hx hb dMo_start_48 (by decide) ?_
      refine lv_irem hx hb dMo_start_49 (by decide) ?_
      refine lv_iconst (v := 3) hx hb dMo_start_50 (by decide) ?_
      refine lv_iconst (v := 0) hx hb dMo_start_51 (by decide) ?_
      refine lv_aload_n hx hb dMo_start_52 rfl (lv_at hl 0 rfl) ?_
      refine va_get (D := D) (ci := 0) (C := RMo) (T := TMo) (N := 33) hx hb hts hin0 hown hK hP 0 rfl rfl 24 (by decide) k69 (fun _ h9 => h9) rfl dMo_start_53 ?_
      refine lv_iload_n hx hb dMo_start_56 rfl (lv_at hl 1 rfl) ?_
      obtain ⟨hi5, hwp⟩ := hwp
      refine va_iald hx hb hK hP 19 0 rfl rfl hi5 dMo_start_57 ?_
      obtain ⟨P6, hP6, hwp⟩ := hwp
      refine uCallVv (As := [.int y1, .int ((y1 + 1) - (y1 + 1) / 4 * 4), .int 3, .int 0, .int (σ4 24 y1.toNatClampNeg)]) (rest := []) (C := RMo) ⟨hx, hb, hml, hown, hts⟩ (kM_send l D a A tI tZ σ4 y1 ((y1 + 1) - (y1 + 1) / 4 * 4) 3 0 (σ4 24 y1.toNatClampNeg) P6 hP6) (cwV 5 hts (gdV wm_858 wm_860 wp_18 wm_13 wm_861) rfl rfl rfl (by decide +kernel) ⟨Nat.le_of_ble_eq_true rfl, Nat.le_of_ble_eq_true rfl⟩) (va_recv (ci := 0) (q0 := 0) hK hP rfl rfl) hP hK hD hA hS rfl hl.1 rfl (Nat.le_of_ble_eq_true rfl) dMo_start_58 ⟨Nat.le_of_ble_eq_true rfl, Nat.le_of_ble_eq_true rfl⟩ (fun u7 H locs hu7 hP hD hS => ?_)
      have hwp := hwp u7 hu7
      exact W.vret hx hb hr (fun t ht hW => ⟨⟨u7, rfl, hwp, uEnd ht hW hP hK hD hS hA⟩, hS.F ht⟩) hS.2.2 dMo_start_61
  have hl := lv_entry ([.ref (a 0), .int x1]) (n := 2) (Nat.le_of_ble_eq_true rfl)
  rw [lg_entry_eq]
  generalize (lg_sl ([.ref (a 0), .int x1]) ++ List.replicate (2 - (lg_sl ([.ref (a 0), .int x1])).length) Slot.unset).toArray = ls at hl ⊢
  have hl : lv_has ls 2 [(0, .ref (a 0)), (1, .int x1)] := hl
  refine lv_aload_n hx hb dMo_start_0 rfl (lv_at hl 0 rfl) ?_
  refine lv_iload_n hx hb dMo_start_1 rfl (lv_at hl 1 rfl) ?_
  obtain ⟨P8, hP8, hwp⟩ := hwp
  refine uCallSi (As := [.int x1]) (rest := [.ref (a 0)]) ⟨hx, hb, hml, hown, hts⟩ (kM_isNode l D a A tI tZ σ x1 P8 hP8) (cwS 1 hts (gdS wm_847 wm_848 wm_13 wm_849) rfl rfl rfl (by decide +kernel) ⟨Nat.le_of_ble_eq_true rfl, Nat.le_of_ble_eq_true rfl⟩) hP hK hD hA hS rfl hl.1 rfl (Nat.le_of_ble_eq_true rfl) dMo_start_2 ⟨Nat.le_of_ble_eq_true rfl, Nat.le_of_ble_eq_true rfl⟩ (fun r10 u9 H locs hu9 hP hD hS => ?_)
  have hwp := hwp r10 u9 hu9
  refine lv_if_ne hx hb dMo_start_5 rfl (fun h11 => ?_) (fun h11 => ?_)
  · have hwp := hwp.1 h11
    refine lv_aload_n hx hb dMo_start_12 rfl (lv_at hl 0 rfl) ?_
    refine va_get (D := D) (ci := 0) (C := RMo) (T := TMo) (N := 33) hx hb hts hin0 hown hK hP 0 rfl rfl 26 (by decide) k75 (fun _ h9 => h9) rfl dMo_start_13 ?_
    refine lv_iload_n hx hb dMo_start_16 rfl (lv_at hl 1 rfl) ?_
    obtain ⟨hi12, hwp⟩ := hwp
    refine va_zald hx hb hK hP 21 1 rfl rfl hi12 dMo_start_17 ?_
    refine lv_if_eq hx hb dMo_start_18 rfl (fun h13 => ?_) (fun h13 => ?_)
    · have hwp := hwp.1 h13
      refine lv_iconst (v := 0) hx hb dMo_start_25 (by decide) ?_
      exact cut26 u9 x1 0 _ _ _ hwp hP hD hS (lv_sub hl [0, 1] rfl)
    · have hwp := hwp.2 h13
      refine lv_iconst (v := 2) hx hb dMo_start_21 (by decide) ?_
      refine lv_goto hx hb dMo_start_22 rfl ?_
      exact cut26 u9 x1 2 _ _ _ hwp hP hD hS (lv_sub hl [0, 1] rfl)
  · have hwp := hwp.2 h11
    refine lv_iconst (v := 1) hx hb dMo_start_8 (by decide) ?_
    refine lv_goto hx hb dMo_start_9 rfl ?_
    exact cut26 u9 x1 1 _ _ _ hwp hP hD hS (lv_sub hl [0, 1] rfl)
-- public void begin(int)
def wM_begin_84 (R : MS → Prop) (σ : MS) (y1 : Int32) (y2 : Int32) (y3 : Int32) (z1 : Int32) : Prop :=
  (∀ σ1 : MS, σ1 = up2 σ 32 0 z1 → (((¬ (σ1 32 0) = 0) → R σ1) ∧ (((σ1 32 0) = 0) → (∀ σ3 : MS, σ3 = up2 σ1 27 0 y1 → (vp_in y1 4 ∧ (∀ σ5 : MS, σ5 = up2 σ3 29 y1.toNatClampNeg (vp_nar .boolean 1) → R σ5))))))
def wM_begin_56 (K15 : MS → Int32 → Int32 → Int32 → Prop) (R : MS → Prop) (σ : MS) (y1 : Int32) (y2 : Int32) (y3 : Int32) (z0 : Int32) : Prop :=
  K15 σ y1 z0 (y3 + 1)
def wM_begin_51 (K15 : MS → Int32 → Int32 → Int32 → Prop) (R : MS → Prop) (σ : MS) (y1 : Int32) (y2 : Int32) (y3 : Int32) : Prop :=
  wM_begin_56 K15 R σ y1 y2 y3 1
def wM_begin_15_step (K15 : MS → Int32 → Int32 → Int32 → Prop) (R : MS → Prop) (σ : MS) (y1 : Int32) (y2 : Int32) (y3 : Int32) : Prop :=
  (((4 ≤ y3) → (∃ P7 : Int32 → MS → Prop, wM_isNode P7 σ y1 ∧ (∀ (r9 : Int32) (u8 : MS), P7 r9 u8 → (((¬ r9 = 0) → (((y2 = 0) → wM_begin_84 R u8 y1 y2 y3 0) ∧ ((¬ y2 = 0) → wM_begin_84 R u8 y1 y2 y3 2))) ∧ ((r9 = 0) → wM_begin_84 R u8 y1 y2 y3 1))))) ∧ ((¬ 4 ≤ y3) → (((¬ y2 = 0) → wM_begin_51 K15 R σ y1 y2 y3) ∧ ((y2 = 0) → (vp_in y3 4 ∧ (((¬ (σ 29 y3.toNatClampNeg) = 0) → wM_begin_51 K15 R σ y1 y2 y3) ∧ (((σ 29 y3.toNatClampNeg) = 0) → (vp_in y3 4 ∧ (((0 ≤ (σ 30 y3.toNatClampNeg)) → wM_begin_51 K15 R σ y1 y2 y3) ∧ ((¬ 0 ≤ (σ 30 y3.toNatClampNeg)) → (vp_in y3 4 ∧ ((((σ 31 y3.toNatClampNeg) ≤ 0) → wM_begin_56 K15 R σ y1 y2 y3 0) ∧ ((¬ (σ 31 y3.toNatClampNeg) ≤ 0) → wM_begin_51 K15 R σ y1 y2 y3)))))))))))))
def wM_begin_15 (R : MS → Prop) : Nat → MS → Int32 → Int32 → Int32 → Prop
  | 0 => fun _ _ _ _ => False
  | k + 1 => fun σ y1 y2 y3 => wM_begin_15_step  (wM_begin_15  R k) R σ y1 y2 y3
def wM_begin_12 (R : MS → Prop) (σ : MS) (y1 : Int32) (z0 : Int32) : Prop :=
  wM_begin_15 R 5 σ y1 z0 0
def wM_begin (R : MS → Prop) (σ : MS) (x1 : Int32) : Prop :=
  ((((σ 27 0) < 0) → wM_begin_12 R σ x1 0) ∧ ((¬ (σ 27 0) < 0) → wM_begin_12 R σ x1 1))
abbrev wsMo_begin : List Cond := .code yMo_begin cMo_begin 4 none :: wg
abbrev rmM_begin : Room := { frames := 1, cells := 0, slots := 0, locals := 20 }
set_option maxHeartbeats 4000000 in
set_option maxRecDepth 100000 in
theorem kM_begin (l : Launch) (D : va_G) (a : Nat → Nat) (A : Nat → Prop) (tI tZ : ClassId) (σ : MS) (x1 : Int32) (R : MS → Prop) (hwp : wM_begin R σ x1) : Met l yMo_begin wsMo_begin rmM_begin (va_Pc [.ref (a 0), .int x1] (uI D clA (mT tI tZ) A false (mw a tI tZ) σ)) (va_Qv R (uI D clA (mT tI tZ) A false (mw a tI tZ)) A) 0 0 A := by
  refine Met.ofW (cc := cMo_begin) (maxL := 4) (ret := none) (by decide) rfl ?_
  intro p e s m args below meth c s₁ B hml hv
  obtain ⟨rfl, hP, hK, hD, hA⟩ := hv
  have hx := B.exec
  have hb := B.bytes
  have hr := B.returns
  have hts := atoms_spec (ws := wsMo_begin) B.pre
  have hown : s.vm.findClass RMo = some m.cls := findClass_of_methodNamed B.named
  have hlocks := B.notSynchronized
  have hin0 : ∀ w ∈ u_ws RMo TMo 33, w ∈ wsMo_begin := fun w h => List.mem_cons_of_mem _ (inMo w h)
  have k78 := hts _ (List.mem_cons_of_mem _ wm_763)
  have k81 := hts _ (List.mem_cons_of_mem _ wm_765)
  have k84 := hts _ (List.mem_cons_of_mem _ wm_766)
  have k87 := hts _ (List.mem_cons_of_mem _ wm_767)
  have k90 := hts _ (List.mem_cons_of_mem _ wm_768)
  have hS : va_S A s.heap s.heap [] := va_S.rf
  have cut84 : ∀ (σ : MS) (y1 : Int32) (y2 : Int32) (y3 : Int32) (z1 : Int32) (H : Heap) (locs : List Loc) (ls : Array Slot), wM_begin_84 R σ y1 y2 y3 z1 → va_P D clA (mw a tI tZ σ) H → va_D A (mw a tI tZ σ) → va_S A s.heap H locs → lv_has ls 4 [(0, .ref (a 0)), (1, .int y1), (2, .int y2), (3, .int y3)] → W p l e (headSpec wsMo_begin rmM_begin).room s m ([.ref (a 0), .int x1] : List Value).toArray below meth c H locs 0 0 (MQ below (va_Qv R (uI D clA (mT tI tZ) A false (mw a tI tZ)) A) ([.ref (a 0), .int x1] : List Value).toArray s 0 0 A) (F0 m 84 ls [.int z1, .ref (a 0)]) := by
    intro σ y1 y2 y3 z1 H locs ls hwp hP hD hS hl
    refine va_put (ty := .int) (D := D) (ci := 0) (C := RMo) (T := TMo) (N := 33) hx hb hts hin0 tyMo tyMo_ok nmMo hown hK hP hD hS 0 rfl rfl 32 (by decide) k90 (fun _ h9 => h9) rfl (by decide +kernel) rfl rfl (Nat.le_of_ble_eq_true rfl) dMo_begin_84 (fun H locs hP hD hS => ?_)
    obtain ⟨σ1, eσ1⟩ : ∃ z, z = up2 σ 32 0 z1 := ⟨_, rfl⟩
    have hwp := hwp σ1 eσ1
    have hP : va_P D clA (mw a tI tZ σ1) H := by rw [eσ1]; exact hP
    have hD : va_D A (mw a tI tZ σ1) := by rw [eσ1]; exact hD
    refine lv_aload_n hx hb dMo_begin_87 rfl (lv_at hl 0 rfl) ?_
    refine va_get (D := D) (ci := 0) (C := RMo) (T := TMo) (N := 33) hx hb hts hin0 hown hK hP 0 rfl rfl 32 (by decide) k90 (fun _ h9 => h9) rfl dMo_begin_88 ?_
    refine lv_if_ne hx hb dMo_begin_91 rfl (fun h2 => ?_) (fun h2 => ?_)
    · have hwp := hwp.1 h2
      exact W.vret hx hb hr (fun t ht hW => ⟨⟨σ1, rfl, hwp, uEnd ht hW hP hK hD hS hA⟩, hS.F ht⟩) hS.2.2 dMo_begin_106
    · have hwp := hwp.2 h2
      refine lv_aload_n hx hb dMo_begin_94 rfl (lv_at hl 0 rfl) ?_
      refine lv_iload_n hx hb dMo_begin_95 rfl (lv_at hl 1 rfl) ?_
      refine va_put (ty := .int) (D := D) (ci := 0) (C := RMo) (T := TMo) (N := 33) hx hb hts hin0 tyMo tyMo_ok nmMo hown hK hP hD hS 0 rfl rfl 27 (by decide) k78 (fun _ h9 => h9) rfl (by decide +kernel) rfl rfl (Nat.le_of_ble_eq_true rfl) dMo_begin_96 (fun H locs hP hD hS => ?_)
      obtain ⟨σ3, eσ3⟩ : ∃ z, z = up2 σ1 27 0 y1 := ⟨_, rfl⟩
      have hwp := hwp σ3 eσ3
      have hP : va_P D clA (mw a tI tZ σ3) H := by rw [eσ3]; exact hP
      have hD : va_D A (mw a tI tZ σ3) := by rw [eσ3]; exact hD
      refine lv_aload_n hx hb dMo_begin_99 rfl (lv_at hl 0 rfl) ?_
      refine va_get (D := D) (ci := 0) (C := RMo) (T := TMo) (N := 33) hx hb hts hin0 hown hK hP 0 rfl rfl 29 (by decide) k81 (fun _ h9 => h9) rfl dMo_begin_100 ?_
      refine lv_iload_n hx hb dMo_begin_103 rfl (lv_at hl 1 rfl) ?_
      refine lv_iconst (v := 1) hx hb dMo_begin_104 (by decide) ?_
      obtain ⟨hi4, hwp⟩ := hwp
      refine va_zast hx hb hK hP hD hS 22 1 rfl rfl hi4 dMo_begin_105 (fun H locs hP hD hS => ?_)
      obtain ⟨σ5, eσ5⟩ : ∃ z, z = up2 σ3 29 y1.toNatClampNeg (vp_nar .boolean 1) := ⟨_, rfl⟩
      have hwp := hwp σ5 eσ5
      have hP : va_P D clA (mw a tI tZ σ5) H := by rw [eσ5]; exact hP
      have hD : va_D A (mw a tI tZ σ5) := by rw [eσ5]; exact hD
      exact W.vret hx hb hr (fun t ht hW => ⟨⟨σ5, rfl, hwp, uEnd ht hW hP hK hD hS hA⟩, hS.F ht⟩) hS.2.2 dMo_begin_106
  have cut15 : ∀ (k15 : Nat) (σ : MS) (y1 : Int32) (y2 : Int32) (y3 : Int32) (H : Heap) (locs : List Loc) (ls : Array Slot), wM_begin_15 R k15 σ y1 y2 y3 → va_P D clA (mw a tI tZ σ) H → va_D A (mw a tI tZ σ) → va_S A s.heap H locs → lv_has ls 4 [(0, .ref (a 0)), (1, .int y1), (2, .int y2), (3, .int y3)] → W p l e (headSpec wsMo_begin rmM_begin).room s m ([.ref (a 0), .int x1] : List Value).toArray below meth c H locs 0 0 (MQ below (va_Qv R (uI D clA (mT tI tZ) A false (mw a tI tZ)) A) ([.ref (a 0), .int x1] : List Value).toArray s 0 0 A) (F0 m 15 ls []) := by
    intro k15
    induction k15 with
    | zero => intro σ y1 y2 y3 H locs ls hwp hP hD hS hl; exact False.elim hwp
    | succ k15 ih15 =>
      intro σ y1 y2 y3 H locs ls hwp hP hD hS hl
      have cut56 : ∀ (σ : MS) (y1 : Int32) (y2 : Int32) (y3 : Int32) (z0 : Int32) (H : Heap) (locs : List Loc) (ls : Array Slot), wM_begin_56 (wM_begin_15 R k15) R σ y1 y2 y3 z0 → va_P D clA (mw a tI tZ σ) H → va_D A (mw a tI tZ σ) → va_S A s.heap H locs → lv_has ls 4 [(0, .ref (a 0)), (1, .int y1), (2, .int y2), (3, .int y3)] → W p l e (headSpec wsMo_begin rmM_begin).room s m ([.ref (a 0), .int x1] : List Value).toArray below meth c H locs 0 0 (MQ below (va_Qv R (uI D clA (mT tI tZ) A false (mw a tI tZ)) A) ([.ref (a 0), .int x1] : List Value).toArray s 0 0 A) (F0 m 56 ls [.int z0]) := by
        intro σ y1 y2 y3 z0 H locs ls hwp hP hD hS hl
        refine lv_istore_n hx hb dMo_begin_56 rfl hl (by decide) rfl (fun ls hl => ?_)
        have hl : lv_has ls 4 [(2, .int z0), (0, .ref (a 0)), (1, .int y1), (3, .int y3)] := hl
        refine lv_iinc (k := 3) hx hb dMo_begin_57 hl rfl (fx_inc1 _) (by decide) rfl (fun ls hl => ?_)
        have hl : lv_has ls 4 [(3, .int (y3 + 1)), (2, .int z0), (0, .ref (a 0)), (1, .int y1)] := hl
        refine lv_goto hx hb dMo_begin_60 rfl ?_
        exact ih15 σ y1 z0 (y3 + 1) _ _ _ hwp hP hD hS (lv_sub hl [2, 3, 1, 0] rfl)
      have cut51 : ∀ (σ : MS) (y1 : Int32) (y2 : Int32) (y3 : Int32) (H : Heap) (locs : List Loc) (ls : Array Slot), wM_begin_51 (wM_begin_15 R k15) R σ y1 y2 y3 → va_P D clA (mw a tI tZ σ) H → va_D A (mw a tI tZ σ) → va_S A s.heap H locs → lv_has ls 4 [(0, .ref (a 0)), (1, .int y1), (2, .int y2), (3, .int y3)] → W p l e (headSpec wsMo_begin rmM_begin).room s m ([.ref (a 0), .int x1] : List Value).toArray below meth c H locs 0 0 (MQ below (va_Qv R (uI D clA (mT tI tZ) A false (mw a tI tZ)) A) ([.ref (a 0), .int x1] : List Value).toArray s 0 0 A) (F0 m 51 ls []) := by
        intro σ y1 y2 y3 H locs ls hwp hP hD hS hl
        refine lv_iconst (v := 1) hx hb dMo_begin_51 (by decide) ?_
        refine lv_goto hx hb dMo_begin_52 rfl ?_
        exact cut56 σ y1 y2 y3 1 _ _ _ hwp hP hD hS (lv_sub hl [0, 1, 2, 3] rfl)
      have hwp : wM_begin_15_step (wM_begin_15 R k15) R σ y1 y2 y3 := hwp
      refine lv_iload_n hx hb dMo_begin_15 rfl (lv_at hl 3 rfl) ?_
      refine lv_iconst (v := 4) hx hb dMo_begin_16 (by decide) ?_
      refine lv_icmp_ge hx hb dMo_begin_17 rfl (fun h6 => ?_) (fun h6 => ?_)
      · have hwp := hwp.1 h6
        refine lv_aload_n hx hb dMo_begin_63 rfl (lv_at hl 0 rfl) ?_
        refine lv_iload_n hx hb dMo_begin_64 rfl (lv_at hl 1 rfl) ?_
        obtain ⟨P7, hP7, hwp⟩ := hwp
        refine uCallSi (As := [.int y1]) (rest := [.ref (a 0)]) ⟨hx, hb, hml, hown, hts⟩ (kM_isNode l D a A tI tZ σ y1 P7 hP7) (cwS 1 hts (gdS wm_847 wm_848 wm_13 wm_849) rfl rfl rfl (by decide +kernel) ⟨Nat.le_of_ble_eq_true rfl, Nat.le_of_ble_eq_true rfl⟩) hP hK hD hA hS rfl hl.1 rfl (Nat.le_of_ble_eq_true rfl) dMo_begin_65 ⟨Nat.le_of_ble_eq_true rfl, Nat.le_of_ble_eq_true rfl⟩ (fun r9 u8 H locs hu8 hP hD hS => ?_)
        have hwp := hwp r9 u8 hu8
        refine lv_if_ne hx hb dMo_begin_68 rfl (fun h10 => ?_) (fun h10 => ?_)
        · have hwp := hwp.1 h10
          refine lv_iload_n hx hb dMo_begin_75 rfl (lv_at hl 2 rfl) ?_
          refine lv_if_eq hx hb dMo_begin_76 rfl (fun h11 => ?_) (fun h11 => ?_)
          · have hwp := hwp.1 h11
            refine lv_iconst (v := 0) hx hb dMo_begin_83 (by decide) ?_
            exact cut84 u8 y1 y2 y3 0 _ _ _ hwp hP hD hS (lv_sub hl [0, 1, 2, 3] rfl)
          · have hwp := hwp.2 h11
            refine lv_iconst (v := 2) hx hb dMo_begin_79 (by decide) ?_
            refine lv_goto hx hb dMo_begin_80 rfl ?_
            exact cut84 u8 y1 y2 y3 2 _ _ _ hwp hP hD hS (lv_sub hl [0, 1, 2, 3] rfl)
        · have hwp := hwp.2 h10
          refine lv_iconst (v := 1) hx hb dMo_begin_71 (by decide) ?_
          refine lv_goto hx hb dMo_begin_72 rfl ?_
          exact cut84 u8 y1 y2 y3 1 _ _ _ hwp hP hD hS (lv_sub hl [0, 1, 2, 3] rfl)
      · have hwp := hwp.2 h6
        refine lv_iload_n hx hb dMo_begin_20 rfl (lv_at hl 2 rfl) ?_
        refine lv_if_ne hx hb dMo_begin_21 rfl (fun h12 => ?_) (fun h12 => ?_)
        · have hwp := hwp.1 h12
          exact cut51 σ y1 y2 y3 _ _ _ hwp hP hD hS (lv_sub hl [0, 1, 2, 3] rfl)
        · have hwp := hwp.2 h12
          refine lv_aload_n hx hb dMo_begin_24 rfl (lv_at hl 0 rfl) ?_
          refine va_get (D := D) (ci := 0) (C := RMo) (T := TMo) (N := 33) hx hb hts hin0 hown hK hP 0 rfl rfl 29 (by decide) k81 (fun _ h9 => h9) rfl dMo_begin_25 ?_
          refine lv_iload_n hx hb dMo_begin_28 rfl (lv_at hl 3 rfl) ?_
          obtain ⟨hi13, hwp⟩ := hwp
          refine va_zald hx hb hK hP 22 1 rfl rfl hi13 dMo_begin_29 ?_
          refine lv_if_ne hx hb dMo_begin_30 rfl (fun h14 => ?_) (fun h14 => ?_)
          · have hwp := hwp.1 h14
            exact cut51 σ y1 y2 y3 _ _ _ hwp hP hD hS (lv_sub hl [0, 1, 2, 3] rfl)
          · have hwp := hwp.2 h14
            refine lv_aload_n hx hb dMo_begin_33 rfl (lv_at hl 0 rfl) ?_
            refine va_get (D := D) (ci := 0) (C := RMo) (T := TMo) (N := 33) hx hb hts hin0 hown hK hP 0 rfl rfl 30 (by decide) k84 (fun _ h9 => h9) rfl dMo_begin_34 ?_
            refine lv_iload_n hx hb dMo_begin_37 rfl (lv_at hl 3 rfl) ?_
            obtain ⟨hi15, hwp⟩ := hwp
            refine va_iald hx hb hK hP 23 0 rfl rfl hi15 dMo_begin_38 ?_
            refine lv_if_ge hx hb dMo_begin_39 rfl (fun h16 => ?_) (fun h16 => ?_)
            · have hwp := hwp.1 h16
              exact cut51 σ y1 y2 y3 _ _ _ hwp hP hD hS (lv_sub hl [0, 1, 2, 3] rfl)
            · have hwp := hwp.2 h16
              refine lv_aload_n hx hb dMo_begin_42 rfl (lv_at hl 0 rfl) ?_
              refine va_get (D := D) (ci := 0) (C := RMo) (T := TMo) (N := 33) hx hb hts hin0 hown hK hP 0 rfl rfl 31 (by decide) k87 (fun _ h9 => h9) rfl dMo_begin_43 ?_
              refine lv_iload_n hx hb dMo_begin_46 rfl (lv_at hl 3 rfl) ?_
              obtain ⟨hi17, hwp⟩ := hwp
              refine va_iald hx hb hK hP 24 0 rfl rfl hi17 dMo_begin_47 ?_
              refine lv_if_le hx hb dMo_begin_48 rfl (fun h18 => ?_) (fun h18 => ?_)
              · have hwp := hwp.1 h18
                refine lv_iconst (v := 0) hx hb dMo_begin_55 (by decide) ?_
                exact cut56 σ y1 y2 y3 0 _ _ _ hwp hP hD hS (lv_sub hl [0, 1, 2, 3] rfl)
              · have hwp := hwp.2 h18
                exact cut51 σ y1 y2 y3 _ _ _ hwp hP hD hS (lv_sub hl [0, 1, 2, 3] rfl)
  have cut12 : ∀ (σ : MS) (y1 : Int32) (z0 : Int32) (H : Heap) (locs : List Loc) (ls : Array Slot), wM_begin_12 R σ y1 z0 → va_P D clA (mw a tI tZ σ) H → va_D A (mw a tI tZ σ) → va_S A s.heap H locs → lv_has ls 4 [(0, .ref (a 0)), (1, .int y1)] → W p l e (headSpec wsMo_begin rmM_begin).room s m ([.ref (a 0), .int x1] : List Value).toArray below meth c H locs 0 0 (MQ below (va_Qv R (uI D clA (mT tI tZ) A false (mw a tI tZ)) A) ([.ref (a 0), .int x1] : List Value).toArray s 0 0 A) (F0 m 12 ls [.int z0]) := by
    intro σ y1 z0 H locs ls hwp hP hD hS hl
    refine lv_istore_n hx hb dMo_begin_12 rfl hl (by decide) rfl (fun ls hl => ?_)
    have hl : lv_has ls 4 [(2, .int z0), (0, .ref (a 0)), (1, .int y1)] := hl
    refine lv_iconst (v := 0) hx hb dMo_begin_13 (by decide) ?_
    refine lv_istore_n hx hb dMo_begin_14 rfl hl (by decide) rfl (fun ls hl => ?_)
    have hl : lv_has ls 4 [(3, .int 0), (2, .int z0), (0, .ref (a 0)), (1, .int y1)] := hl
    exact cut15 5 σ y1 z0 0 _ _ _ hwp hP hD hS (lv_sub hl [2, 3, 1, 0] rfl)
  have hl := lv_entry ([.ref (a 0), .int x1]) (n := 4) (Nat.le_of_ble_eq_true rfl)
  rw [lg_entry_eq]
  generalize (lg_sl ([.ref (a 0), .int x1]) ++ List.replicate (4 - (lg_sl ([.ref (a 0), .int x1])).length) Slot.unset).toArray = ls at hl ⊢
  have hl : lv_has ls 4 [(0, .ref (a 0)), (1, .int x1)] := hl
  refine lv_aload_n hx hb dMo_begin_0 rfl (lv_at hl 0 rfl) ?_
  refine va_get (D := D) (ci := 0) (C := RMo) (T := TMo) (N := 33) hx hb hts hin0 hown hK hP 0 rfl rfl 27 (by decide) k78 (fun _ h9 => h9) rfl dMo_begin_1 ?_
  refine lv_if_lt hx hb dMo_begin_4 rfl (fun h19 => ?_) (fun h19 => ?_)
  · have hwp := hwp.1 h19
    refine lv_iconst (v := 0) hx hb dMo_begin_11 (by decide) ?_
    exact cut12 σ x1 0 _ _ _ hwp hP hD hS (lv_sub hl [0, 1] rfl)
  · have hwp := hwp.2 h19
    refine lv_iconst (v := 1) hx hb dMo_begin_7 (by decide) ?_
    refine lv_goto hx hb dMo_begin_8 rfl ?_
    exact cut12 σ x1 1 _ _ _ hwp hP hD hS (lv_sub hl [0, 1] rfl)
-- public void spread(int, int)
def wM_spread_38 (R : MS → Prop) (σ : MS) (y1 : Int32) (y2 : Int32) (z1 : Int32) : Prop :=
  (∀ σ1 : MS, σ1 = up2 σ 32 0 z1 → (((¬ (σ1 32 0) = 0) → R σ1) ∧ (((σ1 32 0) = 0) → (vp_in y1 4 ∧ (vp_in y1 4 ∧ (∀ σ5 : MS, σ5 = up2 σ1 31 y1.toNatClampNeg ((σ1 31 y1.toNatClampNeg) + 1) → (∃ P6 : MS → Prop, wM_send P6 σ5 y1 y2 4 0 0 ∧ (∀ (u7 : MS), P6 u7 → R u7))))))))
def wM_spread_33 (R : MS → Prop) (σ : MS) (y1 : Int32) (y2 : Int32) : Prop :=
  wM_spread_38 R σ y1 y2 2
def wM_spread (R : MS → Prop) (σ : MS) (x1 x2 : Int32) : Prop :=
  (∃ P8 : Int32 → MS → Prop, wM_isChannel P8 σ x1 x2 ∧ (∀ (r10 : Int32) (u9 : MS), P8 r10 u9 → (((¬ r10 = 0) → (vp_in x1 4 ∧ ((((u9 29 x1.toNatClampNeg) = 0) → wM_spread_33 R u9 x1 x2) ∧ ((¬ (u9 29 x1.toNatClampNeg) = 0) → (vp_in x1 4 ∧ (((¬ (u9 31 x1.toNatClampNeg) = 20) → wM_spread_38 R u9 x1 x2 0) ∧ (((u9 31 x1.toNatClampNeg) = 20) → wM_spread_33 R u9 x1 x2))))))) ∧ ((r10 = 0) → wM_spread_38 R u9 x1 x2 1))))
abbrev wsMo_spread : List Cond := .code yMo_spread cMo_spread 3 none :: wg
abbrev rmM_spread : Room := { frames := 2, cells := 0, slots := 0, locals := 41 }
set_option maxHeartbeats 4000000 in
set_option maxRecDepth 100000 in
theorem kM_spread (l : Launch) (D : va_G) (a : Nat → Nat) (A : Nat → Prop) (tI tZ : ClassId) (σ : MS) (x1 x2 : Int32) (R : MS → Prop) (hwp : wM_spread R σ x1 x2) : Met l yMo_spread wsMo_spread rmM_spread (va_Pc [.ref (a 0), .int x1, .int x2] (uI D clA (mT tI tZ) A false (mw a tI tZ) σ)) (va_Qv R (uI D clA (mT tI tZ) A false (mw a tI tZ)) A) 0 0 A := by
  refine Met.ofW (cc := cMo_spread) (maxL := 3) (ret := none) (by decide) rfl ?_
  intro p e s m args below meth c s₁ B hml hv
  obtain ⟨rfl, hP, hK, hD, hA⟩ := hv
  have hx := B.exec
  have hb := B.bytes
  have hr := B.returns
  have hts := atoms_spec (ws := wsMo_spread) B.pre
  have hown : s.vm.findClass RMo = some m.cls := findClass_of_methodNamed B.named
  have hlocks := B.notSynchronized
  have hin0 : ∀ w ∈ u_ws RMo TMo 33, w ∈ wsMo_spread := fun w h => List.mem_cons_of_mem _ (inMo w h)
  have k81 := hts _ (List.mem_cons_of_mem _ wm_765)
  have k87 := hts _ (List.mem_cons_of_mem _ wm_767)
  have k90 := hts _ (List.mem_cons_of_mem _ wm_768)
  have hS : va_S A s.heap s.heap [] := va_S.rf
  have cut38 : ∀ (σ : MS) (y1 : Int32) (y2 : Int32) (z1 : Int32) (H : Heap) (locs : List Loc) (ls : Array Slot), wM_spread_38 R σ y1 y2 z1 → va_P D clA (mw a tI tZ σ) H → va_D A (mw a tI tZ σ) → va_S A s.heap H locs → lv_has ls 3 [(0, .ref (a 0)), (1, .int y1), (2, .int y2)] → W p l e (headSpec wsMo_spread rmM_spread).room s m ([.ref (a 0), .int x1, .int x2] : List Value).toArray below meth c H locs 0 0 (MQ below (va_Qv R (uI D clA (mT tI tZ) A false (mw a tI tZ)) A) ([.ref (a 0), .int x1, .int x2] : List Value).toArray s 0 0 A) (F0 m 38 ls [.int z1, .ref (a 0)]) := by
    intro σ y1 y2 z1 H locs ls hwp hP hD hS hl
    refine va_put (ty := .int) (D := D) (ci := 0) (C := RMo) (T := TMo) (N := 33) hx hb hts hin0 tyMo tyMo_ok nmMo hown hK hP hD hS 0 rfl rfl 32 (by decide) k90 (fun _ h9 => h9) rfl (by decide +kernel) rfl rfl (Nat.le_of_ble_eq_true rfl) dMo_spread_38 (fun H locs hP hD hS => ?_)
    obtain ⟨σ1, eσ1⟩ : ∃ z, z = up2 σ 32 0 z1 := ⟨_, rfl⟩
    have hwp := hwp σ1 eσ1
    have hP : va_P D clA (mw a tI tZ σ1) H := by rw [eσ1]; exact hP
    have hD : va_D A (mw a tI tZ σ1) := by rw [eσ1]; exact hD
    refine lv_aload_n hx hb dMo_spread_41 rfl (lv_at hl 0 rfl) ?_
    refine va_get (D := D) (ci := 0) (C := RMo) (T := TMo) (N := 33) hx hb hts hin0 hown hK hP 0 rfl rfl 32 (by decide) k90 (fun _ h9 => h9) rfl dMo_spread_42 ?_
    refine lv_if_ne hx hb dMo_spread_45 rfl (fun h2 => ?_) (fun h2 => ?_)
    · have hwp := hwp.1 h2
      exact W.vret hx hb hr (fun t ht hW => ⟨⟨σ1, rfl, hwp, uEnd ht hW hP hK hD hS hA⟩, hS.F ht⟩) hS.2.2 dMo_spread_67
    · have hwp := hwp.2 h2
      refine lv_aload_n hx hb dMo_spread_48 rfl (lv_at hl 0 rfl) ?_
      refine va_get (D := D) (ci := 0) (C := RMo) (T := TMo) (N := 33) hx hb hts hin0 hown hK hP 0 rfl rfl 31 (by decide) k87 (fun _ h9 => h9) rfl dMo_spread_49 ?_
      refine lv_iload_n hx hb dMo_spread_52 rfl (lv_at hl 1 rfl) ?_
      refine lv_dup2_11 hx hb dMo_spread_53 rfl rfl ?_
      obtain ⟨hi3, hwp⟩ := hwp
      refine va_iald hx hb hK hP 24 0 rfl rfl hi3 dMo_spread_54 ?_
      refine lv_iconst (v := 1) hx hb dMo_spread_55 (by decide) ?_
      refine lv_iadd hx hb dMo_spread_56 ?_
      obtain ⟨hi4, hwp⟩ := hwp
      refine va_iast hx hb hK hP hD hS 24 0 rfl rfl hi4 dMo_spread_57 (fun H locs hP hD hS => ?_)
      obtain ⟨σ5, eσ5⟩ : ∃ z, z = up2 σ1 31 y1.toNatClampNeg ((σ1 31 y1.toNatClampNeg) + 1) := ⟨_, rfl⟩
      have hwp := hwp σ5 eσ5
      have hP : va_P D clA (mw a tI tZ σ5) H := by rw [eσ5]; exact hP
      have hD : va_D A (mw a tI tZ σ5) := by rw [eσ5]; exact hD
      refine lv_aload_n hx hb dMo_spread_58 rfl (lv_at hl 0 rfl) ?_
      refine lv_iload_n hx hb dMo_spread_59 rfl (lv_at hl 1 rfl) ?_
      refine lv_iload_n hx hb dMo_spread_60 rfl (lv_at hl 2 rfl) ?_
      refine lv_iconst (v := 4) hx hb dMo_spread_61 (by decide) ?_
      refine lv_iconst (v := 0) hx hb dMo_spread_62 (by decide) ?_
      refine lv_iconst (v := 0) hx hb dMo_spread_63 (by decide) ?_
      obtain ⟨P6, hP6, hwp⟩ := hwp
      refine uCallVv (As := [.int y1, .int y2, .int 4, .int 0, .int 0]) (rest := []) (C := RMo) ⟨hx, hb, hml, hown, hts⟩ (kM_send l D a A tI tZ σ5 y1 y2 4 0 0 P6 hP6) (cwV 5 hts (gdV wm_858 wm_860 wp_18 wm_13 wm_861) rfl rfl rfl (by decide +kernel) ⟨Nat.le_of_ble_eq_true rfl, Nat.le_of_ble_eq_true rfl⟩) (va_recv (ci := 0) (q0 := 0) hK hP rfl rfl) hP hK hD hA hS rfl hl.1 rfl (Nat.le_of_ble_eq_true rfl) dMo_spread_64 ⟨Nat.le_of_ble_eq_true rfl, Nat.le_of_ble_eq_true rfl⟩ (fun u7 H locs hu7 hP hD hS => ?_)
      have hwp := hwp u7 hu7
      exact W.vret hx hb hr (fun t ht hW => ⟨⟨u7, rfl, hwp, uEnd ht hW hP hK hD hS hA⟩, hS.F ht⟩) hS.2.2 dMo_spread_67
  have cut33 : ∀ (σ : MS) (y1 : Int32) (y2 : Int32) (H : Heap) (locs : List Loc) (ls : Array Slot), wM_spread_33 R σ y1 y2 → va_P D clA (mw a tI tZ σ) H → va_D A (mw a tI tZ σ) → va_S A s.heap H locs → lv_has ls 3 [(0, .ref (a 0)), (1, .int y1), (2, .int y2)] → W p l e (headSpec wsMo_spread rmM_spread).room s m ([.ref (a 0), .int x1, .int x2] : List Value).toArray below meth c H locs 0 0 (MQ below (va_Qv R (uI D clA (mT tI tZ) A false (mw a tI tZ)) A) ([.ref (a 0), .int x1, .int x2] : List Value).toArray s 0 0 A) (F0 m 33 ls [.ref (a 0)]) := by
    intro σ y1 y2 H locs ls hwp hP hD hS hl
    refine lv_iconst (v := 2) hx hb dMo_spread_33 (by decide) ?_
    refine lv_goto hx hb dMo_spread_34 rfl ?_
    exact cut38 σ y1 y2 2 _ _ _ hwp hP hD hS (lv_sub hl [0, 1, 2] rfl)
  have hl := lv_entry ([.ref (a 0), .int x1, .int x2]) (n := 3) (Nat.le_of_ble_eq_true rfl)
  rw [lg_entry_eq]
  generalize (lg_sl ([.ref (a 0), .int x1, .int x2]) ++ List.replicate (3 - (lg_sl ([.ref (a 0), .int x1, .int x2])).length) Slot.unset).toArray = ls at hl ⊢
  have hl : lv_has ls 3 [(0, .ref (a 0)), (1, .int x1), (2, .int x2)] := hl
  refine lv_aload_n hx hb dMo_spread_0 rfl (lv_at hl 0 rfl) ?_
  refine lv_iload_n hx hb dMo_spread_1 rfl (lv_at hl 1 rfl) ?_
  refine lv_iload_n hx hb dMo_spread_2 rfl (lv_at hl 2 rfl) ?_
  obtain ⟨P8, hP8, hwp⟩ := hwp
  refine uCallSi (As := [.int x1, .int x2]) (rest := [.ref (a 0)]) ⟨hx, hb, hml, hown, hts⟩ (kM_isChannel l D a A tI tZ σ x1 x2 P8 hP8) (cwS 2 hts (gdS wm_844 wm_845 wm_13 wm_846) rfl rfl rfl (by decide +kernel) ⟨Nat.le_of_ble_eq_true rfl, Nat.le_of_ble_eq_true rfl⟩) hP hK hD hA hS rfl hl.1 rfl (Nat.le_of_ble_eq_true rfl) dMo_spread_3 ⟨Nat.le_of_ble_eq_true rfl, Nat.le_of_ble_eq_true rfl⟩ (fun r10 u9 H locs hu9 hP hD hS => ?_)
  have hwp := hwp r10 u9 hu9
  refine lv_if_ne hx hb dMo_spread_6 rfl (fun h11 => ?_) (fun h11 => ?_)
  · have hwp := hwp.1 h11
    refine lv_aload_n hx hb dMo_spread_13 rfl (lv_at hl 0 rfl) ?_
    refine va_get (D := D) (ci := 0) (C := RMo) (T := TMo) (N := 33) hx hb hts hin0 hown hK hP 0 rfl rfl 29 (by decide) k81 (fun _ h9 => h9) rfl dMo_spread_14 ?_
    refine lv_iload_n hx hb dMo_spread_17 rfl (lv_at hl 1 rfl) ?_
    obtain ⟨hi12, hwp⟩ := hwp
    refine va_zald hx hb hK hP 22 1 rfl rfl hi12 dMo_spread_18 ?_
    refine lv_if_eq hx hb dMo_spread_19 rfl (fun h13 => ?_) (fun h13 => ?_)
    · have hwp := hwp.1 h13
      exact cut33 u9 x1 x2 _ _ _ hwp hP hD hS (lv_sub hl [0, 1, 2] rfl)
    · have hwp := hwp.2 h13
      refine lv_aload_n hx hb dMo_spread_22 rfl (lv_at hl 0 rfl) ?_
      refine va_get (D := D) (ci := 0) (C := RMo) (T := TMo) (N := 33) hx hb hts hin0 hown hK hP 0 rfl rfl 31 (by decide) k87 (fun _ h9 => h9) rfl dMo_spread_23 ?_
      refine lv_iload_n hx hb dMo_spread_26 rfl (lv_at hl 1 rfl) ?_
      obtain ⟨hi14, hwp⟩ := hwp
      refine va_iald hx hb hK hP 24 0 rfl rfl hi14 dMo_spread_27 ?_
      refine lv_bipush (v := 20) hx hb dMo_spread_28 (by decide) ?_
      refine lv_icmp_ne hx hb dMo_spread_30 rfl (fun h15 => ?_) (fun h15 => ?_)
      · have hwp := hwp.1 h15
        refine lv_iconst (v := 0) hx hb dMo_spread_37 (by decide) ?_
        exact cut38 u9 x1 x2 0 _ _ _ hwp hP hD hS (lv_sub hl [0, 1, 2] rfl)
      · have hwp := hwp.2 h15
        exact cut33 u9 x1 x2 _ _ _ hwp hP hD hS (lv_sub hl [0, 1, 2] rfl)
  · have hwp := hwp.2 h11
    refine lv_iconst (v := 1) hx hb dMo_spread_9 (by decide) ?_
    refine lv_goto hx hb dMo_spread_10 rfl ?_
    exact cut38 u9 x1 x2 1 _ _ _ hwp hP hD hS (lv_sub hl [0, 1, 2] rfl)
-- public void rest(int)
def wM_rest_26 (R : MS → Prop) (σ : MS) (y1 : Int32) (z1 : Int32) : Prop :=
  (∀ σ1 : MS, σ1 = up2 σ 32 0 z1 → (((¬ (σ1 32 0) = 0) → R σ1) ∧ (((σ1 32 0) = 0) → (vp_in y1 4 ∧ (∀ σ4 : MS, σ4 = up2 σ1 29 y1.toNatClampNeg (vp_nar .boolean 0) → (∃ P5 : MS → Prop, wM_settle P5 σ4 y1 ∧ (∀ (u6 : MS), P5 u6 → R u6)))))))
def wM_rest (R : MS → Prop) (σ : MS) (x1 : Int32) : Prop :=
  (∃ P7 : Int32 → MS → Prop, wM_isNode P7 σ x1 ∧ (∀ (r9 : Int32) (u8 : MS), P7 r9 u8 → (((¬ r9 = 0) → (vp_in x1 4 ∧ (((¬ (u8 29 x1.toNatClampNeg) = 0) → wM_rest_26 R u8 x1 0) ∧ (((u8 29 x1.toNatClampNeg) = 0) → wM_rest_26 R u8 x1 2)))) ∧ ((r9 = 0) → wM_rest_26 R u8 x1 1))))
abbrev wsMo_rest : List Cond := .code yMo_rest cMo_rest 2 none :: wg
abbrev rmM_rest : Room := { frames := 2, cells := 0, slots := 0, locals := 49 }
set_option maxHeartbeats 4000000 in
set_option maxRecDepth 100000 in
theorem kM_rest (l : Launch) (D : va_G) (a : Nat → Nat) (A : Nat → Prop) (tI tZ : ClassId) (σ : MS) (x1 : Int32) (R : MS → Prop) (hwp : wM_rest R σ x1) : Met l yMo_rest wsMo_rest rmM_rest (va_Pc [.ref (a 0), .int x1] (uI D clA (mT tI tZ) A false (mw a tI tZ) σ)) (va_Qv R (uI D clA (mT tI tZ) A false (mw a tI tZ)) A) 0 0 A := by
  refine Met.ofW (cc := cMo_rest) (maxL := 2) (ret := none) (by decide) rfl ?_
  intro p e s m args below meth c s₁ B hml hv
  obtain ⟨rfl, hP, hK, hD, hA⟩ := hv
  have hx := B.exec
  have hb := B.bytes
  have hr := B.returns
  have hts := atoms_spec (ws := wsMo_rest) B.pre
  have hown : s.vm.findClass RMo = some m.cls := findClass_of_methodNamed B.named
  have hlocks := B.notSynchronized
  have hin0 : ∀ w ∈ u_ws RMo TMo 33, w ∈ wsMo_rest := fun w h => List.mem_cons_of_mem _ (inMo w h)
  have k81 := hts _ (List.mem_cons_of_mem _ wm_765)
  have k90 := hts _ (List.mem_cons_of_mem _ wm_768)
  have hS : va_S A s.heap s.heap [] := va_S.rf
  have cut26 : ∀ (σ : MS) (y1 : Int32) (z1 : Int32) (H : Heap) (locs : List Loc) (ls : Array Slot), wM_rest_26 R σ y1 z1 → va_P D clA (mw a tI tZ σ) H → va_D A (mw a tI tZ σ) → va_S A s.heap H locs → lv_has ls 2 [(0, .ref (a 0)), (1, .int y1)] → W p l e (headSpec wsMo_rest rmM_rest).room s m ([.ref (a 0), .int x1] : List Value).toArray below meth c H locs 0 0 (MQ below (va_Qv R (uI D clA (mT tI tZ) A false (mw a tI tZ)) A) ([.ref (a 0), .int x1] : List Value).toArray s 0 0 A) (F0 m 26 ls [.int z1, .ref (a 0)]) := by
    intro σ y1 z1 H locs ls hwp hP hD hS hl
    refine va_put (ty := .int) (D := D) (ci := 0) (C := RMo) (T := TMo) (N := 33) hx hb hts hin0 tyMo tyMo_ok nmMo hown hK hP hD hS 0 rfl rfl 32 (by decide) k90 (fun _ h9 => h9) rfl (by decide +kernel) rfl rfl (Nat.le_of_ble_eq_true rfl) dMo_rest_26 (fun H locs hP hD hS => ?_)
    obtain ⟨σ1, eσ1⟩ : ∃ z, z = up2 σ 32 0 z1 := ⟨_, rfl⟩
    have hwp := hwp σ1 eσ1
    have hP : va_P D clA (mw a tI tZ σ1) H := by rw [eσ1]; exact hP
    have hD : va_D A (mw a tI tZ σ1) := by rw [eσ1]; exact hD
    refine lv_aload_n hx hb dMo_rest_29 rfl (lv_at hl 0 rfl) ?_
    refine va_get (D := D) (ci := 0) (C := RMo) (T := TMo) (N := 33) hx hb hts hin0 hown hK hP 0 rfl rfl 32 (by decide) k90 (fun _ h9 => h9) rfl dMo_rest_30 ?_
    refine lv_if_ne hx hb dMo_rest_33 rfl (fun h2 => ?_) (fun h2 => ?_)
    · have hwp := hwp.1 h2
      exact W.vret hx hb hr (fun t ht hW => ⟨⟨σ1, rfl, hwp, uEnd ht hW hP hK hD hS hA⟩, hS.F ht⟩) hS.2.2 dMo_rest_48
    · have hwp := hwp.2 h2
      refine lv_aload_n hx hb dMo_rest_36 rfl (lv_at hl 0 rfl) ?_
      refine va_get (D := D) (ci := 0) (C := RMo) (T := TMo) (N := 33) hx hb hts hin0 hown hK hP 0 rfl rfl 29 (by decide) k81 (fun _ h9 => h9) rfl dMo_rest_37 ?_
      refine lv_iload_n hx hb dMo_rest_40 rfl (lv_at hl 1 rfl) ?_
      refine lv_iconst (v := 0) hx hb dMo_rest_41 (by decide) ?_
      obtain ⟨hi3, hwp⟩ := hwp
      refine va_zast hx hb hK hP hD hS 22 1 rfl rfl hi3 dMo_rest_42 (fun H locs hP hD hS => ?_)
      obtain ⟨σ4, eσ4⟩ : ∃ z, z = up2 σ1 29 y1.toNatClampNeg (vp_nar .boolean 0) := ⟨_, rfl⟩
      have hwp := hwp σ4 eσ4
      have hP : va_P D clA (mw a tI tZ σ4) H := by rw [eσ4]; exact hP
      have hD : va_D A (mw a tI tZ σ4) := by rw [eσ4]; exact hD
      refine lv_aload_n hx hb dMo_rest_43 rfl (lv_at hl 0 rfl) ?_
      refine lv_iload_n hx hb dMo_rest_44 rfl (lv_at hl 1 rfl) ?_
      obtain ⟨P5, hP5, hwp⟩ := hwp
      refine uCallVv (As := [.int y1]) (rest := []) (C := RMo) ⟨hx, hb, hml, hown, hts⟩ (kM_settle l D a A tI tZ σ4 y1 P5 hP5) (cwV 1 hts (gdV wm_894 wm_896 wp_27 wm_13 wm_897) rfl rfl rfl (by decide +kernel) ⟨Nat.le_of_ble_eq_true rfl, Nat.le_of_ble_eq_true rfl⟩) (va_recv (ci := 0) (q0 := 0) hK hP rfl rfl) hP hK hD hA hS rfl hl.1 rfl (Nat.le_of_ble_eq_true rfl) dMo_rest_45 ⟨Nat.le_of_ble_eq_true rfl, Nat.le_of_ble_eq_true rfl⟩ (fun u6 H locs hu6 hP hD hS => ?_)
      have hwp := hwp u6 hu6
      exact W.vret hx hb hr (fun t ht hW => ⟨⟨u6, rfl, hwp, uEnd ht hW hP hK hD hS hA⟩, hS.F ht⟩) hS.2.2 dMo_rest_48
  have hl := lv_entry ([.ref (a 0), .int x1]) (n := 2) (Nat.le_of_ble_eq_true rfl)
  rw [lg_entry_eq]
  generalize (lg_sl ([.ref (a 0), .int x1]) ++ List.replicate (2 - (lg_sl ([.ref (a 0), .int x1])).length) Slot.unset).toArray = ls at hl ⊢
  have hl : lv_has ls 2 [(0, .ref (a 0)), (1, .int x1)] := hl
  refine lv_aload_n hx hb dMo_rest_0 rfl (lv_at hl 0 rfl) ?_
  refine lv_iload_n hx hb dMo_rest_1 rfl (lv_at hl 1 rfl) ?_
  obtain ⟨P7, hP7, hwp⟩ := hwp
  refine uCallSi (As := [.int x1]) (rest := [.ref (a 0)]) ⟨hx, hb, hml, hown, hts⟩ (kM_isNode l D a A tI tZ σ x1 P7 hP7) (cwS 1 hts (gdS wm_847 wm_848 wm_13 wm_849) rfl rfl rfl (by decide +kernel) ⟨Nat.le_of_ble_eq_true rfl, Nat.le_of_ble_eq_true rfl⟩) hP hK hD hA hS rfl hl.1 rfl (Nat.le_of_ble_eq_true rfl) dMo_rest_2 ⟨Nat.le_of_ble_eq_true rfl, Nat.le_of_ble_eq_true rfl⟩ (fun r9 u8 H locs hu8 hP hD hS => ?_)
  have hwp := hwp r9 u8 hu8
  refine lv_if_ne hx hb dMo_rest_5 rfl (fun h10 => ?_) (fun h10 => ?_)
  · have hwp := hwp.1 h10
    refine lv_aload_n hx hb dMo_rest_12 rfl (lv_at hl 0 rfl) ?_
    refine va_get (D := D) (ci := 0) (C := RMo) (T := TMo) (N := 33) hx hb hts hin0 hown hK hP 0 rfl rfl 29 (by decide) k81 (fun _ h9 => h9) rfl dMo_rest_13 ?_
    refine lv_iload_n hx hb dMo_rest_16 rfl (lv_at hl 1 rfl) ?_
    obtain ⟨hi11, hwp⟩ := hwp
    refine va_zald hx hb hK hP 22 1 rfl rfl hi11 dMo_rest_17 ?_
    refine lv_if_ne hx hb dMo_rest_18 rfl (fun h12 => ?_) (fun h12 => ?_)
    · have hwp := hwp.1 h12
      refine lv_iconst (v := 0) hx hb dMo_rest_25 (by decide) ?_
      exact cut26 u8 x1 0 _ _ _ hwp hP hD hS (lv_sub hl [0, 1] rfl)
    · have hwp := hwp.2 h12
      refine lv_iconst (v := 2) hx hb dMo_rest_21 (by decide) ?_
      refine lv_goto hx hb dMo_rest_22 rfl ?_
      exact cut26 u8 x1 2 _ _ _ hwp hP hD hS (lv_sub hl [0, 1] rfl)
  · have hwp := hwp.2 h10
    refine lv_iconst (v := 1) hx hb dMo_rest_8 (by decide) ?_
    refine lv_goto hx hb dMo_rest_9 rfl ?_
    exact cut26 u8 x1 1 _ _ _ hwp hP hD hS (lv_sub hl [0, 1] rfl)
-- public int deliver(int, int)
def wM_deliver_245 (R : Int32 → MS → Prop) (σ : MS) (y1 : Int32) (y2 : Int32) (y3 : Int32) (y4 : Int32) (y5 : Int32) (y6 : Int32) (y7 : Int32) : Prop :=
  R y5 σ
def wM_deliver_94 (R : Int32 → MS → Prop) (σ : MS) (y1 : Int32) (y2 : Int32) (y3 : Int32) (y4 : Int32) (z1 : Int32) (z2 : Int32) : Prop :=
  (vp_in z1 16 ∧ (∀ σ2 : MS, σ2 = up2 σ 1 z1.toNatClampNeg z2 → (vp_in y3 16 ∧ (vp_in y3 16 ∧ (∀ σ5 : MS, σ5 = up2 σ2 2 y3.toNatClampNeg ((σ2 2 y3.toNatClampNeg) - 1) → (vp_in y4 700 ∧ (∀ σ7 : MS, σ7 = up2 σ5 5 y4.toNatClampNeg (σ5 7 0) → (∀ σ8 : MS, σ8 = up2 σ7 7 0 y4 → (vp_in y4 700 ∧ (∀ v10 : Int32, v10 = (σ8 3 y4.toNatClampNeg) / 10 → (vp_in y4 700 ∧ (∀ v12 : Int32, v12 = (σ8 3 y4.toNatClampNeg) - (σ8 3 y4.toNatClampNeg) / 10 * 10 → (vp_in y4 700 ∧ (∀ v14 : Int32, v14 = σ8 4 y4.toNatClampNeg → (((v10 = 0) → (∃ P16 : MS → Prop, wM_stampArrives P16 σ8 y1 y2 v12 v14 ∧ (∀ (u17 : MS), P16 u17 → wM_deliver_245 R u17 y1 y2 y3 y4 v10 v12 v14))) ∧ ((¬ v10 = 0) → (((v10 = 1) → (∃ P19 : MS → Prop, wM_tokenArrives P19 σ8 y1 y2 v12 v14 ∧ (∀ (u20 : MS), P19 u20 → wM_deliver_245 R u20 y1 y2 y3 y4 v10 v12 v14))) ∧ ((¬ v10 = 1) → (((v10 = 2) → (∃ P22 : MS → Prop, wM_treeArrives P22 σ8 y1 y2 v12 ∧ (∀ (u23 : MS), P22 u23 → wM_deliver_245 R u23 y1 y2 y3 y4 v10 v12 v14))) ∧ ((¬ v10 = 2) → (((v10 = 3) → (∃ P25 : MS → Prop, wM_ringArrives P25 σ8 y2 v12 v14 ∧ (∀ (u26 : MS), P25 u26 → wM_deliver_245 R u26 y1 y2 y3 y4 v10 v12 v14))) ∧ ((¬ v10 = 3) → (∃ P27 : MS → Prop, wM_workArrives P27 σ8 y1 y2 v12 ∧ (∀ (u28 : MS), P27 u28 → wM_deliver_245 R u28 y1 y2 y3 y4 v10 v12 v14))))))))))))))))))))))))
def wM_deliver_31 (R : Int32 → MS → Prop) (σ : MS) (y1 : Int32) (y2 : Int32) (z1 : Int32) : Prop :=
  (∀ σ29 : MS, σ29 = up2 σ 32 0 z1 → ((((σ29 32 0) = 0) → (∀ v31 : Int32, v31 = (4 * y1) + y2 → (vp_in v31 16 ∧ (∀ v33 : Int32, v33 = σ29 0 v31.toNatClampNeg → (vp_in v33 700 ∧ (vp_in v31 16 ∧ (∀ σ36 : MS, σ36 = up2 σ29 0 v31.toNatClampNeg (σ29 5 v33.toNatClampNeg) → (vp_in v31 16 ∧ (((0 ≤ (σ36 0 v31.toNatClampNeg)) → (vp_in v31 16 ∧ wM_deliver_94 R σ36 y1 y2 v31 v33 v31 (σ36 1 v31.toNatClampNeg))) ∧ ((¬ 0 ≤ (σ36 0 v31.toNatClampNeg)) → wM_deliver_94 R σ36 y1 y2 v31 v33 v31 (-1))))))))))) ∧ ((¬ (σ29 32 0) = 0) → R 0 σ29)))
def wM_deliver (R : Int32 → MS → Prop) (σ : MS) (x1 x2 : Int32) : Prop :=
  (∃ P40 : Int32 → MS → Prop, wM_isChannel P40 σ x1 x2 ∧ (∀ (r42 : Int32) (u41 : MS), P40 r42 u41 → (((¬ r42 = 0) → (vp_in ((4 * x1) + x2) 16 ∧ (((0 ≤ (u41 0 ((4 * x1) + x2).toNatClampNeg)) → wM_deliver_31 R u41 x1 x2 0) ∧ ((¬ 0 ≤ (u41 0 ((4 * x1) + x2).toNatClampNeg)) → wM_deliver_31 R u41 x1 x2 2)))) ∧ ((r42 = 0) → wM_deliver_31 R u41 x1 x2 1))))
abbrev wsMo_deliver : List Cond := .code yMo_deliver cMo_deliver 8 (some .int) :: wg
abbrev rmM_deliver : Room := { frames := 3, cells := 0, slots := 0, locals := 72 }
set_option maxHeartbeats 4000000 in
set_option maxRecDepth 100000 in
theorem kM_deliver (l : Launch) (D : va_G) (a : Nat → Nat) (A : Nat → Prop) (tI tZ : ClassId) (σ : MS) (x1 x2 : Int32) (R : Int32 → MS → Prop) (hwp : wM_deliver R σ x1 x2) : Met l yMo_deliver wsMo_deliver rmM_deliver (va_Pc [.ref (a 0), .int x1, .int x2] (uI D clA (mT tI tZ) A false (mw a tI tZ) σ)) (va_Qi R (uI D clA (mT tI tZ) A false (mw a tI tZ)) A) 0 0 A := by
  refine Met.ofW (cc := cMo_deliver) (maxL := 8) (ret := (some .int)) (by decide) rfl ?_
  intro p e s m args below meth c s₁ B hml hv
  obtain ⟨rfl, hP, hK, hD, hA⟩ := hv
  have hx := B.exec
  have hb := B.bytes
  have hr := B.returns
  have hts := atoms_spec (ws := wsMo_deliver) B.pre
  have hown : s.vm.findClass RMo = some m.cls := findClass_of_methodNamed B.named
  have hlocks := B.notSynchronized
  have hin0 : ∀ w ∈ u_ws RMo TMo 33, w ∈ wsMo_deliver := fun w h => List.mem_cons_of_mem _ (inMo w h)
  have k13 := hts _ (List.mem_cons_of_mem _ wm_737)
  have k16 := hts _ (List.mem_cons_of_mem _ wm_738)
  have k19 := hts _ (List.mem_cons_of_mem _ wm_739)
  have k22 := hts _ (List.mem_cons_of_mem _ wm_740)
  have k25 := hts _ (List.mem_cons_of_mem _ wm_741)
  have k28 := hts _ (List.mem_cons_of_mem _ wm_743)
  have k7 := hts _ (List.mem_cons_of_mem _ wm_736)
  have k90 := hts _ (List.mem_cons_of_mem _ wm_768)
  have hS : va_S A s.heap s.heap [] := va_S.rf
  have cut245 : ∀ (σ : MS) (y1 : Int32) (y2 : Int32) (y3 : Int32) (y4 : Int32) (y5 : Int32) (y6 : Int32) (y7 : Int32) (H : Heap) (locs : List Loc) (ls : Array Slot), wM_deliver_245 R σ y1 y2 y3 y4 y5 y6 y7 → va_P D clA (mw a tI tZ σ) H → va_D A (mw a tI tZ σ) → va_S A s.heap H locs → lv_has ls 8 [(0, .ref (a 0)), (1, .int y1), (2, .int y2), (3, .int y3), (4, .int y4), (5, .int y5), (6, .int y6), (7, .int y7)] → W p l e (headSpec wsMo_deliver rmM_deliver).room s m ([.ref (a 0), .int x1, .int x2] : List Value).toArray below meth c H locs 0 0 (MQ below (va_Qi R (uI D clA (mT tI tZ) A false (mw a tI tZ)) A) ([.ref (a 0), .int x1, .int x2] : List Value).toArray s 0 0 A) (F0 m 245 ls []) := by
    intro σ y1 y2 y3 y4 y5 y6 y7 H locs ls hwp hP hD hS hl
    refine lv_iload hx hb dMo_deliver_245 (lv_at hl 5 rfl) ?_
    exact W.iret (v := y5) hx hb hr (fun t ht hW => ⟨⟨y5, σ, rfl, hwp, uEnd ht hW hP hK hD hS hA⟩, hS.F ht⟩) hS.2.2 dMo_deliver_247
  have cut94 : ∀ (σ : MS) (y1 : Int32) (y2 : Int32) (y3 : Int32) (y4 : Int32) (z1 : Int32) (z2 : Int32) (H : Heap) (locs : List Loc) (ls : Array Slot), wM_deliver_94 R σ y1 y2 y3 y4 z1 z2 → va_P D clA (mw a tI tZ σ) H → va_D A (mw a tI tZ σ) → va_S A s.heap H locs → lv_has ls 8 [(0, .ref (a 0)), (1, .int y1), (2, .int y2), (3, .int y3), (4, .int y4)] → W p l e (headSpec wsMo_deliver rmM_deliver).room s m ([.ref (a 0), .int x1, .int x2] : List Value).toArray below meth c H locs 0 0 (MQ below (va_Qi R (uI D clA (mT tI tZ) A false (mw a tI tZ)) A) ([.ref (a 0), .int x1, .int x2] : List Value).toArray s 0 0 A) (F0 m 94 ls [.int z2, .int z1, .ref (a 2)]) := by
    intro σ y1 y2 y3 y4 z1 z2 H locs ls hwp hP hD hS hl
    obtain ⟨hi1, hwp⟩ := hwp
    refine va_iast hx hb hK hP hD hS 2 0 rfl rfl hi1 dMo_deliver_94 (fun H locs hP hD hS => ?_)
    obtain ⟨σ2, eσ2⟩ : ∃ z, z = up2 σ 1 z1.toNatClampNeg z2 := ⟨_, rfl⟩
    have hwp := hwp σ2 eσ2
    have hP : va_P D clA (mw a tI tZ σ2) H := by rw [eσ2]; exact hP
    have hD : va_D A (mw a tI tZ σ2) := by rw [eσ2]; exact hD
    refine lv_aload_n hx hb dMo_deliver_95 rfl (lv_at hl 0 rfl) ?_
    refine va_get (D := D) (ci := 0) (C := RMo) (T := TMo) (N := 33) hx hb hts hin0 hown hK hP 0 rfl rfl 2 (by decide) k16 (fun _ h9 => h9) rfl dMo_deliver_96 ?_
    refine lv_iload_n hx hb dMo_deliver_99 rfl (lv_at hl 3 rfl) ?_
    refine lv_dup2_11 hx hb dMo_deliver_100 rfl rfl ?_
    obtain ⟨hi3, hwp⟩ := hwp
    refine va_iald hx hb hK hP 3 0 rfl rfl hi3 dMo_deliver_101 ?_
    refine lv_iconst (v := 1) hx hb dMo_deliver_102 (by decide) ?_
    refine lv_isub hx hb dMo_deliver_103 ?_
    obtain ⟨hi4, hwp⟩ := hwp
    refine va_iast hx hb hK hP hD hS 3 0 rfl rfl hi4 dMo_deliver_104 (fun H locs hP hD hS => ?_)
    obtain ⟨σ5, eσ5⟩ : ∃ z, z = up2 σ2 2 y3.toNatClampNeg ((σ2 2 y3.toNatClampNeg) - 1) := ⟨_, rfl⟩
    have hwp := hwp σ5 eσ5
    have hP : va_P D clA (mw a tI tZ σ5) H := by rw [eσ5]; exact hP
    have hD : va_D A (mw a tI tZ σ5) := by rw [eσ5]; exact hD
    refine lv_aload_n hx hb dMo_deliver_105 rfl (lv_at hl 0 rfl) ?_
    refine va_get (D := D) (ci := 0) (C := RMo) (T := TMo) (N := 33) hx hb hts hin0 hown hK hP 0 rfl rfl 5 (by decide) k25 (fun _ h9 => h9) rfl dMo_deliver_106 ?_
    refine lv_iload hx hb dMo_deliver_109 (lv_at hl 4 rfl) ?_
    refine lv_aload_n hx hb dMo_deliver_111 rfl (lv_at hl 0 rfl) ?_
    refine va_get (D := D) (ci := 0) (C := RMo) (T := TMo) (N := 33) hx hb hts hin0 hown hK hP 0 rfl rfl 7 (by decide) k28 (fun _ h9 => h9) rfl dMo_deliver_112 ?_
    obtain ⟨hi6, hwp⟩ := hwp
    refine va_iast hx hb hK hP hD hS 6 0 rfl rfl hi6 dMo_deliver_115 (fun H locs hP hD hS => ?_)
    obtain ⟨σ7, eσ7⟩ : ∃ z, z = up2 σ5 5 y4.toNatClampNeg (σ5 7 0) := ⟨_, rfl⟩
    have hwp := hwp σ7 eσ7
    have hP : va_P D clA (mw a tI tZ σ7) H := by rw [eσ7]; exact hP
    have hD : va_D A (mw a tI tZ σ7) := by rw [eσ7]; exact hD
    refine lv_aload_n hx hb dMo_deliver_116 rfl (lv_at hl 0 rfl) ?_
    refine lv_iload hx hb dMo_deliver_117 (lv_at hl 4 rfl) ?_
    refine va_put (ty := .int) (D := D) (ci := 0) (C := RMo) (T := TMo) (N := 33) hx hb hts hin0 tyMo tyMo_ok nmMo hown hK hP hD hS 0 rfl rfl 7 (by decide) k28 (fun _ h9 => h9) rfl (by decide +kernel) rfl rfl (Nat.le_of_ble_eq_true rfl) dMo_deliver_119 (fun H locs hP hD hS => ?_)
    obtain ⟨σ8, eσ8⟩ : ∃ z, z = up2 σ7 7 0 y4 := ⟨_, rfl⟩
    have hwp := hwp σ8 eσ8
    have hP : va_P D clA (mw a tI tZ σ8) H := by rw [eσ8]; exact hP
    have hD : va_D A (mw a tI tZ σ8) := by rw [eσ8]; exact hD
    refine lv_aload_n hx hb dMo_deliver_122 rfl (lv_at hl 0 rfl) ?_
    refine va_get (D := D) (ci := 0) (C := RMo) (T := TMo) (N := 33) hx hb hts hin0 hown hK hP 0 rfl rfl 3 (by decide) k19 (fun _ h9 => h9) rfl dMo_deliver_123 ?_
    refine lv_iload hx hb dMo_deliver_126 (lv_at hl 4 rfl) ?_
    obtain ⟨hi9, hwp⟩ := hwp
    refine va_iald hx hb hK hP 4 0 rfl rfl hi9 dMo_deliver_128 ?_
    refine lv_bipush (v := 10) hx hb dMo_deliver_129 (by decide) ?_
    refine lv_idiv hx hb dMo_deliver_131 (by decide) ?_
    refine lv_topi (fun v10 ev10 => ?_)
    have hwp := hwp v10 ev10
    refine lv_istore hx hb dMo_deliver_132 hl (by decide) rfl (fun ls hl => ?_)
    have hl : lv_has ls 8 [(5, .int v10), (0, .ref (a 0)), (1, .int y1), (2, .int y2), (3, .int y3), (4, .int y4)] := hl
    refine lv_aload_n hx hb dMo_deliver_134 rfl (lv_at hl 1 rfl) ?_
    refine va_get (D := D) (ci := 0) (C := RMo) (T := TMo) (N := 33) hx hb hts hin0 hown hK hP 0 rfl rfl 3 (by decide) k19 (fun _ h9 => h9) rfl dMo_deliver_135 ?_
    refine lv_iload hx hb dMo_deliver_138 (lv_at hl 5 rfl) ?_
    obtain ⟨hi11, hwp⟩ := hwp
    refine va_iald hx hb hK hP 4 0 rfl rfl hi11 dMo_deliver_140 ?_
    refine lv_bipush (v := 10) hx hb dMo_deliver_141 (by decide) ?_
    refine lv_irem hx hb dMo_deliver_143 (by decide) ?_
    refine lv_topi (fun v12 ev12 => ?_)
    have hwp := hwp v12 ev12
    refine lv_istore hx hb dMo_deliver_144 hl (by decide) rfl (fun ls hl => ?_)
    have hl : lv_has ls 8 [(6, .int v12), (5, .int v10), (0, .ref (a 0)), (1, .int y1), (2, .int y2), (3, .int y3), (4, .int y4)] := hl
    refine lv_aload_n hx hb dMo_deliver_146 rfl (lv_at hl 2 rfl) ?_
    refine va_get (D := D) (ci := 0) (C := RMo) (T := TMo) (N := 33) hx hb hts hin0 hown hK hP 0 rfl rfl 4 (by decide) k22 (fun _ h9 => h9) rfl dMo_deliver_147 ?_
    refine lv_iload hx hb dMo_deliver_150 (lv_at hl 6 rfl) ?_
    obtain ⟨hi13, hwp⟩ := hwp
    refine va_iald hx hb hK hP 5 0 rfl rfl hi13 dMo_deliver_152 ?_
    refine lv_topi (fun v14 ev14 => ?_)
    have hwp := hwp v14 ev14
    refine lv_istore hx hb dMo_deliver_153 hl (by decide) rfl (fun ls hl => ?_)
    have hl : lv_has ls 8 [(7, .int v14), (6, .int v12), (5, .int v10), (0, .ref (a 0)), (1, .int y1), (2, .int y2), (3, .int y3), (4, .int y4)] := hl
    refine lv_iload hx hb dMo_deliver_155 (lv_at hl 2 rfl) ?_
    by_cases h15 : v10 = 0
    · have hwp := hwp.1 h15
      refine lv_tableIn hx hb dMo_deliver_157 (by rw [h15]; decide) (by rw [h15]; decide) (by rw [h15]; rfl) rfl ?_
      refine lv_aload_n hx hb dMo_deliver_188 rfl (lv_at hl 3 rfl) ?_
      refine lv_iload_n hx hb dMo_deliver_189 rfl (lv_at hl 4 rfl) ?_
      refine lv_iload_n hx hb dMo_deliver_190 rfl (lv_at hl 5 rfl) ?_
      refine lv_iload hx hb dMo_deliver_191 (lv_at hl 1 rfl) ?_
      refine lv_iload hx hb dMo_deliver_193 (lv_at hl 0 rfl) ?_
      obtain ⟨P16, hP16, hwp⟩ := hwp
      refine uCallVv (As := [.int y1, .int y2, .int v12, .int v14]) (rest := []) (C := RMo) ⟨hx, hb, hml, hown, hts⟩ (kM_stampArrives l D a A tI tZ σ8 y1 y2 v12 v14 P16 hP16) (cwV 4 hts (gdV wm_850 wm_852 wp_16 wm_13 wm_853) rfl rfl rfl (by decide +kernel) ⟨Nat.le_of_ble_eq_true rfl, Nat.le_of_ble_eq_true rfl⟩) (va_recv (ci := 0) (q0 := 0) hK hP rfl rfl) hP hK hD hA hS rfl hl.1 rfl (Nat.le_of_ble_eq_true rfl) dMo_deliver_195 ⟨Nat.le_of_ble_eq_true rfl, Nat.le_of_ble_eq_true rfl⟩ (fun u17 H locs hu17 hP hD hS => ?_)
      have hwp := hwp u17 hu17
      refine lv_goto hx hb dMo_deliver_198 rfl ?_
      exact cut245 u17 y1 y2 y3 y4 v10 v12 v14 _ _ _ hwp hP hD hS (lv_sub hl [3, 4, 5, 6, 7, 2, 1, 0] rfl)
    have hwp := hwp.2 h15
    by_cases h18 : v10 = 1
    · have hwp := hwp.1 h18
      refine lv_tableIn hx hb dMo_deliver_157 (by rw [h18]; decide) (by rw [h18]; decide) (by rw [h18]; rfl) rfl ?_
      refine lv_aload_n hx hb dMo_deliver_201 rfl (lv_at hl 3 rfl) ?_
      refine lv_iload_n hx hb dMo_deliver_202 rfl (lv_at hl 4 rfl) ?_
      refine lv_iload_n hx hb dMo_deliver_203 rfl (lv_at hl 5 rfl) ?_
      refine lv_iload hx hb dMo_deliver_204 (lv_at hl 1 rfl) ?_
      refine lv_iload hx hb dMo_deliver_206 (lv_at hl 0 rfl) ?_
      obtain ⟨P19, hP19, hwp⟩ := hwp
      refine uCallVv (As := [.int y1, .int y2, .int v12, .int v14]) (rest := []) (C := RMo) ⟨hx, hb, hml, hown, hts⟩ (kM_tokenArrives l D a A tI tZ σ8 y1 y2 v12 v14 P19 hP19) (cwV 4 hts (gdV wm_862 wm_864 wp_19 wm_13 wm_865) rfl rfl rfl (by decide +kernel) ⟨Nat.le_of_ble_eq_true rfl, Nat.le_of_ble_eq_true rfl⟩) (va_recv (ci := 0) (q0 := 0) hK hP rfl rfl) hP hK hD hA hS rfl hl.1 rfl (Nat.le_of_ble_eq_true rfl) dMo_deliver_208 ⟨Nat.le_of_ble_eq_true rfl, Nat.le_of_ble_eq_true rfl⟩ (fun u20 H locs hu20 hP hD hS => ?_)
      have hwp := hwp u20 hu20
      refine lv_goto hx hb dMo_deliver_211 rfl ?_
      exact cut245 u20 y1 y2 y3 y4 v10 v12 v14 _ _ _ hwp hP hD hS (lv_sub hl [3, 4, 5, 6, 7, 2, 1, 0] rfl)
    have hwp := hwp.2 h18
    by_cases h21 : v10 = 2
    · have hwp := hwp.1 h21
      refine lv_tableIn hx hb dMo_deliver_157 (by rw [h21]; decide) (by rw [h21]; decide) (by rw [h21]; rfl) rfl ?_
      refine lv_aload_n hx hb dMo_deliver_214 rfl (lv_at hl 3 rfl) ?_
      refine lv_iload_n hx hb dMo_deliver_215 rfl (lv_at hl 4 rfl) ?_
      refine lv_iload_n hx hb dMo_deliver_216 rfl (lv_at hl 5 rfl) ?_
      refine lv_iload hx hb dMo_deliver_217 (lv_at hl 1 rfl) ?_
      obtain ⟨P22, hP22, hwp⟩ := hwp
      refine uCallVv (As := [.int y1, .int y2, .int v12]) (rest := []) (C := RMo) ⟨hx, hb, hml, hown, hts⟩ (kM_treeArrives l D a A tI tZ σ8 y1 y2 v12 P22 hP22) (cwV 3 hts (gdV wm_870 wm_872 wp_21 wm_13 wm_873) rfl rfl rfl (by decide +kernel) ⟨Nat.le_of_ble_eq_true rfl, Nat.le_of_ble_eq_true rfl⟩) (va_recv (ci := 0) (q0 := 0) hK hP rfl rfl) hP hK hD hA hS rfl hl.1 rfl (Nat.le_of_ble_eq_true rfl) dMo_deliver_219 ⟨Nat.le_of_ble_eq_true rfl, Nat.le_of_ble_eq_true rfl⟩ (fun u23 H locs hu23 hP hD hS => ?_)
      have hwp := hwp u23 hu23
      refine lv_goto hx hb dMo_deliver_222 rfl ?_
      exact cut245 u23 y1 y2 y3 y4 v10 v12 v14 _ _ _ hwp hP hD hS (lv_sub hl [3, 4, 5, 6, 7, 2, 1, 0] rfl)
    have hwp := hwp.2 h21
    by_cases h24 : v10 = 3
    · have hwp := hwp.1 h24
      refine lv_tableIn hx hb dMo_deliver_157 (by rw [h24]; decide) (by rw [h24]; decide) (by rw [h24]; rfl) rfl ?_
      refine lv_aload_n hx hb dMo_deliver_225 rfl (lv_at hl 3 rfl) ?_
      refine lv_iload_n hx hb dMo_deliver_226 rfl (lv_at hl 5 rfl) ?_
      refine lv_iload hx hb dMo_deliver_227 (lv_at hl 1 rfl) ?_
      refine lv_iload hx hb dMo_deliver_229 (lv_at hl 0 rfl) ?_
      obtain ⟨P25, hP25, hwp⟩ := hwp
      refine uCallVv (As := [.int y2, .int v12, .int v14]) (rest := []) (C := RMo) ⟨hx, hb, hml, hown, hts⟩ (kM_ringArrives l D a A tI tZ σ8 y2 v12 v14 P25 hP25) (cwV 3 hts (gdV wm_886 wm_888 wp_25 wm_13 wm_889) rfl rfl rfl (by decide +kernel) ⟨Nat.le_of_ble_eq_true rfl, Nat.le_of_ble_eq_true rfl⟩) (va_recv (ci := 0) (q0 := 0) hK hP rfl rfl) hP hK hD hA hS rfl hl.1 rfl (Nat.le_of_ble_eq_true rfl) dMo_deliver_231 ⟨Nat.le_of_ble_eq_true rfl, Nat.le_of_ble_eq_true rfl⟩ (fun u26 H locs hu26 hP hD hS => ?_)
      have hwp := hwp u26 hu26
      refine lv_goto hx hb dMo_deliver_234 rfl ?_
      exact cut245 u26 y1 y2 y3 y4 v10 v12 v14 _ _ _ hwp hP hD hS (lv_sub hl [3, 4, 5, 6, 7, 2, 1, 0] rfl)
    have hwp := hwp.2 h24
    refine lv_tableOut hx hb dMo_deliver_157 (fx_out4 h15 h18 h21 h24) rfl ?_
    refine lv_aload_n hx hb dMo_deliver_237 rfl (lv_at hl 3 rfl) ?_
    refine lv_iload_n hx hb dMo_deliver_238 rfl (lv_at hl 4 rfl) ?_
    refine lv_iload_n hx hb dMo_deliver_239 rfl (lv_at hl 5 rfl) ?_
    refine lv_iload hx hb dMo_deliver_240 (lv_at hl 1 rfl) ?_
    obtain ⟨P27, hP27, hwp⟩ := hwp
    refine uCallVv (As := [.int y1, .int y2, .int v12]) (rest := []) (C := RMo) ⟨hx, hb, hml, hown, hts⟩ (kM_workArrives l D a A tI tZ σ8 y1 y2 v12 P27 hP27) (cwV 3 hts (gdV wm_890 wm_892 wp_26 wm_13 wm_893) rfl rfl rfl (by decide +kernel) ⟨Nat.le_of_ble_eq_true rfl, Nat.le_of_ble_eq_true rfl⟩) (va_recv (ci := 0) (q0 := 0) hK hP rfl rfl) hP hK hD hA hS rfl hl.1 rfl (Nat.le_of_ble_eq_true rfl) dMo_deliver_242 ⟨Nat.le_of_ble_eq_true rfl, Nat.le_of_ble_eq_true rfl⟩ (fun u28 H locs hu28 hP hD hS => ?_)
    have hwp := hwp u28 hu28
    exact cut245 u28 y1 y2 y3 y4 v10 v12 v14 _ _ _ hwp hP hD hS (lv_sub hl [3, 4, 5, 6, 7, 2, 1, 0] rfl)
  have cut31 : ∀ (σ : MS) (y1 : Int32) (y2 : Int32) (z1 : Int32) (H : Heap) (locs : List Loc) (ls : Array Slot), wM_deliver_31 R σ y1 y2 z1 → va_P D clA (mw a tI tZ σ) H → va_D A (mw a tI tZ σ) → va_S A s.heap H locs → lv_has ls 8 [(0, .ref (a 0)), (1, .int y1), (2, .int y2)] → W p l e (headSpec wsMo_deliver rmM_deliver).room s m ([.ref (a 0), .int x1, .int x2] : List Value).toArray below meth c H locs 0 0 (MQ below (va_Qi R (uI D clA (mT tI tZ) A false (mw a tI tZ)) A) ([.ref (a 0), .int x1, .int x2] : List Value).toArray s 0 0 A) (F0 m 31 ls [.int z1, .ref (a 0)]) := by
    intro σ y1 y2 z1 H locs ls hwp hP hD hS hl
    refine va_put (ty := .int) (D := D) (ci := 0) (C := RMo) (T := TMo) (N := 33) hx hb hts hin0 tyMo tyMo_ok nmMo hown hK hP hD hS 0 rfl rfl 32 (by decide) k90 (fun _ h9 => h9) rfl (by decide +kernel) rfl rfl (Nat.le_of_ble_eq_true rfl) dMo_deliver_31 (fun H locs hP hD hS => ?_)
    obtain ⟨σ29, eσ29⟩ : ∃ z, z = up2 σ 32 0 z1 := ⟨_, rfl⟩
    have hwp := hwp σ29 eσ29
    have hP : va_P D clA (mw a tI tZ σ29) H := by rw [eσ29]; exact hP
    have hD : va_D A (mw a tI tZ σ29) := by rw [eσ29]; exact hD
    refine lv_aload_n hx hb dMo_deliver_34 rfl (lv_at hl 0 rfl) ?_
    refine va_get (D := D) (ci := 0) (C := RMo) (T := TMo) (N := 33) hx hb hts hin0 hown hK hP 0 rfl rfl 32 (by decide) k90 (fun _ h9 => h9) rfl dMo_deliver_35 ?_
    refine lv_if_eq hx hb dMo_deliver_38 rfl (fun h30 => ?_) (fun h30 => ?_)
    · have hwp := hwp.1 h30
      refine lv_iconst (v := 4) hx hb dMo_deliver_43 (by decide) ?_
      refine lv_iload_n hx hb dMo_deliver_44 rfl (lv_at hl 1 rfl) ?_
      refine lv_imul hx hb dMo_deliver_45 ?_
      refine lv_iload_n hx hb dMo_deliver_46 rfl (lv_at hl 2 rfl) ?_
      refine lv_iadd hx hb dMo_deliver_47 ?_
      refine lv_topi (fun v31 ev31 => ?_)
      have hwp := hwp v31 ev31
      refine lv_istore_n hx hb dMo_deliver_48 rfl hl (by decide) rfl (fun ls hl => ?_)
      have hl : lv_has ls 8 [(3, .int v31), (0, .ref (a 0)), (1, .int y1), (2, .int y2)] := hl
      refine lv_aload_n hx hb dMo_deliver_49 rfl (lv_at hl 1 rfl) ?_
      refine va_get (D := D) (ci := 0) (C := RMo) (T := TMo) (N := 33) hx hb hts hin0 hown hK hP 0 rfl rfl 0 (by decide) k7 (fun _ h9 => h9) rfl dMo_deliver_50 ?_
      refine lv_iload_n hx hb dMo_deliver_53 rfl (lv_at hl 0 rfl) ?_
      obtain ⟨hi32, hwp⟩ := hwp
      refine va_iald hx hb hK hP 1 0 rfl rfl hi32 dMo_deliver_54 ?_
      refine lv_topi (fun v33 ev33 => ?_)
      have hwp := hwp v33 ev33
      refine lv_istore hx hb dMo_deliver_55 hl (by decide) rfl (fun ls hl => ?_)
      have hl : lv_has ls 8 [(4, .int v33), (3, .int v31), (0, .ref (a 0)), (1, .int y1), (2, .int y2)] := hl
      refine lv_aload_n hx hb dMo_deliver_57 rfl (lv_at hl 2 rfl) ?_
      refine va_get (D := D) (ci := 0) (C := RMo) (T := TMo) (N := 33) hx hb hts hin0 hown hK hP 0 rfl rfl 0 (by decide) k7 (fun _ h9 => h9) rfl dMo_deliver_58 ?_
      refine lv_iload_n hx hb dMo_deliver_61 rfl (lv_at hl 1 rfl) ?_
      refine lv_aload_n hx hb dMo_deliver_62 rfl (lv_at hl 2 rfl) ?_
      refine va_get (D := D) (ci := 0) (C := RMo) (T := TMo) (N := 33) hx hb hts hin0 hown hK hP 0 rfl rfl 5 (by decide) k25 (fun _ h9 => h9) rfl dMo_deliver_63 ?_
      refine lv_iload hx hb dMo_deliver_66 (lv_at hl 0 rfl) ?_
      obtain ⟨hi34, hwp⟩ := hwp
      refine va_iald hx hb hK hP 6 0 rfl rfl hi34 dMo_deliver_68 ?_
      obtain ⟨hi35, hwp⟩ := hwp
      refine va_iast hx hb hK hP hD hS 1 0 rfl rfl hi35 dMo_deliver_69 (fun H locs hP hD hS => ?_)
      obtain ⟨σ36, eσ36⟩ : ∃ z, z = up2 σ29 0 v31.toNatClampNeg (σ29 5 v33.toNatClampNeg) := ⟨_, rfl⟩
      have hwp := hwp σ36 eσ36
      have hP : va_P D clA (mw a tI tZ σ36) H := by rw [eσ36]; exact hP
      have hD : va_D A (mw a tI tZ σ36) := by rw [eσ36]; exact hD
      refine lv_aload_n hx hb dMo_deliver_70 rfl (lv_at hl 2 rfl) ?_
      refine va_get (D := D) (ci := 0) (C := RMo) (T := TMo) (N := 33) hx hb hts hin0 hown hK hP 0 rfl rfl 1 (by decide) k13 (fun _ h9 => h9) rfl dMo_deliver_71 ?_
      refine lv_iload_n hx hb dMo_deliver_74 rfl (lv_at hl 1 rfl) ?_
      refine lv_aload_n hx hb dMo_deliver_75 rfl (lv_at hl 2 rfl) ?_
      refine va_get (D := D) (ci := 0) (C := RMo) (T := TMo) (N := 33) hx hb hts hin0 hown hK hP 0 rfl rfl 0 (by decide) k7 (fun _ h9 => h9) rfl dMo_deliver_76 ?_
      refine lv_iload_n hx hb dMo_deliver_79 rfl (lv_at hl 1 rfl) ?_
      obtain ⟨hi37, hwp⟩ := hwp
      refine va_iald hx hb hK hP 1 0 rfl rfl hi37 dMo_deliver_80 ?_
      refine lv_if_ge hx hb dMo_deliver_81 rfl (fun h38 => ?_) (fun h38 => ?_)
      · have hwp := hwp.1 h38
        refine lv_aload_n hx hb dMo_deliver_88 rfl (lv_at hl 2 rfl) ?_
        refine va_get (D := D) (ci := 0) (C := RMo) (T := TMo) (N := 33) hx hb hts hin0 hown hK hP 0 rfl rfl 1 (by decide) k13 (fun _ h9 => h9) rfl dMo_deliver_89 ?_
        refine lv_iload_n hx hb dMo_deliver_92 rfl (lv_at hl 1 rfl) ?_
        obtain ⟨hi39, hwp⟩ := hwp
        refine va_iald hx hb hK hP 2 0 rfl rfl hi39 dMo_deliver_93 ?_
        exact cut94 σ36 y1 y2 v31 v33 v31 (σ36 1 v31.toNatClampNeg) _ _ _ hwp hP hD hS (lv_sub hl [2, 3, 4, 1, 0] rfl)
      · have hwp := hwp.2 h38
        refine lv_iconst (v := (-1)) hx hb dMo_deliver_84 (by decide) ?_
        refine lv_goto hx hb dMo_deliver_85 rfl ?_
        exact cut94 σ36 y1 y2 v31 v33 v31 (-1) _ _ _ hwp hP hD hS (lv_sub hl [2, 3, 4, 1, 0] rfl)
    · have hwp := hwp.2 h30
      refine lv_iconst (v := 0) hx hb dMo_deliver_41 (by decide) ?_
      exact W.iret (v := 0) hx hb hr (fun t ht hW => ⟨⟨0, σ29, rfl, hwp, uEnd ht hW hP hK hD hS hA⟩, hS.F ht⟩) hS.2.2 dMo_deliver_42
  have hl := lv_entry ([.ref (a 0), .int x1, .int x2]) (n := 8) (Nat.le_of_ble_eq_true rfl)
  rw [lg_entry_eq]
  generalize (lg_sl ([.ref (a 0), .int x1, .int x2]) ++ List.replicate (8 - (lg_sl ([.ref (a 0), .int x1, .int x2])).length) Slot.unset).toArray = ls at hl ⊢
  have hl : lv_has ls 8 [(0, .ref (a 0)), (1, .int x1), (2, .int x2)] := hl
  refine lv_aload_n hx hb dMo_deliver_0 rfl (lv_at hl 0 rfl) ?_
  refine lv_iload_n hx hb dMo_deliver_1 rfl (lv_at hl 1 rfl) ?_
  refine lv_iload_n hx hb dMo_deliver_2 rfl (lv_at hl 2 rfl) ?_
  obtain ⟨P40, hP40, hwp⟩ := hwp
  refine uCallSi (As := [.int x1, .int x2]) (rest := [.ref (a 0)]) ⟨hx, hb, hml, hown, hts⟩ (kM_isChannel l D a A tI tZ σ x1 x2 P40 hP40) (cwS 2 hts (gdS wm_844 wm_845 wm_13 wm_846) rfl rfl rfl (by decide +kernel) ⟨Nat.le_of_ble_eq_true rfl, Nat.le_of_ble_eq_true rfl⟩) hP hK hD hA hS rfl hl.1 rfl (Nat.le_of_ble_eq_true rfl) dMo_deliver_3 ⟨Nat.le_of_ble_eq_true rfl, Nat.le_of_ble_eq_true rfl⟩ (fun r42 u41 H locs hu41 hP hD hS => ?_)
  have hwp := hwp r42 u41 hu41
  refine lv_if_ne hx hb dMo_deliver_6 rfl (fun h43 => ?_) (fun h43 => ?_)
  · have hwp := hwp.1 h43
    refine lv_aload_n hx hb dMo_deliver_13 rfl (lv_at hl 0 rfl) ?_
    refine va_get (D := D) (ci := 0) (C := RMo) (T := TMo) (N := 33) hx hb hts hin0 hown hK hP 0 rfl rfl 0 (by decide) k7 (fun _ h9 => h9) rfl dMo_deliver_14 ?_
    refine lv_iconst (v := 4) hx hb dMo_deliver_17 (by decide) ?_
    refine lv_iload_n hx hb dMo_deliver_18 rfl (lv_at hl 1 rfl) ?_
    refine lv_imul hx hb dMo_deliver_19 ?_
    refine lv_iload_n hx hb dMo_deliver_20 rfl (lv_at hl 2 rfl) ?_
    refine lv_iadd hx hb dMo_deliver_21 ?_
    obtain ⟨hi44, hwp⟩ := hwp
    refine va_iald hx hb hK hP 1 0 rfl rfl hi44 dMo_deliver_22 ?_
    refine lv_if_ge hx hb dMo_deliver_23 rfl (fun h45 => ?_) (fun h45 => ?_)
    · have hwp := hwp.1 h45
      refine lv_iconst (v := 0) hx hb dMo_deliver_30 (by decide) ?_
      exact cut31 u41 x1 x2 0 _ _ _ hwp hP hD hS (lv_sub hl [0, 1, 2] rfl)
    · have hwp := hwp.2 h45
      refine lv_iconst (v := 2) hx hb dMo_deliver_26 (by decide) ?_
      refine lv_goto hx hb dMo_deliver_27 rfl ?_
      exact cut31 u41 x1 x2 2 _ _ _ hwp hP hD hS (lv_sub hl [0, 1, 2] rfl)
  · have hwp := hwp.2 h43
    refine lv_iconst (v := 1) hx hb dMo_deliver_9 (by decide) ?_
    refine lv_goto hx hb dMo_deliver_10 rfl ?_
    exact cut31 u41 x1 x2 1 _ _ _ hwp hP hD hS (lv_sub hl [0, 1, 2] rfl)
-- public int first(int, int)
def wM_first_91 (R : Int32 → MS → Prop) (σ : MS) (y1 : Int32) (y2 : Int32) (y3 : Int32) (y4 : Int32) (z0 : Int32) (z1 : Int32) : Prop :=
  R (z0 + z1) σ
def wM_first_14 (R : Int32 → MS → Prop) (σ : MS) (y1 : Int32) (y2 : Int32) (z1 : Int32) : Prop :=
  (∀ σ1 : MS, σ1 = up2 σ 32 0 z1 → ((((σ1 32 0) = 0) → (∀ v3 : Int32, v3 = (4 * y1) + y2 → (vp_in v3 16 ∧ (∀ v5 : Int32, v5 = σ1 0 v3.toNatClampNeg → (((0 ≤ v5) → (vp_in v5 700 ∧ (vp_in v5 700 ∧ (vp_in v3 16 ∧ ((((σ1 2 v3.toNatClampNeg) ≤ 1) → wM_first_91 R σ1 y1 y2 v3 v5 ((100 * ((σ1 3 v5.toNatClampNeg) / 10)) + (10 * ((σ1 3 v5.toNatClampNeg) - (σ1 3 v5.toNatClampNeg) / 10 * 10))) 0) ∧ ((¬ (σ1 2 v3.toNatClampNeg) ≤ 1) → wM_first_91 R σ1 y1 y2 v3 v5 ((100 * ((σ1 3 v5.toNatClampNeg) / 10)) + (10 * ((σ1 3 v5.toNatClampNeg) - (σ1 3 v5.toNatClampNeg) / 10 * 10))) 1)))))) ∧ ((¬ 0 ≤ v5) → R (-1) σ1)))))) ∧ ((¬ (σ1 32 0) = 0) → R 0 σ1)))
def wM_first (R : Int32 → MS → Prop) (σ : MS) (x1 x2 : Int32) : Prop :=
  (∃ P11 : Int32 → MS → Prop, wM_isChannel P11 σ x1 x2 ∧ (∀ (r13 : Int32) (u12 : MS), P11 r13 u12 → (((r13 = 0) → wM_first_14 R u12 x1 x2 1) ∧ ((¬ r13 = 0) → wM_first_14 R u12 x1 x2 0))))
abbrev wsMo_first : List Cond := .code yMo_first cMo_first 5 (some .int) :: wg
abbrev rmM_first : Room := { frames := 2, cells := 0, slots := 0, locals := 41 }
set_option maxHeartbeats 4000000 in
set_option maxRecDepth 100000 in
theorem kM_first (l : Launch) (D : va_G) (a : Nat → Nat) (A : Nat → Prop) (tI tZ : ClassId) (σ : MS) (x1 x2 : Int32) (R : Int32 → MS → Prop) (hwp : wM_first R σ x1 x2) : Met l yMo_first wsMo_first rmM_first (va_Pc [.ref (a 0), .int x1, .int x2] (uI D clA (mT tI tZ) A false (mw a tI tZ) σ)) (va_Qi R (uI D clA (mT tI tZ) A false (mw a tI tZ)) A) 0 0 A := by
  refine Met.ofW (cc := cMo_first) (maxL := 5) (ret := (some .int)) (by decide) rfl ?_
  intro p e s m args below meth c s₁ B hml hv
  obtain ⟨rfl, hP, hK, hD, hA⟩ := hv
  have hx := B.exec
  have hb := B.bytes
  have hr := B.returns
  have hts := atoms_spec (ws := wsMo_first) B.pre
  have hown : s.vm.findClass RMo = some m.cls := findClass_of_methodNamed B.named
  have hlocks := B.notSynchronized
  have hin0 : ∀ w ∈ u_ws RMo TMo 33, w ∈ wsMo_first := fun w h => List.mem_cons_of_mem _ (inMo w h)
  have k16 := hts _ (List.mem_cons_of_mem _ wm_738)
  have k19 := hts _ (List.mem_cons_of_mem _ wm_739)
  have k7 := hts _ (List.mem_cons_of_mem _ wm_736)
  have k90 := hts _ (List.mem_cons_of_mem _ wm_768)
  have hS : va_S A s.heap s.heap [] := va_S.rf
  have cut91 : ∀ (σ : MS) (y1 : Int32) (y2 : Int32) (y3 : Int32) (y4 : Int32) (z0 : Int32) (z1 : Int32) (H : Heap) (locs : List Loc) (ls : Array Slot), wM_first_91 R σ y1 y2 y3 y4 z0 z1 → va_P D clA (mw a tI tZ σ) H → va_D A (mw a tI tZ σ) → va_S A s.heap H locs → lv_has ls 5 [(0, .ref (a 0)), (1, .int y1), (2, .int y2), (3, .int y3), (4, .int y4)] → W p l e (headSpec wsMo_first rmM_first).room s m ([.ref (a 0), .int x1, .int x2] : List Value).toArray below meth c H locs 0 0 (MQ below (va_Qi R (uI D clA (mT tI tZ) A false (mw a tI tZ)) A) ([.ref (a 0), .int x1, .int x2] : List Value).toArray s 0 0 A) (F0 m 91 ls [.int z1, .int z0]) := by
    intro σ y1 y2 y3 y4 z0 z1 H locs ls hwp hP hD hS hl
    refine lv_iadd hx hb dMo_first_91 ?_
    exact W.iret (v := z0 + z1) hx hb hr (fun t ht hW => ⟨⟨z0 + z1, σ, rfl, hwp, uEnd ht hW hP hK hD hS hA⟩, hS.F ht⟩) hS.2.2 dMo_first_92
  have cut14 : ∀ (σ : MS) (y1 : Int32) (y2 : Int32) (z1 : Int32) (H : Heap) (locs : List Loc) (ls : Array Slot), wM_first_14 R σ y1 y2 z1 → va_P D clA (mw a tI tZ σ) H → va_D A (mw a tI tZ σ) → va_S A s.heap H locs → lv_has ls 5 [(0, .ref (a 0)), (1, .int y1), (2, .int y2)] → W p l e (headSpec wsMo_first rmM_first).room s m ([.ref (a 0), .int x1, .int x2] : List Value).toArray below meth c H locs 0 0 (MQ below (va_Qi R (uI D clA (mT tI tZ) A false (mw a tI tZ)) A) ([.ref (a 0), .int x1, .int x2] : List Value).toArray s 0 0 A) (F0 m 14 ls [.int z1, .ref (a 0)]) := by
    intro σ y1 y2 z1 H locs ls hwp hP hD hS hl
    refine va_put (ty := .int) (D := D) (ci := 0) (C := RMo) (T := TMo) (N := 33) hx hb hts hin0 tyMo tyMo_ok nmMo hown hK hP hD hS 0 rfl rfl 32 (by decide) k90 (fun _ h9 => h9) rfl (by decide +kernel) rfl rfl (Nat.le_of_ble_eq_true rfl) dMo_first_14 (fun H locs hP hD hS => ?_)
    obtain ⟨σ1, eσ1⟩ : ∃ z, z = up2 σ 32 0 z1 := ⟨_, rfl⟩
    have hwp := hwp σ1 eσ1
    have hP : va_P D clA (mw a tI tZ σ1) H := by rw [eσ1]; exact hP
    have hD : va_D A (mw a tI tZ σ1) := by rw [eσ1]; exact hD
    refine lv_aload_n hx hb dMo_first_17 rfl (lv_at hl 0 rfl) ?_
    refine va_get (D := D) (ci := 0) (C := RMo) (T := TMo) (N := 33) hx hb hts hin0 hown hK hP 0 rfl rfl 32 (by decide) k90 (fun _ h9 => h9) rfl dMo_first_18 ?_
    refine lv_if_eq hx hb dMo_first_21 rfl (fun h2 => ?_) (fun h2 => ?_)
    · have hwp := hwp.1 h2
      refine lv_iconst (v := 4) hx hb dMo_first_26 (by decide) ?_
      refine lv_iload_n hx hb dMo_first_27 rfl (lv_at hl 1 rfl) ?_
      refine lv_imul hx hb dMo_first_28 ?_
      refine lv_iload_n hx hb dMo_first_29 rfl (lv_at hl 2 rfl) ?_
      refine lv_iadd hx hb dMo_first_30 ?_
      refine lv_topi (fun v3 ev3 => ?_)
      have hwp := hwp v3 ev3
      refine lv_istore_n hx hb dMo_first_31 rfl hl (by decide) rfl (fun ls hl => ?_)
      have hl : lv_has ls 5 [(3, .int v3), (0, .ref (a 0)), (1, .int y1), (2, .int y2)] := hl
      refine lv_aload_n hx hb dMo_first_32 rfl (lv_at hl 1 rfl) ?_
      refine va_get (D := D) (ci := 0) (C := RMo) (T := TMo) (N := 33) hx hb hts hin0 hown hK hP 0 rfl rfl 0 (by decide) k7 (fun _ h9 => h9) rfl dMo_first_33 ?_
      refine lv_iload_n hx hb dMo_first_36 rfl (lv_at hl 0 rfl) ?_
      obtain ⟨hi4, hwp⟩ := hwp
      refine va_iald hx hb hK hP 1 0 rfl rfl hi4 dMo_first_37 ?_
      refine lv_topi (fun v5 ev5 => ?_)
      have hwp := hwp v5 ev5
      refine lv_istore hx hb dMo_first_38 hl (by decide) rfl (fun ls hl => ?_)
      have hl : lv_has ls 5 [(4, .int v5), (3, .int v3), (0, .ref (a 0)), (1, .int y1), (2, .int y2)] := hl
      refine lv_iload hx hb dMo_first_40 (lv_at hl 0 rfl) ?_
      refine lv_if_ge hx hb dMo_first_42 rfl (fun h6 => ?_) (fun h6 => ?_)
      · have hwp := hwp.1 h6
        refine lv_bipush (v := 100) hx hb dMo_first_49 (by decide) ?_
        refine lv_aload_n hx hb dMo_first_51 rfl (lv_at hl 2 rfl) ?_
        refine va_get (D := D) (ci := 0) (C := RMo) (T := TMo) (N := 33) hx hb hts hin0 hown hK hP 0 rfl rfl 3 (by decide) k19 (fun _ h9 => h9) rfl dMo_first_52 ?_
        refine lv_iload hx hb dMo_first_55 (lv_at hl 0 rfl) ?_
        obtain ⟨hi7, hwp⟩ := hwp
        refine va_iald hx hb hK hP 4 0 rfl rfl hi7 dMo_first_57 ?_
        refine lv_bipush (v := 10) hx hb dMo_first_58 (by decide) ?_
        refine lv_idiv hx hb dMo_first_60 (by decide) ?_
        refine lv_imul hx hb dMo_first_61 ?_
        refine lv_bipush (v := 10) hx hb dMo_first_62 (by decide) ?_
        refine lv_aload_n hx hb dMo_first_64 rfl (lv_at hl 2 rfl) ?_
        refine va_get (D := D) (ci := 0) (C := RMo) (T := TMo) (N := 33) hx hb hts hin0 hown hK hP 0 rfl rfl 3 (by decide) k19 (fun _ h9 => h9) rfl dMo_first_65 ?_
        refine lv_iload hx hb dMo_first_68 (lv_at hl 0 rfl) ?_
        obtain ⟨hi8, hwp⟩ := hwp
        refine va_iald hx hb hK hP 4 0 rfl rfl hi8 dMo_first_70 ?_
        refine lv_bipush (v := 10) hx hb dMo_first_71 (by decide) ?_
        refine lv_irem hx hb dMo_first_73 (by decide) ?_
        refine lv_imul hx hb dMo_first_74 ?_
        refine lv_iadd hx hb dMo_first_75 ?_
        refine lv_aload_n hx hb dMo_first_76 rfl (lv_at hl 2 rfl) ?_
        refine va_get (D := D) (ci := 0) (C := RMo) (T := TMo) (N := 33) hx hb hts hin0 hown hK hP 0 rfl rfl 2 (by decide) k16 (fun _ h9 => h9) rfl dMo_first_77 ?_
        refine lv_iload_n hx hb dMo_first_80 rfl (lv_at hl 1 rfl) ?_
        obtain ⟨hi9, hwp⟩ := hwp
        refine va_iald hx hb hK hP 3 0 rfl rfl hi9 dMo_first_81 ?_
        refine lv_iconst (v := 1) hx hb dMo_first_82 (by decide) ?_
        refine lv_icmp_le hx hb dMo_first_83 rfl (fun h10 => ?_) (fun h10 => ?_)
        · have hwp := hwp.1 h10
          refine lv_iconst (v := 0) hx hb dMo_first_90 (by decide) ?_
          exact cut91 σ1 y1 y2 v3 v5 ((100 * ((σ1 3 v5.toNatClampNeg) / 10)) + (10 * ((σ1 3 v5.toNatClampNeg) - (σ1 3 v5.toNatClampNeg) / 10 * 10))) 0 _ _ _ hwp hP hD hS (lv_sub hl [2, 3, 4, 1, 0] rfl)
        · have hwp := hwp.2 h10
          refine lv_iconst (v := 1) hx hb dMo_first_86 (by decide) ?_
          refine lv_goto hx hb dMo_first_87 rfl ?_
          exact cut91 σ1 y1 y2 v3 v5 ((100 * ((σ1 3 v5.toNatClampNeg) / 10)) + (10 * ((σ1 3 v5.toNatClampNeg) - (σ1 3 v5.toNatClampNeg) / 10 * 10))) 1 _ _ _ hwp hP hD hS (lv_sub hl [2, 3, 4, 1, 0] rfl)
      · have hwp := hwp.2 h6
        refine lv_iconst (v := (-1)) hx hb dMo_first_45 (by decide) ?_
        refine lv_goto hx hb dMo_first_46 rfl ?_
        exact W.iret (v := (-1)) hx hb hr (fun t ht hW => ⟨⟨(-1), σ1, rfl, hwp, uEnd ht hW hP hK hD hS hA⟩, hS.F ht⟩) hS.2.2 dMo_first_92
    · have hwp := hwp.2 h2
      refine lv_iconst (v := 0) hx hb dMo_first_24 (by decide) ?_
      exact W.iret (v := 0) hx hb hr (fun t ht hW => ⟨⟨0, σ1, rfl, hwp, uEnd ht hW hP hK hD hS hA⟩, hS.F ht⟩) hS.2.2 dMo_first_25
  have hl := lv_entry ([.ref (a 0), .int x1, .int x2]) (n := 5) (Nat.le_of_ble_eq_true rfl)
  rw [lg_entry_eq]
  generalize (lg_sl ([.ref (a 0), .int x1, .int x2]) ++ List.replicate (5 - (lg_sl ([.ref (a 0), .int x1, .int x2])).length) Slot.unset).toArray = ls at hl ⊢
  have hl : lv_has ls 5 [(0, .ref (a 0)), (1, .int x1), (2, .int x2)] := hl
  refine lv_aload_n hx hb dMo_first_0 rfl (lv_at hl 0 rfl) ?_
  refine lv_iload_n hx hb dMo_first_1 rfl (lv_at hl 1 rfl) ?_
  refine lv_iload_n hx hb dMo_first_2 rfl (lv_at hl 2 rfl) ?_
  obtain ⟨P11, hP11, hwp⟩ := hwp
  refine uCallSi (As := [.int x1, .int x2]) (rest := [.ref (a 0)]) ⟨hx, hb, hml, hown, hts⟩ (kM_isChannel l D a A tI tZ σ x1 x2 P11 hP11) (cwS 2 hts (gdS wm_844 wm_845 wm_13 wm_846) rfl rfl rfl (by decide +kernel) ⟨Nat.le_of_ble_eq_true rfl, Nat.le_of_ble_eq_true rfl⟩) hP hK hD hA hS rfl hl.1 rfl (Nat.le_of_ble_eq_true rfl) dMo_first_3 ⟨Nat.le_of_ble_eq_true rfl, Nat.le_of_ble_eq_true rfl⟩ (fun r13 u12 H locs hu12 hP hD hS => ?_)
  have hwp := hwp r13 u12 hu12
  refine lv_if_eq hx hb dMo_first_6 rfl (fun h14 => ?_) (fun h14 => ?_)
  · have hwp := hwp.1 h14
    refine lv_iconst (v := 1) hx hb dMo_first_13 (by decide) ?_
    exact cut14 u12 x1 x2 1 _ _ _ hwp hP hD hS (lv_sub hl [0, 1, 2] rfl)
  · have hwp := hwp.2 h14
    refine lv_iconst (v := 0) hx hb dMo_first_9 (by decide) ?_
    refine lv_goto hx hb dMo_first_10 rfl ?_
    exact cut14 u12 x1 x2 0 _ _ _ hwp hP hD hS (lv_sub hl [0, 1, 2] rfl)
-- public int waiting(int, int)
def wM_waiting_14 (R : Int32 → MS → Prop) (σ : MS) (y1 : Int32) (y2 : Int32) (z1 : Int32) : Prop :=
  (∀ σ1 : MS, σ1 = up2 σ 32 0 z1 → (((¬ (σ1 32 0) = 0) → R 0 σ1) ∧ (((σ1 32 0) = 0) → (vp_in ((4 * y1) + y2) 16 ∧ R (σ1 2 ((4 * y1) + y2).toNatClampNeg) σ1))))
def wM_waiting (R : Int32 → MS → Prop) (σ : MS) (x1 x2 : Int32) : Prop :=
  (∃ P4 : Int32 → MS → Prop, wM_isChannel P4 σ x1 x2 ∧ (∀ (r6 : Int32) (u5 : MS), P4 r6 u5 → (((r6 = 0) → wM_waiting_14 R u5 x1 x2 1) ∧ ((¬ r6 = 0) → wM_waiting_14 R u5 x1 x2 0))))
abbrev wsMo_waiting : List Cond := .code yMo_waiting cMo_waiting 3 (some .int) :: wg
abbrev rmM_waiting : Room := { frames := 2, cells := 0, slots := 0, locals := 41 }
set_option maxHeartbeats 4000000 in
set_option maxRecDepth 100000 in
theorem kM_waiting (l : Launch) (D : va_G) (a : Nat → Nat) (A : Nat → Prop) (tI tZ : ClassId) (σ : MS) (x1 x2 : Int32) (R : Int32 → MS → Prop) (hwp : wM_waiting R σ x1 x2) : Met l yMo_waiting wsMo_waiting rmM_waiting (va_Pc [.ref (a 0), .int x1, .int x2] (uI D clA (mT tI tZ) A false (mw a tI tZ) σ)) (va_Qi R (uI D clA (mT tI tZ) A false (mw a tI tZ)) A) 0 0 A := by
  refine Met.ofW (cc := cMo_waiting) (maxL := 3) (ret := (some .int)) (by decide) rfl ?_
  intro p e s m args below meth c s₁ B hml hv
  obtain ⟨rfl, hP, hK, hD, hA⟩ := hv
  have hx := B.exec
  have hb := B.bytes
  have hr := B.returns
  have hts := atoms_spec (ws := wsMo_waiting) B.pre
  have hown : s.vm.findClass RMo = some m.cls := findClass_of_methodNamed B.named
  have hlocks := B.notSynchronized
  have hin0 : ∀ w ∈ u_ws RMo TMo 33, w ∈ wsMo_waiting := fun w h => List.mem_cons_of_mem _ (inMo w h)
  have k16 := hts _ (List.mem_cons_of_mem _ wm_738)
  have k90 := hts _ (List.mem_cons_of_mem _ wm_768)
  have hS : va_S A s.heap s.heap [] := va_S.rf
  have cut14 : ∀ (σ : MS) (y1 : Int32) (y2 : Int32) (z1 : Int32) (H : Heap) (locs : List Loc) (ls : Array Slot), wM_waiting_14 R σ y1 y2 z1 → va_P D clA (mw a tI tZ σ) H → va_D A (mw a tI tZ σ) → va_S A s.heap H locs → lv_has ls 3 [(0, .ref (a 0)), (1, .int y1), (2, .int y2)] → W p l e (headSpec wsMo_waiting rmM_waiting).room s m ([.ref (a 0), .int x1, .int x2] : List Value).toArray below meth c H locs 0 0 (MQ below (va_Qi R (uI D clA (mT tI tZ) A false (mw a tI tZ)) A) ([.ref (a 0), .int x1, .int x2] : List Value).toArray s 0 0 A) (F0 m 14 ls [.int z1, .ref (a 0)]) := by
    intro σ y1 y2 z1 H locs ls hwp hP hD hS hl
    refine va_put (ty := .int) (D := D) (ci := 0) (C := RMo) (T := TMo) (N := 33) hx hb hts hin0 tyMo tyMo_ok nmMo hown hK hP hD hS 0 rfl rfl 32 (by decide) k90 (fun _ h9 => h9) rfl (by decide +kernel) rfl rfl (Nat.le_of_ble_eq_true rfl) dMo_waiting_14 (fun H locs hP hD hS => ?_)
    obtain ⟨σ1, eσ1⟩ : ∃ z, z = up2 σ 32 0 z1 := ⟨_, rfl⟩
    have hwp := hwp σ1 eσ1
    have hP : va_P D clA (mw a tI tZ σ1) H := by rw [eσ1]; exact hP
    have hD : va_D A (mw a tI tZ σ1) := by rw [eσ1]; exact hD
    refine lv_aload_n hx hb dMo_waiting_17 rfl (lv_at hl 0 rfl) ?_
    refine va_get (D := D) (ci := 0) (C := RMo) (T := TMo) (N := 33) hx hb hts hin0 hown hK hP 0 rfl rfl 32 (by decide) k90 (fun _ h9 => h9) rfl dMo_waiting_18 ?_
    refine lv_if_ne hx hb dMo_waiting_21 rfl (fun h2 => ?_) (fun h2 => ?_)
    · have hwp := hwp.1 h2
      refine lv_iconst (v := 0) hx hb dMo_waiting_37 (by decide) ?_
      exact W.iret (v := 0) hx hb hr (fun t ht hW => ⟨⟨0, σ1, rfl, hwp, uEnd ht hW hP hK hD hS hA⟩, hS.F ht⟩) hS.2.2 dMo_waiting_38
    · have hwp := hwp.2 h2
      refine lv_aload_n hx hb dMo_waiting_24 rfl (lv_at hl 0 rfl) ?_
      refine va_get (D := D) (ci := 0) (C := RMo) (T := TMo) (N := 33) hx hb hts hin0 hown hK hP 0 rfl rfl 2 (by decide) k16 (fun _ h9 => h9) rfl dMo_waiting_25 ?_
      refine lv_iconst (v := 4) hx hb dMo_waiting_28 (by decide) ?_
      refine lv_iload_n hx hb dMo_waiting_29 rfl (lv_at hl 1 rfl) ?_
      refine lv_imul hx hb dMo_waiting_30 ?_
      refine lv_iload_n hx hb dMo_waiting_31 rfl (lv_at hl 2 rfl) ?_
      refine lv_iadd hx hb dMo_waiting_32 ?_
      obtain ⟨hi3, hwp⟩ := hwp
      refine va_iald hx hb hK hP 3 0 rfl rfl hi3 dMo_waiting_33 ?_
      refine lv_goto hx hb dMo_waiting_34 rfl ?_
      exact W.iret (v := σ1 2 ((4 * y1) + y2).toNatClampNeg) hx hb hr (fun t ht hW => ⟨⟨σ1 2 ((4 * y1) + y2).toNatClampNeg, σ1, rfl, hwp, uEnd ht hW hP hK hD hS hA⟩, hS.F ht⟩) hS.2.2 dMo_waiting_38
  have hl := lv_entry ([.ref (a 0), .int x1, .int x2]) (n := 3) (Nat.le_of_ble_eq_true rfl)
  rw [lg_entry_eq]
  generalize (lg_sl ([.ref (a 0), .int x1, .int x2]) ++ List.replicate (3 - (lg_sl ([.ref (a 0), .int x1, .int x2])).length) Slot.unset).toArray = ls at hl ⊢
  have hl : lv_has ls 3 [(0, .ref (a 0)), (1, .int x1), (2, .int x2)] := hl
  refine lv_aload_n hx hb dMo_waiting_0 rfl (lv_at hl 0 rfl) ?_
  refine lv_iload_n hx hb dMo_waiting_1 rfl (lv_at hl 1 rfl) ?_
  refine lv_iload_n hx hb dMo_waiting_2 rfl (lv_at hl 2 rfl) ?_
  obtain ⟨P4, hP4, hwp⟩ := hwp
  refine uCallSi (As := [.int x1, .int x2]) (rest := [.ref (a 0)]) ⟨hx, hb, hml, hown, hts⟩ (kM_isChannel l D a A tI tZ σ x1 x2 P4 hP4) (cwS 2 hts (gdS wm_844 wm_845 wm_13 wm_846) rfl rfl rfl (by decide +kernel) ⟨Nat.le_of_ble_eq_true rfl, Nat.le_of_ble_eq_true rfl⟩) hP hK hD hA hS rfl hl.1 rfl (Nat.le_of_ble_eq_true rfl) dMo_waiting_3 ⟨Nat.le_of_ble_eq_true rfl, Nat.le_of_ble_eq_true rfl⟩ (fun r6 u5 H locs hu5 hP hD hS => ?_)
  have hwp := hwp r6 u5 hu5
  refine lv_if_eq hx hb dMo_waiting_6 rfl (fun h7 => ?_) (fun h7 => ?_)
  · have hwp := hwp.1 h7
    refine lv_iconst (v := 1) hx hb dMo_waiting_13 (by decide) ?_
    exact cut14 u5 x1 x2 1 _ _ _ hwp hP hD hS (lv_sub hl [0, 1, 2] rfl)
  · have hwp := hwp.2 h7
    refine lv_iconst (v := 0) hx hb dMo_waiting_9 (by decide) ?_
    refine lv_goto hx hb dMo_waiting_10 rfl ?_
    exact cut14 u5 x1 x2 0 _ _ _ hwp hP hD hS (lv_sub hl [0, 1, 2] rfl)
-- public int about(int, int)
def wM_about_92 (R : Int32 → MS → Prop) (σ : MS) (y1 : Int32) (y2 : Int32) (z0 : Int32) (z1 : Int32) : Prop :=
  (vp_in y2 4 ∧ R ((z0 + z1) + (4 * (σ 31 y2.toNatClampNeg))) σ)
def wM_about_87 (R : Int32 → MS → Prop) (σ : MS) (y1 : Int32) (y2 : Int32) (z0 : Int32) : Prop :=
  wM_about_92 R σ y1 y2 z0 2
def wM_about_70 (R : Int32 → MS → Prop) (σ : MS) (y1 : Int32) (y2 : Int32) (z0 : Int32) : Prop :=
  (vp_in y2 4 ∧ (((0 ≤ (σ 30 y2.toNatClampNeg)) → wM_about_87 R σ y1 y2 z0) ∧ ((¬ 0 ≤ (σ 30 y2.toNatClampNeg)) → (((¬ (σ 27 0) = y2) → wM_about_92 R σ y1 y2 z0 0) ∧ (((σ 27 0) = y2) → wM_about_87 R σ y1 y2 z0)))))
def wM_about_14 (R : Int32 → MS → Prop) (σ : MS) (y1 : Int32) (y2 : Int32) (z1 : Int32) : Prop :=
  (∀ σ5 : MS, σ5 = up2 σ 32 0 z1 → ((((σ5 32 0) = 0) → (((3 ≤ y1) → (((¬ y1 = 3) → (vp_in y2 4 ∧ ((((σ5 29 y2.toNatClampNeg) = 0) → wM_about_70 R σ5 y1 y2 0) ∧ ((¬ (σ5 29 y2.toNatClampNeg) = 0) → wM_about_70 R σ5 y1 y2 1)))) ∧ ((y1 = 3) → (vp_in y2 4 ∧ R (σ5 25 y2.toNatClampNeg) σ5)))) ∧ ((¬ 3 ≤ y1) → (vp_in ((4 * y1) + y2) 12 ∧ R (σ5 8 ((4 * y1) + y2).toNatClampNeg) σ5)))) ∧ ((¬ (σ5 32 0) = 0) → R 0 σ5)))
def wM_about (R : Int32 → MS → Prop) (σ : MS) (x1 x2 : Int32) : Prop :=
  (∃ P13 : Int32 → MS → Prop, wM_isService P13 σ x1 x2 ∧ (∀ (r15 : Int32) (u14 : MS), P13 r15 u14 → (((r15 = 0) → wM_about_14 R u14 x1 x2 1) ∧ ((¬ r15 = 0) → wM_about_14 R u14 x1 x2 0))))
abbrev wsMo_about : List Cond := .code yMo_about cMo_about 3 (some .int) :: wg
abbrev rmM_about : Room := { frames := 2, cells := 0, slots := 0, locals := 41 }
set_option maxHeartbeats 4000000 in
set_option maxRecDepth 100000 in
theorem kM_about (l : Launch) (D : va_G) (a : Nat → Nat) (A : Nat → Prop) (tI tZ : ClassId) (σ : MS) (x1 x2 : Int32) (R : Int32 → MS → Prop) (hwp : wM_about R σ x1 x2) : Met l yMo_about wsMo_about rmM_about (va_Pc [.ref (a 0), .int x1, .int x2] (uI D clA (mT tI tZ) A false (mw a tI tZ) σ)) (va_Qi R (uI D clA (mT tI tZ) A false (mw a tI tZ)) A) 0 0 A := by
  refine Met.ofW (cc := cMo_about) (maxL := 3) (ret := (some .int)) (by decide) rfl ?_
  intro p e s m args below meth c s₁ B hml hv
  obtain ⟨rfl, hP, hK, hD, hA⟩ := hv
  have hx := B.exec
  have hb := B.bytes
  have hr := B.returns
  have hts := atoms_spec (ws := wsMo_about) B.pre
  have hown : s.vm.findClass RMo = some m.cls := findClass_of_methodNamed B.named
  have hlocks := B.notSynchronized
  have hin0 : ∀ w ∈ u_ws RMo TMo 33, w ∈ wsMo_about := fun w h => List.mem_cons_of_mem _ (inMo w h)
  have k32 := hts _ (List.mem_cons_of_mem _ wm_744)
  have k72 := hts _ (List.mem_cons_of_mem _ wm_761)
  have k78 := hts _ (List.mem_cons_of_mem _ wm_763)
  have k81 := hts _ (List.mem_cons_of_mem _ wm_765)
  have k84 := hts _ (List.mem_cons_of_mem _ wm_766)
  have k87 := hts _ (List.mem_cons_of_mem _ wm_767)
  have k90 := hts _ (List.mem_cons_of_mem _ wm_768)
  have hS : va_S A s.heap s.heap [] := va_S.rf
  have cut92 : ∀ (σ : MS) (y1 : Int32) (y2 : Int32) (z0 : Int32) (z1 : Int32) (H : Heap) (locs : List Loc) (ls : Array Slot), wM_about_92 R σ y1 y2 z0 z1 → va_P D clA (mw a tI tZ σ) H → va_D A (mw a tI tZ σ) → va_S A s.heap H locs → lv_has ls 3 [(0, .ref (a 0)), (1, .int y1), (2, .int y2)] → W p l e (headSpec wsMo_about rmM_about).room s m ([.ref (a 0), .int x1, .int x2] : List Value).toArray below meth c H locs 0 0 (MQ below (va_Qi R (uI D clA (mT tI tZ) A false (mw a tI tZ)) A) ([.ref (a 0), .int x1, .int x2] : List Value).toArray s 0 0 A) (F0 m 92 ls [.int z1, .int z0]) := by
    intro σ y1 y2 z0 z1 H locs ls hwp hP hD hS hl
    refine lv_iadd hx hb dMo_about_92 ?_
    refine lv_iconst (v := 4) hx hb dMo_about_93 (by decide) ?_
    refine lv_aload_n hx hb dMo_about_94 rfl (lv_at hl 0 rfl) ?_
    refine va_get (D := D) (ci := 0) (C := RMo) (T := TMo) (N := 33) hx hb hts hin0 hown hK hP 0 rfl rfl 31 (by decide) k87 (fun _ h9 => h9) rfl dMo_about_95 ?_
    refine lv_iload_n hx hb dMo_about_98 rfl (lv_at hl 2 rfl) ?_
    obtain ⟨hi1, hwp⟩ := hwp
    refine va_iald hx hb hK hP 24 0 rfl rfl hi1 dMo_about_99 ?_
    refine lv_imul hx hb dMo_about_100 ?_
    refine lv_iadd hx hb dMo_about_101 ?_
    exact W.iret (v := (z0 + z1) + (4 * (σ 31 y2.toNatClampNeg))) hx hb hr (fun t ht hW => ⟨⟨(z0 + z1) + (4 * (σ 31 y2.toNatClampNeg)), σ, rfl, hwp, uEnd ht hW hP hK hD hS hA⟩, hS.F ht⟩) hS.2.2 dMo_about_102
  have cut87 : ∀ (σ : MS) (y1 : Int32) (y2 : Int32) (z0 : Int32) (H : Heap) (locs : List Loc) (ls : Array Slot), wM_about_87 R σ y1 y2 z0 → va_P D clA (mw a tI tZ σ) H → va_D A (mw a tI tZ σ) → va_S A s.heap H locs → lv_has ls 3 [(0, .ref (a 0)), (1, .int y1), (2, .int y2)] → W p l e (headSpec wsMo_about rmM_about).room s m ([.ref (a 0), .int x1, .int x2] : List Value).toArray below meth c H locs 0 0 (MQ below (va_Qi R (uI D clA (mT tI tZ) A false (mw a tI tZ)) A) ([.ref (a 0), .int x1, .int x2] : List Value).toArray s 0 0 A) (F0 m 87 ls [.int z0]) := by
    intro σ y1 y2 z0 H locs ls hwp hP hD hS hl
    refine lv_iconst (v := 2) hx hb dMo_about_87 (by decide) ?_
    refine lv_goto hx hb dMo_about_88 rfl ?_
    exact cut92 σ y1 y2 z0 2 _ _ _ hwp hP hD hS (lv_sub hl [0, 1, 2] rfl)
  have cut70 : ∀ (σ : MS) (y1 : Int32) (y2 : Int32) (z0 : Int32) (H : Heap) (locs : List Loc) (ls : Array Slot), wM_about_70 R σ y1 y2 z0 → va_P D clA (mw a tI tZ σ) H → va_D A (mw a tI tZ σ) → va_S A s.heap H locs → lv_has ls 3 [(0, .ref (a 0)), (1, .int y1), (2, .int y2)] → W p l e (headSpec wsMo_about rmM_about).room s m ([.ref (a 0), .int x1, .int x2] : List Value).toArray below meth c H locs 0 0 (MQ below (va_Qi R (uI D clA (mT tI tZ) A false (mw a tI tZ)) A) ([.ref (a 0), .int x1, .int x2] : List Value).toArray s 0 0 A) (F0 m 70 ls [.int z0]) := by
    intro σ y1 y2 z0 H locs ls hwp hP hD hS hl
    refine lv_aload_n hx hb dMo_about_70 rfl (lv_at hl 0 rfl) ?_
    refine va_get (D := D) (ci := 0) (C := RMo) (T := TMo) (N := 33) hx hb hts hin0 hown hK hP 0 rfl rfl 30 (by decide) k84 (fun _ h9 => h9) rfl dMo_about_71 ?_
    refine lv_iload_n hx hb dMo_about_74 rfl (lv_at hl 2 rfl) ?_
    obtain ⟨hi2, hwp⟩ := hwp
    refine va_iald hx hb hK hP 23 0 rfl rfl hi2 dMo_about_75 ?_
    refine lv_if_ge hx hb dMo_about_76 rfl (fun h3 => ?_) (fun h3 => ?_)
    · have hwp := hwp.1 h3
      exact cut87 σ y1 y2 z0 _ _ _ hwp hP hD hS (lv_sub hl [0, 1, 2] rfl)
    · have hwp := hwp.2 h3
      refine lv_aload_n hx hb dMo_about_79 rfl (lv_at hl 0 rfl) ?_
      refine va_get (D := D) (ci := 0) (C := RMo) (T := TMo) (N := 33) hx hb hts hin0 hown hK hP 0 rfl rfl 27 (by decide) k78 (fun _ h9 => h9) rfl dMo_about_80 ?_
      refine lv_iload_n hx hb dMo_about_83 rfl (lv_at hl 2 rfl) ?_
      refine lv_icmp_ne hx hb dMo_about_84 rfl (fun h4 => ?_) (fun h4 => ?_)
      · have hwp := hwp.1 h4
        refine lv_iconst (v := 0) hx hb dMo_about_91 (by decide) ?_
        exact cut92 σ y1 y2 z0 0 _ _ _ hwp hP hD hS (lv_sub hl [0, 1, 2] rfl)
      · have hwp := hwp.2 h4
        exact cut87 σ y1 y2 z0 _ _ _ hwp hP hD hS (lv_sub hl [0, 1, 2] rfl)
  have cut14 : ∀ (σ : MS) (y1 : Int32) (y2 : Int32) (z1 : Int32) (H : Heap) (locs : List Loc) (ls : Array Slot), wM_about_14 R σ y1 y2 z1 → va_P D clA (mw a tI tZ σ) H → va_D A (mw a tI tZ σ) → va_S A s.heap H locs → lv_has ls 3 [(0, .ref (a 0)), (1, .int y1), (2, .int y2)] → W p l e (headSpec wsMo_about rmM_about).room s m ([.ref (a 0), .int x1, .int x2] : List Value).toArray below meth c H locs 0 0 (MQ below (va_Qi R (uI D clA (mT tI tZ) A false (mw a tI tZ)) A) ([.ref (a 0), .int x1, .int x2] : List Value).toArray s 0 0 A) (F0 m 14 ls [.int z1, .ref (a 0)]) := by
    intro σ y1 y2 z1 H locs ls hwp hP hD hS hl
    refine va_put (ty := .int) (D := D) (ci := 0) (C := RMo) (T := TMo) (N := 33) hx hb hts hin0 tyMo tyMo_ok nmMo hown hK hP hD hS 0 rfl rfl 32 (by decide) k90 (fun _ h9 => h9) rfl (by decide +kernel) rfl rfl (Nat.le_of_ble_eq_true rfl) dMo_about_14 (fun H locs hP hD hS => ?_)
    obtain ⟨σ5, eσ5⟩ : ∃ z, z = up2 σ 32 0 z1 := ⟨_, rfl⟩
    have hwp := hwp σ5 eσ5
    have hP : va_P D clA (mw a tI tZ σ5) H := by rw [eσ5]; exact hP
    have hD : va_D A (mw a tI tZ σ5) := by rw [eσ5]; exact hD
    refine lv_aload_n hx hb dMo_about_17 rfl (lv_at hl 0 rfl) ?_
    refine va_get (D := D) (ci := 0) (C := RMo) (T := TMo) (N := 33) hx hb hts hin0 hown hK hP 0 rfl rfl 32 (by decide) k90 (fun _ h9 => h9) rfl dMo_about_18 ?_
    refine lv_if_eq hx hb dMo_about_21 rfl (fun h6 => ?_) (fun h6 => ?_)
    · have hwp := hwp.1 h6
      refine lv_iload_n hx hb dMo_about_26 rfl (lv_at hl 1 rfl) ?_
      refine lv_iconst (v := 3) hx hb dMo_about_27 (by decide) ?_
      refine lv_icmp_ge hx hb dMo_about_28 rfl (fun h7 => ?_) (fun h7 => ?_)
      · have hwp := hwp.1 h7
        refine lv_iload_n hx hb dMo_about_42 rfl (lv_at hl 1 rfl) ?_
        refine lv_iconst (v := 3) hx hb dMo_about_43 (by decide) ?_
        refine lv_icmp_ne hx hb dMo_about_44 rfl (fun h8 => ?_) (fun h8 => ?_)
        · have hwp := hwp.1 h8
          refine lv_aload_n hx hb dMo_about_56 rfl (lv_at hl 0 rfl) ?_
          refine va_get (D := D) (ci := 0) (C := RMo) (T := TMo) (N := 33) hx hb hts hin0 hown hK hP 0 rfl rfl 29 (by decide) k81 (fun _ h9 => h9) rfl dMo_about_57 ?_
          refine lv_iload_n hx hb dMo_about_60 rfl (lv_at hl 2 rfl) ?_
          obtain ⟨hi9, hwp⟩ := hwp
          refine va_zald hx hb hK hP 22 1 rfl rfl hi9 dMo_about_61 ?_
          refine lv_if_eq hx hb dMo_about_62 rfl (fun h10 => ?_) (fun h10 => ?_)
          · have hwp := hwp.1 h10
            refine lv_iconst (v := 0) hx hb dMo_about_69 (by decide) ?_
            exact cut70 σ5 y1 y2 0 _ _ _ hwp hP hD hS (lv_sub hl [0, 1, 2] rfl)
          · have hwp := hwp.2 h10
            refine lv_iconst (v := 1) hx hb dMo_about_65 (by decide) ?_
            refine lv_goto hx hb dMo_about_66 rfl ?_
            exact cut70 σ5 y1 y2 1 _ _ _ hwp hP hD hS (lv_sub hl [0, 1, 2] rfl)
        · have hwp := hwp.2 h8
          refine lv_aload_n hx hb dMo_about_47 rfl (lv_at hl 0 rfl) ?_
          refine va_get (D := D) (ci := 0) (C := RMo) (T := TMo) (N := 33) hx hb hts hin0 hown hK hP 0 rfl rfl 25 (by decide) k72 (fun _ h9 => h9) rfl dMo_about_48 ?_
          refine lv_iload_n hx hb dMo_about_51 rfl (lv_at hl 2 rfl) ?_
          obtain ⟨hi11, hwp⟩ := hwp
          refine va_iald hx hb hK hP 20 0 rfl rfl hi11 dMo_about_52 ?_
          refine lv_goto hx hb dMo_about_53 rfl ?_
          exact W.iret (v := σ5 25 y2.toNatClampNeg) hx hb hr (fun t ht hW => ⟨⟨σ5 25 y2.toNatClampNeg, σ5, rfl, hwp, uEnd ht hW hP hK hD hS hA⟩, hS.F ht⟩) hS.2.2 dMo_about_102
      · have hwp := hwp.2 h7
        refine lv_aload_n hx hb dMo_about_31 rfl (lv_at hl 0 rfl) ?_
        refine va_get (D := D) (ci := 0) (C := RMo) (T := TMo) (N := 33) hx hb hts hin0 hown hK hP 0 rfl rfl 8 (by decide) k32 (fun _ h9 => h9) rfl dMo_about_32 ?_
        refine lv_iconst (v := 4) hx hb dMo_about_35 (by decide) ?_
        refine lv_iload_n hx hb dMo_about_36 rfl (lv_at hl 1 rfl) ?_
        refine lv_imul hx hb dMo_about_37 ?_
        refine lv_iload_n hx hb dMo_about_38 rfl (lv_at hl 2 rfl) ?_
        refine lv_iadd hx hb dMo_about_39 ?_
        obtain ⟨hi12, hwp⟩ := hwp
        refine va_iald hx hb hK hP 7 0 rfl rfl hi12 dMo_about_40 ?_
        exact W.iret (v := σ5 8 ((4 * y1) + y2).toNatClampNeg) hx hb hr (fun t ht hW => ⟨⟨σ5 8 ((4 * y1) + y2).toNatClampNeg, σ5, rfl, hwp, uEnd ht hW hP hK hD hS hA⟩, hS.F ht⟩) hS.2.2 dMo_about_41
    · have hwp := hwp.2 h6
      refine lv_iconst (v := 0) hx hb dMo_about_24 (by decide) ?_
      exact W.iret (v := 0) hx hb hr (fun t ht hW => ⟨⟨0, σ5, rfl, hwp, uEnd ht hW hP hK hD hS hA⟩, hS.F ht⟩) hS.2.2 dMo_about_25
  have hl := lv_entry ([.ref (a 0), .int x1, .int x2]) (n := 3) (Nat.le_of_ble_eq_true rfl)
  rw [lg_entry_eq]
  generalize (lg_sl ([.ref (a 0), .int x1, .int x2]) ++ List.replicate (3 - (lg_sl ([.ref (a 0), .int x1, .int x2])).length) Slot.unset).toArray = ls at hl ⊢
  have hl : lv_has ls 3 [(0, .ref (a 0)), (1, .int x1), (2, .int x2)] := hl
  refine lv_aload_n hx hb dMo_about_0 rfl (lv_at hl 0 rfl) ?_
  refine lv_iload_n hx hb dMo_about_1 rfl (lv_at hl 1 rfl) ?_
  refine lv_iload_n hx hb dMo_about_2 rfl (lv_at hl 2 rfl) ?_
  obtain ⟨P13, hP13, hwp⟩ := hwp
  refine uCallSi (As := [.int x1, .int x2]) (rest := [.ref (a 0)]) ⟨hx, hb, hml, hown, hts⟩ (kM_isService l D a A tI tZ σ x1 x2 P13 hP13) (cwS 2 hts (gdS wm_945 wm_946 wm_13 wm_947) rfl rfl rfl (by decide +kernel) ⟨Nat.le_of_ble_eq_true rfl, Nat.le_of_ble_eq_true rfl⟩) hP hK hD hA hS rfl hl.1 rfl (Nat.le_of_ble_eq_true rfl) dMo_about_3 ⟨Nat.le_of_ble_eq_true rfl, Nat.le_of_ble_eq_true rfl⟩ (fun r15 u14 H locs hu14 hP hD hS => ?_)
  have hwp := hwp r15 u14 hu14
  refine lv_if_eq hx hb dMo_about_6 rfl (fun h16 => ?_) (fun h16 => ?_)
  · have hwp := hwp.1 h16
    refine lv_iconst (v := 1) hx hb dMo_about_13 (by decide) ?_
    exact cut14 u14 x1 x2 1 _ _ _ hwp hP hD hS (lv_sub hl [0, 1, 2] rfl)
  · have hwp := hwp.2 h16
    refine lv_iconst (v := 0) hx hb dMo_about_9 (by decide) ?_
    refine lv_goto hx hb dMo_about_10 rfl ?_
    exact cut14 u14 x1 x2 0 _ _ _ hwp hP hD hS (lv_sub hl [0, 1, 2] rfl)
-- public int more(int, int)
def wM_more_101 (R : Int32 → MS → Prop) (σ : MS) (y1 : Int32) (y2 : Int32) (z0 : Int32) (z1 : Int32) : Prop :=
  R (z0 + z1) σ
def wM_more_14 (R : Int32 → MS → Prop) (σ : MS) (y1 : Int32) (y2 : Int32) (z1 : Int32) : Prop :=
  (∀ σ1 : MS, σ1 = up2 σ 32 0 z1 → ((((σ1 32 0) = 0) → (((y1 = 0) → (vp_in y2 4 ∧ R (σ1 11 y2.toNatClampNeg) σ1)) ∧ ((¬ y1 = 0) → (((y1 = 1) → (vp_in (5 * y2) 16 ∧ R (σ1 15 (5 * y2).toNatClampNeg) σ1)) ∧ ((¬ y1 = 1) → (((y1 = 2) → (vp_in y2 4 ∧ R (σ1 20 y2.toNatClampNeg) σ1)) ∧ ((¬ y1 = 2) → (((y1 = 3) → (vp_in y2 4 ∧ (vp_in y2 4 ∧ ((((σ1 26 y2.toNatClampNeg) = 0) → wM_more_101 R σ1 y1 y2 (σ1 24 y2.toNatClampNeg) 0) ∧ ((¬ (σ1 26 y2.toNatClampNeg) = 0) → wM_more_101 R σ1 y1 y2 (σ1 24 y2.toNatClampNeg) 1000))))) ∧ ((¬ y1 = 3) → (vp_in y2 4 ∧ R (σ1 30 y2.toNatClampNeg) σ1)))))))))) ∧ ((¬ (σ1 32 0) = 0) → R 0 σ1)))
def wM_more (R : Int32 → MS → Prop) (σ : MS) (x1 x2 : Int32) : Prop :=
  (∃ P14 : Int32 → MS → Prop, wM_isService P14 σ x1 x2 ∧ (∀ (r16 : Int32) (u15 : MS), P14 r16 u15 → (((r16 = 0) → wM_more_14 R u15 x1 x2 1) ∧ ((¬ r16 = 0) → wM_more_14 R u15 x1 x2 0))))
abbrev wsMo_more : List Cond := .code yMo_more cMo_more 3 (some .int) :: wg
abbrev rmM_more : Room := { frames := 2, cells := 0, slots := 0, locals := 41 }
set_option maxHeartbeats 4000000 in
set_option maxRecDepth 100000 in
theorem kM_more (l : Launch) (D : va_G) (a : Nat → Nat) (A : Nat → Prop) (tI tZ : ClassId) (σ : MS) (x1 x2 : Int32) (R : Int32 → MS → Prop) (hwp : wM_more R σ x1 x2) : Met l yMo_more wsMo_more rmM_more (va_Pc [.ref (a 0), .int x1, .int x2] (uI D clA (mT tI tZ) A false (mw a tI tZ) σ)) (va_Qi R (uI D clA (mT tI tZ) A false (mw a tI tZ)) A) 0 0 A := by
  refine Met.ofW (cc := cMo_more) (maxL := 3) (ret := (some .int)) (by decide) rfl ?_
  intro p e s m args below meth c s₁ B hml hv
  obtain ⟨rfl, hP, hK, hD, hA⟩ := hv
  have hx := B.exec
  have hb := B.bytes
  have hr := B.returns
  have hts := atoms_spec (ws := wsMo_more) B.pre
  have hown : s.vm.findClass RMo = some m.cls := findClass_of_methodNamed B.named
  have hlocks := B.notSynchronized
  have hin0 : ∀ w ∈ u_ws RMo TMo 33, w ∈ wsMo_more := fun w h => List.mem_cons_of_mem _ (inMo w h)
  have k35 := hts _ (List.mem_cons_of_mem _ wm_747)
  have k47 := hts _ (List.mem_cons_of_mem _ wm_751)
  have k56 := hts _ (List.mem_cons_of_mem _ wm_756)
  have k69 := hts _ (List.mem_cons_of_mem _ wm_760)
  have k75 := hts _ (List.mem_cons_of_mem _ wm_762)
  have k84 := hts _ (List.mem_cons_of_mem _ wm_766)
  have k90 := hts _ (List.mem_cons_of_mem _ wm_768)
  have hS : va_S A s.heap s.heap [] := va_S.rf
  have cut101 : ∀ (σ : MS) (y1 : Int32) (y2 : Int32) (z0 : Int32) (z1 : Int32) (H : Heap) (locs : List Loc) (ls : Array Slot), wM_more_101 R σ y1 y2 z0 z1 → va_P D clA (mw a tI tZ σ) H → va_D A (mw a tI tZ σ) → va_S A s.heap H locs → lv_has ls 3 [(0, .ref (a 0)), (1, .int y1), (2, .int y2)] → W p l e (headSpec wsMo_more rmM_more).room s m ([.ref (a 0), .int x1, .int x2] : List Value).toArray below meth c H locs 0 0 (MQ below (va_Qi R (uI D clA (mT tI tZ) A false (mw a tI tZ)) A) ([.ref (a 0), .int x1, .int x2] : List Value).toArray s 0 0 A) (F0 m 101 ls [.int z1, .int z0]) := by
    intro σ y1 y2 z0 z1 H locs ls hwp hP hD hS hl
    refine lv_iadd hx hb dMo_more_101 ?_
    exact W.iret (v := z0 + z1) hx hb hr (fun t ht hW => ⟨⟨z0 + z1, σ, rfl, hwp, uEnd ht hW hP hK hD hS hA⟩, hS.F ht⟩) hS.2.2 dMo_more_102
  have cut14 : ∀ (σ : MS) (y1 : Int32) (y2 : Int32) (z1 : Int32) (H : Heap) (locs : List Loc) (ls : Array Slot), wM_more_14 R σ y1 y2 z1 → va_P D clA (mw a tI tZ σ) H → va_D A (mw a tI tZ σ) → va_S A s.heap H locs → lv_has ls 3 [(0, .ref (a 0)), (1, .int y1), (2, .int y2)] → W p l e (headSpec wsMo_more rmM_more).room s m ([.ref (a 0), .int x1, .int x2] : List Value).toArray below meth c H locs 0 0 (MQ below (va_Qi R (uI D clA (mT tI tZ) A false (mw a tI tZ)) A) ([.ref (a 0), .int x1, .int x2] : List Value).toArray s 0 0 A) (F0 m 14 ls [.int z1, .ref (a 0)]) := by
    intro σ y1 y2 z1 H locs ls hwp hP hD hS hl
    refine va_put (ty := .int) (D := D) (ci := 0) (C := RMo) (T := TMo) (N := 33) hx hb hts hin0 tyMo tyMo_ok nmMo hown hK hP hD hS 0 rfl rfl 32 (by decide) k90 (fun _ h9 => h9) rfl (by decide +kernel) rfl rfl (Nat.le_of_ble_eq_true rfl) dMo_more_14 (fun H locs hP hD hS => ?_)
    obtain ⟨σ1, eσ1⟩ : ∃ z, z = up2 σ 32 0 z1 := ⟨_, rfl⟩
    have hwp := hwp σ1 eσ1
    have hP : va_P D clA (mw a tI tZ σ1) H := by rw [eσ1]; exact hP
    have hD : va_D A (mw a tI tZ σ1) := by rw [eσ1]; exact hD
    refine lv_aload_n hx hb dMo_more_17 rfl (lv_at hl 0 rfl) ?_
    refine va_get (D := D) (ci := 0) (C := RMo) (T := TMo) (N := 33) hx hb hts hin0 hown hK hP 0 rfl rfl 32 (by decide) k90 (fun _ h9 => h9) rfl dMo_more_18 ?_
    refine lv_if_eq hx hb dMo_more_21 rfl (fun h2 => ?_) (fun h2 => ?_)
    · have hwp := hwp.1 h2
      refine lv_iload_n hx hb dMo_more_26 rfl (lv_at hl 1 rfl) ?_
      by_cases h3 : y1 = 0
      · have hwp := hwp.1 h3
        refine lv_tableIn hx hb dMo_more_27 (by rw [h3]; decide) (by rw [h3]; decide) (by rw [h3]; rfl) rfl ?_
        refine lv_aload_n hx hb dMo_more_56 rfl (lv_at hl 0 rfl) ?_
        refine va_get (D := D) (ci := 0) (C := RMo) (T := TMo) (N := 33) hx hb hts hin0 hown hK hP 0 rfl rfl 11 (by decide) k35 (fun _ h9 => h9) rfl dMo_more_57 ?_
        refine lv_iload_n hx hb dMo_more_60 rfl (lv_at hl 2 rfl) ?_
        obtain ⟨hi4, hwp⟩ := hwp
        refine va_iald hx hb hK hP 8 0 rfl rfl hi4 dMo_more_61 ?_
        exact W.iret (v := σ1 11 y2.toNatClampNeg) hx hb hr (fun t ht hW => ⟨⟨σ1 11 y2.toNatClampNeg, σ1, rfl, hwp, uEnd ht hW hP hK hD hS hA⟩, hS.F ht⟩) hS.2.2 dMo_more_62
      have hwp := hwp.2 h3
      by_cases h5 : y1 = 1
      · have hwp := hwp.1 h5
        refine lv_tableIn hx hb dMo_more_27 (by rw [h5]; decide) (by rw [h5]; decide) (by rw [h5]; rfl) rfl ?_
        refine lv_aload_n hx hb dMo_more_63 rfl (lv_at hl 0 rfl) ?_
        refine va_get (D := D) (ci := 0) (C := RMo) (T := TMo) (N := 33) hx hb hts hin0 hown hK hP 0 rfl rfl 15 (by decide) k47 (fun _ h9 => h9) rfl dMo_more_64 ?_
        refine lv_iconst (v := 5) hx hb dMo_more_67 (by decide) ?_
        refine lv_iload_n hx hb dMo_more_68 rfl (lv_at hl 2 rfl) ?_
        refine lv_imul hx hb dMo_more_69 ?_
        obtain ⟨hi6, hwp⟩ := hwp
        refine va_iald hx hb hK hP 12 0 rfl rfl hi6 dMo_more_70 ?_
        exact W.iret (v := σ1 15 (5 * y2).toNatClampNeg) hx hb hr (fun t ht hW => ⟨⟨σ1 15 (5 * y2).toNatClampNeg, σ1, rfl, hwp, uEnd ht hW hP hK hD hS hA⟩, hS.F ht⟩) hS.2.2 dMo_more_71
      have hwp := hwp.2 h5
      by_cases h7 : y1 = 2
      · have hwp := hwp.1 h7
        refine lv_tableIn hx hb dMo_more_27 (by rw [h7]; decide) (by rw [h7]; decide) (by rw [h7]; rfl) rfl ?_
        refine lv_aload_n hx hb dMo_more_72 rfl (lv_at hl 0 rfl) ?_
        refine va_get (D := D) (ci := 0) (C := RMo) (T := TMo) (N := 33) hx hb hts hin0 hown hK hP 0 rfl rfl 20 (by decide) k56 (fun _ h9 => h9) rfl dMo_more_73 ?_
        refine lv_iload_n hx hb dMo_more_76 rfl (lv_at hl 2 rfl) ?_
        obtain ⟨hi8, hwp⟩ := hwp
        refine va_iald hx hb hK hP 15 0 rfl rfl hi8 dMo_more_77 ?_
        exact W.iret (v := σ1 20 y2.toNatClampNeg) hx hb hr (fun t ht hW => ⟨⟨σ1 20 y2.toNatClampNeg, σ1, rfl, hwp, uEnd ht hW hP hK hD hS hA⟩, hS.F ht⟩) hS.2.2 dMo_more_78
      have hwp := hwp.2 h7
      by_cases h9 : y1 = 3
      · have hwp := hwp.1 h9
        refine lv_tableIn hx hb dMo_more_27 (by rw [h9]; decide) (by rw [h9]; decide) (by rw [h9]; rfl) rfl ?_
        refine lv_aload_n hx hb dMo_more_79 rfl (lv_at hl 0 rfl) ?_
        refine va_get (D := D) (ci := 0) (C := RMo) (T := TMo) (N := 33) hx hb hts hin0 hown hK hP 0 rfl rfl 24 (by decide) k69 (fun _ h9 => h9) rfl dMo_more_80 ?_
        refine lv_iload_n hx hb dMo_more_83 rfl (lv_at hl 2 rfl) ?_
        obtain ⟨hi10, hwp⟩ := hwp
        refine va_iald hx hb hK hP 19 0 rfl rfl hi10 dMo_more_84 ?_
        refine lv_aload_n hx hb dMo_more_85 rfl (lv_at hl 0 rfl) ?_
        refine va_get (D := D) (ci := 0) (C := RMo) (T := TMo) (N := 33) hx hb hts hin0 hown hK hP 0 rfl rfl 26 (by decide) k75 (fun _ h9 => h9) rfl dMo_more_86 ?_
        refine lv_iload_n hx hb dMo_more_89 rfl (lv_at hl 2 rfl) ?_
        obtain ⟨hi11, hwp⟩ := hwp
        refine va_zald hx hb hK hP 21 1 rfl rfl hi11 dMo_more_90 ?_
        refine lv_if_eq hx hb dMo_more_91 rfl (fun h12 => ?_) (fun h12 => ?_)
        · have hwp := hwp.1 h12
          refine lv_iconst (v := 0) hx hb dMo_more_100 (by decide) ?_
          exact cut101 σ1 y1 y2 (σ1 24 y2.toNatClampNeg) 0 _ _ _ hwp hP hD hS (lv_sub hl [0, 1, 2] rfl)
        · have hwp := hwp.2 h12
          refine lv_sipush (v := 1000) hx hb dMo_more_94 (by decide) ?_
          refine lv_goto hx hb dMo_more_97 rfl ?_
          exact cut101 σ1 y1 y2 (σ1 24 y2.toNatClampNeg) 1000 _ _ _ hwp hP hD hS (lv_sub hl [0, 1, 2] rfl)
      have hwp := hwp.2 h9
      refine lv_tableOut hx hb dMo_more_27 (fx_out4 h3 h5 h7 h9) rfl ?_
      refine lv_aload_n hx hb dMo_more_103 rfl (lv_at hl 0 rfl) ?_
      refine va_get (D := D) (ci := 0) (C := RMo) (T := TMo) (N := 33) hx hb hts hin0 hown hK hP 0 rfl rfl 30 (by decide) k84 (fun _ h9 => h9) rfl dMo_more_104 ?_
      refine lv_iload_n hx hb dMo_more_107 rfl (lv_at hl 2 rfl) ?_
      obtain ⟨hi13, hwp⟩ := hwp
      refine va_iald hx hb hK hP 23 0 rfl rfl hi13 dMo_more_108 ?_
      exact W.iret (v := σ1 30 y2.toNatClampNeg) hx hb hr (fun t ht hW => ⟨⟨σ1 30 y2.toNatClampNeg, σ1, rfl, hwp, uEnd ht hW hP hK hD hS hA⟩, hS.F ht⟩) hS.2.2 dMo_more_109
    · have hwp := hwp.2 h2
      refine lv_iconst (v := 0) hx hb dMo_more_24 (by decide) ?_
      exact W.iret (v := 0) hx hb hr (fun t ht hW => ⟨⟨0, σ1, rfl, hwp, uEnd ht hW hP hK hD hS hA⟩, hS.F ht⟩) hS.2.2 dMo_more_25
  have hl := lv_entry ([.ref (a 0), .int x1, .int x2]) (n := 3) (Nat.le_of_ble_eq_true rfl)
  rw [lg_entry_eq]
  generalize (lg_sl ([.ref (a 0), .int x1, .int x2]) ++ List.replicate (3 - (lg_sl ([.ref (a 0), .int x1, .int x2])).length) Slot.unset).toArray = ls at hl ⊢
  have hl : lv_has ls 3 [(0, .ref (a 0)), (1, .int x1), (2, .int x2)] := hl
  refine lv_aload_n hx hb dMo_more_0 rfl (lv_at hl 0 rfl) ?_
  refine lv_iload_n hx hb dMo_more_1 rfl (lv_at hl 1 rfl) ?_
  refine lv_iload_n hx hb dMo_more_2 rfl (lv_at hl 2 rfl) ?_
  obtain ⟨P14, hP14, hwp⟩ := hwp
  refine uCallSi (As := [.int x1, .int x2]) (rest := [.ref (a 0)]) ⟨hx, hb, hml, hown, hts⟩ (kM_isService l D a A tI tZ σ x1 x2 P14 hP14) (cwS 2 hts (gdS wm_945 wm_946 wm_13 wm_947) rfl rfl rfl (by decide +kernel) ⟨Nat.le_of_ble_eq_true rfl, Nat.le_of_ble_eq_true rfl⟩) hP hK hD hA hS rfl hl.1 rfl (Nat.le_of_ble_eq_true rfl) dMo_more_3 ⟨Nat.le_of_ble_eq_true rfl, Nat.le_of_ble_eq_true rfl⟩ (fun r16 u15 H locs hu15 hP hD hS => ?_)
  have hwp := hwp r16 u15 hu15
  refine lv_if_eq hx hb dMo_more_6 rfl (fun h17 => ?_) (fun h17 => ?_)
  · have hwp := hwp.1 h17
    refine lv_iconst (v := 1) hx hb dMo_more_13 (by decide) ?_
    exact cut14 u15 x1 x2 1 _ _ _ hwp hP hD hS (lv_sub hl [0, 1, 2] rfl)
  · have hwp := hwp.2 h17
    refine lv_iconst (v := 0) hx hb dMo_more_9 (by decide) ?_
    refine lv_goto hx hb dMo_more_10 rfl ?_
    exact cut14 u15 x1 x2 0 _ _ _ hwp hP hD hS (lv_sub hl [0, 1, 2] rfl)
-- public int count(int)
def wM_count (R : Int32 → MS → Prop) (σ : MS) (x1 : Int32) : Prop :=
  (∀ σ1 : MS, σ1 = up2 σ 32 0 0 → (((¬ x1 = 0) → (((¬ x1 = 1) → (((¬ x1 = 2) → (((¬ x1 = 3) → R (-1) σ1) ∧ ((x1 = 3) → R (σ1 27 0) σ1))) ∧ ((x1 = 2) → R (σ1 28 0) σ1))) ∧ ((x1 = 1) → R (σ1 10 0) σ1))) ∧ ((x1 = 0) → R (σ1 9 0) σ1)))
abbrev wsMo_count : List Cond := .code yMo_count cMo_count 2 (some .int) :: wg
abbrev rmM_count : Room := { frames := 0, cells := 0, slots := 0, locals := 0 }
set_option maxHeartbeats 4000000 in
set_option maxRecDepth 100000 in
theorem kM_count (l : Launch) (D : va_G) (a : Nat → Nat) (A : Nat → Prop) (tI tZ : ClassId) (σ : MS) (x1 : Int32) (R : Int32 → MS → Prop) (hwp : wM_count R σ x1) : Met l yMo_count wsMo_count rmM_count (va_Pc [.ref (a 0), .int x1] (uI D clA (mT tI tZ) A false (mw a tI tZ) σ)) (va_Qi R (uI D clA (mT tI tZ) A false (mw a tI tZ)) A) 0 0 A := by
  refine Met.ofW (cc := cMo_count) (maxL := 2) (ret := (some .int)) (by decide) rfl ?_
  intro p e s m args below meth c s₁ B hml hv
  obtain ⟨rfl, hP, hK, hD, hA⟩ := hv
  have hx := B.exec
  have hb := B.bytes
  have hr := B.returns
  have hts := atoms_spec (ws := wsMo_count) B.pre
  have hown : s.vm.findClass RMo = some m.cls := findClass_of_methodNamed B.named
  have hlocks := B.notSynchronized
  have hin0 : ∀ w ∈ u_ws RMo TMo 33, w ∈ wsMo_count := fun w h => List.mem_cons_of_mem _ (inMo w h)
  have k128 := hts _ (List.mem_cons_of_mem _ wm_745)
  have k164 := hts _ (List.mem_cons_of_mem _ wm_764)
  have k78 := hts _ (List.mem_cons_of_mem _ wm_763)
  have k90 := hts _ (List.mem_cons_of_mem _ wm_768)
  have k96 := hts _ (List.mem_cons_of_mem _ wm_746)
  have hS : va_S A s.heap s.heap [] := va_S.rf
  have hl := lv_entry ([.ref (a 0), .int x1]) (n := 2) (Nat.le_of_ble_eq_true rfl)
  rw [lg_entry_eq]
  generalize (lg_sl ([.ref (a 0), .int x1]) ++ List.replicate (2 - (lg_sl ([.ref (a 0), .int x1])).length) Slot.unset).toArray = ls at hl ⊢
  have hl : lv_has ls 2 [(0, .ref (a 0)), (1, .int x1)] := hl
  refine lv_aload_n hx hb dMo_count_0 rfl (lv_at hl 0 rfl) ?_
  refine lv_iconst (v := 0) hx hb dMo_count_1 (by decide) ?_
  refine va_put (ty := .int) (D := D) (ci := 0) (C := RMo) (T := TMo) (N := 33) hx hb hts hin0 tyMo tyMo_ok nmMo hown hK hP hD hS 0 rfl rfl 32 (by decide) k90 (fun _ h9 => h9) rfl (by decide +kernel) rfl rfl (Nat.le_of_ble_eq_true rfl) dMo_count_2 (fun H locs hP hD hS => ?_)
  obtain ⟨σ1, eσ1⟩ : ∃ z, z = up2 σ 32 0 0 := ⟨_, rfl⟩
  have hwp := hwp σ1 eσ1
  have hP : va_P D clA (mw a tI tZ σ1) H := by rw [eσ1]; exact hP
  have hD : va_D A (mw a tI tZ σ1) := by rw [eσ1]; exact hD
  refine lv_iload_n hx hb dMo_count_5 rfl (lv_at hl 1 rfl) ?_
  refine lv_if_ne hx hb dMo_count_6 rfl (fun h2 => ?_) (fun h2 => ?_)
  · have hwp := hwp.1 h2
    refine lv_iload_n hx hb dMo_count_16 rfl (lv_at hl 1 rfl) ?_
    refine lv_iconst (v := 1) hx hb dMo_count_17 (by decide) ?_
    refine lv_icmp_ne hx hb dMo_count_18 rfl (fun h3 => ?_) (fun h3 => ?_)
    · have hwp := hwp.1 h3
      refine lv_iload_n hx hb dMo_count_28 rfl (lv_at hl 1 rfl) ?_
      refine lv_iconst (v := 2) hx hb dMo_count_29 (by decide) ?_
      refine lv_icmp_ne hx hb dMo_count_30 rfl (fun h4 => ?_) (fun h4 => ?_)
      · have hwp := hwp.1 h4
        refine lv_iload_n hx hb dMo_count_40 rfl (lv_at hl 1 rfl) ?_
        refine lv_iconst (v := 3) hx hb dMo_count_41 (by decide) ?_
        refine lv_icmp_ne hx hb dMo_count_42 rfl (fun h5 => ?_) (fun h5 => ?_)
        · have hwp := hwp.1 h5
          refine lv_iconst (v := (-1)) hx hb dMo_count_52 (by decide) ?_
          exact W.iret (v := (-1)) hx hb hr (fun t ht hW => ⟨⟨(-1), σ1, rfl, hwp, uEnd ht hW hP hK hD hS hA⟩, hS.F ht⟩) hS.2.2 dMo_count_53
        · have hwp := hwp.2 h5
          refine lv_aload_n hx hb dMo_count_45 rfl (lv_at hl 0 rfl) ?_
          refine va_get (D := D) (ci := 0) (C := RMo) (T := TMo) (N := 33) hx hb hts hin0 hown hK hP 0 rfl rfl 27 (by decide) k78 (fun _ h9 => h9) rfl dMo_count_46 ?_
          refine lv_goto hx hb dMo_count_49 rfl ?_
          exact W.iret (v := σ1 27 0) hx hb hr (fun t ht hW => ⟨⟨σ1 27 0, σ1, rfl, hwp, uEnd ht hW hP hK hD hS hA⟩, hS.F ht⟩) hS.2.2 dMo_count_53
      · have hwp := hwp.2 h4
        refine lv_aload_n hx hb dMo_count_33 rfl (lv_at hl 0 rfl) ?_
        refine va_get (D := D) (ci := 0) (C := RMo) (T := TMo) (N := 33) hx hb hts hin0 hown hK hP 0 rfl rfl 28 (by decide) k164 (fun _ h9 => h9) rfl dMo_count_34 ?_
        refine lv_goto hx hb dMo_count_37 rfl ?_
        exact W.iret (v := σ1 28 0) hx hb hr (fun t ht hW => ⟨⟨σ1 28 0, σ1, rfl, hwp, uEnd ht hW hP hK hD hS hA⟩, hS.F ht⟩) hS.2.2 dMo_count_53
    · have hwp := hwp.2 h3
      refine lv_aload_n hx hb dMo_count_21 rfl (lv_at hl 0 rfl) ?_
      refine va_get (D := D) (ci := 0) (C := RMo) (T := TMo) (N := 33) hx hb hts hin0 hown hK hP 0 rfl rfl 10 (by decide) k96 (fun _ h9 => h9) rfl dMo_count_22 ?_
      refine lv_goto hx hb dMo_count_25 rfl ?_
      exact W.iret (v := σ1 10 0) hx hb hr (fun t ht hW => ⟨⟨σ1 10 0, σ1, rfl, hwp, uEnd ht hW hP hK hD hS hA⟩, hS.F ht⟩) hS.2.2 dMo_count_53
  · have hwp := hwp.2 h2
    refine lv_aload_n hx hb dMo_count_9 rfl (lv_at hl 0 rfl) ?_
    refine va_get (D := D) (ci := 0) (C := RMo) (T := TMo) (N := 33) hx hb hts hin0 hown hK hP 0 rfl rfl 9 (by decide) k128 (fun _ h9 => h9) rfl dMo_count_10 ?_
    refine lv_goto hx hb dMo_count_13 rfl ?_
    exact W.iret (v := σ1 9 0) hx hb hr (fun t ht hW => ⟨⟨σ1 9 0, σ1, rfl, hwp, uEnd ht hW hP hK hD hS hA⟩, hS.F ht⟩) hS.2.2 dMo_count_53
