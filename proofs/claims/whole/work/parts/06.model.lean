abbrev mT (tI tZ : ClassId) : List (ClassId × FieldType) := [(tI, .int), (tZ, .boolean)]
def mw (a : Nat → Nat) (tI tZ : ClassId) (σ : MS) : va_W := [(a 0, .inr (0, [.ref (a 1), .ref (a 2), .ref (a 3), .ref (a 4), .ref (a 5), .ref (a 6), .int (σ 6 0), .int (σ 7 0), .ref (a 7), .int (σ 9 0), .int (σ 10 0), .ref (a 8), .ref (a 9), .ref (a 10), .ref (a 11), .ref (a 12), .ref (a 13), .int (σ 17 0), .int (σ 18 0), .ref (a 14), .ref (a 15), .ref (a 16), .ref (a 17), .ref (a 18), .ref (a 19), .ref (a 20), .ref (a 21), .int (σ 27 0), .int (σ 28 0), .ref (a 22), .ref (a 23), .ref (a 24), .int (σ 32 0)])),
  (a 1, .inl (tI, 16, .inl (σ 0))),
  (a 2, .inl (tI, 16, .inl (σ 1))),
  (a 3, .inl (tI, 16, .inl (σ 2))),
  (a 4, .inl (tI, 700, .inl (σ 3))),
  (a 5, .inl (tI, 700, .inl (σ 4))),
  (a 6, .inl (tI, 700, .inl (σ 5))),
  (a 7, .inl (tI, 12, .inl (σ 8))),
  (a 8, .inl (tI, 4, .inl (σ 11))),
  (a 9, .inl (tI, 4, .inl (σ 12))),
  (a 10, .inl (tI, 4, .inl (σ 13))),
  (a 11, .inl (tI, 4, .inl (σ 14))),
  (a 12, .inl (tI, 16, .inl (σ 15))),
  (a 13, .inl (tI, 4, .inl (σ 16))),
  (a 14, .inl (tI, 4, .inl (σ 19))),
  (a 15, .inl (tI, 4, .inl (σ 20))),
  (a 16, .inl (tI, 4, .inl (σ 21))),
  (a 17, .inl (tI, 32, .inl (σ 22))),
  (a 18, .inl (tZ, 4, .inl (σ 23))),
  (a 19, .inl (tI, 4, .inl (σ 24))),
  (a 20, .inl (tI, 4, .inl (σ 25))),
  (a 21, .inl (tZ, 4, .inl (σ 26))),
  (a 22, .inl (tZ, 4, .inl (σ 29))),
  (a 23, .inl (tI, 4, .inl (σ 30))),
  (a 24, .inl (tI, 4, .inl (σ 31)))]
-- public int thrown()
def wM_thrown (R : Int32 → MS → Prop) (σ : MS) : Prop :=
  R (σ 32 0) σ
abbrev wsMo_thrown : List Cond := .code yMo_thrown cMo_thrown 1 (some .int) :: wg
abbrev rmM_thrown : Room := { frames := 0, cells := 0, slots := 0, locals := 0 }
set_option maxHeartbeats 4000000 in
set_option maxRecDepth 100000 in
theorem kM_thrown (l : Launch) (D : va_G) (a : Nat → Nat) (A : Nat → Prop) (tI tZ : ClassId) (σ : MS) (R : Int32 → MS → Prop) (hwp : wM_thrown R σ ) : Met l yMo_thrown wsMo_thrown rmM_thrown (va_Pc [.ref (a 0)] (uI D clA (mT tI tZ) A false (mw a tI tZ) σ)) (va_Qi R (uI D clA (mT tI tZ) A false (mw a tI tZ)) A) 0 0 A := by
  refine Met.ofW (cc := cMo_thrown) (maxL := 1) (ret := (some .int)) (by decide) rfl ?_
  intro p e s m args below meth c s₁ B hml hv
  obtain ⟨rfl, hP, hK, hD, hA⟩ := hv
  have hx := B.exec
  have hb := B.bytes
  have hr := B.returns
  have hts := atoms_spec (ws := wsMo_thrown) B.pre
  have hown : s.vm.findClass RMo = some m.cls := findClass_of_methodNamed B.named
  have hlocks := B.notSynchronized
  have hin0 : ∀ w ∈ u_ws RMo TMo 33, w ∈ wsMo_thrown := fun w h => List.mem_cons_of_mem _ (inMo w h)
  have k90 := hts _ (List.mem_cons_of_mem _ wm_768)
  have hS : va_S A s.heap s.heap [] := va_S.rf
  have hl := lv_entry ([.ref (a 0)]) (n := 1) (Nat.le_of_ble_eq_true rfl)
  rw [lg_entry_eq]
  generalize (lg_sl ([.ref (a 0)]) ++ List.replicate (1 - (lg_sl ([.ref (a 0)])).length) Slot.unset).toArray = ls at hl ⊢
  have hl : lv_has ls 1 [(0, .ref (a 0))] := hl
  refine lv_aload_n hx hb dMo_thrown_0 rfl (lv_at hl 0 rfl) ?_
  refine va_get (D := D) (ci := 0) (C := RMo) (T := TMo) (N := 33) hx hb hts hin0 hown hK hP 0 rfl rfl 32 (by decide) k90 (fun _ h9 => h9) rfl dMo_thrown_1 ?_
  exact W.iret (v := σ 32 0) hx hb hr (fun t ht hW => ⟨⟨σ 32 0, σ, rfl, hwp, uEnd ht hW hP hK hD hS hA⟩, hS.F ht⟩) hS.2.2 dMo_thrown_4
-- private static boolean isNode(int)
def wM_isNode_13 (R : Int32 → MS → Prop) (σ : MS) (y0 : Int32) : Prop :=
  R 0 σ
def wM_isNode (R : Int32 → MS → Prop) (σ : MS) (x1 : Int32) : Prop :=
  (((x1 < 0) → wM_isNode_13 R σ x1) ∧ ((¬ x1 < 0) → (((4 ≤ x1) → wM_isNode_13 R σ x1) ∧ ((¬ 4 ≤ x1) → R 1 σ))))
abbrev wsMo_isNode : List Cond := .code yMo_isNode cMo_isNode 1 (some .boolean) :: wg
abbrev rmM_isNode : Room := { frames := 0, cells := 0, slots := 0, locals := 0 }
set_option maxHeartbeats 4000000 in
set_option maxRecDepth 100000 in
theorem kM_isNode (l : Launch) (D : va_G) (a : Nat → Nat) (A : Nat → Prop) (tI tZ : ClassId) (σ : MS) (x1 : Int32) (R : Int32 → MS → Prop) (hwp : wM_isNode R σ x1) : Met l yMo_isNode wsMo_isNode rmM_isNode (va_Pc [.int x1] (uI D clA (mT tI tZ) A false (mw a tI tZ) σ)) (va_Qi R (uI D clA (mT tI tZ) A false (mw a tI tZ)) A) 0 0 A := by
  refine Met.ofW (cc := cMo_isNode) (maxL := 1) (ret := (some .boolean)) (by decide) rfl ?_
  intro p e s m args below meth c s₁ B hml hv
  obtain ⟨rfl, hP, hK, hD, hA⟩ := hv
  have hx := B.exec
  have hb := B.bytes
  have hr := B.returns
  have hts := atoms_spec (ws := wsMo_isNode) B.pre
  have hown : s.vm.findClass RMo = some m.cls := findClass_of_methodNamed B.named
  have hlocks := B.notSynchronized
  have hS : va_S A s.heap s.heap [] := va_S.rf
  have cut13 : ∀ (σ : MS) (y0 : Int32) (H : Heap) (locs : List Loc) (ls : Array Slot), wM_isNode_13 R σ y0 → va_P D clA (mw a tI tZ σ) H → va_D A (mw a tI tZ σ) → va_S A s.heap H locs → lv_has ls 1 [(0, .int y0)] → W p l e (headSpec wsMo_isNode rmM_isNode).room s m ([.int x1] : List Value).toArray below meth c H locs 0 0 (MQ below (va_Qi R (uI D clA (mT tI tZ) A false (mw a tI tZ)) A) ([.int x1] : List Value).toArray s 0 0 A) (F0 m 13 ls []) := by
    intro σ y0 H locs ls hwp hP hD hS hl
    refine lv_iconst (v := 0) hx hb dMo_isNode_13 (by decide) ?_
    exact W.zret (v := 0) hx hb hr (by decide) (fun t ht hW => ⟨⟨0, σ, rfl, hwp, uEnd ht hW hP hK hD hS hA⟩, hS.F ht⟩) hS.2.2 dMo_isNode_14
  have hl := lv_entry ([.int x1]) (n := 1) (Nat.le_of_ble_eq_true rfl)
  rw [lg_entry_eq]
  generalize (lg_sl ([.int x1]) ++ List.replicate (1 - (lg_sl ([.int x1])).length) Slot.unset).toArray = ls at hl ⊢
  have hl : lv_has ls 1 [(0, .int x1)] := hl
  refine lv_iload_n hx hb dMo_isNode_0 rfl (lv_at hl 0 rfl) ?_
  refine lv_if_lt hx hb dMo_isNode_1 rfl (fun h1 => ?_) (fun h1 => ?_)
  · have hwp := hwp.1 h1
    exact cut13 σ x1 _ _ _ hwp hP hD hS (lv_sub hl [0] rfl)
  · have hwp := hwp.2 h1
    refine lv_iload_n hx hb dMo_isNode_4 rfl (lv_at hl 0 rfl) ?_
    refine lv_iconst (v := 4) hx hb dMo_isNode_5 (by decide) ?_
    refine lv_icmp_ge hx hb dMo_isNode_6 rfl (fun h2 => ?_) (fun h2 => ?_)
    · have hwp := hwp.1 h2
      exact cut13 σ x1 _ _ _ hwp hP hD hS (lv_sub hl [0] rfl)
    · have hwp := hwp.2 h2
      refine lv_iconst (v := 1) hx hb dMo_isNode_9 (by decide) ?_
      refine lv_goto hx hb dMo_isNode_10 rfl ?_
      exact W.zret (v := 1) hx hb hr (by decide) (fun t ht hW => ⟨⟨1, σ, rfl, hwp, uEnd ht hW hP hK hD hS hA⟩, hS.F ht⟩) hS.2.2 dMo_isNode_14
-- private static boolean isChannel(int, int)
def wM_isChannel_23 (R : Int32 → MS → Prop) (σ : MS) (y0 : Int32) (y1 : Int32) : Prop :=
  R 0 σ
def wM_isChannel (R : Int32 → MS → Prop) (σ : MS) (x1 x2 : Int32) : Prop :=
  (∃ P1 : Int32 → MS → Prop, wM_isNode P1 σ x1 ∧ (∀ (r3 : Int32) (u2 : MS), P1 r3 u2 → (((r3 = 0) → wM_isChannel_23 R u2 x1 x2) ∧ ((¬ r3 = 0) → (∃ P5 : Int32 → MS → Prop, wM_isNode P5 u2 x2 ∧ (∀ (r7 : Int32) (u6 : MS), P5 r7 u6 → (((r7 = 0) → wM_isChannel_23 R u6 x1 x2) ∧ ((¬ r7 = 0) → (((x1 = x2) → wM_isChannel_23 R u6 x1 x2) ∧ ((¬ x1 = x2) → R 1 u6))))))))))
abbrev wsMo_isChannel : List Cond := .code yMo_isChannel cMo_isChannel 2 (some .boolean) :: wg
abbrev rmM_isChannel : Room := { frames := 1, cells := 0, slots := 0, locals := 20 }
set_option maxHeartbeats 4000000 in
set_option maxRecDepth 100000 in
theorem kM_isChannel (l : Launch) (D : va_G) (a : Nat → Nat) (A : Nat → Prop) (tI tZ : ClassId) (σ : MS) (x1 x2 : Int32) (R : Int32 → MS → Prop) (hwp : wM_isChannel R σ x1 x2) : Met l yMo_isChannel wsMo_isChannel rmM_isChannel (va_Pc [.int x1, .int x2] (uI D clA (mT tI tZ) A false (mw a tI tZ) σ)) (va_Qi R (uI D clA (mT tI tZ) A false (mw a tI tZ)) A) 0 0 A := by
  refine Met.ofW (cc := cMo_isChannel) (maxL := 2) (ret := (some .boolean)) (by decide) rfl ?_
  intro p e s m args below meth c s₁ B hml hv
  obtain ⟨rfl, hP, hK, hD, hA⟩ := hv
  have hx := B.exec
  have hb := B.bytes
  have hr := B.returns
  have hts := atoms_spec (ws := wsMo_isChannel) B.pre
  have hown : s.vm.findClass RMo = some m.cls := findClass_of_methodNamed B.named
  have hlocks := B.notSynchronized
  have hS : va_S A s.heap s.heap [] := va_S.rf
  have cut23 : ∀ (σ : MS) (y0 : Int32) (y1 : Int32) (H : Heap) (locs : List Loc) (ls : Array Slot), wM_isChannel_23 R σ y0 y1 → va_P D clA (mw a tI tZ σ) H → va_D A (mw a tI tZ σ) → va_S A s.heap H locs → lv_has ls 2 [(0, .int y0), (1, .int y1)] → W p l e (headSpec wsMo_isChannel rmM_isChannel).room s m ([.int x1, .int x2] : List Value).toArray below meth c H locs 0 0 (MQ below (va_Qi R (uI D clA (mT tI tZ) A false (mw a tI tZ)) A) ([.int x1, .int x2] : List Value).toArray s 0 0 A) (F0 m 23 ls []) := by
    intro σ y0 y1 H locs ls hwp hP hD hS hl
    refine lv_iconst (v := 0) hx hb dMo_isChannel_23 (by decide) ?_
    exact W.zret (v := 0) hx hb hr (by decide) (fun t ht hW => ⟨⟨0, σ, rfl, hwp, uEnd ht hW hP hK hD hS hA⟩, hS.F ht⟩) hS.2.2 dMo_isChannel_24
  have hl := lv_entry ([.int x1, .int x2]) (n := 2) (Nat.le_of_ble_eq_true rfl)
  rw [lg_entry_eq]
  generalize (lg_sl ([.int x1, .int x2]) ++ List.replicate (2 - (lg_sl ([.int x1, .int x2])).length) Slot.unset).toArray = ls at hl ⊢
  have hl : lv_has ls 2 [(0, .int x1), (1, .int x2)] := hl
  refine lv_iload_n hx hb dMo_isChannel_0 rfl (lv_at hl 0 rfl) ?_
  obtain ⟨P1, hP1, hwp⟩ := hwp
  refine uCallSi (As := [.int x1]) (rest := []) ⟨hx, hb, hml, hown, hts⟩ (kM_isNode l D a A tI tZ σ x1 P1 hP1) (cwS 1 hts (gdS wm_847 wm_848 wm_13 wm_849) rfl rfl rfl (by decide +kernel) ⟨Nat.le_of_ble_eq_true rfl, Nat.le_of_ble_eq_true rfl⟩) hP hK hD hA hS rfl hl.1 rfl (Nat.le_of_ble_eq_true rfl) dMo_isChannel_1 ⟨Nat.le_of_ble_eq_true rfl, Nat.le_of_ble_eq_true rfl⟩ (fun r3 u2 H locs hu2 hP hD hS => ?_)
  have hwp := hwp r3 u2 hu2
  refine lv_if_eq hx hb dMo_isChannel_4 rfl (fun h4 => ?_) (fun h4 => ?_)
  · have hwp := hwp.1 h4
    exact cut23 u2 x1 x2 _ _ _ hwp hP hD hS (lv_sub hl [0, 1] rfl)
  · have hwp := hwp.2 h4
    refine lv_iload_n hx hb dMo_isChannel_7 rfl (lv_at hl 1 rfl) ?_
    obtain ⟨P5, hP5, hwp⟩ := hwp
    refine uCallSi (As := [.int x2]) (rest := []) ⟨hx, hb, hml, hown, hts⟩ (kM_isNode l D a A tI tZ u2 x2 P5 hP5) (cwS 1 hts (gdS wm_847 wm_848 wm_13 wm_849) rfl rfl rfl (by decide +kernel) ⟨Nat.le_of_ble_eq_true rfl, Nat.le_of_ble_eq_true rfl⟩) hP hK hD hA hS rfl hl.1 rfl (Nat.le_of_ble_eq_true rfl) dMo_isChannel_8 ⟨Nat.le_of_ble_eq_true rfl, Nat.le_of_ble_eq_true rfl⟩ (fun r7 u6 H locs hu6 hP hD hS => ?_)
    have hwp := hwp r7 u6 hu6
    refine lv_if_eq hx hb dMo_isChannel_11 rfl (fun h8 => ?_) (fun h8 => ?_)
    · have hwp := hwp.1 h8
      exact cut23 u6 x1 x2 _ _ _ hwp hP hD hS (lv_sub hl [0, 1] rfl)
    · have hwp := hwp.2 h8
      refine lv_iload_n hx hb dMo_isChannel_14 rfl (lv_at hl 0 rfl) ?_
      refine lv_iload_n hx hb dMo_isChannel_15 rfl (lv_at hl 1 rfl) ?_
      refine lv_icmp_eq hx hb dMo_isChannel_16 rfl (fun h9 => ?_) (fun h9 => ?_)
      · have hwp := hwp.1 h9
        exact cut23 u6 x1 x2 _ _ _ hwp hP hD hS (lv_sub hl [0, 1] rfl)
      · have hwp := hwp.2 h9
        refine lv_iconst (v := 1) hx hb dMo_isChannel_19 (by decide) ?_
        refine lv_goto hx hb dMo_isChannel_20 rfl ?_
        exact W.zret (v := 1) hx hb hr (by decide) (fun t ht hW => ⟨⟨1, u6, rfl, hwp, uEnd ht hW hP hK hD hS hA⟩, hS.F ht⟩) hS.2.2 dMo_isChannel_24
-- private void send(int, int, int, int, int)
def wM_send_115 (R : MS → Prop) (σ : MS) (y1 : Int32) (y2 : Int32) (y3 : Int32) (y4 : Int32) (y5 : Int32) (y6 : Int32) (y7 : Int32) : Prop :=
  (vp_in y7 16 ∧ (∀ σ2 : MS, σ2 = up2 σ 1 y7.toNatClampNeg y6 → (vp_in y7 16 ∧ (vp_in y7 16 ∧ (∀ σ5 : MS, σ5 = up2 σ2 2 y7.toNatClampNeg ((σ2 2 y7.toNatClampNeg) + 1) → (∀ σ6 : MS, σ6 = up2 σ5 10 0 ((σ5 10 0) + 1) → R σ6))))))
def wM_send_41 (R : MS → Prop) (σ : MS) (y1 : Int32) (y2 : Int32) (y3 : Int32) (y4 : Int32) (y5 : Int32) (y6 : Int32) : Prop :=
  (vp_in y6 700 ∧ (∀ σ8 : MS, σ8 = up2 σ 3 y6.toNatClampNeg ((10 * y3) + y4) → (vp_in y6 700 ∧ (∀ σ10 : MS, σ10 = up2 σ8 4 y6.toNatClampNeg y5 → (vp_in y6 700 ∧ (∀ σ12 : MS, σ12 = up2 σ10 5 y6.toNatClampNeg (-1) → (∀ v13 : Int32, v13 = (4 * y1) + y2 → (vp_in v13 16 ∧ (((0 ≤ (σ12 0 v13.toNatClampNeg)) → (vp_in v13 16 ∧ (vp_in (σ12 1 v13.toNatClampNeg) 700 ∧ (∀ σ18 : MS, σ18 = up2 σ12 5 (σ12 1 v13.toNatClampNeg).toNatClampNeg y6 → wM_send_115 R σ18 y1 y2 y3 y4 y5 y6 v13)))) ∧ ((¬ 0 ≤ (σ12 0 v13.toNatClampNeg)) → (vp_in v13 16 ∧ (∀ σ20 : MS, σ20 = up2 σ12 0 v13.toNatClampNeg y6 → wM_send_115 R σ20 y1 y2 y3 y4 y5 y6 v13))))))))))))
def wM_send (R : MS → Prop) (σ : MS) (x1 x2 x3 x4 x5 : Int32) : Prop :=
  (∀ v21 : Int32, v21 = σ 7 0 → (((v21 < 0) → (∀ v23 : Int32, v23 = σ 6 0 → (∀ σ24 : MS, σ24 = up2 σ 6 0 ((σ 6 0) + 1) → wM_send_41 R σ24 x1 x2 x3 x4 x5 v23))) ∧ ((¬ v21 < 0) → (vp_in v21 700 ∧ (∀ σ26 : MS, σ26 = up2 σ 7 0 (σ 5 v21.toNatClampNeg) → wM_send_41 R σ26 x1 x2 x3 x4 x5 v21)))))
abbrev wsMo_send : List Cond := .code yMo_send cMo_send 8 none :: wg
abbrev rmM_send : Room := { frames := 0, cells := 0, slots := 0, locals := 0 }
set_option maxHeartbeats 4000000 in
set_option maxRecDepth 100000 in
theorem kM_send (l : Launch) (D : va_G) (a : Nat → Nat) (A : Nat → Prop) (tI tZ : ClassId) (σ : MS) (x1 x2 x3 x4 x5 : Int32) (R : MS → Prop) (hwp : wM_send R σ x1 x2 x3 x4 x5) : Met l yMo_send wsMo_send rmM_send (va_Pc [.ref (a 0), .int x1, .int x2, .int x3, .int x4, .int x5] (uI D clA (mT tI tZ) A false (mw a tI tZ) σ)) (va_Qv R (uI D clA (mT tI tZ) A false (mw a tI tZ)) A) 0 0 A := by
  refine Met.ofW (cc := cMo_send) (maxL := 8) (ret := none) (by decide) rfl ?_
  intro p e s m args below meth c s₁ B hml hv
  obtain ⟨rfl, hP, hK, hD, hA⟩ := hv
  have hx := B.exec
  have hb := B.bytes
  have hr := B.returns
  have hts := atoms_spec (ws := wsMo_send) B.pre
  have hown : s.vm.findClass RMo = some m.cls := findClass_of_methodNamed B.named
  have hlocks := B.notSynchronized
  have hin0 : ∀ w ∈ u_ws RMo TMo 33, w ∈ wsMo_send := fun w h => List.mem_cons_of_mem _ (inMo w h)
  have k13 := hts _ (List.mem_cons_of_mem _ wm_737)
  have k16 := hts _ (List.mem_cons_of_mem _ wm_738)
  have k19 := hts _ (List.mem_cons_of_mem _ wm_739)
  have k22 := hts _ (List.mem_cons_of_mem _ wm_740)
  have k25 := hts _ (List.mem_cons_of_mem _ wm_741)
  have k28 := hts _ (List.mem_cons_of_mem _ wm_743)
  have k7 := hts _ (List.mem_cons_of_mem _ wm_736)
  have k93 := hts _ (List.mem_cons_of_mem _ wm_742)
  have k96 := hts _ (List.mem_cons_of_mem _ wm_746)
  have hS : va_S A s.heap s.heap [] := va_S.rf
  have cut115 : ∀ (σ : MS) (y1 : Int32) (y2 : Int32) (y3 : Int32) (y4 : Int32) (y5 : Int32) (y6 : Int32) (y7 : Int32) (H : Heap) (locs : List Loc) (ls : Array Slot), wM_send_115 R σ y1 y2 y3 y4 y5 y6 y7 → va_P D clA (mw a tI tZ σ) H → va_D A (mw a tI tZ σ) → va_S A s.heap H locs → lv_has ls 8 [(0, .ref (a 0)), (1, .int y1), (2, .int y2), (3, .int y3), (4, .int y4), (5, .int y5), (6, .int y6), (7, .int y7)] → W p l e (headSpec wsMo_send rmM_send).room s m ([.ref (a 0), .int x1, .int x2, .int x3, .int x4, .int x5] : List Value).toArray below meth c H locs 0 0 (MQ below (va_Qv R (uI D clA (mT tI tZ) A false (mw a tI tZ)) A) ([.ref (a 0), .int x1, .int x2, .int x3, .int x4, .int x5] : List Value).toArray s 0 0 A) (F0 m 115 ls []) := by
    intro σ y1 y2 y3 y4 y5 y6 y7 H locs ls hwp hP hD hS hl
    refine lv_aload_n hx hb dMo_send_115 rfl (lv_at hl 0 rfl) ?_
    refine va_get (D := D) (ci := 0) (C := RMo) (T := TMo) (N := 33) hx hb hts hin0 hown hK hP 0 rfl rfl 1 (by decide) k13 (fun _ h9 => h9) rfl dMo_send_116 ?_
    refine lv_iload hx hb dMo_send_119 (lv_at hl 7 rfl) ?_
    refine lv_iload hx hb dMo_send_121 (lv_at hl 6 rfl) ?_
    obtain ⟨hi1, hwp⟩ := hwp
    refine va_iast hx hb hK hP hD hS 2 0 rfl rfl hi1 dMo_send_123 (fun H locs hP hD hS => ?_)
    obtain ⟨σ2, eσ2⟩ : ∃ z, z = up2 σ 1 y7.toNatClampNeg y6 := ⟨_, rfl⟩
    have hwp := hwp σ2 eσ2
    have hP : va_P D clA (mw a tI tZ σ2) H := by rw [eσ2]; exact hP
    have hD : va_D A (mw a tI tZ σ2) := by rw [eσ2]; exact hD
    refine lv_aload_n hx hb dMo_send_124 rfl (lv_at hl 0 rfl) ?_
    refine va_get (D := D) (ci := 0) (C := RMo) (T := TMo) (N := 33) hx hb hts hin0 hown hK hP 0 rfl rfl 2 (by decide) k16 (fun _ h9 => h9) rfl dMo_send_125 ?_
    refine lv_iload hx hb dMo_send_128 (lv_at hl 7 rfl) ?_
    refine lv_dup2_11 hx hb dMo_send_130 rfl rfl ?_
    obtain ⟨hi3, hwp⟩ := hwp
    refine va_iald hx hb hK hP 3 0 rfl rfl hi3 dMo_send_131 ?_
    refine lv_iconst (v := 1) hx hb dMo_send_132 (by decide) ?_
    refine lv_iadd hx hb dMo_send_133 ?_
    obtain ⟨hi4, hwp⟩ := hwp
    refine va_iast hx hb hK hP hD hS 3 0 rfl rfl hi4 dMo_send_134 (fun H locs hP hD hS => ?_)
    obtain ⟨σ5, eσ5⟩ : ∃ z, z = up2 σ2 2 y7.toNatClampNeg ((σ2 2 y7.toNatClampNeg) + 1) := ⟨_, rfl⟩
    have hwp := hwp σ5 eσ5
    have hP : va_P D clA (mw a tI tZ σ5) H := by rw [eσ5]; exact hP
    have hD : va_D A (mw a tI tZ σ5) := by rw [eσ5]; exact hD
    refine lv_aload_n hx hb dMo_send_135 rfl (lv_at hl 0 rfl) ?_
    refine lv_dup hx hb dMo_send_136 rfl ?_
    refine va_get (D := D) (ci := 0) (C := RMo) (T := TMo) (N := 33) hx hb hts hin0 hown hK hP 0 rfl rfl 10 (by decide) k96 (fun _ h9 => h9) rfl dMo_send_137 ?_
    refine lv_iconst (v := 1) hx hb dMo_send_140 (by decide) ?_
    refine lv_iadd hx hb dMo_send_141 ?_
    refine va_put (ty := .int) (D := D) (ci := 0) (C := RMo) (T := TMo) (N := 33) hx hb hts hin0 tyMo tyMo_ok nmMo hown hK hP hD hS 0 rfl rfl 10 (by decide) k96 (fun _ h9 => h9) rfl (by decide +kernel) rfl rfl (Nat.le_of_ble_eq_true rfl) dMo_send_142 (fun H locs hP hD hS => ?_)
    obtain ⟨σ6, eσ6⟩ : ∃ z, z = up2 σ5 10 0 ((σ5 10 0) + 1) := ⟨_, rfl⟩
    have hwp := hwp σ6 eσ6
    have hP : va_P D clA (mw a tI tZ σ6) H := by rw [eσ6]; exact hP
    have hD : va_D A (mw a tI tZ σ6) := by rw [eσ6]; exact hD
    exact W.vret hx hb hr (fun t ht hW => ⟨⟨σ6, rfl, hwp, uEnd ht hW hP hK hD hS hA⟩, hS.F ht⟩) hS.2.2 dMo_send_145
  have cut41 : ∀ (σ : MS) (y1 : Int32) (y2 : Int32) (y3 : Int32) (y4 : Int32) (y5 : Int32) (y6 : Int32) (H : Heap) (locs : List Loc) (ls : Array Slot), wM_send_41 R σ y1 y2 y3 y4 y5 y6 → va_P D clA (mw a tI tZ σ) H → va_D A (mw a tI tZ σ) → va_S A s.heap H locs → lv_has ls 8 [(0, .ref (a 0)), (1, .int y1), (2, .int y2), (3, .int y3), (4, .int y4), (5, .int y5), (6, .int y6)] → W p l e (headSpec wsMo_send rmM_send).room s m ([.ref (a 0), .int x1, .int x2, .int x3, .int x4, .int x5] : List Value).toArray below meth c H locs 0 0 (MQ below (va_Qv R (uI D clA (mT tI tZ) A false (mw a tI tZ)) A) ([.ref (a 0), .int x1, .int x2, .int x3, .int x4, .int x5] : List Value).toArray s 0 0 A) (F0 m 41 ls []) := by
    intro σ y1 y2 y3 y4 y5 y6 H locs ls hwp hP hD hS hl
    refine lv_aload_n hx hb dMo_send_41 rfl (lv_at hl 0 rfl) ?_
    refine va_get (D := D) (ci := 0) (C := RMo) (T := TMo) (N := 33) hx hb hts hin0 hown hK hP 0 rfl rfl 3 (by decide) k19 (fun _ h9 => h9) rfl dMo_send_42 ?_
    refine lv_iload hx hb dMo_send_45 (lv_at hl 6 rfl) ?_
    refine lv_bipush (v := 10) hx hb dMo_send_47 (by decide) ?_
    refine lv_iload_n hx hb dMo_send_49 rfl (lv_at hl 3 rfl) ?_
    refine lv_imul hx hb dMo_send_50 ?_
    refine lv_iload hx hb dMo_send_51 (lv_at hl 4 rfl) ?_
    refine lv_iadd hx hb dMo_send_53 ?_
    obtain ⟨hi7, hwp⟩ := hwp
    refine va_iast hx hb hK hP hD hS 4 0 rfl rfl hi7 dMo_send_54 (fun H locs hP hD hS => ?_)
    obtain ⟨σ8, eσ8⟩ : ∃ z, z = up2 σ 3 y6.toNatClampNeg ((10 * y3) + y4) := ⟨_, rfl⟩
    have hwp := hwp σ8 eσ8
    have hP : va_P D clA (mw a tI tZ σ8) H := by rw [eσ8]; exact hP
    have hD : va_D A (mw a tI tZ σ8) := by rw [eσ8]; exact hD
    refine lv_aload_n hx hb dMo_send_55 rfl (lv_at hl 0 rfl) ?_
    refine va_get (D := D) (ci := 0) (C := RMo) (T := TMo) (N := 33) hx hb hts hin0 hown hK hP 0 rfl rfl 4 (by decide) k22 (fun _ h9 => h9) rfl dMo_send_56 ?_
    refine lv_iload hx hb dMo_send_59 (lv_at hl 6 rfl) ?_
    refine lv_iload hx hb dMo_send_61 (lv_at hl 5 rfl) ?_
    obtain ⟨hi9, hwp⟩ := hwp
    refine va_iast hx hb hK hP hD hS 5 0 rfl rfl hi9 dMo_send_63 (fun H locs hP hD hS => ?_)
    obtain ⟨σ10, eσ10⟩ : ∃ z, z = up2 σ8 4 y6.toNatClampNeg y5 := ⟨_, rfl⟩
    have hwp := hwp σ10 eσ10
    have hP : va_P D clA (mw a tI tZ σ10) H := by rw [eσ10]; exact hP
    have hD : va_D A (mw a tI tZ σ10) := by rw [eσ10]; exact hD
    refine lv_aload_n hx hb dMo_send_64 rfl (lv_at hl 0 rfl) ?_
    refine va_get (D := D) (ci := 0) (C := RMo) (T := TMo) (N := 33) hx hb hts hin0 hown hK hP 0 rfl rfl 5 (by decide) k25 (fun _ h9 => h9) rfl dMo_send_65 ?_
    refine lv_iload hx hb dMo_send_68 (lv_at hl 6 rfl) ?_
    refine lv_iconst (v := (-1)) hx hb dMo_send_70 (by decide) ?_
    obtain ⟨hi11, hwp⟩ := hwp
    refine va_iast hx hb hK hP hD hS 6 0 rfl rfl hi11 dMo_send_71 (fun H locs hP hD hS => ?_)
    obtain ⟨σ12, eσ12⟩ : ∃ z, z = up2 σ10 5 y6.toNatClampNeg (-1) := ⟨_, rfl⟩
    have hwp := hwp σ12 eσ12
    have hP : va_P D clA (mw a tI tZ σ12) H := by rw [eσ12]; exact hP
    have hD : va_D A (mw a tI tZ σ12) := by rw [eσ12]; exact hD
    refine lv_iconst (v := 4) hx hb dMo_send_72 (by decide) ?_
    refine lv_iload_n hx hb dMo_send_73 rfl (lv_at hl 1 rfl) ?_
    refine lv_imul hx hb dMo_send_74 ?_
    refine lv_iload_n hx hb dMo_send_75 rfl (lv_at hl 2 rfl) ?_
    refine lv_iadd hx hb dMo_send_76 ?_
    refine lv_topi (fun v13 ev13 => ?_)
    have hwp := hwp v13 ev13
    refine lv_istore hx hb dMo_send_77 hl (by decide) rfl (fun ls hl => ?_)
    have hl : lv_has ls 8 [(7, .int v13), (0, .ref (a 0)), (1, .int y1), (2, .int y2), (3, .int y3), (4, .int y4), (5, .int y5), (6, .int y6)] := hl
    refine lv_aload_n hx hb dMo_send_79 rfl (lv_at hl 1 rfl) ?_
    refine va_get (D := D) (ci := 0) (C := RMo) (T := TMo) (N := 33) hx hb hts hin0 hown hK hP 0 rfl rfl 0 (by decide) k7 (fun _ h9 => h9) rfl dMo_send_80 ?_
    refine lv_iload hx hb dMo_send_83 (lv_at hl 0 rfl) ?_
    obtain ⟨hi14, hwp⟩ := hwp
    refine va_iald hx hb hK hP 1 0 rfl rfl hi14 dMo_send_85 ?_
    refine lv_if_ge hx hb dMo_send_86 rfl (fun h15 => ?_) (fun h15 => ?_)
    · have hwp := hwp.1 h15
      refine lv_aload_n hx hb dMo_send_101 rfl (lv_at hl 1 rfl) ?_
      refine va_get (D := D) (ci := 0) (C := RMo) (T := TMo) (N := 33) hx hb hts hin0 hown hK hP 0 rfl rfl 5 (by decide) k25 (fun _ h9 => h9) rfl dMo_send_102 ?_
      refine lv_aload_n hx hb dMo_send_105 rfl (lv_at hl 1 rfl) ?_
      refine va_get (D := D) (ci := 0) (C := RMo) (T := TMo) (N := 33) hx hb hts hin0 hown hK hP 0 rfl rfl 1 (by decide) k13 (fun _ h9 => h9) rfl dMo_send_106 ?_
      refine lv_iload hx hb dMo_send_109 (lv_at hl 0 rfl) ?_
      obtain ⟨hi16, hwp⟩ := hwp
      refine va_iald hx hb hK hP 2 0 rfl rfl hi16 dMo_send_111 ?_
      refine lv_iload hx hb dMo_send_112 (lv_at hl 7 rfl) ?_
      obtain ⟨hi17, hwp⟩ := hwp
      refine va_iast hx hb hK hP hD hS 6 0 rfl rfl hi17 dMo_send_114 (fun H locs hP hD hS => ?_)
      obtain ⟨σ18, eσ18⟩ : ∃ z, z = up2 σ12 5 (σ12 1 v13.toNatClampNeg).toNatClampNeg y6 := ⟨_, rfl⟩
      have hwp := hwp σ18 eσ18
      have hP : va_P D clA (mw a tI tZ σ18) H := by rw [eσ18]; exact hP
      have hD : va_D A (mw a tI tZ σ18) := by rw [eσ18]; exact hD
      exact cut115 σ18 y1 y2 y3 y4 y5 y6 v13 _ _ _ hwp hP hD hS (lv_sub hl [1, 2, 3, 4, 5, 6, 7, 0] rfl)
    · have hwp := hwp.2 h15
      refine lv_aload_n hx hb dMo_send_89 rfl (lv_at hl 1 rfl) ?_
      refine va_get (D := D) (ci := 0) (C := RMo) (T := TMo) (N := 33) hx hb hts hin0 hown hK hP 0 rfl rfl 0 (by decide) k7 (fun _ h9 => h9) rfl dMo_send_90 ?_
      refine lv_iload hx hb dMo_send_93 (lv_at hl 0 rfl) ?_
      refine lv_iload hx hb dMo_send_95 (lv_at hl 7 rfl) ?_
      obtain ⟨hi19, hwp⟩ := hwp
      refine va_iast hx hb hK hP hD hS 1 0 rfl rfl hi19 dMo_send_97 (fun H locs hP hD hS => ?_)
      obtain ⟨σ20, eσ20⟩ : ∃ z, z = up2 σ12 0 v13.toNatClampNeg y6 := ⟨_, rfl⟩
      have hwp := hwp σ20 eσ20
      have hP : va_P D clA (mw a tI tZ σ20) H := by rw [eσ20]; exact hP
      have hD : va_D A (mw a tI tZ σ20) := by rw [eσ20]; exact hD
      refine lv_goto hx hb dMo_send_98 rfl ?_
      exact cut115 σ20 y1 y2 y3 y4 y5 y6 v13 _ _ _ hwp hP hD hS (lv_sub hl [1, 2, 3, 4, 5, 6, 7, 0] rfl)
  have hl := lv_entry ([.ref (a 0), .int x1, .int x2, .int x3, .int x4, .int x5]) (n := 8) (Nat.le_of_ble_eq_true rfl)
  rw [lg_entry_eq]
  generalize (lg_sl ([.ref (a 0), .int x1, .int x2, .int x3, .int x4, .int x5]) ++ List.replicate (8 - (lg_sl ([.ref (a 0), .int x1, .int x2, .int x3, .int x4, .int x5])).length) Slot.unset).toArray = ls at hl ⊢
  have hl : lv_has ls 8 [(0, .ref (a 0)), (1, .int x1), (2, .int x2), (3, .int x3), (4, .int x4), (5, .int x5)] := hl
  refine lv_aload_n hx hb dMo_send_0 rfl (lv_at hl 0 rfl) ?_
  refine va_get (D := D) (ci := 0) (C := RMo) (T := TMo) (N := 33) hx hb hts hin0 hown hK hP 0 rfl rfl 7 (by decide) k28 (fun _ h9 => h9) rfl dMo_send_1 ?_
  refine lv_topi (fun v21 ev21 => ?_)
  have hwp := hwp v21 ev21
  refine lv_istore hx hb dMo_send_4 hl (by decide) rfl (fun ls hl => ?_)
  have hl : lv_has ls 8 [(6, .int v21), (0, .ref (a 0)), (1, .int x1), (2, .int x2), (3, .int x3), (4, .int x4), (5, .int x5)] := hl
  refine lv_iload hx hb dMo_send_6 (lv_at hl 0 rfl) ?_
  refine lv_if_lt hx hb dMo_send_8 rfl (fun h22 => ?_) (fun h22 => ?_)
  · have hwp := hwp.1 h22
    refine lv_aload_n hx hb dMo_send_25 rfl (lv_at hl 1 rfl) ?_
    refine va_get (D := D) (ci := 0) (C := RMo) (T := TMo) (N := 33) hx hb hts hin0 hown hK hP 0 rfl rfl 6 (by decide) k93 (fun _ h9 => h9) rfl dMo_send_26 ?_
    refine lv_topi (fun v23 ev23 => ?_)
    have hwp := hwp v23 ev23
    refine lv_istore hx hb dMo_send_29 hl (by decide) rfl (fun ls hl => ?_)
    have hl : lv_has ls 8 [(6, .int v23), (0, .ref (a 0)), (1, .int x1), (2, .int x2), (3, .int x3), (4, .int x4), (5, .int x5)] := hl
    refine lv_aload_n hx hb dMo_send_31 rfl (lv_at hl 1 rfl) ?_
    refine lv_dup hx hb dMo_send_32 rfl ?_
    refine va_get (D := D) (ci := 0) (C := RMo) (T := TMo) (N := 33) hx hb hts hin0 hown hK hP 0 rfl rfl 6 (by decide) k93 (fun _ h9 => h9) rfl dMo_send_33 ?_
    refine lv_iconst (v := 1) hx hb dMo_send_36 (by decide) ?_
    refine lv_iadd hx hb dMo_send_37 ?_
    refine va_put (ty := .int) (D := D) (ci := 0) (C := RMo) (T := TMo) (N := 33) hx hb hts hin0 tyMo tyMo_ok nmMo hown hK hP hD hS 0 rfl rfl 6 (by decide) k93 (fun _ h9 => h9) rfl (by decide +kernel) rfl rfl (Nat.le_of_ble_eq_true rfl) dMo_send_38 (fun H locs hP hD hS => ?_)
    obtain ⟨σ24, eσ24⟩ : ∃ z, z = up2 σ 6 0 ((σ 6 0) + 1) := ⟨_, rfl⟩
    have hwp := hwp σ24 eσ24
    have hP : va_P D clA (mw a tI tZ σ24) H := by rw [eσ24]; exact hP
    have hD : va_D A (mw a tI tZ σ24) := by rw [eσ24]; exact hD
    exact cut41 σ24 x1 x2 x3 x4 x5 v23 _ _ _ hwp hP hD hS (lv_sub hl [1, 2, 3, 4, 5, 6, 0] rfl)
  · have hwp := hwp.2 h22
    refine lv_aload_n hx hb dMo_send_11 rfl (lv_at hl 1 rfl) ?_
    refine lv_aload_n hx hb dMo_send_12 rfl (lv_at hl 1 rfl) ?_
    refine va_get (D := D) (ci := 0) (C := RMo) (T := TMo) (N := 33) hx hb hts hin0 hown hK hP 0 rfl rfl 5 (by decide) k25 (fun _ h9 => h9) rfl dMo_send_13 ?_
    refine lv_iload hx hb dMo_send_16 (lv_at hl 0 rfl) ?_
    obtain ⟨hi25, hwp⟩ := hwp
    refine va_iald hx hb hK hP 6 0 rfl rfl hi25 dMo_send_18 ?_
    refine va_put (ty := .int) (D := D) (ci := 0) (C := RMo) (T := TMo) (N := 33) hx hb hts hin0 tyMo tyMo_ok nmMo hown hK hP hD hS 0 rfl rfl 7 (by decide) k28 (fun _ h9 => h9) rfl (by decide +kernel) rfl rfl (Nat.le_of_ble_eq_true rfl) dMo_send_19 (fun H locs hP hD hS => ?_)
    obtain ⟨σ26, eσ26⟩ : ∃ z, z = up2 σ 7 0 (σ 5 v21.toNatClampNeg) := ⟨_, rfl⟩
    have hwp := hwp σ26 eσ26
    have hP : va_P D clA (mw a tI tZ σ26) H := by rw [eσ26]; exact hP
    have hD : va_D A (mw a tI tZ σ26) := by rw [eσ26]; exact hD
    refine lv_goto hx hb dMo_send_22 rfl ?_
    exact cut41 σ26 x1 x2 x3 x4 x5 v21 _ _ _ hwp hP hD hS (lv_sub hl [1, 2, 3, 4, 5, 6, 0] rfl)
-- private void comeIn(int, int)
def wM_comeIn (R : MS → Prop) (σ : MS) (x1 x2 : Int32) : Prop :=
  (vp_in ((4 * x1) + x2) 12 ∧ (∀ σ2 : MS, σ2 = up2 σ 8 ((4 * x1) + x2).toNatClampNeg 2 → (∀ σ3 : MS, σ3 = up2 σ2 9 0 ((σ2 9 0) + 1) → R σ3)))
abbrev wsMo_comeIn : List Cond := .code yMo_comeIn cMo_comeIn 3 none :: wg
abbrev rmM_comeIn : Room := { frames := 0, cells := 0, slots := 0, locals := 0 }
set_option maxHeartbeats 4000000 in
set_option maxRecDepth 100000 in
theorem kM_comeIn (l : Launch) (D : va_G) (a : Nat → Nat) (A : Nat → Prop) (tI tZ : ClassId) (σ : MS) (x1 x2 : Int32) (R : MS → Prop) (hwp : wM_comeIn R σ x1 x2) : Met l yMo_comeIn wsMo_comeIn rmM_comeIn (va_Pc [.ref (a 0), .int x1, .int x2] (uI D clA (mT tI tZ) A false (mw a tI tZ) σ)) (va_Qv R (uI D clA (mT tI tZ) A false (mw a tI tZ)) A) 0 0 A := by
  refine Met.ofW (cc := cMo_comeIn) (maxL := 3) (ret := none) (by decide) rfl ?_
  intro p e s m args below meth c s₁ B hml hv
  obtain ⟨rfl, hP, hK, hD, hA⟩ := hv
  have hx := B.exec
  have hb := B.bytes
  have hr := B.returns
  have hts := atoms_spec (ws := wsMo_comeIn) B.pre
  have hown : s.vm.findClass RMo = some m.cls := findClass_of_methodNamed B.named
  have hlocks := B.notSynchronized
  have hin0 : ∀ w ∈ u_ws RMo TMo 33, w ∈ wsMo_comeIn := fun w h => List.mem_cons_of_mem _ (inMo w h)
  have k128 := hts _ (List.mem_cons_of_mem _ wm_745)
  have k32 := hts _ (List.mem_cons_of_mem _ wm_744)
  have hS : va_S A s.heap s.heap [] := va_S.rf
  have hl := lv_entry ([.ref (a 0), .int x1, .int x2]) (n := 3) (Nat.le_of_ble_eq_true rfl)
  rw [lg_entry_eq]
  generalize (lg_sl ([.ref (a 0), .int x1, .int x2]) ++ List.replicate (3 - (lg_sl ([.ref (a 0), .int x1, .int x2])).length) Slot.unset).toArray = ls at hl ⊢
  have hl : lv_has ls 3 [(0, .ref (a 0)), (1, .int x1), (2, .int x2)] := hl
  refine lv_aload_n hx hb dMo_comeIn_0 rfl (lv_at hl 0 rfl) ?_
  refine va_get (D := D) (ci := 0) (C := RMo) (T := TMo) (N := 33) hx hb hts hin0 hown hK hP 0 rfl rfl 8 (by decide) k32 (fun _ h9 => h9) rfl dMo_comeIn_1 ?_
  refine lv_iconst (v := 4) hx hb dMo_comeIn_4 (by decide) ?_
  refine lv_iload_n hx hb dMo_comeIn_5 rfl (lv_at hl 1 rfl) ?_
  refine lv_imul hx hb dMo_comeIn_6 ?_
  refine lv_iload_n hx hb dMo_comeIn_7 rfl (lv_at hl 2 rfl) ?_
  refine lv_iadd hx hb dMo_comeIn_8 ?_
  refine lv_iconst (v := 2) hx hb dMo_comeIn_9 (by decide) ?_
  obtain ⟨hi1, hwp⟩ := hwp
  refine va_iast hx hb hK hP hD hS 7 0 rfl rfl hi1 dMo_comeIn_10 (fun H locs hP hD hS => ?_)
  obtain ⟨σ2, eσ2⟩ : ∃ z, z = up2 σ 8 ((4 * x1) + x2).toNatClampNeg 2 := ⟨_, rfl⟩
  have hwp := hwp σ2 eσ2
  have hP : va_P D clA (mw a tI tZ σ2) H := by rw [eσ2]; exact hP
  have hD : va_D A (mw a tI tZ σ2) := by rw [eσ2]; exact hD
  refine lv_aload_n hx hb dMo_comeIn_11 rfl (lv_at hl 0 rfl) ?_
  refine lv_dup hx hb dMo_comeIn_12 rfl ?_
  refine va_get (D := D) (ci := 0) (C := RMo) (T := TMo) (N := 33) hx hb hts hin0 hown hK hP 0 rfl rfl 9 (by decide) k128 (fun _ h9 => h9) rfl dMo_comeIn_13 ?_
  refine lv_iconst (v := 1) hx hb dMo_comeIn_16 (by decide) ?_
  refine lv_iadd hx hb dMo_comeIn_17 ?_
  refine va_put (ty := .int) (D := D) (ci := 0) (C := RMo) (T := TMo) (N := 33) hx hb hts hin0 tyMo tyMo_ok nmMo hown hK hP hD hS 0 rfl rfl 9 (by decide) k128 (fun _ h9 => h9) rfl (by decide +kernel) rfl rfl (Nat.le_of_ble_eq_true rfl) dMo_comeIn_18 (fun H locs hP hD hS => ?_)
  obtain ⟨σ3, eσ3⟩ : ∃ z, z = up2 σ2 9 0 ((σ2 9 0) + 1) := ⟨_, rfl⟩
  have hwp := hwp σ3 eσ3
  have hP : va_P D clA (mw a tI tZ σ3) H := by rw [eσ3]; exact hP
  have hD : va_D A (mw a tI tZ σ3) := by rw [eσ3]; exact hD
  exact W.vret hx hb hr (fun t ht hW => ⟨⟨σ3, rfl, hwp, uEnd ht hW hP hK hD hS hA⟩, hS.F ht⟩) hS.2.2 dMo_comeIn_21
