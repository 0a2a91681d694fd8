-- NodeServices$Message: NodeServices$Message(int, int, int), on Ms
def wC_Ms_init (a : Nat → Nat) (q : Nat) (R : CS → Prop) (σ : CS) (x1 x2 x3 : Int32) : Prop :=
  (q ∈ σ.2.2 ∧ (∀ σ3 : CS, σ3 = cu σ 41 q x1 → (q ∈ σ3.2.2 ∧ (∀ σ6 : CS, σ6 = cu σ3 42 q x2 → (q ∈ σ6.2.2 ∧ (∀ σ9 : CS, σ9 = cu σ6 43 q x3 → R σ9))))))
abbrev wsMs_init : List Cond := .code yMs_init cMs_init 4 none :: wg
abbrev rmC_Ms_init : Room := { frames := 1, cells := 0, slots := 0, locals := 12 }
set_option maxHeartbeats 4000000 in
set_option maxRecDepth 100000 in
theorem kC_Ms_init (l : Launch) (D : va_G) (a : Nat → Nat) (A : Nat → Prop) (t : Nat → ClassId) (q : Nat) (σ : CS) (x1 x2 x3 : Int32) (R : CS → Prop) (hwp : wC_Ms_init a q R σ x1 x2 x3) : Met l yMs_init wsMs_init rmC_Ms_init (va_Pc [.ref q, .int x1, .int x2, .int x3] (uI D clA (cT t) A true (cw a t) σ)) (va_Qv R (uI D clA (cT t) A true (cw a t)) A) 0 0 A := by
  refine Met.ofW (cc := cMs_init) (maxL := 4) (ret := none) (by decide) rfl ?_
  intro p e s m args below meth c s₁ B hml hv
  obtain ⟨rfl, hP, hK, hD, hA⟩ := hv
  have hx := B.exec
  have hb := B.bytes
  have hr := B.returns
  have hts := atoms_spec (ws := wsMs_init) B.pre
  have hown : s.vm.findClass RMs = some m.cls := findClass_of_methodNamed B.named
  have hlocks := B.notSynchronized
  have hin : meth.name = "<init>" := (name_of_methodNamed B.named B.method).1
  have hinMs : ∀ w ∈ u_ws RMs TMs 4, w ∈ wsMs_init := fun w h => List.mem_cons_of_mem _ (inMs w h)
  have lk13 := hts _ (List.mem_cons_of_mem _ wm_388)
  have lk16 := hts _ (List.mem_cons_of_mem _ wm_395)
  have lk7 := hts _ (List.mem_cons_of_mem _ wm_386)
  have hS : va_S A s.heap s.heap [] := va_S.rf
  have hl := lv_entry ([.ref q, .int x1, .int x2, .int x3]) (n := 4) (Nat.le_of_ble_eq_true rfl)
  rw [lg_entry_eq]
  generalize (lg_sl ([.ref q, .int x1, .int x2, .int x3]) ++ List.replicate (4 - (lg_sl ([.ref q, .int x1, .int x2, .int x3])).length) Slot.unset).toArray = ls at hl ⊢
  have hl : lv_has ls 4 [(0, .ref q), (1, .int x1), (2, .int x2), (3, .int x3)] := hl
  refine lv_aload_n hx hb dMs_init_0 rfl (lv_at hl 0 rfl) ?_
  refine W.objInit hx hb hown (hts _ (List.mem_cons_of_mem _ wm_385)) (hts _ (List.mem_cons_of_mem _ wm_27)) (hts _ (List.mem_cons_of_mem _ wm_28)) rfl (by rw [hml]; exact hl.1) rfl dMs_init_1 (Nat.le_of_ble_eq_true rfl) (Nat.le_of_ble_eq_true rfl) ?_
  refine W.eq (g2 := F0 m 4 ls []) rfl ?_
  refine lv_aload_n hx hb dMs_init_4 rfl (lv_at hl 0 rfl) ?_
  refine lv_iload_n hx hb dMs_init_5 rfl (lv_at hl 1 rfl) ?_
  have hD0 := hD
  obtain ⟨hm1, hwp⟩ := hwp
  obtain ⟨km2, hkm2⟩ := cw_ms (a := a) (t := t) hm1
  refine va_putF (ty := .int) (D := D) (ci := 4) (C := RMs) (T := TMs) (N := 4) hx hb hts hinMs tyMs tyMs_ok nmMs hown hK hP hD hS km2 hkm2 rfl 0 (by decide) lk7 (fun _ h9 => h9) rfl hin rfl (by decide +kernel) rfl rfl (Nat.le_of_ble_eq_true rfl) dMs_init_6 (fun H locs hP hD hS => ?_)
  obtain ⟨σ3, eσ3⟩ : ∃ z, z = cu σ 41 q x1 := ⟨_, rfl⟩
  have hwp := hwp σ3 eσ3
  have hP : va_P D clA (cw a t σ3) H := by rw [eσ3, ← cw_ms0 (a := a) (t := t) (σ := σ) hD0 hm1 hkm2 x1]; exact hP
  have hD : va_D A (cw a t σ3) := by rw [eσ3, ← cw_ms0 (a := a) (t := t) (σ := σ) hD0 hm1 hkm2 x1]; exact hD
  refine lv_aload_n hx hb dMs_init_9 rfl (lv_at hl 0 rfl) ?_
  refine lv_iload_n hx hb dMs_init_10 rfl (lv_at hl 2 rfl) ?_
  have hD0 := hD
  obtain ⟨hm4, hwp⟩ := hwp
  obtain ⟨km5, hkm5⟩ := cw_ms (a := a) (t := t) hm4
  refine va_putF (ty := .int) (D := D) (ci := 4) (C := RMs) (T := TMs) (N := 4) hx hb hts hinMs tyMs tyMs_ok nmMs hown hK hP hD hS km5 hkm5 rfl 1 (by decide) lk13 (fun _ h9 => h9) rfl hin rfl (by decide +kernel) rfl rfl (Nat.le_of_ble_eq_true rfl) dMs_init_11 (fun H locs hP hD hS => ?_)
  obtain ⟨σ6, eσ6⟩ : ∃ z, z = cu σ3 42 q x2 := ⟨_, rfl⟩
  have hwp := hwp σ6 eσ6
  have hP : va_P D clA (cw a t σ6) H := by rw [eσ6, ← cw_ms1 (a := a) (t := t) (σ := σ3) hD0 hm4 hkm5 x2]; exact hP
  have hD : va_D A (cw a t σ6) := by rw [eσ6, ← cw_ms1 (a := a) (t := t) (σ := σ3) hD0 hm4 hkm5 x2]; exact hD
  refine lv_aload_n hx hb dMs_init_14 rfl (lv_at hl 0 rfl) ?_
  refine lv_iload_n hx hb dMs_init_15 rfl (lv_at hl 3 rfl) ?_
  have hD0 := hD
  obtain ⟨hm7, hwp⟩ := hwp
  obtain ⟨km8, hkm8⟩ := cw_ms (a := a) (t := t) hm7
  refine va_putF (ty := .int) (D := D) (ci := 4) (C := RMs) (T := TMs) (N := 4) hx hb hts hinMs tyMs tyMs_ok nmMs hown hK hP hD hS km8 hkm8 rfl 2 (by decide) lk16 (fun _ h9 => h9) rfl hin rfl (by decide +kernel) rfl rfl (Nat.le_of_ble_eq_true rfl) dMs_init_16 (fun H locs hP hD hS => ?_)
  obtain ⟨σ9, eσ9⟩ : ∃ z, z = cu σ6 43 q x3 := ⟨_, rfl⟩
  have hwp := hwp σ9 eσ9
  have hP : va_P D clA (cw a t σ9) H := by rw [eσ9, ← cw_ms2 (a := a) (t := t) (σ := σ6) hD0 hm7 hkm8 x3]; exact hP
  have hD : va_D A (cw a t σ9) := by rw [eσ9, ← cw_ms2 (a := a) (t := t) (σ := σ6) hD0 hm7 hkm8 x3]; exact hD
  exact W.vret hx hb hr (fun t ht hW => ⟨⟨σ9, rfl, hwp, uEnd ht hW hP hK hD hS hA⟩, hS.F ht⟩) hS.2.2 dMs_init_19
-- NodeServices$Channel: void append(NodeServices$Message), on Ch
def wC_Ch_append_34 (a : Nat → Nat) (k : Nat) (q : Nat) (R : CS → Prop) (σ : CS)  : Prop :=
  (∀ σ1 : CS, σ1 = cr σ 1 k (some q) → (∀ σ2 : CS, σ2 = cu σ1 40 k ((σ1.1 40 k) + 1) → R σ2))
def wC_Ch_append (a : Nat → Nat) (k : Nat) (q : Nat) (R : CS → Prop) (σ : CS) : Prop :=
  ((((σ.1 40 k) < 1024) → ((σ.2.1 1 k = none → (∀ σ6 : CS, σ6 = cr σ 0 k (some q) → wC_Ch_append_34 a k q R σ6)) ∧ (∀ q5 : Nat, σ.2.1 1 k = some q5 → (q5 ∈ σ.2.2 ∧ (∀ σ9 : CS, σ9 = cr σ 2 q5 (some q) → wC_Ch_append_34 a k q R σ9))))) ∧ ((¬ (σ.1 40 k) < 1024) → R σ))
abbrev wsCh_append : List Cond := .code yCh_append cCh_append 2 none :: wg
abbrev rmC_Ch_append : Room := { frames := 0, cells := 0, slots := 0, locals := 0 }
set_option maxHeartbeats 4000000 in
set_option maxRecDepth 100000 in
theorem kC_Ch_append (l : Launch) (D : va_G) (a : Nat → Nat) (A : Nat → Prop) (t : Nat → ClassId) (k : Nat) (q : Nat) (hpk : k < 16) (σ : CS) (R : CS → Prop) (hwp : wC_Ch_append a k q R σ ) : Met l yCh_append wsCh_append rmC_Ch_append (va_Pc [.ref (a (42 + k)), .ref q] (uI D clA (cT t) A true (cw a t) σ)) (va_Qv R (uI D clA (cT t) A true (cw a t)) A) 0 0 A := by
  refine Met.ofW (cc := cCh_append) (maxL := 2) (ret := none) (by decide) rfl ?_
  intro p e s m args below meth c s₁ B hml hv
  obtain ⟨rfl, hP, hK, hD, hA⟩ := hv
  have hx := B.exec
  have hb := B.bytes
  have hr := B.returns
  have hts := atoms_spec (ws := wsCh_append) B.pre
  have hown : s.vm.findClass RCh = some m.cls := findClass_of_methodNamed B.named
  have hlocks := B.notSynchronized
  have hinCh : ∀ w ∈ u_ws RCh TCh 3, w ∈ wsCh_append := fun w h => List.mem_cons_of_mem _ (inCh w h)
  have hinMs : ∀ w ∈ u_ws RMs TMs 4, w ∈ wsCh_append := fun w h => List.mem_cons_of_mem _ (inMs w h)
  have lk13 := hts _ (List.mem_cons_of_mem _ wm_44)
  have lk17 := hts _ (List.mem_cons_of_mem _ wm_42)
  have lk20 := hts _ (List.mem_cons_of_mem _ wm_399)
  have lk7 := hts _ (List.mem_cons_of_mem _ wm_45)
  have hS : va_S A s.heap s.heap [] := va_S.rf
  have cut34 : ∀ (σ : CS) (H : Heap) (locs : List Loc) (ls : Array Slot), wC_Ch_append_34 a k q R σ → va_P D clA (cw a t σ) H → va_D A (cw a t σ) → va_S A s.heap H locs → lv_has ls 2 [(0, .ref (a (42 + k))), (1, .ref q)] → W p l e (headSpec wsCh_append rmC_Ch_append).room s m ([.ref (a (42 + k)), .ref q] : List Value).toArray below meth c H locs 0 0 (MQ below (va_Qv R (uI D clA (cT t) A true (cw a t)) A) ([.ref (a (42 + k)), .ref q] : List Value).toArray s 0 0 A) (F0 m 34 ls []) := by
    intro σ H locs ls hwp hP hD hS hl
    refine lv_aload_n hx hb dCh_append_34 rfl (lv_at hl 0 rfl) ?_
    refine lv_aload_n hx hb dCh_append_35 rfl (lv_at hl 1 rfl) ?_
    refine va_put (ty := .object "NodeServices$Message") (D := D) (ci := 3) (C := RCh) (T := TCh) (N := 3) hx hb hts hinCh tyCh tyCh_ok nmCh hown hK hP hD hS (42 + k) (cw_ch hpk) rfl 1 (by decide) lk13 (fun _ h9 => h9) rfl (by decide +kernel) rfl rfl (Nat.le_of_ble_eq_true rfl) dCh_append_36 (fun H locs hP hD hS => ?_)
    obtain ⟨σ1, eσ1⟩ : ∃ z, z = cr σ 1 k (some q) := ⟨_, rfl⟩
    have hwp := hwp σ1 eσ1
    have hP : va_P D clA (cw a t σ1) H := by rw [eσ1, ← cw_ch1 (a := a) (t := t) (σ := σ) hpk (some q)]; exact hP
    have hD : va_D A (cw a t σ1) := by rw [eσ1, ← cw_ch1 (a := a) (t := t) (σ := σ) hpk (some q)]; exact hD
    refine lv_aload_n hx hb dCh_append_39 rfl (lv_at hl 0 rfl) ?_
    refine lv_dup hx hb dCh_append_40 rfl ?_
    refine va_get (D := D) (ci := 3) (C := RCh) (T := TCh) (N := 3) hx hb hts hinCh hown hK hP (42 + k) (cw_ch hpk) rfl 2 (by decide) lk7 (fun _ h9 => h9) rfl dCh_append_41 ?_
    refine lv_iconst (v := 1) hx hb dCh_append_44 (by decide) ?_
    refine lv_iadd hx hb dCh_append_45 ?_
    refine va_put (ty := .int) (D := D) (ci := 3) (C := RCh) (T := TCh) (N := 3) hx hb hts hinCh tyCh tyCh_ok nmCh hown hK hP hD hS (42 + k) (cw_ch hpk) rfl 2 (by decide) lk7 (fun _ h9 => h9) rfl (by decide +kernel) rfl rfl (Nat.le_of_ble_eq_true rfl) dCh_append_46 (fun H locs hP hD hS => ?_)
    obtain ⟨σ2, eσ2⟩ : ∃ z, z = cu σ1 40 k ((σ1.1 40 k) + 1) := ⟨_, rfl⟩
    have hwp := hwp σ2 eσ2
    have hP : va_P D clA (cw a t σ2) H := by rw [eσ2, ← cw_ch2 (a := a) (t := t) (σ := σ1) hpk ((σ1.1 40 k) + 1)]; exact hP
    have hD : va_D A (cw a t σ2) := by rw [eσ2, ← cw_ch2 (a := a) (t := t) (σ := σ1) hpk ((σ1.1 40 k) + 1)]; exact hD
    exact W.vret hx hb hr (fun t ht hW => ⟨⟨σ2, rfl, hwp, uEnd ht hW hP hK hD hS hA⟩, hS.F ht⟩) hS.2.2 dCh_append_49
  have hl := lv_entry ([.ref (a (42 + k)), .ref q]) (n := 2) (Nat.le_of_ble_eq_true rfl)
  rw [lg_entry_eq]
  generalize (lg_sl ([.ref (a (42 + k)), .ref q]) ++ List.replicate (2 - (lg_sl ([.ref (a (42 + k)), .ref q])).length) Slot.unset).toArray = ls at hl ⊢
  have hl : lv_has ls 2 [(0, .ref (a (42 + k))), (1, .ref q)] := hl
  refine lv_aload_n hx hb dCh_append_0 rfl (lv_at hl 0 rfl) ?_
  refine va_get (D := D) (ci := 3) (C := RCh) (T := TCh) (N := 3) hx hb hts hinCh hown hK hP (42 + k) (cw_ch hpk) rfl 2 (by decide) lk7 (fun _ h9 => h9) rfl dCh_append_1 ?_
  refine lv_sipush (v := 1024) hx hb dCh_append_4 (by decide) ?_
  refine lv_icmp_lt hx hb dCh_append_7 rfl (fun h3 => ?_) (fun h3 => ?_)
  · have hwp := hwp.1 h3
    refine lv_aload_n hx hb dCh_append_11 rfl (lv_at hl 0 rfl) ?_
    refine va_get (D := D) (ci := 3) (C := RCh) (T := TCh) (N := 3) hx hb hts hinCh hown hK hP (42 + k) (cw_ch hpk) rfl 1 (by decide) lk13 (fun _ h9 => h9) rfl dCh_append_12 ?_
    refine fx_caseq (fun hq4 => ?_) (fun q5 hq4 => ?_)
    · have hwp := hwp.1 hq4
      refine lv_ifnonnullN hx hb dCh_append_15 ?_
      refine lv_aload_n hx hb dCh_append_18 rfl (lv_at hl 0 rfl) ?_
      refine lv_aload_n hx hb dCh_append_19 rfl (lv_at hl 1 rfl) ?_
      refine va_put (ty := .object "NodeServices$Message") (D := D) (ci := 3) (C := RCh) (T := TCh) (N := 3) hx hb hts hinCh tyCh tyCh_ok nmCh hown hK hP hD hS (42 + k) (cw_ch hpk) rfl 0 (by decide) lk17 (fun _ h9 => h9) rfl (by decide +kernel) rfl rfl (Nat.le_of_ble_eq_true rfl) dCh_append_20 (fun H locs hP hD hS => ?_)
      obtain ⟨σ6, eσ6⟩ : ∃ z, z = cr σ 0 k (some q) := ⟨_, rfl⟩
      have hwp := hwp σ6 eσ6
      have hP : va_P D clA (cw a t σ6) H := by rw [eσ6, ← cw_ch0 (a := a) (t := t) (σ := σ) hpk (some q)]; exact hP
      have hD : va_D A (cw a t σ6) := by rw [eσ6, ← cw_ch0 (a := a) (t := t) (σ := σ) hpk (some q)]; exact hD
      refine lv_goto hx hb dCh_append_23 rfl ?_
      exact cut34 σ6 _ _ _ hwp hP hD hS (lv_sub hl [0, 1] rfl)
    · have hwp := hwp.2 q5 hq4
      refine lv_ifnonnull hx hb dCh_append_15 rfl ?_
      refine lv_aload_n hx hb dCh_append_26 rfl (lv_at hl 0 rfl) ?_
      refine va_get (D := D) (ci := 3) (C := RCh) (T := TCh) (N := 3) hx hb hts hinCh hown hK hP (42 + k) (cw_ch hpk) rfl 1 (by decide) lk13 (fun _ h9 => h9) rfl dCh_append_27 ?_
      refine W.eq (g2 := F0 m 30 ls [.ref q5]) (by rw [hq4]; rfl) ?_
      refine lv_aload_n hx hb dCh_append_30 rfl (lv_at hl 1 rfl) ?_
      have hD0 := hD
      obtain ⟨hm7, hwp⟩ := hwp
      obtain ⟨km8, hkm8⟩ := cw_ms (a := a) (t := t) hm7
      refine va_put (ty := .object "NodeServices$Message") (D := D) (ci := 4) (C := RMs) (T := TMs) (N := 4) hx hb hts hinMs tyMs tyMs_ok nmMs hown hK hP hD hS km8 hkm8 rfl 3 (by decide) lk20 (fun _ h9 => h9) rfl (by decide +kernel) rfl rfl (Nat.le_of_ble_eq_true rfl) dCh_append_31 (fun H locs hP hD hS => ?_)
      obtain ⟨σ9, eσ9⟩ : ∃ z, z = cr σ 2 q5 (some q) := ⟨_, rfl⟩
      have hwp := hwp σ9 eσ9
      have hP : va_P D clA (cw a t σ9) H := by rw [eσ9, ← cw_ms3 (a := a) (t := t) (σ := σ) hD0 hm7 hkm8 (some q)]; exact hP
      have hD : va_D A (cw a t σ9) := by rw [eσ9, ← cw_ms3 (a := a) (t := t) (σ := σ) hD0 hm7 hkm8 (some q)]; exact hD
      exact cut34 σ9 _ _ _ hwp hP hD hS (lv_sub hl [0, 1] rfl)
  · have hwp := hwp.2 h3
    exact W.vret hx hb hr (fun t ht hW => ⟨⟨σ, rfl, hwp, uEnd ht hW hP hK hD hS hA⟩, hS.F ht⟩) hS.2.2 dCh_append_10
-- NodeServices$Channel: NodeServices$Message takeHead(), on Ch
def wC_Ch_takeHead_31 (a : Nat → Nat) (k : Nat) (R : Option Nat → CS → Prop) (σ : CS) (y1 : Nat) : Prop :=
  (∀ σ1 : CS, σ1 = cu σ 40 k ((σ.1 40 k) - 1) → R (some y1) σ1)
def wC_Ch_takeHead (a : Nat → Nat) (k : Nat) (R : Option Nat → CS → Prop) (σ : CS) : Prop :=
  ((σ.2.1 0 k = none → R (none) σ) ∧ (∀ q3 : Nat, σ.2.1 0 k = some q3 → (q3 ∈ σ.2.2 ∧ ((σ.2.1 2 q3 = none → (∀ σ8 : CS, σ8 = cr σ 0 k none → ((σ8.2.1 0 k = none → (∀ σ11 : CS, σ11 = cr σ8 1 k none → wC_Ch_takeHead_31 a k R σ11 q3)) ∧ (∀ q10 : Nat, σ8.2.1 0 k = some q10 → wC_Ch_takeHead_31 a k R σ8 q3)))) ∧ (∀ q7 : Nat, σ.2.1 2 q3 = some q7 → (∀ σ12 : CS, σ12 = cr σ 0 k (some q7) → ((σ12.2.1 0 k = none → (∀ σ15 : CS, σ15 = cr σ12 1 k none → wC_Ch_takeHead_31 a k R σ15 q3)) ∧ (∀ q14 : Nat, σ12.2.1 0 k = some q14 → wC_Ch_takeHead_31 a k R σ12 q3))))))))
abbrev wsCh_takeHead : List Cond := .code yCh_takeHead cCh_takeHead 2 (some (.object "NodeServices$Message")) :: wg
abbrev rmC_Ch_takeHead : Room := { frames := 0, cells := 0, slots := 0, locals := 0 }
set_option maxHeartbeats 4000000 in
set_option maxRecDepth 100000 in
theorem kC_Ch_takeHead (l : Launch) (D : va_G) (a : Nat → Nat) (A : Nat → Prop) (t : Nat → ClassId) (k : Nat) (hpk : k < 16) (σ : CS) (R : Option Nat → CS → Prop) (hwp : wC_Ch_takeHead a k R σ ) : Met l yCh_takeHead wsCh_takeHead rmC_Ch_takeHead (va_Pc [.ref (a (42 + k))] (uI D clA (cT t) A true (cw a t) σ)) (va_Qq R (uI D clA (cT t) A true (cw a t)) A) 0 0 A := by
  refine Met.ofW (cc := cCh_takeHead) (maxL := 2) (ret := (some (.object "NodeServices$Message"))) (by decide) rfl ?_
  intro p e s m args below meth c s₁ B hml hv
  obtain ⟨rfl, hP, hK, hD, hA⟩ := hv
  have hx := B.exec
  have hb := B.bytes
  have hr := B.returns
  have hts := atoms_spec (ws := wsCh_takeHead) B.pre
  have hown : s.vm.findClass RCh = some m.cls := findClass_of_methodNamed B.named
  have hlocks := B.notSynchronized
  have hinCh : ∀ w ∈ u_ws RCh TCh 3, w ∈ wsCh_takeHead := fun w h => List.mem_cons_of_mem _ (inCh w h)
  have hinMs : ∀ w ∈ u_ws RMs TMs 4, w ∈ wsCh_takeHead := fun w h => List.mem_cons_of_mem _ (inMs w h)
  have lk13 := hts _ (List.mem_cons_of_mem _ wm_44)
  have lk17 := hts _ (List.mem_cons_of_mem _ wm_42)
  have lk20 := hts _ (List.mem_cons_of_mem _ wm_399)
  have lk7 := hts _ (List.mem_cons_of_mem _ wm_45)
  have hS : va_S A s.heap s.heap [] := va_S.rf
  have cut31 : ∀ (σ : CS) (y1 : Nat) (H : Heap) (locs : List Loc) (ls : Array Slot), wC_Ch_takeHead_31 a k R σ y1 → va_P D clA (cw a t σ) H → va_D A (cw a t σ) → va_S A s.heap H locs → lv_has ls 2 [(0, .ref (a (42 + k))), (1, .ref y1)] → W p l e (headSpec wsCh_takeHead rmC_Ch_takeHead).room s m ([.ref (a (42 + k))] : List Value).toArray below meth c H locs 0 0 (MQ below (va_Qq R (uI D clA (cT t) A true (cw a t)) A) ([.ref (a (42 + k))] : List Value).toArray s 0 0 A) (F0 m 31 ls []) := by
    intro σ y1 H locs ls hwp hP hD hS hl
    refine lv_aload_n hx hb dCh_takeHead_31 rfl (lv_at hl 0 rfl) ?_
    refine lv_dup hx hb dCh_takeHead_32 rfl ?_
    refine va_get (D := D) (ci := 3) (C := RCh) (T := TCh) (N := 3) hx hb hts hinCh hown hK hP (42 + k) (cw_ch hpk) rfl 2 (by decide) lk7 (fun _ h9 => h9) rfl dCh_takeHead_33 ?_
    refine lv_iconst (v := 1) hx hb dCh_takeHead_36 (by decide) ?_
    refine lv_isub hx hb dCh_takeHead_37 ?_
    refine va_put (ty := .int) (D := D) (ci := 3) (C := RCh) (T := TCh) (N := 3) hx hb hts hinCh tyCh tyCh_ok nmCh hown hK hP hD hS (42 + k) (cw_ch hpk) rfl 2 (by decide) lk7 (fun _ h9 => h9) rfl (by decide +kernel) rfl rfl (Nat.le_of_ble_eq_true rfl) dCh_takeHead_38 (fun H locs hP hD hS => ?_)
    obtain ⟨σ1, eσ1⟩ : ∃ z, z = cu σ 40 k ((σ.1 40 k) - 1) := ⟨_, rfl⟩
    have hwp := hwp σ1 eσ1
    have hP : va_P D clA (cw a t σ1) H := by rw [eσ1, ← cw_ch2 (a := a) (t := t) (σ := σ) hpk ((σ.1 40 k) - 1)]; exact hP
    have hD : va_D A (cw a t σ1) := by rw [eσ1, ← cw_ch2 (a := a) (t := t) (σ := σ) hpk ((σ.1 40 k) - 1)]; exact hD
    refine lv_aload_n hx hb dCh_takeHead_41 rfl (lv_at hl 1 rfl) ?_
    exact W.aret (v := .ref y1) hx hb hr (Or.inl ⟨_, rfl⟩) (Or.inr ⟨_, rfl⟩) (fun t ht hW => ⟨⟨some y1, σ1, rfl, hwp, uEnd ht hW hP hK hD hS hA⟩, hS.F ht⟩) hS.2.2 dCh_takeHead_42
  have hl := lv_entry ([.ref (a (42 + k))]) (n := 2) (Nat.le_of_ble_eq_true rfl)
  rw [lg_entry_eq]
  generalize (lg_sl ([.ref (a (42 + k))]) ++ List.replicate (2 - (lg_sl ([.ref (a (42 + k))])).length) Slot.unset).toArray = ls at hl ⊢
  have hl : lv_has ls 2 [(0, .ref (a (42 + k)))] := hl
  refine lv_aload_n hx hb dCh_takeHead_0 rfl (lv_at hl 0 rfl) ?_
  refine va_get (D := D) (ci := 3) (C := RCh) (T := TCh) (N := 3) hx hb hts hinCh hown hK hP (42 + k) (cw_ch hpk) rfl 0 (by decide) lk17 (fun _ h9 => h9) rfl dCh_takeHead_1 ?_
  refine fx_caseq (fun hq2 => ?_) (fun q3 hq2 => ?_)
  · have hwp := hwp.1 hq2
    refine lv_astore_nN hx hb dCh_takeHead_4 rfl hl (by decide) rfl (fun ls hl => ?_)
    have hl : lv_has ls 2 [(1, .null), (0, .ref (a (42 + k)))] := hl
    refine lv_aload_nN hx hb dCh_takeHead_5 rfl (lv_at hl 0 rfl) ?_
    refine lv_ifnonnullN hx hb dCh_takeHead_6 ?_
    refine lv_null hx hb dCh_takeHead_9 ?_
    exact W.aret (v := .null) hx hb hr (Or.inl ⟨_, rfl⟩) (Or.inl rfl) (fun t ht hW => ⟨⟨none, σ, rfl, hwp, uEnd ht hW hP hK hD hS hA⟩, hS.F ht⟩) hS.2.2 dCh_takeHead_10
  · have hwp := hwp.2 q3 hq2
    refine lv_astore_n hx hb dCh_takeHead_4 rfl hl (by decide) rfl (fun ls hl => ?_)
    have hl : lv_has ls 2 [(1, .ref q3), (0, .ref (a (42 + k)))] := hl
    refine lv_aload_n hx hb dCh_takeHead_5 rfl (lv_at hl 0 rfl) ?_
    refine lv_ifnonnull hx hb dCh_takeHead_6 rfl ?_
    refine lv_aload_n hx hb dCh_takeHead_11 rfl (lv_at hl 1 rfl) ?_
    refine lv_aload_n hx hb dCh_takeHead_12 rfl (lv_at hl 0 rfl) ?_
    obtain ⟨hm4, hwp⟩ := hwp
    obtain ⟨km5, hkm5⟩ := cw_ms (a := a) (t := t) hm4
    refine va_get (D := D) (ci := 4) (C := RMs) (T := TMs) (N := 4) hx hb hts hinMs hown hK hP km5 hkm5 rfl 3 (by decide) lk20 (fun _ h9 => h9) rfl dCh_takeHead_13 ?_
    refine fx_caseq (fun hq6 => ?_) (fun q7 hq6 => ?_)
    · have hwp := hwp.1 hq6
      refine va_put (ty := .object "NodeServices$Message") (D := D) (ci := 3) (C := RCh) (T := TCh) (N := 3) hx hb hts hinCh tyCh tyCh_ok nmCh hown hK hP hD hS (42 + k) (cw_ch hpk) rfl 0 (by decide) lk17 (fun _ h9 => h9) rfl (by decide +kernel) rfl rfl (Nat.le_of_ble_eq_true rfl) dCh_takeHead_16 (fun H locs hP hD hS => ?_)
      obtain ⟨σ8, eσ8⟩ : ∃ z, z = cr σ 0 k none := ⟨_, rfl⟩
      have hwp := hwp σ8 eσ8
      have hP : va_P D clA (cw a t σ8) H := by rw [eσ8, ← cw_ch0 (a := a) (t := t) (σ := σ) hpk none]; exact hP
      have hD : va_D A (cw a t σ8) := by rw [eσ8, ← cw_ch0 (a := a) (t := t) (σ := σ) hpk none]; exact hD
      refine lv_aload_n hx hb dCh_takeHead_19 rfl (lv_at hl 1 rfl) ?_
      refine va_get (D := D) (ci := 3) (C := RCh) (T := TCh) (N := 3) hx hb hts hinCh hown hK hP (42 + k) (cw_ch hpk) rfl 0 (by decide) lk17 (fun _ h9 => h9) rfl dCh_takeHead_20 ?_
      refine fx_caseq (fun hq9 => ?_) (fun q10 hq9 => ?_)
      · have hwp := hwp.1 hq9
        refine lv_ifnonnullN hx hb dCh_takeHead_23 ?_
        refine lv_aload_n hx hb dCh_takeHead_26 rfl (lv_at hl 1 rfl) ?_
        refine lv_null hx hb dCh_takeHead_27 ?_
        refine va_put (ty := .object "NodeServices$Message") (D := D) (ci := 3) (C := RCh) (T := TCh) (N := 3) hx hb hts hinCh tyCh tyCh_ok nmCh hown hK hP hD hS (42 + k) (cw_ch hpk) rfl 1 (by decide) lk13 (fun _ h9 => h9) rfl (by decide +kernel) rfl rfl (Nat.le_of_ble_eq_true rfl) dCh_takeHead_28 (fun H locs hP hD hS => ?_)
        obtain ⟨σ11, eσ11⟩ : ∃ z, z = cr σ8 1 k none := ⟨_, rfl⟩
        have hwp := hwp σ11 eσ11
        have hP : va_P D clA (cw a t σ11) H := by rw [eσ11, ← cw_ch1 (a := a) (t := t) (σ := σ8) hpk none]; exact hP
        have hD : va_D A (cw a t σ11) := by rw [eσ11, ← cw_ch1 (a := a) (t := t) (σ := σ8) hpk none]; exact hD
        exact cut31 σ11 q3 _ _ _ hwp hP hD hS (lv_sub hl [1, 0] rfl)
      · have hwp := hwp.2 q10 hq9
        refine lv_ifnonnull hx hb dCh_takeHead_23 rfl ?_
        exact cut31 σ8 q3 _ _ _ hwp hP hD hS (lv_sub hl [1, 0] rfl)
    · have hwp := hwp.2 q7 hq6
      refine va_put (ty := .object "NodeServices$Message") (D := D) (ci := 3) (C := RCh) (T := TCh) (N := 3) hx hb hts hinCh tyCh tyCh_ok nmCh hown hK hP hD hS (42 + k) (cw_ch hpk) rfl 0 (by decide) lk17 (fun _ h9 => h9) rfl (by decide +kernel) rfl rfl (Nat.le_of_ble_eq_true rfl) dCh_takeHead_16 (fun H locs hP hD hS => ?_)
      obtain ⟨σ12, eσ12⟩ : ∃ z, z = cr σ 0 k (some q7) := ⟨_, rfl⟩
      have hwp := hwp σ12 eσ12
      have hP : va_P D clA (cw a t σ12) H := by rw [eσ12, ← cw_ch0 (a := a) (t := t) (σ := σ) hpk (some q7)]; exact hP
      have hD : va_D A (cw a t σ12) := by rw [eσ12, ← cw_ch0 (a := a) (t := t) (σ := σ) hpk (some q7)]; exact hD
      refine lv_aload_n hx hb dCh_takeHead_19 rfl (lv_at hl 1 rfl) ?_
      refine va_get (D := D) (ci := 3) (C := RCh) (T := TCh) (N := 3) hx hb hts hinCh hown hK hP (42 + k) (cw_ch hpk) rfl 0 (by decide) lk17 (fun _ h9 => h9) rfl dCh_takeHead_20 ?_
      refine fx_caseq (fun hq13 => ?_) (fun q14 hq13 => ?_)
      · have hwp := hwp.1 hq13
        refine lv_ifnonnullN hx hb dCh_takeHead_23 ?_
        refine lv_aload_n hx hb dCh_takeHead_26 rfl (lv_at hl 1 rfl) ?_
        refine lv_null hx hb dCh_takeHead_27 ?_
        refine va_put (ty := .object "NodeServices$Message") (D := D) (ci := 3) (C := RCh) (T := TCh) (N := 3) hx hb hts hinCh tyCh tyCh_ok nmCh hown hK hP hD hS (42 + k) (cw_ch hpk) rfl 1 (by decide) lk13 (fun _ h9 => h9) rfl (by decide +kernel) rfl rfl (Nat.le_of_ble_eq_true rfl) dCh_takeHead_28 (fun H locs hP hD hS => ?_)
        obtain ⟨σ15, eσ15⟩ : ∃ z, z = cr σ12 1 k none := ⟨_, rfl⟩
        have hwp := hwp σ15 eσ15
        have hP : va_P D clA (cw a t σ15) H := by rw [eσ15, ← cw_ch1 (a := a) (t := t) (σ := σ12) hpk none]; exact hP
        have hD : va_D A (cw a t σ15) := by rw [eσ15, ← cw_ch1 (a := a) (t := t) (σ := σ12) hpk none]; exact hD
        exact cut31 σ15 q3 _ _ _ hwp hP hD hS (lv_sub hl [1, 0] rfl)
      · have hwp := hwp.2 q14 hq13
        refine lv_ifnonnull hx hb dCh_takeHead_23 rfl ?_
        exact cut31 σ12 q3 _ _ _ hwp hP hD hS (lv_sub hl [1, 0] rfl)
-- NodeServices$NodeRow: boolean isEmpty(), on Ro
def wC_Ro_isEmpty (a : Nat → Nat) (r : Nat) (R : Int32 → CS → Prop) (σ : CS) : Prop :=
  (((¬ (σ.1 (19 + r) 0) = 0) → R 0 σ) ∧ (((σ.1 (19 + r) 0) = 0) → R 1 σ))
abbrev wsRo_isEmpty : List Cond := .code yRo_isEmpty cRo_isEmpty 1 (some .boolean) :: wg
abbrev rmC_Ro_isEmpty : Room := { frames := 0, cells := 0, slots := 0, locals := 0 }
set_option maxHeartbeats 4000000 in
set_option maxRecDepth 100000 in
theorem kC_Ro_isEmpty (l : Launch) (D : va_G) (a : Nat → Nat) (A : Nat → Prop) (t : Nat → ClassId) (r : Nat) (hpr : r < 5) (σ : CS) (R : Int32 → CS → Prop) (hwp : wC_Ro_isEmpty a r R σ ) : Met l yRo_isEmpty wsRo_isEmpty rmC_Ro_isEmpty (va_Pc [.ref (a (25 + r))] (uI D clA (cT t) A true (cw a t) σ)) (va_Qi R (uI D clA (cT t) A true (cw a t)) A) 0 0 A := by
  refine Met.ofW (cc := cRo_isEmpty) (maxL := 1) (ret := (some .boolean)) (by decide) rfl ?_
  intro p e s m args below meth c s₁ B hml hv
  obtain ⟨rfl, hP, hK, hD, hA⟩ := hv
  have hx := B.exec
  have hb := B.bytes
  have hr := B.returns
  have hts := atoms_spec (ws := wsRo_isEmpty) B.pre
  have hown : s.vm.findClass RRo = some m.cls := findClass_of_methodNamed B.named
  have hlocks := B.notSynchronized
  have hinRo : ∀ w ∈ u_ws RRo TRo 2, w ∈ wsRo_isEmpty := fun w h => List.mem_cons_of_mem _ (inRo w h)
  have lk15 := hts _ (List.mem_cons_of_mem _ wm_126)
  have hS : va_S A s.heap s.heap [] := va_S.rf
  have hl := lv_entry ([.ref (a (25 + r))]) (n := 1) (Nat.le_of_ble_eq_true rfl)
  rw [lg_entry_eq]
  generalize (lg_sl ([.ref (a (25 + r))]) ++ List.replicate (1 - (lg_sl ([.ref (a (25 + r))])).length) Slot.unset).toArray = ls at hl ⊢
  have hl : lv_has ls 1 [(0, .ref (a (25 + r)))] := hl
  refine lv_aload_n hx hb dRo_isEmpty_0 rfl (lv_at hl 0 rfl) ?_
  refine va_get (D := D) (ci := 5) (C := RRo) (T := TRo) (N := 2) hx hb hts hinRo hown hK hP (25 + r) (cw_ro hpr) rfl 1 (by decide) lk15 (fun _ h9 => h9) rfl dRo_isEmpty_1 ?_
  refine lv_if_ne hx hb dRo_isEmpty_4 rfl (fun h1 => ?_) (fun h1 => ?_)
  · have hwp := hwp.1 h1
    refine lv_iconst (v := 0) hx hb dRo_isEmpty_11 (by decide) ?_
    exact W.zret (v := 0) hx hb hr (by decide) (fun t ht hW => ⟨⟨0, σ, rfl, hwp, uEnd ht hW hP hK hD hS hA⟩, hS.F ht⟩) hS.2.2 dRo_isEmpty_12
  · have hwp := hwp.2 h1
    refine lv_iconst (v := 1) hx hb dRo_isEmpty_7 (by decide) ?_
    refine lv_goto hx hb dRo_isEmpty_8 rfl ?_
    exact W.zret (v := 1) hx hb hr (by decide) (fun t ht hW => ⟨⟨1, σ, rfl, hwp, uEnd ht hW hP hK hD hS hA⟩, hS.F ht⟩) hS.2.2 dRo_isEmpty_12
-- NodeServices$NodeRow: boolean contains(int), on Ro
def wC_Ro_contains_2_step (a : Nat → Nat) (r : Nat) (K2 : CS → Int32 → Int32 → Prop) (R : Int32 → CS → Prop) (σ : CS) (y1 : Int32) (y2 : Int32) : Prop :=
  ((((σ.1 (19 + r) 0) ≤ y2) → R 0 σ) ∧ ((¬ (σ.1 (19 + r) 0) ≤ y2) → (vp_in y2 4 ∧ (((¬ (σ.1 (24 + r) y2.toNatClampNeg) = y1) → K2 σ y1 (y2 + 1)) ∧ (((σ.1 (24 + r) y2.toNatClampNeg) = y1) → R 1 σ)))))
def wC_Ro_contains_2 (a : Nat → Nat) (r : Nat) (R : Int32 → CS → Prop) : Nat → CS → Int32 → Int32 → Prop
  | 0 => fun _ _ _ => False
  | k + 1 => fun σ y1 y2 => wC_Ro_contains_2_step a r (wC_Ro_contains_2 a r R k) R σ y1 y2
def wC_Ro_contains (a : Nat → Nat) (r : Nat) (R : Int32 → CS → Prop) (σ : CS) (x1 : Int32) : Prop :=
  wC_Ro_contains_2 a r R 5 σ x1 0
abbrev wsRo_contains : List Cond := .code yRo_contains cRo_contains 3 (some .boolean) :: wg
abbrev rmC_Ro_contains : Room := { frames := 0, cells := 0, slots := 0, locals := 0 }
set_option maxHeartbeats 4000000 in
set_option maxRecDepth 100000 in
theorem kC_Ro_contains (l : Launch) (D : va_G) (a : Nat → Nat) (A : Nat → Prop) (t : Nat → ClassId) (r : Nat) (hpr : r < 5) (σ : CS) (x1 : Int32) (R : Int32 → CS → Prop) (hwp : wC_Ro_contains a r R σ x1) : Met l yRo_contains wsRo_contains rmC_Ro_contains (va_Pc [.ref (a (25 + r)), .int x1] (uI D clA (cT t) A true (cw a t) σ)) (va_Qi R (uI D clA (cT t) A true (cw a t)) A) 0 0 A := by
  refine Met.ofW (cc := cRo_contains) (maxL := 3) (ret := (some .boolean)) (by decide) rfl ?_
  intro p e s m args below meth c s₁ B hml hv
  obtain ⟨rfl, hP, hK, hD, hA⟩ := hv
  have hx := B.exec
  have hb := B.bytes
  have hr := B.returns
  have hts := atoms_spec (ws := wsRo_contains) B.pre
  have hown : s.vm.findClass RRo = some m.cls := findClass_of_methodNamed B.named
  have hlocks := B.notSynchronized
  have hinRo : ∀ w ∈ u_ws RRo TRo 2, w ∈ wsRo_contains := fun w h => List.mem_cons_of_mem _ (inRo w h)
  have lk15 := hts _ (List.mem_cons_of_mem _ wm_126)
  have lk9 := hts _ (List.mem_cons_of_mem _ wm_125)
  have hS : va_S A s.heap s.heap [] := va_S.rf
  have cut2 : ∀ (k2 : Nat) (σ : CS) (y1 : Int32) (y2 : Int32) (H : Heap) (locs : List Loc) (ls : Array Slot), wC_Ro_contains_2 a r R k2 σ y1 y2 → va_P D clA (cw a t σ) H → va_D A (cw a t σ) → va_S A s.heap H locs → lv_has ls 3 [(0, .ref (a (25 + r))), (1, .int y1), (2, .int y2)] → W p l e (headSpec wsRo_contains rmC_Ro_contains).room s m ([.ref (a (25 + r)), .int x1] : List Value).toArray below meth c H locs 0 0 (MQ below (va_Qi R (uI D clA (cT t) A true (cw a t)) A) ([.ref (a (25 + r)), .int x1] : List Value).toArray s 0 0 A) (F0 m 2 ls []) := by
    intro k2
    induction k2 with
    | zero => intro σ y1 y2 H locs ls hwp hP hD hS hl; exact False.elim hwp
    | succ k2 ih2 =>
      intro σ y1 y2 H locs ls hwp hP hD hS hl
      have hwp : wC_Ro_contains_2_step a r (wC_Ro_contains_2 a r R k2) R σ y1 y2 := hwp
      refine lv_iload_n hx hb dRo_contains_2 rfl (lv_at hl 2 rfl) ?_
      refine lv_aload_n hx hb dRo_contains_3 rfl (lv_at hl 0 rfl) ?_
      refine va_get (D := D) (ci := 5) (C := RRo) (T := TRo) (N := 2) hx hb hts hinRo hown hK hP (25 + r) (cw_ro hpr) rfl 1 (by decide) lk15 (fun _ h9 => h9) rfl dRo_contains_4 ?_
      refine lv_icmp_ge hx hb dRo_contains_7 rfl (fun h1 => ?_) (fun h1 => ?_)
      · have hwp := hwp.1 h1
        refine lv_iconst (v := 0) hx hb dRo_contains_28 (by decide) ?_
        exact W.zret (v := 0) hx hb hr (by decide) (fun t ht hW => ⟨⟨0, σ, rfl, hwp, uEnd ht hW hP hK hD hS hA⟩, hS.F ht⟩) hS.2.2 dRo_contains_29
      · have hwp := hwp.2 h1
        refine lv_aload_n hx hb dRo_contains_10 rfl (lv_at hl 0 rfl) ?_
        refine va_get (D := D) (ci := 5) (C := RRo) (T := TRo) (N := 2) hx hb hts hinRo hown hK hP (25 + r) (cw_ro hpr) rfl 0 (by decide) lk9 (fun _ h9 => h9) rfl dRo_contains_11 ?_
        refine lv_iload_n hx hb dRo_contains_14 rfl (lv_at hl 2 rfl) ?_
        obtain ⟨hi2, hwp⟩ := hwp
        refine va_iald hx hb hK hP (30 + r) 0 (cw_na hpr) rfl hi2 dRo_contains_15 ?_
        refine lv_iload_n hx hb dRo_contains_16 rfl (lv_at hl 1 rfl) ?_
        refine lv_icmp_ne hx hb dRo_contains_17 rfl (fun h3 => ?_) (fun h3 => ?_)
        · have hwp := hwp.1 h3
          refine lv_iinc (k := 2) hx hb dRo_contains_22 hl rfl (fx_inc1 _) (by decide) rfl (fun ls hl => ?_)
          have hl : lv_has ls 3 [(2, .int (y2 + 1)), (0, .ref (a (25 + r))), (1, .int y1)] := hl
          refine lv_goto hx hb dRo_contains_25 rfl ?_
          exact ih2 σ y1 (y2 + 1) _ _ _ hwp hP hD hS (lv_sub hl [1, 2, 0] rfl)
        · have hwp := hwp.2 h3
          refine lv_iconst (v := 1) hx hb dRo_contains_20 (by decide) ?_
          exact W.zret (v := 1) hx hb hr (by decide) (fun t ht hW => ⟨⟨1, σ, rfl, hwp, uEnd ht hW hP hK hD hS hA⟩, hS.F ht⟩) hS.2.2 dRo_contains_21
  have hl := lv_entry ([.ref (a (25 + r)), .int x1]) (n := 3) (Nat.le_of_ble_eq_true rfl)
  rw [lg_entry_eq]
  generalize (lg_sl ([.ref (a (25 + r)), .int x1]) ++ List.replicate (3 - (lg_sl ([.ref (a (25 + r)), .int x1])).length) Slot.unset).toArray = ls at hl ⊢
  have hl : lv_has ls 3 [(0, .ref (a (25 + r))), (1, .int x1)] := hl
  refine lv_iconst (v := 0) hx hb dRo_contains_0 (by decide) ?_
  refine lv_istore_n hx hb dRo_contains_1 rfl hl (by decide) rfl (fun ls hl => ?_)
  have hl : lv_has ls 3 [(2, .int 0), (0, .ref (a (25 + r))), (1, .int x1)] := hl
  exact cut2 5 σ x1 0 _ _ _ hwp hP hD hS (lv_sub hl [1, 2, 0] rfl)
-- NodeServices$NodeRow: void append(int), on Ro
def wC_Ro_append (a : Nat → Nat) (r : Nat) (R : CS → Prop) (σ : CS) (x1 : Int32) : Prop :=
  (((4 ≤ (σ.1 (19 + r) 0)) → R σ) ∧ ((¬ 4 ≤ (σ.1 (19 + r) 0)) → (vp_in (σ.1 (19 + r) 0) 4 ∧ (∀ σ3 : CS, σ3 = cu σ (24 + r) (σ.1 (19 + r) 0).toNatClampNeg x1 → (∀ σ4 : CS, σ4 = cu σ3 (19 + r) 0 ((σ3.1 (19 + r) 0) + 1) → R σ4)))))
abbrev wsRo_append : List Cond := .code yRo_append cRo_append 2 none :: wg
abbrev rmC_Ro_append : Room := { frames := 0, cells := 0, slots := 0, locals := 0 }
set_option maxHeartbeats 4000000 in
set_option maxRecDepth 100000 in
theorem kC_Ro_append (l : Launch) (D : va_G) (a : Nat → Nat) (A : Nat → Prop) (t : Nat → ClassId) (r : Nat) (hpr : r < 5) (σ : CS) (x1 : Int32) (R : CS → Prop) (hwp : wC_Ro_append a r R σ x1) : Met l yRo_append wsRo_append rmC_Ro_append (va_Pc [.ref (a (25 + r)), .int x1] (uI D clA (cT t) A true (cw a t) σ)) (va_Qv R (uI D clA (cT t) A true (cw a t)) A) 0 0 A := by
  refine Met.ofW (cc := cRo_append) (maxL := 2) (ret := none) (by decide) rfl ?_
  intro p e s m args below meth c s₁ B hml hv
  obtain ⟨rfl, hP, hK, hD, hA⟩ := hv
  have hx := B.exec
  have hb := B.bytes
  have hr := B.returns
  have hts := atoms_spec (ws := wsRo_append) B.pre
  have hown : s.vm.findClass RRo = some m.cls := findClass_of_methodNamed B.named
  have hlocks := B.notSynchronized
  have hinRo : ∀ w ∈ u_ws RRo TRo 2, w ∈ wsRo_append := fun w h => List.mem_cons_of_mem _ (inRo w h)
  have lk15 := hts _ (List.mem_cons_of_mem _ wm_126)
  have lk9 := hts _ (List.mem_cons_of_mem _ wm_125)
  have hS : va_S A s.heap s.heap [] := va_S.rf
  have hl := lv_entry ([.ref (a (25 + r)), .int x1]) (n := 2) (Nat.le_of_ble_eq_true rfl)
  rw [lg_entry_eq]
  generalize (lg_sl ([.ref (a (25 + r)), .int x1]) ++ List.replicate (2 - (lg_sl ([.ref (a (25 + r)), .int x1])).length) Slot.unset).toArray = ls at hl ⊢
  have hl : lv_has ls 2 [(0, .ref (a (25 + r))), (1, .int x1)] := hl
  refine lv_aload_n hx hb dRo_append_0 rfl (lv_at hl 0 rfl) ?_
  refine va_get (D := D) (ci := 5) (C := RRo) (T := TRo) (N := 2) hx hb hts hinRo hown hK hP (25 + r) (cw_ro hpr) rfl 1 (by decide) lk15 (fun _ h9 => h9) rfl dRo_append_1 ?_
  refine lv_iconst (v := 4) hx hb dRo_append_4 (by decide) ?_
  refine lv_icmp_ge hx hb dRo_append_5 rfl (fun h1 => ?_) (fun h1 => ?_)
  · have hwp := hwp.1 h1
    exact W.vret hx hb hr (fun t ht hW => ⟨⟨σ, rfl, hwp, uEnd ht hW hP hK hD hS hA⟩, hS.F ht⟩) hS.2.2 dRo_append_28
  · have hwp := hwp.2 h1
    refine lv_aload_n hx hb dRo_append_8 rfl (lv_at hl 0 rfl) ?_
    refine va_get (D := D) (ci := 5) (C := RRo) (T := TRo) (N := 2) hx hb hts hinRo hown hK hP (25 + r) (cw_ro hpr) rfl 0 (by decide) lk9 (fun _ h9 => h9) rfl dRo_append_9 ?_
    refine lv_aload_n hx hb dRo_append_12 rfl (lv_at hl 0 rfl) ?_
    refine va_get (D := D) (ci := 5) (C := RRo) (T := TRo) (N := 2) hx hb hts hinRo hown hK hP (25 + r) (cw_ro hpr) rfl 1 (by decide) lk15 (fun _ h9 => h9) rfl dRo_append_13 ?_
    refine lv_iload_n hx hb dRo_append_16 rfl (lv_at hl 1 rfl) ?_
    obtain ⟨hi2, hwp⟩ := hwp
    refine va_iast hx hb hK hP hD hS (30 + r) 0 (cw_na hpr) rfl hi2 dRo_append_17 (fun H locs hP hD hS => ?_)
    obtain ⟨σ3, eσ3⟩ : ∃ z, z = cu σ (24 + r) (σ.1 (19 + r) 0).toNatClampNeg x1 := ⟨_, rfl⟩
    have hwp := hwp σ3 eσ3
    have hP : va_P D clA (cw a t σ3) H := by rw [eσ3, ← cw_na1 (a := a) (t := t) (σ := σ) hpr (σ.1 (19 + r) 0).toNatClampNeg x1]; exact hP
    have hD : va_D A (cw a t σ3) := by rw [eσ3, ← cw_na1 (a := a) (t := t) (σ := σ) hpr (σ.1 (19 + r) 0).toNatClampNeg x1]; exact hD
    refine lv_aload_n hx hb dRo_append_18 rfl (lv_at hl 0 rfl) ?_
    refine lv_dup hx hb dRo_append_19 rfl ?_
    refine va_get (D := D) (ci := 5) (C := RRo) (T := TRo) (N := 2) hx hb hts hinRo hown hK hP (25 + r) (cw_ro hpr) rfl 1 (by decide) lk15 (fun _ h9 => h9) rfl dRo_append_20 ?_
    refine lv_iconst (v := 1) hx hb dRo_append_23 (by decide) ?_
    refine lv_iadd hx hb dRo_append_24 ?_
    refine va_put (ty := .int) (D := D) (ci := 5) (C := RRo) (T := TRo) (N := 2) hx hb hts hinRo tyRo tyRo_ok nmRo hown hK hP hD hS (25 + r) (cw_ro hpr) rfl 1 (by decide) lk15 (fun _ h9 => h9) rfl (by decide +kernel) rfl rfl (Nat.le_of_ble_eq_true rfl) dRo_append_25 (fun H locs hP hD hS => ?_)
    obtain ⟨σ4, eσ4⟩ : ∃ z, z = cu σ3 (19 + r) 0 ((σ3.1 (19 + r) 0) + 1) := ⟨_, rfl⟩
    have hwp := hwp σ4 eσ4
    have hP : va_P D clA (cw a t σ4) H := by rw [eσ4, ← cw_ro1 (a := a) (t := t) (σ := σ3) hpr ((σ3.1 (19 + r) 0) + 1)]; exact hP
    have hD : va_D A (cw a t σ4) := by rw [eσ4, ← cw_ro1 (a := a) (t := t) (σ := σ3) hpr ((σ3.1 (19 + r) 0) + 1)]; exact hD
    exact W.vret hx hb hr (fun t ht hW => ⟨⟨σ4, rfl, hwp, uEnd ht hW hP hK hD hS hA⟩, hS.F ht⟩) hS.2.2 dRo_append_28
-- NodeServices$NodeRow: int takeHead(), on Ro
def wC_Ro_takeHead_54 (a : Nat → Nat) (r : Nat) (R : Int32 → CS → Prop) (σ : CS) (y1 : Int32) (y2 : Int32) : Prop :=
  R y1 σ
def wC_Ro_takeHead_9_step (a : Nat → Nat) (r : Nat) (K9 : CS → Int32 → Int32 → Prop) (R : Int32 → CS → Prop) (σ : CS) (y1 : Int32) (y2 : Int32) : Prop :=
  ((((σ.1 (19 + r) 0) ≤ y2) → ((((σ.1 (19 + r) 0) ≤ 0) → wC_Ro_takeHead_54 a r R σ y1 y2) ∧ ((¬ (σ.1 (19 + r) 0) ≤ 0) → (∀ σ3 : CS, σ3 = cu σ (19 + r) 0 ((σ.1 (19 + r) 0) - 1) → wC_Ro_takeHead_54 a r R σ3 y1 y2)))) ∧ ((¬ (σ.1 (19 + r) 0) ≤ y2) → (vp_in y2 4 ∧ (vp_in (y2 - 1) 4 ∧ (∀ σ6 : CS, σ6 = cu σ (24 + r) (y2 - 1).toNatClampNeg (σ.1 (24 + r) y2.toNatClampNeg) → K9 σ6 y1 (y2 + 1))))))
def wC_Ro_takeHead_9 (a : Nat → Nat) (r : Nat) (R : Int32 → CS → Prop) : Nat → CS → Int32 → Int32 → Prop
  | 0 => fun _ _ _ => False
  | k + 1 => fun σ y1 y2 => wC_Ro_takeHead_9_step a r (wC_Ro_takeHead_9 a r R k) R σ y1 y2
def wC_Ro_takeHead (a : Nat → Nat) (r : Nat) (R : Int32 → CS → Prop) (σ : CS) : Prop :=
  (∀ v7 : Int32, v7 = σ.1 (24 + r) (0 : Int32).toNatClampNeg → wC_Ro_takeHead_9 a r R 5 σ v7 1)
abbrev wsRo_takeHead : List Cond := .code yRo_takeHead cRo_takeHead 3 (some .int) :: wg
abbrev rmC_Ro_takeHead : Room := { frames := 0, cells := 0, slots := 0, locals := 0 }
set_option maxHeartbeats 4000000 in
set_option maxRecDepth 100000 in
theorem kC_Ro_takeHead (l : Launch) (D : va_G) (a : Nat → Nat) (A : Nat → Prop) (t : Nat → ClassId) (r : Nat) (hpr : r < 5) (σ : CS) (R : Int32 → CS → Prop) (hwp : wC_Ro_takeHead a r R σ ) : Met l yRo_takeHead wsRo_takeHead rmC_Ro_takeHead (va_Pc [.ref (a (25 + r))] (uI D clA (cT t) A true (cw a t) σ)) (va_Qi R (uI D clA (cT t) A true (cw a t)) A) 0 0 A := by
  refine Met.ofW (cc := cRo_takeHead) (maxL := 3) (ret := (some .int)) (by decide) rfl ?_
  intro p e s m args below meth c s₁ B hml hv
  obtain ⟨rfl, hP, hK, hD, hA⟩ := hv
  have hx := B.exec
  have hb := B.bytes
  have hr := B.returns
  have hts := atoms_spec (ws := wsRo_takeHead) B.pre
  have hown : s.vm.findClass RRo = some m.cls := findClass_of_methodNamed B.named
  have hlocks := B.notSynchronized
  have hinRo : ∀ w ∈ u_ws RRo TRo 2, w ∈ wsRo_takeHead := fun w h => List.mem_cons_of_mem _ (inRo w h)
  have lk15 := hts _ (List.mem_cons_of_mem _ wm_126)
  have lk9 := hts _ (List.mem_cons_of_mem _ wm_125)
  have hS : va_S A s.heap s.heap [] := va_S.rf
  have cut54 : ∀ (σ : CS) (y1 : Int32) (y2 : Int32) (H : Heap) (locs : List Loc) (ls : Array Slot), wC_Ro_takeHead_54 a r R σ y1 y2 → va_P D clA (cw a t σ) H → va_D A (cw a t σ) → va_S A s.heap H locs → lv_has ls 3 [(0, .ref (a (25 + r))), (1, .int y1), (2, .int y2)] → W p l e (headSpec wsRo_takeHead rmC_Ro_takeHead).room s m ([.ref (a (25 + r))] : List Value).toArray below meth c H locs 0 0 (MQ below (va_Qi R (uI D clA (cT t) A true (cw a t)) A) ([.ref (a (25 + r))] : List Value).toArray s 0 0 A) (F0 m 54 ls []) := by
    intro σ y1 y2 H locs ls hwp hP hD hS hl
    refine lv_iload_n hx hb dRo_takeHead_54 rfl (lv_at hl 1 rfl) ?_
    exact W.iret (v := y1) hx hb hr (fun t ht hW => ⟨⟨y1, σ, rfl, hwp, uEnd ht hW hP hK hD hS hA⟩, hS.F ht⟩) hS.2.2 dRo_takeHead_55
  have cut9 : ∀ (k9 : Nat) (σ : CS) (y1 : Int32) (y2 : Int32) (H : Heap) (locs : List Loc) (ls : Array Slot), wC_Ro_takeHead_9 a r R k9 σ y1 y2 → va_P D clA (cw a t σ) H → va_D A (cw a t σ) → va_S A s.heap H locs → lv_has ls 3 [(0, .ref (a (25 + r))), (1, .int y1), (2, .int y2)] → W p l e (headSpec wsRo_takeHead rmC_Ro_takeHead).room s m ([.ref (a (25 + r))] : List Value).toArray below meth c H locs 0 0 (MQ below (va_Qi R (uI D clA (cT t) A true (cw a t)) A) ([.ref (a (25 + r))] : List Value).toArray s 0 0 A) (F0 m 9 ls []) := by
    intro k9
    induction k9 with
    | zero => intro σ y1 y2 H locs ls hwp hP hD hS hl; exact False.elim hwp
    | succ k9 ih9 =>
      intro σ y1 y2 H locs ls hwp hP hD hS hl
      have hwp : wC_Ro_takeHead_9_step a r (wC_Ro_takeHead_9 a r R k9) R σ y1 y2 := hwp
      refine lv_iload_n hx hb dRo_takeHead_9 rfl (lv_at hl 2 rfl) ?_
      refine lv_aload_n hx hb dRo_takeHead_10 rfl (lv_at hl 0 rfl) ?_
      refine va_get (D := D) (ci := 5) (C := RRo) (T := TRo) (N := 2) hx hb hts hinRo hown hK hP (25 + r) (cw_ro hpr) rfl 1 (by decide) lk15 (fun _ h9 => h9) rfl dRo_takeHead_11 ?_
      refine lv_icmp_ge hx hb dRo_takeHead_14 rfl (fun h1 => ?_) (fun h1 => ?_)
      · have hwp := hwp.1 h1
        refine lv_aload_n hx hb dRo_takeHead_37 rfl (lv_at hl 0 rfl) ?_
        refine va_get (D := D) (ci := 5) (C := RRo) (T := TRo) (N := 2) hx hb hts hinRo hown hK hP (25 + r) (cw_ro hpr) rfl 1 (by decide) lk15 (fun _ h9 => h9) rfl dRo_takeHead_38 ?_
        refine lv_if_le hx hb dRo_takeHead_41 rfl (fun h2 => ?_) (fun h2 => ?_)
        · have hwp := hwp.1 h2
          exact cut54 σ y1 y2 _ _ _ hwp hP hD hS (lv_sub hl [0, 1, 2] rfl)
        · have hwp := hwp.2 h2
          refine lv_aload_n hx hb dRo_takeHead_44 rfl (lv_at hl 0 rfl) ?_
          refine lv_dup hx hb dRo_takeHead_45 rfl ?_
          refine va_get (D := D) (ci := 5) (C := RRo) (T := TRo) (N := 2) hx hb hts hinRo hown hK hP (25 + r) (cw_ro hpr) rfl 1 (by decide) lk15 (fun _ h9 => h9) rfl dRo_takeHead_46 ?_
          refine lv_iconst (v := 1) hx hb dRo_takeHead_49 (by decide) ?_
          refine lv_isub hx hb dRo_takeHead_50 ?_
          refine va_put (ty := .int) (D := D) (ci := 5) (C := RRo) (T := TRo) (N := 2) hx hb hts hinRo tyRo tyRo_ok nmRo hown hK hP hD hS (25 + r) (cw_ro hpr) rfl 1 (by decide) lk15 (fun _ h9 => h9) rfl (by decide +kernel) rfl rfl (Nat.le_of_ble_eq_true rfl) dRo_takeHead_51 (fun H locs hP hD hS => ?_)
          obtain ⟨σ3, eσ3⟩ : ∃ z, z = cu σ (19 + r) 0 ((σ.1 (19 + r) 0) - 1) := ⟨_, rfl⟩
          have hwp := hwp σ3 eσ3
          have hP : va_P D clA (cw a t σ3) H := by rw [eσ3, ← cw_ro1 (a := a) (t := t) (σ := σ) hpr ((σ.1 (19 + r) 0) - 1)]; exact hP
          have hD : va_D A (cw a t σ3) := by rw [eσ3, ← cw_ro1 (a := a) (t := t) (σ := σ) hpr ((σ.1 (19 + r) 0) - 1)]; exact hD
          exact cut54 σ3 y1 y2 _ _ _ hwp hP hD hS (lv_sub hl [0, 1, 2] rfl)
      · have hwp := hwp.2 h1
        refine lv_aload_n hx hb dRo_takeHead_17 rfl (lv_at hl 0 rfl) ?_
        refine va_get (D := D) (ci := 5) (C := RRo) (T := TRo) (N := 2) hx hb hts hinRo hown hK hP (25 + r) (cw_ro hpr) rfl 0 (by decide) lk9 (fun _ h9 => h9) rfl dRo_takeHead_18 ?_
        refine lv_iload_n hx hb dRo_takeHead_21 rfl (lv_at hl 2 rfl) ?_
        refine lv_iconst (v := 1) hx hb dRo_takeHead_22 (by decide) ?_
        refine lv_isub hx hb dRo_takeHead_23 ?_
        refine lv_aload_n hx hb dRo_takeHead_24 rfl (lv_at hl 0 rfl) ?_
        refine va_get (D := D) (ci := 5) (C := RRo) (T := TRo) (N := 2) hx hb hts hinRo hown hK hP (25 + r) (cw_ro hpr) rfl 0 (by decide) lk9 (fun _ h9 => h9) rfl dRo_takeHead_25 ?_
        refine lv_iload_n hx hb dRo_takeHead_28 rfl (lv_at hl 2 rfl) ?_
        obtain ⟨hi4, hwp⟩ := hwp
        refine va_iald hx hb hK hP (30 + r) 0 (cw_na hpr) rfl hi4 dRo_takeHead_29 ?_
        obtain ⟨hi5, hwp⟩ := hwp
        refine va_iast hx hb hK hP hD hS (30 + r) 0 (cw_na hpr) rfl hi5 dRo_takeHead_30 (fun H locs hP hD hS => ?_)
        obtain ⟨σ6, eσ6⟩ : ∃ z, z = cu σ (24 + r) (y2 - 1).toNatClampNeg (σ.1 (24 + r) y2.toNatClampNeg) := ⟨_, rfl⟩
        have hwp := hwp σ6 eσ6
        have hP : va_P D clA (cw a t σ6) H := by rw [eσ6, ← cw_na1 (a := a) (t := t) (σ := σ) hpr (y2 - 1).toNatClampNeg (σ.1 (24 + r) y2.toNatClampNeg)]; exact hP
        have hD : va_D A (cw a t σ6) := by rw [eσ6, ← cw_na1 (a := a) (t := t) (σ := σ) hpr (y2 - 1).toNatClampNeg (σ.1 (24 + r) y2.toNatClampNeg)]; exact hD
        refine lv_iinc (k := 2) hx hb dRo_takeHead_31 hl rfl (fx_inc1 _) (by decide) rfl (fun ls hl => ?_)
        have hl : lv_has ls 3 [(2, .int (y2 + 1)), (0, .ref (a (25 + r))), (1, .int y1)] := hl
        refine lv_goto hx hb dRo_takeHead_34 rfl ?_
        exact ih9 σ6 y1 (y2 + 1) _ _ _ hwp hP hD hS (lv_sub hl [1, 2, 0] rfl)
  have hl := lv_entry ([.ref (a (25 + r))]) (n := 3) (Nat.le_of_ble_eq_true rfl)
  rw [lg_entry_eq]
  generalize (lg_sl ([.ref (a (25 + r))]) ++ List.replicate (3 - (lg_sl ([.ref (a (25 + r))])).length) Slot.unset).toArray = ls at hl ⊢
  have hl : lv_has ls 3 [(0, .ref (a (25 + r)))] := hl
  refine lv_aload_n hx hb dRo_takeHead_0 rfl (lv_at hl 0 rfl) ?_
  refine va_get (D := D) (ci := 5) (C := RRo) (T := TRo) (N := 2) hx hb hts hinRo hown hK hP (25 + r) (cw_ro hpr) rfl 0 (by decide) lk9 (fun _ h9 => h9) rfl dRo_takeHead_1 ?_
  refine lv_iconst (v := 0) hx hb dRo_takeHead_4 (by decide) ?_
  refine va_iald hx hb hK hP (30 + r) 0 (cw_na hpr) rfl (by unfold vp_in; decide) dRo_takeHead_5 ?_
  refine lv_topi (fun v7 ev7 => ?_)
  have hwp := hwp v7 ev7
  refine lv_istore_n hx hb dRo_takeHead_6 rfl hl (by decide) rfl (fun ls hl => ?_)
  have hl : lv_has ls 3 [(1, .int v7), (0, .ref (a (25 + r)))] := hl
  refine lv_iconst (v := 1) hx hb dRo_takeHead_7 (by decide) ?_
  refine lv_istore_n hx hb dRo_takeHead_8 rfl hl (by decide) rfl (fun ls hl => ?_)
  have hl : lv_has ls 3 [(2, .int 1), (1, .int v7), (0, .ref (a (25 + r)))] := hl
  exact cut9 5 σ v7 1 _ _ _ hwp hP hD hS (lv_sub hl [2, 1, 0] rfl)
-- NodeServices$Network: NodeServices$Channel channel(int, int), on Nw
def wC_Nw_channel (a : Nat → Nat) (R : Option Nat → CS → Prop) (σ : CS) (x1 x2 : Int32) : Prop :=
  (vp_in ((x1 * 4) + x2) 16 ∧ R (some (a (42 + ((x1 * 4) + x2).toNatClampNeg))) σ)
abbrev wsNw_channel : List Cond := .code yNw_channel cNw_channel 3 (some (.object "NodeServices$Channel")) :: wg
abbrev rmC_Nw_channel : Room := { frames := 0, cells := 0, slots := 0, locals := 0 }
set_option maxHeartbeats 4000000 in
set_option maxRecDepth 100000 in
theorem kC_Nw_channel (l : Launch) (D : va_G) (a : Nat → Nat) (A : Nat → Prop) (t : Nat → ClassId) (σ : CS) (x1 x2 : Int32) (R : Option Nat → CS → Prop) (hwp : wC_Nw_channel a R σ x1 x2) : Met l yNw_channel wsNw_channel rmC_Nw_channel (va_Pc [.ref (a 1), .int x1, .int x2] (uI D clA (cT t) A true (cw a t) σ)) (va_Qq R (uI D clA (cT t) A true (cw a t)) A) 0 0 A := by
  refine Met.ofW (cc := cNw_channel) (maxL := 3) (ret := (some (.object "NodeServices$Channel"))) (by decide) rfl ?_
  intro p e s m args below meth c s₁ B hml hv
  obtain ⟨rfl, hP, hK, hD, hA⟩ := hv
  have hx := B.exec
  have hb := B.bytes
  have hr := B.returns
  have hts := atoms_spec (ws := wsNw_channel) B.pre
  have hown : s.vm.findClass RNw = some m.cls := findClass_of_methodNamed B.named
  have hlocks := B.notSynchronized
  have hinNw : ∀ w ∈ u_ws RNw TNw 2, w ∈ wsNw_channel := fun w h => List.mem_cons_of_mem _ (inNw w h)
  have lk11 := hts _ (List.mem_cons_of_mem _ wm_54)
  have hS : va_S A s.heap s.heap [] := va_S.rf
  have hl := lv_entry ([.ref (a 1), .int x1, .int x2]) (n := 3) (Nat.le_of_ble_eq_true rfl)
  rw [lg_entry_eq]
  generalize (lg_sl ([.ref (a 1), .int x1, .int x2]) ++ List.replicate (3 - (lg_sl ([.ref (a 1), .int x1, .int x2])).length) Slot.unset).toArray = ls at hl ⊢
  have hl : lv_has ls 3 [(0, .ref (a 1)), (1, .int x1), (2, .int x2)] := hl
  refine lv_aload_n hx hb dNw_channel_0 rfl (lv_at hl 0 rfl) ?_
  refine va_get (D := D) (ci := 2) (C := RNw) (T := TNw) (N := 2) hx hb hts hinNw hown hK hP 1 rfl rfl 0 (by decide) lk11 (fun _ h9 => h9) rfl dNw_channel_1 ?_
  refine lv_iload_n hx hb dNw_channel_4 rfl (lv_at hl 1 rfl) ?_
  refine lv_iconst (v := 4) hx hb dNw_channel_5 (by decide) ?_
  refine lv_imul hx hb dNw_channel_6 ?_
  refine lv_iload_n hx hb dNw_channel_7 rfl (lv_at hl 2 rfl) ?_
  refine lv_iadd hx hb dNw_channel_8 ?_
  obtain ⟨hi1, hwp⟩ := hwp
  refine va_aldq hx hb hK hP 2 2 rfl rfl hi1 dNw_channel_9 ?_
  refine W.eq (g2 := F0 m 10 ls [.ref (a (42 + ((x1 * 4) + x2).toNatClampNeg))]) rfl ?_
  exact W.aret (v := .ref (a (42 + ((x1 * 4) + x2).toNatClampNeg))) hx hb hr (Or.inl ⟨_, rfl⟩) (Or.inr ⟨_, rfl⟩) (fun t ht hW => ⟨⟨some (a (42 + ((x1 * 4) + x2).toNatClampNeg)), σ, rfl, hwp, uEnd ht hW hP hK hD hS hA⟩, hS.F ht⟩) hS.2.2 dNw_channel_10
-- NodeServices$Network: void post(int, int, NodeServices$Message), on Nw
def wC_Nw_post (a : Nat → Nat) (q : Nat) (R : CS → Prop) (σ : CS) (x1 x2 : Int32) : Prop :=
  (∀ σ1 : CS, σ1 = cu σ 0 0 ((σ.1 0 0) + 1) → (∃ P2 : Option Nat → CS → Prop, wC_Nw_channel a P2 σ1 x1 x2 ∧ (∀ (r4 : Option Nat) (u3 : CS), P2 r4 u3 → (∃ k5 : Nat, k5 < 16 ∧ r4 = some (a (42 + k5)) ∧ (∃ P6 : CS → Prop, wC_Ch_append a k5 q P6 u3 ∧ (∀ (u7 : CS), P6 u7 → R u7))))))
abbrev wsNw_post : List Cond := .code yNw_post cNw_post 4 none :: wg
abbrev rmC_Nw_post : Room := { frames := 1, cells := 0, slots := 0, locals := 22 }
set_option maxHeartbeats 4000000 in
set_option maxRecDepth 100000 in
theorem kC_Nw_post (l : Launch) (D : va_G) (a : Nat → Nat) (A : Nat → Prop) (t : Nat → ClassId) (q : Nat) (σ : CS) (x1 x2 : Int32) (R : CS → Prop) (hwp : wC_Nw_post a q R σ x1 x2) : Met l yNw_post wsNw_post rmC_Nw_post (va_Pc [.ref (a 1), .int x1, .int x2, .ref q] (uI D clA (cT t) A true (cw a t) σ)) (va_Qv R (uI D clA (cT t) A true (cw a t)) A) 0 0 A := by
  refine Met.ofW (cc := cNw_post) (maxL := 4) (ret := none) (by decide) rfl ?_
  intro p e s m args below meth c s₁ B hml hv
  obtain ⟨rfl, hP, hK, hD, hA⟩ := hv
  have hx := B.exec
  have hb := B.bytes
  have hr := B.returns
  have hts := atoms_spec (ws := wsNw_post) B.pre
  have hown : s.vm.findClass RNw = some m.cls := findClass_of_methodNamed B.named
  have hlocks := B.notSynchronized
  have hinNw : ∀ w ∈ u_ws RNw TNw 2, w ∈ wsNw_post := fun w h => List.mem_cons_of_mem _ (inNw w h)
  have lk18 := hts _ (List.mem_cons_of_mem _ wm_55)
  have hS : va_S A s.heap s.heap [] := va_S.rf
  have hl := lv_entry ([.ref (a 1), .int x1, .int x2, .ref q]) (n := 4) (Nat.le_of_ble_eq_true rfl)
  rw [lg_entry_eq]
  generalize (lg_sl ([.ref (a 1), .int x1, .int x2, .ref q]) ++ List.replicate (4 - (lg_sl ([.ref (a 1), .int x1, .int x2, .ref q])).length) Slot.unset).toArray = ls at hl ⊢
  have hl : lv_has ls 4 [(0, .ref (a 1)), (1, .int x1), (2, .int x2), (3, .ref q)] := hl
  refine lv_aload_n hx hb dNw_post_0 rfl (lv_at hl 0 rfl) ?_
  refine lv_dup hx hb dNw_post_1 rfl ?_
  refine va_get (D := D) (ci := 2) (C := RNw) (T := TNw) (N := 2) hx hb hts hinNw hown hK hP 1 rfl rfl 1 (by decide) lk18 (fun _ h9 => h9) rfl dNw_post_2 ?_
  refine lv_iconst (v := 1) hx hb dNw_post_5 (by decide) ?_
  refine lv_iadd hx hb dNw_post_6 ?_
  refine va_put (ty := .int) (D := D) (ci := 2) (C := RNw) (T := TNw) (N := 2) hx hb hts hinNw tyNw tyNw_ok nmNw hown hK hP hD hS 1 rfl rfl 1 (by decide) lk18 (fun _ h9 => h9) rfl (by decide +kernel) rfl rfl (Nat.le_of_ble_eq_true rfl) dNw_post_7 (fun H locs hP hD hS => ?_)
  obtain ⟨σ1, eσ1⟩ : ∃ z, z = cu σ 0 0 ((σ.1 0 0) + 1) := ⟨_, rfl⟩
  have hwp := hwp σ1 eσ1
  have hP : va_P D clA (cw a t σ1) H := by rw [eσ1]; exact hP
  have hD : va_D A (cw a t σ1) := by rw [eσ1]; exact hD
  refine lv_aload_n hx hb dNw_post_10 rfl (lv_at hl 0 rfl) ?_
  refine lv_iload_n hx hb dNw_post_11 rfl (lv_at hl 1 rfl) ?_
  refine lv_iload_n hx hb dNw_post_12 rfl (lv_at hl 2 rfl) ?_
  obtain ⟨P2, hP2, hwp⟩ := hwp
  refine uCallVq (As := [.int x1, .int x2]) (rest := []) (C := RNw) ⟨hx, hb, hml, hown, hts⟩ (kC_Nw_channel l D a A t   σ1 x1 x2 P2 hP2) (cwV 2 hts (gdV wm_414 wm_415 wm_416 wm_2 wm_417) rfl rfl rfl (by decide +kernel) ⟨Nat.le_of_ble_eq_true rfl, Nat.le_of_ble_eq_true rfl⟩) (va_recv (ci := 2) (q0 := 1) hK hP rfl rfl) hP hK hD hA hS rfl hl.1 rfl (Nat.le_of_ble_eq_true rfl) dNw_post_13 ⟨Nat.le_of_ble_eq_true rfl, Nat.le_of_ble_eq_true rfl⟩ (fun r4 u3 H locs hu3 hP hD hS => ?_)
  have hwp := hwp r4 u3 hu3
  obtain ⟨k5, hk5, ek5, hwp⟩ := hwp
  subst ek5
  refine W.eq (g2 := F0 m 16 ls [.ref (a (42 + k5))]) rfl ?_
  refine lv_aload_n hx hb dNw_post_16 rfl (lv_at hl 3 rfl) ?_
  obtain ⟨P6, hP6, hwp⟩ := hwp
  refine uCallVv (As := [.ref q]) (rest := []) (C := RCh) ⟨hx, hb, hml, hown, hts⟩ (kC_Ch_append l D a A t k5 q hk5 u3  P6 hP6) (cwV 1 hts (gdV wm_418 wm_419 wm_420 wm_3 wm_421) rfl rfl rfl (by decide +kernel) ⟨Nat.le_of_ble_eq_true rfl, Nat.le_of_ble_eq_true rfl⟩) (va_recv (ci := 3) (q0 := (42 + k5)) hK hP rfl (cw_ch hk5)) hP hK hD hA hS rfl hl.1 rfl (Nat.le_of_ble_eq_true rfl) dNw_post_17 ⟨Nat.le_of_ble_eq_true rfl, Nat.le_of_ble_eq_true rfl⟩ (fun u7 H locs hu7 hP hD hS => ?_)
  have hwp := hwp u7 hu7
  exact W.vret hx hb hr (fun t ht hW => ⟨⟨u7, rfl, hwp, uEnd ht hW hP hK hD hS hA⟩, hS.F ht⟩) hS.2.2 dNw_post_20
-- NodeServices$Service: void send(int, int, int, int), on St
def wC_St_send (a : Nat → Nat) (R : CS → Prop) (σ : CS) (x1 x2 x3 x4 : Int32) : Prop :=
  (∀ q1 : Nat, q1 ∉ σ.2.2 → ∀ σ2 : CS, σ2 = cn σ q1 → (∃ P3 : CS → Prop, wC_Ms_init a q1 P3 σ2 0 x3 x4 ∧ (∀ (u4 : CS), P3 u4 → (∃ P5 : CS → Prop, wC_Nw_post a q1 P5 u4 x1 x2 ∧ (∀ (u6 : CS), P5 u6 → R u6)))))
abbrev wsSv_send : List Cond := .code ySv_send cSv_send 5 none :: wg
abbrev rmC_St_send : Room := { frames := 2, cells := 1, slots := 4, locals := 45 }
set_option maxHeartbeats 4000000 in
set_option maxRecDepth 100000 in
theorem kC_St_send (l : Launch) (D : va_G) (a : Nat → Nat) (A : Nat → Prop) (t : Nat → ClassId) (σ : CS) (x1 x2 x3 x4 : Int32) (R : CS → Prop) (hwp : wC_St_send a R σ x1 x2 x3 x4) : Met l ySv_send wsSv_send rmC_St_send (va_Pc [.ref (a 5), .int x1, .int x2, .int x3, .int x4] (uI D clA (cT t) A true (cw a t) σ)) (va_Qv R (uI D clA (cT t) A true (cw a t)) A) 1 4 A := by
  refine Met.ofW (cc := cSv_send) (maxL := 5) (ret := none) (by decide) rfl ?_
  intro p e s m args below meth c s₁ B hml hv
  obtain ⟨rfl, hP, hK, hD, hA⟩ := hv
  have hx := B.exec
  have hb := B.bytes
  have hr := B.returns
  have hts := atoms_spec (ws := wsSv_send) B.pre
  have hown : s.vm.findClass RSv = some m.cls := findClass_of_methodNamed B.named
  have hlocks := B.notSynchronized
  have hinMs : ∀ w ∈ u_ws RMs TMs 4, w ∈ wsSv_send := fun w h => List.mem_cons_of_mem _ (inMs w h)
  have hinSt : ∀ w ∈ u_ws RSt TSt 8, w ∈ wsSv_send := fun w h => List.mem_cons_of_mem _ (inSt w h)
  have lk15 := hts _ (List.mem_cons_of_mem _ wm_91)
  have lk9 := hts _ (List.mem_cons_of_mem _ wm_90)
  have hS : va_S A s.heap s.heap [] := va_S.rf
  have hl := lv_entry ([.ref (a 5), .int x1, .int x2, .int x3, .int x4]) (n := 5) (Nat.le_of_ble_eq_true rfl)
  rw [lg_entry_eq]
  generalize (lg_sl ([.ref (a 5), .int x1, .int x2, .int x3, .int x4]) ++ List.replicate (5 - (lg_sl ([.ref (a 5), .int x1, .int x2, .int x3, .int x4])).length) Slot.unset).toArray = ls at hl ⊢
  have hl : lv_has ls 5 [(0, .ref (a 5)), (1, .int x1), (2, .int x2), (3, .int x3), (4, .int x4)] := hl
  refine lv_aload_n hx hb dSv_send_0 rfl (lv_at hl 0 rfl) ?_
  refine va_get (D := D) (ci := 6) (C := RSt) (T := TSt) (N := 8) hx hb hts hinSt hown hK hP 5 rfl rfl 6 (by decide) lk9 (fun _ h9 => h9) rfl dSv_send_1 ?_
  refine lv_iload_n hx hb dSv_send_4 rfl (lv_at hl 1 rfl) ?_
  refine lv_iload_n hx hb dSv_send_5 rfl (lv_at hl 2 rfl) ?_
  refine va_new (ci := 4) (fs := [.int 0, .int 0, .int 0, .null]) (C := RMs) (T := TMs) (N := 4) hx hb hts hinMs tyMs tyMs_ok hown (hts _ (List.mem_cons_of_mem _ wm_380)) (hts _ (List.mem_cons_of_mem _ wm_381)) (hts _ (List.mem_cons_of_mem _ wm_19)) hK hP hD hS (hA rfl) rfl (fun j hj => by rcases (show j = 0 ∨ j = 1 ∨ j = 2 ∨ j = 3 by omega) with rfl | rfl | rfl | rfl <;> rfl) (Nat.le_of_ble_eq_true rfl) (Nat.le_of_ble_eq_true rfl) dSv_send_6 (fun q1 H hP hD hS => ?_)
  have hqq1 : q1 ∉ σ.2.2 := va_pl_fresh2 (X := cF a t σ) (f := cG σ) hD
  obtain ⟨σ2, eσ2⟩ : ∃ z, z = cn σ q1 := ⟨_, rfl⟩
  have hwp := hwp q1 hqq1 σ2 eσ2
  have hP : va_P D clA (cw a t σ2) H := by rw [eσ2, ← cw_new hqq1]; exact hP
  have hD : va_D A (cw a t σ2) := by rw [eσ2, ← cw_new hqq1]; exact hD
  refine lv_dup hx hb dSv_send_9 rfl ?_
  refine lv_aload_n hx hb dSv_send_10 rfl (lv_at hl 0 rfl) ?_
  refine va_get (D := D) (ci := 6) (C := RSt) (T := TSt) (N := 8) hx hb hts hinSt hown hK hP 5 rfl rfl 7 (by decide) lk15 (fun _ h9 => h9) rfl dSv_send_11 ?_
  refine lv_iload_n hx hb dSv_send_14 rfl (lv_at hl 3 rfl) ?_
  refine lv_iload hx hb dSv_send_15 (lv_at hl 4 rfl) ?_
  obtain ⟨P3, hP3, hwp⟩ := hwp
  refine uCallIv (b := q1) (As := [.int 0, .int x3, .int x4]) (rest := [.ref q1, .int x2, .int x1, .ref (a 1)]) ⟨hx, hb, hml, hown, hts⟩ (kC_Ms_init l D a A t q1  σ2 0 x3 x4 P3 hP3) (cwI 3 hts (gdc wm_384) rfl rfl rfl (hts _ (List.mem_cons_of_mem _ wm_19)) (hts _ (List.mem_cons_of_mem _ wm_382)) (hts _ (List.mem_cons_of_mem _ wm_383)) rfl (by decide +kernel) ⟨Nat.le_of_ble_eq_true rfl, Nat.le_of_ble_eq_true rfl⟩) hP hK hD hA hS rfl hl.1 rfl (Nat.le_of_ble_eq_true rfl) dSv_send_17 ⟨Nat.le_of_ble_eq_true rfl, Nat.le_of_ble_eq_true rfl⟩ (fun u4 H locs hu4 hP hD hS => ?_)
  have hwp := hwp u4 hu4
  obtain ⟨P5, hP5, hwp⟩ := hwp
  refine uCallVv (As := [.int x1, .int x2, .ref q1]) (rest := []) (C := RNw) ⟨hx, hb, hml, hown, hts⟩ (kC_Nw_post l D a A t q1  u4 x1 x2 P5 hP5) (cwV 3 hts (gdV wm_410 wm_411 wm_412 wm_2 wm_413) rfl rfl rfl (by decide +kernel) ⟨Nat.le_of_ble_eq_true rfl, Nat.le_of_ble_eq_true rfl⟩) (va_recv (ci := 2) (q0 := 1) hK hP rfl rfl) hP hK hD hA hS rfl hl.1 rfl (Nat.le_of_ble_eq_true rfl) dSv_send_20 ⟨Nat.le_of_ble_eq_true rfl, Nat.le_of_ble_eq_true rfl⟩ (fun u6 H locs hu6 hP hD hS => ?_)
  have hwp := hwp u6 hu6
  exact W.vret hx hb hr (fun t ht hW => ⟨⟨u6, rfl, hwp, uEnd ht hW hP hK hD hS hA⟩, hS.F ht⟩) hS.2.2 dSv_send_23
-- NodeServices$Service: void send(int, int, int, int), on Tk
def wC_Tk_send (a : Nat → Nat) (R : CS → Prop) (σ : CS) (x1 x2 x3 x4 : Int32) : Prop :=
  (∀ q1 : Nat, q1 ∉ σ.2.2 → ∀ σ2 : CS, σ2 = cn σ q1 → (∃ P3 : CS → Prop, wC_Ms_init a q1 P3 σ2 1 x3 x4 ∧ (∀ (u4 : CS), P3 u4 → (∃ P5 : CS → Prop, wC_Nw_post a q1 P5 u4 x1 x2 ∧ (∀ (u6 : CS), P5 u6 → R u6)))))
abbrev rmC_Tk_send : Room := { frames := 2, cells := 1, slots := 4, locals := 45 }
set_option maxHeartbeats 4000000 in
set_option maxRecDepth 100000 in
theorem kC_Tk_send (l : Launch) (D : va_G) (a : Nat → Nat) (A : Nat → Prop) (t : Nat → ClassId) (σ : CS) (x1 x2 x3 x4 : Int32) (R : CS → Prop) (hwp : wC_Tk_send a R σ x1 x2 x3 x4) : Met l ySv_send wsSv_send rmC_Tk_send (va_Pc [.ref (a 11), .int x1, .int x2, .int x3, .int x4] (uI D clA (cT t) A true (cw a t) σ)) (va_Qv R (uI D clA (cT t) A true (cw a t)) A) 1 4 A := by
  refine Met.ofW (cc := cSv_send) (maxL := 5) (ret := none) (by decide) rfl ?_
  intro p e s m args below meth c s₁ B hml hv
  obtain ⟨rfl, hP, hK, hD, hA⟩ := hv
  have hx := B.exec
  have hb := B.bytes
  have hr := B.returns
  have hts := atoms_spec (ws := wsSv_send) B.pre
  have hown : s.vm.findClass RSv = some m.cls := findClass_of_methodNamed B.named
  have hlocks := B.notSynchronized
  have hinMs : ∀ w ∈ u_ws RMs TMs 4, w ∈ wsSv_send := fun w h => List.mem_cons_of_mem _ (inMs w h)
  have hinTk : ∀ w ∈ u_ws RTk TTk 8, w ∈ wsSv_send := fun w h => List.mem_cons_of_mem _ (inTk w h)
  have lk15 := hts _ (List.mem_cons_of_mem _ wm_91)
  have lk9 := hts _ (List.mem_cons_of_mem _ wm_90)
  have hS : va_S A s.heap s.heap [] := va_S.rf
  have hl := lv_entry ([.ref (a 11), .int x1, .int x2, .int x3, .int x4]) (n := 5) (Nat.le_of_ble_eq_true rfl)
  rw [lg_entry_eq]
  generalize (lg_sl ([.ref (a 11), .int x1, .int x2, .int x3, .int x4]) ++ List.replicate (5 - (lg_sl ([.ref (a 11), .int x1, .int x2, .int x3, .int x4])).length) Slot.unset).toArray = ls at hl ⊢
  have hl : lv_has ls 5 [(0, .ref (a 11)), (1, .int x1), (2, .int x2), (3, .int x3), (4, .int x4)] := hl
  refine lv_aload_n hx hb dSv_send_0 rfl (lv_at hl 0 rfl) ?_
  refine va_get (D := D) (ci := 7) (C := RTk) (T := TTk) (N := 8) hx hb hts hinTk hown hK hP 11 rfl rfl 6 (by decide) lk9 (fun _ h9 => h9) rfl dSv_send_1 ?_
  refine lv_iload_n hx hb dSv_send_4 rfl (lv_at hl 1 rfl) ?_
  refine lv_iload_n hx hb dSv_send_5 rfl (lv_at hl 2 rfl) ?_
  refine va_new (ci := 4) (fs := [.int 0, .int 0, .int 0, .null]) (C := RMs) (T := TMs) (N := 4) hx hb hts hinMs tyMs tyMs_ok hown (hts _ (List.mem_cons_of_mem _ wm_380)) (hts _ (List.mem_cons_of_mem _ wm_381)) (hts _ (List.mem_cons_of_mem _ wm_19)) hK hP hD hS (hA rfl) rfl (fun j hj => by rcases (show j = 0 ∨ j = 1 ∨ j = 2 ∨ j = 3 by omega) with rfl | rfl | rfl | rfl <;> rfl) (Nat.le_of_ble_eq_true rfl) (Nat.le_of_ble_eq_true rfl) dSv_send_6 (fun q1 H hP hD hS => ?_)
  have hqq1 : q1 ∉ σ.2.2 := va_pl_fresh2 (X := cF a t σ) (f := cG σ) hD
  obtain ⟨σ2, eσ2⟩ : ∃ z, z = cn σ q1 := ⟨_, rfl⟩
  have hwp := hwp q1 hqq1 σ2 eσ2
  have hP : va_P D clA (cw a t σ2) H := by rw [eσ2, ← cw_new hqq1]; exact hP
  have hD : va_D A (cw a t σ2) := by rw [eσ2, ← cw_new hqq1]; exact hD
  refine lv_dup hx hb dSv_send_9 rfl ?_
  refine lv_aload_n hx hb dSv_send_10 rfl (lv_at hl 0 rfl) ?_
  refine va_get (D := D) (ci := 7) (C := RTk) (T := TTk) (N := 8) hx hb hts hinTk hown hK hP 11 rfl rfl 7 (by decide) lk15 (fun _ h9 => h9) rfl dSv_send_11 ?_
  refine lv_iload_n hx hb dSv_send_14 rfl (lv_at hl 3 rfl) ?_
  refine lv_iload hx hb dSv_send_15 (lv_at hl 4 rfl) ?_
  obtain ⟨P3, hP3, hwp⟩ := hwp
  refine uCallIv (b := q1) (As := [.int 1, .int x3, .int x4]) (rest := [.ref q1, .int x2, .int x1, .ref (a 1)]) ⟨hx, hb, hml, hown, hts⟩ (kC_Ms_init l D a A t q1  σ2 1 x3 x4 P3 hP3) (cwI 3 hts (gdc wm_384) rfl rfl rfl (hts _ (List.mem_cons_of_mem _ wm_19)) (hts _ (List.mem_cons_of_mem _ wm_382)) (hts _ (List.mem_cons_of_mem _ wm_383)) rfl (by decide +kernel) ⟨Nat.le_of_ble_eq_true rfl, Nat.le_of_ble_eq_true rfl⟩) hP hK hD hA hS rfl hl.1 rfl (Nat.le_of_ble_eq_true rfl) dSv_send_17 ⟨Nat.le_of_ble_eq_true rfl, Nat.le_of_ble_eq_true rfl⟩ (fun u4 H locs hu4 hP hD hS => ?_)
  have hwp := hwp u4 hu4
  obtain ⟨P5, hP5, hwp⟩ := hwp
  refine uCallVv (As := [.int x1, .int x2, .ref q1]) (rest := []) (C := RNw) ⟨hx, hb, hml, hown, hts⟩ (kC_Nw_post l D a A t q1  u4 x1 x2 P5 hP5) (cwV 3 hts (gdV wm_410 wm_411 wm_412 wm_2 wm_413) rfl rfl rfl (by decide +kernel) ⟨Nat.le_of_ble_eq_true rfl, Nat.le_of_ble_eq_true rfl⟩) (va_recv (ci := 2) (q0 := 1) hK hP rfl rfl) hP hK hD hA hS rfl hl.1 rfl (Nat.le_of_ble_eq_true rfl) dSv_send_20 ⟨Nat.le_of_ble_eq_true rfl, Nat.le_of_ble_eq_true rfl⟩ (fun u6 H locs hu6 hP hD hS => ?_)
  have hwp := hwp u6 hu6
  exact W.vret hx hb hr (fun t ht hW => ⟨⟨u6, rfl, hwp, uEnd ht hW hP hK hD hS hA⟩, hS.F ht⟩) hS.2.2 dSv_send_23
-- NodeServices$Service: void send(int, int, int, int), on Tr
def wC_Tr_send (a : Nat → Nat) (R : CS → Prop) (σ : CS) (x1 x2 x3 x4 : Int32) : Prop :=
  (∀ q1 : Nat, q1 ∉ σ.2.2 → ∀ σ2 : CS, σ2 = cn σ q1 → (∃ P3 : CS → Prop, wC_Ms_init a q1 P3 σ2 2 x3 x4 ∧ (∀ (u4 : CS), P3 u4 → (∃ P5 : CS → Prop, wC_Nw_post a q1 P5 u4 x1 x2 ∧ (∀ (u6 : CS), P5 u6 → R u6)))))
abbrev rmC_Tr_send : Room := { frames := 2, cells := 1, slots := 4, locals := 45 }
set_option maxHeartbeats 4000000 in
set_option maxRecDepth 100000 in
theorem kC_Tr_send (l : Launch) (D : va_G) (a : Nat → Nat) (A : Nat → Prop) (t : Nat → ClassId) (σ : CS) (x1 x2 x3 x4 : Int32) (R : CS → Prop) (hwp : wC_Tr_send a R σ x1 x2 x3 x4) : Met l ySv_send wsSv_send rmC_Tr_send (va_Pc [.ref (a 19), .int x1, .int x2, .int x3, .int x4] (uI D clA (cT t) A true (cw a t) σ)) (va_Qv R (uI D clA (cT t) A true (cw a t)) A) 1 4 A := by
  refine Met.ofW (cc := cSv_send) (maxL := 5) (ret := none) (by decide) rfl ?_
  intro p e s m args below meth c s₁ B hml hv
  obtain ⟨rfl, hP, hK, hD, hA⟩ := hv
  have hx := B.exec
  have hb := B.bytes
  have hr := B.returns
  have hts := atoms_spec (ws := wsSv_send) B.pre
  have hown : s.vm.findClass RSv = some m.cls := findClass_of_methodNamed B.named
  have hlocks := B.notSynchronized
  have hinMs : ∀ w ∈ u_ws RMs TMs 4, w ∈ wsSv_send := fun w h => List.mem_cons_of_mem _ (inMs w h)
  have hinTr : ∀ w ∈ u_ws RTr TTr 7, w ∈ wsSv_send := fun w h => List.mem_cons_of_mem _ (inTr w h)
  have lk15 := hts _ (List.mem_cons_of_mem _ wm_91)
  have lk9 := hts _ (List.mem_cons_of_mem _ wm_90)
  have hS : va_S A s.heap s.heap [] := va_S.rf
  have hl := lv_entry ([.ref (a 19), .int x1, .int x2, .int x3, .int x4]) (n := 5) (Nat.le_of_ble_eq_true rfl)
  rw [lg_entry_eq]
  generalize (lg_sl ([.ref (a 19), .int x1, .int x2, .int x3, .int x4]) ++ List.replicate (5 - (lg_sl ([.ref (a 19), .int x1, .int x2, .int x3, .int x4])).length) Slot.unset).toArray = ls at hl ⊢
  have hl : lv_has ls 5 [(0, .ref (a 19)), (1, .int x1), (2, .int x2), (3, .int x3), (4, .int x4)] := hl
  refine lv_aload_n hx hb dSv_send_0 rfl (lv_at hl 0 rfl) ?_
  refine va_get (D := D) (ci := 8) (C := RTr) (T := TTr) (N := 7) hx hb hts hinTr hown hK hP 19 rfl rfl 5 (by decide) lk9 (fun _ h9 => h9) rfl dSv_send_1 ?_
  refine lv_iload_n hx hb dSv_send_4 rfl (lv_at hl 1 rfl) ?_
  refine lv_iload_n hx hb dSv_send_5 rfl (lv_at hl 2 rfl) ?_
  refine va_new (ci := 4) (fs := [.int 0, .int 0, .int 0, .null]) (C := RMs) (T := TMs) (N := 4) hx hb hts hinMs tyMs tyMs_ok hown (hts _ (List.mem_cons_of_mem _ wm_380)) (hts _ (List.mem_cons_of_mem _ wm_381)) (hts _ (List.mem_cons_of_mem _ wm_19)) hK hP hD hS (hA rfl) rfl (fun j hj => by rcases (show j = 0 ∨ j = 1 ∨ j = 2 ∨ j = 3 by omega) with rfl | rfl | rfl | rfl <;> rfl) (Nat.le_of_ble_eq_true rfl) (Nat.le_of_ble_eq_true rfl) dSv_send_6 (fun q1 H hP hD hS => ?_)
  have hqq1 : q1 ∉ σ.2.2 := va_pl_fresh2 (X := cF a t σ) (f := cG σ) hD
  obtain ⟨σ2, eσ2⟩ : ∃ z, z = cn σ q1 := ⟨_, rfl⟩
  have hwp := hwp q1 hqq1 σ2 eσ2
  have hP : va_P D clA (cw a t σ2) H := by rw [eσ2, ← cw_new hqq1]; exact hP
  have hD : va_D A (cw a t σ2) := by rw [eσ2, ← cw_new hqq1]; exact hD
  refine lv_dup hx hb dSv_send_9 rfl ?_
  refine lv_aload_n hx hb dSv_send_10 rfl (lv_at hl 0 rfl) ?_
  refine va_get (D := D) (ci := 8) (C := RTr) (T := TTr) (N := 7) hx hb hts hinTr hown hK hP 19 rfl rfl 6 (by decide) lk15 (fun _ h9 => h9) rfl dSv_send_11 ?_
  refine lv_iload_n hx hb dSv_send_14 rfl (lv_at hl 3 rfl) ?_
  refine lv_iload hx hb dSv_send_15 (lv_at hl 4 rfl) ?_
  obtain ⟨P3, hP3, hwp⟩ := hwp
  refine uCallIv (b := q1) (As := [.int 2, .int x3, .int x4]) (rest := [.ref q1, .int x2, .int x1, .ref (a 1)]) ⟨hx, hb, hml, hown, hts⟩ (kC_Ms_init l D a A t q1  σ2 2 x3 x4 P3 hP3) (cwI 3 hts (gdc wm_384) rfl rfl rfl (hts _ (List.mem_cons_of_mem _ wm_19)) (hts _ (List.mem_cons_of_mem _ wm_382)) (hts _ (List.mem_cons_of_mem _ wm_383)) rfl (by decide +kernel) ⟨Nat.le_of_ble_eq_true rfl, Nat.le_of_ble_eq_true rfl⟩) hP hK hD hA hS rfl hl.1 rfl (Nat.le_of_ble_eq_true rfl) dSv_send_17 ⟨Nat.le_of_ble_eq_true rfl, Nat.le_of_ble_eq_true rfl⟩ (fun u4 H locs hu4 hP hD hS => ?_)
  have hwp := hwp u4 hu4
  obtain ⟨P5, hP5, hwp⟩ := hwp
  refine uCallVv (As := [.int x1, .int x2, .ref q1]) (rest := []) (C := RNw) ⟨hx, hb, hml, hown, hts⟩ (kC_Nw_post l D a A t q1  u4 x1 x2 P5 hP5) (cwV 3 hts (gdV wm_410 wm_411 wm_412 wm_2 wm_413) rfl rfl rfl (by decide +kernel) ⟨Nat.le_of_ble_eq_true rfl, Nat.le_of_ble_eq_true rfl⟩) (va_recv (ci := 2) (q0 := 1) hK hP rfl rfl) hP hK hD hA hS rfl hl.1 rfl (Nat.le_of_ble_eq_true rfl) dSv_send_20 ⟨Nat.le_of_ble_eq_true rfl, Nat.le_of_ble_eq_true rfl⟩ (fun u6 H locs hu6 hP hD hS => ?_)
  have hwp := hwp u6 hu6
  exact W.vret hx hb hr (fun t ht hW => ⟨⟨u6, rfl, hwp, uEnd ht hW hP hK hD hS hA⟩, hS.F ht⟩) hS.2.2 dSv_send_23
-- NodeServices$Service: void send(int, int, int, int), on El
def wC_El_send (a : Nat → Nat) (R : CS → Prop) (σ : CS) (x1 x2 x3 x4 : Int32) : Prop :=
  (∀ q1 : Nat, q1 ∉ σ.2.2 → ∀ σ2 : CS, σ2 = cn σ q1 → (∃ P3 : CS → Prop, wC_Ms_init a q1 P3 σ2 3 x3 x4 ∧ (∀ (u4 : CS), P3 u4 → (∃ P5 : CS → Prop, wC_Nw_post a q1 P5 u4 x1 x2 ∧ (∀ (u6 : CS), P5 u6 → R u6)))))
abbrev rmC_El_send : Room := { frames := 2, cells := 1, slots := 4, locals := 45 }
set_option maxHeartbeats 4000000 in
set_option maxRecDepth 100000 in
theorem kC_El_send (l : Launch) (D : va_G) (a : Nat → Nat) (A : Nat → Prop) (t : Nat → ClassId) (σ : CS) (x1 x2 x3 x4 : Int32) (R : CS → Prop) (hwp : wC_El_send a R σ x1 x2 x3 x4) : Met l ySv_send wsSv_send rmC_El_send (va_Pc [.ref (a 24), .int x1, .int x2, .int x3, .int x4] (uI D clA (cT t) A true (cw a t) σ)) (va_Qv R (uI D clA (cT t) A true (cw a t)) A) 1 4 A := by
  refine Met.ofW (cc := cSv_send) (maxL := 5) (ret := none) (by decide) rfl ?_
  intro p e s m args below meth c s₁ B hml hv
  obtain ⟨rfl, hP, hK, hD, hA⟩ := hv
  have hx := B.exec
  have hb := B.bytes
  have hr := B.returns
  have hts := atoms_spec (ws := wsSv_send) B.pre
  have hown : s.vm.findClass RSv = some m.cls := findClass_of_methodNamed B.named
  have hlocks := B.notSynchronized
  have hinEl : ∀ w ∈ u_ws REl TEl 5, w ∈ wsSv_send := fun w h => List.mem_cons_of_mem _ (inEl w h)
  have hinMs : ∀ w ∈ u_ws RMs TMs 4, w ∈ wsSv_send := fun w h => List.mem_cons_of_mem _ (inMs w h)
  have lk15 := hts _ (List.mem_cons_of_mem _ wm_91)
  have lk9 := hts _ (List.mem_cons_of_mem _ wm_90)
  have hS : va_S A s.heap s.heap [] := va_S.rf
  have hl := lv_entry ([.ref (a 24), .int x1, .int x2, .int x3, .int x4]) (n := 5) (Nat.le_of_ble_eq_true rfl)
  rw [lg_entry_eq]
  generalize (lg_sl ([.ref (a 24), .int x1, .int x2, .int x3, .int x4]) ++ List.replicate (5 - (lg_sl ([.ref (a 24), .int x1, .int x2, .int x3, .int x4])).length) Slot.unset).toArray = ls at hl ⊢
  have hl : lv_has ls 5 [(0, .ref (a 24)), (1, .int x1), (2, .int x2), (3, .int x3), (4, .int x4)] := hl
  refine lv_aload_n hx hb dSv_send_0 rfl (lv_at hl 0 rfl) ?_
  refine va_get (D := D) (ci := 9) (C := REl) (T := TEl) (N := 5) hx hb hts hinEl hown hK hP 24 rfl rfl 3 (by decide) lk9 (fun _ h9 => h9) rfl dSv_send_1 ?_
  refine lv_iload_n hx hb dSv_send_4 rfl (lv_at hl 1 rfl) ?_
  refine lv_iload_n hx hb dSv_send_5 rfl (lv_at hl 2 rfl) ?_
  refine va_new (ci := 4) (fs := [.int 0, .int 0, .int 0, .null]) (C := RMs) (T := TMs) (N := 4) hx hb hts hinMs tyMs tyMs_ok hown (hts _ (List.mem_cons_of_mem _ wm_380)) (hts _ (List.mem_cons_of_mem _ wm_381)) (hts _ (List.mem_cons_of_mem _ wm_19)) hK hP hD hS (hA rfl) rfl (fun j hj => by rcases (show j = 0 ∨ j = 1 ∨ j = 2 ∨ j = 3 by omega) with rfl | rfl | rfl | rfl <;> rfl) (Nat.le_of_ble_eq_true rfl) (Nat.le_of_ble_eq_true rfl) dSv_send_6 (fun q1 H hP hD hS => ?_)
  have hqq1 : q1 ∉ σ.2.2 := va_pl_fresh2 (X := cF a t σ) (f := cG σ) hD
  obtain ⟨σ2, eσ2⟩ : ∃ z, z = cn σ q1 := ⟨_, rfl⟩
  have hwp := hwp q1 hqq1 σ2 eσ2
  have hP : va_P D clA (cw a t σ2) H := by rw [eσ2, ← cw_new hqq1]; exact hP
  have hD : va_D A (cw a t σ2) := by rw [eσ2, ← cw_new hqq1]; exact hD
  refine lv_dup hx hb dSv_send_9 rfl ?_
  refine lv_aload_n hx hb dSv_send_10 rfl (lv_at hl 0 rfl) ?_
  refine va_get (D := D) (ci := 9) (C := REl) (T := TEl) (N := 5) hx hb hts hinEl hown hK hP 24 rfl rfl 4 (by decide) lk15 (fun _ h9 => h9) rfl dSv_send_11 ?_
  refine lv_iload_n hx hb dSv_send_14 rfl (lv_at hl 3 rfl) ?_
  refine lv_iload hx hb dSv_send_15 (lv_at hl 4 rfl) ?_
  obtain ⟨P3, hP3, hwp⟩ := hwp
  refine uCallIv (b := q1) (As := [.int 3, .int x3, .int x4]) (rest := [.ref q1, .int x2, .int x1, .ref (a 1)]) ⟨hx, hb, hml, hown, hts⟩ (kC_Ms_init l D a A t q1  σ2 3 x3 x4 P3 hP3) (cwI 3 hts (gdc wm_384) rfl rfl rfl (hts _ (List.mem_cons_of_mem _ wm_19)) (hts _ (List.mem_cons_of_mem _ wm_382)) (hts _ (List.mem_cons_of_mem _ wm_383)) rfl (by decide +kernel) ⟨Nat.le_of_ble_eq_true rfl, Nat.le_of_ble_eq_true rfl⟩) hP hK hD hA hS rfl hl.1 rfl (Nat.le_of_ble_eq_true rfl) dSv_send_17 ⟨Nat.le_of_ble_eq_true rfl, Nat.le_of_ble_eq_true rfl⟩ (fun u4 H locs hu4 hP hD hS => ?_)
  have hwp := hwp u4 hu4
  obtain ⟨P5, hP5, hwp⟩ := hwp
  refine uCallVv (As := [.int x1, .int x2, .ref q1]) (rest := []) (C := RNw) ⟨hx, hb, hml, hown, hts⟩ (kC_Nw_post l D a A t q1  u4 x1 x2 P5 hP5) (cwV 3 hts (gdV wm_410 wm_411 wm_412 wm_2 wm_413) rfl rfl rfl (by decide +kernel) ⟨Nat.le_of_ble_eq_true rfl, Nat.le_of_ble_eq_true rfl⟩) (va_recv (ci := 2) (q0 := 1) hK hP rfl rfl) hP hK hD hA hS rfl hl.1 rfl (Nat.le_of_ble_eq_true rfl) dSv_send_20 ⟨Nat.le_of_ble_eq_true rfl, Nat.le_of_ble_eq_true rfl⟩ (fun u6 H locs hu6 hP hD hS => ?_)
  have hwp := hwp u6 hu6
  exact W.vret hx hb hr (fun t ht hW => ⟨⟨u6, rfl, hwp, uEnd ht hW hP hK hD hS hA⟩, hS.F ht⟩) hS.2.2 dSv_send_23
-- NodeServices$Service: void send(int, int, int, int), on Wk
def wC_Wk_send (a : Nat → Nat) (R : CS → Prop) (σ : CS) (x1 x2 x3 x4 : Int32) : Prop :=
  (∀ q1 : Nat, q1 ∉ σ.2.2 → ∀ σ2 : CS, σ2 = cn σ q1 → (∃ P3 : CS → Prop, wC_Ms_init a q1 P3 σ2 4 x3 x4 ∧ (∀ (u4 : CS), P3 u4 → (∃ P5 : CS → Prop, wC_Nw_post a q1 P5 u4 x1 x2 ∧ (∀ (u6 : CS), P5 u6 → R u6)))))
abbrev rmC_Wk_send : Room := { frames := 2, cells := 1, slots := 4, locals := 45 }
set_option maxHeartbeats 4000000 in
set_option maxRecDepth 100000 in
theorem kC_Wk_send (l : Launch) (D : va_G) (a : Nat → Nat) (A : Nat → Prop) (t : Nat → ClassId) (σ : CS) (x1 x2 x3 x4 : Int32) (R : CS → Prop) (hwp : wC_Wk_send a R σ x1 x2 x3 x4) : Met l ySv_send wsSv_send rmC_Wk_send (va_Pc [.ref (a 38), .int x1, .int x2, .int x3, .int x4] (uI D clA (cT t) A true (cw a t) σ)) (va_Qv R (uI D clA (cT t) A true (cw a t)) A) 1 4 A := by
  refine Met.ofW (cc := cSv_send) (maxL := 5) (ret := none) (by decide) rfl ?_
  intro p e s m args below meth c s₁ B hml hv
  obtain ⟨rfl, hP, hK, hD, hA⟩ := hv
  have hx := B.exec
  have hb := B.bytes
  have hr := B.returns
  have hts := atoms_spec (ws := wsSv_send) B.pre
  have hown : s.vm.findClass RSv = some m.cls := findClass_of_methodNamed B.named
  have hlocks := B.notSynchronized
  have hinMs : ∀ w ∈ u_ws RMs TMs 4, w ∈ wsSv_send := fun w h => List.mem_cons_of_mem _ (inMs w h)
  have hinWk : ∀ w ∈ u_ws RWk TWk 7, w ∈ wsSv_send := fun w h => List.mem_cons_of_mem _ (inWk w h)
  have lk15 := hts _ (List.mem_cons_of_mem _ wm_91)
  have lk9 := hts _ (List.mem_cons_of_mem _ wm_90)
  have hS : va_S A s.heap s.heap [] := va_S.rf
  have hl := lv_entry ([.ref (a 38), .int x1, .int x2, .int x3, .int x4]) (n := 5) (Nat.le_of_ble_eq_true rfl)
  rw [lg_entry_eq]
  generalize (lg_sl ([.ref (a 38), .int x1, .int x2, .int x3, .int x4]) ++ List.replicate (5 - (lg_sl ([.ref (a 38), .int x1, .int x2, .int x3, .int x4])).length) Slot.unset).toArray = ls at hl ⊢
  have hl : lv_has ls 5 [(0, .ref (a 38)), (1, .int x1), (2, .int x2), (3, .int x3), (4, .int x4)] := hl
  refine lv_aload_n hx hb dSv_send_0 rfl (lv_at hl 0 rfl) ?_
  refine va_get (D := D) (ci := 10) (C := RWk) (T := TWk) (N := 7) hx hb hts hinWk hown hK hP 38 rfl rfl 5 (by decide) lk9 (fun _ h9 => h9) rfl dSv_send_1 ?_
  refine lv_iload_n hx hb dSv_send_4 rfl (lv_at hl 1 rfl) ?_
  refine lv_iload_n hx hb dSv_send_5 rfl (lv_at hl 2 rfl) ?_
  refine va_new (ci := 4) (fs := [.int 0, .int 0, .int 0, .null]) (C := RMs) (T := TMs) (N := 4) hx hb hts hinMs tyMs tyMs_ok hown (hts _ (List.mem_cons_of_mem _ wm_380)) (hts _ (List.mem_cons_of_mem _ wm_381)) (hts _ (List.mem_cons_of_mem _ wm_19)) hK hP hD hS (hA rfl) rfl (fun j hj => by rcases (show j = 0 ∨ j = 1 ∨ j = 2 ∨ j = 3 by omega) with rfl | rfl | rfl | rfl <;> rfl) (Nat.le_of_ble_eq_true rfl) (Nat.le_of_ble_eq_true rfl) dSv_send_6 (fun q1 H hP hD hS => ?_)
  have hqq1 : q1 ∉ σ.2.2 := va_pl_fresh2 (X := cF a t σ) (f := cG σ) hD
  obtain ⟨σ2, eσ2⟩ : ∃ z, z = cn σ q1 := ⟨_, rfl⟩
  have hwp := hwp q1 hqq1 σ2 eσ2
  have hP : va_P D clA (cw a t σ2) H := by rw [eσ2, ← cw_new hqq1]; exact hP
  have hD : va_D A (cw a t σ2) := by rw [eσ2, ← cw_new hqq1]; exact hD
  refine lv_dup hx hb dSv_send_9 rfl ?_
  refine lv_aload_n hx hb dSv_send_10 rfl (lv_at hl 0 rfl) ?_
  refine va_get (D := D) (ci := 10) (C := RWk) (T := TWk) (N := 7) hx hb hts hinWk hown hK hP 38 rfl rfl 6 (by decide) lk15 (fun _ h9 => h9) rfl dSv_send_11 ?_
  refine lv_iload_n hx hb dSv_send_14 rfl (lv_at hl 3 rfl) ?_
  refine lv_iload hx hb dSv_send_15 (lv_at hl 4 rfl) ?_
  obtain ⟨P3, hP3, hwp⟩ := hwp
  refine uCallIv (b := q1) (As := [.int 4, .int x3, .int x4]) (rest := [.ref q1, .int x2, .int x1, .ref (a 1)]) ⟨hx, hb, hml, hown, hts⟩ (kC_Ms_init l D a A t q1  σ2 4 x3 x4 P3 hP3) (cwI 3 hts (gdc wm_384) rfl rfl rfl (hts _ (List.mem_cons_of_mem _ wm_19)) (hts _ (List.mem_cons_of_mem _ wm_382)) (hts _ (List.mem_cons_of_mem _ wm_383)) rfl (by decide +kernel) ⟨Nat.le_of_ble_eq_true rfl, Nat.le_of_ble_eq_true rfl⟩) hP hK hD hA hS rfl hl.1 rfl (Nat.le_of_ble_eq_true rfl) dSv_send_17 ⟨Nat.le_of_ble_eq_true rfl, Nat.le_of_ble_eq_true rfl⟩ (fun u4 H locs hu4 hP hD hS => ?_)
  have hwp := hwp u4 hu4
  obtain ⟨P5, hP5, hwp⟩ := hwp
  refine uCallVv (As := [.int x1, .int x2, .ref q1]) (rest := []) (C := RNw) ⟨hx, hb, hml, hown, hts⟩ (kC_Nw_post l D a A t q1  u4 x1 x2 P5 hP5) (cwV 3 hts (gdV wm_410 wm_411 wm_412 wm_2 wm_413) rfl rfl rfl (by decide +kernel) ⟨Nat.le_of_ble_eq_true rfl, Nat.le_of_ble_eq_true rfl⟩) (va_recv (ci := 2) (q0 := 1) hK hP rfl rfl) hP hK hD hA hS rfl hl.1 rfl (Nat.le_of_ble_eq_true rfl) dSv_send_20 ⟨Nat.le_of_ble_eq_true rfl, Nat.le_of_ble_eq_true rfl⟩ (fun u6 H locs hu6 hP hD hS => ?_)
  have hwp := hwp u6 hu6
  exact W.vret hx hb hr (fun t ht hW => ⟨⟨u6, rfl, hwp, uEnd ht hW hP hK hD hS hA⟩, hS.F ht⟩) hS.2.2 dSv_send_23
-- NodeServices$Service: void sendToAllOthers(int, int, int), on St
def wC_St_sendToAllOthers_24 (a : Nat → Nat) (K3 : CS → Int32 → Int32 → Int32 → Int32 → Prop) (R : CS → Prop) (σ : CS) (y1 : Int32) (y2 : Int32) (y3 : Int32) (y4 : Int32) : Prop :=
  K3 σ y1 y2 y3 (y4 + 1)
def wC_St_sendToAllOthers_3_step (a : Nat → Nat) (K3 : CS → Int32 → Int32 → Int32 → Int32 → Prop) (R : CS → Prop) (σ : CS) (y1 : Int32) (y2 : Int32) (y3 : Int32) (y4 : Int32) : Prop :=
  (((4 ≤ y4) → R σ) ∧ ((¬ 4 ≤ y4) → (((y4 = y1) → wC_St_sendToAllOthers_24 a K3 R σ y1 y2 y3 y4) ∧ ((¬ y4 = y1) → (∃ P3 : CS → Prop, wC_St_send a P3 σ y1 y4 y2 y3 ∧ (∀ (u4 : CS), P3 u4 → wC_St_sendToAllOthers_24 a K3 R u4 y1 y2 y3 y4))))))
def wC_St_sendToAllOthers_3 (a : Nat → Nat) (R : CS → Prop) : Nat → CS → Int32 → Int32 → Int32 → Int32 → Prop
  | 0 => fun _ _ _ _ _ => False
  | k + 1 => fun σ y1 y2 y3 y4 => wC_St_sendToAllOthers_3_step a (wC_St_sendToAllOthers_3 a R k) R σ y1 y2 y3 y4
def wC_St_sendToAllOthers (a : Nat → Nat) (R : CS → Prop) (σ : CS) (x1 x2 x3 : Int32) : Prop :=
  wC_St_sendToAllOthers_3 a R 5 σ x1 x2 x3 0
abbrev wsSv_sendToAllOthers : List Cond := .code ySv_sendToAllOthers cSv_sendToAllOthers 5 none :: wg
abbrev rmC_St_sendToAllOthers : Room := { frames := 3, cells := 5, slots := 20, locals := 69 }
set_option maxHeartbeats 4000000 in
set_option maxRecDepth 100000 in
theorem kC_St_sendToAllOthers (l : Launch) (D : va_G) (a : Nat → Nat) (A : Nat → Prop) (t : Nat → ClassId) (σ : CS) (x1 x2 x3 : Int32) (R : CS → Prop) (hwp : wC_St_sendToAllOthers a R σ x1 x2 x3) : Met l ySv_sendToAllOthers wsSv_sendToAllOthers rmC_St_sendToAllOthers (va_Pc [.ref (a 5), .int x1, .int x2, .int x3] (uI D clA (cT t) A true (cw a t) σ)) (va_Qv R (uI D clA (cT t) A true (cw a t)) A) 5 20 A := by
  refine Met.ofW (cc := cSv_sendToAllOthers) (maxL := 5) (ret := none) (by decide) rfl ?_
  intro p e s m args below meth c s₁ B hml hv
  obtain ⟨rfl, hP, hK, hD, hA⟩ := hv
  have hx := B.exec
  have hb := B.bytes
  have hr := B.returns
  have hts := atoms_spec (ws := wsSv_sendToAllOthers) B.pre
  have hown : s.vm.findClass RSv = some m.cls := findClass_of_methodNamed B.named
  have hlocks := B.notSynchronized
  have hS : va_S A s.heap s.heap [] := va_S.rf
  have cut3 : ∀ (k3 : Nat), k3 ≤ 5 → ∀ (σ : CS) (y1 : Int32) (y2 : Int32) (y3 : Int32) (y4 : Int32) (H : Heap) (locs : List Loc) (ls : Array Slot), wC_St_sendToAllOthers_3 a R k3 σ y1 y2 y3 y4 → va_P D clA (cw a t σ) H → va_D A (cw a t σ) → va_S A s.heap H locs → lv_has ls 5 [(0, .ref (a 5)), (1, .int y1), (2, .int y2), (3, .int y3), (4, .int y4)] → W p l e (headSpec wsSv_sendToAllOthers rmC_St_sendToAllOthers).room s m ([.ref (a 5), .int x1, .int x2, .int x3] : List Value).toArray below meth c H locs (1 * (5 - k3)) (4 * (5 - k3)) (MQ below (va_Qv R (uI D clA (cT t) A true (cw a t)) A) ([.ref (a 5), .int x1, .int x2, .int x3] : List Value).toArray s 5 20 A) (F0 m 3 ls []) := by
    intro k3
    induction k3 with
    | zero => intro hk3 σ y1 y2 y3 y4 H locs ls hwp hP hD hS hl; exact False.elim hwp
    | succ k3 ih3 =>
      intro hk3 σ y1 y2 y3 y4 H locs ls hwp hP hD hS hl
      have cut24 : ∀ (σ : CS) (y1 : Int32) (y2 : Int32) (y3 : Int32) (y4 : Int32) (H : Heap) (locs : List Loc) (ls : Array Slot), wC_St_sendToAllOthers_24 a (wC_St_sendToAllOthers_3 a R k3) R σ y1 y2 y3 y4 → va_P D clA (cw a t σ) H → va_D A (cw a t σ) → va_S A s.heap H locs → lv_has ls 5 [(0, .ref (a 5)), (1, .int y1), (2, .int y2), (3, .int y3), (4, .int y4)] → W p l e (headSpec wsSv_sendToAllOthers rmC_St_sendToAllOthers).room s m ([.ref (a 5), .int x1, .int x2, .int x3] : List Value).toArray below meth c H locs (1 * (5 - k3)) (4 * (5 - k3)) (MQ below (va_Qv R (uI D clA (cT t) A true (cw a t)) A) ([.ref (a 5), .int x1, .int x2, .int x3] : List Value).toArray s 5 20 A) (F0 m 24 ls []) := by
        intro σ y1 y2 y3 y4 H locs ls hwp hP hD hS hl
        refine lv_iinc (k := 4) hx hb dSv_sendToAllOthers_24 hl rfl (fx_inc1 _) (by decide) rfl (fun ls hl => ?_)
        have hl : lv_has ls 5 [(4, .int (y4 + 1)), (0, .ref (a 5)), (1, .int y1), (2, .int y2), (3, .int y3)] := hl
        refine lv_goto hx hb dSv_sendToAllOthers_27 rfl ?_
        exact ih3 (by omega) σ y1 y2 y3 (y4 + 1) _ _ _ hwp hP hD hS (lv_sub hl [1, 2, 3, 4, 0] rfl)
      have hwp : wC_St_sendToAllOthers_3_step a (wC_St_sendToAllOthers_3 a R k3) R σ y1 y2 y3 y4 := hwp
      refine lv_iload hx hb dSv_sendToAllOthers_3 (lv_at hl 4 rfl) ?_
      refine lv_iconst (v := 4) hx hb dSv_sendToAllOthers_5 (by decide) ?_
      refine lv_icmp_ge hx hb dSv_sendToAllOthers_6 rfl (fun h1 => ?_) (fun h1 => ?_)
      · have hwp := hwp.1 h1
        refine W.widen (k := 5) (n := 20) (by omega) (by omega) ?_
        exact W.vret hx hb hr (fun t ht hW => ⟨⟨σ, rfl, hwp, uEnd ht hW hP hK hD hS hA⟩, hS.F ht⟩) hS.2.2 dSv_sendToAllOthers_30
      · have hwp := hwp.2 h1
        refine lv_iload hx hb dSv_sendToAllOthers_9 (lv_at hl 4 rfl) ?_
        refine lv_iload_n hx hb dSv_sendToAllOthers_11 rfl (lv_at hl 1 rfl) ?_
        refine lv_icmp_eq hx hb dSv_sendToAllOthers_12 rfl (fun h2 => ?_) (fun h2 => ?_)
        · have hwp := hwp.1 h2
          refine W.widen (k := (1 * (5 - k3))) (n := (4 * (5 - k3))) (by omega) (by omega) ?_
          exact cut24 σ y1 y2 y3 y4 _ _ _ hwp hP hD hS (lv_sub hl [0, 1, 2, 3, 4] rfl)
        · have hwp := hwp.2 h2
          refine lv_aload_n hx hb dSv_sendToAllOthers_15 rfl (lv_at hl 0 rfl) ?_
          refine lv_iload_n hx hb dSv_sendToAllOthers_16 rfl (lv_at hl 1 rfl) ?_
          refine lv_iload hx hb dSv_sendToAllOthers_17 (lv_at hl 4 rfl) ?_
          refine lv_iload_n hx hb dSv_sendToAllOthers_19 rfl (lv_at hl 2 rfl) ?_
          refine lv_iload_n hx hb dSv_sendToAllOthers_20 rfl (lv_at hl 3 rfl) ?_
          obtain ⟨P3, hP3, hwp⟩ := hwp
          refine uCallUv (As := [.int y1, .int y4, .int y2, .int y3]) (rest := []) (C := RSt) ⟨hx, hb, hml, hown, hts⟩ (kC_St_send l D a A t   σ y1 y4 y2 y3 P3 hP3) (va_cwU (x := ⟨"NodeServices$Service", "send", "(IIII)V"⟩) (owner := "NodeServices$Service") 4 hts (gdU wm_371 wm_373 wm_375 wm_372 wm_4 wm_379) rfl rfl rfl rfl (by decide +kernel) ⟨Nat.le_of_ble_eq_true rfl, Nat.le_of_ble_eq_true rfl⟩) (va_recv (ci := 6) (q0 := 5) hK hP rfl rfl) hP hK hD hA hS rfl hl.1 rfl (Nat.le_of_ble_eq_true rfl) dSv_sendToAllOthers_21 ⟨by show (1 * (5 - (k3 + 1))) + 1 ≤ 5; omega, by show (4 * (5 - (k3 + 1))) + 4 ≤ 20; omega⟩ (fun u4 H locs hu4 hP hD hS => ?_)
          have hwp := hwp u4 hu4
          refine W.widen (k := (1 * (5 - k3))) (n := (4 * (5 - k3))) (by omega) (by omega) ?_
          exact cut24 u4 y1 y2 y3 y4 _ _ _ hwp hP hD hS (lv_sub hl [0, 1, 2, 3, 4] rfl)
  have hl := lv_entry ([.ref (a 5), .int x1, .int x2, .int x3]) (n := 5) (Nat.le_of_ble_eq_true rfl)
  rw [lg_entry_eq]
  generalize (lg_sl ([.ref (a 5), .int x1, .int x2, .int x3]) ++ List.replicate (5 - (lg_sl ([.ref (a 5), .int x1, .int x2, .int x3])).length) Slot.unset).toArray = ls at hl ⊢
  have hl : lv_has ls 5 [(0, .ref (a 5)), (1, .int x1), (2, .int x2), (3, .int x3)] := hl
  refine lv_iconst (v := 0) hx hb dSv_sendToAllOthers_0 (by decide) ?_
  refine lv_istore hx hb dSv_sendToAllOthers_1 hl (by decide) rfl (fun ls hl => ?_)
  have hl : lv_has ls 5 [(4, .int 0), (0, .ref (a 5)), (1, .int x1), (2, .int x2), (3, .int x3)] := hl
  refine W.widen (k := (1 * (5 - 5))) (n := (4 * (5 - 5))) (by omega) (by omega) ?_
  exact cut3 5 (by omega) σ x1 x2 x3 0 _ _ _ hwp hP hD hS (lv_sub hl [1, 2, 3, 4, 0] rfl)
-- NodeServices$Service: void sendToAllOthers(int, int, int), on Tk
def wC_Tk_sendToAllOthers_24 (a : Nat → Nat) (K3 : CS → Int32 → Int32 → Int32 → Int32 → Prop) (R : CS → Prop) (σ : CS) (y1 : Int32) (y2 : Int32) (y3 : Int32) (y4 : Int32) : Prop :=
  K3 σ y1 y2 y3 (y4 + 1)
def wC_Tk_sendToAllOthers_3_step (a : Nat → Nat) (K3 : CS → Int32 → Int32 → Int32 → Int32 → Prop) (R : CS → Prop) (σ : CS) (y1 : Int32) (y2 : Int32) (y3 : Int32) (y4 : Int32) : Prop :=
  (((4 ≤ y4) → R σ) ∧ ((¬ 4 ≤ y4) → (((y4 = y1) → wC_Tk_sendToAllOthers_24 a K3 R σ y1 y2 y3 y4) ∧ ((¬ y4 = y1) → (∃ P3 : CS → Prop, wC_Tk_send a P3 σ y1 y4 y2 y3 ∧ (∀ (u4 : CS), P3 u4 → wC_Tk_sendToAllOthers_24 a K3 R u4 y1 y2 y3 y4))))))
def wC_Tk_sendToAllOthers_3 (a : Nat → Nat) (R : CS → Prop) : Nat → CS → Int32 → Int32 → Int32 → Int32 → Prop
  | 0 => fun _ _ _ _ _ => False
  | k + 1 => fun σ y1 y2 y3 y4 => wC_Tk_sendToAllOthers_3_step a (wC_Tk_sendToAllOthers_3 a R k) R σ y1 y2 y3 y4
def wC_Tk_sendToAllOthers (a : Nat → Nat) (R : CS → Prop) (σ : CS) (x1 x2 x3 : Int32) : Prop :=
  wC_Tk_sendToAllOthers_3 a R 5 σ x1 x2 x3 0
abbrev rmC_Tk_sendToAllOthers : Room := { frames := 3, cells := 5, slots := 20, locals := 69 }
set_option maxHeartbeats 4000000 in
set_option maxRecDepth 100000 in
theorem kC_Tk_sendToAllOthers (l : Launch) (D : va_G) (a : Nat → Nat) (A : Nat → Prop) (t : Nat → ClassId) (σ : CS) (x1 x2 x3 : Int32) (R : CS → Prop) (hwp : wC_Tk_sendToAllOthers a R σ x1 x2 x3) : Met l ySv_sendToAllOthers wsSv_sendToAllOthers rmC_Tk_sendToAllOthers (va_Pc [.ref (a 11), .int x1, .int x2, .int x3] (uI D clA (cT t) A true (cw a t) σ)) (va_Qv R (uI D clA (cT t) A true (cw a t)) A) 5 20 A := by
  refine Met.ofW (cc := cSv_sendToAllOthers) (maxL := 5) (ret := none) (by decide) rfl ?_
  intro p e s m args below meth c s₁ B hml hv
  obtain ⟨rfl, hP, hK, hD, hA⟩ := hv
  have hx := B.exec
  have hb := B.bytes
  have hr := B.returns
  have hts := atoms_spec (ws := wsSv_sendToAllOthers) B.pre
  have hown : s.vm.findClass RSv = some m.cls := findClass_of_methodNamed B.named
  have hlocks := B.notSynchronized
  have hS : va_S A s.heap s.heap [] := va_S.rf
  have cut3 : ∀ (k3 : Nat), k3 ≤ 5 → ∀ (σ : CS) (y1 : Int32) (y2 : Int32) (y3 : Int32) (y4 : Int32) (H : Heap) (locs : List Loc) (ls : Array Slot), wC_Tk_sendToAllOthers_3 a R k3 σ y1 y2 y3 y4 → va_P D clA (cw a t σ) H → va_D A (cw a t σ) → va_S A s.heap H locs → lv_has ls 5 [(0, .ref (a 11)), (1, .int y1), (2, .int y2), (3, .int y3), (4, .int y4)] → W p l e (headSpec wsSv_sendToAllOthers rmC_Tk_sendToAllOthers).room s m ([.ref (a 11), .int x1, .int x2, .int x3] : List Value).toArray below meth c H locs (1 * (5 - k3)) (4 * (5 - k3)) (MQ below (va_Qv R (uI D clA (cT t) A true (cw a t)) A) ([.ref (a 11), .int x1, .int x2, .int x3] : List Value).toArray s 5 20 A) (F0 m 3 ls []) := by
    intro k3
    induction k3 with
    | zero => intro hk3 σ y1 y2 y3 y4 H locs ls hwp hP hD hS hl; exact False.elim hwp
    | succ k3 ih3 =>
      intro hk3 σ y1 y2 y3 y4 H locs ls hwp hP hD hS hl
      have cut24 : ∀ (σ : CS) (y1 : Int32) (y2 : Int32) (y3 : Int32) (y4 : Int32) (H : Heap) (locs : List Loc) (ls : Array Slot), wC_Tk_sendToAllOthers_24 a (wC_Tk_sendToAllOthers_3 a R k3) R σ y1 y2 y3 y4 → va_P D clA (cw a t σ) H → va_D A (cw a t σ) → va_S A s.heap H locs → lv_has ls 5 [(0, .ref (a 11)), (1, .int y1), (2, .int y2), (3, .int y3), (4, .int y4)] → W p l e (headSpec wsSv_sendToAllOthers rmC_Tk_sendToAllOthers).room s m ([.ref (a 11), .int x1, .int x2, .int x3] : List Value).toArray below meth c H locs (1 * (5 - k3)) (4 * (5 - k3)) (MQ below (va_Qv R (uI D clA (cT t) A true (cw a t)) A) ([.ref (a 11), .int x1, .int x2, .int x3] : List Value).toArray s 5 20 A) (F0 m 24 ls []) := by
        intro σ y1 y2 y3 y4 H locs ls hwp hP hD hS hl
        refine lv_iinc (k := 4) hx hb dSv_sendToAllOthers_24 hl rfl (fx_inc1 _) (by decide) rfl (fun ls hl => ?_)
        have hl : lv_has ls 5 [(4, .int (y4 + 1)), (0, .ref (a 11)), (1, .int y1), (2, .int y2), (3, .int y3)] := hl
        refine lv_goto hx hb dSv_sendToAllOthers_27 rfl ?_
        exact ih3 (by omega) σ y1 y2 y3 (y4 + 1) _ _ _ hwp hP hD hS (lv_sub hl [1, 2, 3, 4, 0] rfl)
      have hwp : wC_Tk_sendToAllOthers_3_step a (wC_Tk_sendToAllOthers_3 a R k3) R σ y1 y2 y3 y4 := hwp
      refine lv_iload hx hb dSv_sendToAllOthers_3 (lv_at hl 4 rfl) ?_
      refine lv_iconst (v := 4) hx hb dSv_sendToAllOthers_5 (by decide) ?_
      refine lv_icmp_ge hx hb dSv_sendToAllOthers_6 rfl (fun h1 => ?_) (fun h1 => ?_)
      · have hwp := hwp.1 h1
        refine W.widen (k := 5) (n := 20) (by omega) (by omega) ?_
        exact W.vret hx hb hr (fun t ht hW => ⟨⟨σ, rfl, hwp, uEnd ht hW hP hK hD hS hA⟩, hS.F ht⟩) hS.2.2 dSv_sendToAllOthers_30
      · have hwp := hwp.2 h1
        refine lv_iload hx hb dSv_sendToAllOthers_9 (lv_at hl 4 rfl) ?_
        refine lv_iload_n hx hb dSv_sendToAllOthers_11 rfl (lv_at hl 1 rfl) ?_
        refine lv_icmp_eq hx hb dSv_sendToAllOthers_12 rfl (fun h2 => ?_) (fun h2 => ?_)
        · have hwp := hwp.1 h2
          refine W.widen (k := (1 * (5 - k3))) (n := (4 * (5 - k3))) (by omega) (by omega) ?_
          exact cut24 σ y1 y2 y3 y4 _ _ _ hwp hP hD hS (lv_sub hl [0, 1, 2, 3, 4] rfl)
        · have hwp := hwp.2 h2
          refine lv_aload_n hx hb dSv_sendToAllOthers_15 rfl (lv_at hl 0 rfl) ?_
          refine lv_iload_n hx hb dSv_sendToAllOthers_16 rfl (lv_at hl 1 rfl) ?_
          refine lv_iload hx hb dSv_sendToAllOthers_17 (lv_at hl 4 rfl) ?_
          refine lv_iload_n hx hb dSv_sendToAllOthers_19 rfl (lv_at hl 2 rfl) ?_
          refine lv_iload_n hx hb dSv_sendToAllOthers_20 rfl (lv_at hl 3 rfl) ?_
          obtain ⟨P3, hP3, hwp⟩ := hwp
          refine uCallUv (As := [.int y1, .int y4, .int y2, .int y3]) (rest := []) (C := RTk) ⟨hx, hb, hml, hown, hts⟩ (kC_Tk_send l D a A t   σ y1 y4 y2 y3 P3 hP3) (va_cwU (x := ⟨"NodeServices$Service", "send", "(IIII)V"⟩) (owner := "NodeServices$Service") 4 hts (gdU wm_371 wm_373 wm_376 wm_372 wm_4 wm_379) rfl rfl rfl rfl (by decide +kernel) ⟨Nat.le_of_ble_eq_true rfl, Nat.le_of_ble_eq_true rfl⟩) (va_recv (ci := 7) (q0 := 11) hK hP rfl rfl) hP hK hD hA hS rfl hl.1 rfl (Nat.le_of_ble_eq_true rfl) dSv_sendToAllOthers_21 ⟨by show (1 * (5 - (k3 + 1))) + 1 ≤ 5; omega, by show (4 * (5 - (k3 + 1))) + 4 ≤ 20; omega⟩ (fun u4 H locs hu4 hP hD hS => ?_)
          have hwp := hwp u4 hu4
          refine W.widen (k := (1 * (5 - k3))) (n := (4 * (5 - k3))) (by omega) (by omega) ?_
          exact cut24 u4 y1 y2 y3 y4 _ _ _ hwp hP hD hS (lv_sub hl [0, 1, 2, 3, 4] rfl)
  have hl := lv_entry ([.ref (a 11), .int x1, .int x2, .int x3]) (n := 5) (Nat.le_of_ble_eq_true rfl)
  rw [lg_entry_eq]
  generalize (lg_sl ([.ref (a 11), .int x1, .int x2, .int x3]) ++ List.replicate (5 - (lg_sl ([.ref (a 11), .int x1, .int x2, .int x3])).length) Slot.unset).toArray = ls at hl ⊢
  have hl : lv_has ls 5 [(0, .ref (a 11)), (1, .int x1), (2, .int x2), (3, .int x3)] := hl
  refine lv_iconst (v := 0) hx hb dSv_sendToAllOthers_0 (by decide) ?_
  refine lv_istore hx hb dSv_sendToAllOthers_1 hl (by decide) rfl (fun ls hl => ?_)
  have hl : lv_has ls 5 [(4, .int 0), (0, .ref (a 11)), (1, .int x1), (2, .int x2), (3, .int x3)] := hl
  refine W.widen (k := (1 * (5 - 5))) (n := (4 * (5 - 5))) (by omega) (by omega) ?_
  exact cut3 5 (by omega) σ x1 x2 x3 0 _ _ _ hwp hP hD hS (lv_sub hl [1, 2, 3, 4, 0] rfl)
-- NodeServices$Lock: void enter(int), on St
def wC_St_enter (a : Nat → Nat) (R : CS → Prop) (σ : CS) (x1 : Int32) : Prop :=
  (vp_in x1 4 ∧ (∀ σ2 : CS, σ2 = cu σ 1 x1.toNatClampNeg 2 → (∀ σ3 : CS, σ3 = cu σ2 2 0 ((σ2.1 2 0) + 1) → R σ3)))
abbrev wsLk_enter : List Cond := .code yLk_enter cLk_enter 2 none :: wg
abbrev rmC_St_enter : Room := { frames := 0, cells := 0, slots := 0, locals := 0 }
set_option maxHeartbeats 4000000 in
set_option maxRecDepth 100000 in
theorem kC_St_enter (l : Launch) (D : va_G) (a : Nat → Nat) (A : Nat → Prop) (t : Nat → ClassId) (σ : CS) (x1 : Int32) (R : CS → Prop) (hwp : wC_St_enter a R σ x1) : Met l yLk_enter wsLk_enter rmC_St_enter (va_Pc [.ref (a 5), .int x1] (uI D clA (cT t) A true (cw a t) σ)) (va_Qv R (uI D clA (cT t) A true (cw a t)) A) 0 0 A := by
  refine Met.ofW (cc := cLk_enter) (maxL := 2) (ret := none) (by decide) rfl ?_
  intro p e s m args below meth c s₁ B hml hv
  obtain ⟨rfl, hP, hK, hD, hA⟩ := hv
  have hx := B.exec
  have hb := B.bytes
  have hr := B.returns
  have hts := atoms_spec (ws := wsLk_enter) B.pre
  have hown : s.vm.findClass RLk = some m.cls := findClass_of_methodNamed B.named
  have hlocks := B.notSynchronized
  have hinSt : ∀ w ∈ u_ws RSt TSt 8, w ∈ wsLk_enter := fun w h => List.mem_cons_of_mem _ (inSt w h)
  have lk15 := hts _ (List.mem_cons_of_mem _ wm_88)
  have lk9 := hts _ (List.mem_cons_of_mem _ wm_80)
  have hS : va_S A s.heap s.heap [] := va_S.rf
  have hl := lv_entry ([.ref (a 5), .int x1]) (n := 2) (Nat.le_of_ble_eq_true rfl)
  rw [lg_entry_eq]
  generalize (lg_sl ([.ref (a 5), .int x1]) ++ List.replicate (2 - (lg_sl ([.ref (a 5), .int x1])).length) Slot.unset).toArray = ls at hl ⊢
  have hl : lv_has ls 2 [(0, .ref (a 5)), (1, .int x1)] := hl
  refine lv_aload_n hx hb dLk_enter_0 rfl (lv_at hl 0 rfl) ?_
  refine va_get (D := D) (ci := 6) (C := RSt) (T := TSt) (N := 8) hx hb hts hinSt hown hK hP 5 rfl rfl 4 (by decide) lk9 (fun _ h9 => h9) rfl dLk_enter_1 ?_
  refine lv_iload_n hx hb dLk_enter_4 rfl (lv_at hl 1 rfl) ?_
  refine lv_iconst (v := 2) hx hb dLk_enter_5 (by decide) ?_
  obtain ⟨hi1, hwp⟩ := hwp
  refine va_iast hx hb hK hP hD hS 6 0 rfl rfl hi1 dLk_enter_6 (fun H locs hP hD hS => ?_)
  obtain ⟨σ2, eσ2⟩ : ∃ z, z = cu σ 1 x1.toNatClampNeg 2 := ⟨_, rfl⟩
  have hwp := hwp σ2 eσ2
  have hP : va_P D clA (cw a t σ2) H := by rw [eσ2]; exact hP
  have hD : va_D A (cw a t σ2) := by rw [eσ2]; exact hD
  refine lv_aload_n hx hb dLk_enter_7 rfl (lv_at hl 0 rfl) ?_
  refine lv_dup hx hb dLk_enter_8 rfl ?_
  refine va_get (D := D) (ci := 6) (C := RSt) (T := TSt) (N := 8) hx hb hts hinSt hown hK hP 5 rfl rfl 5 (by decide) lk15 (fun _ h9 => h9) rfl dLk_enter_9 ?_
  refine lv_iconst (v := 1) hx hb dLk_enter_12 (by decide) ?_
  refine lv_iadd hx hb dLk_enter_13 ?_
  refine va_put (ty := .int) (D := D) (ci := 6) (C := RSt) (T := TSt) (N := 8) hx hb hts hinSt tySt tySt_ok nmSt hown hK hP hD hS 5 rfl rfl 5 (by decide) lk15 (fun _ h9 => h9) rfl (by decide +kernel) rfl rfl (Nat.le_of_ble_eq_true rfl) dLk_enter_14 (fun H locs hP hD hS => ?_)
  obtain ⟨σ3, eσ3⟩ : ∃ z, z = cu σ2 2 0 ((σ2.1 2 0) + 1) := ⟨_, rfl⟩
  have hwp := hwp σ3 eσ3
  have hP : va_P D clA (cw a t σ3) H := by rw [eσ3]; exact hP
  have hD : va_D A (cw a t σ3) := by rw [eσ3]; exact hD
  exact W.vret hx hb hr (fun t ht hW => ⟨⟨σ3, rfl, hwp, uEnd ht hW hP hK hD hS hA⟩, hS.F ht⟩) hS.2.2 dLk_enter_17
-- NodeServices$Lock: int condition(int), on St
def wC_St_condition (a : Nat → Nat) (R : Int32 → CS → Prop) (σ : CS) (x1 : Int32) : Prop :=
  (vp_in x1 4 ∧ R (σ.1 1 x1.toNatClampNeg) σ)
abbrev wsLk_condition : List Cond := .code yLk_condition cLk_condition 2 (some .int) :: wg
abbrev rmC_St_condition : Room := { frames := 0, cells := 0, slots := 0, locals := 0 }
set_option maxHeartbeats 4000000 in
set_option maxRecDepth 100000 in
theorem kC_St_condition (l : Launch) (D : va_G) (a : Nat → Nat) (A : Nat → Prop) (t : Nat → ClassId) (σ : CS) (x1 : Int32) (R : Int32 → CS → Prop) (hwp : wC_St_condition a R σ x1) : Met l yLk_condition wsLk_condition rmC_St_condition (va_Pc [.ref (a 5), .int x1] (uI D clA (cT t) A true (cw a t) σ)) (va_Qi R (uI D clA (cT t) A true (cw a t)) A) 0 0 A := by
  refine Met.ofW (cc := cLk_condition) (maxL := 2) (ret := (some .int)) (by decide) rfl ?_
  intro p e s m args below meth c s₁ B hml hv
  obtain ⟨rfl, hP, hK, hD, hA⟩ := hv
  have hx := B.exec
  have hb := B.bytes
  have hr := B.returns
  have hts := atoms_spec (ws := wsLk_condition) B.pre
  have hown : s.vm.findClass RLk = some m.cls := findClass_of_methodNamed B.named
  have hlocks := B.notSynchronized
  have hinSt : ∀ w ∈ u_ws RSt TSt 8, w ∈ wsLk_condition := fun w h => List.mem_cons_of_mem _ (inSt w h)
  have lk9 := hts _ (List.mem_cons_of_mem _ wm_80)
  have hS : va_S A s.heap s.heap [] := va_S.rf
  have hl := lv_entry ([.ref (a 5), .int x1]) (n := 2) (Nat.le_of_ble_eq_true rfl)
  rw [lg_entry_eq]
  generalize (lg_sl ([.ref (a 5), .int x1]) ++ List.replicate (2 - (lg_sl ([.ref (a 5), .int x1])).length) Slot.unset).toArray = ls at hl ⊢
  have hl : lv_has ls 2 [(0, .ref (a 5)), (1, .int x1)] := hl
  refine lv_aload_n hx hb dLk_condition_0 rfl (lv_at hl 0 rfl) ?_
  refine va_get (D := D) (ci := 6) (C := RSt) (T := TSt) (N := 8) hx hb hts hinSt hown hK hP 5 rfl rfl 4 (by decide) lk9 (fun _ h9 => h9) rfl dLk_condition_1 ?_
  refine lv_iload_n hx hb dLk_condition_4 rfl (lv_at hl 1 rfl) ?_
  obtain ⟨hi1, hwp⟩ := hwp
  refine va_iald hx hb hK hP 6 0 rfl rfl hi1 dLk_condition_5 ?_
  exact W.iret (v := σ.1 1 x1.toNatClampNeg) hx hb hr (fun t ht hW => ⟨⟨σ.1 1 x1.toNatClampNeg, σ, rfl, hwp, uEnd ht hW hP hK hD hS hA⟩, hS.F ht⟩) hS.2.2 dLk_condition_6
-- NodeServices$Lock: void enter(int), on Tk
def wC_Tk_enter (a : Nat → Nat) (R : CS → Prop) (σ : CS) (x1 : Int32) : Prop :=
  (vp_in x1 4 ∧ (∀ σ2 : CS, σ2 = cu σ 7 x1.toNatClampNeg 2 → (∀ σ3 : CS, σ3 = cu σ2 8 0 ((σ2.1 8 0) + 1) → R σ3)))
abbrev rmC_Tk_enter : Room := { frames := 0, cells := 0, slots := 0, locals := 0 }
set_option maxHeartbeats 4000000 in
set_option maxRecDepth 100000 in
theorem kC_Tk_enter (l : Launch) (D : va_G) (a : Nat → Nat) (A : Nat → Prop) (t : Nat → ClassId) (σ : CS) (x1 : Int32) (R : CS → Prop) (hwp : wC_Tk_enter a R σ x1) : Met l yLk_enter wsLk_enter rmC_Tk_enter (va_Pc [.ref (a 11), .int x1] (uI D clA (cT t) A true (cw a t) σ)) (va_Qv R (uI D clA (cT t) A true (cw a t)) A) 0 0 A := by
  refine Met.ofW (cc := cLk_enter) (maxL := 2) (ret := none) (by decide) rfl ?_
  intro p e s m args below meth c s₁ B hml hv
  obtain ⟨rfl, hP, hK, hD, hA⟩ := hv
  have hx := B.exec
  have hb := B.bytes
  have hr := B.returns
  have hts := atoms_spec (ws := wsLk_enter) B.pre
  have hown : s.vm.findClass RLk = some m.cls := findClass_of_methodNamed B.named
  have hlocks := B.notSynchronized
  have hinTk : ∀ w ∈ u_ws RTk TTk 8, w ∈ wsLk_enter := fun w h => List.mem_cons_of_mem _ (inTk w h)
  have lk15 := hts _ (List.mem_cons_of_mem _ wm_88)
  have lk9 := hts _ (List.mem_cons_of_mem _ wm_80)
  have hS : va_S A s.heap s.heap [] := va_S.rf
  have hl := lv_entry ([.ref (a 11), .int x1]) (n := 2) (Nat.le_of_ble_eq_true rfl)
  rw [lg_entry_eq]
  generalize (lg_sl ([.ref (a 11), .int x1]) ++ List.replicate (2 - (lg_sl ([.ref (a 11), .int x1])).length) Slot.unset).toArray = ls at hl ⊢
  have hl : lv_has ls 2 [(0, .ref (a 11)), (1, .int x1)] := hl
  refine lv_aload_n hx hb dLk_enter_0 rfl (lv_at hl 0 rfl) ?_
  refine va_get (D := D) (ci := 7) (C := RTk) (T := TTk) (N := 8) hx hb hts hinTk hown hK hP 11 rfl rfl 4 (by decide) lk9 (fun _ h9 => h9) rfl dLk_enter_1 ?_
  refine lv_iload_n hx hb dLk_enter_4 rfl (lv_at hl 1 rfl) ?_
  refine lv_iconst (v := 2) hx hb dLk_enter_5 (by decide) ?_
  obtain ⟨hi1, hwp⟩ := hwp
  refine va_iast hx hb hK hP hD hS 12 0 rfl rfl hi1 dLk_enter_6 (fun H locs hP hD hS => ?_)
  obtain ⟨σ2, eσ2⟩ : ∃ z, z = cu σ 7 x1.toNatClampNeg 2 := ⟨_, rfl⟩
  have hwp := hwp σ2 eσ2
  have hP : va_P D clA (cw a t σ2) H := by rw [eσ2]; exact hP
  have hD : va_D A (cw a t σ2) := by rw [eσ2]; exact hD
  refine lv_aload_n hx hb dLk_enter_7 rfl (lv_at hl 0 rfl) ?_
  refine lv_dup hx hb dLk_enter_8 rfl ?_
  refine va_get (D := D) (ci := 7) (C := RTk) (T := TTk) (N := 8) hx hb hts hinTk hown hK hP 11 rfl rfl 5 (by decide) lk15 (fun _ h9 => h9) rfl dLk_enter_9 ?_
  refine lv_iconst (v := 1) hx hb dLk_enter_12 (by decide) ?_
  refine lv_iadd hx hb dLk_enter_13 ?_
  refine va_put (ty := .int) (D := D) (ci := 7) (C := RTk) (T := TTk) (N := 8) hx hb hts hinTk tyTk tyTk_ok nmTk hown hK hP hD hS 11 rfl rfl 5 (by decide) lk15 (fun _ h9 => h9) rfl (by decide +kernel) rfl rfl (Nat.le_of_ble_eq_true rfl) dLk_enter_14 (fun H locs hP hD hS => ?_)
  obtain ⟨σ3, eσ3⟩ : ∃ z, z = cu σ2 8 0 ((σ2.1 8 0) + 1) := ⟨_, rfl⟩
  have hwp := hwp σ3 eσ3
  have hP : va_P D clA (cw a t σ3) H := by rw [eσ3]; exact hP
  have hD : va_D A (cw a t σ3) := by rw [eσ3]; exact hD
  exact W.vret hx hb hr (fun t ht hW => ⟨⟨σ3, rfl, hwp, uEnd ht hW hP hK hD hS hA⟩, hS.F ht⟩) hS.2.2 dLk_enter_17
-- NodeServices$Lock: int condition(int), on Tk
def wC_Tk_condition (a : Nat → Nat) (R : Int32 → CS → Prop) (σ : CS) (x1 : Int32) : Prop :=
  (vp_in x1 4 ∧ R (σ.1 7 x1.toNatClampNeg) σ)
abbrev rmC_Tk_condition : Room := { frames := 0, cells := 0, slots := 0, locals := 0 }
set_option maxHeartbeats 4000000 in
set_option maxRecDepth 100000 in
theorem kC_Tk_condition (l : Launch) (D : va_G) (a : Nat → Nat) (A : Nat → Prop) (t : Nat → ClassId) (σ : CS) (x1 : Int32) (R : Int32 → CS → Prop) (hwp : wC_Tk_condition a R σ x1) : Met l yLk_condition wsLk_condition rmC_Tk_condition (va_Pc [.ref (a 11), .int x1] (uI D clA (cT t) A true (cw a t) σ)) (va_Qi R (uI D clA (cT t) A true (cw a t)) A) 0 0 A := by
  refine Met.ofW (cc := cLk_condition) (maxL := 2) (ret := (some .int)) (by decide) rfl ?_
  intro p e s m args below meth c s₁ B hml hv
  obtain ⟨rfl, hP, hK, hD, hA⟩ := hv
  have hx := B.exec
  have hb := B.bytes
  have hr := B.returns
  have hts := atoms_spec (ws := wsLk_condition) B.pre
  have hown : s.vm.findClass RLk = some m.cls := findClass_of_methodNamed B.named
  have hlocks := B.notSynchronized
  have hinTk : ∀ w ∈ u_ws RTk TTk 8, w ∈ wsLk_condition := fun w h => List.mem_cons_of_mem _ (inTk w h)
  have lk9 := hts _ (List.mem_cons_of_mem _ wm_80)
  have hS : va_S A s.heap s.heap [] := va_S.rf
  have hl := lv_entry ([.ref (a 11), .int x1]) (n := 2) (Nat.le_of_ble_eq_true rfl)
  rw [lg_entry_eq]
  generalize (lg_sl ([.ref (a 11), .int x1]) ++ List.replicate (2 - (lg_sl ([.ref (a 11), .int x1])).length) Slot.unset).toArray = ls at hl ⊢
  have hl : lv_has ls 2 [(0, .ref (a 11)), (1, .int x1)] := hl
  refine lv_aload_n hx hb dLk_condition_0 rfl (lv_at hl 0 rfl) ?_
  refine va_get (D := D) (ci := 7) (C := RTk) (T := TTk) (N := 8) hx hb hts hinTk hown hK hP 11 rfl rfl 4 (by decide) lk9 (fun _ h9 => h9) rfl dLk_condition_1 ?_
  refine lv_iload_n hx hb dLk_condition_4 rfl (lv_at hl 1 rfl) ?_
  obtain ⟨hi1, hwp⟩ := hwp
  refine va_iald hx hb hK hP 12 0 rfl rfl hi1 dLk_condition_5 ?_
  exact W.iret (v := σ.1 7 x1.toNatClampNeg) hx hb hr (fun t ht hW => ⟨⟨σ.1 7 x1.toNatClampNeg, σ, rfl, hwp, uEnd ht hW hP hK hD hS hA⟩, hS.F ht⟩) hS.2.2 dLk_condition_6
-- NodeServices$Lock: void enter(int), on Tr
def wC_Tr_enter (a : Nat → Nat) (R : CS → Prop) (σ : CS) (x1 : Int32) : Prop :=
  (vp_in x1 4 ∧ (∀ σ2 : CS, σ2 = cu σ 15 x1.toNatClampNeg 2 → (∀ σ3 : CS, σ3 = cu σ2 16 0 ((σ2.1 16 0) + 1) → R σ3)))
abbrev rmC_Tr_enter : Room := { frames := 0, cells := 0, slots := 0, locals := 0 }
set_option maxHeartbeats 4000000 in
set_option maxRecDepth 100000 in
theorem kC_Tr_enter (l : Launch) (D : va_G) (a : Nat → Nat) (A : Nat → Prop) (t : Nat → ClassId) (σ : CS) (x1 : Int32) (R : CS → Prop) (hwp : wC_Tr_enter a R σ x1) : Met l yLk_enter wsLk_enter rmC_Tr_enter (va_Pc [.ref (a 19), .int x1] (uI D clA (cT t) A true (cw a t) σ)) (va_Qv R (uI D clA (cT t) A true (cw a t)) A) 0 0 A := by
  refine Met.ofW (cc := cLk_enter) (maxL := 2) (ret := none) (by decide) rfl ?_
  intro p e s m args below meth c s₁ B hml hv
  obtain ⟨rfl, hP, hK, hD, hA⟩ := hv
  have hx := B.exec
  have hb := B.bytes
  have hr := B.returns
  have hts := atoms_spec (ws := wsLk_enter) B.pre
  have hown : s.vm.findClass RLk = some m.cls := findClass_of_methodNamed B.named
  have hlocks := B.notSynchronized
  have hinTr : ∀ w ∈ u_ws RTr TTr 7, w ∈ wsLk_enter := fun w h => List.mem_cons_of_mem _ (inTr w h)
  have lk15 := hts _ (List.mem_cons_of_mem _ wm_88)
  have lk9 := hts _ (List.mem_cons_of_mem _ wm_80)
  have hS : va_S A s.heap s.heap [] := va_S.rf
  have hl := lv_entry ([.ref (a 19), .int x1]) (n := 2) (Nat.le_of_ble_eq_true rfl)
  rw [lg_entry_eq]
  generalize (lg_sl ([.ref (a 19), .int x1]) ++ List.replicate (2 - (lg_sl ([.ref (a 19), .int x1])).length) Slot.unset).toArray = ls at hl ⊢
  have hl : lv_has ls 2 [(0, .ref (a 19)), (1, .int x1)] := hl
  refine lv_aload_n hx hb dLk_enter_0 rfl (lv_at hl 0 rfl) ?_
  refine va_get (D := D) (ci := 8) (C := RTr) (T := TTr) (N := 7) hx hb hts hinTr hown hK hP 19 rfl rfl 3 (by decide) lk9 (fun _ h9 => h9) rfl dLk_enter_1 ?_
  refine lv_iload_n hx hb dLk_enter_4 rfl (lv_at hl 1 rfl) ?_
  refine lv_iconst (v := 2) hx hb dLk_enter_5 (by decide) ?_
  obtain ⟨hi1, hwp⟩ := hwp
  refine va_iast hx hb hK hP hD hS 20 0 rfl rfl hi1 dLk_enter_6 (fun H locs hP hD hS => ?_)
  obtain ⟨σ2, eσ2⟩ : ∃ z, z = cu σ 15 x1.toNatClampNeg 2 := ⟨_, rfl⟩
  have hwp := hwp σ2 eσ2
  have hP : va_P D clA (cw a t σ2) H := by rw [eσ2]; exact hP
  have hD : va_D A (cw a t σ2) := by rw [eσ2]; exact hD
  refine lv_aload_n hx hb dLk_enter_7 rfl (lv_at hl 0 rfl) ?_
  refine lv_dup hx hb dLk_enter_8 rfl ?_
  refine va_get (D := D) (ci := 8) (C := RTr) (T := TTr) (N := 7) hx hb hts hinTr hown hK hP 19 rfl rfl 4 (by decide) lk15 (fun _ h9 => h9) rfl dLk_enter_9 ?_
  refine lv_iconst (v := 1) hx hb dLk_enter_12 (by decide) ?_
  refine lv_iadd hx hb dLk_enter_13 ?_
  refine va_put (ty := .int) (D := D) (ci := 8) (C := RTr) (T := TTr) (N := 7) hx hb hts hinTr tyTr tyTr_ok nmTr hown hK hP hD hS 19 rfl rfl 4 (by decide) lk15 (fun _ h9 => h9) rfl (by decide +kernel) rfl rfl (Nat.le_of_ble_eq_true rfl) dLk_enter_14 (fun H locs hP hD hS => ?_)
  obtain ⟨σ3, eσ3⟩ : ∃ z, z = cu σ2 16 0 ((σ2.1 16 0) + 1) := ⟨_, rfl⟩
  have hwp := hwp σ3 eσ3
  have hP : va_P D clA (cw a t σ3) H := by rw [eσ3]; exact hP
  have hD : va_D A (cw a t σ3) := by rw [eσ3]; exact hD
  exact W.vret hx hb hr (fun t ht hW => ⟨⟨σ3, rfl, hwp, uEnd ht hW hP hK hD hS hA⟩, hS.F ht⟩) hS.2.2 dLk_enter_17
-- NodeServices$Lock: int condition(int), on Tr
def wC_Tr_condition (a : Nat → Nat) (R : Int32 → CS → Prop) (σ : CS) (x1 : Int32) : Prop :=
  (vp_in x1 4 ∧ R (σ.1 15 x1.toNatClampNeg) σ)
abbrev rmC_Tr_condition : Room := { frames := 0, cells := 0, slots := 0, locals := 0 }
set_option maxHeartbeats 4000000 in
set_option maxRecDepth 100000 in
theorem kC_Tr_condition (l : Launch) (D : va_G) (a : Nat → Nat) (A : Nat → Prop) (t : Nat → ClassId) (σ : CS) (x1 : Int32) (R : Int32 → CS → Prop) (hwp : wC_Tr_condition a R σ x1) : Met l yLk_condition wsLk_condition rmC_Tr_condition (va_Pc [.ref (a 19), .int x1] (uI D clA (cT t) A true (cw a t) σ)) (va_Qi R (uI D clA (cT t) A true (cw a t)) A) 0 0 A := by
  refine Met.ofW (cc := cLk_condition) (maxL := 2) (ret := (some .int)) (by decide) rfl ?_
  intro p e s m args below meth c s₁ B hml hv
  obtain ⟨rfl, hP, hK, hD, hA⟩ := hv
  have hx := B.exec
  have hb := B.bytes
  have hr := B.returns
  have hts := atoms_spec (ws := wsLk_condition) B.pre
  have hown : s.vm.findClass RLk = some m.cls := findClass_of_methodNamed B.named
  have hlocks := B.notSynchronized
  have hinTr : ∀ w ∈ u_ws RTr TTr 7, w ∈ wsLk_condition := fun w h => List.mem_cons_of_mem _ (inTr w h)
  have lk9 := hts _ (List.mem_cons_of_mem _ wm_80)
  have hS : va_S A s.heap s.heap [] := va_S.rf
  have hl := lv_entry ([.ref (a 19), .int x1]) (n := 2) (Nat.le_of_ble_eq_true rfl)
  rw [lg_entry_eq]
  generalize (lg_sl ([.ref (a 19), .int x1]) ++ List.replicate (2 - (lg_sl ([.ref (a 19), .int x1])).length) Slot.unset).toArray = ls at hl ⊢
  have hl : lv_has ls 2 [(0, .ref (a 19)), (1, .int x1)] := hl
  refine lv_aload_n hx hb dLk_condition_0 rfl (lv_at hl 0 rfl) ?_
  refine va_get (D := D) (ci := 8) (C := RTr) (T := TTr) (N := 7) hx hb hts hinTr hown hK hP 19 rfl rfl 3 (by decide) lk9 (fun _ h9 => h9) rfl dLk_condition_1 ?_
  refine lv_iload_n hx hb dLk_condition_4 rfl (lv_at hl 1 rfl) ?_
  obtain ⟨hi1, hwp⟩ := hwp
  refine va_iald hx hb hK hP 20 0 rfl rfl hi1 dLk_condition_5 ?_
  exact W.iret (v := σ.1 15 x1.toNatClampNeg) hx hb hr (fun t ht hW => ⟨⟨σ.1 15 x1.toNatClampNeg, σ, rfl, hwp, uEnd ht hW hP hK hD hS hA⟩, hS.F ht⟩) hS.2.2 dLk_condition_6
-- NodeServices$StampLock: int detail(int), on St
def wC_St_detail (a : Nat → Nat) (R : Int32 → CS → Prop) (σ : CS) (x1 : Int32) : Prop :=
  (vp_in x1 4 ∧ R (σ.1 3 x1.toNatClampNeg) σ)
abbrev wsSt_detail : List Cond := .code ySt_detail cSt_detail 2 (some .int) :: wg
abbrev rmC_St_detail : Room := { frames := 0, cells := 0, slots := 0, locals := 0 }
set_option maxHeartbeats 4000000 in
set_option maxRecDepth 100000 in
theorem kC_St_detail (l : Launch) (D : va_G) (a : Nat → Nat) (A : Nat → Prop) (t : Nat → ClassId) (σ : CS) (x1 : Int32) (R : Int32 → CS → Prop) (hwp : wC_St_detail a R σ x1) : Met l ySt_detail wsSt_detail rmC_St_detail (va_Pc [.ref (a 5), .int x1] (uI D clA (cT t) A true (cw a t) σ)) (va_Qi R (uI D clA (cT t) A true (cw a t)) A) 0 0 A := by
  refine Met.ofW (cc := cSt_detail) (maxL := 2) (ret := (some .int)) (by decide) rfl ?_
  intro p e s m args below meth c s₁ B hml hv
  obtain ⟨rfl, hP, hK, hD, hA⟩ := hv
  have hx := B.exec
  have hb := B.bytes
  have hr := B.returns
  have hts := atoms_spec (ws := wsSt_detail) B.pre
  have hown : s.vm.findClass RSt = some m.cls := findClass_of_methodNamed B.named
  have hlocks := B.notSynchronized
  have hinSt : ∀ w ∈ u_ws RSt TSt 8, w ∈ wsSt_detail := fun w h => List.mem_cons_of_mem _ (inSt w h)
  have lk9 := hts _ (List.mem_cons_of_mem _ wm_76)
  have hS : va_S A s.heap s.heap [] := va_S.rf
  have hl := lv_entry ([.ref (a 5), .int x1]) (n := 2) (Nat.le_of_ble_eq_true rfl)
  rw [lg_entry_eq]
  generalize (lg_sl ([.ref (a 5), .int x1]) ++ List.replicate (2 - (lg_sl ([.ref (a 5), .int x1])).length) Slot.unset).toArray = ls at hl ⊢
  have hl : lv_has ls 2 [(0, .ref (a 5)), (1, .int x1)] := hl
  refine lv_aload_n hx hb dSt_detail_0 rfl (lv_at hl 0 rfl) ?_
  refine va_get (D := D) (ci := 6) (C := RSt) (T := TSt) (N := 8) hx hb hts hinSt hown hK hP 5 rfl rfl 0 (by decide) lk9 (fun _ h9 => h9) rfl dSt_detail_1 ?_
  refine lv_iload_n hx hb dSt_detail_4 rfl (lv_at hl 1 rfl) ?_
  obtain ⟨hi1, hwp⟩ := hwp
  refine va_iald hx hb hK hP 7 0 rfl rfl hi1 dSt_detail_5 ?_
  exact W.iret (v := σ.1 3 x1.toNatClampNeg) hx hb hr (fun t ht hW => ⟨⟨σ.1 3 x1.toNatClampNeg, σ, rfl, hwp, uEnd ht hW hP hK hD hS hA⟩, hS.F ht⟩) hS.2.2 dSt_detail_6
-- NodeServices$StampLock: void ask(int), on St
def wC_St_ask (a : Nat → Nat) (R : CS → Prop) (σ : CS) (x1 : Int32) : Prop :=
  (vp_in x1 4 ∧ (vp_in x1 4 ∧ (∀ σ3 : CS, σ3 = cu σ 3 x1.toNatClampNeg ((σ.1 3 x1.toNatClampNeg) + 1) → (vp_in x1 4 ∧ (vp_in x1 4 ∧ (∀ σ6 : CS, σ6 = cu σ3 4 x1.toNatClampNeg (σ3.1 3 x1.toNatClampNeg) → (vp_in x1 4 ∧ (∀ σ8 : CS, σ8 = cu σ6 5 x1.toNatClampNeg 0 → (vp_in x1 4 ∧ (∀ σ10 : CS, σ10 = cu σ8 1 x1.toNatClampNeg 1 → (vp_in x1 4 ∧ (∃ P12 : CS → Prop, wC_St_sendToAllOthers a P12 σ10 x1 0 (σ10.1 4 x1.toNatClampNeg) ∧ (∀ (u13 : CS), P12 u13 → R u13)))))))))))))
abbrev wsSt_ask : List Cond := .code ySt_ask cSt_ask 2 none :: wg
abbrev rmC_St_ask : Room := { frames := 4, cells := 5, slots := 20, locals := 93 }
set_option maxHeartbeats 4000000 in
set_option maxRecDepth 100000 in
theorem kC_St_ask (l : Launch) (D : va_G) (a : Nat → Nat) (A : Nat → Prop) (t : Nat → ClassId) (σ : CS) (x1 : Int32) (R : CS → Prop) (hwp : wC_St_ask a R σ x1) : Met l ySt_ask wsSt_ask rmC_St_ask (va_Pc [.ref (a 5), .int x1] (uI D clA (cT t) A true (cw a t) σ)) (va_Qv R (uI D clA (cT t) A true (cw a t)) A) 5 20 A := by
  refine Met.ofW (cc := cSt_ask) (maxL := 2) (ret := none) (by decide) rfl ?_
  intro p e s m args below meth c s₁ B hml hv
  obtain ⟨rfl, hP, hK, hD, hA⟩ := hv
  have hx := B.exec
  have hb := B.bytes
  have hr := B.returns
  have hts := atoms_spec (ws := wsSt_ask) B.pre
  have hown : s.vm.findClass RSt = some m.cls := findClass_of_methodNamed B.named
  have hlocks := B.notSynchronized
  have hinSt : ∀ w ∈ u_ws RSt TSt 8, w ∈ wsSt_ask := fun w h => List.mem_cons_of_mem _ (inSt w h)
  have ksstate := hts _ (List.mem_cons_of_mem _ wm_87)
  have lk15 := hts _ (List.mem_cons_of_mem _ wm_77)
  have lk18 := hts _ (List.mem_cons_of_mem _ wm_78)
  have lk25 := hts _ (List.mem_cons_of_mem _ wm_86)
  have lk9 := hts _ (List.mem_cons_of_mem _ wm_76)
  have hS : va_S A s.heap s.heap [] := va_S.rf
  have hl := lv_entry ([.ref (a 5), .int x1]) (n := 2) (Nat.le_of_ble_eq_true rfl)
  rw [lg_entry_eq]
  generalize (lg_sl ([.ref (a 5), .int x1]) ++ List.replicate (2 - (lg_sl ([.ref (a 5), .int x1])).length) Slot.unset).toArray = ls at hl ⊢
  have hl : lv_has ls 2 [(0, .ref (a 5)), (1, .int x1)] := hl
  refine lv_aload_n hx hb dSt_ask_0 rfl (lv_at hl 0 rfl) ?_
  refine va_get (D := D) (ci := 6) (C := RSt) (T := TSt) (N := 8) hx hb hts hinSt hown hK hP 5 rfl rfl 0 (by decide) lk9 (fun _ h9 => h9) rfl dSt_ask_1 ?_
  refine lv_iload_n hx hb dSt_ask_4 rfl (lv_at hl 1 rfl) ?_
  refine lv_dup2_11 hx hb dSt_ask_5 rfl rfl ?_
  obtain ⟨hi1, hwp⟩ := hwp
  refine va_iald hx hb hK hP 7 0 rfl rfl hi1 dSt_ask_6 ?_
  refine lv_iconst (v := 1) hx hb dSt_ask_7 (by decide) ?_
  refine lv_iadd hx hb dSt_ask_8 ?_
  obtain ⟨hi2, hwp⟩ := hwp
  refine va_iast hx hb hK hP hD hS 7 0 rfl rfl hi2 dSt_ask_9 (fun H locs hP hD hS => ?_)
  obtain ⟨σ3, eσ3⟩ : ∃ z, z = cu σ 3 x1.toNatClampNeg ((σ.1 3 x1.toNatClampNeg) + 1) := ⟨_, rfl⟩
  have hwp := hwp σ3 eσ3
  have hP : va_P D clA (cw a t σ3) H := by rw [eσ3]; exact hP
  have hD : va_D A (cw a t σ3) := by rw [eσ3]; exact hD
  refine lv_aload_n hx hb dSt_ask_10 rfl (lv_at hl 0 rfl) ?_
  refine va_get (D := D) (ci := 6) (C := RSt) (T := TSt) (N := 8) hx hb hts hinSt hown hK hP 5 rfl rfl 1 (by decide) lk15 (fun _ h9 => h9) rfl dSt_ask_11 ?_
  refine lv_iload_n hx hb dSt_ask_14 rfl (lv_at hl 1 rfl) ?_
  refine lv_aload_n hx hb dSt_ask_15 rfl (lv_at hl 0 rfl) ?_
  refine va_get (D := D) (ci := 6) (C := RSt) (T := TSt) (N := 8) hx hb hts hinSt hown hK hP 5 rfl rfl 0 (by decide) lk9 (fun _ h9 => h9) rfl dSt_ask_16 ?_
  refine lv_iload_n hx hb dSt_ask_19 rfl (lv_at hl 1 rfl) ?_
  obtain ⟨hi4, hwp⟩ := hwp
  refine va_iald hx hb hK hP 7 0 rfl rfl hi4 dSt_ask_20 ?_
  obtain ⟨hi5, hwp⟩ := hwp
  refine va_iast hx hb hK hP hD hS 8 0 rfl rfl hi5 dSt_ask_21 (fun H locs hP hD hS => ?_)
  obtain ⟨σ6, eσ6⟩ : ∃ z, z = cu σ3 4 x1.toNatClampNeg (σ3.1 3 x1.toNatClampNeg) := ⟨_, rfl⟩
  have hwp := hwp σ6 eσ6
  have hP : va_P D clA (cw a t σ6) H := by rw [eσ6]; exact hP
  have hD : va_D A (cw a t σ6) := by rw [eσ6]; exact hD
  refine lv_aload_n hx hb dSt_ask_22 rfl (lv_at hl 0 rfl) ?_
  refine va_get (D := D) (ci := 6) (C := RSt) (T := TSt) (N := 8) hx hb hts hinSt hown hK hP 5 rfl rfl 2 (by decide) lk18 (fun _ h9 => h9) rfl dSt_ask_23 ?_
  refine lv_iload_n hx hb dSt_ask_26 rfl (lv_at hl 1 rfl) ?_
  refine lv_iconst (v := 0) hx hb dSt_ask_27 (by decide) ?_
  obtain ⟨hi7, hwp⟩ := hwp
  refine va_iast hx hb hK hP hD hS 9 0 rfl rfl hi7 dSt_ask_28 (fun H locs hP hD hS => ?_)
  obtain ⟨σ8, eσ8⟩ : ∃ z, z = cu σ6 5 x1.toNatClampNeg 0 := ⟨_, rfl⟩
  have hwp := hwp σ8 eσ8
  have hP : va_P D clA (cw a t σ8) H := by rw [eσ8]; exact hP
  have hD : va_D A (cw a t σ8) := by rw [eσ8]; exact hD
  refine lv_aload_n hx hb dSt_ask_29 rfl (lv_at hl 0 rfl) ?_
  refine va_get (D := D) (ci := 6) (C := RSt) (T := TSt) (N := 8) hx hb hts hinSt hown hK hP 5 rfl rfl 4 (by decide) lk25 (fun x9 h9 => u_same ksstate x9 h9) rfl dSt_ask_30 ?_
  refine lv_iload_n hx hb dSt_ask_33 rfl (lv_at hl 1 rfl) ?_
  refine lv_iconst (v := 1) hx hb dSt_ask_34 (by decide) ?_
  obtain ⟨hi9, hwp⟩ := hwp
  refine va_iast hx hb hK hP hD hS 6 0 rfl rfl hi9 dSt_ask_35 (fun H locs hP hD hS => ?_)
  obtain ⟨σ10, eσ10⟩ : ∃ z, z = cu σ8 1 x1.toNatClampNeg 1 := ⟨_, rfl⟩
  have hwp := hwp σ10 eσ10
  have hP : va_P D clA (cw a t σ10) H := by rw [eσ10]; exact hP
  have hD : va_D A (cw a t σ10) := by rw [eσ10]; exact hD
  refine lv_aload_n hx hb dSt_ask_36 rfl (lv_at hl 0 rfl) ?_
  refine lv_iload_n hx hb dSt_ask_37 rfl (lv_at hl 1 rfl) ?_
  refine lv_iconst (v := 0) hx hb dSt_ask_38 (by decide) ?_
  refine lv_aload_n hx hb dSt_ask_39 rfl (lv_at hl 0 rfl) ?_
  refine va_get (D := D) (ci := 6) (C := RSt) (T := TSt) (N := 8) hx hb hts hinSt hown hK hP 5 rfl rfl 1 (by decide) lk15 (fun _ h9 => h9) rfl dSt_ask_40 ?_
  refine lv_iload_n hx hb dSt_ask_43 rfl (lv_at hl 1 rfl) ?_
  obtain ⟨hi11, hwp⟩ := hwp
  refine va_iald hx hb hK hP 8 0 rfl rfl hi11 dSt_ask_44 ?_
  obtain ⟨P12, hP12, hwp⟩ := hwp
  refine uCallUv (As := [.int x1, .int 0, .int (σ10.1 4 x1.toNatClampNeg)]) (rest := []) (C := RSt) ⟨hx, hb, hml, hown, hts⟩ (kC_St_sendToAllOthers l D a A t   σ10 x1 0 (σ10.1 4 x1.toNatClampNeg) P12 hP12) (va_cwU (x := ⟨"NodeServices$StampLock", "sendToAllOthers", "(III)V"⟩) (owner := "NodeServices$Service") 3 hts (gdU wm_365 wm_366 wm_368 wm_369 wm_4 wm_370) rfl rfl rfl rfl (by decide +kernel) ⟨Nat.le_of_ble_eq_true rfl, Nat.le_of_ble_eq_true rfl⟩) (va_recv (ci := 6) (q0 := 5) hK hP rfl rfl) hP hK hD hA hS rfl hl.1 rfl (Nat.le_of_ble_eq_true rfl) dSt_ask_45 ⟨Nat.le_of_ble_eq_true rfl, Nat.le_of_ble_eq_true rfl⟩ (fun u13 H locs hu13 hP hD hS => ?_)
  have hwp := hwp u13 hu13
  exact W.vret hx hb hr (fun t ht hW => ⟨⟨u13, rfl, hwp, uEnd ht hW hP hK hD hS hA⟩, hS.F ht⟩) hS.2.2 dSt_ask_48
-- NodeServices$StampLock: void release(int), on St
def wC_St_release_46 (a : Nat → Nat) (K9 : CS → Int32 → Int32 → Prop) (R : CS → Prop) (σ : CS) (y1 : Int32) (y2 : Int32) : Prop :=
  K9 σ y1 (y2 + 1)
def wC_St_release_9_step (a : Nat → Nat) (K9 : CS → Int32 → Int32 → Prop) (R : CS → Prop) (σ : CS) (y1 : Int32) (y2 : Int32) : Prop :=
  (((4 ≤ y2) → R σ) ∧ ((¬ 4 ≤ y2) → (vp_in ((y1 * 4) + y2) 16 ∧ ((((σ.1 6 ((y1 * 4) + y2).toNatClampNeg) = 0) → wC_St_release_46 a K9 R σ y1 y2) ∧ ((¬ (σ.1 6 ((y1 * 4) + y2).toNatClampNeg) = 0) → (vp_in ((y1 * 4) + y2) 16 ∧ (∀ σ5 : CS, σ5 = cu σ 6 ((y1 * 4) + y2).toNatClampNeg (vp_nar .boolean 0) → (∃ P6 : CS → Prop, wC_St_send a P6 σ5 y1 y2 1 0 ∧ (∀ (u7 : CS), P6 u7 → wC_St_release_46 a K9 R u7 y1 y2)))))))))
def wC_St_release_9 (a : Nat → Nat) (R : CS → Prop) : Nat → CS → Int32 → Int32 → Prop
  | 0 => fun _ _ _ => False
  | k + 1 => fun σ y1 y2 => wC_St_release_9_step a (wC_St_release_9 a R k) R σ y1 y2
def wC_St_release (a : Nat → Nat) (R : CS → Prop) (σ : CS) (x1 : Int32) : Prop :=
  (vp_in x1 4 ∧ (∀ σ9 : CS, σ9 = cu σ 1 x1.toNatClampNeg 0 → wC_St_release_9 a R 5 σ9 x1 0))
abbrev wsSt_release : List Cond := .code ySt_release cSt_release 3 none :: wg
abbrev rmC_St_release : Room := { frames := 3, cells := 5, slots := 20, locals := 69 }
set_option maxHeartbeats 4000000 in
set_option maxRecDepth 100000 in
theorem kC_St_release (l : Launch) (D : va_G) (a : Nat → Nat) (A : Nat → Prop) (t : Nat → ClassId) (σ : CS) (x1 : Int32) (R : CS → Prop) (hwp : wC_St_release a R σ x1) : Met l ySt_release wsSt_release rmC_St_release (va_Pc [.ref (a 5), .int x1] (uI D clA (cT t) A true (cw a t) σ)) (va_Qv R (uI D clA (cT t) A true (cw a t)) A) 5 20 A := by
  refine Met.ofW (cc := cSt_release) (maxL := 3) (ret := none) (by decide) rfl ?_
  intro p e s m args below meth c s₁ B hml hv
  obtain ⟨rfl, hP, hK, hD, hA⟩ := hv
  have hx := B.exec
  have hb := B.bytes
  have hr := B.returns
  have hts := atoms_spec (ws := wsSt_release) B.pre
  have hown : s.vm.findClass RSt = some m.cls := findClass_of_methodNamed B.named
  have hlocks := B.notSynchronized
  have hinSt : ∀ w ∈ u_ws RSt TSt 8, w ∈ wsSt_release := fun w h => List.mem_cons_of_mem _ (inSt w h)
  have ksstate := hts _ (List.mem_cons_of_mem _ wm_87)
  have lk21 := hts _ (List.mem_cons_of_mem _ wm_79)
  have lk25 := hts _ (List.mem_cons_of_mem _ wm_86)
  have hS : va_S A s.heap s.heap [] := va_S.rf
  have cut9 : ∀ (k9 : Nat), k9 ≤ 5 → ∀ (σ : CS) (y1 : Int32) (y2 : Int32) (H : Heap) (locs : List Loc) (ls : Array Slot), wC_St_release_9 a R k9 σ y1 y2 → va_P D clA (cw a t σ) H → va_D A (cw a t σ) → va_S A s.heap H locs → lv_has ls 3 [(0, .ref (a 5)), (1, .int y1), (2, .int y2)] → W p l e (headSpec wsSt_release rmC_St_release).room s m ([.ref (a 5), .int x1] : List Value).toArray below meth c H locs (1 * (5 - k9)) (4 * (5 - k9)) (MQ below (va_Qv R (uI D clA (cT t) A true (cw a t)) A) ([.ref (a 5), .int x1] : List Value).toArray s 5 20 A) (F0 m 9 ls []) := by
    intro k9
    induction k9 with
    | zero => intro hk9 σ y1 y2 H locs ls hwp hP hD hS hl; exact False.elim hwp
    | succ k9 ih9 =>
      intro hk9 σ y1 y2 H locs ls hwp hP hD hS hl
      have cut46 : ∀ (σ : CS) (y1 : Int32) (y2 : Int32) (H : Heap) (locs : List Loc) (ls : Array Slot), wC_St_release_46 a (wC_St_release_9 a R k9) R σ y1 y2 → va_P D clA (cw a t σ) H → va_D A (cw a t σ) → va_S A s.heap H locs → lv_has ls 3 [(0, .ref (a 5)), (1, .int y1), (2, .int y2)] → W p l e (headSpec wsSt_release rmC_St_release).room s m ([.ref (a 5), .int x1] : List Value).toArray below meth c H locs (1 * (5 - k9)) (4 * (5 - k9)) (MQ below (va_Qv R (uI D clA (cT t) A true (cw a t)) A) ([.ref (a 5), .int x1] : List Value).toArray s 5 20 A) (F0 m 46 ls []) := by
        intro σ y1 y2 H locs ls hwp hP hD hS hl
        refine lv_iinc (k := 2) hx hb dSt_release_46 hl rfl (fx_inc1 _) (by decide) rfl (fun ls hl => ?_)
        have hl : lv_has ls 3 [(2, .int (y2 + 1)), (0, .ref (a 5)), (1, .int y1)] := hl
        refine lv_goto hx hb dSt_release_49 rfl ?_
        exact ih9 (by omega) σ y1 (y2 + 1) _ _ _ hwp hP hD hS (lv_sub hl [1, 2, 0] rfl)
      have hwp : wC_St_release_9_step a (wC_St_release_9 a R k9) R σ y1 y2 := hwp
      refine lv_iload_n hx hb dSt_release_9 rfl (lv_at hl 2 rfl) ?_
      refine lv_iconst (v := 4) hx hb dSt_release_10 (by decide) ?_
      refine lv_icmp_ge hx hb dSt_release_11 rfl (fun h1 => ?_) (fun h1 => ?_)
      · have hwp := hwp.1 h1
        refine W.widen (k := 5) (n := 20) (by omega) (by omega) ?_
        exact W.vret hx hb hr (fun t ht hW => ⟨⟨σ, rfl, hwp, uEnd ht hW hP hK hD hS hA⟩, hS.F ht⟩) hS.2.2 dSt_release_52
      · have hwp := hwp.2 h1
        refine lv_aload_n hx hb dSt_release_14 rfl (lv_at hl 0 rfl) ?_
        refine va_get (D := D) (ci := 6) (C := RSt) (T := TSt) (N := 8) hx hb hts hinSt hown hK hP 5 rfl rfl 3 (by decide) lk21 (fun _ h9 => h9) rfl dSt_release_15 ?_
        refine lv_iload_n hx hb dSt_release_18 rfl (lv_at hl 1 rfl) ?_
        refine lv_iconst (v := 4) hx hb dSt_release_19 (by decide) ?_
        refine lv_imul hx hb dSt_release_20 ?_
        refine lv_iload_n hx hb dSt_release_21 rfl (lv_at hl 2 rfl) ?_
        refine lv_iadd hx hb dSt_release_22 ?_
        obtain ⟨hi2, hwp⟩ := hwp
        refine va_zald hx hb hK hP 10 1 rfl rfl hi2 dSt_release_23 ?_
        refine lv_if_eq hx hb dSt_release_24 rfl (fun h3 => ?_) (fun h3 => ?_)
        · have hwp := hwp.1 h3
          refine W.widen (k := (1 * (5 - k9))) (n := (4 * (5 - k9))) (by omega) (by omega) ?_
          exact cut46 σ y1 y2 _ _ _ hwp hP hD hS (lv_sub hl [0, 1, 2] rfl)
        · have hwp := hwp.2 h3
          refine lv_aload_n hx hb dSt_release_27 rfl (lv_at hl 0 rfl) ?_
          refine va_get (D := D) (ci := 6) (C := RSt) (T := TSt) (N := 8) hx hb hts hinSt hown hK hP 5 rfl rfl 3 (by decide) lk21 (fun _ h9 => h9) rfl dSt_release_28 ?_
          refine lv_iload_n hx hb dSt_release_31 rfl (lv_at hl 1 rfl) ?_
          refine lv_iconst (v := 4) hx hb dSt_release_32 (by decide) ?_
          refine lv_imul hx hb dSt_release_33 ?_
          refine lv_iload_n hx hb dSt_release_34 rfl (lv_at hl 2 rfl) ?_
          refine lv_iadd hx hb dSt_release_35 ?_
          refine lv_iconst (v := 0) hx hb dSt_release_36 (by decide) ?_
          obtain ⟨hi4, hwp⟩ := hwp
          refine va_zast hx hb hK hP hD hS 10 1 rfl rfl hi4 dSt_release_37 (fun H locs hP hD hS => ?_)
          obtain ⟨σ5, eσ5⟩ : ∃ z, z = cu σ 6 ((y1 * 4) + y2).toNatClampNeg (vp_nar .boolean 0) := ⟨_, rfl⟩
          have hwp := hwp σ5 eσ5
          have hP : va_P D clA (cw a t σ5) H := by rw [eσ5]; exact hP
          have hD : va_D A (cw a t σ5) := by rw [eσ5]; exact hD
          refine lv_aload_n hx hb dSt_release_38 rfl (lv_at hl 0 rfl) ?_
          refine lv_iload_n hx hb dSt_release_39 rfl (lv_at hl 1 rfl) ?_
          refine lv_iload_n hx hb dSt_release_40 rfl (lv_at hl 2 rfl) ?_
          refine lv_iconst (v := 1) hx hb dSt_release_41 (by decide) ?_
          refine lv_iconst (v := 0) hx hb dSt_release_42 (by decide) ?_
          obtain ⟨P6, hP6, hwp⟩ := hwp
          refine uCallUv (As := [.int y1, .int y2, .int 1, .int 0]) (rest := []) (C := RSt) ⟨hx, hb, hml, hown, hts⟩ (kC_St_send l D a A t   σ5 y1 y2 1 0 P6 hP6) (va_cwU (x := ⟨"NodeServices$StampLock", "send", "(IIII)V"⟩) (owner := "NodeServices$Service") 4 hts (gdU wm_478 wm_479 wm_480 wm_372 wm_4 wm_379) rfl rfl rfl rfl (by decide +kernel) ⟨Nat.le_of_ble_eq_true rfl, Nat.le_of_ble_eq_true rfl⟩) (va_recv (ci := 6) (q0 := 5) hK hP rfl rfl) hP hK hD hA hS rfl hl.1 rfl (Nat.le_of_ble_eq_true rfl) dSt_release_43 ⟨by show (1 * (5 - (k9 + 1))) + 1 ≤ 5; omega, by show (4 * (5 - (k9 + 1))) + 4 ≤ 20; omega⟩ (fun u7 H locs hu7 hP hD hS => ?_)
          have hwp := hwp u7 hu7
          refine W.widen (k := (1 * (5 - k9))) (n := (4 * (5 - k9))) (by omega) (by omega) ?_
          exact cut46 u7 y1 y2 _ _ _ hwp hP hD hS (lv_sub hl [0, 1, 2] rfl)
  have hl := lv_entry ([.ref (a 5), .int x1]) (n := 3) (Nat.le_of_ble_eq_true rfl)
  rw [lg_entry_eq]
  generalize (lg_sl ([.ref (a 5), .int x1]) ++ List.replicate (3 - (lg_sl ([.ref (a 5), .int x1])).length) Slot.unset).toArray = ls at hl ⊢
  have hl : lv_has ls 3 [(0, .ref (a 5)), (1, .int x1)] := hl
  refine lv_aload_n hx hb dSt_release_0 rfl (lv_at hl 0 rfl) ?_
  refine va_get (D := D) (ci := 6) (C := RSt) (T := TSt) (N := 8) hx hb hts hinSt hown hK hP 5 rfl rfl 4 (by decide) lk25 (fun x9 h9 => u_same ksstate x9 h9) rfl dSt_release_1 ?_
  refine lv_iload_n hx hb dSt_release_4 rfl (lv_at hl 1 rfl) ?_
  refine lv_iconst (v := 0) hx hb dSt_release_5 (by decide) ?_
  obtain ⟨hi8, hwp⟩ := hwp
  refine va_iast hx hb hK hP hD hS 6 0 rfl rfl hi8 dSt_release_6 (fun H locs hP hD hS => ?_)
  obtain ⟨σ9, eσ9⟩ : ∃ z, z = cu σ 1 x1.toNatClampNeg 0 := ⟨_, rfl⟩
  have hwp := hwp σ9 eσ9
  have hP : va_P D clA (cw a t σ9) H := by rw [eσ9]; exact hP
  have hD : va_D A (cw a t σ9) := by rw [eσ9]; exact hD
  refine lv_iconst (v := 0) hx hb dSt_release_7 (by decide) ?_
  refine lv_istore_n hx hb dSt_release_8 rfl hl (by decide) rfl (fun ls hl => ?_)
  have hl : lv_has ls 3 [(2, .int 0), (0, .ref (a 5)), (1, .int x1)] := hl
  refine W.widen (k := (1 * (5 - 5))) (n := (4 * (5 - 5))) (by omega) (by omega) ?_
  exact cut9 5 (by omega) σ9 x1 0 _ _ _ hwp hP hD hS (lv_sub hl [1, 2, 0] rfl)
-- NodeServices$StampLock: private boolean isBefore(int, int, int), on St
def wC_St_isBefore_29 (a : Nat → Nat) (R : Int32 → CS → Prop) (σ : CS) (y1 : Int32) (y2 : Int32) (y3 : Int32) : Prop :=
  R 0 σ
def wC_St_isBefore_25 (a : Nat → Nat) (R : Int32 → CS → Prop) (σ : CS) (y1 : Int32) (y2 : Int32) (y3 : Int32) : Prop :=
  R 1 σ
def wC_St_isBefore (a : Nat → Nat) (R : Int32 → CS → Prop) (σ : CS) (x1 x2 x3 : Int32) : Prop :=
  (vp_in x1 4 ∧ ((((σ.1 4 x1.toNatClampNeg) < x3) → wC_St_isBefore_25 a R σ x1 x2 x3) ∧ ((¬ (σ.1 4 x1.toNatClampNeg) < x3) → (vp_in x1 4 ∧ (((¬ (σ.1 4 x1.toNatClampNeg) = x3) → wC_St_isBefore_29 a R σ x1 x2 x3) ∧ (((σ.1 4 x1.toNatClampNeg) = x3) → (((x2 ≤ x1) → wC_St_isBefore_29 a R σ x1 x2 x3) ∧ ((¬ x2 ≤ x1) → wC_St_isBefore_25 a R σ x1 x2 x3))))))))
abbrev wsSt_isBefore : List Cond := .code ySt_isBefore cSt_isBefore 4 (some .boolean) :: wg
abbrev rmC_St_isBefore : Room := { frames := 0, cells := 0, slots := 0, locals := 0 }
set_option maxHeartbeats 4000000 in
set_option maxRecDepth 100000 in
theorem kC_St_isBefore (l : Launch) (D : va_G) (a : Nat → Nat) (A : Nat → Prop) (t : Nat → ClassId) (σ : CS) (x1 x2 x3 : Int32) (R : Int32 → CS → Prop) (hwp : wC_St_isBefore a R σ x1 x2 x3) : Met l ySt_isBefore wsSt_isBefore rmC_St_isBefore (va_Pc [.ref (a 5), .int x1, .int x2, .int x3] (uI D clA (cT t) A true (cw a t) σ)) (va_Qi R (uI D clA (cT t) A true (cw a t)) A) 0 0 A := by
  refine Met.ofW (cc := cSt_isBefore) (maxL := 4) (ret := (some .boolean)) (by decide) rfl ?_
  intro p e s m args below meth c s₁ B hml hv
  obtain ⟨rfl, hP, hK, hD, hA⟩ := hv
  have hx := B.exec
  have hb := B.bytes
  have hr := B.returns
  have hts := atoms_spec (ws := wsSt_isBefore) B.pre
  have hown : s.vm.findClass RSt = some m.cls := findClass_of_methodNamed B.named
  have hlocks := B.notSynchronized
  have hinSt : ∀ w ∈ u_ws RSt TSt 8, w ∈ wsSt_isBefore := fun w h => List.mem_cons_of_mem _ (inSt w h)
  have lk15 := hts _ (List.mem_cons_of_mem _ wm_77)
  have hS : va_S A s.heap s.heap [] := va_S.rf
  have cut29 : ∀ (σ : CS) (y1 : Int32) (y2 : Int32) (y3 : Int32) (H : Heap) (locs : List Loc) (ls : Array Slot), wC_St_isBefore_29 a R σ y1 y2 y3 → va_P D clA (cw a t σ) H → va_D A (cw a t σ) → va_S A s.heap H locs → lv_has ls 4 [(0, .ref (a 5)), (1, .int y1), (2, .int y2), (3, .int y3)] → W p l e (headSpec wsSt_isBefore rmC_St_isBefore).room s m ([.ref (a 5), .int x1, .int x2, .int x3] : List Value).toArray below meth c H locs 0 0 (MQ below (va_Qi R (uI D clA (cT t) A true (cw a t)) A) ([.ref (a 5), .int x1, .int x2, .int x3] : List Value).toArray s 0 0 A) (F0 m 29 ls []) := by
    intro σ y1 y2 y3 H locs ls hwp hP hD hS hl
    refine lv_iconst (v := 0) hx hb dSt_isBefore_29 (by decide) ?_
    exact W.zret (v := 0) hx hb hr (by decide) (fun t ht hW => ⟨⟨0, σ, rfl, hwp, uEnd ht hW hP hK hD hS hA⟩, hS.F ht⟩) hS.2.2 dSt_isBefore_30
  have cut25 : ∀ (σ : CS) (y1 : Int32) (y2 : Int32) (y3 : Int32) (H : Heap) (locs : List Loc) (ls : Array Slot), wC_St_isBefore_25 a R σ y1 y2 y3 → va_P D clA (cw a t σ) H → va_D A (cw a t σ) → va_S A s.heap H locs → lv_has ls 4 [(0, .ref (a 5)), (1, .int y1), (2, .int y2), (3, .int y3)] → W p l e (headSpec wsSt_isBefore rmC_St_isBefore).room s m ([.ref (a 5), .int x1, .int x2, .int x3] : List Value).toArray below meth c H locs 0 0 (MQ below (va_Qi R (uI D clA (cT t) A true (cw a t)) A) ([.ref (a 5), .int x1, .int x2, .int x3] : List Value).toArray s 0 0 A) (F0 m 25 ls []) := by
    intro σ y1 y2 y3 H locs ls hwp hP hD hS hl
    refine lv_iconst (v := 1) hx hb dSt_isBefore_25 (by decide) ?_
    refine lv_goto hx hb dSt_isBefore_26 rfl ?_
    exact W.zret (v := 1) hx hb hr (by decide) (fun t ht hW => ⟨⟨1, σ, rfl, hwp, uEnd ht hW hP hK hD hS hA⟩, hS.F ht⟩) hS.2.2 dSt_isBefore_30
  have hl := lv_entry ([.ref (a 5), .int x1, .int x2, .int x3]) (n := 4) (Nat.le_of_ble_eq_true rfl)
  rw [lg_entry_eq]
  generalize (lg_sl ([.ref (a 5), .int x1, .int x2, .int x3]) ++ List.replicate (4 - (lg_sl ([.ref (a 5), .int x1, .int x2, .int x3])).length) Slot.unset).toArray = ls at hl ⊢
  have hl : lv_has ls 4 [(0, .ref (a 5)), (1, .int x1), (2, .int x2), (3, .int x3)] := hl
  refine lv_aload_n hx hb dSt_isBefore_0 rfl (lv_at hl 0 rfl) ?_
  refine va_get (D := D) (ci := 6) (C := RSt) (T := TSt) (N := 8) hx hb hts hinSt hown hK hP 5 rfl rfl 1 (by decide) lk15 (fun _ h9 => h9) rfl dSt_isBefore_1 ?_
  refine lv_iload_n hx hb dSt_isBefore_4 rfl (lv_at hl 1 rfl) ?_
  obtain ⟨hi1, hwp⟩ := hwp
  refine va_iald hx hb hK hP 8 0 rfl rfl hi1 dSt_isBefore_5 ?_
  refine lv_iload_n hx hb dSt_isBefore_6 rfl (lv_at hl 3 rfl) ?_
  refine lv_icmp_lt hx hb dSt_isBefore_7 rfl (fun h2 => ?_) (fun h2 => ?_)
  · have hwp := hwp.1 h2
    exact cut25 σ x1 x2 x3 _ _ _ hwp hP hD hS (lv_sub hl [0, 1, 2, 3] rfl)
  · have hwp := hwp.2 h2
    refine lv_aload_n hx hb dSt_isBefore_10 rfl (lv_at hl 0 rfl) ?_
    refine va_get (D := D) (ci := 6) (C := RSt) (T := TSt) (N := 8) hx hb hts hinSt hown hK hP 5 rfl rfl 1 (by decide) lk15 (fun _ h9 => h9) rfl dSt_isBefore_11 ?_
    refine lv_iload_n hx hb dSt_isBefore_14 rfl (lv_at hl 1 rfl) ?_
    obtain ⟨hi3, hwp⟩ := hwp
    refine va_iald hx hb hK hP 8 0 rfl rfl hi3 dSt_isBefore_15 ?_
    refine lv_iload_n hx hb dSt_isBefore_16 rfl (lv_at hl 3 rfl) ?_
    refine lv_icmp_ne hx hb dSt_isBefore_17 rfl (fun h4 => ?_) (fun h4 => ?_)
    · have hwp := hwp.1 h4
      exact cut29 σ x1 x2 x3 _ _ _ hwp hP hD hS (lv_sub hl [0, 1, 2, 3] rfl)
    · have hwp := hwp.2 h4
      refine lv_iload_n hx hb dSt_isBefore_20 rfl (lv_at hl 1 rfl) ?_
      refine lv_iload_n hx hb dSt_isBefore_21 rfl (lv_at hl 2 rfl) ?_
      refine lv_icmp_ge hx hb dSt_isBefore_22 rfl (fun h5 => ?_) (fun h5 => ?_)
      · have hwp := hwp.1 h5
        exact cut29 σ x1 x2 x3 _ _ _ hwp hP hD hS (lv_sub hl [0, 1, 2, 3] rfl)
      · have hwp := hwp.2 h5
        exact cut25 σ x1 x2 x3 _ _ _ hwp hP hD hS (lv_sub hl [0, 1, 2, 3] rfl)
-- NodeServices$StampLock: private void takeRequest(int, int, int), on St
def wC_St_takeRequest_60 (a : Nat → Nat) (R : CS → Prop) (σ : CS) (y1 : Int32) (y2 : Int32) (y3 : Int32) : Prop :=
  (∃ P1 : CS → Prop, wC_St_send a P1 σ y2 y1 1 0 ∧ (∀ (u2 : CS), P1 u2 → R u2))
def wC_St_takeRequest_46 (a : Nat → Nat) (R : CS → Prop) (σ : CS) (y1 : Int32) (y2 : Int32) (y3 : Int32) : Prop :=
  (vp_in ((y2 * 4) + y1) 16 ∧ (∀ σ4 : CS, σ4 = cu σ 6 ((y2 * 4) + y1).toNatClampNeg (vp_nar .boolean 1) → R σ4))
def wC_St_takeRequest (a : Nat → Nat) (R : CS → Prop) (σ : CS) (x1 x2 x3 : Int32) : Prop :=
  (vp_in x2 4 ∧ (vp_in x2 4 ∧ (∀ σ7 : CS, σ7 = cu σ 3 x2.toNatClampNeg (if (σ.1 3 x2.toNatClampNeg) < x3 then x3 else (σ.1 3 x2.toNatClampNeg)) → (vp_in x2 4 ∧ ((((σ7.1 1 x2.toNatClampNeg) = 2) → wC_St_takeRequest_46 a R σ7 x1 x2 x3) ∧ ((¬ (σ7.1 1 x2.toNatClampNeg) = 2) → (vp_in x2 4 ∧ (((¬ (σ7.1 1 x2.toNatClampNeg) = 1) → wC_St_takeRequest_60 a R σ7 x1 x2 x3) ∧ (((σ7.1 1 x2.toNatClampNeg) = 1) → (∃ P12 : Int32 → CS → Prop, wC_St_isBefore a P12 σ7 x2 x1 x3 ∧ (∀ (r14 : Int32) (u13 : CS), P12 r14 u13 → (((r14 = 0) → wC_St_takeRequest_60 a R u13 x1 x2 x3) ∧ ((¬ r14 = 0) → wC_St_takeRequest_46 a R u13 x1 x2 x3)))))))))))))
abbrev wsSt_takeRequest : List Cond := .code ySt_takeRequest cSt_takeRequest 4 none :: wg
abbrev rmC_St_takeRequest : Room := { frames := 3, cells := 1, slots := 4, locals := 69 }
set_option maxHeartbeats 4000000 in
set_option maxRecDepth 100000 in
theorem kC_St_takeRequest (l : Launch) (D : va_G) (a : Nat → Nat) (A : Nat → Prop) (t : Nat → ClassId) (σ : CS) (x1 x2 x3 : Int32) (R : CS → Prop) (hwp : wC_St_takeRequest a R σ x1 x2 x3) : Met l ySt_takeRequest wsSt_takeRequest rmC_St_takeRequest (va_Pc [.ref (a 5), .int x1, .int x2, .int x3] (uI D clA (cT t) A true (cw a t) σ)) (va_Qv R (uI D clA (cT t) A true (cw a t)) A) 1 4 A := by
  refine Met.ofW (cc := cSt_takeRequest) (maxL := 4) (ret := none) (by decide) rfl ?_
  intro p e s m args below meth c s₁ B hml hv
  obtain ⟨rfl, hP, hK, hD, hA⟩ := hv
  have hx := B.exec
  have hb := B.bytes
  have hr := B.returns
  have hts := atoms_spec (ws := wsSt_takeRequest) B.pre
  have hown : s.vm.findClass RSt = some m.cls := findClass_of_methodNamed B.named
  have hlocks := B.notSynchronized
  have hinSt : ∀ w ∈ u_ws RSt TSt 8, w ∈ wsSt_takeRequest := fun w h => List.mem_cons_of_mem _ (inSt w h)
  have ksstate := hts _ (List.mem_cons_of_mem _ wm_87)
  have lk21 := hts _ (List.mem_cons_of_mem _ wm_79)
  have lk25 := hts _ (List.mem_cons_of_mem _ wm_86)
  have lk9 := hts _ (List.mem_cons_of_mem _ wm_76)
  have hS : va_S A s.heap s.heap [] := va_S.rf
  have cut60 : ∀ (σ : CS) (y1 : Int32) (y2 : Int32) (y3 : Int32) (H : Heap) (locs : List Loc) (ls : Array Slot), wC_St_takeRequest_60 a R σ y1 y2 y3 → va_P D clA (cw a t σ) H → va_D A (cw a t σ) → va_S A s.heap H locs → lv_has ls 4 [(0, .ref (a 5)), (1, .int y1), (2, .int y2), (3, .int y3)] → W p l e (headSpec wsSt_takeRequest rmC_St_takeRequest).room s m ([.ref (a 5), .int x1, .int x2, .int x3] : List Value).toArray below meth c H locs 0 0 (MQ below (va_Qv R (uI D clA (cT t) A true (cw a t)) A) ([.ref (a 5), .int x1, .int x2, .int x3] : List Value).toArray s 1 4 A) (F0 m 60 ls []) := by
    intro σ y1 y2 y3 H locs ls hwp hP hD hS hl
    refine lv_aload_n hx hb dSt_takeRequest_60 rfl (lv_at hl 0 rfl) ?_
    refine lv_iload_n hx hb dSt_takeRequest_61 rfl (lv_at hl 2 rfl) ?_
    refine lv_iload_n hx hb dSt_takeRequest_62 rfl (lv_at hl 1 rfl) ?_
    refine lv_iconst (v := 1) hx hb dSt_takeRequest_63 (by decide) ?_
    refine lv_iconst (v := 0) hx hb dSt_takeRequest_64 (by decide) ?_
    obtain ⟨P1, hP1, hwp⟩ := hwp
    refine uCallUv (As := [.int y2, .int y1, .int 1, .int 0]) (rest := []) (C := RSt) ⟨hx, hb, hml, hown, hts⟩ (kC_St_send l D a A t   σ y2 y1 1 0 P1 hP1) (va_cwU (x := ⟨"NodeServices$StampLock", "send", "(IIII)V"⟩) (owner := "NodeServices$Service") 4 hts (gdU wm_478 wm_479 wm_480 wm_372 wm_4 wm_379) rfl rfl rfl rfl (by decide +kernel) ⟨Nat.le_of_ble_eq_true rfl, Nat.le_of_ble_eq_true rfl⟩) (va_recv (ci := 6) (q0 := 5) hK hP rfl rfl) hP hK hD hA hS rfl hl.1 rfl (Nat.le_of_ble_eq_true rfl) dSt_takeRequest_65 ⟨Nat.le_of_ble_eq_true rfl, Nat.le_of_ble_eq_true rfl⟩ (fun u2 H locs hu2 hP hD hS => ?_)
    have hwp := hwp u2 hu2
    exact W.vret hx hb hr (fun t ht hW => ⟨⟨u2, rfl, hwp, uEnd ht hW hP hK hD hS hA⟩, hS.F ht⟩) hS.2.2 dSt_takeRequest_68
  have cut46 : ∀ (σ : CS) (y1 : Int32) (y2 : Int32) (y3 : Int32) (H : Heap) (locs : List Loc) (ls : Array Slot), wC_St_takeRequest_46 a R σ y1 y2 y3 → va_P D clA (cw a t σ) H → va_D A (cw a t σ) → va_S A s.heap H locs → lv_has ls 4 [(0, .ref (a 5)), (1, .int y1), (2, .int y2), (3, .int y3)] → W p l e (headSpec wsSt_takeRequest rmC_St_takeRequest).room s m ([.ref (a 5), .int x1, .int x2, .int x3] : List Value).toArray below meth c H locs 0 0 (MQ below (va_Qv R (uI D clA (cT t) A true (cw a t)) A) ([.ref (a 5), .int x1, .int x2, .int x3] : List Value).toArray s 1 4 A) (F0 m 46 ls []) := by
    intro σ y1 y2 y3 H locs ls hwp hP hD hS hl
    refine lv_aload_n hx hb dSt_takeRequest_46 rfl (lv_at hl 0 rfl) ?_
    refine va_get (D := D) (ci := 6) (C := RSt) (T := TSt) (N := 8) hx hb hts hinSt hown hK hP 5 rfl rfl 3 (by decide) lk21 (fun _ h9 => h9) rfl dSt_takeRequest_47 ?_
    refine lv_iload_n hx hb dSt_takeRequest_50 rfl (lv_at hl 2 rfl) ?_
    refine lv_iconst (v := 4) hx hb dSt_takeRequest_51 (by decide) ?_
    refine lv_imul hx hb dSt_takeRequest_52 ?_
    refine lv_iload_n hx hb dSt_takeRequest_53 rfl (lv_at hl 1 rfl) ?_
    refine lv_iadd hx hb dSt_takeRequest_54 ?_
    refine lv_iconst (v := 1) hx hb dSt_takeRequest_55 (by decide) ?_
    obtain ⟨hi3, hwp⟩ := hwp
    refine va_zast hx hb hK hP hD hS 10 1 rfl rfl hi3 dSt_takeRequest_56 (fun H locs hP hD hS => ?_)
    obtain ⟨σ4, eσ4⟩ : ∃ z, z = cu σ 6 ((y2 * 4) + y1).toNatClampNeg (vp_nar .boolean 1) := ⟨_, rfl⟩
    have hwp := hwp σ4 eσ4
    have hP : va_P D clA (cw a t σ4) H := by rw [eσ4]; exact hP
    have hD : va_D A (cw a t σ4) := by rw [eσ4]; exact hD
    refine lv_goto hx hb dSt_takeRequest_57 rfl ?_
    refine W.widen (k := 1) (n := 4) (by omega) (by omega) ?_
    exact W.vret hx hb hr (fun t ht hW => ⟨⟨σ4, rfl, hwp, uEnd ht hW hP hK hD hS hA⟩, hS.F ht⟩) hS.2.2 dSt_takeRequest_68
  have hl := lv_entry ([.ref (a 5), .int x1, .int x2, .int x3]) (n := 4) (Nat.le_of_ble_eq_true rfl)
  rw [lg_entry_eq]
  generalize (lg_sl ([.ref (a 5), .int x1, .int x2, .int x3]) ++ List.replicate (4 - (lg_sl ([.ref (a 5), .int x1, .int x2, .int x3])).length) Slot.unset).toArray = ls at hl ⊢
  have hl : lv_has ls 4 [(0, .ref (a 5)), (1, .int x1), (2, .int x2), (3, .int x3)] := hl
  refine lv_aload_n hx hb dSt_takeRequest_0 rfl (lv_at hl 0 rfl) ?_
  refine va_get (D := D) (ci := 6) (C := RSt) (T := TSt) (N := 8) hx hb hts hinSt hown hK hP 5 rfl rfl 0 (by decide) lk9 (fun _ h9 => h9) rfl dSt_takeRequest_1 ?_
  refine lv_iload_n hx hb dSt_takeRequest_4 rfl (lv_at hl 2 rfl) ?_
  refine lv_aload_n hx hb dSt_takeRequest_5 rfl (lv_at hl 0 rfl) ?_
  refine va_get (D := D) (ci := 6) (C := RSt) (T := TSt) (N := 8) hx hb hts hinSt hown hK hP 5 rfl rfl 0 (by decide) lk9 (fun _ h9 => h9) rfl dSt_takeRequest_6 ?_
  refine lv_iload_n hx hb dSt_takeRequest_9 rfl (lv_at hl 2 rfl) ?_
  obtain ⟨hi5, hwp⟩ := hwp
  refine va_iald hx hb hK hP 7 0 rfl rfl hi5 dSt_takeRequest_10 ?_
  refine lv_iload_n hx hb dSt_takeRequest_11 rfl (lv_at hl 3 rfl) ?_
  refine va_mmax hx hb (hml.trans hl.1.symm) hown (hts _ (List.mem_cons_of_mem _ wm_634)) (hts _ (List.mem_cons_of_mem _ wm_635)) (hts _ (List.mem_cons_of_mem _ wm_11)) (hts _ (List.mem_cons_of_mem _ wm_636)) (Nat.le_of_ble_eq_true rfl) (Nat.le_of_ble_eq_true rfl) (Nat.le_of_ble_eq_true rfl) (Nat.le_of_ble_eq_true rfl) dSt_takeRequest_12 ?_
  obtain ⟨hi6, hwp⟩ := hwp
  refine va_iast hx hb hK hP hD hS 7 0 rfl rfl hi6 dSt_takeRequest_15 (fun H locs hP hD hS => ?_)
  obtain ⟨σ7, eσ7⟩ : ∃ z, z = cu σ 3 x2.toNatClampNeg (if (σ.1 3 x2.toNatClampNeg) < x3 then x3 else (σ.1 3 x2.toNatClampNeg)) := ⟨_, rfl⟩
  have hwp := hwp σ7 eσ7
  have hP : va_P D clA (cw a t σ7) H := by rw [eσ7]; exact hP
  have hD : va_D A (cw a t σ7) := by rw [eσ7]; exact hD
  refine lv_aload_n hx hb dSt_takeRequest_16 rfl (lv_at hl 0 rfl) ?_
  refine va_get (D := D) (ci := 6) (C := RSt) (T := TSt) (N := 8) hx hb hts hinSt hown hK hP 5 rfl rfl 4 (by decide) lk25 (fun x9 h9 => u_same ksstate x9 h9) rfl dSt_takeRequest_17 ?_
  refine lv_iload_n hx hb dSt_takeRequest_20 rfl (lv_at hl 2 rfl) ?_
  obtain ⟨hi8, hwp⟩ := hwp
  refine va_iald hx hb hK hP 6 0 rfl rfl hi8 dSt_takeRequest_21 ?_
  refine lv_iconst (v := 2) hx hb dSt_takeRequest_22 (by decide) ?_
  refine lv_icmp_eq hx hb dSt_takeRequest_23 rfl (fun h9 => ?_) (fun h9 => ?_)
  · have hwp := hwp.1 h9
    exact cut46 σ7 x1 x2 x3 _ _ _ hwp hP hD hS (lv_sub hl [0, 1, 2, 3] rfl)
  · have hwp := hwp.2 h9
    refine lv_aload_n hx hb dSt_takeRequest_26 rfl (lv_at hl 0 rfl) ?_
    refine va_get (D := D) (ci := 6) (C := RSt) (T := TSt) (N := 8) hx hb hts hinSt hown hK hP 5 rfl rfl 4 (by decide) lk25 (fun x9 h9 => u_same ksstate x9 h9) rfl dSt_takeRequest_27 ?_
    refine lv_iload_n hx hb dSt_takeRequest_30 rfl (lv_at hl 2 rfl) ?_
    obtain ⟨hi10, hwp⟩ := hwp
    refine va_iald hx hb hK hP 6 0 rfl rfl hi10 dSt_takeRequest_31 ?_
    refine lv_iconst (v := 1) hx hb dSt_takeRequest_32 (by decide) ?_
    refine lv_icmp_ne hx hb dSt_takeRequest_33 rfl (fun h11 => ?_) (fun h11 => ?_)
    · have hwp := hwp.1 h11
      exact cut60 σ7 x1 x2 x3 _ _ _ hwp hP hD hS (lv_sub hl [0, 1, 2, 3] rfl)
    · have hwp := hwp.2 h11
      refine lv_aload_n hx hb dSt_takeRequest_36 rfl (lv_at hl 0 rfl) ?_
      refine lv_iload_n hx hb dSt_takeRequest_37 rfl (lv_at hl 2 rfl) ?_
      refine lv_iload_n hx hb dSt_takeRequest_38 rfl (lv_at hl 1 rfl) ?_
      refine lv_iload_n hx hb dSt_takeRequest_39 rfl (lv_at hl 3 rfl) ?_
      obtain ⟨P12, hP12, hwp⟩ := hwp
      refine uCallVi (As := [.int x2, .int x1, .int x3]) (rest := []) (C := RSt) ⟨hx, hb, hml, hown, hts⟩ (kC_St_isBefore l D a A t   σ7 x2 x1 x3 P12 hP12) (cwV 3 hts (gdV wm_637 wm_639 wp_12 wm_6 wm_640) rfl rfl rfl (by decide +kernel) ⟨Nat.le_of_ble_eq_true rfl, Nat.le_of_ble_eq_true rfl⟩) (va_recv (ci := 6) (q0 := 5) hK hP rfl rfl) hP hK hD hA hS rfl hl.1 rfl (Nat.le_of_ble_eq_true rfl) dSt_takeRequest_40 ⟨Nat.le_of_ble_eq_true rfl, Nat.le_of_ble_eq_true rfl⟩ (fun r14 u13 H locs hu13 hP hD hS => ?_)
      have hwp := hwp r14 u13 hu13
      refine lv_if_eq hx hb dSt_takeRequest_43 rfl (fun h15 => ?_) (fun h15 => ?_)
      · have hwp := hwp.1 h15
        exact cut60 u13 x1 x2 x3 _ _ _ hwp hP hD hS (lv_sub hl [0, 1, 2, 3] rfl)
      · have hwp := hwp.2 h15
        exact cut46 u13 x1 x2 x3 _ _ _ hwp hP hD hS (lv_sub hl [0, 1, 2, 3] rfl)
-- NodeServices$StampLock: private void takeReply(int), on St
def wC_St_takeReply (a : Nat → Nat) (R : CS → Prop) (σ : CS) (x1 : Int32) : Prop :=
  (vp_in x1 4 ∧ (vp_in x1 4 ∧ (∀ σ3 : CS, σ3 = cu σ 5 x1.toNatClampNeg ((σ.1 5 x1.toNatClampNeg) + 1) → (vp_in x1 4 ∧ (((¬ (σ3.1 5 x1.toNatClampNeg) = 3) → R σ3) ∧ (((σ3.1 5 x1.toNatClampNeg) = 3) → (∃ P6 : CS → Prop, wC_St_enter a P6 σ3 x1 ∧ (∀ (u7 : CS), P6 u7 → R u7))))))))
abbrev wsSt_takeReply : List Cond := .code ySt_takeReply cSt_takeReply 2 none :: wg
abbrev rmC_St_takeReply : Room := { frames := 1, cells := 0, slots := 0, locals := 21 }
set_option maxHeartbeats 4000000 in
set_option maxRecDepth 100000 in
theorem kC_St_takeReply (l : Launch) (D : va_G) (a : Nat → Nat) (A : Nat → Prop) (t : Nat → ClassId) (σ : CS) (x1 : Int32) (R : CS → Prop) (hwp : wC_St_takeReply a R σ x1) : Met l ySt_takeReply wsSt_takeReply rmC_St_takeReply (va_Pc [.ref (a 5), .int x1] (uI D clA (cT t) A true (cw a t) σ)) (va_Qv R (uI D clA (cT t) A true (cw a t)) A) 0 0 A := by
  refine Met.ofW (cc := cSt_takeReply) (maxL := 2) (ret := none) (by decide) rfl ?_
  intro p e s m args below meth c s₁ B hml hv
  obtain ⟨rfl, hP, hK, hD, hA⟩ := hv
  have hx := B.exec
  have hb := B.bytes
  have hr := B.returns
  have hts := atoms_spec (ws := wsSt_takeReply) B.pre
  have hown : s.vm.findClass RSt = some m.cls := findClass_of_methodNamed B.named
  have hlocks := B.notSynchronized
  have hinSt : ∀ w ∈ u_ws RSt TSt 8, w ∈ wsSt_takeReply := fun w h => List.mem_cons_of_mem _ (inSt w h)
  have lk18 := hts _ (List.mem_cons_of_mem _ wm_78)
  have hS : va_S A s.heap s.heap [] := va_S.rf
  have hl := lv_entry ([.ref (a 5), .int x1]) (n := 2) (Nat.le_of_ble_eq_true rfl)
  rw [lg_entry_eq]
  generalize (lg_sl ([.ref (a 5), .int x1]) ++ List.replicate (2 - (lg_sl ([.ref (a 5), .int x1])).length) Slot.unset).toArray = ls at hl ⊢
  have hl : lv_has ls 2 [(0, .ref (a 5)), (1, .int x1)] := hl
  refine lv_aload_n hx hb dSt_takeReply_0 rfl (lv_at hl 0 rfl) ?_
  refine va_get (D := D) (ci := 6) (C := RSt) (T := TSt) (N := 8) hx hb hts hinSt hown hK hP 5 rfl rfl 2 (by decide) lk18 (fun _ h9 => h9) rfl dSt_takeReply_1 ?_
  refine lv_iload_n hx hb dSt_takeReply_4 rfl (lv_at hl 1 rfl) ?_
  refine lv_dup2_11 hx hb dSt_takeReply_5 rfl rfl ?_
  obtain ⟨hi1, hwp⟩ := hwp
  refine va_iald hx hb hK hP 9 0 rfl rfl hi1 dSt_takeReply_6 ?_
  refine lv_iconst (v := 1) hx hb dSt_takeReply_7 (by decide) ?_
  refine lv_iadd hx hb dSt_takeReply_8 ?_
  obtain ⟨hi2, hwp⟩ := hwp
  refine va_iast hx hb hK hP hD hS 9 0 rfl rfl hi2 dSt_takeReply_9 (fun H locs hP hD hS => ?_)
  obtain ⟨σ3, eσ3⟩ : ∃ z, z = cu σ 5 x1.toNatClampNeg ((σ.1 5 x1.toNatClampNeg) + 1) := ⟨_, rfl⟩
  have hwp := hwp σ3 eσ3
  have hP : va_P D clA (cw a t σ3) H := by rw [eσ3]; exact hP
  have hD : va_D A (cw a t σ3) := by rw [eσ3]; exact hD
  refine lv_aload_n hx hb dSt_takeReply_10 rfl (lv_at hl 0 rfl) ?_
  refine va_get (D := D) (ci := 6) (C := RSt) (T := TSt) (N := 8) hx hb hts hinSt hown hK hP 5 rfl rfl 2 (by decide) lk18 (fun _ h9 => h9) rfl dSt_takeReply_11 ?_
  refine lv_iload_n hx hb dSt_takeReply_14 rfl (lv_at hl 1 rfl) ?_
  obtain ⟨hi4, hwp⟩ := hwp
  refine va_iald hx hb hK hP 9 0 rfl rfl hi4 dSt_takeReply_15 ?_
  refine lv_iconst (v := 3) hx hb dSt_takeReply_16 (by decide) ?_
  refine lv_icmp_ne hx hb dSt_takeReply_17 rfl (fun h5 => ?_) (fun h5 => ?_)
  · have hwp := hwp.1 h5
    exact W.vret hx hb hr (fun t ht hW => ⟨⟨σ3, rfl, hwp, uEnd ht hW hP hK hD hS hA⟩, hS.F ht⟩) hS.2.2 dSt_takeReply_25
  · have hwp := hwp.2 h5
    refine lv_aload_n hx hb dSt_takeReply_20 rfl (lv_at hl 0 rfl) ?_
    refine lv_iload_n hx hb dSt_takeReply_21 rfl (lv_at hl 1 rfl) ?_
    obtain ⟨P6, hP6, hwp⟩ := hwp
    refine uCallUv (As := [.int x1]) (rest := []) (C := RSt) ⟨hx, hb, hml, hown, hts⟩ (kC_St_enter l D a A t   σ3 x1 P6 hP6) (va_cwU (x := ⟨"NodeServices$StampLock", "enter", "(I)V"⟩) (owner := "NodeServices$Lock") 1 hts (gdU wm_645 wm_646 wm_647 wm_429 wm_5 wm_430) rfl rfl rfl rfl (by decide +kernel) ⟨Nat.le_of_ble_eq_true rfl, Nat.le_of_ble_eq_true rfl⟩) (va_recv (ci := 6) (q0 := 5) hK hP rfl rfl) hP hK hD hA hS rfl hl.1 rfl (Nat.le_of_ble_eq_true rfl) dSt_takeReply_22 ⟨Nat.le_of_ble_eq_true rfl, Nat.le_of_ble_eq_true rfl⟩ (fun u7 H locs hu7 hP hD hS => ?_)
    have hwp := hwp u7 hu7
    exact W.vret hx hb hr (fun t ht hW => ⟨⟨u7, rfl, hwp, uEnd ht hW hP hK hD hS hA⟩, hS.F ht⟩) hS.2.2 dSt_takeReply_25
-- NodeServices$StampLock: void receive(int, int, NodeServices$Message), on St
def wC_St_receive (a : Nat → Nat) (q : Nat) (R : CS → Prop) (σ : CS) (x1 x2 : Int32) : Prop :=
  (q ∈ σ.2.2 ∧ (((¬ (σ.1 42 q) = 0) → (∃ P4 : CS → Prop, wC_St_takeReply a P4 σ x2 ∧ (∀ (u5 : CS), P4 u5 → R u5))) ∧ (((σ.1 42 q) = 0) → (q ∈ σ.2.2 ∧ (∃ P8 : CS → Prop, wC_St_takeRequest a P8 σ x1 x2 (σ.1 43 q) ∧ (∀ (u9 : CS), P8 u9 → R u9))))))
abbrev wsSt_receive : List Cond := .code ySt_receive cSt_receive 4 none :: wg
abbrev rmC_St_receive : Room := { frames := 4, cells := 1, slots := 4, locals := 92 }
set_option maxHeartbeats 4000000 in
set_option maxRecDepth 100000 in
theorem kC_St_receive (l : Launch) (D : va_G) (a : Nat → Nat) (A : Nat → Prop) (t : Nat → ClassId) (q : Nat) (σ : CS) (x1 x2 : Int32) (R : CS → Prop) (hwp : wC_St_receive a q R σ x1 x2) : Met l ySt_receive wsSt_receive rmC_St_receive (va_Pc [.ref (a 5), .int x1, .int x2, .ref q] (uI D clA (cT t) A true (cw a t) σ)) (va_Qv R (uI D clA (cT t) A true (cw a t)) A) 1 4 A := by
  refine Met.ofW (cc := cSt_receive) (maxL := 4) (ret := none) (by decide) rfl ?_
  intro p e s m args below meth c s₁ B hml hv
  obtain ⟨rfl, hP, hK, hD, hA⟩ := hv
  have hx := B.exec
  have hb := B.bytes
  have hr := B.returns
  have hts := atoms_spec (ws := wsSt_receive) B.pre
  have hown : s.vm.findClass RSt = some m.cls := findClass_of_methodNamed B.named
  have hlocks := B.notSynchronized
  have hinMs : ∀ w ∈ u_ws RMs TMs 4, w ∈ wsSt_receive := fun w h => List.mem_cons_of_mem _ (inMs w h)
  have lk36 := hts _ (List.mem_cons_of_mem _ wm_390)
  have lk42 := hts _ (List.mem_cons_of_mem _ wm_397)
  have hS : va_S A s.heap s.heap [] := va_S.rf
  have hl := lv_entry ([.ref (a 5), .int x1, .int x2, .ref q]) (n := 4) (Nat.le_of_ble_eq_true rfl)
  rw [lg_entry_eq]
  generalize (lg_sl ([.ref (a 5), .int x1, .int x2, .ref q]) ++ List.replicate (4 - (lg_sl ([.ref (a 5), .int x1, .int x2, .ref q])).length) Slot.unset).toArray = ls at hl ⊢
  have hl : lv_has ls 4 [(0, .ref (a 5)), (1, .int x1), (2, .int x2), (3, .ref q)] := hl
  refine lv_aload_n hx hb dSt_receive_0 rfl (lv_at hl 3 rfl) ?_
  obtain ⟨hm1, hwp⟩ := hwp
  obtain ⟨km2, hkm2⟩ := cw_ms (a := a) (t := t) hm1
  refine va_get (D := D) (ci := 4) (C := RMs) (T := TMs) (N := 4) hx hb hts hinMs hown hK hP km2 hkm2 rfl 1 (by decide) lk36 (fun _ h9 => h9) rfl dSt_receive_1 ?_
  refine lv_if_ne hx hb dSt_receive_4 rfl (fun h3 => ?_) (fun h3 => ?_)
  · have hwp := hwp.1 h3
    refine lv_aload_n hx hb dSt_receive_20 rfl (lv_at hl 0 rfl) ?_
    refine lv_iload_n hx hb dSt_receive_21 rfl (lv_at hl 2 rfl) ?_
    obtain ⟨P4, hP4, hwp⟩ := hwp
    refine uCallVv (As := [.int x2]) (rest := []) (C := RSt) ⟨hx, hb, hml, hown, hts⟩ (kC_St_takeReply l D a A t   σ x2 P4 hP4) (cwV 1 hts (gdV wm_641 wm_643 wp_13 wm_6 wm_644) rfl rfl rfl (by decide +kernel) ⟨Nat.le_of_ble_eq_true rfl, Nat.le_of_ble_eq_true rfl⟩) (va_recv (ci := 6) (q0 := 5) hK hP rfl rfl) hP hK hD hA hS rfl hl.1 rfl (Nat.le_of_ble_eq_true rfl) dSt_receive_22 ⟨Nat.le_of_ble_eq_true rfl, Nat.le_of_ble_eq_true rfl⟩ (fun u5 H locs hu5 hP hD hS => ?_)
    have hwp := hwp u5 hu5
    refine W.widen (k := 1) (n := 4) (by omega) (by omega) ?_
    exact W.vret hx hb hr (fun t ht hW => ⟨⟨u5, rfl, hwp, uEnd ht hW hP hK hD hS hA⟩, hS.F ht⟩) hS.2.2 dSt_receive_25
  · have hwp := hwp.2 h3
    refine lv_aload_n hx hb dSt_receive_7 rfl (lv_at hl 0 rfl) ?_
    refine lv_iload_n hx hb dSt_receive_8 rfl (lv_at hl 1 rfl) ?_
    refine lv_iload_n hx hb dSt_receive_9 rfl (lv_at hl 2 rfl) ?_
    refine lv_aload_n hx hb dSt_receive_10 rfl (lv_at hl 3 rfl) ?_
    obtain ⟨hm6, hwp⟩ := hwp
    obtain ⟨km7, hkm7⟩ := cw_ms (a := a) (t := t) hm6
    refine va_get (D := D) (ci := 4) (C := RMs) (T := TMs) (N := 4) hx hb hts hinMs hown hK hP km7 hkm7 rfl 2 (by decide) lk42 (fun _ h9 => h9) rfl dSt_receive_11 ?_
    obtain ⟨P8, hP8, hwp⟩ := hwp
    refine uCallVv (As := [.int x1, .int x2, .int (σ.1 43 q)]) (rest := []) (C := RSt) ⟨hx, hb, hml, hown, hts⟩ (kC_St_takeRequest l D a A t   σ x1 x2 (σ.1 43 q) P8 hP8) (cwV 3 hts (gdV wm_630 wm_632 wp_11 wm_6 wm_633) rfl rfl rfl (by decide +kernel) ⟨Nat.le_of_ble_eq_true rfl, Nat.le_of_ble_eq_true rfl⟩) (va_recv (ci := 6) (q0 := 5) hK hP rfl rfl) hP hK hD hA hS rfl hl.1 rfl (Nat.le_of_ble_eq_true rfl) dSt_receive_14 ⟨Nat.le_of_ble_eq_true rfl, Nat.le_of_ble_eq_true rfl⟩ (fun u9 H locs hu9 hP hD hS => ?_)
    have hwp := hwp u9 hu9
    refine lv_goto hx hb dSt_receive_17 rfl ?_
    exact W.vret hx hb hr (fun t ht hW => ⟨⟨u9, rfl, hwp, uEnd ht hW hP hK hD hS hA⟩, hS.F ht⟩) hS.2.2 dSt_receive_25
-- NodeServices$TokenLock: int detail(int), on Tk
def wC_Tk_detail (a : Nat → Nat) (R : Int32 → CS → Prop) (σ : CS) (x1 : Int32) : Prop :=
  (vp_in x1 4 ∧ (vp_in x1 4 ∧ R (σ.1 (10 + x1.toNatClampNeg) x1.toNatClampNeg) σ))
abbrev wsTk_detail : List Cond := .code yTk_detail cTk_detail 2 (some .int) :: wg
abbrev rmC_Tk_detail : Room := { frames := 0, cells := 0, slots := 0, locals := 0 }
set_option maxHeartbeats 4000000 in
set_option maxRecDepth 100000 in
theorem kC_Tk_detail (l : Launch) (D : va_G) (a : Nat → Nat) (A : Nat → Prop) (t : Nat → ClassId) (σ : CS) (x1 : Int32) (R : Int32 → CS → Prop) (hwp : wC_Tk_detail a R σ x1) : Met l yTk_detail wsTk_detail rmC_Tk_detail (va_Pc [.ref (a 11), .int x1] (uI D clA (cT t) A true (cw a t) σ)) (va_Qi R (uI D clA (cT t) A true (cw a t)) A) 0 0 A := by
  refine Met.ofW (cc := cTk_detail) (maxL := 2) (ret := (some .int)) (by decide) rfl ?_
  intro p e s m args below meth c s₁ B hml hv
  obtain ⟨rfl, hP, hK, hD, hA⟩ := hv
  have hx := B.exec
  have hb := B.bytes
  have hr := B.returns
  have hts := atoms_spec (ws := wsTk_detail) B.pre
  have hown : s.vm.findClass RTk = some m.cls := findClass_of_methodNamed B.named
  have hlocks := B.notSynchronized
  have hinTk : ∀ w ∈ u_ws RTk TTk 8, w ∈ wsTk_detail := fun w h => List.mem_cons_of_mem _ (inTk w h)
  have lk11 := hts _ (List.mem_cons_of_mem _ wm_132)
  have hS : va_S A s.heap s.heap [] := va_S.rf
  have hl := lv_entry ([.ref (a 11), .int x1]) (n := 2) (Nat.le_of_ble_eq_true rfl)
  rw [lg_entry_eq]
  generalize (lg_sl ([.ref (a 11), .int x1]) ++ List.replicate (2 - (lg_sl ([.ref (a 11), .int x1])).length) Slot.unset).toArray = ls at hl ⊢
  have hl : lv_has ls 2 [(0, .ref (a 11)), (1, .int x1)] := hl
  refine lv_aload_n hx hb dTk_detail_0 rfl (lv_at hl 0 rfl) ?_
  refine va_get (D := D) (ci := 7) (C := RTk) (T := TTk) (N := 8) hx hb hts hinTk hown hK hP 11 rfl rfl 0 (by decide) lk11 (fun _ h9 => h9) rfl dTk_detail_1 ?_
  refine lv_iload_n hx hb dTk_detail_4 rfl (lv_at hl 1 rfl) ?_
  obtain ⟨hi1, hwp⟩ := hwp
  refine fx_aldA hx hb hK hP 13 6 rfl rfl rfl hi1 dTk_detail_5 ?_
  refine W.eq (g2 := F0 m 6 ls [.ref (a (14 + x1.toNatClampNeg))]) rfl ?_
  refine lv_iload_n hx hb dTk_detail_6 rfl (lv_at hl 1 rfl) ?_
  obtain ⟨hi2, hwp⟩ := hwp
  refine va_iald hx hb hK hP (14 + x1.toNatClampNeg) 0 (cw_kn (fx_lt hi1)) rfl hi2 dTk_detail_7 ?_
  exact W.iret (v := σ.1 (10 + x1.toNatClampNeg) x1.toNatClampNeg) hx hb hr (fun t ht hW => ⟨⟨σ.1 (10 + x1.toNatClampNeg) x1.toNatClampNeg, σ, rfl, hwp, uEnd ht hW hP hK hD hS hA⟩, hS.F ht⟩) hS.2.2 dTk_detail_8
-- NodeServices$TokenLock: void ask(int), on Tk
def wC_Tk_ask (a : Nat → Nat) (R : CS → Prop) (σ : CS) (x1 : Int32) : Prop :=
  (((¬ (σ.1 9 0) = x1) → (vp_in x1 4 ∧ (vp_in x1 4 ∧ (vp_in x1 4 ∧ (∀ σ5 : CS, σ5 = cu σ (10 + x1.toNatClampNeg) x1.toNatClampNeg ((σ.1 (10 + x1.toNatClampNeg) x1.toNatClampNeg) + 1) → (vp_in x1 4 ∧ (∀ σ7 : CS, σ7 = cu σ5 7 x1.toNatClampNeg 1 → (vp_in x1 4 ∧ (vp_in x1 4 ∧ (∃ P10 : CS → Prop, wC_Tk_sendToAllOthers a P10 σ7 x1 0 (σ7.1 (10 + x1.toNatClampNeg) x1.toNatClampNeg) ∧ (∀ (u11 : CS), P10 u11 → R u11))))))))))) ∧ (((σ.1 9 0) = x1) → (∃ P12 : CS → Prop, wC_Tk_enter a P12 σ x1 ∧ (∀ (u13 : CS), P12 u13 → R u13))))
abbrev wsTk_ask : List Cond := .code yTk_ask cTk_ask 2 none :: wg
abbrev rmC_Tk_ask : Room := { frames := 4, cells := 5, slots := 20, locals := 93 }
set_option maxHeartbeats 4000000 in
set_option maxRecDepth 100000 in
theorem kC_Tk_ask (l : Launch) (D : va_G) (a : Nat → Nat) (A : Nat → Prop) (t : Nat → ClassId) (σ : CS) (x1 : Int32) (R : CS → Prop) (hwp : wC_Tk_ask a R σ x1) : Met l yTk_ask wsTk_ask rmC_Tk_ask (va_Pc [.ref (a 11), .int x1] (uI D clA (cT t) A true (cw a t) σ)) (va_Qv R (uI D clA (cT t) A true (cw a t)) A) 5 20 A := by
  refine Met.ofW (cc := cTk_ask) (maxL := 2) (ret := none) (by decide) rfl ?_
  intro p e s m args below meth c s₁ B hml hv
  obtain ⟨rfl, hP, hK, hD, hA⟩ := hv
  have hx := B.exec
  have hb := B.bytes
  have hr := B.returns
  have hts := atoms_spec (ws := wsTk_ask) B.pre
  have hown : s.vm.findClass RTk = some m.cls := findClass_of_methodNamed B.named
  have hlocks := B.notSynchronized
  have hinTk : ∀ w ∈ u_ws RTk TTk 8, w ∈ wsTk_ask := fun w h => List.mem_cons_of_mem _ (inTk w h)
  have ksstate := hts _ (List.mem_cons_of_mem _ wm_85)
  have lk11 := hts _ (List.mem_cons_of_mem _ wm_132)
  have lk29 := hts _ (List.mem_cons_of_mem _ wm_135)
  have lk37 := hts _ (List.mem_cons_of_mem _ wm_84)
  have hS : va_S A s.heap s.heap [] := va_S.rf
  have hl := lv_entry ([.ref (a 11), .int x1]) (n := 2) (Nat.le_of_ble_eq_true rfl)
  rw [lg_entry_eq]
  generalize (lg_sl ([.ref (a 11), .int x1]) ++ List.replicate (2 - (lg_sl ([.ref (a 11), .int x1])).length) Slot.unset).toArray = ls at hl ⊢
  have hl : lv_has ls 2 [(0, .ref (a 11)), (1, .int x1)] := hl
  refine lv_aload_n hx hb dTk_ask_0 rfl (lv_at hl 0 rfl) ?_
  refine va_get (D := D) (ci := 7) (C := RTk) (T := TTk) (N := 8) hx hb hts hinTk hown hK hP 11 rfl rfl 3 (by decide) lk29 (fun _ h9 => h9) rfl dTk_ask_1 ?_
  refine lv_iload_n hx hb dTk_ask_4 rfl (lv_at hl 1 rfl) ?_
  refine lv_icmp_ne hx hb dTk_ask_5 rfl (fun h1 => ?_) (fun h1 => ?_)
  · have hwp := hwp.1 h1
    refine lv_aload_n hx hb dTk_ask_14 rfl (lv_at hl 0 rfl) ?_
    refine va_get (D := D) (ci := 7) (C := RTk) (T := TTk) (N := 8) hx hb hts hinTk hown hK hP 11 rfl rfl 0 (by decide) lk11 (fun _ h9 => h9) rfl dTk_ask_15 ?_
    refine lv_iload_n hx hb dTk_ask_18 rfl (lv_at hl 1 rfl) ?_
    obtain ⟨hi2, hwp⟩ := hwp
    refine fx_aldA hx hb hK hP 13 6 rfl rfl rfl hi2 dTk_ask_19 ?_
    refine W.eq (g2 := F0 m 20 ls [.ref (a (14 + x1.toNatClampNeg))]) rfl ?_
    refine lv_iload_n hx hb dTk_ask_20 rfl (lv_at hl 1 rfl) ?_
    refine lv_dup2_11 hx hb dTk_ask_21 rfl rfl ?_
    obtain ⟨hi3, hwp⟩ := hwp
    refine va_iald hx hb hK hP (14 + x1.toNatClampNeg) 0 (cw_kn (fx_lt hi2)) rfl hi3 dTk_ask_22 ?_
    refine lv_iconst (v := 1) hx hb dTk_ask_23 (by decide) ?_
    refine lv_iadd hx hb dTk_ask_24 ?_
    obtain ⟨hi4, hwp⟩ := hwp
    refine va_iast hx hb hK hP hD hS (14 + x1.toNatClampNeg) 0 (cw_kn (fx_lt hi2)) rfl hi4 dTk_ask_25 (fun H locs hP hD hS => ?_)
    obtain ⟨σ5, eσ5⟩ : ∃ z, z = cu σ (10 + x1.toNatClampNeg) x1.toNatClampNeg ((σ.1 (10 + x1.toNatClampNeg) x1.toNatClampNeg) + 1) := ⟨_, rfl⟩
    have hwp := hwp σ5 eσ5
    have hP : va_P D clA (cw a t σ5) H := by rw [eσ5, ← cw_kn1 (a := a) (t := t) (σ := σ) (fx_lt hi2) x1.toNatClampNeg ((σ.1 (10 + x1.toNatClampNeg) x1.toNatClampNeg) + 1)]; exact hP
    have hD : va_D A (cw a t σ5) := by rw [eσ5, ← cw_kn1 (a := a) (t := t) (σ := σ) (fx_lt hi2) x1.toNatClampNeg ((σ.1 (10 + x1.toNatClampNeg) x1.toNatClampNeg) + 1)]; exact hD
    refine lv_aload_n hx hb dTk_ask_26 rfl (lv_at hl 0 rfl) ?_
    refine va_get (D := D) (ci := 7) (C := RTk) (T := TTk) (N := 8) hx hb hts hinTk hown hK hP 11 rfl rfl 4 (by decide) lk37 (fun x9 h9 => u_same ksstate x9 h9) rfl dTk_ask_27 ?_
    refine lv_iload_n hx hb dTk_ask_30 rfl (lv_at hl 1 rfl) ?_
    refine lv_iconst (v := 1) hx hb dTk_ask_31 (by decide) ?_
    obtain ⟨hi6, hwp⟩ := hwp
    refine va_iast hx hb hK hP hD hS 12 0 rfl rfl hi6 dTk_ask_32 (fun H locs hP hD hS => ?_)
    obtain ⟨σ7, eσ7⟩ : ∃ z, z = cu σ5 7 x1.toNatClampNeg 1 := ⟨_, rfl⟩
    have hwp := hwp σ7 eσ7
    have hP : va_P D clA (cw a t σ7) H := by rw [eσ7]; exact hP
    have hD : va_D A (cw a t σ7) := by rw [eσ7]; exact hD
    refine lv_aload_n hx hb dTk_ask_33 rfl (lv_at hl 0 rfl) ?_
    refine lv_iload_n hx hb dTk_ask_34 rfl (lv_at hl 1 rfl) ?_
    refine lv_iconst (v := 0) hx hb dTk_ask_35 (by decide) ?_
    refine lv_aload_n hx hb dTk_ask_36 rfl (lv_at hl 0 rfl) ?_
    refine va_get (D := D) (ci := 7) (C := RTk) (T := TTk) (N := 8) hx hb hts hinTk hown hK hP 11 rfl rfl 0 (by decide) lk11 (fun _ h9 => h9) rfl dTk_ask_37 ?_
    refine lv_iload_n hx hb dTk_ask_40 rfl (lv_at hl 1 rfl) ?_
    obtain ⟨hi8, hwp⟩ := hwp
    refine fx_aldA hx hb hK hP 13 6 rfl rfl rfl hi8 dTk_ask_41 ?_
    refine W.eq (g2 := F0 m 42 ls [.ref (a (14 + x1.toNatClampNeg)), .int 0, .int x1, .ref (a 11)]) rfl ?_
    refine lv_iload_n hx hb dTk_ask_42 rfl (lv_at hl 1 rfl) ?_
    obtain ⟨hi9, hwp⟩ := hwp
    refine va_iald hx hb hK hP (14 + x1.toNatClampNeg) 0 (cw_kn (fx_lt hi8)) rfl hi9 dTk_ask_43 ?_
    obtain ⟨P10, hP10, hwp⟩ := hwp
    refine uCallUv (As := [.int x1, .int 0, .int (σ7.1 (10 + x1.toNatClampNeg) x1.toNatClampNeg)]) (rest := []) (C := RTk) ⟨hx, hb, hml, hown, hts⟩ (kC_Tk_sendToAllOthers l D a A t   σ7 x1 0 (σ7.1 (10 + x1.toNatClampNeg) x1.toNatClampNeg) P10 hP10) (va_cwU (x := ⟨"NodeServices$TokenLock", "sendToAllOthers", "(III)V"⟩) (owner := "NodeServices$Service") 3 hts (gdU wm_431 wm_432 wm_433 wm_369 wm_4 wm_370) rfl rfl rfl rfl (by decide +kernel) ⟨Nat.le_of_ble_eq_true rfl, Nat.le_of_ble_eq_true rfl⟩) (va_recv (ci := 7) (q0 := 11) hK hP rfl rfl) hP hK hD hA hS rfl hl.1 rfl (Nat.le_of_ble_eq_true rfl) dTk_ask_44 ⟨Nat.le_of_ble_eq_true rfl, Nat.le_of_ble_eq_true rfl⟩ (fun u11 H locs hu11 hP hD hS => ?_)
    have hwp := hwp u11 hu11
    exact W.vret hx hb hr (fun t ht hW => ⟨⟨u11, rfl, hwp, uEnd ht hW hP hK hD hS hA⟩, hS.F ht⟩) hS.2.2 dTk_ask_47
  · have hwp := hwp.2 h1
    refine lv_aload_n hx hb dTk_ask_8 rfl (lv_at hl 0 rfl) ?_
    refine lv_iload_n hx hb dTk_ask_9 rfl (lv_at hl 1 rfl) ?_
    obtain ⟨P12, hP12, hwp⟩ := hwp
    refine uCallUv (As := [.int x1]) (rest := []) (C := RTk) ⟨hx, hb, hml, hown, hts⟩ (kC_Tk_enter l D a A t   σ x1 P12 hP12) (va_cwU (x := ⟨"NodeServices$TokenLock", "enter", "(I)V"⟩) (owner := "NodeServices$Lock") 1 hts (gdU wm_425 wm_426 wm_428 wm_429 wm_5 wm_430) rfl rfl rfl rfl (by decide +kernel) ⟨Nat.le_of_ble_eq_true rfl, Nat.le_of_ble_eq_true rfl⟩) (va_recv (ci := 7) (q0 := 11) hK hP rfl rfl) hP hK hD hA hS rfl hl.1 rfl (Nat.le_of_ble_eq_true rfl) dTk_ask_10 ⟨Nat.le_of_ble_eq_true rfl, Nat.le_of_ble_eq_true rfl⟩ (fun u13 H locs hu13 hP hD hS => ?_)
    have hwp := hwp u13 hu13
    refine W.widen (k := 5) (n := 20) (by omega) (by omega) ?_
    exact W.vret hx hb hr (fun t ht hW => ⟨⟨u13, rfl, hwp, uEnd ht hW hP hK hD hS hA⟩, hS.F ht⟩) hS.2.2 dTk_ask_13
-- NodeServices$TokenLock: private boolean isOwed(int, int), on Tk
def wC_Tk_isOwed (a : Nat → Nat) (R : Int32 → CS → Prop) (σ : CS) (x1 x2 : Int32) : Prop :=
  (vp_in x1 4 ∧ (vp_in x2 4 ∧ (vp_in x2 4 ∧ (((¬ (σ.1 (10 + x1.toNatClampNeg) x2.toNatClampNeg) = ((σ.1 14 x2.toNatClampNeg) + 1)) → R 0 σ) ∧ (((σ.1 (10 + x1.toNatClampNeg) x2.toNatClampNeg) = ((σ.1 14 x2.toNatClampNeg) + 1)) → R 1 σ)))))
abbrev wsTk_isOwed : List Cond := .code yTk_isOwed cTk_isOwed 3 (some .boolean) :: wg
abbrev rmC_Tk_isOwed : Room := { frames := 0, cells := 0, slots := 0, locals := 0 }
set_option maxHeartbeats 4000000 in
set_option maxRecDepth 100000 in
theorem kC_Tk_isOwed (l : Launch) (D : va_G) (a : Nat → Nat) (A : Nat → Prop) (t : Nat → ClassId) (σ : CS) (x1 x2 : Int32) (R : Int32 → CS → Prop) (hwp : wC_Tk_isOwed a R σ x1 x2) : Met l yTk_isOwed wsTk_isOwed rmC_Tk_isOwed (va_Pc [.ref (a 11), .int x1, .int x2] (uI D clA (cT t) A true (cw a t) σ)) (va_Qi R (uI D clA (cT t) A true (cw a t)) A) 0 0 A := by
  refine Met.ofW (cc := cTk_isOwed) (maxL := 3) (ret := (some .boolean)) (by decide) rfl ?_
  intro p e s m args below meth c s₁ B hml hv
  obtain ⟨rfl, hP, hK, hD, hA⟩ := hv
  have hx := B.exec
  have hb := B.bytes
  have hr := B.returns
  have hts := atoms_spec (ws := wsTk_isOwed) B.pre
  have hown : s.vm.findClass RTk = some m.cls := findClass_of_methodNamed B.named
  have hlocks := B.notSynchronized
  have hinTk : ∀ w ∈ u_ws RTk TTk 8, w ∈ wsTk_isOwed := fun w h => List.mem_cons_of_mem _ (inTk w h)
  have lk11 := hts _ (List.mem_cons_of_mem _ wm_132)
  have lk16 := hts _ (List.mem_cons_of_mem _ wm_133)
  have hS : va_S A s.heap s.heap [] := va_S.rf
  have hl := lv_entry ([.ref (a 11), .int x1, .int x2]) (n := 3) (Nat.le_of_ble_eq_true rfl)
  rw [lg_entry_eq]
  generalize (lg_sl ([.ref (a 11), .int x1, .int x2]) ++ List.replicate (3 - (lg_sl ([.ref (a 11), .int x1, .int x2])).length) Slot.unset).toArray = ls at hl ⊢
  have hl : lv_has ls 3 [(0, .ref (a 11)), (1, .int x1), (2, .int x2)] := hl
  refine lv_aload_n hx hb dTk_isOwed_0 rfl (lv_at hl 0 rfl) ?_
  refine va_get (D := D) (ci := 7) (C := RTk) (T := TTk) (N := 8) hx hb hts hinTk hown hK hP 11 rfl rfl 0 (by decide) lk11 (fun _ h9 => h9) rfl dTk_isOwed_1 ?_
  refine lv_iload_n hx hb dTk_isOwed_4 rfl (lv_at hl 1 rfl) ?_
  obtain ⟨hi1, hwp⟩ := hwp
  refine fx_aldA hx hb hK hP 13 6 rfl rfl rfl hi1 dTk_isOwed_5 ?_
  refine W.eq (g2 := F0 m 6 ls [.ref (a (14 + x1.toNatClampNeg))]) rfl ?_
  refine lv_iload_n hx hb dTk_isOwed_6 rfl (lv_at hl 2 rfl) ?_
  obtain ⟨hi2, hwp⟩ := hwp
  refine va_iald hx hb hK hP (14 + x1.toNatClampNeg) 0 (cw_kn (fx_lt hi1)) rfl hi2 dTk_isOwed_7 ?_
  refine lv_aload_n hx hb dTk_isOwed_8 rfl (lv_at hl 0 rfl) ?_
  refine va_get (D := D) (ci := 7) (C := RTk) (T := TTk) (N := 8) hx hb hts hinTk hown hK hP 11 rfl rfl 1 (by decide) lk16 (fun _ h9 => h9) rfl dTk_isOwed_9 ?_
  refine lv_iload_n hx hb dTk_isOwed_12 rfl (lv_at hl 2 rfl) ?_
  obtain ⟨hi3, hwp⟩ := hwp
  refine va_iald hx hb hK hP 18 0 rfl rfl hi3 dTk_isOwed_13 ?_
  refine lv_iconst (v := 1) hx hb dTk_isOwed_14 (by decide) ?_
  refine lv_iadd hx hb dTk_isOwed_15 ?_
  refine lv_icmp_ne hx hb dTk_isOwed_16 rfl (fun h4 => ?_) (fun h4 => ?_)
  · have hwp := hwp.1 h4
    refine lv_iconst (v := 0) hx hb dTk_isOwed_23 (by decide) ?_
    exact W.zret (v := 0) hx hb hr (by decide) (fun t ht hW => ⟨⟨0, σ, rfl, hwp, uEnd ht hW hP hK hD hS hA⟩, hS.F ht⟩) hS.2.2 dTk_isOwed_24
  · have hwp := hwp.2 h4
    refine lv_iconst (v := 1) hx hb dTk_isOwed_19 (by decide) ?_
    refine lv_goto hx hb dTk_isOwed_20 rfl ?_
    exact W.zret (v := 1) hx hb hr (by decide) (fun t ht hW => ⟨⟨1, σ, rfl, hwp, uEnd ht hW hP hK hD hS hA⟩, hS.F ht⟩) hS.2.2 dTk_isOwed_24
-- NodeServices$TokenLock: private void passToken(int, int), on Tk
def wC_Tk_passToken (a : Nat → Nat) (R : CS → Prop) (σ : CS) (x1 x2 : Int32) : Prop :=
  (∀ σ1 : CS, σ1 = cu σ 9 0 (-1) → (∃ P2 : CS → Prop, wC_Tk_send a P2 σ1 x1 x2 1 0 ∧ (∀ (u3 : CS), P2 u3 → R u3)))
abbrev wsTk_passToken : List Cond := .code yTk_passToken cTk_passToken 3 none :: wg
abbrev rmC_Tk_passToken : Room := { frames := 3, cells := 1, slots := 4, locals := 69 }
set_option maxHeartbeats 4000000 in
set_option maxRecDepth 100000 in
theorem kC_Tk_passToken (l : Launch) (D : va_G) (a : Nat → Nat) (A : Nat → Prop) (t : Nat → ClassId) (σ : CS) (x1 x2 : Int32) (R : CS → Prop) (hwp : wC_Tk_passToken a R σ x1 x2) : Met l yTk_passToken wsTk_passToken rmC_Tk_passToken (va_Pc [.ref (a 11), .int x1, .int x2] (uI D clA (cT t) A true (cw a t) σ)) (va_Qv R (uI D clA (cT t) A true (cw a t)) A) 1 4 A := by
  refine Met.ofW (cc := cTk_passToken) (maxL := 3) (ret := none) (by decide) rfl ?_
  intro p e s m args below meth c s₁ B hml hv
  obtain ⟨rfl, hP, hK, hD, hA⟩ := hv
  have hx := B.exec
  have hb := B.bytes
  have hr := B.returns
  have hts := atoms_spec (ws := wsTk_passToken) B.pre
  have hown : s.vm.findClass RTk = some m.cls := findClass_of_methodNamed B.named
  have hlocks := B.notSynchronized
  have hinTk : ∀ w ∈ u_ws RTk TTk 8, w ∈ wsTk_passToken := fun w h => List.mem_cons_of_mem _ (inTk w h)
  have lk29 := hts _ (List.mem_cons_of_mem _ wm_135)
  have hS : va_S A s.heap s.heap [] := va_S.rf
  have hl := lv_entry ([.ref (a 11), .int x1, .int x2]) (n := 3) (Nat.le_of_ble_eq_true rfl)
  rw [lg_entry_eq]
  generalize (lg_sl ([.ref (a 11), .int x1, .int x2]) ++ List.replicate (3 - (lg_sl ([.ref (a 11), .int x1, .int x2])).length) Slot.unset).toArray = ls at hl ⊢
  have hl : lv_has ls 3 [(0, .ref (a 11)), (1, .int x1), (2, .int x2)] := hl
  refine lv_aload_n hx hb dTk_passToken_0 rfl (lv_at hl 0 rfl) ?_
  refine lv_iconst (v := (-1)) hx hb dTk_passToken_1 (by decide) ?_
  refine va_put (ty := .int) (D := D) (ci := 7) (C := RTk) (T := TTk) (N := 8) hx hb hts hinTk tyTk tyTk_ok nmTk hown hK hP hD hS 11 rfl rfl 3 (by decide) lk29 (fun _ h9 => h9) rfl (by decide +kernel) rfl rfl (Nat.le_of_ble_eq_true rfl) dTk_passToken_2 (fun H locs hP hD hS => ?_)
  obtain ⟨σ1, eσ1⟩ : ∃ z, z = cu σ 9 0 (-1) := ⟨_, rfl⟩
  have hwp := hwp σ1 eσ1
  have hP : va_P D clA (cw a t σ1) H := by rw [eσ1]; exact hP
  have hD : va_D A (cw a t σ1) := by rw [eσ1]; exact hD
  refine lv_aload_n hx hb dTk_passToken_5 rfl (lv_at hl 0 rfl) ?_
  refine lv_iload_n hx hb dTk_passToken_6 rfl (lv_at hl 1 rfl) ?_
  refine lv_iload_n hx hb dTk_passToken_7 rfl (lv_at hl 2 rfl) ?_
  refine lv_iconst (v := 1) hx hb dTk_passToken_8 (by decide) ?_
  refine lv_iconst (v := 0) hx hb dTk_passToken_9 (by decide) ?_
  obtain ⟨P2, hP2, hwp⟩ := hwp
  refine uCallUv (As := [.int x1, .int x2, .int 1, .int 0]) (rest := []) (C := RTk) ⟨hx, hb, hml, hown, hts⟩ (kC_Tk_send l D a A t   σ1 x1 x2 1 0 P2 hP2) (va_cwU (x := ⟨"NodeServices$TokenLock", "send", "(IIII)V"⟩) (owner := "NodeServices$Service") 4 hts (gdU wm_499 wm_500 wm_501 wm_372 wm_4 wm_379) rfl rfl rfl rfl (by decide +kernel) ⟨Nat.le_of_ble_eq_true rfl, Nat.le_of_ble_eq_true rfl⟩) (va_recv (ci := 7) (q0 := 11) hK hP rfl rfl) hP hK hD hA hS rfl hl.1 rfl (Nat.le_of_ble_eq_true rfl) dTk_passToken_10 ⟨Nat.le_of_ble_eq_true rfl, Nat.le_of_ble_eq_true rfl⟩ (fun u3 H locs hu3 hP hD hS => ?_)
  have hwp := hwp u3 hu3
  exact W.vret hx hb hr (fun t ht hW => ⟨⟨u3, rfl, hwp, uEnd ht hW hP hK hD hS hA⟩, hS.F ht⟩) hS.2.2 dTk_passToken_13
-- NodeServices$TokenLock: void release(int), on Tk
def wC_Tk_release_56 (a : Nat → Nat) (K23 : CS → Int32 → Int32 → Prop) (R : CS → Prop) (σ : CS) (y1 : Int32) (y2 : Int32) : Prop :=
  K23 σ y1 (y2 + 1)
def wC_Tk_release_23_step (a : Nat → Nat) (K23 : CS → Int32 → Int32 → Prop) (R : CS → Prop) (σ : CS) (y1 : Int32) (y2 : Int32) : Prop :=
  (((4 ≤ y2) → (∃ P2 : Int32 → CS → Prop, wC_Ro_isEmpty a 4 P2 σ ∧ (∀ (r4 : Int32) (u3 : CS), P2 r4 u3 → (((¬ r4 = 0) → R u3) ∧ ((r4 = 0) → (∃ P6 : Int32 → CS → Prop, wC_Ro_takeHead a 4 P6 u3 ∧ (∀ (r8 : Int32) (u7 : CS), P6 r8 u7 → (∃ P9 : CS → Prop, wC_Tk_passToken a P9 u7 y1 r8 ∧ (∀ (u10 : CS), P9 u10 → R u10))))))))) ∧ ((¬ 4 ≤ y2) → (∃ P11 : Int32 → CS → Prop, wC_Ro_contains a 4 P11 σ y2 ∧ (∀ (r13 : Int32) (u12 : CS), P11 r13 u12 → (((¬ r13 = 0) → wC_Tk_release_56 a K23 R u12 y1 y2) ∧ ((r13 = 0) → (∃ P15 : Int32 → CS → Prop, wC_Tk_isOwed a P15 u12 y1 y2 ∧ (∀ (r17 : Int32) (u16 : CS), P15 r17 u16 → (((r17 = 0) → wC_Tk_release_56 a K23 R u16 y1 y2) ∧ ((¬ r17 = 0) → (∃ P19 : CS → Prop, wC_Ro_append a 4 P19 u16 y2 ∧ (∀ (u20 : CS), P19 u20 → wC_Tk_release_56 a K23 R u20 y1 y2))))))))))))
def wC_Tk_release_23 (a : Nat → Nat) (R : CS → Prop) : Nat → CS → Int32 → Int32 → Prop
  | 0 => fun _ _ _ => False
  | k + 1 => fun σ y1 y2 => wC_Tk_release_23_step a (wC_Tk_release_23 a R k) R σ y1 y2
def wC_Tk_release (a : Nat → Nat) (R : CS → Prop) (σ : CS) (x1 : Int32) : Prop :=
  (vp_in x1 4 ∧ (∀ σ22 : CS, σ22 = cu σ 7 x1.toNatClampNeg 0 → (vp_in x1 4 ∧ (vp_in x1 4 ∧ (vp_in x1 4 ∧ (∀ σ26 : CS, σ26 = cu σ22 14 x1.toNatClampNeg (σ22.1 (10 + x1.toNatClampNeg) x1.toNatClampNeg) → wC_Tk_release_23 a R 5 σ26 x1 0))))))
abbrev wsTk_release : List Cond := .code yTk_release cTk_release 3 none :: wg
abbrev rmC_Tk_release : Room := { frames := 4, cells := 1, slots := 4, locals := 91 }
set_option maxHeartbeats 4000000 in
set_option maxRecDepth 100000 in
theorem kC_Tk_release (l : Launch) (D : va_G) (a : Nat → Nat) (A : Nat → Prop) (t : Nat → ClassId) (σ : CS) (x1 : Int32) (R : CS → Prop) (hwp : wC_Tk_release a R σ x1) : Met l yTk_release wsTk_release rmC_Tk_release (va_Pc [.ref (a 11), .int x1] (uI D clA (cT t) A true (cw a t) σ)) (va_Qv R (uI D clA (cT t) A true (cw a t)) A) 1 4 A := by
  refine Met.ofW (cc := cTk_release) (maxL := 3) (ret := none) (by decide) rfl ?_
  intro p e s m args below meth c s₁ B hml hv
  obtain ⟨rfl, hP, hK, hD, hA⟩ := hv
  have hx := B.exec
  have hb := B.bytes
  have hr := B.returns
  have hts := atoms_spec (ws := wsTk_release) B.pre
  have hown : s.vm.findClass RTk = some m.cls := findClass_of_methodNamed B.named
  have hlocks := B.notSynchronized
  have hinTk : ∀ w ∈ u_ws RTk TTk 8, w ∈ wsTk_release := fun w h => List.mem_cons_of_mem _ (inTk w h)
  have ksstate := hts _ (List.mem_cons_of_mem _ wm_85)
  have lk11 := hts _ (List.mem_cons_of_mem _ wm_132)
  have lk16 := hts _ (List.mem_cons_of_mem _ wm_133)
  have lk25 := hts _ (List.mem_cons_of_mem _ wm_134)
  have lk37 := hts _ (List.mem_cons_of_mem _ wm_84)
  have hS : va_S A s.heap s.heap [] := va_S.rf
  have cut23 : ∀ (k23 : Nat) (σ : CS) (y1 : Int32) (y2 : Int32) (H : Heap) (locs : List Loc) (ls : Array Slot), wC_Tk_release_23 a R k23 σ y1 y2 → va_P D clA (cw a t σ) H → va_D A (cw a t σ) → va_S A s.heap H locs → lv_has ls 3 [(0, .ref (a 11)), (1, .int y1), (2, .int y2)] → W p l e (headSpec wsTk_release rmC_Tk_release).room s m ([.ref (a 11), .int x1] : List Value).toArray below meth c H locs 0 0 (MQ below (va_Qv R (uI D clA (cT t) A true (cw a t)) A) ([.ref (a 11), .int x1] : List Value).toArray s 1 4 A) (F0 m 23 ls []) := by
    intro k23
    induction k23 with
    | zero => intro σ y1 y2 H locs ls hwp hP hD hS hl; exact False.elim hwp
    | succ k23 ih23 =>
      intro σ y1 y2 H locs ls hwp hP hD hS hl
      have cut56 : ∀ (σ : CS) (y1 : Int32) (y2 : Int32) (H : Heap) (locs : List Loc) (ls : Array Slot), wC_Tk_release_56 a (wC_Tk_release_23 a R k23) R σ y1 y2 → va_P D clA (cw a t σ) H → va_D A (cw a t σ) → va_S A s.heap H locs → lv_has ls 3 [(0, .ref (a 11)), (1, .int y1), (2, .int y2)] → W p l e (headSpec wsTk_release rmC_Tk_release).room s m ([.ref (a 11), .int x1] : List Value).toArray below meth c H locs 0 0 (MQ below (va_Qv R (uI D clA (cT t) A true (cw a t)) A) ([.ref (a 11), .int x1] : List Value).toArray s 1 4 A) (F0 m 56 ls []) := by
        intro σ y1 y2 H locs ls hwp hP hD hS hl
        refine lv_iinc (k := 2) hx hb dTk_release_56 hl rfl (fx_inc1 _) (by decide) rfl (fun ls hl => ?_)
        have hl : lv_has ls 3 [(2, .int (y2 + 1)), (0, .ref (a 11)), (1, .int y1)] := hl
        refine lv_goto hx hb dTk_release_59 rfl ?_
        exact ih23 σ y1 (y2 + 1) _ _ _ hwp hP hD hS (lv_sub hl [1, 2, 0] rfl)
      have hwp : wC_Tk_release_23_step a (wC_Tk_release_23 a R k23) R σ y1 y2 := hwp
      refine lv_iload_n hx hb dTk_release_23 rfl (lv_at hl 2 rfl) ?_
      refine lv_iconst (v := 4) hx hb dTk_release_24 (by decide) ?_
      refine lv_icmp_ge hx hb dTk_release_25 rfl (fun h1 => ?_) (fun h1 => ?_)
      · have hwp := hwp.1 h1
        refine lv_aload_n hx hb dTk_release_62 rfl (lv_at hl 0 rfl) ?_
        refine va_get (D := D) (ci := 7) (C := RTk) (T := TTk) (N := 8) hx hb hts hinTk hown hK hP 11 rfl rfl 2 (by decide) lk25 (fun _ h9 => h9) rfl dTk_release_63 ?_
        obtain ⟨P2, hP2, hwp⟩ := hwp
        refine uCallVi (As := []) (rest := []) (C := RRo) ⟨hx, hb, hml, hown, hts⟩ (kC_Ro_isEmpty l D a A t 4 (by decide) σ  P2 hP2) (cwV 0 hts (gdV wm_493 wm_446 wm_447 wm_8 wm_448) rfl rfl rfl (by decide +kernel) ⟨Nat.le_of_ble_eq_true rfl, Nat.le_of_ble_eq_true rfl⟩) (va_recv (ci := 5) (q0 := (25 + 4)) hK hP rfl (cw_ro (by decide))) hP hK hD hA hS rfl hl.1 rfl (Nat.le_of_ble_eq_true rfl) dTk_release_66 ⟨Nat.le_of_ble_eq_true rfl, Nat.le_of_ble_eq_true rfl⟩ (fun r4 u3 H locs hu3 hP hD hS => ?_)
        have hwp := hwp r4 u3 hu3
        refine lv_if_ne hx hb dTk_release_69 rfl (fun h5 => ?_) (fun h5 => ?_)
        · have hwp := hwp.1 h5
          refine W.widen (k := 1) (n := 4) (by omega) (by omega) ?_
          exact W.vret hx hb hr (fun t ht hW => ⟨⟨u3, rfl, hwp, uEnd ht hW hP hK hD hS hA⟩, hS.F ht⟩) hS.2.2 dTk_release_84
        · have hwp := hwp.2 h5
          refine lv_aload_n hx hb dTk_release_72 rfl (lv_at hl 0 rfl) ?_
          refine lv_iload_n hx hb dTk_release_73 rfl (lv_at hl 1 rfl) ?_
          refine lv_aload_n hx hb dTk_release_74 rfl (lv_at hl 0 rfl) ?_
          refine va_get (D := D) (ci := 7) (C := RTk) (T := TTk) (N := 8) hx hb hts hinTk hown hK hP 11 rfl rfl 2 (by decide) lk25 (fun _ h9 => h9) rfl dTk_release_75 ?_
          obtain ⟨P6, hP6, hwp⟩ := hwp
          refine uCallVi (As := []) (rest := [.int y1, .ref (a 11)]) (C := RRo) ⟨hx, hb, hml, hown, hts⟩ (kC_Ro_takeHead l D a A t 4 (by decide) u3  P6 hP6) (cwV 0 hts (gdV wm_494 wm_450 wm_451 wm_8 wm_452) rfl rfl rfl (by decide +kernel) ⟨Nat.le_of_ble_eq_true rfl, Nat.le_of_ble_eq_true rfl⟩) (va_recv (ci := 5) (q0 := (25 + 4)) hK hP rfl (cw_ro (by decide))) hP hK hD hA hS rfl hl.1 rfl (Nat.le_of_ble_eq_true rfl) dTk_release_78 ⟨Nat.le_of_ble_eq_true rfl, Nat.le_of_ble_eq_true rfl⟩ (fun r8 u7 H locs hu7 hP hD hS => ?_)
          have hwp := hwp r8 u7 hu7
          obtain ⟨P9, hP9, hwp⟩ := hwp
          refine uCallVv (As := [.int y1, .int r8]) (rest := []) (C := RTk) ⟨hx, hb, hml, hown, hts⟩ (kC_Tk_passToken l D a A t   u7 y1 r8 P9 hP9) (cwV 2 hts (gdV wm_495 wm_497 wp_5 wm_7 wm_498) rfl rfl rfl (by decide +kernel) ⟨Nat.le_of_ble_eq_true rfl, Nat.le_of_ble_eq_true rfl⟩) (va_recv (ci := 7) (q0 := 11) hK hP rfl rfl) hP hK hD hA hS rfl hl.1 rfl (Nat.le_of_ble_eq_true rfl) dTk_release_81 ⟨Nat.le_of_ble_eq_true rfl, Nat.le_of_ble_eq_true rfl⟩ (fun u10 H locs hu10 hP hD hS => ?_)
          have hwp := hwp u10 hu10
          exact W.vret hx hb hr (fun t ht hW => ⟨⟨u10, rfl, hwp, uEnd ht hW hP hK hD hS hA⟩, hS.F ht⟩) hS.2.2 dTk_release_84
      · have hwp := hwp.2 h1
        refine lv_aload_n hx hb dTk_release_28 rfl (lv_at hl 0 rfl) ?_
        refine va_get (D := D) (ci := 7) (C := RTk) (T := TTk) (N := 8) hx hb hts hinTk hown hK hP 11 rfl rfl 2 (by decide) lk25 (fun _ h9 => h9) rfl dTk_release_29 ?_
        refine lv_iload_n hx hb dTk_release_32 rfl (lv_at hl 2 rfl) ?_
        obtain ⟨P11, hP11, hwp⟩ := hwp
        refine uCallVi (As := [.int y2]) (rest := []) (C := RRo) ⟨hx, hb, hml, hown, hts⟩ (kC_Ro_contains l D a A t 4 (by decide) σ y2 P11 hP11) (cwV 1 hts (gdV wm_484 wm_485 wm_486 wm_8 wm_487) rfl rfl rfl (by decide +kernel) ⟨Nat.le_of_ble_eq_true rfl, Nat.le_of_ble_eq_true rfl⟩) (va_recv (ci := 5) (q0 := (25 + 4)) hK hP rfl (cw_ro (by decide))) hP hK hD hA hS rfl hl.1 rfl (Nat.le_of_ble_eq_true rfl) dTk_release_33 ⟨Nat.le_of_ble_eq_true rfl, Nat.le_of_ble_eq_true rfl⟩ (fun r13 u12 H locs hu12 hP hD hS => ?_)
        have hwp := hwp r13 u12 hu12
        refine lv_if_ne hx hb dTk_release_36 rfl (fun h14 => ?_) (fun h14 => ?_)
        · have hwp := hwp.1 h14
          exact cut56 u12 y1 y2 _ _ _ hwp hP hD hS (lv_sub hl [0, 1, 2] rfl)
        · have hwp := hwp.2 h14
          refine lv_aload_n hx hb dTk_release_39 rfl (lv_at hl 0 rfl) ?_
          refine lv_iload_n hx hb dTk_release_40 rfl (lv_at hl 1 rfl) ?_
          refine lv_iload_n hx hb dTk_release_41 rfl (lv_at hl 2 rfl) ?_
          obtain ⟨P15, hP15, hwp⟩ := hwp
          refine uCallVi (As := [.int y1, .int y2]) (rest := []) (C := RTk) ⟨hx, hb, hml, hown, hts⟩ (kC_Tk_isOwed l D a A t   u12 y1 y2 P15 hP15) (cwV 2 hts (gdV wm_488 wm_490 wp_4 wm_7 wm_491) rfl rfl rfl (by decide +kernel) ⟨Nat.le_of_ble_eq_true rfl, Nat.le_of_ble_eq_true rfl⟩) (va_recv (ci := 7) (q0 := 11) hK hP rfl rfl) hP hK hD hA hS rfl hl.1 rfl (Nat.le_of_ble_eq_true rfl) dTk_release_42 ⟨Nat.le_of_ble_eq_true rfl, Nat.le_of_ble_eq_true rfl⟩ (fun r17 u16 H locs hu16 hP hD hS => ?_)
          have hwp := hwp r17 u16 hu16
          refine lv_if_eq hx hb dTk_release_45 rfl (fun h18 => ?_) (fun h18 => ?_)
          · have hwp := hwp.1 h18
            exact cut56 u16 y1 y2 _ _ _ hwp hP hD hS (lv_sub hl [0, 1, 2] rfl)
          · have hwp := hwp.2 h18
            refine lv_aload_n hx hb dTk_release_48 rfl (lv_at hl 0 rfl) ?_
            refine va_get (D := D) (ci := 7) (C := RTk) (T := TTk) (N := 8) hx hb hts hinTk hown hK hP 11 rfl rfl 2 (by decide) lk25 (fun _ h9 => h9) rfl dTk_release_49 ?_
            refine lv_iload_n hx hb dTk_release_52 rfl (lv_at hl 2 rfl) ?_
            obtain ⟨P19, hP19, hwp⟩ := hwp
            refine uCallVv (As := [.int y2]) (rest := []) (C := RRo) ⟨hx, hb, hml, hown, hts⟩ (kC_Ro_append l D a A t 4 (by decide) u16 y2 P19 hP19) (cwV 1 hts (gdV wm_492 wm_438 wm_439 wm_8 wm_440) rfl rfl rfl (by decide +kernel) ⟨Nat.le_of_ble_eq_true rfl, Nat.le_of_ble_eq_true rfl⟩) (va_recv (ci := 5) (q0 := (25 + 4)) hK hP rfl (cw_ro (by decide))) hP hK hD hA hS rfl hl.1 rfl (Nat.le_of_ble_eq_true rfl) dTk_release_53 ⟨Nat.le_of_ble_eq_true rfl, Nat.le_of_ble_eq_true rfl⟩ (fun u20 H locs hu20 hP hD hS => ?_)
            have hwp := hwp u20 hu20
            exact cut56 u20 y1 y2 _ _ _ hwp hP hD hS (lv_sub hl [0, 1, 2] rfl)
  have hl := lv_entry ([.ref (a 11), .int x1]) (n := 3) (Nat.le_of_ble_eq_true rfl)
  rw [lg_entry_eq]
  generalize (lg_sl ([.ref (a 11), .int x1]) ++ List.replicate (3 - (lg_sl ([.ref (a 11), .int x1])).length) Slot.unset).toArray = ls at hl ⊢
  have hl : lv_has ls 3 [(0, .ref (a 11)), (1, .int x1)] := hl
  refine lv_aload_n hx hb dTk_release_0 rfl (lv_at hl 0 rfl) ?_
  refine va_get (D := D) (ci := 7) (C := RTk) (T := TTk) (N := 8) hx hb hts hinTk hown hK hP 11 rfl rfl 4 (by decide) lk37 (fun x9 h9 => u_same ksstate x9 h9) rfl dTk_release_1 ?_
  refine lv_iload_n hx hb dTk_release_4 rfl (lv_at hl 1 rfl) ?_
  refine lv_iconst (v := 0) hx hb dTk_release_5 (by decide) ?_
  obtain ⟨hi21, hwp⟩ := hwp
  refine va_iast hx hb hK hP hD hS 12 0 rfl rfl hi21 dTk_release_6 (fun H locs hP hD hS => ?_)
  obtain ⟨σ22, eσ22⟩ : ∃ z, z = cu σ 7 x1.toNatClampNeg 0 := ⟨_, rfl⟩
  have hwp := hwp σ22 eσ22
  have hP : va_P D clA (cw a t σ22) H := by rw [eσ22]; exact hP
  have hD : va_D A (cw a t σ22) := by rw [eσ22]; exact hD
  refine lv_aload_n hx hb dTk_release_7 rfl (lv_at hl 0 rfl) ?_
  refine va_get (D := D) (ci := 7) (C := RTk) (T := TTk) (N := 8) hx hb hts hinTk hown hK hP 11 rfl rfl 1 (by decide) lk16 (fun _ h9 => h9) rfl dTk_release_8 ?_
  refine lv_iload_n hx hb dTk_release_11 rfl (lv_at hl 1 rfl) ?_
  refine lv_aload_n hx hb dTk_release_12 rfl (lv_at hl 0 rfl) ?_
  refine va_get (D := D) (ci := 7) (C := RTk) (T := TTk) (N := 8) hx hb hts hinTk hown hK hP 11 rfl rfl 0 (by decide) lk11 (fun _ h9 => h9) rfl dTk_release_13 ?_
  refine lv_iload_n hx hb dTk_release_16 rfl (lv_at hl 1 rfl) ?_
  obtain ⟨hi23, hwp⟩ := hwp
  refine fx_aldA hx hb hK hP 13 6 rfl rfl rfl hi23 dTk_release_17 ?_
  refine W.eq (g2 := F0 m 18 ls [.ref (a (14 + x1.toNatClampNeg)), .int x1, .ref (a 18)]) rfl ?_
  refine lv_iload_n hx hb dTk_release_18 rfl (lv_at hl 1 rfl) ?_
  obtain ⟨hi24, hwp⟩ := hwp
  refine va_iald hx hb hK hP (14 + x1.toNatClampNeg) 0 (cw_kn (fx_lt hi23)) rfl hi24 dTk_release_19 ?_
  obtain ⟨hi25, hwp⟩ := hwp
  refine va_iast hx hb hK hP hD hS 18 0 rfl rfl hi25 dTk_release_20 (fun H locs hP hD hS => ?_)
  obtain ⟨σ26, eσ26⟩ : ∃ z, z = cu σ22 14 x1.toNatClampNeg (σ22.1 (10 + x1.toNatClampNeg) x1.toNatClampNeg) := ⟨_, rfl⟩
  have hwp := hwp σ26 eσ26
  have hP : va_P D clA (cw a t σ26) H := by rw [eσ26]; exact hP
  have hD : va_D A (cw a t σ26) := by rw [eσ26]; exact hD
  refine lv_iconst (v := 0) hx hb dTk_release_21 (by decide) ?_
  refine lv_istore_n hx hb dTk_release_22 rfl hl (by decide) rfl (fun ls hl => ?_)
  have hl : lv_has ls 3 [(2, .int 0), (0, .ref (a 11)), (1, .int x1)] := hl
  exact cut23 5 σ26 x1 0 _ _ _ hwp hP hD hS (lv_sub hl [1, 2, 0] rfl)
-- NodeServices$TokenLock: private void takeRequest(int, int, int), on Tk
def wC_Tk_takeRequest (a : Nat → Nat) (R : CS → Prop) (σ : CS) (x1 x2 x3 : Int32) : Prop :=
  (vp_in x2 4 ∧ (vp_in x2 4 ∧ (vp_in x1 4 ∧ (vp_in x1 4 ∧ (∀ σ5 : CS, σ5 = cu σ (10 + x2.toNatClampNeg) x1.toNatClampNeg (if (σ.1 (10 + x2.toNatClampNeg) x1.toNatClampNeg) < x3 then x3 else (σ.1 (10 + x2.toNatClampNeg) x1.toNatClampNeg)) → (((¬ (σ5.1 9 0) = x2) → R σ5) ∧ (((σ5.1 9 0) = x2) → (vp_in x2 4 ∧ (((¬ (σ5.1 7 x2.toNatClampNeg) = 0) → R σ5) ∧ (((σ5.1 7 x2.toNatClampNeg) = 0) → (∃ P9 : Int32 → CS → Prop, wC_Tk_isOwed a P9 σ5 x2 x1 ∧ (∀ (r11 : Int32) (u10 : CS), P9 r11 u10 → (((r11 = 0) → R u10) ∧ ((¬ r11 = 0) → (∃ P13 : CS → Prop, wC_Tk_passToken a P13 u10 x2 x1 ∧ (∀ (u14 : CS), P13 u14 → R u14))))))))))))))))
abbrev wsTk_takeRequest : List Cond := .code yTk_takeRequest cTk_takeRequest 4 none :: wg
abbrev rmC_Tk_takeRequest : Room := { frames := 4, cells := 1, slots := 4, locals := 91 }
set_option maxHeartbeats 4000000 in
set_option maxRecDepth 100000 in
theorem kC_Tk_takeRequest (l : Launch) (D : va_G) (a : Nat → Nat) (A : Nat → Prop) (t : Nat → ClassId) (σ : CS) (x1 x2 x3 : Int32) (R : CS → Prop) (hwp : wC_Tk_takeRequest a R σ x1 x2 x3) : Met l yTk_takeRequest wsTk_takeRequest rmC_Tk_takeRequest (va_Pc [.ref (a 11), .int x1, .int x2, .int x3] (uI D clA (cT t) A true (cw a t) σ)) (va_Qv R (uI D clA (cT t) A true (cw a t)) A) 1 4 A := by
  refine Met.ofW (cc := cTk_takeRequest) (maxL := 4) (ret := none) (by decide) rfl ?_
  intro p e s m args below meth c s₁ B hml hv
  obtain ⟨rfl, hP, hK, hD, hA⟩ := hv
  have hx := B.exec
  have hb := B.bytes
  have hr := B.returns
  have hts := atoms_spec (ws := wsTk_takeRequest) B.pre
  have hown : s.vm.findClass RTk = some m.cls := findClass_of_methodNamed B.named
  have hlocks := B.notSynchronized
  have hinTk : ∀ w ∈ u_ws RTk TTk 8, w ∈ wsTk_takeRequest := fun w h => List.mem_cons_of_mem _ (inTk w h)
  have ksstate := hts _ (List.mem_cons_of_mem _ wm_85)
  have lk11 := hts _ (List.mem_cons_of_mem _ wm_132)
  have lk29 := hts _ (List.mem_cons_of_mem _ wm_135)
  have lk37 := hts _ (List.mem_cons_of_mem _ wm_84)
  have hS : va_S A s.heap s.heap [] := va_S.rf
  have hl := lv_entry ([.ref (a 11), .int x1, .int x2, .int x3]) (n := 4) (Nat.le_of_ble_eq_true rfl)
  rw [lg_entry_eq]
  generalize (lg_sl ([.ref (a 11), .int x1, .int x2, .int x3]) ++ List.replicate (4 - (lg_sl ([.ref (a 11), .int x1, .int x2, .int x3])).length) Slot.unset).toArray = ls at hl ⊢
  have hl : lv_has ls 4 [(0, .ref (a 11)), (1, .int x1), (2, .int x2), (3, .int x3)] := hl
  refine lv_aload_n hx hb dTk_takeRequest_0 rfl (lv_at hl 0 rfl) ?_
  refine va_get (D := D) (ci := 7) (C := RTk) (T := TTk) (N := 8) hx hb hts hinTk hown hK hP 11 rfl rfl 0 (by decide) lk11 (fun _ h9 => h9) rfl dTk_takeRequest_1 ?_
  refine lv_iload_n hx hb dTk_takeRequest_4 rfl (lv_at hl 2 rfl) ?_
  obtain ⟨hi1, hwp⟩ := hwp
  refine fx_aldA hx hb hK hP 13 6 rfl rfl rfl hi1 dTk_takeRequest_5 ?_
  refine W.eq (g2 := F0 m 6 ls [.ref (a (14 + x2.toNatClampNeg))]) rfl ?_
  refine lv_iload_n hx hb dTk_takeRequest_6 rfl (lv_at hl 1 rfl) ?_
  refine lv_aload_n hx hb dTk_takeRequest_7 rfl (lv_at hl 0 rfl) ?_
  refine va_get (D := D) (ci := 7) (C := RTk) (T := TTk) (N := 8) hx hb hts hinTk hown hK hP 11 rfl rfl 0 (by decide) lk11 (fun _ h9 => h9) rfl dTk_takeRequest_8 ?_
  refine lv_iload_n hx hb dTk_takeRequest_11 rfl (lv_at hl 2 rfl) ?_
  obtain ⟨hi2, hwp⟩ := hwp
  refine fx_aldA hx hb hK hP 13 6 rfl rfl rfl hi2 dTk_takeRequest_12 ?_
  refine W.eq (g2 := F0 m 13 ls [.ref (a (14 + x2.toNatClampNeg)), .int x1, .ref (a (14 + x2.toNatClampNeg))]) rfl ?_
  refine lv_iload_n hx hb dTk_takeRequest_13 rfl (lv_at hl 1 rfl) ?_
  obtain ⟨hi3, hwp⟩ := hwp
  refine va_iald hx hb hK hP (14 + x2.toNatClampNeg) 0 (cw_kn (fx_lt hi2)) rfl hi3 dTk_takeRequest_14 ?_
  refine lv_iload_n hx hb dTk_takeRequest_15 rfl (lv_at hl 3 rfl) ?_
  refine va_mmax hx hb (hml.trans hl.1.symm) hown (hts _ (List.mem_cons_of_mem _ wm_655)) (hts _ (List.mem_cons_of_mem _ wm_635)) (hts _ (List.mem_cons_of_mem _ wm_11)) (hts _ (List.mem_cons_of_mem _ wm_636)) (Nat.le_of_ble_eq_true rfl) (Nat.le_of_ble_eq_true rfl) (Nat.le_of_ble_eq_true rfl) (Nat.le_of_ble_eq_true rfl) dTk_takeRequest_16 ?_
  obtain ⟨hi4, hwp⟩ := hwp
  refine va_iast hx hb hK hP hD hS (14 + x2.toNatClampNeg) 0 (cw_kn (fx_lt hi1)) rfl hi4 dTk_takeRequest_19 (fun H locs hP hD hS => ?_)
  obtain ⟨σ5, eσ5⟩ : ∃ z, z = cu σ (10 + x2.toNatClampNeg) x1.toNatClampNeg (if (σ.1 (10 + x2.toNatClampNeg) x1.toNatClampNeg) < x3 then x3 else (σ.1 (10 + x2.toNatClampNeg) x1.toNatClampNeg)) := ⟨_, rfl⟩
  have hwp := hwp σ5 eσ5
  have hP : va_P D clA (cw a t σ5) H := by rw [eσ5, ← cw_kn1 (a := a) (t := t) (σ := σ) (fx_lt hi1) x1.toNatClampNeg (if (σ.1 (10 + x2.toNatClampNeg) x1.toNatClampNeg) < x3 then x3 else (σ.1 (10 + x2.toNatClampNeg) x1.toNatClampNeg))]; exact hP
  have hD : va_D A (cw a t σ5) := by rw [eσ5, ← cw_kn1 (a := a) (t := t) (σ := σ) (fx_lt hi1) x1.toNatClampNeg (if (σ.1 (10 + x2.toNatClampNeg) x1.toNatClampNeg) < x3 then x3 else (σ.1 (10 + x2.toNatClampNeg) x1.toNatClampNeg))]; exact hD
  refine lv_aload_n hx hb dTk_takeRequest_20 rfl (lv_at hl 0 rfl) ?_
  refine va_get (D := D) (ci := 7) (C := RTk) (T := TTk) (N := 8) hx hb hts hinTk hown hK hP 11 rfl rfl 3 (by decide) lk29 (fun _ h9 => h9) rfl dTk_takeRequest_21 ?_
  refine lv_iload_n hx hb dTk_takeRequest_24 rfl (lv_at hl 2 rfl) ?_
  refine lv_icmp_ne hx hb dTk_takeRequest_25 rfl (fun h6 => ?_) (fun h6 => ?_)
  · have hwp := hwp.1 h6
    refine W.widen (k := 1) (n := 4) (by omega) (by omega) ?_
    exact W.vret hx hb hr (fun t ht hW => ⟨⟨σ5, rfl, hwp, uEnd ht hW hP hK hD hS hA⟩, hS.F ht⟩) hS.2.2 dTk_takeRequest_52
  · have hwp := hwp.2 h6
    refine lv_aload_n hx hb dTk_takeRequest_28 rfl (lv_at hl 0 rfl) ?_
    refine va_get (D := D) (ci := 7) (C := RTk) (T := TTk) (N := 8) hx hb hts hinTk hown hK hP 11 rfl rfl 4 (by decide) lk37 (fun x9 h9 => u_same ksstate x9 h9) rfl dTk_takeRequest_29 ?_
    refine lv_iload_n hx hb dTk_takeRequest_32 rfl (lv_at hl 2 rfl) ?_
    obtain ⟨hi7, hwp⟩ := hwp
    refine va_iald hx hb hK hP 12 0 rfl rfl hi7 dTk_takeRequest_33 ?_
    refine lv_if_ne hx hb dTk_takeRequest_34 rfl (fun h8 => ?_) (fun h8 => ?_)
    · have hwp := hwp.1 h8
      refine W.widen (k := 1) (n := 4) (by omega) (by omega) ?_
      exact W.vret hx hb hr (fun t ht hW => ⟨⟨σ5, rfl, hwp, uEnd ht hW hP hK hD hS hA⟩, hS.F ht⟩) hS.2.2 dTk_takeRequest_52
    · have hwp := hwp.2 h8
      refine lv_aload_n hx hb dTk_takeRequest_37 rfl (lv_at hl 0 rfl) ?_
      refine lv_iload_n hx hb dTk_takeRequest_38 rfl (lv_at hl 2 rfl) ?_
      refine lv_iload_n hx hb dTk_takeRequest_39 rfl (lv_at hl 1 rfl) ?_
      obtain ⟨P9, hP9, hwp⟩ := hwp
      refine uCallVi (As := [.int x2, .int x1]) (rest := []) (C := RTk) ⟨hx, hb, hml, hown, hts⟩ (kC_Tk_isOwed l D a A t   σ5 x2 x1 P9 hP9) (cwV 2 hts (gdV wm_488 wm_490 wp_4 wm_7 wm_491) rfl rfl rfl (by decide +kernel) ⟨Nat.le_of_ble_eq_true rfl, Nat.le_of_ble_eq_true rfl⟩) (va_recv (ci := 7) (q0 := 11) hK hP rfl rfl) hP hK hD hA hS rfl hl.1 rfl (Nat.le_of_ble_eq_true rfl) dTk_takeRequest_40 ⟨Nat.le_of_ble_eq_true rfl, Nat.le_of_ble_eq_true rfl⟩ (fun r11 u10 H locs hu10 hP hD hS => ?_)
      have hwp := hwp r11 u10 hu10
      refine lv_if_eq hx hb dTk_takeRequest_43 rfl (fun h12 => ?_) (fun h12 => ?_)
      · have hwp := hwp.1 h12
        refine W.widen (k := 1) (n := 4) (by omega) (by omega) ?_
        exact W.vret hx hb hr (fun t ht hW => ⟨⟨u10, rfl, hwp, uEnd ht hW hP hK hD hS hA⟩, hS.F ht⟩) hS.2.2 dTk_takeRequest_52
      · have hwp := hwp.2 h12
        refine lv_aload_n hx hb dTk_takeRequest_46 rfl (lv_at hl 0 rfl) ?_
        refine lv_iload_n hx hb dTk_takeRequest_47 rfl (lv_at hl 2 rfl) ?_
        refine lv_iload_n hx hb dTk_takeRequest_48 rfl (lv_at hl 1 rfl) ?_
        obtain ⟨P13, hP13, hwp⟩ := hwp
        refine uCallVv (As := [.int x2, .int x1]) (rest := []) (C := RTk) ⟨hx, hb, hml, hown, hts⟩ (kC_Tk_passToken l D a A t   u10 x2 x1 P13 hP13) (cwV 2 hts (gdV wm_495 wm_497 wp_5 wm_7 wm_498) rfl rfl rfl (by decide +kernel) ⟨Nat.le_of_ble_eq_true rfl, Nat.le_of_ble_eq_true rfl⟩) (va_recv (ci := 7) (q0 := 11) hK hP rfl rfl) hP hK hD hA hS rfl hl.1 rfl (Nat.le_of_ble_eq_true rfl) dTk_takeRequest_49 ⟨Nat.le_of_ble_eq_true rfl, Nat.le_of_ble_eq_true rfl⟩ (fun u14 H locs hu14 hP hD hS => ?_)
        have hwp := hwp u14 hu14
        exact W.vret hx hb hr (fun t ht hW => ⟨⟨u14, rfl, hwp, uEnd ht hW hP hK hD hS hA⟩, hS.F ht⟩) hS.2.2 dTk_takeRequest_52
-- NodeServices$TokenLock: void receive(int, int, NodeServices$Message), on Tk
def wC_Tk_receive (a : Nat → Nat) (q : Nat) (R : CS → Prop) (σ : CS) (x1 x2 : Int32) : Prop :=
  (q ∈ σ.2.2 ∧ (((¬ (σ.1 42 q) = 0) → (∀ σ4 : CS, σ4 = cu σ 9 0 x2 → (∃ P5 : CS → Prop, wC_Tk_enter a P5 σ4 x2 ∧ (∀ (u6 : CS), P5 u6 → R u6)))) ∧ (((σ.1 42 q) = 0) → (q ∈ σ.2.2 ∧ (∃ P9 : CS → Prop, wC_Tk_takeRequest a P9 σ x1 x2 (σ.1 43 q) ∧ (∀ (u10 : CS), P9 u10 → R u10))))))
abbrev wsTk_receive : List Cond := .code yTk_receive cTk_receive 4 none :: wg
abbrev rmC_Tk_receive : Room := { frames := 5, cells := 1, slots := 4, locals := 114 }
set_option maxHeartbeats 4000000 in
set_option maxRecDepth 100000 in
theorem kC_Tk_receive (l : Launch) (D : va_G) (a : Nat → Nat) (A : Nat → Prop) (t : Nat → ClassId) (q : Nat) (σ : CS) (x1 x2 : Int32) (R : CS → Prop) (hwp : wC_Tk_receive a q R σ x1 x2) : Met l yTk_receive wsTk_receive rmC_Tk_receive (va_Pc [.ref (a 11), .int x1, .int x2, .ref q] (uI D clA (cT t) A true (cw a t) σ)) (va_Qv R (uI D clA (cT t) A true (cw a t)) A) 1 4 A := by
  refine Met.ofW (cc := cTk_receive) (maxL := 4) (ret := none) (by decide) rfl ?_
  intro p e s m args below meth c s₁ B hml hv
  obtain ⟨rfl, hP, hK, hD, hA⟩ := hv
  have hx := B.exec
  have hb := B.bytes
  have hr := B.returns
  have hts := atoms_spec (ws := wsTk_receive) B.pre
  have hown : s.vm.findClass RTk = some m.cls := findClass_of_methodNamed B.named
  have hlocks := B.notSynchronized
  have hinMs : ∀ w ∈ u_ws RMs TMs 4, w ∈ wsTk_receive := fun w h => List.mem_cons_of_mem _ (inMs w h)
  have hinTk : ∀ w ∈ u_ws RTk TTk 8, w ∈ wsTk_receive := fun w h => List.mem_cons_of_mem _ (inTk w h)
  have lk29 := hts _ (List.mem_cons_of_mem _ wm_135)
  have lk67 := hts _ (List.mem_cons_of_mem _ wm_391)
  have lk72 := hts _ (List.mem_cons_of_mem _ wm_398)
  have hS : va_S A s.heap s.heap [] := va_S.rf
  have hl := lv_entry ([.ref (a 11), .int x1, .int x2, .ref q]) (n := 4) (Nat.le_of_ble_eq_true rfl)
  rw [lg_entry_eq]
  generalize (lg_sl ([.ref (a 11), .int x1, .int x2, .ref q]) ++ List.replicate (4 - (lg_sl ([.ref (a 11), .int x1, .int x2, .ref q])).length) Slot.unset).toArray = ls at hl ⊢
  have hl : lv_has ls 4 [(0, .ref (a 11)), (1, .int x1), (2, .int x2), (3, .ref q)] := hl
  refine lv_aload_n hx hb dTk_receive_0 rfl (lv_at hl 3 rfl) ?_
  obtain ⟨hm1, hwp⟩ := hwp
  obtain ⟨km2, hkm2⟩ := cw_ms (a := a) (t := t) hm1
  refine va_get (D := D) (ci := 4) (C := RMs) (T := TMs) (N := 4) hx hb hts hinMs hown hK hP km2 hkm2 rfl 1 (by decide) lk67 (fun _ h9 => h9) rfl dTk_receive_1 ?_
  refine lv_if_ne hx hb dTk_receive_4 rfl (fun h3 => ?_) (fun h3 => ?_)
  · have hwp := hwp.1 h3
    refine lv_aload_n hx hb dTk_receive_20 rfl (lv_at hl 0 rfl) ?_
    refine lv_iload_n hx hb dTk_receive_21 rfl (lv_at hl 2 rfl) ?_
    refine va_put (ty := .int) (D := D) (ci := 7) (C := RTk) (T := TTk) (N := 8) hx hb hts hinTk tyTk tyTk_ok nmTk hown hK hP hD hS 11 rfl rfl 3 (by decide) lk29 (fun _ h9 => h9) rfl (by decide +kernel) rfl rfl (Nat.le_of_ble_eq_true rfl) dTk_receive_22 (fun H locs hP hD hS => ?_)
    obtain ⟨σ4, eσ4⟩ : ∃ z, z = cu σ 9 0 x2 := ⟨_, rfl⟩
    have hwp := hwp σ4 eσ4
    have hP : va_P D clA (cw a t σ4) H := by rw [eσ4]; exact hP
    have hD : va_D A (cw a t σ4) := by rw [eσ4]; exact hD
    refine lv_aload_n hx hb dTk_receive_25 rfl (lv_at hl 0 rfl) ?_
    refine lv_iload_n hx hb dTk_receive_26 rfl (lv_at hl 2 rfl) ?_
    obtain ⟨P5, hP5, hwp⟩ := hwp
    refine uCallUv (As := [.int x2]) (rest := []) (C := RTk) ⟨hx, hb, hml, hown, hts⟩ (kC_Tk_enter l D a A t   σ4 x2 P5 hP5) (va_cwU (x := ⟨"NodeServices$TokenLock", "enter", "(I)V"⟩) (owner := "NodeServices$Lock") 1 hts (gdU wm_425 wm_426 wm_428 wm_429 wm_5 wm_430) rfl rfl rfl rfl (by decide +kernel) ⟨Nat.le_of_ble_eq_true rfl, Nat.le_of_ble_eq_true rfl⟩) (va_recv (ci := 7) (q0 := 11) hK hP rfl rfl) hP hK hD hA hS rfl hl.1 rfl (Nat.le_of_ble_eq_true rfl) dTk_receive_27 ⟨Nat.le_of_ble_eq_true rfl, Nat.le_of_ble_eq_true rfl⟩ (fun u6 H locs hu6 hP hD hS => ?_)
    have hwp := hwp u6 hu6
    refine W.widen (k := 1) (n := 4) (by omega) (by omega) ?_
    exact W.vret hx hb hr (fun t ht hW => ⟨⟨u6, rfl, hwp, uEnd ht hW hP hK hD hS hA⟩, hS.F ht⟩) hS.2.2 dTk_receive_30
  · have hwp := hwp.2 h3
    refine lv_aload_n hx hb dTk_receive_7 rfl (lv_at hl 0 rfl) ?_
    refine lv_iload_n hx hb dTk_receive_8 rfl (lv_at hl 1 rfl) ?_
    refine lv_iload_n hx hb dTk_receive_9 rfl (lv_at hl 2 rfl) ?_
    refine lv_aload_n hx hb dTk_receive_10 rfl (lv_at hl 3 rfl) ?_
    obtain ⟨hm7, hwp⟩ := hwp
    obtain ⟨km8, hkm8⟩ := cw_ms (a := a) (t := t) hm7
    refine va_get (D := D) (ci := 4) (C := RMs) (T := TMs) (N := 4) hx hb hts hinMs hown hK hP km8 hkm8 rfl 2 (by decide) lk72 (fun _ h9 => h9) rfl dTk_receive_11 ?_
    obtain ⟨P9, hP9, hwp⟩ := hwp
    refine uCallVv (As := [.int x1, .int x2, .int (σ.1 43 q)]) (rest := []) (C := RTk) ⟨hx, hb, hml, hown, hts⟩ (kC_Tk_takeRequest l D a A t   σ x1 x2 (σ.1 43 q) P9 hP9) (cwV 3 hts (gdV wm_651 wm_653 wp_14 wm_7 wm_654) rfl rfl rfl (by decide +kernel) ⟨Nat.le_of_ble_eq_true rfl, Nat.le_of_ble_eq_true rfl⟩) (va_recv (ci := 7) (q0 := 11) hK hP rfl rfl) hP hK hD hA hS rfl hl.1 rfl (Nat.le_of_ble_eq_true rfl) dTk_receive_14 ⟨Nat.le_of_ble_eq_true rfl, Nat.le_of_ble_eq_true rfl⟩ (fun u10 H locs hu10 hP hD hS => ?_)
    have hwp := hwp u10 hu10
    refine lv_goto hx hb dTk_receive_17 rfl ?_
    exact W.vret hx hb hr (fun t ht hW => ⟨⟨u10, rfl, hwp, uEnd ht hW hP hK hD hS hA⟩, hS.F ht⟩) hS.2.2 dTk_receive_30
-- NodeServices$TreeLock: int detail(int), on Tr
def wC_Tr_detail (a : Nat → Nat) (R : Int32 → CS → Prop) (σ : CS) (x1 : Int32) : Prop :=
  (vp_in x1 4 ∧ R (σ.1 17 x1.toNatClampNeg) σ)
abbrev wsTr_detail : List Cond := .code yTr_detail cTr_detail 2 (some .int) :: wg
abbrev rmC_Tr_detail : Room := { frames := 0, cells := 0, slots := 0, locals := 0 }
set_option maxHeartbeats 4000000 in
set_option maxRecDepth 100000 in
theorem kC_Tr_detail (l : Launch) (D : va_G) (a : Nat → Nat) (A : Nat → Prop) (t : Nat → ClassId) (σ : CS) (x1 : Int32) (R : Int32 → CS → Prop) (hwp : wC_Tr_detail a R σ x1) : Met l yTr_detail wsTr_detail rmC_Tr_detail (va_Pc [.ref (a 19), .int x1] (uI D clA (cT t) A true (cw a t) σ)) (va_Qi R (uI D clA (cT t) A true (cw a t)) A) 0 0 A := by
  refine Met.ofW (cc := cTr_detail) (maxL := 2) (ret := (some .int)) (by decide) rfl ?_
  intro p e s m args below meth c s₁ B hml hv
  obtain ⟨rfl, hP, hK, hD, hA⟩ := hv
  have hx := B.exec
  have hb := B.bytes
  have hr := B.returns
  have hts := atoms_spec (ws := wsTr_detail) B.pre
  have hown : s.vm.findClass RTr = some m.cls := findClass_of_methodNamed B.named
  have hlocks := B.notSynchronized
  have hinTr : ∀ w ∈ u_ws RTr TTr 7, w ∈ wsTr_detail := fun w h => List.mem_cons_of_mem _ (inTr w h)
  have lk20 := hts _ (List.mem_cons_of_mem _ wm_167)
  have hS : va_S A s.heap s.heap [] := va_S.rf
  have hl := lv_entry ([.ref (a 19), .int x1]) (n := 2) (Nat.le_of_ble_eq_true rfl)
  rw [lg_entry_eq]
  generalize (lg_sl ([.ref (a 19), .int x1]) ++ List.replicate (2 - (lg_sl ([.ref (a 19), .int x1])).length) Slot.unset).toArray = ls at hl ⊢
  have hl : lv_has ls 2 [(0, .ref (a 19)), (1, .int x1)] := hl
  refine lv_aload_n hx hb dTr_detail_0 rfl (lv_at hl 0 rfl) ?_
  refine va_get (D := D) (ci := 8) (C := RTr) (T := TTr) (N := 7) hx hb hts hinTr hown hK hP 19 rfl rfl 0 (by decide) lk20 (fun _ h9 => h9) rfl dTr_detail_1 ?_
  refine lv_iload_n hx hb dTr_detail_4 rfl (lv_at hl 1 rfl) ?_
  obtain ⟨hi1, hwp⟩ := hwp
  refine va_iald hx hb hK hP 21 0 rfl rfl hi1 dTr_detail_5 ?_
  exact W.iret (v := σ.1 17 x1.toNatClampNeg) hx hb hr (fun t ht hW => ⟨⟨σ.1 17 x1.toNatClampNeg, σ, rfl, hwp, uEnd ht hW hP hK hD hS hA⟩, hS.F ht⟩) hS.2.2 dTr_detail_6
-- NodeServices$TreeLock: private void serve(int, int), on Tr
def wC_Tr_serve (a : Nat → Nat) (R : CS → Prop) (σ : CS) (x1 x2 : Int32) : Prop :=
  (vp_in x1 4 ∧ (∀ σ2 : CS, σ2 = cu σ 18 x1.toNatClampNeg (vp_nar .boolean 0) → (((¬ x2 = x1) → (vp_in x1 4 ∧ (∀ σ5 : CS, σ5 = cu σ2 17 x1.toNatClampNeg x2 → (∃ P6 : CS → Prop, wC_Tr_send a P6 σ5 x1 x2 1 0 ∧ (∀ (u7 : CS), P6 u7 → R u7))))) ∧ ((x2 = x1) → (∃ P8 : CS → Prop, wC_Tr_enter a P8 σ2 x1 ∧ (∀ (u9 : CS), P8 u9 → R u9))))))
abbrev wsTr_serve : List Cond := .code yTr_serve cTr_serve 3 none :: wg
abbrev rmC_Tr_serve : Room := { frames := 3, cells := 1, slots := 4, locals := 69 }
set_option maxHeartbeats 4000000 in
set_option maxRecDepth 100000 in
theorem kC_Tr_serve (l : Launch) (D : va_G) (a : Nat → Nat) (A : Nat → Prop) (t : Nat → ClassId) (σ : CS) (x1 x2 : Int32) (R : CS → Prop) (hwp : wC_Tr_serve a R σ x1 x2) : Met l yTr_serve wsTr_serve rmC_Tr_serve (va_Pc [.ref (a 19), .int x1, .int x2] (uI D clA (cT t) A true (cw a t) σ)) (va_Qv R (uI D clA (cT t) A true (cw a t)) A) 1 4 A := by
  refine Met.ofW (cc := cTr_serve) (maxL := 3) (ret := none) (by decide) rfl ?_
  intro p e s m args below meth c s₁ B hml hv
  obtain ⟨rfl, hP, hK, hD, hA⟩ := hv
  have hx := B.exec
  have hb := B.bytes
  have hr := B.returns
  have hts := atoms_spec (ws := wsTr_serve) B.pre
  have hown : s.vm.findClass RTr = some m.cls := findClass_of_methodNamed B.named
  have hlocks := B.notSynchronized
  have hinTr : ∀ w ∈ u_ws RTr TTr 7, w ∈ wsTr_serve := fun w h => List.mem_cons_of_mem _ (inTr w h)
  have lk20 := hts _ (List.mem_cons_of_mem _ wm_167)
  have lk29 := hts _ (List.mem_cons_of_mem _ wm_169)
  have hS : va_S A s.heap s.heap [] := va_S.rf
  have hl := lv_entry ([.ref (a 19), .int x1, .int x2]) (n := 3) (Nat.le_of_ble_eq_true rfl)
  rw [lg_entry_eq]
  generalize (lg_sl ([.ref (a 19), .int x1, .int x2]) ++ List.replicate (3 - (lg_sl ([.ref (a 19), .int x1, .int x2])).length) Slot.unset).toArray = ls at hl ⊢
  have hl : lv_has ls 3 [(0, .ref (a 19)), (1, .int x1), (2, .int x2)] := hl
  refine lv_aload_n hx hb dTr_serve_0 rfl (lv_at hl 0 rfl) ?_
  refine va_get (D := D) (ci := 8) (C := RTr) (T := TTr) (N := 7) hx hb hts hinTr hown hK hP 19 rfl rfl 2 (by decide) lk29 (fun _ h9 => h9) rfl dTr_serve_1 ?_
  refine lv_iload_n hx hb dTr_serve_4 rfl (lv_at hl 1 rfl) ?_
  refine lv_iconst (v := 0) hx hb dTr_serve_5 (by decide) ?_
  obtain ⟨hi1, hwp⟩ := hwp
  refine va_zast hx hb hK hP hD hS 23 1 rfl rfl hi1 dTr_serve_6 (fun H locs hP hD hS => ?_)
  obtain ⟨σ2, eσ2⟩ : ∃ z, z = cu σ 18 x1.toNatClampNeg (vp_nar .boolean 0) := ⟨_, rfl⟩
  have hwp := hwp σ2 eσ2
  have hP : va_P D clA (cw a t σ2) H := by rw [eσ2]; exact hP
  have hD : va_D A (cw a t σ2) := by rw [eσ2]; exact hD
  refine lv_iload_n hx hb dTr_serve_7 rfl (lv_at hl 2 rfl) ?_
  refine lv_iload_n hx hb dTr_serve_8 rfl (lv_at hl 1 rfl) ?_
  refine lv_icmp_ne hx hb dTr_serve_9 rfl (fun h3 => ?_) (fun h3 => ?_)
  · have hwp := hwp.1 h3
    refine lv_aload_n hx hb dTr_serve_20 rfl (lv_at hl 0 rfl) ?_
    refine va_get (D := D) (ci := 8) (C := RTr) (T := TTr) (N := 7) hx hb hts hinTr hown hK hP 19 rfl rfl 0 (by decide) lk20 (fun _ h9 => h9) rfl dTr_serve_21 ?_
    refine lv_iload_n hx hb dTr_serve_24 rfl (lv_at hl 1 rfl) ?_
    refine lv_iload_n hx hb dTr_serve_25 rfl (lv_at hl 2 rfl) ?_
    obtain ⟨hi4, hwp⟩ := hwp
    refine va_iast hx hb hK hP hD hS 21 0 rfl rfl hi4 dTr_serve_26 (fun H locs hP hD hS => ?_)
    obtain ⟨σ5, eσ5⟩ : ∃ z, z = cu σ2 17 x1.toNatClampNeg x2 := ⟨_, rfl⟩
    have hwp := hwp σ5 eσ5
    have hP : va_P D clA (cw a t σ5) H := by rw [eσ5]; exact hP
    have hD : va_D A (cw a t σ5) := by rw [eσ5]; exact hD
    refine lv_aload_n hx hb dTr_serve_27 rfl (lv_at hl 0 rfl) ?_
    refine lv_iload_n hx hb dTr_serve_28 rfl (lv_at hl 1 rfl) ?_
    refine lv_iload_n hx hb dTr_serve_29 rfl (lv_at hl 2 rfl) ?_
    refine lv_iconst (v := 1) hx hb dTr_serve_30 (by decide) ?_
    refine lv_iconst (v := 0) hx hb dTr_serve_31 (by decide) ?_
    obtain ⟨P6, hP6, hwp⟩ := hwp
    refine uCallUv (As := [.int x1, .int x2, .int 1, .int 0]) (rest := []) (C := RTr) ⟨hx, hb, hml, hown, hts⟩ (kC_Tr_send l D a A t   σ5 x1 x2 1 0 P6 hP6) (va_cwU (x := ⟨"NodeServices$TreeLock", "send", "(IIII)V"⟩) (owner := "NodeServices$Service") 4 hts (gdU wm_460 wm_461 wm_463 wm_372 wm_4 wm_379) rfl rfl rfl rfl (by decide +kernel) ⟨Nat.le_of_ble_eq_true rfl, Nat.le_of_ble_eq_true rfl⟩) (va_recv (ci := 8) (q0 := 19) hK hP rfl rfl) hP hK hD hA hS rfl hl.1 rfl (Nat.le_of_ble_eq_true rfl) dTr_serve_32 ⟨Nat.le_of_ble_eq_true rfl, Nat.le_of_ble_eq_true rfl⟩ (fun u7 H locs hu7 hP hD hS => ?_)
    have hwp := hwp u7 hu7
    exact W.vret hx hb hr (fun t ht hW => ⟨⟨u7, rfl, hwp, uEnd ht hW hP hK hD hS hA⟩, hS.F ht⟩) hS.2.2 dTr_serve_35
  · have hwp := hwp.2 h3
    refine lv_aload_n hx hb dTr_serve_12 rfl (lv_at hl 0 rfl) ?_
    refine lv_iload_n hx hb dTr_serve_13 rfl (lv_at hl 1 rfl) ?_
    obtain ⟨P8, hP8, hwp⟩ := hwp
    refine uCallUv (As := [.int x1]) (rest := []) (C := RTr) ⟨hx, hb, hml, hown, hts⟩ (kC_Tr_enter l D a A t   σ2 x1 P8 hP8) (va_cwU (x := ⟨"NodeServices$TreeLock", "enter", "(I)V"⟩) (owner := "NodeServices$Lock") 1 hts (gdU wm_457 wm_458 wm_459 wm_429 wm_5 wm_430) rfl rfl rfl rfl (by decide +kernel) ⟨Nat.le_of_ble_eq_true rfl, Nat.le_of_ble_eq_true rfl⟩) (va_recv (ci := 8) (q0 := 19) hK hP rfl rfl) hP hK hD hA hS rfl hl.1 rfl (Nat.le_of_ble_eq_true rfl) dTr_serve_14 ⟨Nat.le_of_ble_eq_true rfl, Nat.le_of_ble_eq_true rfl⟩ (fun u9 H locs hu9 hP hD hS => ?_)
    have hwp := hwp u9 hu9
    refine lv_goto hx hb dTr_serve_17 rfl ?_
    refine W.widen (k := 1) (n := 4) (by omega) (by omega) ?_
    exact W.vret hx hb hr (fun t ht hW => ⟨⟨u9, rfl, hwp, uEnd ht hW hP hK hD hS hA⟩, hS.F ht⟩) hS.2.2 dTr_serve_35
-- NodeServices$TreeLock: private void goOn(int), on Tr
def wC_Tr_goOn_46 (a : Nat → Nat) (R : CS → Prop) (σ : CS) (y1 : Int32) : Prop :=
  (vp_in y1 4 ∧ ((((σ.1 17 y1.toNatClampNeg) = y1) → R σ) ∧ ((¬ (σ.1 17 y1.toNatClampNeg) = y1) → (vp_in y1 4 ∧ (∃ P4 : Int32 → CS → Prop, wC_Ro_isEmpty a (y1.toNatClampNeg) P4 σ ∧ (∀ (r6 : Int32) (u5 : CS), P4 r6 u5 → (((¬ r6 = 0) → R u5) ∧ ((r6 = 0) → (vp_in y1 4 ∧ (((¬ (u5.1 18 y1.toNatClampNeg) = 0) → R u5) ∧ (((u5.1 18 y1.toNatClampNeg) = 0) → (vp_in y1 4 ∧ (∀ σ11 : CS, σ11 = cu u5 18 y1.toNatClampNeg (vp_nar .boolean 1) → (vp_in y1 4 ∧ (∃ P13 : CS → Prop, wC_Tr_send a P13 σ11 y1 (σ11.1 17 y1.toNatClampNeg) 0 0 ∧ (∀ (u14 : CS), P13 u14 → R u14))))))))))))))))
def wC_Tr_goOn (a : Nat → Nat) (R : CS → Prop) (σ : CS) (x1 : Int32) : Prop :=
  (vp_in x1 4 ∧ (((¬ (σ.1 17 x1.toNatClampNeg) = x1) → wC_Tr_goOn_46 a R σ x1) ∧ (((σ.1 17 x1.toNatClampNeg) = x1) → (vp_in x1 4 ∧ ((((σ.1 15 x1.toNatClampNeg) = 2) → wC_Tr_goOn_46 a R σ x1) ∧ ((¬ (σ.1 15 x1.toNatClampNeg) = 2) → (vp_in x1 4 ∧ (∃ P20 : Int32 → CS → Prop, wC_Ro_isEmpty a (x1.toNatClampNeg) P20 σ ∧ (∀ (r22 : Int32) (u21 : CS), P20 r22 u21 → (((¬ r22 = 0) → wC_Tr_goOn_46 a R u21 x1) ∧ ((r22 = 0) → (vp_in x1 4 ∧ (∃ P25 : Int32 → CS → Prop, wC_Ro_takeHead a (x1.toNatClampNeg) P25 u21 ∧ (∀ (r27 : Int32) (u26 : CS), P25 r27 u26 → (∃ P28 : CS → Prop, wC_Tr_serve a P28 u26 x1 r27 ∧ (∀ (u29 : CS), P28 u29 → wC_Tr_goOn_46 a R u29 x1))))))))))))))))
abbrev wsTr_goOn : List Cond := .code yTr_goOn cTr_goOn 2 none :: wg
abbrev rmC_Tr_goOn : Room := { frames := 4, cells := 2, slots := 8, locals := 91 }
set_option maxHeartbeats 4000000 in
set_option maxRecDepth 100000 in
theorem kC_Tr_goOn (l : Launch) (D : va_G) (a : Nat → Nat) (A : Nat → Prop) (t : Nat → ClassId) (σ : CS) (x1 : Int32) (R : CS → Prop) (hwp : wC_Tr_goOn a R σ x1) : Met l yTr_goOn wsTr_goOn rmC_Tr_goOn (va_Pc [.ref (a 19), .int x1] (uI D clA (cT t) A true (cw a t) σ)) (va_Qv R (uI D clA (cT t) A true (cw a t)) A) 2 8 A := by
  refine Met.ofW (cc := cTr_goOn) (maxL := 2) (ret := none) (by decide) rfl ?_
  intro p e s m args below meth c s₁ B hml hv
  obtain ⟨rfl, hP, hK, hD, hA⟩ := hv
  have hx := B.exec
  have hb := B.bytes
  have hr := B.returns
  have hts := atoms_spec (ws := wsTr_goOn) B.pre
  have hown : s.vm.findClass RTr = some m.cls := findClass_of_methodNamed B.named
  have hlocks := B.notSynchronized
  have hinTr : ∀ w ∈ u_ws RTr TTr 7, w ∈ wsTr_goOn := fun w h => List.mem_cons_of_mem _ (inTr w h)
  have ksstate := hts _ (List.mem_cons_of_mem _ wm_83)
  have lk20 := hts _ (List.mem_cons_of_mem _ wm_167)
  have lk25 := hts _ (List.mem_cons_of_mem _ wm_168)
  have lk29 := hts _ (List.mem_cons_of_mem _ wm_169)
  have lk36 := hts _ (List.mem_cons_of_mem _ wm_82)
  have hS : va_S A s.heap s.heap [] := va_S.rf
  have cut46 : ∀ (σ : CS) (y1 : Int32) (H : Heap) (locs : List Loc) (ls : Array Slot), wC_Tr_goOn_46 a R σ y1 → va_P D clA (cw a t σ) H → va_D A (cw a t σ) → va_S A s.heap H locs → lv_has ls 2 [(0, .ref (a 19)), (1, .int y1)] → W p l e (headSpec wsTr_goOn rmC_Tr_goOn).room s m ([.ref (a 19), .int x1] : List Value).toArray below meth c H locs 1 4 (MQ below (va_Qv R (uI D clA (cT t) A true (cw a t)) A) ([.ref (a 19), .int x1] : List Value).toArray s 2 8 A) (F0 m 46 ls []) := by
    intro σ y1 H locs ls hwp hP hD hS hl
    refine lv_aload_n hx hb dTr_goOn_46 rfl (lv_at hl 0 rfl) ?_
    refine va_get (D := D) (ci := 8) (C := RTr) (T := TTr) (N := 7) hx hb hts hinTr hown hK hP 19 rfl rfl 0 (by decide) lk20 (fun _ h9 => h9) rfl dTr_goOn_47 ?_
    refine lv_iload_n hx hb dTr_goOn_50 rfl (lv_at hl 1 rfl) ?_
    obtain ⟨hi1, hwp⟩ := hwp
    refine va_iald hx hb hK hP 21 0 rfl rfl hi1 dTr_goOn_51 ?_
    refine lv_iload_n hx hb dTr_goOn_52 rfl (lv_at hl 1 rfl) ?_
    refine lv_icmp_eq hx hb dTr_goOn_53 rfl (fun h2 => ?_) (fun h2 => ?_)
    · have hwp := hwp.1 h2
      refine W.widen (k := 2) (n := 8) (by omega) (by omega) ?_
      exact W.vret hx hb hr (fun t ht hW => ⟨⟨σ, rfl, hwp, uEnd ht hW hP hK hD hS hA⟩, hS.F ht⟩) hS.2.2 dTr_goOn_97
    · have hwp := hwp.2 h2
      refine lv_aload_n hx hb dTr_goOn_56 rfl (lv_at hl 0 rfl) ?_
      refine va_get (D := D) (ci := 8) (C := RTr) (T := TTr) (N := 7) hx hb hts hinTr hown hK hP 19 rfl rfl 1 (by decide) lk25 (fun _ h9 => h9) rfl dTr_goOn_57 ?_
      refine lv_iload_n hx hb dTr_goOn_60 rfl (lv_at hl 1 rfl) ?_
      obtain ⟨hi3, hwp⟩ := hwp
      refine va_aldq hx hb hK hP 22 5 rfl rfl hi3 dTr_goOn_61 ?_
      refine W.eq (g2 := F0 m 62 ls [.ref (a (25 + y1.toNatClampNeg))]) rfl ?_
      obtain ⟨P4, hP4, hwp⟩ := hwp
      refine uCallVi (As := []) (rest := []) (C := RRo) ⟨hx, hb, hml, hown, hts⟩ (kC_Ro_isEmpty l D a A t (y1.toNatClampNeg) (fx_lt5 hi3) σ  P4 hP4) (cwV 0 hts (gdV wm_445 wm_446 wm_447 wm_8 wm_448) rfl rfl rfl (by decide +kernel) ⟨Nat.le_of_ble_eq_true rfl, Nat.le_of_ble_eq_true rfl⟩) (va_recv (ci := 5) (q0 := (25 + y1.toNatClampNeg)) hK hP rfl (cw_ro (fx_lt5 hi3))) hP hK hD hA hS rfl hl.1 rfl (Nat.le_of_ble_eq_true rfl) dTr_goOn_62 ⟨Nat.le_of_ble_eq_true rfl, Nat.le_of_ble_eq_true rfl⟩ (fun r6 u5 H locs hu5 hP hD hS => ?_)
      have hwp := hwp r6 u5 hu5
      refine lv_if_ne hx hb dTr_goOn_65 rfl (fun h7 => ?_) (fun h7 => ?_)
      · have hwp := hwp.1 h7
        refine W.widen (k := 2) (n := 8) (by omega) (by omega) ?_
        exact W.vret hx hb hr (fun t ht hW => ⟨⟨u5, rfl, hwp, uEnd ht hW hP hK hD hS hA⟩, hS.F ht⟩) hS.2.2 dTr_goOn_97
      · have hwp := hwp.2 h7
        refine lv_aload_n hx hb dTr_goOn_68 rfl (lv_at hl 0 rfl) ?_
        refine va_get (D := D) (ci := 8) (C := RTr) (T := TTr) (N := 7) hx hb hts hinTr hown hK hP 19 rfl rfl 2 (by decide) lk29 (fun _ h9 => h9) rfl dTr_goOn_69 ?_
        refine lv_iload_n hx hb dTr_goOn_72 rfl (lv_at hl 1 rfl) ?_
        obtain ⟨hi8, hwp⟩ := hwp
        refine va_zald hx hb hK hP 23 1 rfl rfl hi8 dTr_goOn_73 ?_
        refine lv_if_ne hx hb dTr_goOn_74 rfl (fun h9 => ?_) (fun h9 => ?_)
        · have hwp := hwp.1 h9
          refine W.widen (k := 2) (n := 8) (by omega) (by omega) ?_
          exact W.vret hx hb hr (fun t ht hW => ⟨⟨u5, rfl, hwp, uEnd ht hW hP hK hD hS hA⟩, hS.F ht⟩) hS.2.2 dTr_goOn_97
        · have hwp := hwp.2 h9
          refine lv_aload_n hx hb dTr_goOn_77 rfl (lv_at hl 0 rfl) ?_
          refine va_get (D := D) (ci := 8) (C := RTr) (T := TTr) (N := 7) hx hb hts hinTr hown hK hP 19 rfl rfl 2 (by decide) lk29 (fun _ h9 => h9) rfl dTr_goOn_78 ?_
          refine lv_iload_n hx hb dTr_goOn_81 rfl (lv_at hl 1 rfl) ?_
          refine lv_iconst (v := 1) hx hb dTr_goOn_82 (by decide) ?_
          obtain ⟨hi10, hwp⟩ := hwp
          refine va_zast hx hb hK hP hD hS 23 1 rfl rfl hi10 dTr_goOn_83 (fun H locs hP hD hS => ?_)
          obtain ⟨σ11, eσ11⟩ : ∃ z, z = cu u5 18 y1.toNatClampNeg (vp_nar .boolean 1) := ⟨_, rfl⟩
          have hwp := hwp σ11 eσ11
          have hP : va_P D clA (cw a t σ11) H := by rw [eσ11]; exact hP
          have hD : va_D A (cw a t σ11) := by rw [eσ11]; exact hD
          refine lv_aload_n hx hb dTr_goOn_84 rfl (lv_at hl 0 rfl) ?_
          refine lv_iload_n hx hb dTr_goOn_85 rfl (lv_at hl 1 rfl) ?_
          refine lv_aload_n hx hb dTr_goOn_86 rfl (lv_at hl 0 rfl) ?_
          refine va_get (D := D) (ci := 8) (C := RTr) (T := TTr) (N := 7) hx hb hts hinTr hown hK hP 19 rfl rfl 0 (by decide) lk20 (fun _ h9 => h9) rfl dTr_goOn_87 ?_
          refine lv_iload_n hx hb dTr_goOn_90 rfl (lv_at hl 1 rfl) ?_
          obtain ⟨hi12, hwp⟩ := hwp
          refine va_iald hx hb hK hP 21 0 rfl rfl hi12 dTr_goOn_91 ?_
          refine lv_iconst (v := 0) hx hb dTr_goOn_92 (by decide) ?_
          refine lv_iconst (v := 0) hx hb dTr_goOn_93 (by decide) ?_
          obtain ⟨P13, hP13, hwp⟩ := hwp
          refine uCallUv (As := [.int y1, .int (σ11.1 17 y1.toNatClampNeg), .int 0, .int 0]) (rest := []) (C := RTr) ⟨hx, hb, hml, hown, hts⟩ (kC_Tr_send l D a A t   σ11 y1 (σ11.1 17 y1.toNatClampNeg) 0 0 P13 hP13) (va_cwU (x := ⟨"NodeServices$TreeLock", "send", "(IIII)V"⟩) (owner := "NodeServices$Service") 4 hts (gdU wm_460 wm_461 wm_463 wm_372 wm_4 wm_379) rfl rfl rfl rfl (by decide +kernel) ⟨Nat.le_of_ble_eq_true rfl, Nat.le_of_ble_eq_true rfl⟩) (va_recv (ci := 8) (q0 := 19) hK hP rfl rfl) hP hK hD hA hS rfl hl.1 rfl (Nat.le_of_ble_eq_true rfl) dTr_goOn_94 ⟨Nat.le_of_ble_eq_true rfl, Nat.le_of_ble_eq_true rfl⟩ (fun u14 H locs hu14 hP hD hS => ?_)
          have hwp := hwp u14 hu14
          exact W.vret hx hb hr (fun t ht hW => ⟨⟨u14, rfl, hwp, uEnd ht hW hP hK hD hS hA⟩, hS.F ht⟩) hS.2.2 dTr_goOn_97
  have hl := lv_entry ([.ref (a 19), .int x1]) (n := 2) (Nat.le_of_ble_eq_true rfl)
  rw [lg_entry_eq]
  generalize (lg_sl ([.ref (a 19), .int x1]) ++ List.replicate (2 - (lg_sl ([.ref (a 19), .int x1])).length) Slot.unset).toArray = ls at hl ⊢
  have hl : lv_has ls 2 [(0, .ref (a 19)), (1, .int x1)] := hl
  refine lv_aload_n hx hb dTr_goOn_0 rfl (lv_at hl 0 rfl) ?_
  refine va_get (D := D) (ci := 8) (C := RTr) (T := TTr) (N := 7) hx hb hts hinTr hown hK hP 19 rfl rfl 0 (by decide) lk20 (fun _ h9 => h9) rfl dTr_goOn_1 ?_
  refine lv_iload_n hx hb dTr_goOn_4 rfl (lv_at hl 1 rfl) ?_
  obtain ⟨hi15, hwp⟩ := hwp
  refine va_iald hx hb hK hP 21 0 rfl rfl hi15 dTr_goOn_5 ?_
  refine lv_iload_n hx hb dTr_goOn_6 rfl (lv_at hl 1 rfl) ?_
  refine lv_icmp_ne hx hb dTr_goOn_7 rfl (fun h16 => ?_) (fun h16 => ?_)
  · have hwp := hwp.1 h16
    refine W.widen (k := 1) (n := 4) (by omega) (by omega) ?_
    exact cut46 σ x1 _ _ _ hwp hP hD hS (lv_sub hl [0, 1] rfl)
  · have hwp := hwp.2 h16
    refine lv_aload_n hx hb dTr_goOn_10 rfl (lv_at hl 0 rfl) ?_
    refine va_get (D := D) (ci := 8) (C := RTr) (T := TTr) (N := 7) hx hb hts hinTr hown hK hP 19 rfl rfl 3 (by decide) lk36 (fun x9 h9 => u_same ksstate x9 h9) rfl dTr_goOn_11 ?_
    refine lv_iload_n hx hb dTr_goOn_14 rfl (lv_at hl 1 rfl) ?_
    obtain ⟨hi17, hwp⟩ := hwp
    refine va_iald hx hb hK hP 20 0 rfl rfl hi17 dTr_goOn_15 ?_
    refine lv_iconst (v := 2) hx hb dTr_goOn_16 (by decide) ?_
    refine lv_icmp_eq hx hb dTr_goOn_17 rfl (fun h18 => ?_) (fun h18 => ?_)
    · have hwp := hwp.1 h18
      refine W.widen (k := 1) (n := 4) (by omega) (by omega) ?_
      exact cut46 σ x1 _ _ _ hwp hP hD hS (lv_sub hl [0, 1] rfl)
    · have hwp := hwp.2 h18
      refine lv_aload_n hx hb dTr_goOn_20 rfl (lv_at hl 0 rfl) ?_
      refine va_get (D := D) (ci := 8) (C := RTr) (T := TTr) (N := 7) hx hb hts hinTr hown hK hP 19 rfl rfl 1 (by decide) lk25 (fun _ h9 => h9) rfl dTr_goOn_21 ?_
      refine lv_iload_n hx hb dTr_goOn_24 rfl (lv_at hl 1 rfl) ?_
      obtain ⟨hi19, hwp⟩ := hwp
      refine va_aldq hx hb hK hP 22 5 rfl rfl hi19 dTr_goOn_25 ?_
      refine W.eq (g2 := F0 m 26 ls [.ref (a (25 + x1.toNatClampNeg))]) rfl ?_
      obtain ⟨P20, hP20, hwp⟩ := hwp
      refine uCallVi (As := []) (rest := []) (C := RRo) ⟨hx, hb, hml, hown, hts⟩ (kC_Ro_isEmpty l D a A t (x1.toNatClampNeg) (fx_lt5 hi19) σ  P20 hP20) (cwV 0 hts (gdV wm_445 wm_446 wm_447 wm_8 wm_448) rfl rfl rfl (by decide +kernel) ⟨Nat.le_of_ble_eq_true rfl, Nat.le_of_ble_eq_true rfl⟩) (va_recv (ci := 5) (q0 := (25 + x1.toNatClampNeg)) hK hP rfl (cw_ro (fx_lt5 hi19))) hP hK hD hA hS rfl hl.1 rfl (Nat.le_of_ble_eq_true rfl) dTr_goOn_26 ⟨Nat.le_of_ble_eq_true rfl, Nat.le_of_ble_eq_true rfl⟩ (fun r22 u21 H locs hu21 hP hD hS => ?_)
      have hwp := hwp r22 u21 hu21
      refine lv_if_ne hx hb dTr_goOn_29 rfl (fun h23 => ?_) (fun h23 => ?_)
      · have hwp := hwp.1 h23
        refine W.widen (k := 1) (n := 4) (by omega) (by omega) ?_
        exact cut46 u21 x1 _ _ _ hwp hP hD hS (lv_sub hl [0, 1] rfl)
      · have hwp := hwp.2 h23
        refine lv_aload_n hx hb dTr_goOn_32 rfl (lv_at hl 0 rfl) ?_
        refine lv_iload_n hx hb dTr_goOn_33 rfl (lv_at hl 1 rfl) ?_
        refine lv_aload_n hx hb dTr_goOn_34 rfl (lv_at hl 0 rfl) ?_
        refine va_get (D := D) (ci := 8) (C := RTr) (T := TTr) (N := 7) hx hb hts hinTr hown hK hP 19 rfl rfl 1 (by decide) lk25 (fun _ h9 => h9) rfl dTr_goOn_35 ?_
        refine lv_iload_n hx hb dTr_goOn_38 rfl (lv_at hl 1 rfl) ?_
        obtain ⟨hi24, hwp⟩ := hwp
        refine va_aldq hx hb hK hP 22 5 rfl rfl hi24 dTr_goOn_39 ?_
        refine W.eq (g2 := F0 m 40 ls [.ref (a (25 + x1.toNatClampNeg)), .int x1, .ref (a 19)]) rfl ?_
        obtain ⟨P25, hP25, hwp⟩ := hwp
        refine uCallVi (As := []) (rest := [.int x1, .ref (a 19)]) (C := RRo) ⟨hx, hb, hml, hown, hts⟩ (kC_Ro_takeHead l D a A t (x1.toNatClampNeg) (fx_lt5 hi24) u21  P25 hP25) (cwV 0 hts (gdV wm_449 wm_450 wm_451 wm_8 wm_452) rfl rfl rfl (by decide +kernel) ⟨Nat.le_of_ble_eq_true rfl, Nat.le_of_ble_eq_true rfl⟩) (va_recv (ci := 5) (q0 := (25 + x1.toNatClampNeg)) hK hP rfl (cw_ro (fx_lt5 hi24))) hP hK hD hA hS rfl hl.1 rfl (Nat.le_of_ble_eq_true rfl) dTr_goOn_40 ⟨Nat.le_of_ble_eq_true rfl, Nat.le_of_ble_eq_true rfl⟩ (fun r27 u26 H locs hu26 hP hD hS => ?_)
        have hwp := hwp r27 u26 hu26
        obtain ⟨P28, hP28, hwp⟩ := hwp
        refine uCallVv (As := [.int x1, .int r27]) (rest := []) (C := RTr) ⟨hx, hb, hml, hown, hts⟩ (kC_Tr_serve l D a A t   u26 x1 r27 P28 hP28) (cwV 2 hts (gdV wm_453 wm_455 wp_3 wm_9 wm_456) rfl rfl rfl (by decide +kernel) ⟨Nat.le_of_ble_eq_true rfl, Nat.le_of_ble_eq_true rfl⟩) (va_recv (ci := 8) (q0 := 19) hK hP rfl rfl) hP hK hD hA hS rfl hl.1 rfl (Nat.le_of_ble_eq_true rfl) dTr_goOn_43 ⟨Nat.le_of_ble_eq_true rfl, Nat.le_of_ble_eq_true rfl⟩ (fun u29 H locs hu29 hP hD hS => ?_)
        have hwp := hwp u29 hu29
        exact cut46 u29 x1 _ _ _ hwp hP hD hS (lv_sub hl [0, 1] rfl)
-- NodeServices$TreeLock: void ask(int), on Tr
def wC_Tr_ask (a : Nat → Nat) (R : CS → Prop) (σ : CS) (x1 : Int32) : Prop :=
  (vp_in x1 4 ∧ (∀ σ2 : CS, σ2 = cu σ 15 x1.toNatClampNeg 1 → (vp_in x1 4 ∧ (∃ P4 : CS → Prop, wC_Ro_append a (x1.toNatClampNeg) P4 σ2 x1 ∧ (∀ (u5 : CS), P4 u5 → (∃ P6 : CS → Prop, wC_Tr_goOn a P6 u5 x1 ∧ (∀ (u7 : CS), P6 u7 → R u7)))))))
abbrev wsTr_ask : List Cond := .code yTr_ask cTr_ask 2 none :: wg
abbrev rmC_Tr_ask : Room := { frames := 5, cells := 2, slots := 8, locals := 112 }
set_option maxHeartbeats 4000000 in
set_option maxRecDepth 100000 in
theorem kC_Tr_ask (l : Launch) (D : va_G) (a : Nat → Nat) (A : Nat → Prop) (t : Nat → ClassId) (σ : CS) (x1 : Int32) (R : CS → Prop) (hwp : wC_Tr_ask a R σ x1) : Met l yTr_ask wsTr_ask rmC_Tr_ask (va_Pc [.ref (a 19), .int x1] (uI D clA (cT t) A true (cw a t) σ)) (va_Qv R (uI D clA (cT t) A true (cw a t)) A) 2 8 A := by
  refine Met.ofW (cc := cTr_ask) (maxL := 2) (ret := none) (by decide) rfl ?_
  intro p e s m args below meth c s₁ B hml hv
  obtain ⟨rfl, hP, hK, hD, hA⟩ := hv
  have hx := B.exec
  have hb := B.bytes
  have hr := B.returns
  have hts := atoms_spec (ws := wsTr_ask) B.pre
  have hown : s.vm.findClass RTr = some m.cls := findClass_of_methodNamed B.named
  have hlocks := B.notSynchronized
  have hinTr : ∀ w ∈ u_ws RTr TTr 7, w ∈ wsTr_ask := fun w h => List.mem_cons_of_mem _ (inTr w h)
  have ksstate := hts _ (List.mem_cons_of_mem _ wm_83)
  have lk25 := hts _ (List.mem_cons_of_mem _ wm_168)
  have lk36 := hts _ (List.mem_cons_of_mem _ wm_82)
  have hS : va_S A s.heap s.heap [] := va_S.rf
  have hl := lv_entry ([.ref (a 19), .int x1]) (n := 2) (Nat.le_of_ble_eq_true rfl)
  rw [lg_entry_eq]
  generalize (lg_sl ([.ref (a 19), .int x1]) ++ List.replicate (2 - (lg_sl ([.ref (a 19), .int x1])).length) Slot.unset).toArray = ls at hl ⊢
  have hl : lv_has ls 2 [(0, .ref (a 19)), (1, .int x1)] := hl
  refine lv_aload_n hx hb dTr_ask_0 rfl (lv_at hl 0 rfl) ?_
  refine va_get (D := D) (ci := 8) (C := RTr) (T := TTr) (N := 7) hx hb hts hinTr hown hK hP 19 rfl rfl 3 (by decide) lk36 (fun x9 h9 => u_same ksstate x9 h9) rfl dTr_ask_1 ?_
  refine lv_iload_n hx hb dTr_ask_4 rfl (lv_at hl 1 rfl) ?_
  refine lv_iconst (v := 1) hx hb dTr_ask_5 (by decide) ?_
  obtain ⟨hi1, hwp⟩ := hwp
  refine va_iast hx hb hK hP hD hS 20 0 rfl rfl hi1 dTr_ask_6 (fun H locs hP hD hS => ?_)
  obtain ⟨σ2, eσ2⟩ : ∃ z, z = cu σ 15 x1.toNatClampNeg 1 := ⟨_, rfl⟩
  have hwp := hwp σ2 eσ2
  have hP : va_P D clA (cw a t σ2) H := by rw [eσ2]; exact hP
  have hD : va_D A (cw a t σ2) := by rw [eσ2]; exact hD
  refine lv_aload_n hx hb dTr_ask_7 rfl (lv_at hl 0 rfl) ?_
  refine va_get (D := D) (ci := 8) (C := RTr) (T := TTr) (N := 7) hx hb hts hinTr hown hK hP 19 rfl rfl 1 (by decide) lk25 (fun _ h9 => h9) rfl dTr_ask_8 ?_
  refine lv_iload_n hx hb dTr_ask_11 rfl (lv_at hl 1 rfl) ?_
  obtain ⟨hi3, hwp⟩ := hwp
  refine va_aldq hx hb hK hP 22 5 rfl rfl hi3 dTr_ask_12 ?_
  refine W.eq (g2 := F0 m 13 ls [.ref (a (25 + x1.toNatClampNeg))]) rfl ?_
  refine lv_iload_n hx hb dTr_ask_13 rfl (lv_at hl 1 rfl) ?_
  obtain ⟨P4, hP4, hwp⟩ := hwp
  refine uCallVv (As := [.int x1]) (rest := []) (C := RRo) ⟨hx, hb, hml, hown, hts⟩ (kC_Ro_append l D a A t (x1.toNatClampNeg) (fx_lt5 hi3) σ2 x1 P4 hP4) (cwV 1 hts (gdV wm_437 wm_438 wm_439 wm_8 wm_440) rfl rfl rfl (by decide +kernel) ⟨Nat.le_of_ble_eq_true rfl, Nat.le_of_ble_eq_true rfl⟩) (va_recv (ci := 5) (q0 := (25 + x1.toNatClampNeg)) hK hP rfl (cw_ro (fx_lt5 hi3))) hP hK hD hA hS rfl hl.1 rfl (Nat.le_of_ble_eq_true rfl) dTr_ask_14 ⟨Nat.le_of_ble_eq_true rfl, Nat.le_of_ble_eq_true rfl⟩ (fun u5 H locs hu5 hP hD hS => ?_)
  have hwp := hwp u5 hu5
  refine lv_aload_n hx hb dTr_ask_17 rfl (lv_at hl 0 rfl) ?_
  refine lv_iload_n hx hb dTr_ask_18 rfl (lv_at hl 1 rfl) ?_
  obtain ⟨P6, hP6, hwp⟩ := hwp
  refine uCallVv (As := [.int x1]) (rest := []) (C := RTr) ⟨hx, hb, hml, hown, hts⟩ (kC_Tr_goOn l D a A t   u5 x1 P6 hP6) (cwV 1 hts (gdV wm_441 wm_443 wp_2 wm_9 wm_444) rfl rfl rfl (by decide +kernel) ⟨Nat.le_of_ble_eq_true rfl, Nat.le_of_ble_eq_true rfl⟩) (va_recv (ci := 8) (q0 := 19) hK hP rfl rfl) hP hK hD hA hS rfl hl.1 rfl (Nat.le_of_ble_eq_true rfl) dTr_ask_19 ⟨Nat.le_of_ble_eq_true rfl, Nat.le_of_ble_eq_true rfl⟩ (fun u7 H locs hu7 hP hD hS => ?_)
  have hwp := hwp u7 hu7
  exact W.vret hx hb hr (fun t ht hW => ⟨⟨u7, rfl, hwp, uEnd ht hW hP hK hD hS hA⟩, hS.F ht⟩) hS.2.2 dTr_ask_22
-- NodeServices$TreeLock: void release(int), on Tr
def wC_Tr_release (a : Nat → Nat) (R : CS → Prop) (σ : CS) (x1 : Int32) : Prop :=
  (vp_in x1 4 ∧ (∀ σ2 : CS, σ2 = cu σ 15 x1.toNatClampNeg 0 → (∃ P3 : CS → Prop, wC_Tr_goOn a P3 σ2 x1 ∧ (∀ (u4 : CS), P3 u4 → R u4))))
abbrev wsTr_release : List Cond := .code yTr_release cTr_release 2 none :: wg
abbrev rmC_Tr_release : Room := { frames := 5, cells := 2, slots := 8, locals := 112 }
set_option maxHeartbeats 4000000 in
set_option maxRecDepth 100000 in
theorem kC_Tr_release (l : Launch) (D : va_G) (a : Nat → Nat) (A : Nat → Prop) (t : Nat → ClassId) (σ : CS) (x1 : Int32) (R : CS → Prop) (hwp : wC_Tr_release a R σ x1) : Met l yTr_release wsTr_release rmC_Tr_release (va_Pc [.ref (a 19), .int x1] (uI D clA (cT t) A true (cw a t) σ)) (va_Qv R (uI D clA (cT t) A true (cw a t)) A) 2 8 A := by
  refine Met.ofW (cc := cTr_release) (maxL := 2) (ret := none) (by decide) rfl ?_
  intro p e s m args below meth c s₁ B hml hv
  obtain ⟨rfl, hP, hK, hD, hA⟩ := hv
  have hx := B.exec
  have hb := B.bytes
  have hr := B.returns
  have hts := atoms_spec (ws := wsTr_release) B.pre
  have hown : s.vm.findClass RTr = some m.cls := findClass_of_methodNamed B.named
  have hlocks := B.notSynchronized
  have hinTr : ∀ w ∈ u_ws RTr TTr 7, w ∈ wsTr_release := fun w h => List.mem_cons_of_mem _ (inTr w h)
  have ksstate := hts _ (List.mem_cons_of_mem _ wm_83)
  have lk36 := hts _ (List.mem_cons_of_mem _ wm_82)
  have hS : va_S A s.heap s.heap [] := va_S.rf
  have hl := lv_entry ([.ref (a 19), .int x1]) (n := 2) (Nat.le_of_ble_eq_true rfl)
  rw [lg_entry_eq]
  generalize (lg_sl ([.ref (a 19), .int x1]) ++ List.replicate (2 - (lg_sl ([.ref (a 19), .int x1])).length) Slot.unset).toArray = ls at hl ⊢
  have hl : lv_has ls 2 [(0, .ref (a 19)), (1, .int x1)] := hl
  refine lv_aload_n hx hb dTr_release_0 rfl (lv_at hl 0 rfl) ?_
  refine va_get (D := D) (ci := 8) (C := RTr) (T := TTr) (N := 7) hx hb hts hinTr hown hK hP 19 rfl rfl 3 (by decide) lk36 (fun x9 h9 => u_same ksstate x9 h9) rfl dTr_release_1 ?_
  refine lv_iload_n hx hb dTr_release_4 rfl (lv_at hl 1 rfl) ?_
  refine lv_iconst (v := 0) hx hb dTr_release_5 (by decide) ?_
  obtain ⟨hi1, hwp⟩ := hwp
  refine va_iast hx hb hK hP hD hS 20 0 rfl rfl hi1 dTr_release_6 (fun H locs hP hD hS => ?_)
  obtain ⟨σ2, eσ2⟩ : ∃ z, z = cu σ 15 x1.toNatClampNeg 0 := ⟨_, rfl⟩
  have hwp := hwp σ2 eσ2
  have hP : va_P D clA (cw a t σ2) H := by rw [eσ2]; exact hP
  have hD : va_D A (cw a t σ2) := by rw [eσ2]; exact hD
  refine lv_aload_n hx hb dTr_release_7 rfl (lv_at hl 0 rfl) ?_
  refine lv_iload_n hx hb dTr_release_8 rfl (lv_at hl 1 rfl) ?_
  obtain ⟨P3, hP3, hwp⟩ := hwp
  refine uCallVv (As := [.int x1]) (rest := []) (C := RTr) ⟨hx, hb, hml, hown, hts⟩ (kC_Tr_goOn l D a A t   σ2 x1 P3 hP3) (cwV 1 hts (gdV wm_441 wm_443 wp_2 wm_9 wm_444) rfl rfl rfl (by decide +kernel) ⟨Nat.le_of_ble_eq_true rfl, Nat.le_of_ble_eq_true rfl⟩) (va_recv (ci := 8) (q0 := 19) hK hP rfl rfl) hP hK hD hA hS rfl hl.1 rfl (Nat.le_of_ble_eq_true rfl) dTr_release_9 ⟨Nat.le_of_ble_eq_true rfl, Nat.le_of_ble_eq_true rfl⟩ (fun u4 H locs hu4 hP hD hS => ?_)
  have hwp := hwp u4 hu4
  exact W.vret hx hb hr (fun t ht hW => ⟨⟨u4, rfl, hwp, uEnd ht hW hP hK hD hS hA⟩, hS.F ht⟩) hS.2.2 dTr_release_12
-- NodeServices$TreeLock: void receive(int, int, NodeServices$Message), on Tr
def wC_Tr_receive_27 (a : Nat → Nat) (q : Nat) (R : CS → Prop) (σ : CS) (y1 : Int32) (y2 : Int32) : Prop :=
  (∃ P1 : CS → Prop, wC_Tr_goOn a P1 σ y2 ∧ (∀ (u2 : CS), P1 u2 → R u2))
def wC_Tr_receive (a : Nat → Nat) (q : Nat) (R : CS → Prop) (σ : CS) (x1 x2 : Int32) : Prop :=
  (q ∈ σ.2.2 ∧ (((¬ (σ.1 42 q) = 0) → (vp_in x2 4 ∧ (∀ σ7 : CS, σ7 = cu σ 17 x2.toNatClampNeg x2 → wC_Tr_receive_27 a q R σ7 x1 x2))) ∧ (((σ.1 42 q) = 0) → (vp_in x2 4 ∧ (∃ P9 : CS → Prop, wC_Ro_append a (x2.toNatClampNeg) P9 σ x1 ∧ (∀ (u10 : CS), P9 u10 → wC_Tr_receive_27 a q R u10 x1 x2))))))
abbrev wsTr_receive : List Cond := .code yTr_receive cTr_receive 4 none :: wg
abbrev rmC_Tr_receive : Room := { frames := 5, cells := 2, slots := 8, locals := 112 }
set_option maxHeartbeats 4000000 in
set_option maxRecDepth 100000 in
theorem kC_Tr_receive (l : Launch) (D : va_G) (a : Nat → Nat) (A : Nat → Prop) (t : Nat → ClassId) (q : Nat) (σ : CS) (x1 x2 : Int32) (R : CS → Prop) (hwp : wC_Tr_receive a q R σ x1 x2) : Met l yTr_receive wsTr_receive rmC_Tr_receive (va_Pc [.ref (a 19), .int x1, .int x2, .ref q] (uI D clA (cT t) A true (cw a t) σ)) (va_Qv R (uI D clA (cT t) A true (cw a t)) A) 2 8 A := by
  refine Met.ofW (cc := cTr_receive) (maxL := 4) (ret := none) (by decide) rfl ?_
  intro p e s m args below meth c s₁ B hml hv
  obtain ⟨rfl, hP, hK, hD, hA⟩ := hv
  have hx := B.exec
  have hb := B.bytes
  have hr := B.returns
  have hts := atoms_spec (ws := wsTr_receive) B.pre
  have hown : s.vm.findClass RTr = some m.cls := findClass_of_methodNamed B.named
  have hlocks := B.notSynchronized
  have hinMs : ∀ w ∈ u_ws RMs TMs 4, w ∈ wsTr_receive := fun w h => List.mem_cons_of_mem _ (inMs w h)
  have hinTr : ∀ w ∈ u_ws RTr TTr 7, w ∈ wsTr_receive := fun w h => List.mem_cons_of_mem _ (inTr w h)
  have lk20 := hts _ (List.mem_cons_of_mem _ wm_167)
  have lk25 := hts _ (List.mem_cons_of_mem _ wm_168)
  have lk46 := hts _ (List.mem_cons_of_mem _ wm_392)
  have hS : va_S A s.heap s.heap [] := va_S.rf
  have cut27 : ∀ (σ : CS) (y1 : Int32) (y2 : Int32) (H : Heap) (locs : List Loc) (ls : Array Slot), wC_Tr_receive_27 a q R σ y1 y2 → va_P D clA (cw a t σ) H → va_D A (cw a t σ) → va_S A s.heap H locs → lv_has ls 4 [(0, .ref (a 19)), (1, .int y1), (2, .int y2), (3, .ref q)] → W p l e (headSpec wsTr_receive rmC_Tr_receive).room s m ([.ref (a 19), .int x1, .int x2, .ref q] : List Value).toArray below meth c H locs 0 0 (MQ below (va_Qv R (uI D clA (cT t) A true (cw a t)) A) ([.ref (a 19), .int x1, .int x2, .ref q] : List Value).toArray s 2 8 A) (F0 m 27 ls []) := by
    intro σ y1 y2 H locs ls hwp hP hD hS hl
    refine lv_aload_n hx hb dTr_receive_27 rfl (lv_at hl 0 rfl) ?_
    refine lv_iload_n hx hb dTr_receive_28 rfl (lv_at hl 2 rfl) ?_
    obtain ⟨P1, hP1, hwp⟩ := hwp
    refine uCallVv (As := [.int y2]) (rest := []) (C := RTr) ⟨hx, hb, hml, hown, hts⟩ (kC_Tr_goOn l D a A t   σ y2 P1 hP1) (cwV 1 hts (gdV wm_441 wm_443 wp_2 wm_9 wm_444) rfl rfl rfl (by decide +kernel) ⟨Nat.le_of_ble_eq_true rfl, Nat.le_of_ble_eq_true rfl⟩) (va_recv (ci := 8) (q0 := 19) hK hP rfl rfl) hP hK hD hA hS rfl hl.1 rfl (Nat.le_of_ble_eq_true rfl) dTr_receive_29 ⟨Nat.le_of_ble_eq_true rfl, Nat.le_of_ble_eq_true rfl⟩ (fun u2 H locs hu2 hP hD hS => ?_)
    have hwp := hwp u2 hu2
    exact W.vret hx hb hr (fun t ht hW => ⟨⟨u2, rfl, hwp, uEnd ht hW hP hK hD hS hA⟩, hS.F ht⟩) hS.2.2 dTr_receive_32
  have hl := lv_entry ([.ref (a 19), .int x1, .int x2, .ref q]) (n := 4) (Nat.le_of_ble_eq_true rfl)
  rw [lg_entry_eq]
  generalize (lg_sl ([.ref (a 19), .int x1, .int x2, .ref q]) ++ List.replicate (4 - (lg_sl ([.ref (a 19), .int x1, .int x2, .ref q])).length) Slot.unset).toArray = ls at hl ⊢
  have hl : lv_has ls 4 [(0, .ref (a 19)), (1, .int x1), (2, .int x2), (3, .ref q)] := hl
  refine lv_aload_n hx hb dTr_receive_0 rfl (lv_at hl 3 rfl) ?_
  obtain ⟨hm3, hwp⟩ := hwp
  obtain ⟨km4, hkm4⟩ := cw_ms (a := a) (t := t) hm3
  refine va_get (D := D) (ci := 4) (C := RMs) (T := TMs) (N := 4) hx hb hts hinMs hown hK hP km4 hkm4 rfl 1 (by decide) lk46 (fun _ h9 => h9) rfl dTr_receive_1 ?_
  refine lv_if_ne hx hb dTr_receive_4 rfl (fun h5 => ?_) (fun h5 => ?_)
  · have hwp := hwp.1 h5
    refine lv_aload_n hx hb dTr_receive_20 rfl (lv_at hl 0 rfl) ?_
    refine va_get (D := D) (ci := 8) (C := RTr) (T := TTr) (N := 7) hx hb hts hinTr hown hK hP 19 rfl rfl 0 (by decide) lk20 (fun _ h9 => h9) rfl dTr_receive_21 ?_
    refine lv_iload_n hx hb dTr_receive_24 rfl (lv_at hl 2 rfl) ?_
    refine lv_iload_n hx hb dTr_receive_25 rfl (lv_at hl 2 rfl) ?_
    obtain ⟨hi6, hwp⟩ := hwp
    refine va_iast hx hb hK hP hD hS 21 0 rfl rfl hi6 dTr_receive_26 (fun H locs hP hD hS => ?_)
    obtain ⟨σ7, eσ7⟩ : ∃ z, z = cu σ 17 x2.toNatClampNeg x2 := ⟨_, rfl⟩
    have hwp := hwp σ7 eσ7
    have hP : va_P D clA (cw a t σ7) H := by rw [eσ7]; exact hP
    have hD : va_D A (cw a t σ7) := by rw [eσ7]; exact hD
    exact cut27 σ7 x1 x2 _ _ _ hwp hP hD hS (lv_sub hl [0, 1, 2, 3] rfl)
  · have hwp := hwp.2 h5
    refine lv_aload_n hx hb dTr_receive_7 rfl (lv_at hl 0 rfl) ?_
    refine va_get (D := D) (ci := 8) (C := RTr) (T := TTr) (N := 7) hx hb hts hinTr hown hK hP 19 rfl rfl 1 (by decide) lk25 (fun _ h9 => h9) rfl dTr_receive_8 ?_
    refine lv_iload_n hx hb dTr_receive_11 rfl (lv_at hl 2 rfl) ?_
    obtain ⟨hi8, hwp⟩ := hwp
    refine va_aldq hx hb hK hP 22 5 rfl rfl hi8 dTr_receive_12 ?_
    refine W.eq (g2 := F0 m 13 ls [.ref (a (25 + x2.toNatClampNeg))]) rfl ?_
    refine lv_iload_n hx hb dTr_receive_13 rfl (lv_at hl 1 rfl) ?_
    obtain ⟨P9, hP9, hwp⟩ := hwp
    refine uCallVv (As := [.int x1]) (rest := []) (C := RRo) ⟨hx, hb, hml, hown, hts⟩ (kC_Ro_append l D a A t (x2.toNatClampNeg) (fx_lt5 hi8) σ x1 P9 hP9) (cwV 1 hts (gdV wm_437 wm_438 wm_439 wm_8 wm_440) rfl rfl rfl (by decide +kernel) ⟨Nat.le_of_ble_eq_true rfl, Nat.le_of_ble_eq_true rfl⟩) (va_recv (ci := 5) (q0 := (25 + x2.toNatClampNeg)) hK hP rfl (cw_ro (fx_lt5 hi8))) hP hK hD hA hS rfl hl.1 rfl (Nat.le_of_ble_eq_true rfl) dTr_receive_14 ⟨Nat.le_of_ble_eq_true rfl, Nat.le_of_ble_eq_true rfl⟩ (fun u10 H locs hu10 hP hD hS => ?_)
    have hwp := hwp u10 hu10
    refine lv_goto hx hb dTr_receive_17 rfl ?_
    exact cut27 u10 x1 x2 _ _ _ hwp hP hD hS (lv_sub hl [0, 1, 2, 3] rfl)
-- NodeServices$Election: int condition(int), on El
def wC_El_condition (a : Nat → Nat) (R : Int32 → CS → Prop) (σ : CS) (x1 : Int32) : Prop :=
  (vp_in x1 4 ∧ R (σ.1 31 x1.toNatClampNeg) σ)
abbrev wsEl_condition : List Cond := .code yEl_condition cEl_condition 2 (some .int) :: wg
abbrev rmC_El_condition : Room := { frames := 0, cells := 0, slots := 0, locals := 0 }
set_option maxHeartbeats 4000000 in
set_option maxRecDepth 100000 in
theorem kC_El_condition (l : Launch) (D : va_G) (a : Nat → Nat) (A : Nat → Prop) (t : Nat → ClassId) (σ : CS) (x1 : Int32) (R : Int32 → CS → Prop) (hwp : wC_El_condition a R σ x1) : Met l yEl_condition wsEl_condition rmC_El_condition (va_Pc [.ref (a 24), .int x1] (uI D clA (cT t) A true (cw a t) σ)) (va_Qi R (uI D clA (cT t) A true (cw a t)) A) 0 0 A := by
  refine Met.ofW (cc := cEl_condition) (maxL := 2) (ret := (some .int)) (by decide) rfl ?_
  intro p e s m args below meth c s₁ B hml hv
  obtain ⟨rfl, hP, hK, hD, hA⟩ := hv
  have hx := B.exec
  have hb := B.bytes
  have hr := B.returns
  have hts := atoms_spec (ws := wsEl_condition) B.pre
  have hown : s.vm.findClass REl = some m.cls := findClass_of_methodNamed B.named
  have hlocks := B.notSynchronized
  have hinEl : ∀ w ∈ u_ws REl TEl 5, w ∈ wsEl_condition := fun w h => List.mem_cons_of_mem _ (inEl w h)
  have lk19 := hts _ (List.mem_cons_of_mem _ wm_193)
  have hS : va_S A s.heap s.heap [] := va_S.rf
  have hl := lv_entry ([.ref (a 24), .int x1]) (n := 2) (Nat.le_of_ble_eq_true rfl)
  rw [lg_entry_eq]
  generalize (lg_sl ([.ref (a 24), .int x1]) ++ List.replicate (2 - (lg_sl ([.ref (a 24), .int x1])).length) Slot.unset).toArray = ls at hl ⊢
  have hl : lv_has ls 2 [(0, .ref (a 24)), (1, .int x1)] := hl
  refine lv_aload_n hx hb dEl_condition_0 rfl (lv_at hl 0 rfl) ?_
  refine va_get (D := D) (ci := 9) (C := REl) (T := TEl) (N := 5) hx hb hts hinEl hown hK hP 24 rfl rfl 2 (by decide) lk19 (fun _ h9 => h9) rfl dEl_condition_1 ?_
  refine lv_iload_n hx hb dEl_condition_4 rfl (lv_at hl 1 rfl) ?_
  obtain ⟨hi1, hwp⟩ := hwp
  refine va_iald hx hb hK hP 37 0 rfl rfl hi1 dEl_condition_5 ?_
  exact W.iret (v := σ.1 31 x1.toNatClampNeg) hx hb hr (fun t ht hW => ⟨⟨σ.1 31 x1.toNatClampNeg, σ, rfl, hwp, uEnd ht hW hP hK hD hS hA⟩, hS.F ht⟩) hS.2.2 dEl_condition_6
-- NodeServices$Election: int detail(int), on El
def wC_El_detail (a : Nat → Nat) (R : Int32 → CS → Prop) (σ : CS) (x1 : Int32) : Prop :=
  (vp_in x1 4 ∧ ((((σ.1 29 x1.toNatClampNeg) = 0) → (vp_in x1 4 ∧ R (σ.1 30 x1.toNatClampNeg) σ)) ∧ ((¬ (σ.1 29 x1.toNatClampNeg) = 0) → (vp_in x1 4 ∧ R ((σ.1 30 x1.toNatClampNeg) + 1000) σ))))
abbrev wsEl_detail : List Cond := .code yEl_detail cEl_detail 2 (some .int) :: wg
abbrev rmC_El_detail : Room := { frames := 0, cells := 0, slots := 0, locals := 0 }
set_option maxHeartbeats 4000000 in
set_option maxRecDepth 100000 in
theorem kC_El_detail (l : Launch) (D : va_G) (a : Nat → Nat) (A : Nat → Prop) (t : Nat → ClassId) (σ : CS) (x1 : Int32) (R : Int32 → CS → Prop) (hwp : wC_El_detail a R σ x1) : Met l yEl_detail wsEl_detail rmC_El_detail (va_Pc [.ref (a 24), .int x1] (uI D clA (cT t) A true (cw a t) σ)) (va_Qi R (uI D clA (cT t) A true (cw a t)) A) 0 0 A := by
  refine Met.ofW (cc := cEl_detail) (maxL := 2) (ret := (some .int)) (by decide) rfl ?_
  intro p e s m args below meth c s₁ B hml hv
  obtain ⟨rfl, hP, hK, hD, hA⟩ := hv
  have hx := B.exec
  have hb := B.bytes
  have hr := B.returns
  have hts := atoms_spec (ws := wsEl_detail) B.pre
  have hown : s.vm.findClass REl = some m.cls := findClass_of_methodNamed B.named
  have hlocks := B.notSynchronized
  have hinEl : ∀ w ∈ u_ws REl TEl 5, w ∈ wsEl_detail := fun w h => List.mem_cons_of_mem _ (inEl w h)
  have lk15 := hts _ (List.mem_cons_of_mem _ wm_192)
  have lk9 := hts _ (List.mem_cons_of_mem _ wm_190)
  have hS : va_S A s.heap s.heap [] := va_S.rf
  have hl := lv_entry ([.ref (a 24), .int x1]) (n := 2) (Nat.le_of_ble_eq_true rfl)
  rw [lg_entry_eq]
  generalize (lg_sl ([.ref (a 24), .int x1]) ++ List.replicate (2 - (lg_sl ([.ref (a 24), .int x1])).length) Slot.unset).toArray = ls at hl ⊢
  have hl : lv_has ls 2 [(0, .ref (a 24)), (1, .int x1)] := hl
  refine lv_aload_n hx hb dEl_detail_0 rfl (lv_at hl 0 rfl) ?_
  refine va_get (D := D) (ci := 9) (C := REl) (T := TEl) (N := 5) hx hb hts hinEl hown hK hP 24 rfl rfl 0 (by decide) lk9 (fun _ h9 => h9) rfl dEl_detail_1 ?_
  refine lv_iload_n hx hb dEl_detail_4 rfl (lv_at hl 1 rfl) ?_
  obtain ⟨hi1, hwp⟩ := hwp
  refine va_zald hx hb hK hP 35 1 rfl rfl hi1 dEl_detail_5 ?_
  refine lv_if_eq hx hb dEl_detail_6 rfl (fun h2 => ?_) (fun h2 => ?_)
  · have hwp := hwp.1 h2
    refine lv_aload_n hx hb dEl_detail_22 rfl (lv_at hl 0 rfl) ?_
    refine va_get (D := D) (ci := 9) (C := REl) (T := TEl) (N := 5) hx hb hts hinEl hown hK hP 24 rfl rfl 1 (by decide) lk15 (fun _ h9 => h9) rfl dEl_detail_23 ?_
    refine lv_iload_n hx hb dEl_detail_26 rfl (lv_at hl 1 rfl) ?_
    obtain ⟨hi3, hwp⟩ := hwp
    refine va_iald hx hb hK hP 36 0 rfl rfl hi3 dEl_detail_27 ?_
    exact W.iret (v := σ.1 30 x1.toNatClampNeg) hx hb hr (fun t ht hW => ⟨⟨σ.1 30 x1.toNatClampNeg, σ, rfl, hwp, uEnd ht hW hP hK hD hS hA⟩, hS.F ht⟩) hS.2.2 dEl_detail_28
  · have hwp := hwp.2 h2
    refine lv_aload_n hx hb dEl_detail_9 rfl (lv_at hl 0 rfl) ?_
    refine va_get (D := D) (ci := 9) (C := REl) (T := TEl) (N := 5) hx hb hts hinEl hown hK hP 24 rfl rfl 1 (by decide) lk15 (fun _ h9 => h9) rfl dEl_detail_10 ?_
    refine lv_iload_n hx hb dEl_detail_13 rfl (lv_at hl 1 rfl) ?_
    obtain ⟨hi4, hwp⟩ := hwp
    refine va_iald hx hb hK hP 36 0 rfl rfl hi4 dEl_detail_14 ?_
    refine lv_sipush (v := 1000) hx hb dEl_detail_15 (by decide) ?_
    refine lv_iadd hx hb dEl_detail_18 ?_
    refine lv_goto hx hb dEl_detail_19 rfl ?_
    exact W.iret (v := (σ.1 30 x1.toNatClampNeg) + 1000) hx hb hr (fun t ht hW => ⟨⟨(σ.1 30 x1.toNatClampNeg) + 1000, σ, rfl, hwp, uEnd ht hW hP hK hD hS hA⟩, hS.F ht⟩) hS.2.2 dEl_detail_28
-- NodeServices$Election: private void sendOn(int, int, int), on El
def wC_El_sendOn (a : Nat → Nat) (R : CS → Prop) (σ : CS) (x1 x2 x3 : Int32) : Prop :=
  (∃ P1 : CS → Prop, wC_El_send a P1 σ x1 ((x1 + 1) - (x1 + 1) / 4 * 4) x2 x3 ∧ (∀ (u2 : CS), P1 u2 → R u2))
abbrev wsEl_sendOn : List Cond := .code yEl_sendOn cEl_sendOn 4 none :: wg
abbrev rmC_El_sendOn : Room := { frames := 3, cells := 1, slots := 4, locals := 69 }
set_option maxHeartbeats 4000000 in
set_option maxRecDepth 100000 in
theorem kC_El_sendOn (l : Launch) (D : va_G) (a : Nat → Nat) (A : Nat → Prop) (t : Nat → ClassId) (σ : CS) (x1 x2 x3 : Int32) (R : CS → Prop) (hwp : wC_El_sendOn a R σ x1 x2 x3) : Met l yEl_sendOn wsEl_sendOn rmC_El_sendOn (va_Pc [.ref (a 24), .int x1, .int x2, .int x3] (uI D clA (cT t) A true (cw a t) σ)) (va_Qv R (uI D clA (cT t) A true (cw a t)) A) 1 4 A := by
  refine Met.ofW (cc := cEl_sendOn) (maxL := 4) (ret := none) (by decide) rfl ?_
  intro p e s m args below meth c s₁ B hml hv
  obtain ⟨rfl, hP, hK, hD, hA⟩ := hv
  have hx := B.exec
  have hb := B.bytes
  have hr := B.returns
  have hts := atoms_spec (ws := wsEl_sendOn) B.pre
  have hown : s.vm.findClass REl = some m.cls := findClass_of_methodNamed B.named
  have hlocks := B.notSynchronized
  have hS : va_S A s.heap s.heap [] := va_S.rf
  have hl := lv_entry ([.ref (a 24), .int x1, .int x2, .int x3]) (n := 4) (Nat.le_of_ble_eq_true rfl)
  rw [lg_entry_eq]
  generalize (lg_sl ([.ref (a 24), .int x1, .int x2, .int x3]) ++ List.replicate (4 - (lg_sl ([.ref (a 24), .int x1, .int x2, .int x3])).length) Slot.unset).toArray = ls at hl ⊢
  have hl : lv_has ls 4 [(0, .ref (a 24)), (1, .int x1), (2, .int x2), (3, .int x3)] := hl
  refine lv_aload_n hx hb dEl_sendOn_0 rfl (lv_at hl 0 rfl) ?_
  refine lv_iload_n hx hb dEl_sendOn_1 rfl (lv_at hl 1 rfl) ?_
  refine lv_iload_n hx hb dEl_sendOn_2 rfl (lv_at hl 1 rfl) ?_
  refine lv_iconst (v := 1) hx hb dEl_sendOn_3 (by decide) ?_
  refine lv_iadd hx hb dEl_sendOn_4 ?_
  refine lv_iconst (v := 4) hx hb dEl_sendOn_5 (by decide) ?_
  refine lv_irem hx hb dEl_sendOn_6 (by decide) ?_
  refine lv_iload_n hx hb dEl_sendOn_7 rfl (lv_at hl 2 rfl) ?_
  refine lv_iload_n hx hb dEl_sendOn_8 rfl (lv_at hl 3 rfl) ?_
  obtain ⟨P1, hP1, hwp⟩ := hwp
  refine uCallUv (As := [.int x1, .int ((x1 + 1) - (x1 + 1) / 4 * 4), .int x2, .int x3]) (rest := []) (C := REl) ⟨hx, hb, hml, hown, hts⟩ (kC_El_send l D a A t   σ x1 ((x1 + 1) - (x1 + 1) / 4 * 4) x2 x3 P1 hP1) (va_cwU (x := ⟨"NodeServices$Election", "send", "(IIII)V"⟩) (owner := "NodeServices$Service") 4 hts (gdU wm_521 wm_522 wm_523 wm_372 wm_4 wm_379) rfl rfl rfl rfl (by decide +kernel) ⟨Nat.le_of_ble_eq_true rfl, Nat.le_of_ble_eq_true rfl⟩) (va_recv (ci := 9) (q0 := 24) hK hP rfl rfl) hP hK hD hA hS rfl hl.1 rfl (Nat.le_of_ble_eq_true rfl) dEl_sendOn_9 ⟨Nat.le_of_ble_eq_true rfl, Nat.le_of_ble_eq_true rfl⟩ (fun u2 H locs hu2 hP hD hS => ?_)
  have hwp := hwp u2 hu2
  exact W.vret hx hb hr (fun t ht hW => ⟨⟨u2, rfl, hwp, uEnd ht hW hP hK hD hS hA⟩, hS.F ht⟩) hS.2.2 dEl_sendOn_12
-- NodeServices$Election: void stand(int), on El
def wC_El_stand (a : Nat → Nat) (R : CS → Prop) (σ : CS) (x1 : Int32) : Prop :=
  (vp_in x1 4 ∧ (∀ σ2 : CS, σ2 = cu σ 29 x1.toNatClampNeg (vp_nar .boolean 1) → (vp_in x1 4 ∧ (∃ P4 : CS → Prop, wC_El_sendOn a P4 σ2 x1 0 (σ2.1 30 x1.toNatClampNeg) ∧ (∀ (u5 : CS), P4 u5 → R u5)))))
abbrev wsEl_stand : List Cond := .code yEl_stand cEl_stand 2 none :: wg
abbrev rmC_El_stand : Room := { frames := 4, cells := 1, slots := 4, locals := 92 }
set_option maxHeartbeats 4000000 in
set_option maxRecDepth 100000 in
theorem kC_El_stand (l : Launch) (D : va_G) (a : Nat → Nat) (A : Nat → Prop) (t : Nat → ClassId) (σ : CS) (x1 : Int32) (R : CS → Prop) (hwp : wC_El_stand a R σ x1) : Met l yEl_stand wsEl_stand rmC_El_stand (va_Pc [.ref (a 24), .int x1] (uI D clA (cT t) A true (cw a t) σ)) (va_Qv R (uI D clA (cT t) A true (cw a t)) A) 1 4 A := by
  refine Met.ofW (cc := cEl_stand) (maxL := 2) (ret := none) (by decide) rfl ?_
  intro p e s m args below meth c s₁ B hml hv
  obtain ⟨rfl, hP, hK, hD, hA⟩ := hv
  have hx := B.exec
  have hb := B.bytes
  have hr := B.returns
  have hts := atoms_spec (ws := wsEl_stand) B.pre
  have hown : s.vm.findClass REl = some m.cls := findClass_of_methodNamed B.named
  have hlocks := B.notSynchronized
  have hinEl : ∀ w ∈ u_ws REl TEl 5, w ∈ wsEl_stand := fun w h => List.mem_cons_of_mem _ (inEl w h)
  have lk15 := hts _ (List.mem_cons_of_mem _ wm_192)
  have lk9 := hts _ (List.mem_cons_of_mem _ wm_190)
  have hS : va_S A s.heap s.heap [] := va_S.rf
  have hl := lv_entry ([.ref (a 24), .int x1]) (n := 2) (Nat.le_of_ble_eq_true rfl)
  rw [lg_entry_eq]
  generalize (lg_sl ([.ref (a 24), .int x1]) ++ List.replicate (2 - (lg_sl ([.ref (a 24), .int x1])).length) Slot.unset).toArray = ls at hl ⊢
  have hl : lv_has ls 2 [(0, .ref (a 24)), (1, .int x1)] := hl
  refine lv_aload_n hx hb dEl_stand_0 rfl (lv_at hl 0 rfl) ?_
  refine va_get (D := D) (ci := 9) (C := REl) (T := TEl) (N := 5) hx hb hts hinEl hown hK hP 24 rfl rfl 0 (by decide) lk9 (fun _ h9 => h9) rfl dEl_stand_1 ?_
  refine lv_iload_n hx hb dEl_stand_4 rfl (lv_at hl 1 rfl) ?_
  refine lv_iconst (v := 1) hx hb dEl_stand_5 (by decide) ?_
  obtain ⟨hi1, hwp⟩ := hwp
  refine va_zast hx hb hK hP hD hS 35 1 rfl rfl hi1 dEl_stand_6 (fun H locs hP hD hS => ?_)
  obtain ⟨σ2, eσ2⟩ : ∃ z, z = cu σ 29 x1.toNatClampNeg (vp_nar .boolean 1) := ⟨_, rfl⟩
  have hwp := hwp σ2 eσ2
  have hP : va_P D clA (cw a t σ2) H := by rw [eσ2]; exact hP
  have hD : va_D A (cw a t σ2) := by rw [eσ2]; exact hD
  refine lv_aload_n hx hb dEl_stand_7 rfl (lv_at hl 0 rfl) ?_
  refine lv_iload_n hx hb dEl_stand_8 rfl (lv_at hl 1 rfl) ?_
  refine lv_iconst (v := 0) hx hb dEl_stand_9 (by decide) ?_
  refine lv_aload_n hx hb dEl_stand_10 rfl (lv_at hl 0 rfl) ?_
  refine va_get (D := D) (ci := 9) (C := REl) (T := TEl) (N := 5) hx hb hts hinEl hown hK hP 24 rfl rfl 1 (by decide) lk15 (fun _ h9 => h9) rfl dEl_stand_11 ?_
  refine lv_iload_n hx hb dEl_stand_14 rfl (lv_at hl 1 rfl) ?_
  obtain ⟨hi3, hwp⟩ := hwp
  refine va_iald hx hb hK hP 36 0 rfl rfl hi3 dEl_stand_15 ?_
  obtain ⟨P4, hP4, hwp⟩ := hwp
  refine uCallVv (As := [.int x1, .int 0, .int (σ2.1 30 x1.toNatClampNeg)]) (rest := []) (C := REl) ⟨hx, hb, hml, hown, hts⟩ (kC_El_sendOn l D a A t   σ2 x1 0 (σ2.1 30 x1.toNatClampNeg) P4 hP4) (cwV 3 hts (gdV wm_517 wm_519 wp_6 wm_10 wm_520) rfl rfl rfl (by decide +kernel) ⟨Nat.le_of_ble_eq_true rfl, Nat.le_of_ble_eq_true rfl⟩) (va_recv (ci := 9) (q0 := 24) hK hP rfl rfl) hP hK hD hA hS rfl hl.1 rfl (Nat.le_of_ble_eq_true rfl) dEl_stand_16 ⟨Nat.le_of_ble_eq_true rfl, Nat.le_of_ble_eq_true rfl⟩ (fun u5 H locs hu5 hP hD hS => ?_)
  have hwp := hwp u5 hu5
  exact W.vret hx hb hr (fun t ht hW => ⟨⟨u5, rfl, hwp, uEnd ht hW hP hK hD hS hA⟩, hS.F ht⟩) hS.2.2 dEl_stand_19
-- NodeServices$Election: private void takeElect(int, int), on El
def wC_El_takeElect (a : Nat → Nat) (R : CS → Prop) (σ : CS) (x1 x2 : Int32) : Prop :=
  (vp_in x1 4 ∧ (((x2 ≤ (σ.1 30 x1.toNatClampNeg)) → (vp_in x1 4 ∧ (((¬ x2 = (σ.1 30 x1.toNatClampNeg)) → (vp_in x1 4 ∧ (((¬ (σ.1 29 x1.toNatClampNeg) = 0) → R σ) ∧ (((σ.1 29 x1.toNatClampNeg) = 0) → (∃ P7 : CS → Prop, wC_El_stand a P7 σ x1 ∧ (∀ (u8 : CS), P7 u8 → R u8)))))) ∧ ((x2 = (σ.1 30 x1.toNatClampNeg)) → (vp_in x1 4 ∧ (∀ σ10 : CS, σ10 = cu σ 29 x1.toNatClampNeg (vp_nar .boolean 0) → (vp_in x1 4 ∧ (∀ σ12 : CS, σ12 = cu σ10 31 x1.toNatClampNeg x2 → (∃ P13 : CS → Prop, wC_El_sendOn a P13 σ12 x1 1 x2 ∧ (∀ (u14 : CS), P13 u14 → R u14)))))))))) ∧ ((¬ x2 ≤ (σ.1 30 x1.toNatClampNeg)) → (vp_in x1 4 ∧ (∀ σ16 : CS, σ16 = cu σ 29 x1.toNatClampNeg (vp_nar .boolean 1) → (∃ P17 : CS → Prop, wC_El_sendOn a P17 σ16 x1 0 x2 ∧ (∀ (u18 : CS), P17 u18 → R u18)))))))
abbrev wsEl_takeElect : List Cond := .code yEl_takeElect cEl_takeElect 3 none :: wg
abbrev rmC_El_takeElect : Room := { frames := 5, cells := 1, slots := 4, locals := 113 }
set_option maxHeartbeats 4000000 in
set_option maxRecDepth 100000 in
theorem kC_El_takeElect (l : Launch) (D : va_G) (a : Nat → Nat) (A : Nat → Prop) (t : Nat → ClassId) (σ : CS) (x1 x2 : Int32) (R : CS → Prop) (hwp : wC_El_takeElect a R σ x1 x2) : Met l yEl_takeElect wsEl_takeElect rmC_El_takeElect (va_Pc [.ref (a 24), .int x1, .int x2] (uI D clA (cT t) A true (cw a t) σ)) (va_Qv R (uI D clA (cT t) A true (cw a t)) A) 1 4 A := by
  refine Met.ofW (cc := cEl_takeElect) (maxL := 3) (ret := none) (by decide) rfl ?_
  intro p e s m args below meth c s₁ B hml hv
  obtain ⟨rfl, hP, hK, hD, hA⟩ := hv
  have hx := B.exec
  have hb := B.bytes
  have hr := B.returns
  have hts := atoms_spec (ws := wsEl_takeElect) B.pre
  have hown : s.vm.findClass REl = some m.cls := findClass_of_methodNamed B.named
  have hlocks := B.notSynchronized
  have hinEl : ∀ w ∈ u_ws REl TEl 5, w ∈ wsEl_takeElect := fun w h => List.mem_cons_of_mem _ (inEl w h)
  have lk15 := hts _ (List.mem_cons_of_mem _ wm_192)
  have lk19 := hts _ (List.mem_cons_of_mem _ wm_193)
  have lk9 := hts _ (List.mem_cons_of_mem _ wm_190)
  have hS : va_S A s.heap s.heap [] := va_S.rf
  have hl := lv_entry ([.ref (a 24), .int x1, .int x2]) (n := 3) (Nat.le_of_ble_eq_true rfl)
  rw [lg_entry_eq]
  generalize (lg_sl ([.ref (a 24), .int x1, .int x2]) ++ List.replicate (3 - (lg_sl ([.ref (a 24), .int x1, .int x2])).length) Slot.unset).toArray = ls at hl ⊢
  have hl : lv_has ls 3 [(0, .ref (a 24)), (1, .int x1), (2, .int x2)] := hl
  refine lv_iload_n hx hb dEl_takeElect_0 rfl (lv_at hl 2 rfl) ?_
  refine lv_aload_n hx hb dEl_takeElect_1 rfl (lv_at hl 0 rfl) ?_
  refine va_get (D := D) (ci := 9) (C := REl) (T := TEl) (N := 5) hx hb hts hinEl hown hK hP 24 rfl rfl 1 (by decide) lk15 (fun _ h9 => h9) rfl dEl_takeElect_2 ?_
  refine lv_iload_n hx hb dEl_takeElect_5 rfl (lv_at hl 1 rfl) ?_
  obtain ⟨hi1, hwp⟩ := hwp
  refine va_iald hx hb hK hP 36 0 rfl rfl hi1 dEl_takeElect_6 ?_
  refine lv_icmp_le hx hb dEl_takeElect_7 rfl (fun h2 => ?_) (fun h2 => ?_)
  · have hwp := hwp.1 h2
    refine lv_iload_n hx hb dEl_takeElect_27 rfl (lv_at hl 2 rfl) ?_
    refine lv_aload_n hx hb dEl_takeElect_28 rfl (lv_at hl 0 rfl) ?_
    refine va_get (D := D) (ci := 9) (C := REl) (T := TEl) (N := 5) hx hb hts hinEl hown hK hP 24 rfl rfl 1 (by decide) lk15 (fun _ h9 => h9) rfl dEl_takeElect_29 ?_
    refine lv_iload_n hx hb dEl_takeElect_32 rfl (lv_at hl 1 rfl) ?_
    obtain ⟨hi3, hwp⟩ := hwp
    refine va_iald hx hb hK hP 36 0 rfl rfl hi3 dEl_takeElect_33 ?_
    refine lv_icmp_ne hx hb dEl_takeElect_34 rfl (fun h4 => ?_) (fun h4 => ?_)
    · have hwp := hwp.1 h4
      refine lv_aload_n hx hb dEl_takeElect_61 rfl (lv_at hl 0 rfl) ?_
      refine va_get (D := D) (ci := 9) (C := REl) (T := TEl) (N := 5) hx hb hts hinEl hown hK hP 24 rfl rfl 0 (by decide) lk9 (fun _ h9 => h9) rfl dEl_takeElect_62 ?_
      refine lv_iload_n hx hb dEl_takeElect_65 rfl (lv_at hl 1 rfl) ?_
      obtain ⟨hi5, hwp⟩ := hwp
      refine va_zald hx hb hK hP 35 1 rfl rfl hi5 dEl_takeElect_66 ?_
      refine lv_if_ne hx hb dEl_takeElect_67 rfl (fun h6 => ?_) (fun h6 => ?_)
      · have hwp := hwp.1 h6
        refine W.widen (k := 1) (n := 4) (by omega) (by omega) ?_
        exact W.vret hx hb hr (fun t ht hW => ⟨⟨σ, rfl, hwp, uEnd ht hW hP hK hD hS hA⟩, hS.F ht⟩) hS.2.2 dEl_takeElect_75
      · have hwp := hwp.2 h6
        refine lv_aload_n hx hb dEl_takeElect_70 rfl (lv_at hl 0 rfl) ?_
        refine lv_iload_n hx hb dEl_takeElect_71 rfl (lv_at hl 1 rfl) ?_
        obtain ⟨P7, hP7, hwp⟩ := hwp
        refine uCallVv (As := [.int x1]) (rest := []) (C := REl) ⟨hx, hb, hml, hown, hts⟩ (kC_El_stand l D a A t   σ x1 P7 hP7) (cwV 1 hts (gdV wm_622 wm_514 wm_515 wm_10 wm_516) rfl rfl rfl (by decide +kernel) ⟨Nat.le_of_ble_eq_true rfl, Nat.le_of_ble_eq_true rfl⟩) (va_recv (ci := 9) (q0 := 24) hK hP rfl rfl) hP hK hD hA hS rfl hl.1 rfl (Nat.le_of_ble_eq_true rfl) dEl_takeElect_72 ⟨Nat.le_of_ble_eq_true rfl, Nat.le_of_ble_eq_true rfl⟩ (fun u8 H locs hu8 hP hD hS => ?_)
        have hwp := hwp u8 hu8
        exact W.vret hx hb hr (fun t ht hW => ⟨⟨u8, rfl, hwp, uEnd ht hW hP hK hD hS hA⟩, hS.F ht⟩) hS.2.2 dEl_takeElect_75
    · have hwp := hwp.2 h4
      refine lv_aload_n hx hb dEl_takeElect_37 rfl (lv_at hl 0 rfl) ?_
      refine va_get (D := D) (ci := 9) (C := REl) (T := TEl) (N := 5) hx hb hts hinEl hown hK hP 24 rfl rfl 0 (by decide) lk9 (fun _ h9 => h9) rfl dEl_takeElect_38 ?_
      refine lv_iload_n hx hb dEl_takeElect_41 rfl (lv_at hl 1 rfl) ?_
      refine lv_iconst (v := 0) hx hb dEl_takeElect_42 (by decide) ?_
      obtain ⟨hi9, hwp⟩ := hwp
      refine va_zast hx hb hK hP hD hS 35 1 rfl rfl hi9 dEl_takeElect_43 (fun H locs hP hD hS => ?_)
      obtain ⟨σ10, eσ10⟩ : ∃ z, z = cu σ 29 x1.toNatClampNeg (vp_nar .boolean 0) := ⟨_, rfl⟩
      have hwp := hwp σ10 eσ10
      have hP : va_P D clA (cw a t σ10) H := by rw [eσ10]; exact hP
      have hD : va_D A (cw a t σ10) := by rw [eσ10]; exact hD
      refine lv_aload_n hx hb dEl_takeElect_44 rfl (lv_at hl 0 rfl) ?_
      refine va_get (D := D) (ci := 9) (C := REl) (T := TEl) (N := 5) hx hb hts hinEl hown hK hP 24 rfl rfl 2 (by decide) lk19 (fun _ h9 => h9) rfl dEl_takeElect_45 ?_
      refine lv_iload_n hx hb dEl_takeElect_48 rfl (lv_at hl 1 rfl) ?_
      refine lv_iload_n hx hb dEl_takeElect_49 rfl (lv_at hl 2 rfl) ?_
      obtain ⟨hi11, hwp⟩ := hwp
      refine va_iast hx hb hK hP hD hS 37 0 rfl rfl hi11 dEl_takeElect_50 (fun H locs hP hD hS => ?_)
      obtain ⟨σ12, eσ12⟩ : ∃ z, z = cu σ10 31 x1.toNatClampNeg x2 := ⟨_, rfl⟩
      have hwp := hwp σ12 eσ12
      have hP : va_P D clA (cw a t σ12) H := by rw [eσ12]; exact hP
      have hD : va_D A (cw a t σ12) := by rw [eσ12]; exact hD
      refine lv_aload_n hx hb dEl_takeElect_51 rfl (lv_at hl 0 rfl) ?_
      refine lv_iload_n hx hb dEl_takeElect_52 rfl (lv_at hl 1 rfl) ?_
      refine lv_iconst (v := 1) hx hb dEl_takeElect_53 (by decide) ?_
      refine lv_iload_n hx hb dEl_takeElect_54 rfl (lv_at hl 2 rfl) ?_
      obtain ⟨P13, hP13, hwp⟩ := hwp
      refine uCallVv (As := [.int x1, .int 1, .int x2]) (rest := []) (C := REl) ⟨hx, hb, hml, hown, hts⟩ (kC_El_sendOn l D a A t   σ12 x1 1 x2 P13 hP13) (cwV 3 hts (gdV wm_517 wm_519 wp_6 wm_10 wm_520) rfl rfl rfl (by decide +kernel) ⟨Nat.le_of_ble_eq_true rfl, Nat.le_of_ble_eq_true rfl⟩) (va_recv (ci := 9) (q0 := 24) hK hP rfl rfl) hP hK hD hA hS rfl hl.1 rfl (Nat.le_of_ble_eq_true rfl) dEl_takeElect_55 ⟨Nat.le_of_ble_eq_true rfl, Nat.le_of_ble_eq_true rfl⟩ (fun u14 H locs hu14 hP hD hS => ?_)
      have hwp := hwp u14 hu14
      refine lv_goto hx hb dEl_takeElect_58 rfl ?_
      exact W.vret hx hb hr (fun t ht hW => ⟨⟨u14, rfl, hwp, uEnd ht hW hP hK hD hS hA⟩, hS.F ht⟩) hS.2.2 dEl_takeElect_75
  · have hwp := hwp.2 h2
    refine lv_aload_n hx hb dEl_takeElect_10 rfl (lv_at hl 0 rfl) ?_
    refine va_get (D := D) (ci := 9) (C := REl) (T := TEl) (N := 5) hx hb hts hinEl hown hK hP 24 rfl rfl 0 (by decide) lk9 (fun _ h9 => h9) rfl dEl_takeElect_11 ?_
    refine lv_iload_n hx hb dEl_takeElect_14 rfl (lv_at hl 1 rfl) ?_
    refine lv_iconst (v := 1) hx hb dEl_takeElect_15 (by decide) ?_
    obtain ⟨hi15, hwp⟩ := hwp
    refine va_zast hx hb hK hP hD hS 35 1 rfl rfl hi15 dEl_takeElect_16 (fun H locs hP hD hS => ?_)
    obtain ⟨σ16, eσ16⟩ : ∃ z, z = cu σ 29 x1.toNatClampNeg (vp_nar .boolean 1) := ⟨_, rfl⟩
    have hwp := hwp σ16 eσ16
    have hP : va_P D clA (cw a t σ16) H := by rw [eσ16]; exact hP
    have hD : va_D A (cw a t σ16) := by rw [eσ16]; exact hD
    refine lv_aload_n hx hb dEl_takeElect_17 rfl (lv_at hl 0 rfl) ?_
    refine lv_iload_n hx hb dEl_takeElect_18 rfl (lv_at hl 1 rfl) ?_
    refine lv_iconst (v := 0) hx hb dEl_takeElect_19 (by decide) ?_
    refine lv_iload_n hx hb dEl_takeElect_20 rfl (lv_at hl 2 rfl) ?_
    obtain ⟨P17, hP17, hwp⟩ := hwp
    refine uCallVv (As := [.int x1, .int 0, .int x2]) (rest := []) (C := REl) ⟨hx, hb, hml, hown, hts⟩ (kC_El_sendOn l D a A t   σ16 x1 0 x2 P17 hP17) (cwV 3 hts (gdV wm_517 wm_519 wp_6 wm_10 wm_520) rfl rfl rfl (by decide +kernel) ⟨Nat.le_of_ble_eq_true rfl, Nat.le_of_ble_eq_true rfl⟩) (va_recv (ci := 9) (q0 := 24) hK hP rfl rfl) hP hK hD hA hS rfl hl.1 rfl (Nat.le_of_ble_eq_true rfl) dEl_takeElect_21 ⟨Nat.le_of_ble_eq_true rfl, Nat.le_of_ble_eq_true rfl⟩ (fun u18 H locs hu18 hP hD hS => ?_)
    have hwp := hwp u18 hu18
    refine lv_goto hx hb dEl_takeElect_24 rfl ?_
    exact W.vret hx hb hr (fun t ht hW => ⟨⟨u18, rfl, hwp, uEnd ht hW hP hK hD hS hA⟩, hS.F ht⟩) hS.2.2 dEl_takeElect_75
-- NodeServices$Election: private void takeLeader(int, int), on El
def wC_El_takeLeader (a : Nat → Nat) (R : CS → Prop) (σ : CS) (x1 x2 : Int32) : Prop :=
  (vp_in x1 4 ∧ (((x2 = (σ.1 30 x1.toNatClampNeg)) → R σ) ∧ ((¬ x2 = (σ.1 30 x1.toNatClampNeg)) → (vp_in x1 4 ∧ (∀ σ4 : CS, σ4 = cu σ 31 x1.toNatClampNeg x2 → (vp_in x1 4 ∧ (∀ σ6 : CS, σ6 = cu σ4 29 x1.toNatClampNeg (vp_nar .boolean 0) → (∃ P7 : CS → Prop, wC_El_sendOn a P7 σ6 x1 1 x2 ∧ (∀ (u8 : CS), P7 u8 → R u8)))))))))
abbrev wsEl_takeLeader : List Cond := .code yEl_takeLeader cEl_takeLeader 3 none :: wg
abbrev rmC_El_takeLeader : Room := { frames := 4, cells := 1, slots := 4, locals := 92 }
set_option maxHeartbeats 4000000 in
set_option maxRecDepth 100000 in
theorem kC_El_takeLeader (l : Launch) (D : va_G) (a : Nat → Nat) (A : Nat → Prop) (t : Nat → ClassId) (σ : CS) (x1 x2 : Int32) (R : CS → Prop) (hwp : wC_El_takeLeader a R σ x1 x2) : Met l yEl_takeLeader wsEl_takeLeader rmC_El_takeLeader (va_Pc [.ref (a 24), .int x1, .int x2] (uI D clA (cT t) A true (cw a t) σ)) (va_Qv R (uI D clA (cT t) A true (cw a t)) A) 1 4 A := by
  refine Met.ofW (cc := cEl_takeLeader) (maxL := 3) (ret := none) (by decide) rfl ?_
  intro p e s m args below meth c s₁ B hml hv
  obtain ⟨rfl, hP, hK, hD, hA⟩ := hv
  have hx := B.exec
  have hb := B.bytes
  have hr := B.returns
  have hts := atoms_spec (ws := wsEl_takeLeader) B.pre
  have hown : s.vm.findClass REl = some m.cls := findClass_of_methodNamed B.named
  have hlocks := B.notSynchronized
  have hinEl : ∀ w ∈ u_ws REl TEl 5, w ∈ wsEl_takeLeader := fun w h => List.mem_cons_of_mem _ (inEl w h)
  have lk15 := hts _ (List.mem_cons_of_mem _ wm_192)
  have lk19 := hts _ (List.mem_cons_of_mem _ wm_193)
  have lk9 := hts _ (List.mem_cons_of_mem _ wm_190)
  have hS : va_S A s.heap s.heap [] := va_S.rf
  have hl := lv_entry ([.ref (a 24), .int x1, .int x2]) (n := 3) (Nat.le_of_ble_eq_true rfl)
  rw [lg_entry_eq]
  generalize (lg_sl ([.ref (a 24), .int x1, .int x2]) ++ List.replicate (3 - (lg_sl ([.ref (a 24), .int x1, .int x2])).length) Slot.unset).toArray = ls at hl ⊢
  have hl : lv_has ls 3 [(0, .ref (a 24)), (1, .int x1), (2, .int x2)] := hl
  refine lv_iload_n hx hb dEl_takeLeader_0 rfl (lv_at hl 2 rfl) ?_
  refine lv_aload_n hx hb dEl_takeLeader_1 rfl (lv_at hl 0 rfl) ?_
  refine va_get (D := D) (ci := 9) (C := REl) (T := TEl) (N := 5) hx hb hts hinEl hown hK hP 24 rfl rfl 1 (by decide) lk15 (fun _ h9 => h9) rfl dEl_takeLeader_2 ?_
  refine lv_iload_n hx hb dEl_takeLeader_5 rfl (lv_at hl 1 rfl) ?_
  obtain ⟨hi1, hwp⟩ := hwp
  refine va_iald hx hb hK hP 36 0 rfl rfl hi1 dEl_takeLeader_6 ?_
  refine lv_icmp_eq hx hb dEl_takeLeader_7 rfl (fun h2 => ?_) (fun h2 => ?_)
  · have hwp := hwp.1 h2
    refine W.widen (k := 1) (n := 4) (by omega) (by omega) ?_
    exact W.vret hx hb hr (fun t ht hW => ⟨⟨σ, rfl, hwp, uEnd ht hW hP hK hD hS hA⟩, hS.F ht⟩) hS.2.2 dEl_takeLeader_31
  · have hwp := hwp.2 h2
    refine lv_aload_n hx hb dEl_takeLeader_10 rfl (lv_at hl 0 rfl) ?_
    refine va_get (D := D) (ci := 9) (C := REl) (T := TEl) (N := 5) hx hb hts hinEl hown hK hP 24 rfl rfl 2 (by decide) lk19 (fun _ h9 => h9) rfl dEl_takeLeader_11 ?_
    refine lv_iload_n hx hb dEl_takeLeader_14 rfl (lv_at hl 1 rfl) ?_
    refine lv_iload_n hx hb dEl_takeLeader_15 rfl (lv_at hl 2 rfl) ?_
    obtain ⟨hi3, hwp⟩ := hwp
    refine va_iast hx hb hK hP hD hS 37 0 rfl rfl hi3 dEl_takeLeader_16 (fun H locs hP hD hS => ?_)
    obtain ⟨σ4, eσ4⟩ : ∃ z, z = cu σ 31 x1.toNatClampNeg x2 := ⟨_, rfl⟩
    have hwp := hwp σ4 eσ4
    have hP : va_P D clA (cw a t σ4) H := by rw [eσ4]; exact hP
    have hD : va_D A (cw a t σ4) := by rw [eσ4]; exact hD
    refine lv_aload_n hx hb dEl_takeLeader_17 rfl (lv_at hl 0 rfl) ?_
    refine va_get (D := D) (ci := 9) (C := REl) (T := TEl) (N := 5) hx hb hts hinEl hown hK hP 24 rfl rfl 0 (by decide) lk9 (fun _ h9 => h9) rfl dEl_takeLeader_18 ?_
    refine lv_iload_n hx hb dEl_takeLeader_21 rfl (lv_at hl 1 rfl) ?_
    refine lv_iconst (v := 0) hx hb dEl_takeLeader_22 (by decide) ?_
    obtain ⟨hi5, hwp⟩ := hwp
    refine va_zast hx hb hK hP hD hS 35 1 rfl rfl hi5 dEl_takeLeader_23 (fun H locs hP hD hS => ?_)
    obtain ⟨σ6, eσ6⟩ : ∃ z, z = cu σ4 29 x1.toNatClampNeg (vp_nar .boolean 0) := ⟨_, rfl⟩
    have hwp := hwp σ6 eσ6
    have hP : va_P D clA (cw a t σ6) H := by rw [eσ6]; exact hP
    have hD : va_D A (cw a t σ6) := by rw [eσ6]; exact hD
    refine lv_aload_n hx hb dEl_takeLeader_24 rfl (lv_at hl 0 rfl) ?_
    refine lv_iload_n hx hb dEl_takeLeader_25 rfl (lv_at hl 1 rfl) ?_
    refine lv_iconst (v := 1) hx hb dEl_takeLeader_26 (by decide) ?_
    refine lv_iload_n hx hb dEl_takeLeader_27 rfl (lv_at hl 2 rfl) ?_
    obtain ⟨P7, hP7, hwp⟩ := hwp
    refine uCallVv (As := [.int x1, .int 1, .int x2]) (rest := []) (C := REl) ⟨hx, hb, hml, hown, hts⟩ (kC_El_sendOn l D a A t   σ6 x1 1 x2 P7 hP7) (cwV 3 hts (gdV wm_517 wm_519 wp_6 wm_10 wm_520) rfl rfl rfl (by decide +kernel) ⟨Nat.le_of_ble_eq_true rfl, Nat.le_of_ble_eq_true rfl⟩) (va_recv (ci := 9) (q0 := 24) hK hP rfl rfl) hP hK hD hA hS rfl hl.1 rfl (Nat.le_of_ble_eq_true rfl) dEl_takeLeader_28 ⟨Nat.le_of_ble_eq_true rfl, Nat.le_of_ble_eq_true rfl⟩ (fun u8 H locs hu8 hP hD hS => ?_)
    have hwp := hwp u8 hu8
    exact W.vret hx hb hr (fun t ht hW => ⟨⟨u8, rfl, hwp, uEnd ht hW hP hK hD hS hA⟩, hS.F ht⟩) hS.2.2 dEl_takeLeader_31
-- NodeServices$Election: void receive(int, int, NodeServices$Message), on El
def wC_El_receive (a : Nat → Nat) (q : Nat) (R : CS → Prop) (σ : CS) (x1 x2 : Int32) : Prop :=
  (q ∈ σ.2.2 ∧ (((¬ (σ.1 42 q) = 0) → (q ∈ σ.2.2 ∧ (∃ P6 : CS → Prop, wC_El_takeLeader a P6 σ x2 (σ.1 43 q) ∧ (∀ (u7 : CS), P6 u7 → R u7)))) ∧ (((σ.1 42 q) = 0) → (q ∈ σ.2.2 ∧ (∃ P10 : CS → Prop, wC_El_takeElect a P10 σ x2 (σ.1 43 q) ∧ (∀ (u11 : CS), P10 u11 → R u11))))))
abbrev wsEl_receive : List Cond := .code yEl_receive cEl_receive 4 none :: wg
abbrev rmC_El_receive : Room := { frames := 6, cells := 1, slots := 4, locals := 135 }
set_option maxHeartbeats 4000000 in
set_option maxRecDepth 100000 in
theorem kC_El_receive (l : Launch) (D : va_G) (a : Nat → Nat) (A : Nat → Prop) (t : Nat → ClassId) (q : Nat) (σ : CS) (x1 x2 : Int32) (R : CS → Prop) (hwp : wC_El_receive a q R σ x1 x2) : Met l yEl_receive wsEl_receive rmC_El_receive (va_Pc [.ref (a 24), .int x1, .int x2, .ref q] (uI D clA (cT t) A true (cw a t) σ)) (va_Qv R (uI D clA (cT t) A true (cw a t)) A) 1 4 A := by
  refine Met.ofW (cc := cEl_receive) (maxL := 4) (ret := none) (by decide) rfl ?_
  intro p e s m args below meth c s₁ B hml hv
  obtain ⟨rfl, hP, hK, hD, hA⟩ := hv
  have hx := B.exec
  have hb := B.bytes
  have hr := B.returns
  have hts := atoms_spec (ws := wsEl_receive) B.pre
  have hown : s.vm.findClass REl = some m.cls := findClass_of_methodNamed B.named
  have hlocks := B.notSynchronized
  have hinMs : ∀ w ∈ u_ws RMs TMs 4, w ∈ wsEl_receive := fun w h => List.mem_cons_of_mem _ (inMs w h)
  have lk32 := hts _ (List.mem_cons_of_mem _ wm_389)
  have lk38 := hts _ (List.mem_cons_of_mem _ wm_396)
  have hS : va_S A s.heap s.heap [] := va_S.rf
  have hl := lv_entry ([.ref (a 24), .int x1, .int x2, .ref q]) (n := 4) (Nat.le_of_ble_eq_true rfl)
  rw [lg_entry_eq]
  generalize (lg_sl ([.ref (a 24), .int x1, .int x2, .ref q]) ++ List.replicate (4 - (lg_sl ([.ref (a 24), .int x1, .int x2, .ref q])).length) Slot.unset).toArray = ls at hl ⊢
  have hl : lv_has ls 4 [(0, .ref (a 24)), (1, .int x1), (2, .int x2), (3, .ref q)] := hl
  refine lv_aload_n hx hb dEl_receive_0 rfl (lv_at hl 3 rfl) ?_
  obtain ⟨hm1, hwp⟩ := hwp
  obtain ⟨km2, hkm2⟩ := cw_ms (a := a) (t := t) hm1
  refine va_get (D := D) (ci := 4) (C := RMs) (T := TMs) (N := 4) hx hb hts hinMs hown hK hP km2 hkm2 rfl 1 (by decide) lk32 (fun _ h9 => h9) rfl dEl_receive_1 ?_
  refine lv_if_ne hx hb dEl_receive_4 rfl (fun h3 => ?_) (fun h3 => ?_)
  · have hwp := hwp.1 h3
    refine lv_aload_n hx hb dEl_receive_19 rfl (lv_at hl 0 rfl) ?_
    refine lv_iload_n hx hb dEl_receive_20 rfl (lv_at hl 2 rfl) ?_
    refine lv_aload_n hx hb dEl_receive_21 rfl (lv_at hl 3 rfl) ?_
    obtain ⟨hm4, hwp⟩ := hwp
    obtain ⟨km5, hkm5⟩ := cw_ms (a := a) (t := t) hm4
    refine va_get (D := D) (ci := 4) (C := RMs) (T := TMs) (N := 4) hx hb hts hinMs hown hK hP km5 hkm5 rfl 2 (by decide) lk38 (fun _ h9 => h9) rfl dEl_receive_22 ?_
    obtain ⟨P6, hP6, hwp⟩ := hwp
    refine uCallVv (As := [.int x2, .int (σ.1 43 q)]) (rest := []) (C := REl) ⟨hx, hb, hml, hown, hts⟩ (kC_El_takeLeader l D a A t   σ x2 (σ.1 43 q) P6 hP6) (cwV 2 hts (gdV wm_623 wm_625 wp_10 wm_10 wm_626) rfl rfl rfl (by decide +kernel) ⟨Nat.le_of_ble_eq_true rfl, Nat.le_of_ble_eq_true rfl⟩) (va_recv (ci := 9) (q0 := 24) hK hP rfl rfl) hP hK hD hA hS rfl hl.1 rfl (Nat.le_of_ble_eq_true rfl) dEl_receive_25 ⟨Nat.le_of_ble_eq_true rfl, Nat.le_of_ble_eq_true rfl⟩ (fun u7 H locs hu7 hP hD hS => ?_)
    have hwp := hwp u7 hu7
    exact W.vret hx hb hr (fun t ht hW => ⟨⟨u7, rfl, hwp, uEnd ht hW hP hK hD hS hA⟩, hS.F ht⟩) hS.2.2 dEl_receive_28
  · have hwp := hwp.2 h3
    refine lv_aload_n hx hb dEl_receive_7 rfl (lv_at hl 0 rfl) ?_
    refine lv_iload_n hx hb dEl_receive_8 rfl (lv_at hl 2 rfl) ?_
    refine lv_aload_n hx hb dEl_receive_9 rfl (lv_at hl 3 rfl) ?_
    obtain ⟨hm8, hwp⟩ := hwp
    obtain ⟨km9, hkm9⟩ := cw_ms (a := a) (t := t) hm8
    refine va_get (D := D) (ci := 4) (C := RMs) (T := TMs) (N := 4) hx hb hts hinMs hown hK hP km9 hkm9 rfl 2 (by decide) lk38 (fun _ h9 => h9) rfl dEl_receive_10 ?_
    obtain ⟨P10, hP10, hwp⟩ := hwp
    refine uCallVv (As := [.int x2, .int (σ.1 43 q)]) (rest := []) (C := REl) ⟨hx, hb, hml, hown, hts⟩ (kC_El_takeElect l D a A t   σ x2 (σ.1 43 q) P10 hP10) (cwV 2 hts (gdV wm_618 wm_620 wp_9 wm_10 wm_621) rfl rfl rfl (by decide +kernel) ⟨Nat.le_of_ble_eq_true rfl, Nat.le_of_ble_eq_true rfl⟩) (va_recv (ci := 9) (q0 := 24) hK hP rfl rfl) hP hK hD hA hS rfl hl.1 rfl (Nat.le_of_ble_eq_true rfl) dEl_receive_13 ⟨Nat.le_of_ble_eq_true rfl, Nat.le_of_ble_eq_true rfl⟩ (fun u11 H locs hu11 hP hD hS => ?_)
    have hwp := hwp u11 hu11
    refine lv_goto hx hb dEl_receive_16 rfl ?_
    exact W.vret hx hb hr (fun t ht hW => ⟨⟨u11, rfl, hwp, uEnd ht hW hP hK hD hS hA⟩, hS.F ht⟩) hS.2.2 dEl_receive_28
-- NodeServices$Work: private boolean isEngaged(int), on Wk
def wC_Wk_isEngaged_18 (a : Nat → Nat) (R : Int32 → CS → Prop) (σ : CS) (y1 : Int32) : Prop :=
  R 1 σ
def wC_Wk_isEngaged (a : Nat → Nat) (R : Int32 → CS → Prop) (σ : CS) (x1 : Int32) : Prop :=
  ((((σ.1 33 0) = x1) → wC_Wk_isEngaged_18 a R σ x1) ∧ ((¬ (σ.1 33 0) = x1) → (vp_in x1 4 ∧ ((((σ.1 35 x1.toNatClampNeg) = (-1)) → R 0 σ) ∧ ((¬ (σ.1 35 x1.toNatClampNeg) = (-1)) → wC_Wk_isEngaged_18 a R σ x1)))))
abbrev wsWk_isEngaged : List Cond := .code yWk_isEngaged cWk_isEngaged 2 (some .boolean) :: wg
abbrev rmC_Wk_isEngaged : Room := { frames := 0, cells := 0, slots := 0, locals := 0 }
set_option maxHeartbeats 4000000 in
set_option maxRecDepth 100000 in
theorem kC_Wk_isEngaged (l : Launch) (D : va_G) (a : Nat → Nat) (A : Nat → Prop) (t : Nat → ClassId) (σ : CS) (x1 : Int32) (R : Int32 → CS → Prop) (hwp : wC_Wk_isEngaged a R σ x1) : Met l yWk_isEngaged wsWk_isEngaged rmC_Wk_isEngaged (va_Pc [.ref (a 38), .int x1] (uI D clA (cT t) A true (cw a t) σ)) (va_Qi R (uI D clA (cT t) A true (cw a t)) A) 0 0 A := by
  refine Met.ofW (cc := cWk_isEngaged) (maxL := 2) (ret := (some .boolean)) (by decide) rfl ?_
  intro p e s m args below meth c s₁ B hml hv
  obtain ⟨rfl, hP, hK, hD, hA⟩ := hv
  have hx := B.exec
  have hb := B.bytes
  have hr := B.returns
  have hts := atoms_spec (ws := wsWk_isEngaged) B.pre
  have hown : s.vm.findClass RWk = some m.cls := findClass_of_methodNamed B.named
  have hlocks := B.notSynchronized
  have hinWk : ∀ w ∈ u_ws RWk TWk 7, w ∈ wsWk_isEngaged := fun w h => List.mem_cons_of_mem _ (inWk w h)
  have lk15 := hts _ (List.mem_cons_of_mem _ wm_211)
  have lk19 := hts _ (List.mem_cons_of_mem _ wm_215)
  have hS : va_S A s.heap s.heap [] := va_S.rf
  have cut18 : ∀ (σ : CS) (y1 : Int32) (H : Heap) (locs : List Loc) (ls : Array Slot), wC_Wk_isEngaged_18 a R σ y1 → va_P D clA (cw a t σ) H → va_D A (cw a t σ) → va_S A s.heap H locs → lv_has ls 2 [(0, .ref (a 38)), (1, .int y1)] → W p l e (headSpec wsWk_isEngaged rmC_Wk_isEngaged).room s m ([.ref (a 38), .int x1] : List Value).toArray below meth c H locs 0 0 (MQ below (va_Qi R (uI D clA (cT t) A true (cw a t)) A) ([.ref (a 38), .int x1] : List Value).toArray s 0 0 A) (F0 m 18 ls []) := by
    intro σ y1 H locs ls hwp hP hD hS hl
    refine lv_iconst (v := 1) hx hb dWk_isEngaged_18 (by decide) ?_
    refine lv_goto hx hb dWk_isEngaged_19 rfl ?_
    exact W.zret (v := 1) hx hb hr (by decide) (fun t ht hW => ⟨⟨1, σ, rfl, hwp, uEnd ht hW hP hK hD hS hA⟩, hS.F ht⟩) hS.2.2 dWk_isEngaged_23
  have hl := lv_entry ([.ref (a 38), .int x1]) (n := 2) (Nat.le_of_ble_eq_true rfl)
  rw [lg_entry_eq]
  generalize (lg_sl ([.ref (a 38), .int x1]) ++ List.replicate (2 - (lg_sl ([.ref (a 38), .int x1])).length) Slot.unset).toArray = ls at hl ⊢
  have hl : lv_has ls 2 [(0, .ref (a 38)), (1, .int x1)] := hl
  refine lv_aload_n hx hb dWk_isEngaged_0 rfl (lv_at hl 0 rfl) ?_
  refine va_get (D := D) (ci := 10) (C := RWk) (T := TWk) (N := 7) hx hb hts hinWk hown hK hP 38 rfl rfl 1 (by decide) lk15 (fun _ h9 => h9) rfl dWk_isEngaged_1 ?_
  refine lv_iload_n hx hb dWk_isEngaged_4 rfl (lv_at hl 1 rfl) ?_
  refine lv_icmp_eq hx hb dWk_isEngaged_5 rfl (fun h1 => ?_) (fun h1 => ?_)
  · have hwp := hwp.1 h1
    exact cut18 σ x1 _ _ _ hwp hP hD hS (lv_sub hl [0, 1] rfl)
  · have hwp := hwp.2 h1
    refine lv_aload_n hx hb dWk_isEngaged_8 rfl (lv_at hl 0 rfl) ?_
    refine va_get (D := D) (ci := 10) (C := RWk) (T := TWk) (N := 7) hx hb hts hinWk hown hK hP 38 rfl rfl 3 (by decide) lk19 (fun _ h9 => h9) rfl dWk_isEngaged_9 ?_
    refine lv_iload_n hx hb dWk_isEngaged_12 rfl (lv_at hl 1 rfl) ?_
    obtain ⟨hi2, hwp⟩ := hwp
    refine va_iald hx hb hK hP 40 0 rfl rfl hi2 dWk_isEngaged_13 ?_
    refine lv_iconst (v := (-1)) hx hb dWk_isEngaged_14 (by decide) ?_
    refine lv_icmp_eq hx hb dWk_isEngaged_15 rfl (fun h3 => ?_) (fun h3 => ?_)
    · have hwp := hwp.1 h3
      refine lv_iconst (v := 0) hx hb dWk_isEngaged_22 (by decide) ?_
      exact W.zret (v := 0) hx hb hr (by decide) (fun t ht hW => ⟨⟨0, σ, rfl, hwp, uEnd ht hW hP hK hD hS hA⟩, hS.F ht⟩) hS.2.2 dWk_isEngaged_23
    · have hwp := hwp.2 h3
      exact cut18 σ x1 _ _ _ hwp hP hD hS (lv_sub hl [0, 1] rfl)
-- NodeServices$Work: int condition(int), on Wk
def wC_Wk_condition_27 (a : Nat → Nat) (R : Int32 → CS → Prop) (σ : CS) (y1 : Int32) (z0 : Int32) (z1 : Int32) : Prop :=
  (vp_in y1 4 ∧ R ((z0 + z1) + (4 * (σ.1 36 y1.toNatClampNeg))) σ)
def wC_Wk_condition_14 (a : Nat → Nat) (R : Int32 → CS → Prop) (σ : CS) (y1 : Int32) (z0 : Int32) : Prop :=
  (∃ P2 : Int32 → CS → Prop, wC_Wk_isEngaged a P2 σ y1 ∧ (∀ (r4 : Int32) (u3 : CS), P2 r4 u3 → (((r4 = 0) → wC_Wk_condition_27 a R u3 y1 z0 0) ∧ ((¬ r4 = 0) → wC_Wk_condition_27 a R u3 y1 z0 2))))
def wC_Wk_condition (a : Nat → Nat) (R : Int32 → CS → Prop) (σ : CS) (x1 : Int32) : Prop :=
  (vp_in x1 4 ∧ ((((σ.1 32 x1.toNatClampNeg) = 0) → wC_Wk_condition_14 a R σ x1 0) ∧ ((¬ (σ.1 32 x1.toNatClampNeg) = 0) → wC_Wk_condition_14 a R σ x1 1)))
abbrev wsWk_condition : List Cond := .code yWk_condition cWk_condition 2 (some .int) :: wg
abbrev rmC_Wk_condition : Room := { frames := 1, cells := 0, slots := 0, locals := 21 }
set_option maxHeartbeats 4000000 in
set_option maxRecDepth 100000 in
theorem kC_Wk_condition (l : Launch) (D : va_G) (a : Nat → Nat) (A : Nat → Prop) (t : Nat → ClassId) (σ : CS) (x1 : Int32) (R : Int32 → CS → Prop) (hwp : wC_Wk_condition a R σ x1) : Met l yWk_condition wsWk_condition rmC_Wk_condition (va_Pc [.ref (a 38), .int x1] (uI D clA (cT t) A true (cw a t) σ)) (va_Qi R (uI D clA (cT t) A true (cw a t)) A) 0 0 A := by
  refine Met.ofW (cc := cWk_condition) (maxL := 2) (ret := (some .int)) (by decide) rfl ?_
  intro p e s m args below meth c s₁ B hml hv
  obtain ⟨rfl, hP, hK, hD, hA⟩ := hv
  have hx := B.exec
  have hb := B.bytes
  have hr := B.returns
  have hts := atoms_spec (ws := wsWk_condition) B.pre
  have hown : s.vm.findClass RWk = some m.cls := findClass_of_methodNamed B.named
  have hlocks := B.notSynchronized
  have hinWk : ∀ w ∈ u_ws RWk TWk 7, w ∈ wsWk_condition := fun w h => List.mem_cons_of_mem _ (inWk w h)
  have lk23 := hts _ (List.mem_cons_of_mem _ wm_216)
  have lk9 := hts _ (List.mem_cons_of_mem _ wm_209)
  have hS : va_S A s.heap s.heap [] := va_S.rf
  have cut27 : ∀ (σ : CS) (y1 : Int32) (z0 : Int32) (z1 : Int32) (H : Heap) (locs : List Loc) (ls : Array Slot), wC_Wk_condition_27 a R σ y1 z0 z1 → va_P D clA (cw a t σ) H → va_D A (cw a t σ) → va_S A s.heap H locs → lv_has ls 2 [(0, .ref (a 38)), (1, .int y1)] → W p l e (headSpec wsWk_condition rmC_Wk_condition).room s m ([.ref (a 38), .int x1] : List Value).toArray below meth c H locs 0 0 (MQ below (va_Qi R (uI D clA (cT t) A true (cw a t)) A) ([.ref (a 38), .int x1] : List Value).toArray s 0 0 A) (F0 m 27 ls [.int z1, .int z0]) := by
    intro σ y1 z0 z1 H locs ls hwp hP hD hS hl
    refine lv_iadd hx hb dWk_condition_27 ?_
    refine lv_iconst (v := 4) hx hb dWk_condition_28 (by decide) ?_
    refine lv_aload_n hx hb dWk_condition_29 rfl (lv_at hl 0 rfl) ?_
    refine va_get (D := D) (ci := 10) (C := RWk) (T := TWk) (N := 7) hx hb hts hinWk hown hK hP 38 rfl rfl 4 (by decide) lk23 (fun _ h9 => h9) rfl dWk_condition_30 ?_
    refine lv_iload_n hx hb dWk_condition_33 rfl (lv_at hl 1 rfl) ?_
    obtain ⟨hi1, hwp⟩ := hwp
    refine va_iald hx hb hK hP 41 0 rfl rfl hi1 dWk_condition_34 ?_
    refine lv_imul hx hb dWk_condition_35 ?_
    refine lv_iadd hx hb dWk_condition_36 ?_
    exact W.iret (v := (z0 + z1) + (4 * (σ.1 36 y1.toNatClampNeg))) hx hb hr (fun t ht hW => ⟨⟨(z0 + z1) + (4 * (σ.1 36 y1.toNatClampNeg)), σ, rfl, hwp, uEnd ht hW hP hK hD hS hA⟩, hS.F ht⟩) hS.2.2 dWk_condition_37
  have cut14 : ∀ (σ : CS) (y1 : Int32) (z0 : Int32) (H : Heap) (locs : List Loc) (ls : Array Slot), wC_Wk_condition_14 a R σ y1 z0 → va_P D clA (cw a t σ) H → va_D A (cw a t σ) → va_S A s.heap H locs → lv_has ls 2 [(0, .ref (a 38)), (1, .int y1)] → W p l e (headSpec wsWk_condition rmC_Wk_condition).room s m ([.ref (a 38), .int x1] : List Value).toArray below meth c H locs 0 0 (MQ below (va_Qi R (uI D clA (cT t) A true (cw a t)) A) ([.ref (a 38), .int x1] : List Value).toArray s 0 0 A) (F0 m 14 ls [.int z0]) := by
    intro σ y1 z0 H locs ls hwp hP hD hS hl
    refine lv_aload_n hx hb dWk_condition_14 rfl (lv_at hl 0 rfl) ?_
    refine lv_iload_n hx hb dWk_condition_15 rfl (lv_at hl 1 rfl) ?_
    obtain ⟨P2, hP2, hwp⟩ := hwp
    refine uCallVi (As := [.int y1]) (rest := [.int z0]) (C := RWk) ⟨hx, hb, hml, hown, hts⟩ (kC_Wk_isEngaged l D a A t   σ y1 P2 hP2) (cwV 1 hts (gdV wm_535 wm_537 wp_7 wm_12 wm_538) rfl rfl rfl (by decide +kernel) ⟨Nat.le_of_ble_eq_true rfl, Nat.le_of_ble_eq_true rfl⟩) (va_recv (ci := 10) (q0 := 38) hK hP rfl rfl) hP hK hD hA hS rfl hl.1 rfl (Nat.le_of_ble_eq_true rfl) dWk_condition_16 ⟨Nat.le_of_ble_eq_true rfl, Nat.le_of_ble_eq_true rfl⟩ (fun r4 u3 H locs hu3 hP hD hS => ?_)
    have hwp := hwp r4 u3 hu3
    refine lv_if_eq hx hb dWk_condition_19 rfl (fun h5 => ?_) (fun h5 => ?_)
    · have hwp := hwp.1 h5
      refine lv_iconst (v := 0) hx hb dWk_condition_26 (by decide) ?_
      exact cut27 u3 y1 z0 0 _ _ _ hwp hP hD hS (lv_sub hl [0, 1] rfl)
    · have hwp := hwp.2 h5
      refine lv_iconst (v := 2) hx hb dWk_condition_22 (by decide) ?_
      refine lv_goto hx hb dWk_condition_23 rfl ?_
      exact cut27 u3 y1 z0 2 _ _ _ hwp hP hD hS (lv_sub hl [0, 1] rfl)
  have hl := lv_entry ([.ref (a 38), .int x1]) (n := 2) (Nat.le_of_ble_eq_true rfl)
  rw [lg_entry_eq]
  generalize (lg_sl ([.ref (a 38), .int x1]) ++ List.replicate (2 - (lg_sl ([.ref (a 38), .int x1])).length) Slot.unset).toArray = ls at hl ⊢
  have hl : lv_has ls 2 [(0, .ref (a 38)), (1, .int x1)] := hl
  refine lv_aload_n hx hb dWk_condition_0 rfl (lv_at hl 0 rfl) ?_
  refine va_get (D := D) (ci := 10) (C := RWk) (T := TWk) (N := 7) hx hb hts hinWk hown hK hP 38 rfl rfl 0 (by decide) lk9 (fun _ h9 => h9) rfl dWk_condition_1 ?_
  refine lv_iload_n hx hb dWk_condition_4 rfl (lv_at hl 1 rfl) ?_
  obtain ⟨hi6, hwp⟩ := hwp
  refine va_zald hx hb hK hP 39 1 rfl rfl hi6 dWk_condition_5 ?_
  refine lv_if_eq hx hb dWk_condition_6 rfl (fun h7 => ?_) (fun h7 => ?_)
  · have hwp := hwp.1 h7
    refine lv_iconst (v := 0) hx hb dWk_condition_13 (by decide) ?_
    exact cut14 σ x1 0 _ _ _ hwp hP hD hS (lv_sub hl [0, 1] rfl)
  · have hwp := hwp.2 h7
    refine lv_iconst (v := 1) hx hb dWk_condition_9 (by decide) ?_
    refine lv_goto hx hb dWk_condition_10 rfl ?_
    exact cut14 σ x1 1 _ _ _ hwp hP hD hS (lv_sub hl [0, 1] rfl)
-- NodeServices$Work: int detail(int), on Wk
def wC_Wk_detail (a : Nat → Nat) (R : Int32 → CS → Prop) (σ : CS) (x1 : Int32) : Prop :=
  (vp_in x1 4 ∧ R (σ.1 35 x1.toNatClampNeg) σ)
abbrev wsWk_detail : List Cond := .code yWk_detail cWk_detail 2 (some .int) :: wg
abbrev rmC_Wk_detail : Room := { frames := 0, cells := 0, slots := 0, locals := 0 }
set_option maxHeartbeats 4000000 in
set_option maxRecDepth 100000 in
theorem kC_Wk_detail (l : Launch) (D : va_G) (a : Nat → Nat) (A : Nat → Prop) (t : Nat → ClassId) (σ : CS) (x1 : Int32) (R : Int32 → CS → Prop) (hwp : wC_Wk_detail a R σ x1) : Met l yWk_detail wsWk_detail rmC_Wk_detail (va_Pc [.ref (a 38), .int x1] (uI D clA (cT t) A true (cw a t) σ)) (va_Qi R (uI D clA (cT t) A true (cw a t)) A) 0 0 A := by
  refine Met.ofW (cc := cWk_detail) (maxL := 2) (ret := (some .int)) (by decide) rfl ?_
  intro p e s m args below meth c s₁ B hml hv
  obtain ⟨rfl, hP, hK, hD, hA⟩ := hv
  have hx := B.exec
  have hb := B.bytes
  have hr := B.returns
  have hts := atoms_spec (ws := wsWk_detail) B.pre
  have hown : s.vm.findClass RWk = some m.cls := findClass_of_methodNamed B.named
  have hlocks := B.notSynchronized
  have hinWk : ∀ w ∈ u_ws RWk TWk 7, w ∈ wsWk_detail := fun w h => List.mem_cons_of_mem _ (inWk w h)
  have lk19 := hts _ (List.mem_cons_of_mem _ wm_215)
  have hS : va_S A s.heap s.heap [] := va_S.rf
  have hl := lv_entry ([.ref (a 38), .int x1]) (n := 2) (Nat.le_of_ble_eq_true rfl)
  rw [lg_entry_eq]
  generalize (lg_sl ([.ref (a 38), .int x1]) ++ List.replicate (2 - (lg_sl ([.ref (a 38), .int x1])).length) Slot.unset).toArray = ls at hl ⊢
  have hl : lv_has ls 2 [(0, .ref (a 38)), (1, .int x1)] := hl
  refine lv_aload_n hx hb dWk_detail_0 rfl (lv_at hl 0 rfl) ?_
  refine va_get (D := D) (ci := 10) (C := RWk) (T := TWk) (N := 7) hx hb hts hinWk hown hK hP 38 rfl rfl 3 (by decide) lk19 (fun _ h9 => h9) rfl dWk_detail_1 ?_
  refine lv_iload_n hx hb dWk_detail_4 rfl (lv_at hl 1 rfl) ?_
  obtain ⟨hi1, hwp⟩ := hwp
  refine va_iald hx hb hK hP 40 0 rfl rfl hi1 dWk_detail_5 ?_
  exact W.iret (v := σ.1 35 x1.toNatClampNeg) hx hb hr (fun t ht hW => ⟨⟨σ.1 35 x1.toNatClampNeg, σ, rfl, hwp, uEnd ht hW hP hK hD hS hA⟩, hS.F ht⟩) hS.2.2 dWk_detail_6
-- NodeServices$Work: boolean isOver(), on Wk
def wC_Wk_isOver_33 (a : Nat → Nat) (K2 : CS → Int32 → Prop) (R : Int32 → CS → Prop) (σ : CS) (y1 : Int32) : Prop :=
  R 0 σ
def wC_Wk_isOver_2_step (a : Nat → Nat) (K2 : CS → Int32 → Prop) (R : Int32 → CS → Prop) (σ : CS) (y1 : Int32) : Prop :=
  (((4 ≤ y1) → R 1 σ) ∧ ((¬ 4 ≤ y1) → (vp_in y1 4 ∧ (((¬ (σ.1 32 y1.toNatClampNeg) = 0) → wC_Wk_isOver_33 a K2 R σ y1) ∧ (((σ.1 32 y1.toNatClampNeg) = 0) → (∃ P4 : Int32 → CS → Prop, wC_Wk_isEngaged a P4 σ y1 ∧ (∀ (r6 : Int32) (u5 : CS), P4 r6 u5 → (((¬ r6 = 0) → wC_Wk_isOver_33 a K2 R u5 y1) ∧ ((r6 = 0) → (vp_in y1 4 ∧ ((((u5.1 36 y1.toNatClampNeg) = 0) → K2 u5 (y1 + 1)) ∧ ((¬ (u5.1 36 y1.toNatClampNeg) = 0) → wC_Wk_isOver_33 a K2 R u5 y1))))))))))))
def wC_Wk_isOver_2 (a : Nat → Nat) (R : Int32 → CS → Prop) : Nat → CS → Int32 → Prop
  | 0 => fun _ _ => False
  | k + 1 => fun σ y1 => wC_Wk_isOver_2_step a (wC_Wk_isOver_2 a R k) R σ y1
def wC_Wk_isOver (a : Nat → Nat) (R : Int32 → CS → Prop) (σ : CS) : Prop :=
  wC_Wk_isOver_2 a R 5 σ 0
abbrev wsWk_isOver : List Cond := .code yWk_isOver cWk_isOver 2 (some .boolean) :: wg
abbrev rmC_Wk_isOver : Room := { frames := 1, cells := 0, slots := 0, locals := 21 }
set_option maxHeartbeats 4000000 in
set_option maxRecDepth 100000 in
theorem kC_Wk_isOver (l : Launch) (D : va_G) (a : Nat → Nat) (A : Nat → Prop) (t : Nat → ClassId) (σ : CS) (R : Int32 → CS → Prop) (hwp : wC_Wk_isOver a R σ ) : Met l yWk_isOver wsWk_isOver rmC_Wk_isOver (va_Pc [.ref (a 38)] (uI D clA (cT t) A true (cw a t) σ)) (va_Qi R (uI D clA (cT t) A true (cw a t)) A) 0 0 A := by
  refine Met.ofW (cc := cWk_isOver) (maxL := 2) (ret := (some .boolean)) (by decide) rfl ?_
  intro p e s m args below meth c s₁ B hml hv
  obtain ⟨rfl, hP, hK, hD, hA⟩ := hv
  have hx := B.exec
  have hb := B.bytes
  have hr := B.returns
  have hts := atoms_spec (ws := wsWk_isOver) B.pre
  have hown : s.vm.findClass RWk = some m.cls := findClass_of_methodNamed B.named
  have hlocks := B.notSynchronized
  have hinWk : ∀ w ∈ u_ws RWk TWk 7, w ∈ wsWk_isOver := fun w h => List.mem_cons_of_mem _ (inWk w h)
  have lk23 := hts _ (List.mem_cons_of_mem _ wm_216)
  have lk9 := hts _ (List.mem_cons_of_mem _ wm_209)
  have hS : va_S A s.heap s.heap [] := va_S.rf
  have cut2 : ∀ (k2 : Nat) (σ : CS) (y1 : Int32) (H : Heap) (locs : List Loc) (ls : Array Slot), wC_Wk_isOver_2 a R k2 σ y1 → va_P D clA (cw a t σ) H → va_D A (cw a t σ) → va_S A s.heap H locs → lv_has ls 2 [(0, .ref (a 38)), (1, .int y1)] → W p l e (headSpec wsWk_isOver rmC_Wk_isOver).room s m ([.ref (a 38)] : List Value).toArray below meth c H locs 0 0 (MQ below (va_Qi R (uI D clA (cT t) A true (cw a t)) A) ([.ref (a 38)] : List Value).toArray s 0 0 A) (F0 m 2 ls []) := by
    intro k2
    induction k2 with
    | zero => intro σ y1 H locs ls hwp hP hD hS hl; exact False.elim hwp
    | succ k2 ih2 =>
      intro σ y1 H locs ls hwp hP hD hS hl
      have cut33 : ∀ (σ : CS) (y1 : Int32) (H : Heap) (locs : List Loc) (ls : Array Slot), wC_Wk_isOver_33 a (wC_Wk_isOver_2 a R k2) R σ y1 → va_P D clA (cw a t σ) H → va_D A (cw a t σ) → va_S A s.heap H locs → lv_has ls 2 [(0, .ref (a 38)), (1, .int y1)] → W p l e (headSpec wsWk_isOver rmC_Wk_isOver).room s m ([.ref (a 38)] : List Value).toArray below meth c H locs 0 0 (MQ below (va_Qi R (uI D clA (cT t) A true (cw a t)) A) ([.ref (a 38)] : List Value).toArray s 0 0 A) (F0 m 33 ls []) := by
        intro σ y1 H locs ls hwp hP hD hS hl
        refine lv_iconst (v := 0) hx hb dWk_isOver_33 (by decide) ?_
        exact W.zret (v := 0) hx hb hr (by decide) (fun t ht hW => ⟨⟨0, σ, rfl, hwp, uEnd ht hW hP hK hD hS hA⟩, hS.F ht⟩) hS.2.2 dWk_isOver_34
      have hwp : wC_Wk_isOver_2_step a (wC_Wk_isOver_2 a R k2) R σ y1 := hwp
      refine lv_iload_n hx hb dWk_isOver_2 rfl (lv_at hl 1 rfl) ?_
      refine lv_iconst (v := 4) hx hb dWk_isOver_3 (by decide) ?_
      refine lv_icmp_ge hx hb dWk_isOver_4 rfl (fun h1 => ?_) (fun h1 => ?_)
      · have hwp := hwp.1 h1
        refine lv_iconst (v := 1) hx hb dWk_isOver_41 (by decide) ?_
        exact W.zret (v := 1) hx hb hr (by decide) (fun t ht hW => ⟨⟨1, σ, rfl, hwp, uEnd ht hW hP hK hD hS hA⟩, hS.F ht⟩) hS.2.2 dWk_isOver_42
      · have hwp := hwp.2 h1
        refine lv_aload_n hx hb dWk_isOver_7 rfl (lv_at hl 0 rfl) ?_
        refine va_get (D := D) (ci := 10) (C := RWk) (T := TWk) (N := 7) hx hb hts hinWk hown hK hP 38 rfl rfl 0 (by decide) lk9 (fun _ h9 => h9) rfl dWk_isOver_8 ?_
        refine lv_iload_n hx hb dWk_isOver_11 rfl (lv_at hl 1 rfl) ?_
        obtain ⟨hi2, hwp⟩ := hwp
        refine va_zald hx hb hK hP 39 1 rfl rfl hi2 dWk_isOver_12 ?_
        refine lv_if_ne hx hb dWk_isOver_13 rfl (fun h3 => ?_) (fun h3 => ?_)
        · have hwp := hwp.1 h3
          exact cut33 σ y1 _ _ _ hwp hP hD hS (lv_sub hl [0, 1] rfl)
        · have hwp := hwp.2 h3
          refine lv_aload_n hx hb dWk_isOver_16 rfl (lv_at hl 0 rfl) ?_
          refine lv_iload_n hx hb dWk_isOver_17 rfl (lv_at hl 1 rfl) ?_
          obtain ⟨P4, hP4, hwp⟩ := hwp
          refine uCallVi (As := [.int y1]) (rest := []) (C := RWk) ⟨hx, hb, hml, hown, hts⟩ (kC_Wk_isEngaged l D a A t   σ y1 P4 hP4) (cwV 1 hts (gdV wm_535 wm_537 wp_7 wm_12 wm_538) rfl rfl rfl (by decide +kernel) ⟨Nat.le_of_ble_eq_true rfl, Nat.le_of_ble_eq_true rfl⟩) (va_recv (ci := 10) (q0 := 38) hK hP rfl rfl) hP hK hD hA hS rfl hl.1 rfl (Nat.le_of_ble_eq_true rfl) dWk_isOver_18 ⟨Nat.le_of_ble_eq_true rfl, Nat.le_of_ble_eq_true rfl⟩ (fun r6 u5 H locs hu5 hP hD hS => ?_)
          have hwp := hwp r6 u5 hu5
          refine lv_if_ne hx hb dWk_isOver_21 rfl (fun h7 => ?_) (fun h7 => ?_)
          · have hwp := hwp.1 h7
            exact cut33 u5 y1 _ _ _ hwp hP hD hS (lv_sub hl [0, 1] rfl)
          · have hwp := hwp.2 h7
            refine lv_aload_n hx hb dWk_isOver_24 rfl (lv_at hl 0 rfl) ?_
            refine va_get (D := D) (ci := 10) (C := RWk) (T := TWk) (N := 7) hx hb hts hinWk hown hK hP 38 rfl rfl 4 (by decide) lk23 (fun _ h9 => h9) rfl dWk_isOver_25 ?_
            refine lv_iload_n hx hb dWk_isOver_28 rfl (lv_at hl 1 rfl) ?_
            obtain ⟨hi8, hwp⟩ := hwp
            refine va_iald hx hb hK hP 41 0 rfl rfl hi8 dWk_isOver_29 ?_
            refine lv_if_eq hx hb dWk_isOver_30 rfl (fun h9 => ?_) (fun h9 => ?_)
            · have hwp := hwp.1 h9
              refine lv_iinc (k := 1) hx hb dWk_isOver_35 hl rfl (fx_inc1 _) (by decide) rfl (fun ls hl => ?_)
              have hl : lv_has ls 2 [(1, .int (y1 + 1)), (0, .ref (a 38))] := hl
              refine lv_goto hx hb dWk_isOver_38 rfl ?_
              exact ih2 u5 (y1 + 1) _ _ _ hwp hP hD hS (lv_sub hl [1, 0] rfl)
            · have hwp := hwp.2 h9
              exact cut33 u5 y1 _ _ _ hwp hP hD hS (lv_sub hl [0, 1] rfl)
  have hl := lv_entry ([.ref (a 38)]) (n := 2) (Nat.le_of_ble_eq_true rfl)
  rw [lg_entry_eq]
  generalize (lg_sl ([.ref (a 38)]) ++ List.replicate (2 - (lg_sl ([.ref (a 38)])).length) Slot.unset).toArray = ls at hl ⊢
  have hl : lv_has ls 2 [(0, .ref (a 38))] := hl
  refine lv_iconst (v := 0) hx hb dWk_isOver_0 (by decide) ?_
  refine lv_istore_n hx hb dWk_isOver_1 rfl hl (by decide) rfl (fun ls hl => ?_)
  have hl : lv_has ls 2 [(1, .int 0), (0, .ref (a 38))] := hl
  exact cut2 5 σ 0 _ _ _ hwp hP hD hS (lv_sub hl [1, 0] rfl)
-- NodeServices$Work: boolean hasMostUnanswered(int), on Wk
def wC_Wk_hasMostUnanswered (a : Nat → Nat) (R : Int32 → CS → Prop) (σ : CS) (x1 : Int32) : Prop :=
  (vp_in x1 4 ∧ ((((σ.1 36 x1.toNatClampNeg) < 20) → R 0 σ) ∧ ((¬ (σ.1 36 x1.toNatClampNeg) < 20) → R 1 σ)))
abbrev wsWk_hasMostUnanswered : List Cond := .code yWk_hasMostUnanswered cWk_hasMostUnanswered 2 (some .boolean) :: wg
abbrev rmC_Wk_hasMostUnanswered : Room := { frames := 0, cells := 0, slots := 0, locals := 0 }
set_option maxHeartbeats 4000000 in
set_option maxRecDepth 100000 in
theorem kC_Wk_hasMostUnanswered (l : Launch) (D : va_G) (a : Nat → Nat) (A : Nat → Prop) (t : Nat → ClassId) (σ : CS) (x1 : Int32) (R : Int32 → CS → Prop) (hwp : wC_Wk_hasMostUnanswered a R σ x1) : Met l yWk_hasMostUnanswered wsWk_hasMostUnanswered rmC_Wk_hasMostUnanswered (va_Pc [.ref (a 38), .int x1] (uI D clA (cT t) A true (cw a t) σ)) (va_Qi R (uI D clA (cT t) A true (cw a t)) A) 0 0 A := by
  refine Met.ofW (cc := cWk_hasMostUnanswered) (maxL := 2) (ret := (some .boolean)) (by decide) rfl ?_
  intro p e s m args below meth c s₁ B hml hv
  obtain ⟨rfl, hP, hK, hD, hA⟩ := hv
  have hx := B.exec
  have hb := B.bytes
  have hr := B.returns
  have hts := atoms_spec (ws := wsWk_hasMostUnanswered) B.pre
  have hown : s.vm.findClass RWk = some m.cls := findClass_of_methodNamed B.named
  have hlocks := B.notSynchronized
  have hinWk : ∀ w ∈ u_ws RWk TWk 7, w ∈ wsWk_hasMostUnanswered := fun w h => List.mem_cons_of_mem _ (inWk w h)
  have lk23 := hts _ (List.mem_cons_of_mem _ wm_216)
  have hS : va_S A s.heap s.heap [] := va_S.rf
  have hl := lv_entry ([.ref (a 38), .int x1]) (n := 2) (Nat.le_of_ble_eq_true rfl)
  rw [lg_entry_eq]
  generalize (lg_sl ([.ref (a 38), .int x1]) ++ List.replicate (2 - (lg_sl ([.ref (a 38), .int x1])).length) Slot.unset).toArray = ls at hl ⊢
  have hl : lv_has ls 2 [(0, .ref (a 38)), (1, .int x1)] := hl
  refine lv_aload_n hx hb dWk_hasMostUnanswered_0 rfl (lv_at hl 0 rfl) ?_
  refine va_get (D := D) (ci := 10) (C := RWk) (T := TWk) (N := 7) hx hb hts hinWk hown hK hP 38 rfl rfl 4 (by decide) lk23 (fun _ h9 => h9) rfl dWk_hasMostUnanswered_1 ?_
  refine lv_iload_n hx hb dWk_hasMostUnanswered_4 rfl (lv_at hl 1 rfl) ?_
  obtain ⟨hi1, hwp⟩ := hwp
  refine va_iald hx hb hK hP 41 0 rfl rfl hi1 dWk_hasMostUnanswered_5 ?_
  refine lv_bipush (v := 20) hx hb dWk_hasMostUnanswered_6 (by decide) ?_
  refine lv_icmp_lt hx hb dWk_hasMostUnanswered_8 rfl (fun h2 => ?_) (fun h2 => ?_)
  · have hwp := hwp.1 h2
    refine lv_iconst (v := 0) hx hb dWk_hasMostUnanswered_15 (by decide) ?_
    exact W.zret (v := 0) hx hb hr (by decide) (fun t ht hW => ⟨⟨0, σ, rfl, hwp, uEnd ht hW hP hK hD hS hA⟩, hS.F ht⟩) hS.2.2 dWk_hasMostUnanswered_16
  · have hwp := hwp.2 h2
    refine lv_iconst (v := 1) hx hb dWk_hasMostUnanswered_11 (by decide) ?_
    refine lv_goto hx hb dWk_hasMostUnanswered_12 rfl ?_
    exact W.zret (v := 1) hx hb hr (by decide) (fun t ht hW => ⟨⟨1, σ, rfl, hwp, uEnd ht hW hP hK hD hS hA⟩, hS.F ht⟩) hS.2.2 dWk_hasMostUnanswered_16
-- NodeServices$Work: void plant(int), on Wk
def wC_Wk_plant (a : Nat → Nat) (R : CS → Prop) (σ : CS) (x1 : Int32) : Prop :=
  (∀ σ1 : CS, σ1 = cu σ 33 0 x1 → (vp_in x1 4 ∧ (∀ σ3 : CS, σ3 = cu σ1 32 x1.toNatClampNeg (vp_nar .boolean 1) → R σ3)))
abbrev wsWk_plant : List Cond := .code yWk_plant cWk_plant 2 none :: wg
abbrev rmC_Wk_plant : Room := { frames := 0, cells := 0, slots := 0, locals := 0 }
set_option maxHeartbeats 4000000 in
set_option maxRecDepth 100000 in
theorem kC_Wk_plant (l : Launch) (D : va_G) (a : Nat → Nat) (A : Nat → Prop) (t : Nat → ClassId) (σ : CS) (x1 : Int32) (R : CS → Prop) (hwp : wC_Wk_plant a R σ x1) : Met l yWk_plant wsWk_plant rmC_Wk_plant (va_Pc [.ref (a 38), .int x1] (uI D clA (cT t) A true (cw a t) σ)) (va_Qv R (uI D clA (cT t) A true (cw a t)) A) 0 0 A := by
  refine Met.ofW (cc := cWk_plant) (maxL := 2) (ret := none) (by decide) rfl ?_
  intro p e s m args below meth c s₁ B hml hv
  obtain ⟨rfl, hP, hK, hD, hA⟩ := hv
  have hx := B.exec
  have hb := B.bytes
  have hr := B.returns
  have hts := atoms_spec (ws := wsWk_plant) B.pre
  have hown : s.vm.findClass RWk = some m.cls := findClass_of_methodNamed B.named
  have hlocks := B.notSynchronized
  have hinWk : ∀ w ∈ u_ws RWk TWk 7, w ∈ wsWk_plant := fun w h => List.mem_cons_of_mem _ (inWk w h)
  have lk15 := hts _ (List.mem_cons_of_mem _ wm_211)
  have lk9 := hts _ (List.mem_cons_of_mem _ wm_209)
  have hS : va_S A s.heap s.heap [] := va_S.rf
  have hl := lv_entry ([.ref (a 38), .int x1]) (n := 2) (Nat.le_of_ble_eq_true rfl)
  rw [lg_entry_eq]
  generalize (lg_sl ([.ref (a 38), .int x1]) ++ List.replicate (2 - (lg_sl ([.ref (a 38), .int x1])).length) Slot.unset).toArray = ls at hl ⊢
  have hl : lv_has ls 2 [(0, .ref (a 38)), (1, .int x1)] := hl
  refine lv_aload_n hx hb dWk_plant_0 rfl (lv_at hl 0 rfl) ?_
  refine lv_iload_n hx hb dWk_plant_1 rfl (lv_at hl 1 rfl) ?_
  refine va_put (ty := .int) (D := D) (ci := 10) (C := RWk) (T := TWk) (N := 7) hx hb hts hinWk tyWk tyWk_ok nmWk hown hK hP hD hS 38 rfl rfl 1 (by decide) lk15 (fun _ h9 => h9) rfl (by decide +kernel) rfl rfl (Nat.le_of_ble_eq_true rfl) dWk_plant_2 (fun H locs hP hD hS => ?_)
  obtain ⟨σ1, eσ1⟩ : ∃ z, z = cu σ 33 0 x1 := ⟨_, rfl⟩
  have hwp := hwp σ1 eσ1
  have hP : va_P D clA (cw a t σ1) H := by rw [eσ1]; exact hP
  have hD : va_D A (cw a t σ1) := by rw [eσ1]; exact hD
  refine lv_aload_n hx hb dWk_plant_5 rfl (lv_at hl 0 rfl) ?_
  refine va_get (D := D) (ci := 10) (C := RWk) (T := TWk) (N := 7) hx hb hts hinWk hown hK hP 38 rfl rfl 0 (by decide) lk9 (fun _ h9 => h9) rfl dWk_plant_6 ?_
  refine lv_iload_n hx hb dWk_plant_9 rfl (lv_at hl 1 rfl) ?_
  refine lv_iconst (v := 1) hx hb dWk_plant_10 (by decide) ?_
  obtain ⟨hi2, hwp⟩ := hwp
  refine va_zast hx hb hK hP hD hS 39 1 rfl rfl hi2 dWk_plant_11 (fun H locs hP hD hS => ?_)
  obtain ⟨σ3, eσ3⟩ : ∃ z, z = cu σ1 32 x1.toNatClampNeg (vp_nar .boolean 1) := ⟨_, rfl⟩
  have hwp := hwp σ3 eσ3
  have hP : va_P D clA (cw a t σ3) H := by rw [eσ3]; exact hP
  have hD : va_D A (cw a t σ3) := by rw [eσ3]; exact hD
  exact W.vret hx hb hr (fun t ht hW => ⟨⟨σ3, rfl, hwp, uEnd ht hW hP hK hD hS hA⟩, hS.F ht⟩) hS.2.2 dWk_plant_12
-- NodeServices$Work: void share(int, int), on Wk
def wC_Wk_share (a : Nat → Nat) (R : CS → Prop) (σ : CS) (x1 x2 : Int32) : Prop :=
  (vp_in x1 4 ∧ (vp_in x1 4 ∧ (∀ σ3 : CS, σ3 = cu σ 36 x1.toNatClampNeg ((σ.1 36 x1.toNatClampNeg) + 1) → (∃ P4 : CS → Prop, wC_Wk_send a P4 σ3 x1 x2 0 0 ∧ (∀ (u5 : CS), P4 u5 → R u5)))))
abbrev wsWk_share : List Cond := .code yWk_share cWk_share 3 none :: wg
abbrev rmC_Wk_share : Room := { frames := 3, cells := 1, slots := 4, locals := 69 }
set_option maxHeartbeats 4000000 in
set_option maxRecDepth 100000 in
theorem kC_Wk_share (l : Launch) (D : va_G) (a : Nat → Nat) (A : Nat → Prop) (t : Nat → ClassId) (σ : CS) (x1 x2 : Int32) (R : CS → Prop) (hwp : wC_Wk_share a R σ x1 x2) : Met l yWk_share wsWk_share rmC_Wk_share (va_Pc [.ref (a 38), .int x1, .int x2] (uI D clA (cT t) A true (cw a t) σ)) (va_Qv R (uI D clA (cT t) A true (cw a t)) A) 1 4 A := by
  refine Met.ofW (cc := cWk_share) (maxL := 3) (ret := none) (by decide) rfl ?_
  intro p e s m args below meth c s₁ B hml hv
  obtain ⟨rfl, hP, hK, hD, hA⟩ := hv
  have hx := B.exec
  have hb := B.bytes
  have hr := B.returns
  have hts := atoms_spec (ws := wsWk_share) B.pre
  have hown : s.vm.findClass RWk = some m.cls := findClass_of_methodNamed B.named
  have hlocks := B.notSynchronized
  have hinWk : ∀ w ∈ u_ws RWk TWk 7, w ∈ wsWk_share := fun w h => List.mem_cons_of_mem _ (inWk w h)
  have lk23 := hts _ (List.mem_cons_of_mem _ wm_216)
  have hS : va_S A s.heap s.heap [] := va_S.rf
  have hl := lv_entry ([.ref (a 38), .int x1, .int x2]) (n := 3) (Nat.le_of_ble_eq_true rfl)
  rw [lg_entry_eq]
  generalize (lg_sl ([.ref (a 38), .int x1, .int x2]) ++ List.replicate (3 - (lg_sl ([.ref (a 38), .int x1, .int x2])).length) Slot.unset).toArray = ls at hl ⊢
  have hl : lv_has ls 3 [(0, .ref (a 38)), (1, .int x1), (2, .int x2)] := hl
  refine lv_aload_n hx hb dWk_share_0 rfl (lv_at hl 0 rfl) ?_
  refine va_get (D := D) (ci := 10) (C := RWk) (T := TWk) (N := 7) hx hb hts hinWk hown hK hP 38 rfl rfl 4 (by decide) lk23 (fun _ h9 => h9) rfl dWk_share_1 ?_
  refine lv_iload_n hx hb dWk_share_4 rfl (lv_at hl 1 rfl) ?_
  refine lv_dup2_11 hx hb dWk_share_5 rfl rfl ?_
  obtain ⟨hi1, hwp⟩ := hwp
  refine va_iald hx hb hK hP 41 0 rfl rfl hi1 dWk_share_6 ?_
  refine lv_iconst (v := 1) hx hb dWk_share_7 (by decide) ?_
  refine lv_iadd hx hb dWk_share_8 ?_
  obtain ⟨hi2, hwp⟩ := hwp
  refine va_iast hx hb hK hP hD hS 41 0 rfl rfl hi2 dWk_share_9 (fun H locs hP hD hS => ?_)
  obtain ⟨σ3, eσ3⟩ : ∃ z, z = cu σ 36 x1.toNatClampNeg ((σ.1 36 x1.toNatClampNeg) + 1) := ⟨_, rfl⟩
  have hwp := hwp σ3 eσ3
  have hP : va_P D clA (cw a t σ3) H := by rw [eσ3]; exact hP
  have hD : va_D A (cw a t σ3) := by rw [eσ3]; exact hD
  refine lv_aload_n hx hb dWk_share_10 rfl (lv_at hl 0 rfl) ?_
  refine lv_iload_n hx hb dWk_share_11 rfl (lv_at hl 1 rfl) ?_
  refine lv_iload_n hx hb dWk_share_12 rfl (lv_at hl 2 rfl) ?_
  refine lv_iconst (v := 0) hx hb dWk_share_13 (by decide) ?_
  refine lv_iconst (v := 0) hx hb dWk_share_14 (by decide) ?_
  obtain ⟨P4, hP4, hwp⟩ := hwp
  refine uCallUv (As := [.int x1, .int x2, .int 0, .int 0]) (rest := []) (C := RWk) ⟨hx, hb, hml, hown, hts⟩ (kC_Wk_send l D a A t   σ3 x1 x2 0 0 P4 hP4) (va_cwU (x := ⟨"NodeServices$Work", "send", "(IIII)V"⟩) (owner := "NodeServices$Service") 4 hts (gdU wm_564 wm_565 wm_566 wm_372 wm_4 wm_379) rfl rfl rfl rfl (by decide +kernel) ⟨Nat.le_of_ble_eq_true rfl, Nat.le_of_ble_eq_true rfl⟩) (va_recv (ci := 10) (q0 := 38) hK hP rfl rfl) hP hK hD hA hS rfl hl.1 rfl (Nat.le_of_ble_eq_true rfl) dWk_share_15 ⟨Nat.le_of_ble_eq_true rfl, Nat.le_of_ble_eq_true rfl⟩ (fun u5 H locs hu5 hP hD hS => ?_)
  have hwp := hwp u5 hu5
  exact W.vret hx hb hr (fun t ht hW => ⟨⟨u5, rfl, hwp, uEnd ht hW hP hK hD hS hA⟩, hS.F ht⟩) hS.2.2 dWk_share_18
-- NodeServices$Work: private void settle(int), on Wk
def wC_Wk_settle_51 (a : Nat → Nat) (R : CS → Prop) (σ : CS) (y1 : Int32) : Prop :=
  (((¬ (σ.1 33 0) = y1) → R σ) ∧ (((σ.1 33 0) = y1) → (∀ σ2 : CS, σ2 = cu σ 33 0 (-1) → (∀ σ3 : CS, σ3 = cu σ2 34 0 ((σ2.1 34 0) + 1) → R σ3))))
def wC_Wk_settle (a : Nat → Nat) (R : CS → Prop) (σ : CS) (x1 : Int32) : Prop :=
  (vp_in x1 4 ∧ (((¬ (σ.1 32 x1.toNatClampNeg) = 0) → R σ) ∧ (((σ.1 32 x1.toNatClampNeg) = 0) → (vp_in x1 4 ∧ ((((σ.1 36 x1.toNatClampNeg) = 0) → (vp_in x1 4 ∧ ((((σ.1 35 x1.toNatClampNeg) = (-1)) → wC_Wk_settle_51 a R σ x1) ∧ ((¬ (σ.1 35 x1.toNatClampNeg) = (-1)) → (vp_in x1 4 ∧ (∀ v11 : Int32, v11 = σ.1 35 x1.toNatClampNeg → (vp_in x1 4 ∧ (∀ σ13 : CS, σ13 = cu σ 35 x1.toNatClampNeg (-1) → (∃ P14 : CS → Prop, wC_Wk_send a P14 σ13 x1 v11 1 0 ∧ (∀ (u15 : CS), P14 u15 → wC_Wk_settle_51 a R u15 x1)))))))))) ∧ ((¬ (σ.1 36 x1.toNatClampNeg) = 0) → R σ))))))
abbrev wsWk_settle : List Cond := .code yWk_settle cWk_settle 3 none :: wg
abbrev rmC_Wk_settle : Room := { frames := 3, cells := 1, slots := 4, locals := 69 }
set_option maxHeartbeats 4000000 in
set_option maxRecDepth 100000 in
theorem kC_Wk_settle (l : Launch) (D : va_G) (a : Nat → Nat) (A : Nat → Prop) (t : Nat → ClassId) (σ : CS) (x1 : Int32) (R : CS → Prop) (hwp : wC_Wk_settle a R σ x1) : Met l yWk_settle wsWk_settle rmC_Wk_settle (va_Pc [.ref (a 38), .int x1] (uI D clA (cT t) A true (cw a t) σ)) (va_Qv R (uI D clA (cT t) A true (cw a t)) A) 1 4 A := by
  refine Met.ofW (cc := cWk_settle) (maxL := 3) (ret := none) (by decide) rfl ?_
  intro p e s m args below meth c s₁ B hml hv
  obtain ⟨rfl, hP, hK, hD, hA⟩ := hv
  have hx := B.exec
  have hb := B.bytes
  have hr := B.returns
  have hts := atoms_spec (ws := wsWk_settle) B.pre
  have hown : s.vm.findClass RWk = some m.cls := findClass_of_methodNamed B.named
  have hlocks := B.notSynchronized
  have hinWk : ∀ w ∈ u_ws RWk TWk 7, w ∈ wsWk_settle := fun w h => List.mem_cons_of_mem _ (inWk w h)
  have lk15 := hts _ (List.mem_cons_of_mem _ wm_211)
  have lk19 := hts _ (List.mem_cons_of_mem _ wm_215)
  have lk23 := hts _ (List.mem_cons_of_mem _ wm_216)
  have lk47 := hts _ (List.mem_cons_of_mem _ wm_213)
  have lk9 := hts _ (List.mem_cons_of_mem _ wm_209)
  have hS : va_S A s.heap s.heap [] := va_S.rf
  have cut51 : ∀ (σ : CS) (y1 : Int32) (H : Heap) (locs : List Loc) (ls : Array Slot), wC_Wk_settle_51 a R σ y1 → va_P D clA (cw a t σ) H → va_D A (cw a t σ) → va_S A s.heap H locs → lv_has ls 3 [(0, .ref (a 38)), (1, .int y1)] → W p l e (headSpec wsWk_settle rmC_Wk_settle).room s m ([.ref (a 38), .int x1] : List Value).toArray below meth c H locs 1 4 (MQ below (va_Qv R (uI D clA (cT t) A true (cw a t)) A) ([.ref (a 38), .int x1] : List Value).toArray s 1 4 A) (F0 m 51 ls []) := by
    intro σ y1 H locs ls hwp hP hD hS hl
    refine lv_aload_n hx hb dWk_settle_51 rfl (lv_at hl 0 rfl) ?_
    refine va_get (D := D) (ci := 10) (C := RWk) (T := TWk) (N := 7) hx hb hts hinWk hown hK hP 38 rfl rfl 1 (by decide) lk15 (fun _ h9 => h9) rfl dWk_settle_52 ?_
    refine lv_iload_n hx hb dWk_settle_55 rfl (lv_at hl 1 rfl) ?_
    refine lv_icmp_ne hx hb dWk_settle_56 rfl (fun h1 => ?_) (fun h1 => ?_)
    · have hwp := hwp.1 h1
      exact W.vret hx hb hr (fun t ht hW => ⟨⟨σ, rfl, hwp, uEnd ht hW hP hK hD hS hA⟩, hS.F ht⟩) hS.2.2 dWk_settle_74
    · have hwp := hwp.2 h1
      refine lv_aload_n hx hb dWk_settle_59 rfl (lv_at hl 0 rfl) ?_
      refine lv_iconst (v := (-1)) hx hb dWk_settle_60 (by decide) ?_
      refine va_put (ty := .int) (D := D) (ci := 10) (C := RWk) (T := TWk) (N := 7) hx hb hts hinWk tyWk tyWk_ok nmWk hown hK hP hD hS 38 rfl rfl 1 (by decide) lk15 (fun _ h9 => h9) rfl (by decide +kernel) rfl rfl (Nat.le_of_ble_eq_true rfl) dWk_settle_61 (fun H locs hP hD hS => ?_)
      obtain ⟨σ2, eσ2⟩ : ∃ z, z = cu σ 33 0 (-1) := ⟨_, rfl⟩
      have hwp := hwp σ2 eσ2
      have hP : va_P D clA (cw a t σ2) H := by rw [eσ2]; exact hP
      have hD : va_D A (cw a t σ2) := by rw [eσ2]; exact hD
      refine lv_aload_n hx hb dWk_settle_64 rfl (lv_at hl 0 rfl) ?_
      refine lv_dup hx hb dWk_settle_65 rfl ?_
      refine va_get (D := D) (ci := 10) (C := RWk) (T := TWk) (N := 7) hx hb hts hinWk hown hK hP 38 rfl rfl 2 (by decide) lk47 (fun _ h9 => h9) rfl dWk_settle_66 ?_
      refine lv_iconst (v := 1) hx hb dWk_settle_69 (by decide) ?_
      refine lv_iadd hx hb dWk_settle_70 ?_
      refine va_put (ty := .int) (D := D) (ci := 10) (C := RWk) (T := TWk) (N := 7) hx hb hts hinWk tyWk tyWk_ok nmWk hown hK hP hD hS 38 rfl rfl 2 (by decide) lk47 (fun _ h9 => h9) rfl (by decide +kernel) rfl rfl (Nat.le_of_ble_eq_true rfl) dWk_settle_71 (fun H locs hP hD hS => ?_)
      obtain ⟨σ3, eσ3⟩ : ∃ z, z = cu σ2 34 0 ((σ2.1 34 0) + 1) := ⟨_, rfl⟩
      have hwp := hwp σ3 eσ3
      have hP : va_P D clA (cw a t σ3) H := by rw [eσ3]; exact hP
      have hD : va_D A (cw a t σ3) := by rw [eσ3]; exact hD
      exact W.vret hx hb hr (fun t ht hW => ⟨⟨σ3, rfl, hwp, uEnd ht hW hP hK hD hS hA⟩, hS.F ht⟩) hS.2.2 dWk_settle_74
  have hl := lv_entry ([.ref (a 38), .int x1]) (n := 3) (Nat.le_of_ble_eq_true rfl)
  rw [lg_entry_eq]
  generalize (lg_sl ([.ref (a 38), .int x1]) ++ List.replicate (3 - (lg_sl ([.ref (a 38), .int x1])).length) Slot.unset).toArray = ls at hl ⊢
  have hl : lv_has ls 3 [(0, .ref (a 38)), (1, .int x1)] := hl
  refine lv_aload_n hx hb dWk_settle_0 rfl (lv_at hl 0 rfl) ?_
  refine va_get (D := D) (ci := 10) (C := RWk) (T := TWk) (N := 7) hx hb hts hinWk hown hK hP 38 rfl rfl 0 (by decide) lk9 (fun _ h9 => h9) rfl dWk_settle_1 ?_
  refine lv_iload_n hx hb dWk_settle_4 rfl (lv_at hl 1 rfl) ?_
  obtain ⟨hi4, hwp⟩ := hwp
  refine va_zald hx hb hK hP 39 1 rfl rfl hi4 dWk_settle_5 ?_
  refine lv_if_ne hx hb dWk_settle_6 rfl (fun h5 => ?_) (fun h5 => ?_)
  · have hwp := hwp.1 h5
    refine W.widen (k := 1) (n := 4) (by omega) (by omega) ?_
    exact W.vret hx hb hr (fun t ht hW => ⟨⟨σ, rfl, hwp, uEnd ht hW hP hK hD hS hA⟩, hS.F ht⟩) hS.2.2 dWk_settle_18
  · have hwp := hwp.2 h5
    refine lv_aload_n hx hb dWk_settle_9 rfl (lv_at hl 0 rfl) ?_
    refine va_get (D := D) (ci := 10) (C := RWk) (T := TWk) (N := 7) hx hb hts hinWk hown hK hP 38 rfl rfl 4 (by decide) lk23 (fun _ h9 => h9) rfl dWk_settle_10 ?_
    refine lv_iload_n hx hb dWk_settle_13 rfl (lv_at hl 1 rfl) ?_
    obtain ⟨hi6, hwp⟩ := hwp
    refine va_iald hx hb hK hP 41 0 rfl rfl hi6 dWk_settle_14 ?_
    refine lv_if_eq hx hb dWk_settle_15 rfl (fun h7 => ?_) (fun h7 => ?_)
    · have hwp := hwp.1 h7
      refine lv_aload_n hx hb dWk_settle_19 rfl (lv_at hl 0 rfl) ?_
      refine va_get (D := D) (ci := 10) (C := RWk) (T := TWk) (N := 7) hx hb hts hinWk hown hK hP 38 rfl rfl 3 (by decide) lk19 (fun _ h9 => h9) rfl dWk_settle_20 ?_
      refine lv_iload_n hx hb dWk_settle_23 rfl (lv_at hl 1 rfl) ?_
      obtain ⟨hi8, hwp⟩ := hwp
      refine va_iald hx hb hK hP 40 0 rfl rfl hi8 dWk_settle_24 ?_
      refine lv_iconst (v := (-1)) hx hb dWk_settle_25 (by decide) ?_
      refine lv_icmp_eq hx hb dWk_settle_26 rfl (fun h9 => ?_) (fun h9 => ?_)
      · have hwp := hwp.1 h9
        refine W.widen (k := 1) (n := 4) (by omega) (by omega) ?_
        exact cut51 σ x1 _ _ _ hwp hP hD hS (lv_sub hl [0, 1] rfl)
      · have hwp := hwp.2 h9
        refine lv_aload_n hx hb dWk_settle_29 rfl (lv_at hl 0 rfl) ?_
        refine va_get (D := D) (ci := 10) (C := RWk) (T := TWk) (N := 7) hx hb hts hinWk hown hK hP 38 rfl rfl 3 (by decide) lk19 (fun _ h9 => h9) rfl dWk_settle_30 ?_
        refine lv_iload_n hx hb dWk_settle_33 rfl (lv_at hl 1 rfl) ?_
        obtain ⟨hi10, hwp⟩ := hwp
        refine va_iald hx hb hK hP 40 0 rfl rfl hi10 dWk_settle_34 ?_
        refine lv_topi (fun v11 ev11 => ?_)
        have hwp := hwp v11 ev11
        refine lv_istore_n hx hb dWk_settle_35 rfl hl (by decide) rfl (fun ls hl => ?_)
        have hl : lv_has ls 3 [(2, .int v11), (0, .ref (a 38)), (1, .int x1)] := hl
        refine lv_aload_n hx hb dWk_settle_36 rfl (lv_at hl 1 rfl) ?_
        refine va_get (D := D) (ci := 10) (C := RWk) (T := TWk) (N := 7) hx hb hts hinWk hown hK hP 38 rfl rfl 3 (by decide) lk19 (fun _ h9 => h9) rfl dWk_settle_37 ?_
        refine lv_iload_n hx hb dWk_settle_40 rfl (lv_at hl 2 rfl) ?_
        refine lv_iconst (v := (-1)) hx hb dWk_settle_41 (by decide) ?_
        obtain ⟨hi12, hwp⟩ := hwp
        refine va_iast hx hb hK hP hD hS 40 0 rfl rfl hi12 dWk_settle_42 (fun H locs hP hD hS => ?_)
        obtain ⟨σ13, eσ13⟩ : ∃ z, z = cu σ 35 x1.toNatClampNeg (-1) := ⟨_, rfl⟩
        have hwp := hwp σ13 eσ13
        have hP : va_P D clA (cw a t σ13) H := by rw [eσ13]; exact hP
        have hD : va_D A (cw a t σ13) := by rw [eσ13]; exact hD
        refine lv_aload_n hx hb dWk_settle_43 rfl (lv_at hl 1 rfl) ?_
        refine lv_iload_n hx hb dWk_settle_44 rfl (lv_at hl 2 rfl) ?_
        refine lv_iload_n hx hb dWk_settle_45 rfl (lv_at hl 0 rfl) ?_
        refine lv_iconst (v := 1) hx hb dWk_settle_46 (by decide) ?_
        refine lv_iconst (v := 0) hx hb dWk_settle_47 (by decide) ?_
        obtain ⟨P14, hP14, hwp⟩ := hwp
        refine uCallUv (As := [.int x1, .int v11, .int 1, .int 0]) (rest := []) (C := RWk) ⟨hx, hb, hml, hown, hts⟩ (kC_Wk_send l D a A t   σ13 x1 v11 1 0 P14 hP14) (va_cwU (x := ⟨"NodeServices$Work", "send", "(IIII)V"⟩) (owner := "NodeServices$Service") 4 hts (gdU wm_564 wm_565 wm_566 wm_372 wm_4 wm_379) rfl rfl rfl rfl (by decide +kernel) ⟨Nat.le_of_ble_eq_true rfl, Nat.le_of_ble_eq_true rfl⟩) (va_recv (ci := 10) (q0 := 38) hK hP rfl rfl) hP hK hD hA hS rfl hl.1 rfl (Nat.le_of_ble_eq_true rfl) dWk_settle_48 ⟨Nat.le_of_ble_eq_true rfl, Nat.le_of_ble_eq_true rfl⟩ (fun u15 H locs hu15 hP hD hS => ?_)
        have hwp := hwp u15 hu15
        exact cut51 u15 x1 _ _ _ hwp hP hD hS (lv_sub hl [1, 2] rfl)
    · have hwp := hwp.2 h7
      refine W.widen (k := 1) (n := 4) (by omega) (by omega) ?_
      exact W.vret hx hb hr (fun t ht hW => ⟨⟨σ, rfl, hwp, uEnd ht hW hP hK hD hS hA⟩, hS.F ht⟩) hS.2.2 dWk_settle_18
-- NodeServices$Work: void pause(int), on Wk
def wC_Wk_pause (a : Nat → Nat) (R : CS → Prop) (σ : CS) (x1 : Int32) : Prop :=
  (vp_in x1 4 ∧ (∀ σ2 : CS, σ2 = cu σ 32 x1.toNatClampNeg (vp_nar .boolean 0) → (∃ P3 : CS → Prop, wC_Wk_settle a P3 σ2 x1 ∧ (∀ (u4 : CS), P3 u4 → R u4))))
abbrev wsWk_pause : List Cond := .code yWk_pause cWk_pause 2 none :: wg
abbrev rmC_Wk_pause : Room := { frames := 4, cells := 1, slots := 4, locals := 91 }
set_option maxHeartbeats 4000000 in
set_option maxRecDepth 100000 in
theorem kC_Wk_pause (l : Launch) (D : va_G) (a : Nat → Nat) (A : Nat → Prop) (t : Nat → ClassId) (σ : CS) (x1 : Int32) (R : CS → Prop) (hwp : wC_Wk_pause a R σ x1) : Met l yWk_pause wsWk_pause rmC_Wk_pause (va_Pc [.ref (a 38), .int x1] (uI D clA (cT t) A true (cw a t) σ)) (va_Qv R (uI D clA (cT t) A true (cw a t)) A) 1 4 A := by
  refine Met.ofW (cc := cWk_pause) (maxL := 2) (ret := none) (by decide) rfl ?_
  intro p e s m args below meth c s₁ B hml hv
  obtain ⟨rfl, hP, hK, hD, hA⟩ := hv
  have hx := B.exec
  have hb := B.bytes
  have hr := B.returns
  have hts := atoms_spec (ws := wsWk_pause) B.pre
  have hown : s.vm.findClass RWk = some m.cls := findClass_of_methodNamed B.named
  have hlocks := B.notSynchronized
  have hinWk : ∀ w ∈ u_ws RWk TWk 7, w ∈ wsWk_pause := fun w h => List.mem_cons_of_mem _ (inWk w h)
  have lk9 := hts _ (List.mem_cons_of_mem _ wm_209)
  have hS : va_S A s.heap s.heap [] := va_S.rf
  have hl := lv_entry ([.ref (a 38), .int x1]) (n := 2) (Nat.le_of_ble_eq_true rfl)
  rw [lg_entry_eq]
  generalize (lg_sl ([.ref (a 38), .int x1]) ++ List.replicate (2 - (lg_sl ([.ref (a 38), .int x1])).length) Slot.unset).toArray = ls at hl ⊢
  have hl : lv_has ls 2 [(0, .ref (a 38)), (1, .int x1)] := hl
  refine lv_aload_n hx hb dWk_pause_0 rfl (lv_at hl 0 rfl) ?_
  refine va_get (D := D) (ci := 10) (C := RWk) (T := TWk) (N := 7) hx hb hts hinWk hown hK hP 38 rfl rfl 0 (by decide) lk9 (fun _ h9 => h9) rfl dWk_pause_1 ?_
  refine lv_iload_n hx hb dWk_pause_4 rfl (lv_at hl 1 rfl) ?_
  refine lv_iconst (v := 0) hx hb dWk_pause_5 (by decide) ?_
  obtain ⟨hi1, hwp⟩ := hwp
  refine va_zast hx hb hK hP hD hS 39 1 rfl rfl hi1 dWk_pause_6 (fun H locs hP hD hS => ?_)
  obtain ⟨σ2, eσ2⟩ : ∃ z, z = cu σ 32 x1.toNatClampNeg (vp_nar .boolean 0) := ⟨_, rfl⟩
  have hwp := hwp σ2 eσ2
  have hP : va_P D clA (cw a t σ2) H := by rw [eσ2]; exact hP
  have hD : va_D A (cw a t σ2) := by rw [eσ2]; exact hD
  refine lv_aload_n hx hb dWk_pause_7 rfl (lv_at hl 0 rfl) ?_
  refine lv_iload_n hx hb dWk_pause_8 rfl (lv_at hl 1 rfl) ?_
  obtain ⟨P3, hP3, hwp⟩ := hwp
  refine uCallVv (As := [.int x1]) (rest := []) (C := RWk) ⟨hx, hb, hml, hown, hts⟩ (kC_Wk_settle l D a A t   σ2 x1 P3 hP3) (cwV 1 hts (gdV wm_579 wm_581 wp_8 wm_12 wm_582) rfl rfl rfl (by decide +kernel) ⟨Nat.le_of_ble_eq_true rfl, Nat.le_of_ble_eq_true rfl⟩) (va_recv (ci := 10) (q0 := 38) hK hP rfl rfl) hP hK hD hA hS rfl hl.1 rfl (Nat.le_of_ble_eq_true rfl) dWk_pause_9 ⟨Nat.le_of_ble_eq_true rfl, Nat.le_of_ble_eq_true rfl⟩ (fun u4 H locs hu4 hP hD hS => ?_)
  have hwp := hwp u4 hu4
  exact W.vret hx hb hr (fun t ht hW => ⟨⟨u4, rfl, hwp, uEnd ht hW hP hK hD hS hA⟩, hS.F ht⟩) hS.2.2 dWk_pause_12
-- NodeServices$Work: private void takeWork(int, int), on Wk
def wC_Wk_takeWork_26 (a : Nat → Nat) (R : CS → Prop) (σ : CS) (y1 : Int32) (y2 : Int32) : Prop :=
  (vp_in y2 4 ∧ (∀ σ2 : CS, σ2 = cu σ 32 y2.toNatClampNeg (vp_nar .boolean 1) → R σ2))
def wC_Wk_takeWork (a : Nat → Nat) (R : CS → Prop) (σ : CS) (x1 x2 : Int32) : Prop :=
  (∃ P3 : Int32 → CS → Prop, wC_Wk_isEngaged a P3 σ x2 ∧ (∀ (r5 : Int32) (u4 : CS), P3 r5 u4 → (((r5 = 0) → (vp_in x2 4 ∧ (∀ σ8 : CS, σ8 = cu u4 35 x2.toNatClampNeg x1 → wC_Wk_takeWork_26 a R σ8 x1 x2))) ∧ ((¬ r5 = 0) → (∃ P9 : CS → Prop, wC_Wk_send a P9 u4 x2 x1 1 0 ∧ (∀ (u10 : CS), P9 u10 → wC_Wk_takeWork_26 a R u10 x1 x2))))))
abbrev wsWk_takeWork : List Cond := .code yWk_takeWork cWk_takeWork 3 none :: wg
abbrev rmC_Wk_takeWork : Room := { frames := 3, cells := 1, slots := 4, locals := 69 }
set_option maxHeartbeats 4000000 in
set_option maxRecDepth 100000 in
theorem kC_Wk_takeWork (l : Launch) (D : va_G) (a : Nat → Nat) (A : Nat → Prop) (t : Nat → ClassId) (σ : CS) (x1 x2 : Int32) (R : CS → Prop) (hwp : wC_Wk_takeWork a R σ x1 x2) : Met l yWk_takeWork wsWk_takeWork rmC_Wk_takeWork (va_Pc [.ref (a 38), .int x1, .int x2] (uI D clA (cT t) A true (cw a t) σ)) (va_Qv R (uI D clA (cT t) A true (cw a t)) A) 1 4 A := by
  refine Met.ofW (cc := cWk_takeWork) (maxL := 3) (ret := none) (by decide) rfl ?_
  intro p e s m args below meth c s₁ B hml hv
  obtain ⟨rfl, hP, hK, hD, hA⟩ := hv
  have hx := B.exec
  have hb := B.bytes
  have hr := B.returns
  have hts := atoms_spec (ws := wsWk_takeWork) B.pre
  have hown : s.vm.findClass RWk = some m.cls := findClass_of_methodNamed B.named
  have hlocks := B.notSynchronized
  have hinWk : ∀ w ∈ u_ws RWk TWk 7, w ∈ wsWk_takeWork := fun w h => List.mem_cons_of_mem _ (inWk w h)
  have lk19 := hts _ (List.mem_cons_of_mem _ wm_215)
  have lk9 := hts _ (List.mem_cons_of_mem _ wm_209)
  have hS : va_S A s.heap s.heap [] := va_S.rf
  have cut26 : ∀ (σ : CS) (y1 : Int32) (y2 : Int32) (H : Heap) (locs : List Loc) (ls : Array Slot), wC_Wk_takeWork_26 a R σ y1 y2 → va_P D clA (cw a t σ) H → va_D A (cw a t σ) → va_S A s.heap H locs → lv_has ls 3 [(0, .ref (a 38)), (1, .int y1), (2, .int y2)] → W p l e (headSpec wsWk_takeWork rmC_Wk_takeWork).room s m ([.ref (a 38), .int x1, .int x2] : List Value).toArray below meth c H locs 1 4 (MQ below (va_Qv R (uI D clA (cT t) A true (cw a t)) A) ([.ref (a 38), .int x1, .int x2] : List Value).toArray s 1 4 A) (F0 m 26 ls []) := by
    intro σ y1 y2 H locs ls hwp hP hD hS hl
    refine lv_aload_n hx hb dWk_takeWork_26 rfl (lv_at hl 0 rfl) ?_
    refine va_get (D := D) (ci := 10) (C := RWk) (T := TWk) (N := 7) hx hb hts hinWk hown hK hP 38 rfl rfl 0 (by decide) lk9 (fun _ h9 => h9) rfl dWk_takeWork_27 ?_
    refine lv_iload_n hx hb dWk_takeWork_30 rfl (lv_at hl 2 rfl) ?_
    refine lv_iconst (v := 1) hx hb dWk_takeWork_31 (by decide) ?_
    obtain ⟨hi1, hwp⟩ := hwp
    refine va_zast hx hb hK hP hD hS 39 1 rfl rfl hi1 dWk_takeWork_32 (fun H locs hP hD hS => ?_)
    obtain ⟨σ2, eσ2⟩ : ∃ z, z = cu σ 32 y2.toNatClampNeg (vp_nar .boolean 1) := ⟨_, rfl⟩
    have hwp := hwp σ2 eσ2
    have hP : va_P D clA (cw a t σ2) H := by rw [eσ2]; exact hP
    have hD : va_D A (cw a t σ2) := by rw [eσ2]; exact hD
    exact W.vret hx hb hr (fun t ht hW => ⟨⟨σ2, rfl, hwp, uEnd ht hW hP hK hD hS hA⟩, hS.F ht⟩) hS.2.2 dWk_takeWork_33
  have hl := lv_entry ([.ref (a 38), .int x1, .int x2]) (n := 3) (Nat.le_of_ble_eq_true rfl)
  rw [lg_entry_eq]
  generalize (lg_sl ([.ref (a 38), .int x1, .int x2]) ++ List.replicate (3 - (lg_sl ([.ref (a 38), .int x1, .int x2])).length) Slot.unset).toArray = ls at hl ⊢
  have hl : lv_has ls 3 [(0, .ref (a 38)), (1, .int x1), (2, .int x2)] := hl
  refine lv_aload_n hx hb dWk_takeWork_0 rfl (lv_at hl 0 rfl) ?_
  refine lv_iload_n hx hb dWk_takeWork_1 rfl (lv_at hl 2 rfl) ?_
  obtain ⟨P3, hP3, hwp⟩ := hwp
  refine uCallVi (As := [.int x2]) (rest := []) (C := RWk) ⟨hx, hb, hml, hown, hts⟩ (kC_Wk_isEngaged l D a A t   σ x2 P3 hP3) (cwV 1 hts (gdV wm_535 wm_537 wp_7 wm_12 wm_538) rfl rfl rfl (by decide +kernel) ⟨Nat.le_of_ble_eq_true rfl, Nat.le_of_ble_eq_true rfl⟩) (va_recv (ci := 10) (q0 := 38) hK hP rfl rfl) hP hK hD hA hS rfl hl.1 rfl (Nat.le_of_ble_eq_true rfl) dWk_takeWork_2 ⟨Nat.le_of_ble_eq_true rfl, Nat.le_of_ble_eq_true rfl⟩ (fun r5 u4 H locs hu4 hP hD hS => ?_)
  have hwp := hwp r5 u4 hu4
  refine lv_if_eq hx hb dWk_takeWork_5 rfl (fun h6 => ?_) (fun h6 => ?_)
  · have hwp := hwp.1 h6
    refine lv_aload_n hx hb dWk_takeWork_19 rfl (lv_at hl 0 rfl) ?_
    refine va_get (D := D) (ci := 10) (C := RWk) (T := TWk) (N := 7) hx hb hts hinWk hown hK hP 38 rfl rfl 3 (by decide) lk19 (fun _ h9 => h9) rfl dWk_takeWork_20 ?_
    refine lv_iload_n hx hb dWk_takeWork_23 rfl (lv_at hl 2 rfl) ?_
    refine lv_iload_n hx hb dWk_takeWork_24 rfl (lv_at hl 1 rfl) ?_
    obtain ⟨hi7, hwp⟩ := hwp
    refine va_iast hx hb hK hP hD hS 40 0 rfl rfl hi7 dWk_takeWork_25 (fun H locs hP hD hS => ?_)
    obtain ⟨σ8, eσ8⟩ : ∃ z, z = cu u4 35 x2.toNatClampNeg x1 := ⟨_, rfl⟩
    have hwp := hwp σ8 eσ8
    have hP : va_P D clA (cw a t σ8) H := by rw [eσ8]; exact hP
    have hD : va_D A (cw a t σ8) := by rw [eσ8]; exact hD
    refine W.widen (k := 1) (n := 4) (by omega) (by omega) ?_
    exact cut26 σ8 x1 x2 _ _ _ hwp hP hD hS (lv_sub hl [0, 1, 2] rfl)
  · have hwp := hwp.2 h6
    refine lv_aload_n hx hb dWk_takeWork_8 rfl (lv_at hl 0 rfl) ?_
    refine lv_iload_n hx hb dWk_takeWork_9 rfl (lv_at hl 2 rfl) ?_
    refine lv_iload_n hx hb dWk_takeWork_10 rfl (lv_at hl 1 rfl) ?_
    refine lv_iconst (v := 1) hx hb dWk_takeWork_11 (by decide) ?_
    refine lv_iconst (v := 0) hx hb dWk_takeWork_12 (by decide) ?_
    obtain ⟨P9, hP9, hwp⟩ := hwp
    refine uCallUv (As := [.int x2, .int x1, .int 1, .int 0]) (rest := []) (C := RWk) ⟨hx, hb, hml, hown, hts⟩ (kC_Wk_send l D a A t   u4 x2 x1 1 0 P9 hP9) (va_cwU (x := ⟨"NodeServices$Work", "send", "(IIII)V"⟩) (owner := "NodeServices$Service") 4 hts (gdU wm_564 wm_565 wm_566 wm_372 wm_4 wm_379) rfl rfl rfl rfl (by decide +kernel) ⟨Nat.le_of_ble_eq_true rfl, Nat.le_of_ble_eq_true rfl⟩) (va_recv (ci := 10) (q0 := 38) hK hP rfl rfl) hP hK hD hA hS rfl hl.1 rfl (Nat.le_of_ble_eq_true rfl) dWk_takeWork_13 ⟨Nat.le_of_ble_eq_true rfl, Nat.le_of_ble_eq_true rfl⟩ (fun u10 H locs hu10 hP hD hS => ?_)
    have hwp := hwp u10 hu10
    refine lv_goto hx hb dWk_takeWork_16 rfl ?_
    exact cut26 u10 x1 x2 _ _ _ hwp hP hD hS (lv_sub hl [0, 1, 2] rfl)
-- NodeServices$Work: void receive(int, int, NodeServices$Message), on Wk
def wC_Wk_receive (a : Nat → Nat) (q : Nat) (R : CS → Prop) (σ : CS) (x1 x2 : Int32) : Prop :=
  (q ∈ σ.2.2 ∧ (((¬ (σ.1 42 q) = 0) → (vp_in x2 4 ∧ (vp_in x2 4 ∧ (∀ σ6 : CS, σ6 = cu σ 36 x2.toNatClampNeg ((σ.1 36 x2.toNatClampNeg) - 1) → (∃ P7 : CS → Prop, wC_Wk_settle a P7 σ6 x2 ∧ (∀ (u8 : CS), P7 u8 → R u8)))))) ∧ (((σ.1 42 q) = 0) → (∃ P9 : CS → Prop, wC_Wk_takeWork a P9 σ x1 x2 ∧ (∀ (u10 : CS), P9 u10 → R u10)))))
abbrev wsWk_receive : List Cond := .code yWk_receive cWk_receive 4 none :: wg
abbrev rmC_Wk_receive : Room := { frames := 4, cells := 1, slots := 4, locals := 91 }
set_option maxHeartbeats 4000000 in
set_option maxRecDepth 100000 in
theorem kC_Wk_receive (l : Launch) (D : va_G) (a : Nat → Nat) (A : Nat → Prop) (t : Nat → ClassId) (q : Nat) (σ : CS) (x1 x2 : Int32) (R : CS → Prop) (hwp : wC_Wk_receive a q R σ x1 x2) : Met l yWk_receive wsWk_receive rmC_Wk_receive (va_Pc [.ref (a 38), .int x1, .int x2, .ref q] (uI D clA (cT t) A true (cw a t) σ)) (va_Qv R (uI D clA (cT t) A true (cw a t)) A) 1 4 A := by
  refine Met.ofW (cc := cWk_receive) (maxL := 4) (ret := none) (by decide) rfl ?_
  intro p e s m args below meth c s₁ B hml hv
  obtain ⟨rfl, hP, hK, hD, hA⟩ := hv
  have hx := B.exec
  have hb := B.bytes
  have hr := B.returns
  have hts := atoms_spec (ws := wsWk_receive) B.pre
  have hown : s.vm.findClass RWk = some m.cls := findClass_of_methodNamed B.named
  have hlocks := B.notSynchronized
  have hinMs : ∀ w ∈ u_ws RMs TMs 4, w ∈ wsWk_receive := fun w h => List.mem_cons_of_mem _ (inMs w h)
  have hinWk : ∀ w ∈ u_ws RWk TWk 7, w ∈ wsWk_receive := fun w h => List.mem_cons_of_mem _ (inWk w h)
  have lk23 := hts _ (List.mem_cons_of_mem _ wm_216)
  have lk38 := hts _ (List.mem_cons_of_mem _ wm_393)
  have hS : va_S A s.heap s.heap [] := va_S.rf
  have hl := lv_entry ([.ref (a 38), .int x1, .int x2, .ref q]) (n := 4) (Nat.le_of_ble_eq_true rfl)
  rw [lg_entry_eq]
  generalize (lg_sl ([.ref (a 38), .int x1, .int x2, .ref q]) ++ List.replicate (4 - (lg_sl ([.ref (a 38), .int x1, .int x2, .ref q])).length) Slot.unset).toArray = ls at hl ⊢
  have hl : lv_has ls 4 [(0, .ref (a 38)), (1, .int x1), (2, .int x2), (3, .ref q)] := hl
  refine lv_aload_n hx hb dWk_receive_0 rfl (lv_at hl 3 rfl) ?_
  obtain ⟨hm1, hwp⟩ := hwp
  obtain ⟨km2, hkm2⟩ := cw_ms (a := a) (t := t) hm1
  refine va_get (D := D) (ci := 4) (C := RMs) (T := TMs) (N := 4) hx hb hts hinMs hown hK hP km2 hkm2 rfl 1 (by decide) lk38 (fun _ h9 => h9) rfl dWk_receive_1 ?_
  refine lv_if_ne hx hb dWk_receive_4 rfl (fun h3 => ?_) (fun h3 => ?_)
  · have hwp := hwp.1 h3
    refine lv_aload_n hx hb dWk_receive_16 rfl (lv_at hl 0 rfl) ?_
    refine va_get (D := D) (ci := 10) (C := RWk) (T := TWk) (N := 7) hx hb hts hinWk hown hK hP 38 rfl rfl 4 (by decide) lk23 (fun _ h9 => h9) rfl dWk_receive_17 ?_
    refine lv_iload_n hx hb dWk_receive_20 rfl (lv_at hl 2 rfl) ?_
    refine lv_dup2_11 hx hb dWk_receive_21 rfl rfl ?_
    obtain ⟨hi4, hwp⟩ := hwp
    refine va_iald hx hb hK hP 41 0 rfl rfl hi4 dWk_receive_22 ?_
    refine lv_iconst (v := 1) hx hb dWk_receive_23 (by decide) ?_
    refine lv_isub hx hb dWk_receive_24 ?_
    obtain ⟨hi5, hwp⟩ := hwp
    refine va_iast hx hb hK hP hD hS 41 0 rfl rfl hi5 dWk_receive_25 (fun H locs hP hD hS => ?_)
    obtain ⟨σ6, eσ6⟩ : ∃ z, z = cu σ 36 x2.toNatClampNeg ((σ.1 36 x2.toNatClampNeg) - 1) := ⟨_, rfl⟩
    have hwp := hwp σ6 eσ6
    have hP : va_P D clA (cw a t σ6) H := by rw [eσ6]; exact hP
    have hD : va_D A (cw a t σ6) := by rw [eσ6]; exact hD
    refine lv_aload_n hx hb dWk_receive_26 rfl (lv_at hl 0 rfl) ?_
    refine lv_iload_n hx hb dWk_receive_27 rfl (lv_at hl 2 rfl) ?_
    obtain ⟨P7, hP7, hwp⟩ := hwp
    refine uCallVv (As := [.int x2]) (rest := []) (C := RWk) ⟨hx, hb, hml, hown, hts⟩ (kC_Wk_settle l D a A t   σ6 x2 P7 hP7) (cwV 1 hts (gdV wm_579 wm_581 wp_8 wm_12 wm_582) rfl rfl rfl (by decide +kernel) ⟨Nat.le_of_ble_eq_true rfl, Nat.le_of_ble_eq_true rfl⟩) (va_recv (ci := 10) (q0 := 38) hK hP rfl rfl) hP hK hD hA hS rfl hl.1 rfl (Nat.le_of_ble_eq_true rfl) dWk_receive_28 ⟨Nat.le_of_ble_eq_true rfl, Nat.le_of_ble_eq_true rfl⟩ (fun u8 H locs hu8 hP hD hS => ?_)
    have hwp := hwp u8 hu8
    exact W.vret hx hb hr (fun t ht hW => ⟨⟨u8, rfl, hwp, uEnd ht hW hP hK hD hS hA⟩, hS.F ht⟩) hS.2.2 dWk_receive_31
  · have hwp := hwp.2 h3
    refine lv_aload_n hx hb dWk_receive_7 rfl (lv_at hl 0 rfl) ?_
    refine lv_iload_n hx hb dWk_receive_8 rfl (lv_at hl 1 rfl) ?_
    refine lv_iload_n hx hb dWk_receive_9 rfl (lv_at hl 2 rfl) ?_
    obtain ⟨P9, hP9, hwp⟩ := hwp
    refine uCallVv (As := [.int x1, .int x2]) (rest := []) (C := RWk) ⟨hx, hb, hml, hown, hts⟩ (kC_Wk_takeWork l D a A t   σ x1 x2 P9 hP9) (cwV 2 hts (gdV wm_662 wm_664 wp_15 wm_12 wm_665) rfl rfl rfl (by decide +kernel) ⟨Nat.le_of_ble_eq_true rfl, Nat.le_of_ble_eq_true rfl⟩) (va_recv (ci := 10) (q0 := 38) hK hP rfl rfl) hP hK hD hA hS rfl hl.1 rfl (Nat.le_of_ble_eq_true rfl) dWk_receive_10 ⟨Nat.le_of_ble_eq_true rfl, Nat.le_of_ble_eq_true rfl⟩ (fun u10 H locs hu10 hP hD hS => ?_)
    have hwp := hwp u10 hu10
    refine lv_goto hx hb dWk_receive_13 rfl ?_
    exact W.vret hx hb hr (fun t ht hW => ⟨⟨u10, rfl, hwp, uEnd ht hW hP hK hD hS hA⟩, hS.F ht⟩) hS.2.2 dWk_receive_31
