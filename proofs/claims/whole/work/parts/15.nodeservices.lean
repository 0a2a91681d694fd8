-- NodeServices$Work: private boolean isEngaged(int), on Wk, pure
def wP_Wk_isEngaged_18 (a : Nat → Nat) (R : Int32 → CS → Prop) (σ : CS) (y1 : Int32) : Prop :=
  R 1 σ
def wP_Wk_isEngaged (a : Nat → Nat) (R : Int32 → CS → Prop) (σ : CS) (x1 : Int32) : Prop :=
  ((((σ.1 33 0) = x1) → wP_Wk_isEngaged_18 a R σ x1) ∧ ((¬ (σ.1 33 0) = x1) → (vp_in x1 4 ∧ ((((σ.1 35 x1.toNatClampNeg) = (-1)) → R 0 σ) ∧ ((¬ (σ.1 35 x1.toNatClampNeg) = (-1)) → wP_Wk_isEngaged_18 a R σ x1)))))
abbrev rmP_Wk_isEngaged : Room := { frames := 0, cells := 0, slots := 0, locals := 0 }
set_option maxHeartbeats 4000000 in
set_option maxRecDepth 100000 in
theorem pC_Wk_isEngaged (l : Launch) (D : va_G) (a : Nat → Nat) (t : Nat → ClassId) (σ : CS) (x1 : Int32) (R : Int32 → CS → Prop) (hwp : wP_Wk_isEngaged a R σ x1) : Met l yWk_isEngaged wsWk_isEngaged rmP_Wk_isEngaged (va_Pc [.ref (a 38), .int x1] (pI D t a σ)) (va_Qi R (pI D t a) (fun _ => False)) 0 0 (fun _ => False) := by
  refine Met.ofW (cc := cWk_isEngaged) (maxL := 2) (ret := (some .boolean)) (by decide) rfl ?_
  intro p e s m args below meth c s₁ B hml hv
  obtain ⟨rfl, ⟨hP, hK⟩⟩ := hv
  have hx := B.exec
  have hb := B.bytes
  have hr := B.returns
  have hts := atoms_spec (ws := wsWk_isEngaged) B.pre
  have hown : s.vm.findClass RWk = some m.cls := findClass_of_methodNamed B.named
  have hlocks := B.notSynchronized
  have hinWk : ∀ w ∈ u_ws RWk TWk 7, w ∈ wsWk_isEngaged := fun w h => List.mem_cons_of_mem _ (inWk w h)
  have lk15 := hts _ (List.mem_cons_of_mem _ wm_211)
  have lk19 := hts _ (List.mem_cons_of_mem _ wm_215)
  have hS : va_S (fun _ => False) s.heap s.heap [] := va_S.rf
  have cut18 : ∀ (σ : CS) (y1 : Int32) (H : Heap) (locs : List Loc) (ls : Array Slot), wP_Wk_isEngaged_18 a R σ y1 → va_P D clA (cw a t σ) H → va_S (fun _ => False) s.heap H locs → lv_has ls 2 [(0, .ref (a 38)), (1, .int y1)] → W p l e (headSpec wsWk_isEngaged rmP_Wk_isEngaged).room s m ([.ref (a 38), .int x1] : List Value).toArray below meth c H locs 0 0 (MQ below (va_Qi R (pI D t a) (fun _ => False)) ([.ref (a 38), .int x1] : List Value).toArray s 0 0 (fun _ => False)) (F0 m 18 ls []) := by
    intro σ y1 H locs ls hwp hP hS hl
    refine lv_iconst (v := 1) hx hb dWk_isEngaged_18 (by decide) ?_
    refine lv_goto hx hb dWk_isEngaged_19 rfl ?_
    exact W.zret (v := 1) hx hb hr (by decide) (fun t ht hW => ⟨⟨1, σ, rfl, hwp, pEnd ht hW hP hK⟩, hS.F ht⟩) hS.2.2 dWk_isEngaged_23
  have hl := lv_entry ([.ref (a 38), .int x1]) (n := 2) (Nat.le_of_ble_eq_true rfl)
  rw [lg_entry_eq]
  generalize (lg_sl ([.ref (a 38), .int x1]) ++ List.replicate (2 - (lg_sl ([.ref (a 38), .int x1])).length) Slot.unset).toArray = ls at hl ⊢
  have hl : lv_has ls 2 [(0, .ref (a 38)), (1, .int x1)] := hl
  refine lv_aload_n hx hb dWk_isEngaged_0 rfl (lv_at hl 0 rfl) ?_
  refine va_get (D := D) (ci := 10) (C := RWk) (T := TWk) (N := 7) hx hb hts hinWk hown hK hP 38 rfl rfl 1 (by decide) lk15 (fun _ h9 => h9) rfl dWk_isEngaged_1 ?_
  refine lv_iload_n hx hb dWk_isEngaged_4 rfl (lv_at hl 1 rfl) ?_
  refine lv_icmp_eq hx hb dWk_isEngaged_5 rfl (fun h1 => ?_) (fun h1 => ?_)
  · have hwp := hwp.1 h1
    exact cut18 σ x1 _ _ _ hwp hP hS (lv_sub hl [0, 1] rfl)
  · have hwp := hwp.2 h1
    refine lv_aload_n hx hb dWk_isEngaged_8 rfl (lv_at hl 0 rfl) ?_
    refine va_get (D := D) (ci := 10) (C := RWk) (T := TWk) (N := 7) hx hb hts hinWk hown hK hP 38 rfl rfl 3 (by decide) lk19 (fun _ h9 => h9) rfl dWk_isEngaged_9 ?_
    refine lv_iload_n hx hb dWk_isEngaged_12 rfl (lv_at hl 1 rfl) ?_
    obtain ⟨hi2, hwp⟩ := hwp
    refine va_iald hx hb hK hP 40 0 rfl rfl hi2 dWk_isEngaged_13 ?_
    refine lv_iconst (v := (-1)) hx hb dWk_isEngaged_14 (by decide) ?_
    refine lv_icmp_eq hx hb dWk_isEngaged_15 rfl (fun h3 => ?_) (fun h3 => ?_)
    · have hwp := hwp.1 h3
      refine lv_iconst (v := 0) hx hb dWk_isEngaged_22 (by decide) ?_
      exact W.zret (v := 0) hx hb hr (by decide) (fun t ht hW => ⟨⟨0, σ, rfl, hwp, pEnd ht hW hP hK⟩, hS.F ht⟩) hS.2.2 dWk_isEngaged_23
    · have hwp := hwp.2 h3
      exact cut18 σ x1 _ _ _ hwp hP hS (lv_sub hl [0, 1] rfl)
-- NodeServices$Work: boolean isOver(), on Wk, pure
def wP_Wk_isOver_33 (a : Nat → Nat) (K2 : CS → Int32 → Prop) (R : Int32 → CS → Prop) (σ : CS) (y1 : Int32) : Prop :=
  R 0 σ
def wP_Wk_isOver_2_step (a : Nat → Nat) (K2 : CS → Int32 → Prop) (R : Int32 → CS → Prop) (σ : CS) (y1 : Int32) : Prop :=
  (((4 ≤ y1) → R 1 σ) ∧ ((¬ 4 ≤ y1) → (vp_in y1 4 ∧ (((¬ (σ.1 32 y1.toNatClampNeg) = 0) → wP_Wk_isOver_33 a K2 R σ y1) ∧ (((σ.1 32 y1.toNatClampNeg) = 0) → (∃ P4 : Int32 → CS → Prop, wP_Wk_isEngaged a P4 σ y1 ∧ (∀ (r6 : Int32) (u5 : CS), P4 r6 u5 → (((¬ r6 = 0) → wP_Wk_isOver_33 a K2 R u5 y1) ∧ ((r6 = 0) → (vp_in y1 4 ∧ ((((u5.1 36 y1.toNatClampNeg) = 0) → K2 u5 (y1 + 1)) ∧ ((¬ (u5.1 36 y1.toNatClampNeg) = 0) → wP_Wk_isOver_33 a K2 R u5 y1))))))))))))
def wP_Wk_isOver_2 (a : Nat → Nat) (R : Int32 → CS → Prop) : Nat → CS → Int32 → Prop
  | 0 => fun _ _ => False
  | k + 1 => fun σ y1 => wP_Wk_isOver_2_step a (wP_Wk_isOver_2 a R k) R σ y1
def wP_Wk_isOver (a : Nat → Nat) (R : Int32 → CS → Prop) (σ : CS) : Prop :=
  wP_Wk_isOver_2 a R 5 σ 0
abbrev rmP_Wk_isOver : Room := { frames := 1, cells := 0, slots := 0, locals := 21 }
set_option maxHeartbeats 4000000 in
set_option maxRecDepth 100000 in
theorem pC_Wk_isOver (l : Launch) (D : va_G) (a : Nat → Nat) (t : Nat → ClassId) (σ : CS) (R : Int32 → CS → Prop) (hwp : wP_Wk_isOver a R σ ) : Met l yWk_isOver wsWk_isOver rmP_Wk_isOver (va_Pc [.ref (a 38)] (pI D t a σ)) (va_Qi R (pI D t a) (fun _ => False)) 0 0 (fun _ => False) := by
  refine Met.ofW (cc := cWk_isOver) (maxL := 2) (ret := (some .boolean)) (by decide) rfl ?_
  intro p e s m args below meth c s₁ B hml hv
  obtain ⟨rfl, ⟨hP, hK⟩⟩ := hv
  have hx := B.exec
  have hb := B.bytes
  have hr := B.returns
  have hts := atoms_spec (ws := wsWk_isOver) B.pre
  have hown : s.vm.findClass RWk = some m.cls := findClass_of_methodNamed B.named
  have hlocks := B.notSynchronized
  have hinWk : ∀ w ∈ u_ws RWk TWk 7, w ∈ wsWk_isOver := fun w h => List.mem_cons_of_mem _ (inWk w h)
  have lk23 := hts _ (List.mem_cons_of_mem _ wm_216)
  have lk9 := hts _ (List.mem_cons_of_mem _ wm_209)
  have hS : va_S (fun _ => False) s.heap s.heap [] := va_S.rf
  have cut2 : ∀ (k2 : Nat) (σ : CS) (y1 : Int32) (H : Heap) (locs : List Loc) (ls : Array Slot), wP_Wk_isOver_2 a R k2 σ y1 → va_P D clA (cw a t σ) H → va_S (fun _ => False) s.heap H locs → lv_has ls 2 [(0, .ref (a 38)), (1, .int y1)] → W p l e (headSpec wsWk_isOver rmP_Wk_isOver).room s m ([.ref (a 38)] : List Value).toArray below meth c H locs 0 0 (MQ below (va_Qi R (pI D t a) (fun _ => False)) ([.ref (a 38)] : List Value).toArray s 0 0 (fun _ => False)) (F0 m 2 ls []) := by
    intro k2
    induction k2 with
    | zero => intro σ y1 H locs ls hwp hP hS hl; exact False.elim hwp
    | succ k2 ih2 =>
      intro σ y1 H locs ls hwp hP hS hl
      have cut33 : ∀ (σ : CS) (y1 : Int32) (H : Heap) (locs : List Loc) (ls : Array Slot), wP_Wk_isOver_33 a (wP_Wk_isOver_2 a R k2) R σ y1 → va_P D clA (cw a t σ) H → va_S (fun _ => False) s.heap H locs → lv_has ls 2 [(0, .ref (a 38)), (1, .int y1)] → W p l e (headSpec wsWk_isOver rmP_Wk_isOver).room s m ([.ref (a 38)] : List Value).toArray below meth c H locs 0 0 (MQ below (va_Qi R (pI D t a) (fun _ => False)) ([.ref (a 38)] : List Value).toArray s 0 0 (fun _ => False)) (F0 m 33 ls []) := by
        intro σ y1 H locs ls hwp hP hS hl
        refine lv_iconst (v := 0) hx hb dWk_isOver_33 (by decide) ?_
        exact W.zret (v := 0) hx hb hr (by decide) (fun t ht hW => ⟨⟨0, σ, rfl, hwp, pEnd ht hW hP hK⟩, hS.F ht⟩) hS.2.2 dWk_isOver_34
      have hwp : wP_Wk_isOver_2_step a (wP_Wk_isOver_2 a R k2) R σ y1 := hwp
      refine lv_iload_n hx hb dWk_isOver_2 rfl (lv_at hl 1 rfl) ?_
      refine lv_iconst (v := 4) hx hb dWk_isOver_3 (by decide) ?_
      refine lv_icmp_ge hx hb dWk_isOver_4 rfl (fun h1 => ?_) (fun h1 => ?_)
      · have hwp := hwp.1 h1
        refine lv_iconst (v := 1) hx hb dWk_isOver_41 (by decide) ?_
        exact W.zret (v := 1) hx hb hr (by decide) (fun t ht hW => ⟨⟨1, σ, rfl, hwp, pEnd ht hW hP hK⟩, hS.F ht⟩) hS.2.2 dWk_isOver_42
      · have hwp := hwp.2 h1
        refine lv_aload_n hx hb dWk_isOver_7 rfl (lv_at hl 0 rfl) ?_
        refine va_get (D := D) (ci := 10) (C := RWk) (T := TWk) (N := 7) hx hb hts hinWk hown hK hP 38 rfl rfl 0 (by decide) lk9 (fun _ h9 => h9) rfl dWk_isOver_8 ?_
        refine lv_iload_n hx hb dWk_isOver_11 rfl (lv_at hl 1 rfl) ?_
        obtain ⟨hi2, hwp⟩ := hwp
        refine va_zald hx hb hK hP 39 1 rfl rfl hi2 dWk_isOver_12 ?_
        refine lv_if_ne hx hb dWk_isOver_13 rfl (fun h3 => ?_) (fun h3 => ?_)
        · have hwp := hwp.1 h3
          exact cut33 σ y1 _ _ _ hwp hP hS (lv_sub hl [0, 1] rfl)
        · have hwp := hwp.2 h3
          refine lv_aload_n hx hb dWk_isOver_16 rfl (lv_at hl 0 rfl) ?_
          refine lv_iload_n hx hb dWk_isOver_17 rfl (lv_at hl 1 rfl) ?_
          obtain ⟨P4, hP4, hwp⟩ := hwp
          refine pCallVi (As := [.int y1]) (rest := []) (C := RWk) ⟨hx, hb, hml, hown, hts⟩ (pC_Wk_isEngaged l D a t   σ y1 P4 hP4) (cwV 1 hts (gdV wm_535 wm_537 wp_7 wm_12 wm_538) rfl rfl rfl (by decide +kernel) ⟨Nat.le_of_ble_eq_true rfl, Nat.le_of_ble_eq_true rfl⟩) (va_recv (ci := 10) (q0 := 38) hK hP rfl rfl) hP hK hS rfl hl.1 rfl (Nat.le_of_ble_eq_true rfl) dWk_isOver_18 ⟨Nat.le_of_ble_eq_true rfl, Nat.le_of_ble_eq_true rfl⟩ (fun r6 u5 H locs hu5 hP hS => ?_)
          have hwp := hwp r6 u5 hu5
          refine lv_if_ne hx hb dWk_isOver_21 rfl (fun h7 => ?_) (fun h7 => ?_)
          · have hwp := hwp.1 h7
            exact cut33 u5 y1 _ _ _ hwp hP hS (lv_sub hl [0, 1] rfl)
          · have hwp := hwp.2 h7
            refine lv_aload_n hx hb dWk_isOver_24 rfl (lv_at hl 0 rfl) ?_
            refine va_get (D := D) (ci := 10) (C := RWk) (T := TWk) (N := 7) hx hb hts hinWk hown hK hP 38 rfl rfl 4 (by decide) lk23 (fun _ h9 => h9) rfl dWk_isOver_25 ?_
            refine lv_iload_n hx hb dWk_isOver_28 rfl (lv_at hl 1 rfl) ?_
            obtain ⟨hi8, hwp⟩ := hwp
            refine va_iald hx hb hK hP 41 0 rfl rfl hi8 dWk_isOver_29 ?_
            refine lv_if_eq hx hb dWk_isOver_30 rfl (fun h9 => ?_) (fun h9 => ?_)
            · have hwp := hwp.1 h9
              refine lv_iinc (k := 1) hx hb dWk_isOver_35 hl rfl (fx_inc1 _) (by decide) rfl (fun ls hl => ?_)
              have hl : lv_has ls 2 [(1, .int (y1 + 1)), (0, .ref (a 38))] := hl
              refine lv_goto hx hb dWk_isOver_38 rfl ?_
              exact ih2 u5 (y1 + 1) _ _ _ hwp hP hS (lv_sub hl [1, 0] rfl)
            · have hwp := hwp.2 h9
              exact cut33 u5 y1 _ _ _ hwp hP hS (lv_sub hl [0, 1] rfl)
  have hl := lv_entry ([.ref (a 38)]) (n := 2) (Nat.le_of_ble_eq_true rfl)
  rw [lg_entry_eq]
  generalize (lg_sl ([.ref (a 38)]) ++ List.replicate (2 - (lg_sl ([.ref (a 38)])).length) Slot.unset).toArray = ls at hl ⊢
  have hl : lv_has ls 2 [(0, .ref (a 38))] := hl
  refine lv_iconst (v := 0) hx hb dWk_isOver_0 (by decide) ?_
  refine lv_istore_n hx hb dWk_isOver_1 rfl hl (by decide) rfl (fun ls hl => ?_)
  have hl : lv_has ls 2 [(1, .int 0), (0, .ref (a 38))] := hl
  exact cut2 5 σ 0 _ _ _ hwp hP hS (lv_sub hl [1, 0] rfl)
-- NodeServices$Work: boolean hasMostUnanswered(int), on Wk, pure
def wP_Wk_hasMostUnanswered (a : Nat → Nat) (R : Int32 → CS → Prop) (σ : CS) (x1 : Int32) : Prop :=
  (vp_in x1 4 ∧ ((((σ.1 36 x1.toNatClampNeg) < 20) → R 0 σ) ∧ ((¬ (σ.1 36 x1.toNatClampNeg) < 20) → R 1 σ)))
abbrev rmP_Wk_hasMostUnanswered : Room := { frames := 0, cells := 0, slots := 0, locals := 0 }
set_option maxHeartbeats 4000000 in
set_option maxRecDepth 100000 in
theorem pC_Wk_hasMostUnanswered (l : Launch) (D : va_G) (a : Nat → Nat) (t : Nat → ClassId) (σ : CS) (x1 : Int32) (R : Int32 → CS → Prop) (hwp : wP_Wk_hasMostUnanswered a R σ x1) : Met l yWk_hasMostUnanswered wsWk_hasMostUnanswered rmP_Wk_hasMostUnanswered (va_Pc [.ref (a 38), .int x1] (pI D t a σ)) (va_Qi R (pI D t a) (fun _ => False)) 0 0 (fun _ => False) := by
  refine Met.ofW (cc := cWk_hasMostUnanswered) (maxL := 2) (ret := (some .boolean)) (by decide) rfl ?_
  intro p e s m args below meth c s₁ B hml hv
  obtain ⟨rfl, ⟨hP, hK⟩⟩ := hv
  have hx := B.exec
  have hb := B.bytes
  have hr := B.returns
  have hts := atoms_spec (ws := wsWk_hasMostUnanswered) B.pre
  have hown : s.vm.findClass RWk = some m.cls := findClass_of_methodNamed B.named
  have hlocks := B.notSynchronized
  have hinWk : ∀ w ∈ u_ws RWk TWk 7, w ∈ wsWk_hasMostUnanswered := fun w h => List.mem_cons_of_mem _ (inWk w h)
  have lk23 := hts _ (List.mem_cons_of_mem _ wm_216)
  have hS : va_S (fun _ => False) s.heap s.heap [] := va_S.rf
  have hl := lv_entry ([.ref (a 38), .int x1]) (n := 2) (Nat.le_of_ble_eq_true rfl)
  rw [lg_entry_eq]
  generalize (lg_sl ([.ref (a 38), .int x1]) ++ List.replicate (2 - (lg_sl ([.ref (a 38), .int x1])).length) Slot.unset).toArray = ls at hl ⊢
  have hl : lv_has ls 2 [(0, .ref (a 38)), (1, .int x1)] := hl
  refine lv_aload_n hx hb dWk_hasMostUnanswered_0 rfl (lv_at hl 0 rfl) ?_
  refine va_get (D := D) (ci := 10) (C := RWk) (T := TWk) (N := 7) hx hb hts hinWk hown hK hP 38 rfl rfl 4 (by decide) lk23 (fun _ h9 => h9) rfl dWk_hasMostUnanswered_1 ?_
  refine lv_iload_n hx hb dWk_hasMostUnanswered_4 rfl (lv_at hl 1 rfl) ?_
  obtain ⟨hi1, hwp⟩ := hwp
  refine va_iald hx hb hK hP 41 0 rfl rfl hi1 dWk_hasMostUnanswered_5 ?_
  refine lv_bipush (v := 20) hx hb dWk_hasMostUnanswered_6 (by decide) ?_
  refine lv_icmp_lt hx hb dWk_hasMostUnanswered_8 rfl (fun h2 => ?_) (fun h2 => ?_)
  · have hwp := hwp.1 h2
    refine lv_iconst (v := 0) hx hb dWk_hasMostUnanswered_15 (by decide) ?_
    exact W.zret (v := 0) hx hb hr (by decide) (fun t ht hW => ⟨⟨0, σ, rfl, hwp, pEnd ht hW hP hK⟩, hS.F ht⟩) hS.2.2 dWk_hasMostUnanswered_16
  · have hwp := hwp.2 h2
    refine lv_iconst (v := 1) hx hb dWk_hasMostUnanswered_11 (by decide) ?_
    refine lv_goto hx hb dWk_hasMostUnanswered_12 rfl ?_
    exact W.zret (v := 1) hx hb hr (by decide) (fun t ht hW => ⟨⟨1, σ, rfl, hwp, pEnd ht hW hP hK⟩, hS.F ht⟩) hS.2.2 dWk_hasMostUnanswered_16
-- NodeServices$Channel: NodeServices$Message takeHead(), on Ch, pure
def wP_Ch_takeHead_31 (a : Nat → Nat) (k : Nat) (R : Option Nat → CS → Prop) (σ : CS) (y1 : Nat) : Prop :=
  False
def wP_Ch_takeHead (a : Nat → Nat) (k : Nat) (R : Option Nat → CS → Prop) (σ : CS) : Prop :=
  ((σ.2.1 0 k = none → R (none) σ) ∧ (∀ q2 : Nat, σ.2.1 0 k = some q2 → (q2 ∈ σ.2.2 ∧ ((σ.2.1 2 q2 = none → False) ∧ (∀ q6 : Nat, σ.2.1 2 q2 = some q6 → False)))))
abbrev rmP_Ch_takeHead : Room := { frames := 0, cells := 0, slots := 0, locals := 0 }
set_option maxHeartbeats 4000000 in
set_option maxRecDepth 100000 in
theorem pC_Ch_takeHead (l : Launch) (D : va_G) (a : Nat → Nat) (t : Nat → ClassId) (k : Nat) (hpk : k < 16) (σ : CS) (R : Option Nat → CS → Prop) (hwp : wP_Ch_takeHead a k R σ ) : Met l yCh_takeHead wsCh_takeHead rmP_Ch_takeHead (va_Pc [.ref (a (42 + k))] (pI D t a σ)) (va_Qq R (pI D t a) (fun _ => False)) 0 0 (fun _ => False) := by
  refine Met.ofW (cc := cCh_takeHead) (maxL := 2) (ret := (some (.object "NodeServices$Message"))) (by decide) rfl ?_
  intro p e s m args below meth c s₁ B hml hv
  obtain ⟨rfl, ⟨hP, hK⟩⟩ := hv
  have hx := B.exec
  have hb := B.bytes
  have hr := B.returns
  have hts := atoms_spec (ws := wsCh_takeHead) B.pre
  have hown : s.vm.findClass RCh = some m.cls := findClass_of_methodNamed B.named
  have hlocks := B.notSynchronized
  have hinCh : ∀ w ∈ u_ws RCh TCh 3, w ∈ wsCh_takeHead := fun w h => List.mem_cons_of_mem _ (inCh w h)
  have hinMs : ∀ w ∈ u_ws RMs TMs 4, w ∈ wsCh_takeHead := fun w h => List.mem_cons_of_mem _ (inMs w h)
  have lk17 := hts _ (List.mem_cons_of_mem _ wm_42)
  have lk20 := hts _ (List.mem_cons_of_mem _ wm_399)
  have lk7 := hts _ (List.mem_cons_of_mem _ wm_45)
  have hS : va_S (fun _ => False) s.heap s.heap [] := va_S.rf
  have cut31 : ∀ (σ : CS) (y1 : Nat) (H : Heap) (locs : List Loc) (ls : Array Slot), wP_Ch_takeHead_31 a k R σ y1 → va_P D clA (cw a t σ) H → va_S (fun _ => False) s.heap H locs → lv_has ls 2 [(0, .ref (a (42 + k))), (1, .ref y1)] → W p l e (headSpec wsCh_takeHead rmP_Ch_takeHead).room s m ([.ref (a (42 + k))] : List Value).toArray below meth c H locs 0 0 (MQ below (va_Qq R (pI D t a) (fun _ => False)) ([.ref (a (42 + k))] : List Value).toArray s 0 0 (fun _ => False)) (F0 m 31 ls []) := by
    intro σ y1 H locs ls hwp hP hS hl
    refine lv_aload_n hx hb dCh_takeHead_31 rfl (lv_at hl 0 rfl) ?_
    refine lv_dup hx hb dCh_takeHead_32 rfl ?_
    refine va_get (D := D) (ci := 3) (C := RCh) (T := TCh) (N := 3) hx hb hts hinCh hown hK hP (42 + k) (cw_ch hpk) rfl 2 (by decide) lk7 (fun _ h9 => h9) rfl dCh_takeHead_33 ?_
    refine lv_iconst (v := 1) hx hb dCh_takeHead_36 (by decide) ?_
    refine lv_isub hx hb dCh_takeHead_37 ?_
    exact False.elim hwp
  have hl := lv_entry ([.ref (a (42 + k))]) (n := 2) (Nat.le_of_ble_eq_true rfl)
  rw [lg_entry_eq]
  generalize (lg_sl ([.ref (a (42 + k))]) ++ List.replicate (2 - (lg_sl ([.ref (a (42 + k))])).length) Slot.unset).toArray = ls at hl ⊢
  have hl : lv_has ls 2 [(0, .ref (a (42 + k)))] := hl
  refine lv_aload_n hx hb dCh_takeHead_0 rfl (lv_at hl 0 rfl) ?_
  refine va_get (D := D) (ci := 3) (C := RCh) (T := TCh) (N := 3) hx hb hts hinCh hown hK hP (42 + k) (cw_ch hpk) rfl 0 (by decide) lk17 (fun _ h9 => h9) rfl dCh_takeHead_1 ?_
  refine fx_caseq (fun hq1 => ?_) (fun q2 hq1 => ?_)
  · have hwp := hwp.1 hq1
    refine lv_astore_nN hx hb dCh_takeHead_4 rfl hl (by decide) rfl (fun ls hl => ?_)
    have hl : lv_has ls 2 [(1, .null), (0, .ref (a (42 + k)))] := hl
    refine lv_aload_nN hx hb dCh_takeHead_5 rfl (lv_at hl 0 rfl) ?_
    refine lv_ifnonnullN hx hb dCh_takeHead_6 ?_
    refine lv_null hx hb dCh_takeHead_9 ?_
    exact W.aret (v := .null) hx hb hr (Or.inl ⟨_, rfl⟩) (Or.inl rfl) (fun t ht hW => ⟨⟨none, σ, rfl, hwp, pEnd ht hW hP hK⟩, hS.F ht⟩) hS.2.2 dCh_takeHead_10
  · have hwp := hwp.2 q2 hq1
    refine lv_astore_n hx hb dCh_takeHead_4 rfl hl (by decide) rfl (fun ls hl => ?_)
    have hl : lv_has ls 2 [(1, .ref q2), (0, .ref (a (42 + k)))] := hl
    refine lv_aload_n hx hb dCh_takeHead_5 rfl (lv_at hl 0 rfl) ?_
    refine lv_ifnonnull hx hb dCh_takeHead_6 rfl ?_
    refine lv_aload_n hx hb dCh_takeHead_11 rfl (lv_at hl 1 rfl) ?_
    refine lv_aload_n hx hb dCh_takeHead_12 rfl (lv_at hl 0 rfl) ?_
    obtain ⟨hm3, hwp⟩ := hwp
    obtain ⟨km4, hkm4⟩ := cw_ms (a := a) (t := t) hm3
    refine va_get (D := D) (ci := 4) (C := RMs) (T := TMs) (N := 4) hx hb hts hinMs hown hK hP km4 hkm4 rfl 3 (by decide) lk20 (fun _ h9 => h9) rfl dCh_takeHead_13 ?_
    refine fx_caseq (fun hq5 => ?_) (fun q6 hq5 => ?_)
    · have hwp := hwp.1 hq5
      exact False.elim hwp
    · have hwp := hwp.2 q6 hq5
      exact False.elim hwp
-- NodeServices$Network: NodeServices$Channel channel(int, int), on Nw, pure
def wP_Nw_channel (a : Nat → Nat) (R : Option Nat → CS → Prop) (σ : CS) (x1 x2 : Int32) : Prop :=
  (vp_in ((x1 * 4) + x2) 16 ∧ R (some (a (42 + ((x1 * 4) + x2).toNatClampNeg))) σ)
abbrev rmP_Nw_channel : Room := { frames := 0, cells := 0, slots := 0, locals := 0 }
set_option maxHeartbeats 4000000 in
set_option maxRecDepth 100000 in
theorem pC_Nw_channel (l : Launch) (D : va_G) (a : Nat → Nat) (t : Nat → ClassId) (σ : CS) (x1 x2 : Int32) (R : Option Nat → CS → Prop) (hwp : wP_Nw_channel a R σ x1 x2) : Met l yNw_channel wsNw_channel rmP_Nw_channel (va_Pc [.ref (a 1), .int x1, .int x2] (pI D t a σ)) (va_Qq R (pI D t a) (fun _ => False)) 0 0 (fun _ => False) := by
  refine Met.ofW (cc := cNw_channel) (maxL := 3) (ret := (some (.object "NodeServices$Channel"))) (by decide) rfl ?_
  intro p e s m args below meth c s₁ B hml hv
  obtain ⟨rfl, ⟨hP, hK⟩⟩ := hv
  have hx := B.exec
  have hb := B.bytes
  have hr := B.returns
  have hts := atoms_spec (ws := wsNw_channel) B.pre
  have hown : s.vm.findClass RNw = some m.cls := findClass_of_methodNamed B.named
  have hlocks := B.notSynchronized
  have hinNw : ∀ w ∈ u_ws RNw TNw 2, w ∈ wsNw_channel := fun w h => List.mem_cons_of_mem _ (inNw w h)
  have lk11 := hts _ (List.mem_cons_of_mem _ wm_54)
  have hS : va_S (fun _ => False) s.heap s.heap [] := va_S.rf
  have hl := lv_entry ([.ref (a 1), .int x1, .int x2]) (n := 3) (Nat.le_of_ble_eq_true rfl)
  rw [lg_entry_eq]
  generalize (lg_sl ([.ref (a 1), .int x1, .int x2]) ++ List.replicate (3 - (lg_sl ([.ref (a 1), .int x1, .int x2])).length) Slot.unset).toArray = ls at hl ⊢
  have hl : lv_has ls 3 [(0, .ref (a 1)), (1, .int x1), (2, .int x2)] := hl
  refine lv_aload_n hx hb dNw_channel_0 rfl (lv_at hl 0 rfl) ?_
  refine va_get (D := D) (ci := 2) (C := RNw) (T := TNw) (N := 2) hx hb hts hinNw hown hK hP 1 rfl rfl 0 (by decide) lk11 (fun _ h9 => h9) rfl dNw_channel_1 ?_
  refine lv_iload_n hx hb dNw_channel_4 rfl (lv_at hl 1 rfl) ?_
  refine lv_iconst (v := 4) hx hb dNw_channel_5 (by decide) ?_
  refine lv_imul hx hb dNw_channel_6 ?_
  refine lv_iload_n hx hb dNw_channel_7 rfl (lv_at hl 2 rfl) ?_
  refine lv_iadd hx hb dNw_channel_8 ?_
  obtain ⟨hi1, hwp⟩ := hwp
  refine va_aldq hx hb hK hP 2 2 rfl rfl hi1 dNw_channel_9 ?_
  refine W.eq (g2 := F0 m 10 ls [.ref (a (42 + ((x1 * 4) + x2).toNatClampNeg))]) rfl ?_
  exact W.aret (v := .ref (a (42 + ((x1 * 4) + x2).toNatClampNeg))) hx hb hr (Or.inl ⟨_, rfl⟩) (Or.inr ⟨_, rfl⟩) (fun t ht hW => ⟨⟨some (a (42 + ((x1 * 4) + x2).toNatClampNeg)), σ, rfl, hwp, pEnd ht hW hP hK⟩, hS.F ht⟩) hS.2.2 dNw_channel_10
-- NodeServices: private static void requireLock(int), on Ns, ret
def wC_Ns_requireLock_9 (a : Nat → Nat) (R : CS → Prop) (σ : CS) (y0 : Int32) : Prop :=
  False
def wC_Ns_requireLock (a : Nat → Nat) (R : CS → Prop) (σ : CS) (x1 : Int32) : Prop :=
  (((x1 < 0) → wC_Ns_requireLock_9 a R σ x1) ∧ ((¬ x1 < 0) → (((x1 < 3) → R σ) ∧ ((¬ x1 < 3) → wC_Ns_requireLock_9 a R σ x1))))
abbrev wsNs_requireLock : List Cond := .code yNs_requireLock cNs_requireLock 1 none :: wg
abbrev rmC_Ns_requireLock : Room := { frames := 0, cells := 0, slots := 0, locals := 0 }
set_option maxHeartbeats 4000000 in
set_option maxRecDepth 100000 in
theorem kC_Ns_requireLock (l : Launch) (D : va_G) (a : Nat → Nat) (A : Nat → Prop) (t : Nat → ClassId) (σ : CS) (x1 : Int32) (R : CS → Prop) (hwp : wC_Ns_requireLock a R σ x1) : Met l yNs_requireLock wsNs_requireLock rmC_Ns_requireLock (va_Pc [.int x1] (uI D clA (cT t) A true (cw a t) σ)) (va_Qv R (uI D clA (cT t) A true (cw a t)) A) 0 0 A := by
  refine Met.ofW (cc := cNs_requireLock) (maxL := 1) (ret := none) (by decide) rfl ?_
  intro p e s m args below meth c s₁ B hml hv
  obtain ⟨rfl, ⟨hP, hK, hD, hA⟩⟩ := hv
  have hx := B.exec
  have hb := B.bytes
  have hr := B.returns
  have hts := atoms_spec (ws := wsNs_requireLock) B.pre
  have hown : s.vm.findClass RNs = some m.cls := findClass_of_methodNamed B.named
  have hlocks := B.notSynchronized
  have hS : va_S A s.heap s.heap [] := va_S.rf
  have cut9 : ∀ (σ : CS) (y0 : Int32) (H : Heap) (locs : List Loc) (ls : Array Slot), wC_Ns_requireLock_9 a R σ y0 → va_P D clA (cw a t σ) H → va_D A (cw a t σ) → va_S A s.heap H locs → lv_has ls 1 [(0, .int y0)] → W p l e (headSpec wsNs_requireLock rmC_Ns_requireLock).room s m ([.int x1] : List Value).toArray below meth c H locs 0 0 (MQ below (va_Qv R (uI D clA (cT t) A true (cw a t)) A) ([.int x1] : List Value).toArray s 0 0 A) (F0 m 9 ls []) := by
    intro σ y0 H locs ls hwp hP hD hS hl
    exact False.elim hwp
  have hl := lv_entry ([.int x1]) (n := 1) (Nat.le_of_ble_eq_true rfl)
  rw [lg_entry_eq]
  generalize (lg_sl ([.int x1]) ++ List.replicate (1 - (lg_sl ([.int x1])).length) Slot.unset).toArray = ls at hl ⊢
  have hl : lv_has ls 1 [(0, .int x1)] := hl
  refine lv_iload_n hx hb dNs_requireLock_0 rfl (lv_at hl 0 rfl) ?_
  refine lv_if_lt hx hb dNs_requireLock_1 rfl (fun h1 => ?_) (fun h1 => ?_)
  · have hwp := hwp.1 h1
    exact cut9 σ x1 _ _ _ hwp hP hD hS (lv_sub hl [0] rfl)
  · have hwp := hwp.2 h1
    refine lv_iload_n hx hb dNs_requireLock_4 rfl (lv_at hl 0 rfl) ?_
    refine lv_iconst (v := 3) hx hb dNs_requireLock_5 (by decide) ?_
    refine lv_icmp_lt hx hb dNs_requireLock_6 rfl (fun h2 => ?_) (fun h2 => ?_)
    · have hwp := hwp.1 h2
      exact W.vret hx hb hr (fun t ht hW => ⟨⟨σ, rfl, hwp, uEnd ht hW hP hK hD hS hA⟩, hS.F ht⟩) hS.2.2 dNs_requireLock_19
    · have hwp := hwp.2 h2
      exact cut9 σ x1 _ _ _ hwp hP hD hS (lv_sub hl [0] rfl)
-- NodeServices: private static void requireLock(int), on Ns, pure
def wP_Ns_requireLock_9 (a : Nat → Nat) (R : CS → Prop) (σ : CS) (y0 : Int32) : Prop :=
  False
def wP_Ns_requireLock (a : Nat → Nat) (R : CS → Prop) (σ : CS) (x1 : Int32) : Prop :=
  (((x1 < 0) → wP_Ns_requireLock_9 a R σ x1) ∧ ((¬ x1 < 0) → (((x1 < 3) → R σ) ∧ ((¬ x1 < 3) → wP_Ns_requireLock_9 a R σ x1))))
abbrev rmP_Ns_requireLock : Room := { frames := 0, cells := 0, slots := 0, locals := 0 }
set_option maxHeartbeats 4000000 in
set_option maxRecDepth 100000 in
theorem pC_Ns_requireLock (l : Launch) (D : va_G) (a : Nat → Nat) (t : Nat → ClassId) (σ : CS) (x1 : Int32) (R : CS → Prop) (hwp : wP_Ns_requireLock a R σ x1) : Met l yNs_requireLock wsNs_requireLock rmP_Ns_requireLock (va_Pc [.int x1] (pI D t a σ)) (va_Qv R (pI D t a) (fun _ => False)) 0 0 (fun _ => False) := by
  refine Met.ofW (cc := cNs_requireLock) (maxL := 1) (ret := none) (by decide) rfl ?_
  intro p e s m args below meth c s₁ B hml hv
  obtain ⟨rfl, ⟨hP, hK⟩⟩ := hv
  have hx := B.exec
  have hb := B.bytes
  have hr := B.returns
  have hts := atoms_spec (ws := wsNs_requireLock) B.pre
  have hown : s.vm.findClass RNs = some m.cls := findClass_of_methodNamed B.named
  have hlocks := B.notSynchronized
  have hS : va_S (fun _ => False) s.heap s.heap [] := va_S.rf
  have cut9 : ∀ (σ : CS) (y0 : Int32) (H : Heap) (locs : List Loc) (ls : Array Slot), wP_Ns_requireLock_9 a R σ y0 → va_P D clA (cw a t σ) H → va_S (fun _ => False) s.heap H locs → lv_has ls 1 [(0, .int y0)] → W p l e (headSpec wsNs_requireLock rmP_Ns_requireLock).room s m ([.int x1] : List Value).toArray below meth c H locs 0 0 (MQ below (va_Qv R (pI D t a) (fun _ => False)) ([.int x1] : List Value).toArray s 0 0 (fun _ => False)) (F0 m 9 ls []) := by
    intro σ y0 H locs ls hwp hP hS hl
    exact False.elim hwp
  have hl := lv_entry ([.int x1]) (n := 1) (Nat.le_of_ble_eq_true rfl)
  rw [lg_entry_eq]
  generalize (lg_sl ([.int x1]) ++ List.replicate (1 - (lg_sl ([.int x1])).length) Slot.unset).toArray = ls at hl ⊢
  have hl : lv_has ls 1 [(0, .int x1)] := hl
  refine lv_iload_n hx hb dNs_requireLock_0 rfl (lv_at hl 0 rfl) ?_
  refine lv_if_lt hx hb dNs_requireLock_1 rfl (fun h1 => ?_) (fun h1 => ?_)
  · have hwp := hwp.1 h1
    exact cut9 σ x1 _ _ _ hwp hP hS (lv_sub hl [0] rfl)
  · have hwp := hwp.2 h1
    refine lv_iload_n hx hb dNs_requireLock_4 rfl (lv_at hl 0 rfl) ?_
    refine lv_iconst (v := 3) hx hb dNs_requireLock_5 (by decide) ?_
    refine lv_icmp_lt hx hb dNs_requireLock_6 rfl (fun h2 => ?_) (fun h2 => ?_)
    · have hwp := hwp.1 h2
      exact W.vret hx hb hr (fun t ht hW => ⟨⟨σ, rfl, hwp, pEnd ht hW hP hK⟩, hS.F ht⟩) hS.2.2 dNs_requireLock_19
    · have hwp := hwp.2 h2
      exact cut9 σ x1 _ _ _ hwp hP hS (lv_sub hl [0] rfl)
-- NodeServices: private static void requireLock(int), on Ns, thr
def wT_Ns_requireLock_9 (a : Nat → Nat) (E : String) (σ : CS) (y0 : Int32) : Prop :=
  (E = "java/lang/IllegalArgumentException")
def wT_Ns_requireLock (a : Nat → Nat) (E : String) (σ : CS) (x1 : Int32) : Prop :=
  (((x1 < 0) → wT_Ns_requireLock_9 a E σ x1) ∧ ((¬ x1 < 0) → (((x1 < 3) → False) ∧ ((¬ x1 < 3) → wT_Ns_requireLock_9 a E σ x1))))
abbrev rmT_Ns_requireLock : Room := { frames := 6, cells := 1, slots := 6, locals := 82 }
set_option maxHeartbeats 4000000 in
set_option maxRecDepth 100000 in
theorem tC_Ns_requireLock (l : Launch) (htr : l.stackTraces = false) (D : va_G) (a : Nat → Nat) (t : Nat → ClassId) (σ : CS) (x1 : Int32) (E : String) (hwp : wT_Ns_requireLock a E σ x1) : tMet l yNs_requireLock wsNs_requireLock rmT_Ns_requireLock (va_Pc [.int x1] (pE D t a σ)) E 1 6 := by
  refine tMet.ofW (cc := cNs_requireLock) (maxL := 1) (ret := none) (by decide) rfl ?_
  intro p e s m args below meth c s₁ B hml hv hempty
  obtain ⟨rfl, ⟨hP, hK⟩, he⟩ := hv
  have hx := B.exec
  have hb := B.bytes
  have hr := B.returns
  have hts := atoms_spec (ws := wsNs_requireLock) B.pre
  have hown : s.vm.findClass RNs = some m.cls := findClass_of_methodNamed B.named
  have hlocks := B.notSynchronized
  have hS : va_S (fun _ => False) s.heap s.heap [] := va_S.rf
  have cut9 : ∀ (σ : CS) (y0 : Int32) (H : Heap) (locs : List Loc) (ls : Array Slot), wT_Ns_requireLock_9 a E σ y0 → va_P D clA (cw a t σ) H → va_S (fun _ => False) s.heap H locs → lv_has ls 1 [(0, .int y0)] → W p l e (headSpec wsNs_requireLock rmT_Ns_requireLock).room s m ([.int x1] : List Value).toArray below meth c H locs 0 0 (tE below E ([.int x1] : List Value).toArray s 1 6) (F0 m 9 ls []) := by
    intro σ y0 H locs ls hwp hP hS hl
    subst hwp
    obtain ⟨sa, hsa⟩ := eX.str (own := "NodeServices") (i := 186) (text := "no such lock") (mem_tb 312 (by decide +kernel)) (by decide +kernel) he
    exact tThrow (names := exN) hx hb htr hown (by decide +kernel) (by decide +kernel) (hts _ (List.mem_cons_of_mem _ wm_271)) (hts _ (List.mem_cons_of_mem _ wm_17)) hsa (he.atoms hts at_IAE) hS (hl.1.trans hml.symm) dNs_requireLock_9 dNs_requireLock_12 dNs_requireLock_13 dNs_requireLock_15 dNs_requireLock_18 hempty (Nat.le_of_ble_eq_true rfl) (Nat.le_of_ble_eq_true rfl) (Nat.le_of_ble_eq_true rfl) (Nat.le_of_ble_eq_true rfl) hlocks (Nat.le_of_ble_eq_true rfl) (Nat.le_of_ble_eq_true rfl)
  have hl := lv_entry ([.int x1]) (n := 1) (Nat.le_of_ble_eq_true rfl)
  rw [lg_entry_eq]
  generalize (lg_sl ([.int x1]) ++ List.replicate (1 - (lg_sl ([.int x1])).length) Slot.unset).toArray = ls at hl ⊢
  have hl : lv_has ls 1 [(0, .int x1)] := hl
  refine lv_iload_n hx hb dNs_requireLock_0 rfl (lv_at hl 0 rfl) ?_
  refine lv_if_lt hx hb dNs_requireLock_1 rfl (fun h1 => ?_) (fun h1 => ?_)
  · have hwp := hwp.1 h1
    exact cut9 σ x1 _ _ _ hwp hP hS (lv_sub hl [0] rfl)
  · have hwp := hwp.2 h1
    refine lv_iload_n hx hb dNs_requireLock_4 rfl (lv_at hl 0 rfl) ?_
    refine lv_iconst (v := 3) hx hb dNs_requireLock_5 (by decide) ?_
    refine lv_icmp_lt hx hb dNs_requireLock_6 rfl (fun h2 => ?_) (fun h2 => ?_)
    · have hwp := hwp.1 h2
      exact False.elim hwp
    · have hwp := hwp.2 h2
      exact cut9 σ x1 _ _ _ hwp hP hS (lv_sub hl [0] rfl)
-- NodeServices: private static void requireService(int), on Ns, ret
def wC_Ns_requireService_9 (a : Nat → Nat) (R : CS → Prop) (σ : CS) (y0 : Int32) : Prop :=
  False
def wC_Ns_requireService (a : Nat → Nat) (R : CS → Prop) (σ : CS) (x1 : Int32) : Prop :=
  (((x1 < 0) → wC_Ns_requireService_9 a R σ x1) ∧ ((¬ x1 < 0) → (((x1 < 5) → R σ) ∧ ((¬ x1 < 5) → wC_Ns_requireService_9 a R σ x1))))
abbrev wsNs_requireService : List Cond := .code yNs_requireService cNs_requireService 1 none :: wg
abbrev rmC_Ns_requireService : Room := { frames := 0, cells := 0, slots := 0, locals := 0 }
set_option maxHeartbeats 4000000 in
set_option maxRecDepth 100000 in
theorem kC_Ns_requireService (l : Launch) (D : va_G) (a : Nat → Nat) (A : Nat → Prop) (t : Nat → ClassId) (σ : CS) (x1 : Int32) (R : CS → Prop) (hwp : wC_Ns_requireService a R σ x1) : Met l yNs_requireService wsNs_requireService rmC_Ns_requireService (va_Pc [.int x1] (uI D clA (cT t) A true (cw a t) σ)) (va_Qv R (uI D clA (cT t) A true (cw a t)) A) 0 0 A := by
  refine Met.ofW (cc := cNs_requireService) (maxL := 1) (ret := none) (by decide) rfl ?_
  intro p e s m args below meth c s₁ B hml hv
  obtain ⟨rfl, ⟨hP, hK, hD, hA⟩⟩ := hv
  have hx := B.exec
  have hb := B.bytes
  have hr := B.returns
  have hts := atoms_spec (ws := wsNs_requireService) B.pre
  have hown : s.vm.findClass RNs = some m.cls := findClass_of_methodNamed B.named
  have hlocks := B.notSynchronized
  have hS : va_S A s.heap s.heap [] := va_S.rf
  have cut9 : ∀ (σ : CS) (y0 : Int32) (H : Heap) (locs : List Loc) (ls : Array Slot), wC_Ns_requireService_9 a R σ y0 → va_P D clA (cw a t σ) H → va_D A (cw a t σ) → va_S A s.heap H locs → lv_has ls 1 [(0, .int y0)] → W p l e (headSpec wsNs_requireService rmC_Ns_requireService).room s m ([.int x1] : List Value).toArray below meth c H locs 0 0 (MQ below (va_Qv R (uI D clA (cT t) A true (cw a t)) A) ([.int x1] : List Value).toArray s 0 0 A) (F0 m 9 ls []) := by
    intro σ y0 H locs ls hwp hP hD hS hl
    exact False.elim hwp
  have hl := lv_entry ([.int x1]) (n := 1) (Nat.le_of_ble_eq_true rfl)
  rw [lg_entry_eq]
  generalize (lg_sl ([.int x1]) ++ List.replicate (1 - (lg_sl ([.int x1])).length) Slot.unset).toArray = ls at hl ⊢
  have hl : lv_has ls 1 [(0, .int x1)] := hl
  refine lv_iload_n hx hb dNs_requireService_0 rfl (lv_at hl 0 rfl) ?_
  refine lv_if_lt hx hb dNs_requireService_1 rfl (fun h1 => ?_) (fun h1 => ?_)
  · have hwp := hwp.1 h1
    exact cut9 σ x1 _ _ _ hwp hP hD hS (lv_sub hl [0] rfl)
  · have hwp := hwp.2 h1
    refine lv_iload_n hx hb dNs_requireService_4 rfl (lv_at hl 0 rfl) ?_
    refine lv_iconst (v := 5) hx hb dNs_requireService_5 (by decide) ?_
    refine lv_icmp_lt hx hb dNs_requireService_6 rfl (fun h2 => ?_) (fun h2 => ?_)
    · have hwp := hwp.1 h2
      exact W.vret hx hb hr (fun t ht hW => ⟨⟨σ, rfl, hwp, uEnd ht hW hP hK hD hS hA⟩, hS.F ht⟩) hS.2.2 dNs_requireService_19
    · have hwp := hwp.2 h2
      exact cut9 σ x1 _ _ _ hwp hP hD hS (lv_sub hl [0] rfl)
-- NodeServices: private static void requireService(int), on Ns, pure
def wP_Ns_requireService_9 (a : Nat → Nat) (R : CS → Prop) (σ : CS) (y0 : Int32) : Prop :=
  False
def wP_Ns_requireService (a : Nat → Nat) (R : CS → Prop) (σ : CS) (x1 : Int32) : Prop :=
  (((x1 < 0) → wP_Ns_requireService_9 a R σ x1) ∧ ((¬ x1 < 0) → (((x1 < 5) → R σ) ∧ ((¬ x1 < 5) → wP_Ns_requireService_9 a R σ x1))))
abbrev rmP_Ns_requireService : Room := { frames := 0, cells := 0, slots := 0, locals := 0 }
set_option maxHeartbeats 4000000 in
set_option maxRecDepth 100000 in
theorem pC_Ns_requireService (l : Launch) (D : va_G) (a : Nat → Nat) (t : Nat → ClassId) (σ : CS) (x1 : Int32) (R : CS → Prop) (hwp : wP_Ns_requireService a R σ x1) : Met l yNs_requireService wsNs_requireService rmP_Ns_requireService (va_Pc [.int x1] (pI D t a σ)) (va_Qv R (pI D t a) (fun _ => False)) 0 0 (fun _ => False) := by
  refine Met.ofW (cc := cNs_requireService) (maxL := 1) (ret := none) (by decide) rfl ?_
  intro p e s m args below meth c s₁ B hml hv
  obtain ⟨rfl, ⟨hP, hK⟩⟩ := hv
  have hx := B.exec
  have hb := B.bytes
  have hr := B.returns
  have hts := atoms_spec (ws := wsNs_requireService) B.pre
  have hown : s.vm.findClass RNs = some m.cls := findClass_of_methodNamed B.named
  have hlocks := B.notSynchronized
  have hS : va_S (fun _ => False) s.heap s.heap [] := va_S.rf
  have cut9 : ∀ (σ : CS) (y0 : Int32) (H : Heap) (locs : List Loc) (ls : Array Slot), wP_Ns_requireService_9 a R σ y0 → va_P D clA (cw a t σ) H → va_S (fun _ => False) s.heap H locs → lv_has ls 1 [(0, .int y0)] → W p l e (headSpec wsNs_requireService rmP_Ns_requireService).room s m ([.int x1] : List Value).toArray below meth c H locs 0 0 (MQ below (va_Qv R (pI D t a) (fun _ => False)) ([.int x1] : List Value).toArray s 0 0 (fun _ => False)) (F0 m 9 ls []) := by
    intro σ y0 H locs ls hwp hP hS hl
    exact False.elim hwp
  have hl := lv_entry ([.int x1]) (n := 1) (Nat.le_of_ble_eq_true rfl)
  rw [lg_entry_eq]
  generalize (lg_sl ([.int x1]) ++ List.replicate (1 - (lg_sl ([.int x1])).length) Slot.unset).toArray = ls at hl ⊢
  have hl : lv_has ls 1 [(0, .int x1)] := hl
  refine lv_iload_n hx hb dNs_requireService_0 rfl (lv_at hl 0 rfl) ?_
  refine lv_if_lt hx hb dNs_requireService_1 rfl (fun h1 => ?_) (fun h1 => ?_)
  · have hwp := hwp.1 h1
    exact cut9 σ x1 _ _ _ hwp hP hS (lv_sub hl [0] rfl)
  · have hwp := hwp.2 h1
    refine lv_iload_n hx hb dNs_requireService_4 rfl (lv_at hl 0 rfl) ?_
    refine lv_iconst (v := 5) hx hb dNs_requireService_5 (by decide) ?_
    refine lv_icmp_lt hx hb dNs_requireService_6 rfl (fun h2 => ?_) (fun h2 => ?_)
    · have hwp := hwp.1 h2
      exact W.vret hx hb hr (fun t ht hW => ⟨⟨σ, rfl, hwp, pEnd ht hW hP hK⟩, hS.F ht⟩) hS.2.2 dNs_requireService_19
    · have hwp := hwp.2 h2
      exact cut9 σ x1 _ _ _ hwp hP hS (lv_sub hl [0] rfl)
-- NodeServices: private static void requireService(int), on Ns, thr
def wT_Ns_requireService_9 (a : Nat → Nat) (E : String) (σ : CS) (y0 : Int32) : Prop :=
  (E = "java/lang/IllegalArgumentException")
def wT_Ns_requireService (a : Nat → Nat) (E : String) (σ : CS) (x1 : Int32) : Prop :=
  (((x1 < 0) → wT_Ns_requireService_9 a E σ x1) ∧ ((¬ x1 < 0) → (((x1 < 5) → False) ∧ ((¬ x1 < 5) → wT_Ns_requireService_9 a E σ x1))))
abbrev rmT_Ns_requireService : Room := { frames := 6, cells := 1, slots := 6, locals := 82 }
set_option maxHeartbeats 4000000 in
set_option maxRecDepth 100000 in
theorem tC_Ns_requireService (l : Launch) (htr : l.stackTraces = false) (D : va_G) (a : Nat → Nat) (t : Nat → ClassId) (σ : CS) (x1 : Int32) (E : String) (hwp : wT_Ns_requireService a E σ x1) : tMet l yNs_requireService wsNs_requireService rmT_Ns_requireService (va_Pc [.int x1] (pE D t a σ)) E 1 6 := by
  refine tMet.ofW (cc := cNs_requireService) (maxL := 1) (ret := none) (by decide) rfl ?_
  intro p e s m args below meth c s₁ B hml hv hempty
  obtain ⟨rfl, ⟨hP, hK⟩, he⟩ := hv
  have hx := B.exec
  have hb := B.bytes
  have hr := B.returns
  have hts := atoms_spec (ws := wsNs_requireService) B.pre
  have hown : s.vm.findClass RNs = some m.cls := findClass_of_methodNamed B.named
  have hlocks := B.notSynchronized
  have hS : va_S (fun _ => False) s.heap s.heap [] := va_S.rf
  have cut9 : ∀ (σ : CS) (y0 : Int32) (H : Heap) (locs : List Loc) (ls : Array Slot), wT_Ns_requireService_9 a E σ y0 → va_P D clA (cw a t σ) H → va_S (fun _ => False) s.heap H locs → lv_has ls 1 [(0, .int y0)] → W p l e (headSpec wsNs_requireService rmT_Ns_requireService).room s m ([.int x1] : List Value).toArray below meth c H locs 0 0 (tE below E ([.int x1] : List Value).toArray s 1 6) (F0 m 9 ls []) := by
    intro σ y0 H locs ls hwp hP hS hl
    subst hwp
    obtain ⟨sa, hsa⟩ := eX.str (own := "NodeServices") (i := 189) (text := "no such service") (mem_tb 690 (by decide +kernel)) (by decide +kernel) he
    exact tThrow (names := exN) hx hb htr hown (by decide +kernel) (by decide +kernel) (hts _ (List.mem_cons_of_mem _ wm_271)) (hts _ (List.mem_cons_of_mem _ wm_17)) hsa (he.atoms hts at_IAE) hS (hl.1.trans hml.symm) dNs_requireService_9 dNs_requireService_12 dNs_requireService_13 dNs_requireService_15 dNs_requireService_18 hempty (Nat.le_of_ble_eq_true rfl) (Nat.le_of_ble_eq_true rfl) (Nat.le_of_ble_eq_true rfl) (Nat.le_of_ble_eq_true rfl) hlocks (Nat.le_of_ble_eq_true rfl) (Nat.le_of_ble_eq_true rfl)
  have hl := lv_entry ([.int x1]) (n := 1) (Nat.le_of_ble_eq_true rfl)
  rw [lg_entry_eq]
  generalize (lg_sl ([.int x1]) ++ List.replicate (1 - (lg_sl ([.int x1])).length) Slot.unset).toArray = ls at hl ⊢
  have hl : lv_has ls 1 [(0, .int x1)] := hl
  refine lv_iload_n hx hb dNs_requireService_0 rfl (lv_at hl 0 rfl) ?_
  refine lv_if_lt hx hb dNs_requireService_1 rfl (fun h1 => ?_) (fun h1 => ?_)
  · have hwp := hwp.1 h1
    exact cut9 σ x1 _ _ _ hwp hP hS (lv_sub hl [0] rfl)
  · have hwp := hwp.2 h1
    refine lv_iload_n hx hb dNs_requireService_4 rfl (lv_at hl 0 rfl) ?_
    refine lv_iconst (v := 5) hx hb dNs_requireService_5 (by decide) ?_
    refine lv_icmp_lt hx hb dNs_requireService_6 rfl (fun h2 => ?_) (fun h2 => ?_)
    · have hwp := hwp.1 h2
      exact False.elim hwp
    · have hwp := hwp.2 h2
      exact cut9 σ x1 _ _ _ hwp hP hS (lv_sub hl [0] rfl)
-- NodeServices: private static void requireNode(int), on Ns, ret
def wC_Ns_requireNode_9 (a : Nat → Nat) (R : CS → Prop) (σ : CS) (y0 : Int32) : Prop :=
  False
def wC_Ns_requireNode (a : Nat → Nat) (R : CS → Prop) (σ : CS) (x1 : Int32) : Prop :=
  (((x1 < 0) → wC_Ns_requireNode_9 a R σ x1) ∧ ((¬ x1 < 0) → (((x1 < 4) → R σ) ∧ ((¬ x1 < 4) → wC_Ns_requireNode_9 a R σ x1))))
abbrev wsNs_requireNode : List Cond := .code yNs_requireNode cNs_requireNode 1 none :: wg
abbrev rmC_Ns_requireNode : Room := { frames := 0, cells := 0, slots := 0, locals := 0 }
set_option maxHeartbeats 4000000 in
set_option maxRecDepth 100000 in
theorem kC_Ns_requireNode (l : Launch) (D : va_G) (a : Nat → Nat) (A : Nat → Prop) (t : Nat → ClassId) (σ : CS) (x1 : Int32) (R : CS → Prop) (hwp : wC_Ns_requireNode a R σ x1) : Met l yNs_requireNode wsNs_requireNode rmC_Ns_requireNode (va_Pc [.int x1] (uI D clA (cT t) A true (cw a t) σ)) (va_Qv R (uI D clA (cT t) A true (cw a t)) A) 0 0 A := by
  refine Met.ofW (cc := cNs_requireNode) (maxL := 1) (ret := none) (by decide) rfl ?_
  intro p e s m args below meth c s₁ B hml hv
  obtain ⟨rfl, ⟨hP, hK, hD, hA⟩⟩ := hv
  have hx := B.exec
  have hb := B.bytes
  have hr := B.returns
  have hts := atoms_spec (ws := wsNs_requireNode) B.pre
  have hown : s.vm.findClass RNs = some m.cls := findClass_of_methodNamed B.named
  have hlocks := B.notSynchronized
  have hS : va_S A s.heap s.heap [] := va_S.rf
  have cut9 : ∀ (σ : CS) (y0 : Int32) (H : Heap) (locs : List Loc) (ls : Array Slot), wC_Ns_requireNode_9 a R σ y0 → va_P D clA (cw a t σ) H → va_D A (cw a t σ) → va_S A s.heap H locs → lv_has ls 1 [(0, .int y0)] → W p l e (headSpec wsNs_requireNode rmC_Ns_requireNode).room s m ([.int x1] : List Value).toArray below meth c H locs 0 0 (MQ below (va_Qv R (uI D clA (cT t) A true (cw a t)) A) ([.int x1] : List Value).toArray s 0 0 A) (F0 m 9 ls []) := by
    intro σ y0 H locs ls hwp hP hD hS hl
    exact False.elim hwp
  have hl := lv_entry ([.int x1]) (n := 1) (Nat.le_of_ble_eq_true rfl)
  rw [lg_entry_eq]
  generalize (lg_sl ([.int x1]) ++ List.replicate (1 - (lg_sl ([.int x1])).length) Slot.unset).toArray = ls at hl ⊢
  have hl : lv_has ls 1 [(0, .int x1)] := hl
  refine lv_iload_n hx hb dNs_requireNode_0 rfl (lv_at hl 0 rfl) ?_
  refine lv_if_lt hx hb dNs_requireNode_1 rfl (fun h1 => ?_) (fun h1 => ?_)
  · have hwp := hwp.1 h1
    exact cut9 σ x1 _ _ _ hwp hP hD hS (lv_sub hl [0] rfl)
  · have hwp := hwp.2 h1
    refine lv_iload_n hx hb dNs_requireNode_4 rfl (lv_at hl 0 rfl) ?_
    refine lv_iconst (v := 4) hx hb dNs_requireNode_5 (by decide) ?_
    refine lv_icmp_lt hx hb dNs_requireNode_6 rfl (fun h2 => ?_) (fun h2 => ?_)
    · have hwp := hwp.1 h2
      exact W.vret hx hb hr (fun t ht hW => ⟨⟨σ, rfl, hwp, uEnd ht hW hP hK hD hS hA⟩, hS.F ht⟩) hS.2.2 dNs_requireNode_19
    · have hwp := hwp.2 h2
      exact cut9 σ x1 _ _ _ hwp hP hD hS (lv_sub hl [0] rfl)
-- NodeServices: private static void requireNode(int), on Ns, pure
def wP_Ns_requireNode_9 (a : Nat → Nat) (R : CS → Prop) (σ : CS) (y0 : Int32) : Prop :=
  False
def wP_Ns_requireNode (a : Nat → Nat) (R : CS → Prop) (σ : CS) (x1 : Int32) : Prop :=
  (((x1 < 0) → wP_Ns_requireNode_9 a R σ x1) ∧ ((¬ x1 < 0) → (((x1 < 4) → R σ) ∧ ((¬ x1 < 4) → wP_Ns_requireNode_9 a R σ x1))))
abbrev rmP_Ns_requireNode : Room := { frames := 0, cells := 0, slots := 0, locals := 0 }
set_option maxHeartbeats 4000000 in
set_option maxRecDepth 100000 in
theorem pC_Ns_requireNode (l : Launch) (D : va_G) (a : Nat → Nat) (t : Nat → ClassId) (σ : CS) (x1 : Int32) (R : CS → Prop) (hwp : wP_Ns_requireNode a R σ x1) : Met l yNs_requireNode wsNs_requireNode rmP_Ns_requireNode (va_Pc [.int x1] (pI D t a σ)) (va_Qv R (pI D t a) (fun _ => False)) 0 0 (fun _ => False) := by
  refine Met.ofW (cc := cNs_requireNode) (maxL := 1) (ret := none) (by decide) rfl ?_
  intro p e s m args below meth c s₁ B hml hv
  obtain ⟨rfl, ⟨hP, hK⟩⟩ := hv
  have hx := B.exec
  have hb := B.bytes
  have hr := B.returns
  have hts := atoms_spec (ws := wsNs_requireNode) B.pre
  have hown : s.vm.findClass RNs = some m.cls := findClass_of_methodNamed B.named
  have hlocks := B.notSynchronized
  have hS : va_S (fun _ => False) s.heap s.heap [] := va_S.rf
  have cut9 : ∀ (σ : CS) (y0 : Int32) (H : Heap) (locs : List Loc) (ls : Array Slot), wP_Ns_requireNode_9 a R σ y0 → va_P D clA (cw a t σ) H → va_S (fun _ => False) s.heap H locs → lv_has ls 1 [(0, .int y0)] → W p l e (headSpec wsNs_requireNode rmP_Ns_requireNode).room s m ([.int x1] : List Value).toArray below meth c H locs 0 0 (MQ below (va_Qv R (pI D t a) (fun _ => False)) ([.int x1] : List Value).toArray s 0 0 (fun _ => False)) (F0 m 9 ls []) := by
    intro σ y0 H locs ls hwp hP hS hl
    exact False.elim hwp
  have hl := lv_entry ([.int x1]) (n := 1) (Nat.le_of_ble_eq_true rfl)
  rw [lg_entry_eq]
  generalize (lg_sl ([.int x1]) ++ List.replicate (1 - (lg_sl ([.int x1])).length) Slot.unset).toArray = ls at hl ⊢
  have hl : lv_has ls 1 [(0, .int x1)] := hl
  refine lv_iload_n hx hb dNs_requireNode_0 rfl (lv_at hl 0 rfl) ?_
  refine lv_if_lt hx hb dNs_requireNode_1 rfl (fun h1 => ?_) (fun h1 => ?_)
  · have hwp := hwp.1 h1
    exact cut9 σ x1 _ _ _ hwp hP hS (lv_sub hl [0] rfl)
  · have hwp := hwp.2 h1
    refine lv_iload_n hx hb dNs_requireNode_4 rfl (lv_at hl 0 rfl) ?_
    refine lv_iconst (v := 4) hx hb dNs_requireNode_5 (by decide) ?_
    refine lv_icmp_lt hx hb dNs_requireNode_6 rfl (fun h2 => ?_) (fun h2 => ?_)
    · have hwp := hwp.1 h2
      exact W.vret hx hb hr (fun t ht hW => ⟨⟨σ, rfl, hwp, pEnd ht hW hP hK⟩, hS.F ht⟩) hS.2.2 dNs_requireNode_19
    · have hwp := hwp.2 h2
      exact cut9 σ x1 _ _ _ hwp hP hS (lv_sub hl [0] rfl)
-- NodeServices: private static void requireNode(int), on Ns, thr
def wT_Ns_requireNode_9 (a : Nat → Nat) (E : String) (σ : CS) (y0 : Int32) : Prop :=
  (E = "java/lang/IllegalArgumentException")
def wT_Ns_requireNode (a : Nat → Nat) (E : String) (σ : CS) (x1 : Int32) : Prop :=
  (((x1 < 0) → wT_Ns_requireNode_9 a E σ x1) ∧ ((¬ x1 < 0) → (((x1 < 4) → False) ∧ ((¬ x1 < 4) → wT_Ns_requireNode_9 a E σ x1))))
abbrev rmT_Ns_requireNode : Room := { frames := 6, cells := 1, slots := 6, locals := 82 }
set_option maxHeartbeats 4000000 in
set_option maxRecDepth 100000 in
theorem tC_Ns_requireNode (l : Launch) (htr : l.stackTraces = false) (D : va_G) (a : Nat → Nat) (t : Nat → ClassId) (σ : CS) (x1 : Int32) (E : String) (hwp : wT_Ns_requireNode a E σ x1) : tMet l yNs_requireNode wsNs_requireNode rmT_Ns_requireNode (va_Pc [.int x1] (pE D t a σ)) E 1 6 := by
  refine tMet.ofW (cc := cNs_requireNode) (maxL := 1) (ret := none) (by decide) rfl ?_
  intro p e s m args below meth c s₁ B hml hv hempty
  obtain ⟨rfl, ⟨hP, hK⟩, he⟩ := hv
  have hx := B.exec
  have hb := B.bytes
  have hr := B.returns
  have hts := atoms_spec (ws := wsNs_requireNode) B.pre
  have hown : s.vm.findClass RNs = some m.cls := findClass_of_methodNamed B.named
  have hlocks := B.notSynchronized
  have hS : va_S (fun _ => False) s.heap s.heap [] := va_S.rf
  have cut9 : ∀ (σ : CS) (y0 : Int32) (H : Heap) (locs : List Loc) (ls : Array Slot), wT_Ns_requireNode_9 a E σ y0 → va_P D clA (cw a t σ) H → va_S (fun _ => False) s.heap H locs → lv_has ls 1 [(0, .int y0)] → W p l e (headSpec wsNs_requireNode rmT_Ns_requireNode).room s m ([.int x1] : List Value).toArray below meth c H locs 0 0 (tE below E ([.int x1] : List Value).toArray s 1 6) (F0 m 9 ls []) := by
    intro σ y0 H locs ls hwp hP hS hl
    subst hwp
    obtain ⟨sa, hsa⟩ := eX.str (own := "NodeServices") (i := 191) (text := "no such node") (mem_tb 342 (by decide +kernel)) (by decide +kernel) he
    exact tThrow (names := exN) hx hb htr hown (by decide +kernel) (by decide +kernel) (hts _ (List.mem_cons_of_mem _ wm_271)) (hts _ (List.mem_cons_of_mem _ wm_17)) hsa (he.atoms hts at_IAE) hS (hl.1.trans hml.symm) dNs_requireNode_9 dNs_requireNode_12 dNs_requireNode_13 dNs_requireNode_15 dNs_requireNode_18 hempty (Nat.le_of_ble_eq_true rfl) (Nat.le_of_ble_eq_true rfl) (Nat.le_of_ble_eq_true rfl) (Nat.le_of_ble_eq_true rfl) hlocks (Nat.le_of_ble_eq_true rfl) (Nat.le_of_ble_eq_true rfl)
  have hl := lv_entry ([.int x1]) (n := 1) (Nat.le_of_ble_eq_true rfl)
  rw [lg_entry_eq]
  generalize (lg_sl ([.int x1]) ++ List.replicate (1 - (lg_sl ([.int x1])).length) Slot.unset).toArray = ls at hl ⊢
  have hl : lv_has ls 1 [(0, .int x1)] := hl
  refine lv_iload_n hx hb dNs_requireNode_0 rfl (lv_at hl 0 rfl) ?_
  refine lv_if_lt hx hb dNs_requireNode_1 rfl (fun h1 => ?_) (fun h1 => ?_)
  · have hwp := hwp.1 h1
    exact cut9 σ x1 _ _ _ hwp hP hS (lv_sub hl [0] rfl)
  · have hwp := hwp.2 h1
    refine lv_iload_n hx hb dNs_requireNode_4 rfl (lv_at hl 0 rfl) ?_
    refine lv_iconst (v := 4) hx hb dNs_requireNode_5 (by decide) ?_
    refine lv_icmp_lt hx hb dNs_requireNode_6 rfl (fun h2 => ?_) (fun h2 => ?_)
    · have hwp := hwp.1 h2
      exact False.elim hwp
    · have hwp := hwp.2 h2
      exact cut9 σ x1 _ _ _ hwp hP hS (lv_sub hl [0] rfl)
-- NodeServices: private static void requireChannel(int, int), on Ns, ret
def wC_Ns_requireChannel (a : Nat → Nat) (R : CS → Prop) (σ : CS) (x1 x2 : Int32) : Prop :=
  (∃ P1 : CS → Prop, wC_Ns_requireNode a P1 σ x1 ∧ (∀ (u2 : CS), P1 u2 → (∃ P3 : CS → Prop, wC_Ns_requireNode a P3 u2 x2 ∧ (∀ (u4 : CS), P3 u4 → (((¬ x1 = x2) → R u4) ∧ ((x1 = x2) → False))))))
abbrev wsNs_requireChannel : List Cond := .code yNs_requireChannel cNs_requireChannel 2 none :: wg
abbrev rmC_Ns_requireChannel : Room := { frames := 1, cells := 0, slots := 0, locals := 20 }
set_option maxHeartbeats 4000000 in
set_option maxRecDepth 100000 in
theorem kC_Ns_requireChannel (l : Launch) (D : va_G) (a : Nat → Nat) (A : Nat → Prop) (t : Nat → ClassId) (σ : CS) (x1 x2 : Int32) (R : CS → Prop) (hwp : wC_Ns_requireChannel a R σ x1 x2) : Met l yNs_requireChannel wsNs_requireChannel rmC_Ns_requireChannel (va_Pc [.int x1, .int x2] (uI D clA (cT t) A true (cw a t) σ)) (va_Qv R (uI D clA (cT t) A true (cw a t)) A) 0 0 A := by
  refine Met.ofW (cc := cNs_requireChannel) (maxL := 2) (ret := none) (by decide) rfl ?_
  intro p e s m args below meth c s₁ B hml hv
  obtain ⟨rfl, ⟨hP, hK, hD, hA⟩⟩ := hv
  have hx := B.exec
  have hb := B.bytes
  have hr := B.returns
  have hts := atoms_spec (ws := wsNs_requireChannel) B.pre
  have hown : s.vm.findClass RNs = some m.cls := findClass_of_methodNamed B.named
  have hlocks := B.notSynchronized
  have hS : va_S A s.heap s.heap [] := va_S.rf
  have hl := lv_entry ([.int x1, .int x2]) (n := 2) (Nat.le_of_ble_eq_true rfl)
  rw [lg_entry_eq]
  generalize (lg_sl ([.int x1, .int x2]) ++ List.replicate (2 - (lg_sl ([.int x1, .int x2])).length) Slot.unset).toArray = ls at hl ⊢
  have hl : lv_has ls 2 [(0, .int x1), (1, .int x2)] := hl
  refine lv_iload_n hx hb dNs_requireChannel_0 rfl (lv_at hl 0 rfl) ?_
  obtain ⟨P1, hP1, hwp⟩ := hwp
  refine uCallSv (As := [.int x1]) (rest := []) ⟨hx, hb, hml, hown, hts⟩ (kC_Ns_requireNode l D a A t   σ x1 P1 hP1) (cwS 1 hts (gdS wm_339 wm_340 wm_1 wm_341) rfl rfl rfl (by decide +kernel) ⟨Nat.le_of_ble_eq_true rfl, Nat.le_of_ble_eq_true rfl⟩) hP hK hD hA hS rfl hl.1 rfl (Nat.le_of_ble_eq_true rfl) dNs_requireChannel_1 ⟨Nat.le_of_ble_eq_true rfl, Nat.le_of_ble_eq_true rfl⟩ (fun u2 H locs hu2 hP hD hS => ?_)
  have hwp := hwp u2 hu2
  refine lv_iload_n hx hb dNs_requireChannel_4 rfl (lv_at hl 1 rfl) ?_
  obtain ⟨P3, hP3, hwp⟩ := hwp
  refine uCallSv (As := [.int x2]) (rest := []) ⟨hx, hb, hml, hown, hts⟩ (kC_Ns_requireNode l D a A t   u2 x2 P3 hP3) (cwS 1 hts (gdS wm_339 wm_340 wm_1 wm_341) rfl rfl rfl (by decide +kernel) ⟨Nat.le_of_ble_eq_true rfl, Nat.le_of_ble_eq_true rfl⟩) hP hK hD hA hS rfl hl.1 rfl (Nat.le_of_ble_eq_true rfl) dNs_requireChannel_5 ⟨Nat.le_of_ble_eq_true rfl, Nat.le_of_ble_eq_true rfl⟩ (fun u4 H locs hu4 hP hD hS => ?_)
  have hwp := hwp u4 hu4
  refine lv_iload_n hx hb dNs_requireChannel_8 rfl (lv_at hl 0 rfl) ?_
  refine lv_iload_n hx hb dNs_requireChannel_9 rfl (lv_at hl 1 rfl) ?_
  refine lv_icmp_ne hx hb dNs_requireChannel_10 rfl (fun h5 => ?_) (fun h5 => ?_)
  · have hwp := hwp.1 h5
    exact W.vret hx hb hr (fun t ht hW => ⟨⟨u4, rfl, hwp, uEnd ht hW hP hK hD hS hA⟩, hS.F ht⟩) hS.2.2 dNs_requireChannel_23
  · have hwp := hwp.2 h5
    exact False.elim hwp
-- NodeServices: private static void requireChannel(int, int), on Ns, pure
def wP_Ns_requireChannel (a : Nat → Nat) (R : CS → Prop) (σ : CS) (x1 x2 : Int32) : Prop :=
  (∃ P1 : CS → Prop, wP_Ns_requireNode a P1 σ x1 ∧ (∀ (u2 : CS), P1 u2 → (∃ P3 : CS → Prop, wP_Ns_requireNode a P3 u2 x2 ∧ (∀ (u4 : CS), P3 u4 → (((¬ x1 = x2) → R u4) ∧ ((x1 = x2) → False))))))
abbrev rmP_Ns_requireChannel : Room := { frames := 1, cells := 0, slots := 0, locals := 20 }
set_option maxHeartbeats 4000000 in
set_option maxRecDepth 100000 in
theorem pC_Ns_requireChannel (l : Launch) (D : va_G) (a : Nat → Nat) (t : Nat → ClassId) (σ : CS) (x1 x2 : Int32) (R : CS → Prop) (hwp : wP_Ns_requireChannel a R σ x1 x2) : Met l yNs_requireChannel wsNs_requireChannel rmP_Ns_requireChannel (va_Pc [.int x1, .int x2] (pI D t a σ)) (va_Qv R (pI D t a) (fun _ => False)) 0 0 (fun _ => False) := by
  refine Met.ofW (cc := cNs_requireChannel) (maxL := 2) (ret := none) (by decide) rfl ?_
  intro p e s m args below meth c s₁ B hml hv
  obtain ⟨rfl, ⟨hP, hK⟩⟩ := hv
  have hx := B.exec
  have hb := B.bytes
  have hr := B.returns
  have hts := atoms_spec (ws := wsNs_requireChannel) B.pre
  have hown : s.vm.findClass RNs = some m.cls := findClass_of_methodNamed B.named
  have hlocks := B.notSynchronized
  have hS : va_S (fun _ => False) s.heap s.heap [] := va_S.rf
  have hl := lv_entry ([.int x1, .int x2]) (n := 2) (Nat.le_of_ble_eq_true rfl)
  rw [lg_entry_eq]
  generalize (lg_sl ([.int x1, .int x2]) ++ List.replicate (2 - (lg_sl ([.int x1, .int x2])).length) Slot.unset).toArray = ls at hl ⊢
  have hl : lv_has ls 2 [(0, .int x1), (1, .int x2)] := hl
  refine lv_iload_n hx hb dNs_requireChannel_0 rfl (lv_at hl 0 rfl) ?_
  obtain ⟨P1, hP1, hwp⟩ := hwp
  refine pCallSv (As := [.int x1]) (rest := []) ⟨hx, hb, hml, hown, hts⟩ (pC_Ns_requireNode l D a t   σ x1 P1 hP1) (cwS 1 hts (gdS wm_339 wm_340 wm_1 wm_341) rfl rfl rfl (by decide +kernel) ⟨Nat.le_of_ble_eq_true rfl, Nat.le_of_ble_eq_true rfl⟩) hP hK hS rfl hl.1 rfl (Nat.le_of_ble_eq_true rfl) dNs_requireChannel_1 ⟨Nat.le_of_ble_eq_true rfl, Nat.le_of_ble_eq_true rfl⟩ (fun u2 H locs hu2 hP hS => ?_)
  have hwp := hwp u2 hu2
  refine lv_iload_n hx hb dNs_requireChannel_4 rfl (lv_at hl 1 rfl) ?_
  obtain ⟨P3, hP3, hwp⟩ := hwp
  refine pCallSv (As := [.int x2]) (rest := []) ⟨hx, hb, hml, hown, hts⟩ (pC_Ns_requireNode l D a t   u2 x2 P3 hP3) (cwS 1 hts (gdS wm_339 wm_340 wm_1 wm_341) rfl rfl rfl (by decide +kernel) ⟨Nat.le_of_ble_eq_true rfl, Nat.le_of_ble_eq_true rfl⟩) hP hK hS rfl hl.1 rfl (Nat.le_of_ble_eq_true rfl) dNs_requireChannel_5 ⟨Nat.le_of_ble_eq_true rfl, Nat.le_of_ble_eq_true rfl⟩ (fun u4 H locs hu4 hP hS => ?_)
  have hwp := hwp u4 hu4
  refine lv_iload_n hx hb dNs_requireChannel_8 rfl (lv_at hl 0 rfl) ?_
  refine lv_iload_n hx hb dNs_requireChannel_9 rfl (lv_at hl 1 rfl) ?_
  refine lv_icmp_ne hx hb dNs_requireChannel_10 rfl (fun h5 => ?_) (fun h5 => ?_)
  · have hwp := hwp.1 h5
    exact W.vret hx hb hr (fun t ht hW => ⟨⟨u4, rfl, hwp, pEnd ht hW hP hK⟩, hS.F ht⟩) hS.2.2 dNs_requireChannel_23
  · have hwp := hwp.2 h5
    exact False.elim hwp
-- NodeServices: private static void requireChannel(int, int), on Ns, thr
def wT_Ns_requireChannel (a : Nat → Nat) (E : String) (σ : CS) (x1 x2 : Int32) : Prop :=
  ((wT_Ns_requireNode a E σ x1) ∨ (∃ P1 : CS → Prop, wP_Ns_requireNode a P1 σ x1 ∧ (∀ (u2 : CS), P1 u2 → ((wT_Ns_requireNode a E u2 x2) ∨ (∃ P3 : CS → Prop, wP_Ns_requireNode a P3 u2 x2 ∧ (∀ (u4 : CS), P3 u4 → (((¬ x1 = x2) → False) ∧ ((x1 = x2) → (E = "java/lang/IllegalArgumentException")))))))))
abbrev rmT_Ns_requireChannel : Room := { frames := 7, cells := 1, slots := 6, locals := 102 }
set_option maxHeartbeats 4000000 in
set_option maxRecDepth 100000 in
theorem tC_Ns_requireChannel (l : Launch) (htr : l.stackTraces = false) (D : va_G) (a : Nat → Nat) (t : Nat → ClassId) (σ : CS) (x1 x2 : Int32) (E : String) (hwp : wT_Ns_requireChannel a E σ x1 x2) : tMet l yNs_requireChannel wsNs_requireChannel rmT_Ns_requireChannel (va_Pc [.int x1, .int x2] (pE D t a σ)) E 1 6 := by
  refine tMet.ofW (cc := cNs_requireChannel) (maxL := 2) (ret := none) (by decide) rfl ?_
  intro p e s m args below meth c s₁ B hml hv hempty
  obtain ⟨rfl, ⟨hP, hK⟩, he⟩ := hv
  have hx := B.exec
  have hb := B.bytes
  have hr := B.returns
  have hts := atoms_spec (ws := wsNs_requireChannel) B.pre
  have hown : s.vm.findClass RNs = some m.cls := findClass_of_methodNamed B.named
  have hlocks := B.notSynchronized
  have hS : va_S (fun _ => False) s.heap s.heap [] := va_S.rf
  have hl := lv_entry ([.int x1, .int x2]) (n := 2) (Nat.le_of_ble_eq_true rfl)
  rw [lg_entry_eq]
  generalize (lg_sl ([.int x1, .int x2]) ++ List.replicate (2 - (lg_sl ([.int x1, .int x2])).length) Slot.unset).toArray = ls at hl ⊢
  have hl : lv_has ls 2 [(0, .int x1), (1, .int x2)] := hl
  refine lv_iload_n hx hb dNs_requireChannel_0 rfl (lv_at hl 0 rfl) ?_
  rcases hwp with hwp | hwp
  · exact tCallS (As := [.int x1]) (rest := []) ⟨hx, hb, hml, hown, hts⟩ (tC_Ns_requireNode l htr D a t σ x1 E hwp) (cwS 1 hts (gdS wm_339 wm_340 wm_1 wm_341) rfl rfl rfl (by decide +kernel) ⟨Nat.le_of_ble_eq_true rfl, Nat.le_of_ble_eq_true rfl⟩) ⟨pE_blind, pPre hP hK he hS⟩ hS rfl hl.1 rfl (Nat.le_of_ble_eq_true rfl) dNs_requireChannel_1 ⟨Nat.le_of_ble_eq_true rfl, Nat.le_of_ble_eq_true rfl⟩ (fun q ce H1 hS1 hce hv hcl hz hk => tOut hempty hlocks hce hv hcl (Nat.le_of_ble_eq_true rfl) (Nat.le_of_ble_eq_true rfl))
  · obtain ⟨P1, hP1, hwp⟩ := hwp
    refine pCallSv (As := [.int x1]) (rest := []) ⟨hx, hb, hml, hown, hts⟩ (pC_Ns_requireNode l D a t   σ x1 P1 hP1) (cwS 1 hts (gdS wm_339 wm_340 wm_1 wm_341) rfl rfl rfl (by decide +kernel) ⟨Nat.le_of_ble_eq_true rfl, Nat.le_of_ble_eq_true rfl⟩) hP hK hS rfl hl.1 rfl (Nat.le_of_ble_eq_true rfl) dNs_requireChannel_1 ⟨Nat.le_of_ble_eq_true rfl, Nat.le_of_ble_eq_true rfl⟩ (fun u2 H locs hu2 hP hS => ?_)
    have hwp := hwp u2 hu2
    refine lv_iload_n hx hb dNs_requireChannel_4 rfl (lv_at hl 1 rfl) ?_
    rcases hwp with hwp | hwp
    · exact tCallS (As := [.int x2]) (rest := []) ⟨hx, hb, hml, hown, hts⟩ (tC_Ns_requireNode l htr D a t u2 x2 E hwp) (cwS 1 hts (gdS wm_339 wm_340 wm_1 wm_341) rfl rfl rfl (by decide +kernel) ⟨Nat.le_of_ble_eq_true rfl, Nat.le_of_ble_eq_true rfl⟩) ⟨pE_blind, pPre hP hK he hS⟩ hS rfl hl.1 rfl (Nat.le_of_ble_eq_true rfl) dNs_requireChannel_5 ⟨Nat.le_of_ble_eq_true rfl, Nat.le_of_ble_eq_true rfl⟩ (fun q ce H1 hS1 hce hv hcl hz hk => tOut hempty hlocks hce hv hcl (Nat.le_of_ble_eq_true rfl) (Nat.le_of_ble_eq_true rfl))
    · obtain ⟨P3, hP3, hwp⟩ := hwp
      refine pCallSv (As := [.int x2]) (rest := []) ⟨hx, hb, hml, hown, hts⟩ (pC_Ns_requireNode l D a t   u2 x2 P3 hP3) (cwS 1 hts (gdS wm_339 wm_340 wm_1 wm_341) rfl rfl rfl (by decide +kernel) ⟨Nat.le_of_ble_eq_true rfl, Nat.le_of_ble_eq_true rfl⟩) hP hK hS rfl hl.1 rfl (Nat.le_of_ble_eq_true rfl) dNs_requireChannel_5 ⟨Nat.le_of_ble_eq_true rfl, Nat.le_of_ble_eq_true rfl⟩ (fun u4 H locs hu4 hP hS => ?_)
      have hwp := hwp u4 hu4
      refine lv_iload_n hx hb dNs_requireChannel_8 rfl (lv_at hl 0 rfl) ?_
      refine lv_iload_n hx hb dNs_requireChannel_9 rfl (lv_at hl 1 rfl) ?_
      refine lv_icmp_ne hx hb dNs_requireChannel_10 rfl (fun h5 => ?_) (fun h5 => ?_)
      · have hwp := hwp.1 h5
        exact False.elim hwp
      · have hwp := hwp.2 h5
        subst hwp
        obtain ⟨sa, hsa⟩ := eX.str (own := "NodeServices") (i := 193) (text := "no channel leads from a node to itself") (mem_tb 554 (by decide +kernel)) (by decide +kernel) he
        exact tThrow (names := exN) hx hb htr hown (by decide +kernel) (by decide +kernel) (hts _ (List.mem_cons_of_mem _ wm_271)) (hts _ (List.mem_cons_of_mem _ wm_17)) hsa (he.atoms hts at_IAE) hS (hl.1.trans hml.symm) dNs_requireChannel_13 dNs_requireChannel_16 dNs_requireChannel_17 dNs_requireChannel_19 dNs_requireChannel_22 hempty (Nat.le_of_ble_eq_true rfl) (Nat.le_of_ble_eq_true rfl) (Nat.le_of_ble_eq_true rfl) (Nat.le_of_ble_eq_true rfl) hlocks (Nat.le_of_ble_eq_true rfl) (Nat.le_of_ble_eq_true rfl)
-- NodeServices: private int entriesOfAllLocks(), on Ns, ret
def wC_Ns_entriesOfAllLocks_4_step (a : Nat → Nat) (K4 : CS → Int32 → Int32 → Prop) (R : Int32 → CS → Prop) (σ : CS) (y1 : Int32) (y2 : Int32) : Prop :=
  (((3 ≤ y2) → R y1 σ) ∧ ((¬ 3 ≤ y2) → (vp_in y2 3 ∧ ((y2 = 0 → (∀ v6 : Int32, v6 = y1 + (σ.1 2 0) → K4 σ v6 (y2 + 1))) ∧ (y2 = 1 → (∀ v7 : Int32, v7 = y1 + (σ.1 8 0) → K4 σ v7 (y2 + 1))) ∧ (y2 = 2 → (∀ v8 : Int32, v8 = y1 + (σ.1 16 0) → K4 σ v8 (y2 + 1)))))))
def wC_Ns_entriesOfAllLocks_4 (a : Nat → Nat) (R : Int32 → CS → Prop) : Nat → CS → Int32 → Int32 → Prop
  | 0 => fun _ _ _ => False
  | k + 1 => fun σ y1 y2 => wC_Ns_entriesOfAllLocks_4_step a (wC_Ns_entriesOfAllLocks_4 a R k) R σ y1 y2
def wC_Ns_entriesOfAllLocks (a : Nat → Nat) (R : Int32 → CS → Prop) (σ : CS) : Prop :=
  wC_Ns_entriesOfAllLocks_4 a R 5 σ 0 0
abbrev wsNs_entriesOfAllLocks : List Cond := .code yNs_entriesOfAllLocks cNs_entriesOfAllLocks 3 (some .int) :: wg
abbrev rmC_Ns_entriesOfAllLocks : Room := { frames := 0, cells := 0, slots := 0, locals := 0 }
set_option maxHeartbeats 4000000 in
set_option maxRecDepth 100000 in
theorem kC_Ns_entriesOfAllLocks (l : Launch) (D : va_G) (a : Nat → Nat) (A : Nat → Prop) (t : Nat → ClassId) (σ : CS) (R : Int32 → CS → Prop) (hwp : wC_Ns_entriesOfAllLocks a R σ ) : Met l yNs_entriesOfAllLocks wsNs_entriesOfAllLocks rmC_Ns_entriesOfAllLocks (va_Pc [.ref (a 0)] (uI D clA (cT t) A true (cw a t) σ)) (va_Qi R (uI D clA (cT t) A true (cw a t)) A) 0 0 A := by
  refine Met.ofW (cc := cNs_entriesOfAllLocks) (maxL := 3) (ret := (some .int)) (by decide) rfl ?_
  intro p e s m args below meth c s₁ B hml hv
  obtain ⟨rfl, ⟨hP, hK, hD, hA⟩⟩ := hv
  have hx := B.exec
  have hb := B.bytes
  have hr := B.returns
  have hts := atoms_spec (ws := wsNs_entriesOfAllLocks) B.pre
  have hown : s.vm.findClass RNs = some m.cls := findClass_of_methodNamed B.named
  have hlocks := B.notSynchronized
  have hinNs : ∀ w ∈ u_ws RNs TNs 5, w ∈ wsNs_entriesOfAllLocks := fun w h => List.mem_cons_of_mem _ (inNs w h)
  have hinSt : ∀ w ∈ u_ws RSt TSt 8, w ∈ wsNs_entriesOfAllLocks := fun w h => List.mem_cons_of_mem _ (inSt w h)
  have hinTk : ∀ w ∈ u_ws RTk TTk 8, w ∈ wsNs_entriesOfAllLocks := fun w h => List.mem_cons_of_mem _ (inTk w h)
  have hinTr : ∀ w ∈ u_ws RTr TTr 7, w ∈ wsNs_entriesOfAllLocks := fun w h => List.mem_cons_of_mem _ (inTr w h)
  have lk18 := hts _ (List.mem_cons_of_mem _ wm_233)
  have lk181 := hts _ (List.mem_cons_of_mem _ wm_89)
  have hS : va_S A s.heap s.heap [] := va_S.rf
  have cut4 : ∀ (k4 : Nat) (σ : CS) (y1 : Int32) (y2 : Int32) (H : Heap) (locs : List Loc) (ls : Array Slot), wC_Ns_entriesOfAllLocks_4 a R k4 σ y1 y2 → va_P D clA (cw a t σ) H → va_D A (cw a t σ) → va_S A s.heap H locs → lv_has ls 3 [(0, .ref (a 0)), (1, .int y1), (2, .int y2)] → W p l e (headSpec wsNs_entriesOfAllLocks rmC_Ns_entriesOfAllLocks).room s m ([.ref (a 0)] : List Value).toArray below meth c H locs 0 0 (MQ below (va_Qi R (uI D clA (cT t) A true (cw a t)) A) ([.ref (a 0)] : List Value).toArray s 0 0 A) (F0 m 4 ls []) := by
    intro k4
    induction k4 with
    | zero => intro σ y1 y2 H locs ls hwp hP hD hS hl; exact False.elim hwp
    | succ k4 ih4 =>
      intro σ y1 y2 H locs ls hwp hP hD hS hl
      have hwp : wC_Ns_entriesOfAllLocks_4_step a (wC_Ns_entriesOfAllLocks_4 a R k4) R σ y1 y2 := hwp
      refine lv_iload_n hx hb dNs_entriesOfAllLocks_4 rfl (lv_at hl 2 rfl) ?_
      refine lv_iconst (v := 3) hx hb dNs_entriesOfAllLocks_5 (by decide) ?_
      refine lv_icmp_ge hx hb dNs_entriesOfAllLocks_6 rfl (fun h1 => ?_) (fun h1 => ?_)
      · have hwp := hwp.1 h1
        refine lv_iload_n hx hb dNs_entriesOfAllLocks_27 rfl (lv_at hl 1 rfl) ?_
        exact W.iret (v := y1) hx hb hr (fun t ht hW => ⟨⟨y1, σ, rfl, hwp, uEnd ht hW hP hK hD hS hA⟩, hS.F ht⟩) hS.2.2 dNs_entriesOfAllLocks_28
      · have hwp := hwp.2 h1
        refine lv_iload_n hx hb dNs_entriesOfAllLocks_9 rfl (lv_at hl 1 rfl) ?_
        refine lv_aload_n hx hb dNs_entriesOfAllLocks_10 rfl (lv_at hl 0 rfl) ?_
        refine va_get (D := D) (ci := 1) (C := RNs) (T := TNs) (N := 5) hx hb hts hinNs hown hK hP 0 rfl rfl 1 (by decide) lk18 (fun _ h9 => h9) rfl dNs_entriesOfAllLocks_11 ?_
        refine lv_iload_n hx hb dNs_entriesOfAllLocks_14 rfl (lv_at hl 2 rfl) ?_
        obtain ⟨hi2, hwp⟩ := hwp
        refine va_aldq hx hb hK hP 3 3 rfl rfl hi2 dNs_entriesOfAllLocks_15 ?_
        rcases fx_in3 hi2 with e3 | e4 | e5
        · have hwp := hwp.1 e3
          refine W.eq (g2 := F0 m 16 ls [.ref (a 5), .int y1]) (by rw [e3]; rfl) ?_
          refine va_get (D := D) (ci := 6) (C := RSt) (T := TSt) (N := 8) hx hb hts hinSt hown hK hP 5 rfl rfl 5 (by decide) lk181 (fun _ h9 => h9) rfl dNs_entriesOfAllLocks_16 ?_
          refine lv_iadd hx hb dNs_entriesOfAllLocks_19 ?_
          refine lv_topi (fun v6 ev6 => ?_)
          have hwp := hwp v6 ev6
          refine lv_istore_n hx hb dNs_entriesOfAllLocks_20 rfl hl (by decide) rfl (fun ls hl => ?_)
          have hl : lv_has ls 3 [(1, .int v6), (0, .ref (a 0)), (2, .int y2)] := hl
          refine lv_iinc (k := 2) hx hb dNs_entriesOfAllLocks_21 hl rfl (fx_inc1 _) (by decide) rfl (fun ls hl => ?_)
          have hl : lv_has ls 3 [(2, .int (y2 + 1)), (1, .int v6), (0, .ref (a 0))] := hl
          refine lv_goto hx hb dNs_entriesOfAllLocks_24 rfl ?_
          exact ih4 σ v6 (y2 + 1) _ _ _ hwp hP hD hS (lv_sub hl [2, 1, 0] rfl)
        · have hwp := hwp.2.1 e4
          refine W.eq (g2 := F0 m 16 ls [.ref (a 11), .int y1]) (by rw [e4]; rfl) ?_
          refine va_get (D := D) (ci := 7) (C := RTk) (T := TTk) (N := 8) hx hb hts hinTk hown hK hP 11 rfl rfl 5 (by decide) lk181 (fun _ h9 => h9) rfl dNs_entriesOfAllLocks_16 ?_
          refine lv_iadd hx hb dNs_entriesOfAllLocks_19 ?_
          refine lv_topi (fun v7 ev7 => ?_)
          have hwp := hwp v7 ev7
          refine lv_istore_n hx hb dNs_entriesOfAllLocks_20 rfl hl (by decide) rfl (fun ls hl => ?_)
          have hl : lv_has ls 3 [(1, .int v7), (0, .ref (a 0)), (2, .int y2)] := hl
          refine lv_iinc (k := 2) hx hb dNs_entriesOfAllLocks_21 hl rfl (fx_inc1 _) (by decide) rfl (fun ls hl => ?_)
          have hl : lv_has ls 3 [(2, .int (y2 + 1)), (1, .int v7), (0, .ref (a 0))] := hl
          refine lv_goto hx hb dNs_entriesOfAllLocks_24 rfl ?_
          exact ih4 σ v7 (y2 + 1) _ _ _ hwp hP hD hS (lv_sub hl [2, 1, 0] rfl)
        · have hwp := hwp.2.2 e5
          refine W.eq (g2 := F0 m 16 ls [.ref (a 19), .int y1]) (by rw [e5]; rfl) ?_
          refine va_get (D := D) (ci := 8) (C := RTr) (T := TTr) (N := 7) hx hb hts hinTr hown hK hP 19 rfl rfl 4 (by decide) lk181 (fun _ h9 => h9) rfl dNs_entriesOfAllLocks_16 ?_
          refine lv_iadd hx hb dNs_entriesOfAllLocks_19 ?_
          refine lv_topi (fun v8 ev8 => ?_)
          have hwp := hwp v8 ev8
          refine lv_istore_n hx hb dNs_entriesOfAllLocks_20 rfl hl (by decide) rfl (fun ls hl => ?_)
          have hl : lv_has ls 3 [(1, .int v8), (0, .ref (a 0)), (2, .int y2)] := hl
          refine lv_iinc (k := 2) hx hb dNs_entriesOfAllLocks_21 hl rfl (fx_inc1 _) (by decide) rfl (fun ls hl => ?_)
          have hl : lv_has ls 3 [(2, .int (y2 + 1)), (1, .int v8), (0, .ref (a 0))] := hl
          refine lv_goto hx hb dNs_entriesOfAllLocks_24 rfl ?_
          exact ih4 σ v8 (y2 + 1) _ _ _ hwp hP hD hS (lv_sub hl [2, 1, 0] rfl)
  have hl := lv_entry ([.ref (a 0)]) (n := 3) (Nat.le_of_ble_eq_true rfl)
  rw [lg_entry_eq]
  generalize (lg_sl ([.ref (a 0)]) ++ List.replicate (3 - (lg_sl ([.ref (a 0)])).length) Slot.unset).toArray = ls at hl ⊢
  have hl : lv_has ls 3 [(0, .ref (a 0))] := hl
  refine lv_iconst (v := 0) hx hb dNs_entriesOfAllLocks_0 (by decide) ?_
  refine lv_istore_n hx hb dNs_entriesOfAllLocks_1 rfl hl (by decide) rfl (fun ls hl => ?_)
  have hl : lv_has ls 3 [(1, .int 0), (0, .ref (a 0))] := hl
  refine lv_iconst (v := 0) hx hb dNs_entriesOfAllLocks_2 (by decide) ?_
  refine lv_istore_n hx hb dNs_entriesOfAllLocks_3 rfl hl (by decide) rfl (fun ls hl => ?_)
  have hl : lv_has ls 3 [(2, .int 0), (1, .int 0), (0, .ref (a 0))] := hl
  exact cut4 5 σ 0 0 _ _ _ hwp hP hD hS (lv_sub hl [2, 1, 0] rfl)
-- NodeServices: public int count(int), on Ns, ret
def wC_Ns_count (a : Nat → Nat) (R : Int32 → CS → Prop) (σ : CS) (x1 : Int32) : Prop :=
  (((x1 = 0) → (∃ P2 : Int32 → CS → Prop, wC_Ns_entriesOfAllLocks a P2 σ ∧ (∀ (r4 : Int32) (u3 : CS), P2 r4 u3 → R r4 u3))) ∧ ((¬ x1 = 0) → (((x1 = 1) → R (σ.1 0 0) σ) ∧ ((¬ x1 = 1) → (((x1 = 2) → R (σ.1 34 0) σ) ∧ ((¬ x1 = 2) → (((x1 = 3) → R (σ.1 33 0) σ) ∧ ((¬ x1 = 3) → R (-1) σ))))))))
abbrev wsNs_count : List Cond := .code yNs_count cNs_count 2 (some .int) :: wg
abbrev rmC_Ns_count : Room := { frames := 1, cells := 0, slots := 0, locals := 22 }
set_option maxHeartbeats 4000000 in
set_option maxRecDepth 100000 in
theorem kC_Ns_count (l : Launch) (D : va_G) (a : Nat → Nat) (A : Nat → Prop) (t : Nat → ClassId) (σ : CS) (x1 : Int32) (R : Int32 → CS → Prop) (hwp : wC_Ns_count a R σ x1) : Met l yNs_count wsNs_count rmC_Ns_count (va_Pc [.ref (a 0), .int x1] (uI D clA (cT t) A true (cw a t) σ)) (va_Qi R (uI D clA (cT t) A true (cw a t)) A) 0 0 A := by
  refine Met.ofW (cc := cNs_count) (maxL := 2) (ret := (some .int)) (by decide) rfl ?_
  intro p e s m args below meth c s₁ B hml hv
  obtain ⟨rfl, ⟨hP, hK, hD, hA⟩⟩ := hv
  have hx := B.exec
  have hb := B.bytes
  have hr := B.returns
  have hts := atoms_spec (ws := wsNs_count) B.pre
  have hown : s.vm.findClass RNs = some m.cls := findClass_of_methodNamed B.named
  have hlocks := B.notSynchronized
  have hinNs : ∀ w ∈ u_ws RNs TNs 5, w ∈ wsNs_count := fun w h => List.mem_cons_of_mem _ (inNs w h)
  have hinNw : ∀ w ∈ u_ws RNw TNw 2, w ∈ wsNs_count := fun w h => List.mem_cons_of_mem _ (inNw w h)
  have hinWk : ∀ w ∈ u_ws RWk TWk 7, w ∈ wsNs_count := fun w h => List.mem_cons_of_mem _ (inWk w h)
  have lk10 := hts _ (List.mem_cons_of_mem _ wm_232)
  have lk172 := hts _ (List.mem_cons_of_mem _ wm_56)
  have lk175 := hts _ (List.mem_cons_of_mem _ wm_214)
  have lk178 := hts _ (List.mem_cons_of_mem _ wm_212)
  have lk45 := hts _ (List.mem_cons_of_mem _ wm_235)
  have hS : va_S A s.heap s.heap [] := va_S.rf
  have hl := lv_entry ([.ref (a 0), .int x1]) (n := 2) (Nat.le_of_ble_eq_true rfl)
  rw [lg_entry_eq]
  generalize (lg_sl ([.ref (a 0), .int x1]) ++ List.replicate (2 - (lg_sl ([.ref (a 0), .int x1])).length) Slot.unset).toArray = ls at hl ⊢
  have hl : lv_has ls 2 [(0, .ref (a 0)), (1, .int x1)] := hl
  refine lv_iload_n hx hb dNs_count_0 rfl (lv_at hl 1 rfl) ?_
  by_cases h1 : x1 = 0
  · have hwp := hwp.1 h1
    refine lv_tableIn hx hb dNs_count_1 (by rw [h1]; decide) (by rw [h1]; decide) (by rw [h1]; rfl) rfl ?_
    refine lv_aload_n hx hb dNs_count_32 rfl (lv_at hl 0 rfl) ?_
    obtain ⟨P2, hP2, hwp⟩ := hwp
    refine uCallVi (As := []) (rest := []) (C := RNs) ⟨hx, hb, hml, hown, hts⟩ (kC_Ns_entriesOfAllLocks l D a A t   σ  P2 hP2) (cwV 0 hts (gdV wm_252 wm_254 wp_0 wm_1 wm_255) rfl rfl rfl (by decide +kernel) ⟨Nat.le_of_ble_eq_true rfl, Nat.le_of_ble_eq_true rfl⟩) (va_recv (ci := 1) (q0 := 0) hK hP rfl rfl) hP hK hD hA hS rfl hl.1 rfl (Nat.le_of_ble_eq_true rfl) dNs_count_33 ⟨Nat.le_of_ble_eq_true rfl, Nat.le_of_ble_eq_true rfl⟩ (fun r4 u3 H locs hu3 hP hD hS => ?_)
    have hwp := hwp r4 u3 hu3
    exact W.iret (v := r4) hx hb hr (fun t ht hW => ⟨⟨r4, u3, rfl, hwp, uEnd ht hW hP hK hD hS hA⟩, hS.F ht⟩) hS.2.2 dNs_count_36
  have hwp := hwp.2 h1
  by_cases h5 : x1 = 1
  · have hwp := hwp.1 h5
    refine lv_tableIn hx hb dNs_count_1 (by rw [h5]; decide) (by rw [h5]; decide) (by rw [h5]; rfl) rfl ?_
    refine lv_aload_n hx hb dNs_count_37 rfl (lv_at hl 0 rfl) ?_
    refine va_get (D := D) (ci := 1) (C := RNs) (T := TNs) (N := 5) hx hb hts hinNs hown hK hP 0 rfl rfl 0 (by decide) lk10 (fun _ h9 => h9) rfl dNs_count_38 ?_
    refine va_get (D := D) (ci := 2) (C := RNw) (T := TNw) (N := 2) hx hb hts hinNw hown hK hP 1 rfl rfl 1 (by decide) lk172 (fun _ h9 => h9) rfl dNs_count_41 ?_
    exact W.iret (v := σ.1 0 0) hx hb hr (fun t ht hW => ⟨⟨σ.1 0 0, σ, rfl, hwp, uEnd ht hW hP hK hD hS hA⟩, hS.F ht⟩) hS.2.2 dNs_count_44
  have hwp := hwp.2 h5
  by_cases h6 : x1 = 2
  · have hwp := hwp.1 h6
    refine lv_tableIn hx hb dNs_count_1 (by rw [h6]; decide) (by rw [h6]; decide) (by rw [h6]; rfl) rfl ?_
    refine lv_aload_n hx hb dNs_count_45 rfl (lv_at hl 0 rfl) ?_
    refine va_get (D := D) (ci := 1) (C := RNs) (T := TNs) (N := 5) hx hb hts hinNs hown hK hP 0 rfl rfl 3 (by decide) lk45 (fun _ h9 => h9) rfl dNs_count_46 ?_
    refine va_get (D := D) (ci := 10) (C := RWk) (T := TWk) (N := 7) hx hb hts hinWk hown hK hP 38 rfl rfl 2 (by decide) lk175 (fun _ h9 => h9) rfl dNs_count_49 ?_
    exact W.iret (v := σ.1 34 0) hx hb hr (fun t ht hW => ⟨⟨σ.1 34 0, σ, rfl, hwp, uEnd ht hW hP hK hD hS hA⟩, hS.F ht⟩) hS.2.2 dNs_count_52
  have hwp := hwp.2 h6
  by_cases h7 : x1 = 3
  · have hwp := hwp.1 h7
    refine lv_tableIn hx hb dNs_count_1 (by rw [h7]; decide) (by rw [h7]; decide) (by rw [h7]; rfl) rfl ?_
    refine lv_aload_n hx hb dNs_count_53 rfl (lv_at hl 0 rfl) ?_
    refine va_get (D := D) (ci := 1) (C := RNs) (T := TNs) (N := 5) hx hb hts hinNs hown hK hP 0 rfl rfl 3 (by decide) lk45 (fun _ h9 => h9) rfl dNs_count_54 ?_
    refine va_get (D := D) (ci := 10) (C := RWk) (T := TWk) (N := 7) hx hb hts hinWk hown hK hP 38 rfl rfl 1 (by decide) lk178 (fun _ h9 => h9) rfl dNs_count_57 ?_
    exact W.iret (v := σ.1 33 0) hx hb hr (fun t ht hW => ⟨⟨σ.1 33 0, σ, rfl, hwp, uEnd ht hW hP hK hD hS hA⟩, hS.F ht⟩) hS.2.2 dNs_count_60
  have hwp := hwp.2 h7
  refine lv_tableOut hx hb dNs_count_1 (fx_out4 h1 h5 h6 h7) rfl ?_
  refine lv_iconst (v := (-1)) hx hb dNs_count_61 (by decide) ?_
  exact W.iret (v := (-1)) hx hb hr (fun t ht hW => ⟨⟨(-1), σ, rfl, hwp, uEnd ht hW hP hK hD hS hA⟩, hS.F ht⟩) hS.2.2 dNs_count_62
-- NodeServices: public void want(int, int) throws java.lang.IllegalArgumentException, java.lang.IllegalStateException, on Ns, ret
def wC_Ns_want (a : Nat → Nat) (R : CS → Prop) (σ : CS) (x1 x2 : Int32) : Prop :=
  (∃ P1 : CS → Prop, wC_Ns_requireLock a P1 σ x1 ∧ (∀ (u2 : CS), P1 u2 → (∃ P3 : CS → Prop, wC_Ns_requireNode a P3 u2 x2 ∧ (∀ (u4 : CS), P3 u4 → (vp_in x1 3 ∧ ((x1 = 0 → (vp_in x2 4 ∧ ((((u4.1 1 x2.toNatClampNeg) = 0) → (vp_in x1 3 ∧ ((x1 = 0 → (∃ P15 : CS → Prop, wC_St_ask a P15 u4 x2 ∧ (∀ (u16 : CS), P15 u16 → R u16))) ∧ (x1 = 1 → (∃ P17 : CS → Prop, wC_Tk_ask a P17 u4 x2 ∧ (∀ (u18 : CS), P17 u18 → R u18))) ∧ (x1 = 2 → (∃ P19 : CS → Prop, wC_Tr_ask a P19 u4 x2 ∧ (∀ (u20 : CS), P19 u20 → R u20)))))) ∧ ((¬ (u4.1 1 x2.toNatClampNeg) = 0) → False)))) ∧ (x1 = 1 → (vp_in x2 4 ∧ ((((u4.1 7 x2.toNatClampNeg) = 0) → (vp_in x1 3 ∧ ((x1 = 0 → (∃ P27 : CS → Prop, wC_St_ask a P27 u4 x2 ∧ (∀ (u28 : CS), P27 u28 → R u28))) ∧ (x1 = 1 → (∃ P29 : CS → Prop, wC_Tk_ask a P29 u4 x2 ∧ (∀ (u30 : CS), P29 u30 → R u30))) ∧ (x1 = 2 → (∃ P31 : CS → Prop, wC_Tr_ask a P31 u4 x2 ∧ (∀ (u32 : CS), P31 u32 → R u32)))))) ∧ ((¬ (u4.1 7 x2.toNatClampNeg) = 0) → False)))) ∧ (x1 = 2 → (vp_in x2 4 ∧ ((((u4.1 15 x2.toNatClampNeg) = 0) → (vp_in x1 3 ∧ ((x1 = 0 → (∃ P39 : CS → Prop, wC_St_ask a P39 u4 x2 ∧ (∀ (u40 : CS), P39 u40 → R u40))) ∧ (x1 = 1 → (∃ P41 : CS → Prop, wC_Tk_ask a P41 u4 x2 ∧ (∀ (u42 : CS), P41 u42 → R u42))) ∧ (x1 = 2 → (∃ P43 : CS → Prop, wC_Tr_ask a P43 u4 x2 ∧ (∀ (u44 : CS), P43 u44 → R u44)))))) ∧ ((¬ (u4.1 15 x2.toNatClampNeg) = 0) → False))))))))))
abbrev wsNs_want : List Cond := .code yNs_want cNs_want 3 none :: wg
abbrev rmC_Ns_want : Room := { frames := 6, cells := 5, slots := 20, locals := 133 }
set_option maxHeartbeats 4000000 in
set_option maxRecDepth 100000 in
theorem kC_Ns_want (l : Launch) (D : va_G) (a : Nat → Nat) (A : Nat → Prop) (t : Nat → ClassId) (σ : CS) (x1 x2 : Int32) (R : CS → Prop) (hwp : wC_Ns_want a R σ x1 x2) : Met l yNs_want wsNs_want rmC_Ns_want (va_Pc [.ref (a 0), .int x1, .int x2] (fun U => uI D clA (cT t) A true (cw a t) σ U ∧ eX U)) (va_Qv R (uI D clA (cT t) A true (cw a t)) A) 5 20 A := by
  refine Met.ofW (cc := cNs_want) (maxL := 3) (ret := none) (by decide) rfl ?_
  intro p e s m args below meth c s₁ B hml hv
  obtain ⟨rfl, ⟨hP, hK, hD, hA⟩, he⟩ := hv
  have hx := B.exec
  have hb := B.bytes
  have hr := B.returns
  have hts := atoms_spec (ws := wsNs_want) B.pre
  have hown : s.vm.findClass RNs = some m.cls := findClass_of_methodNamed B.named
  have hlocks := B.notSynchronized
  have hinNs : ∀ w ∈ u_ws RNs TNs 5, w ∈ wsNs_want := fun w h => List.mem_cons_of_mem _ (inNs w h)
  have hinSt : ∀ w ∈ u_ws RSt TSt 8, w ∈ wsNs_want := fun w h => List.mem_cons_of_mem _ (inSt w h)
  have hinTk : ∀ w ∈ u_ws RTk TTk 8, w ∈ wsNs_want := fun w h => List.mem_cons_of_mem _ (inTk w h)
  have hinTr : ∀ w ∈ u_ws RTr TTr 7, w ∈ wsNs_want := fun w h => List.mem_cons_of_mem _ (inTr w h)
  have lk18 := hts _ (List.mem_cons_of_mem _ wm_233)
  have lk62 := hts _ (List.mem_cons_of_mem _ wm_81)
  have hS : va_S A s.heap s.heap [] := va_S.rf
  have hl := lv_entry ([.ref (a 0), .int x1, .int x2]) (n := 3) (Nat.le_of_ble_eq_true rfl)
  rw [lg_entry_eq]
  generalize (lg_sl ([.ref (a 0), .int x1, .int x2]) ++ List.replicate (3 - (lg_sl ([.ref (a 0), .int x1, .int x2])).length) Slot.unset).toArray = ls at hl ⊢
  have hl : lv_has ls 3 [(0, .ref (a 0)), (1, .int x1), (2, .int x2)] := hl
  refine lv_iload_n hx hb dNs_want_0 rfl (lv_at hl 1 rfl) ?_
  obtain ⟨P1, hP1, hwp⟩ := hwp
  refine uCallSv (As := [.int x1]) (rest := []) ⟨hx, hb, hml, hown, hts⟩ (kC_Ns_requireLock l D a A t   σ x1 P1 hP1) (cwS 1 hts (gdS wm_268 wm_269 wm_1 wm_270) rfl rfl rfl (by decide +kernel) ⟨Nat.le_of_ble_eq_true rfl, Nat.le_of_ble_eq_true rfl⟩) hP hK hD hA hS rfl hl.1 rfl (Nat.le_of_ble_eq_true rfl) dNs_want_1 ⟨Nat.le_of_ble_eq_true rfl, Nat.le_of_ble_eq_true rfl⟩ (fun u2 H locs hu2 hP hD hS => ?_)
  have hwp := hwp u2 hu2
  refine lv_iload_n hx hb dNs_want_4 rfl (lv_at hl 2 rfl) ?_
  obtain ⟨P3, hP3, hwp⟩ := hwp
  refine uCallSv (As := [.int x2]) (rest := []) ⟨hx, hb, hml, hown, hts⟩ (kC_Ns_requireNode l D a A t   u2 x2 P3 hP3) (cwS 1 hts (gdS wm_339 wm_340 wm_1 wm_341) rfl rfl rfl (by decide +kernel) ⟨Nat.le_of_ble_eq_true rfl, Nat.le_of_ble_eq_true rfl⟩) hP hK hD hA hS rfl hl.1 rfl (Nat.le_of_ble_eq_true rfl) dNs_want_5 ⟨Nat.le_of_ble_eq_true rfl, Nat.le_of_ble_eq_true rfl⟩ (fun u4 H locs hu4 hP hD hS => ?_)
  have hwp := hwp u4 hu4
  refine lv_aload_n hx hb dNs_want_8 rfl (lv_at hl 0 rfl) ?_
  refine va_get (D := D) (ci := 1) (C := RNs) (T := TNs) (N := 5) hx hb hts hinNs hown hK hP 0 rfl rfl 1 (by decide) lk18 (fun _ h9 => h9) rfl dNs_want_9 ?_
  refine lv_iload_n hx hb dNs_want_12 rfl (lv_at hl 1 rfl) ?_
  obtain ⟨hi5, hwp⟩ := hwp
  refine va_aldq hx hb hK hP 3 3 rfl rfl hi5 dNs_want_13 ?_
  rcases fx_in3 hi5 with e6 | e7 | e8
  · have hwp := hwp.1 e6
    refine W.eq (g2 := F0 m 14 ls [.ref (a 5)]) (by rw [e6]; rfl) ?_
    refine va_get (D := D) (ci := 6) (C := RSt) (T := TSt) (N := 8) hx hb hts hinSt hown hK hP 5 rfl rfl 4 (by decide) lk62 (fun _ h9 => h9) rfl dNs_want_14 ?_
    refine lv_iload_n hx hb dNs_want_17 rfl (lv_at hl 2 rfl) ?_
    obtain ⟨hi9, hwp⟩ := hwp
    refine va_iald hx hb hK hP 6 0 rfl rfl hi9 dNs_want_18 ?_
    refine lv_if_eq hx hb dNs_want_19 rfl (fun h10 => ?_) (fun h10 => ?_)
    · have hwp := hwp.1 h10
      refine lv_aload_n hx hb dNs_want_32 rfl (lv_at hl 0 rfl) ?_
      refine va_get (D := D) (ci := 1) (C := RNs) (T := TNs) (N := 5) hx hb hts hinNs hown hK hP 0 rfl rfl 1 (by decide) lk18 (fun _ h9 => h9) rfl dNs_want_33 ?_
      refine lv_iload_n hx hb dNs_want_36 rfl (lv_at hl 1 rfl) ?_
      obtain ⟨hi11, hwp⟩ := hwp
      refine va_aldq hx hb hK hP 3 3 rfl rfl hi11 dNs_want_37 ?_
      rcases fx_in3 hi11 with e12 | e13 | e14
      · have hwp := hwp.1 e12
        refine W.eq (g2 := F0 m 38 ls [.ref (a 5)]) (by rw [e12]; rfl) ?_
        refine lv_iload_n hx hb dNs_want_38 rfl (lv_at hl 2 rfl) ?_
        obtain ⟨P15, hP15, hwp⟩ := hwp
        refine uCallUv (As := [.int x2]) (rest := []) (C := RSt) ⟨hx, hb, hml, hown, hts⟩ (kC_St_ask l D a A t   u4 x2 P15 hP15) (va_cwA (x := ⟨"NodeServices$Lock", "ask", "(I)V"⟩) (owner := "NodeServices$Lock") 1 hts (gdU wm_359 wm_361 wm_362 wm_363 wm_6 wm_364) rfl rfl rfl (he.decl (mem_tb 360 (by decide +kernel))) (by decide +kernel) ⟨Nat.le_of_ble_eq_true rfl, Nat.le_of_ble_eq_true rfl⟩) (va_recv (ci := 6) (q0 := 5) hK hP rfl rfl) hP hK hD hA hS rfl hl.1 rfl (Nat.le_of_ble_eq_true rfl) dNs_want_39 ⟨Nat.le_of_ble_eq_true rfl, Nat.le_of_ble_eq_true rfl⟩ (fun u16 H locs hu16 hP hD hS => ?_)
        have hwp := hwp u16 hu16
        exact W.vret hx hb hr (fun t ht hW => ⟨⟨u16, rfl, hwp, uEnd ht hW hP hK hD hS hA⟩, hS.F ht⟩) hS.2.2 dNs_want_42
      · have hwp := hwp.2.1 e13
        refine W.eq (g2 := F0 m 38 ls [.ref (a 11)]) (by rw [e13]; rfl) ?_
        refine lv_iload_n hx hb dNs_want_38 rfl (lv_at hl 2 rfl) ?_
        obtain ⟨P17, hP17, hwp⟩ := hwp
        refine uCallUv (As := [.int x2]) (rest := []) (C := RTk) ⟨hx, hb, hml, hown, hts⟩ (kC_Tk_ask l D a A t   u4 x2 P17 hP17) (va_cwA (x := ⟨"NodeServices$Lock", "ask", "(I)V"⟩) (owner := "NodeServices$Lock") 1 hts (gdU wm_359 wm_361 wm_422 wm_423 wm_7 wm_424) rfl rfl rfl (he.decl (mem_tb 360 (by decide +kernel))) (by decide +kernel) ⟨Nat.le_of_ble_eq_true rfl, Nat.le_of_ble_eq_true rfl⟩) (va_recv (ci := 7) (q0 := 11) hK hP rfl rfl) hP hK hD hA hS rfl hl.1 rfl (Nat.le_of_ble_eq_true rfl) dNs_want_39 ⟨Nat.le_of_ble_eq_true rfl, Nat.le_of_ble_eq_true rfl⟩ (fun u18 H locs hu18 hP hD hS => ?_)
        have hwp := hwp u18 hu18
        exact W.vret hx hb hr (fun t ht hW => ⟨⟨u18, rfl, hwp, uEnd ht hW hP hK hD hS hA⟩, hS.F ht⟩) hS.2.2 dNs_want_42
      · have hwp := hwp.2.2 e14
        refine W.eq (g2 := F0 m 38 ls [.ref (a 19)]) (by rw [e14]; rfl) ?_
        refine lv_iload_n hx hb dNs_want_38 rfl (lv_at hl 2 rfl) ?_
        obtain ⟨P19, hP19, hwp⟩ := hwp
        refine uCallUv (As := [.int x2]) (rest := []) (C := RTr) ⟨hx, hb, hml, hown, hts⟩ (kC_Tr_ask l D a A t   u4 x2 P19 hP19) (va_cwA (x := ⟨"NodeServices$Lock", "ask", "(I)V"⟩) (owner := "NodeServices$Lock") 1 hts (gdU wm_359 wm_361 wm_434 wm_435 wm_9 wm_436) rfl rfl rfl (he.decl (mem_tb 360 (by decide +kernel))) (by decide +kernel) ⟨Nat.le_of_ble_eq_true rfl, Nat.le_of_ble_eq_true rfl⟩) (va_recv (ci := 8) (q0 := 19) hK hP rfl rfl) hP hK hD hA hS rfl hl.1 rfl (Nat.le_of_ble_eq_true rfl) dNs_want_39 ⟨Nat.le_of_ble_eq_true rfl, Nat.le_of_ble_eq_true rfl⟩ (fun u20 H locs hu20 hP hD hS => ?_)
        have hwp := hwp u20 hu20
        refine W.widen (k := 5) (n := 20) (by omega) (by omega) ?_
        exact W.vret hx hb hr (fun t ht hW => ⟨⟨u20, rfl, hwp, uEnd ht hW hP hK hD hS hA⟩, hS.F ht⟩) hS.2.2 dNs_want_42
    · have hwp := hwp.2 h10
      exact False.elim hwp
  · have hwp := hwp.2.1 e7
    refine W.eq (g2 := F0 m 14 ls [.ref (a 11)]) (by rw [e7]; rfl) ?_
    refine va_get (D := D) (ci := 7) (C := RTk) (T := TTk) (N := 8) hx hb hts hinTk hown hK hP 11 rfl rfl 4 (by decide) lk62 (fun _ h9 => h9) rfl dNs_want_14 ?_
    refine lv_iload_n hx hb dNs_want_17 rfl (lv_at hl 2 rfl) ?_
    obtain ⟨hi21, hwp⟩ := hwp
    refine va_iald hx hb hK hP 12 0 rfl rfl hi21 dNs_want_18 ?_
    refine lv_if_eq hx hb dNs_want_19 rfl (fun h22 => ?_) (fun h22 => ?_)
    · have hwp := hwp.1 h22
      refine lv_aload_n hx hb dNs_want_32 rfl (lv_at hl 0 rfl) ?_
      refine va_get (D := D) (ci := 1) (C := RNs) (T := TNs) (N := 5) hx hb hts hinNs hown hK hP 0 rfl rfl 1 (by decide) lk18 (fun _ h9 => h9) rfl dNs_want_33 ?_
      refine lv_iload_n hx hb dNs_want_36 rfl (lv_at hl 1 rfl) ?_
      obtain ⟨hi23, hwp⟩ := hwp
      refine va_aldq hx hb hK hP 3 3 rfl rfl hi23 dNs_want_37 ?_
      rcases fx_in3 hi23 with e24 | e25 | e26
      · have hwp := hwp.1 e24
        refine W.eq (g2 := F0 m 38 ls [.ref (a 5)]) (by rw [e24]; rfl) ?_
        refine lv_iload_n hx hb dNs_want_38 rfl (lv_at hl 2 rfl) ?_
        obtain ⟨P27, hP27, hwp⟩ := hwp
        refine uCallUv (As := [.int x2]) (rest := []) (C := RSt) ⟨hx, hb, hml, hown, hts⟩ (kC_St_ask l D a A t   u4 x2 P27 hP27) (va_cwA (x := ⟨"NodeServices$Lock", "ask", "(I)V"⟩) (owner := "NodeServices$Lock") 1 hts (gdU wm_359 wm_361 wm_362 wm_363 wm_6 wm_364) rfl rfl rfl (he.decl (mem_tb 360 (by decide +kernel))) (by decide +kernel) ⟨Nat.le_of_ble_eq_true rfl, Nat.le_of_ble_eq_true rfl⟩) (va_recv (ci := 6) (q0 := 5) hK hP rfl rfl) hP hK hD hA hS rfl hl.1 rfl (Nat.le_of_ble_eq_true rfl) dNs_want_39 ⟨Nat.le_of_ble_eq_true rfl, Nat.le_of_ble_eq_true rfl⟩ (fun u28 H locs hu28 hP hD hS => ?_)
        have hwp := hwp u28 hu28
        exact W.vret hx hb hr (fun t ht hW => ⟨⟨u28, rfl, hwp, uEnd ht hW hP hK hD hS hA⟩, hS.F ht⟩) hS.2.2 dNs_want_42
      · have hwp := hwp.2.1 e25
        refine W.eq (g2 := F0 m 38 ls [.ref (a 11)]) (by rw [e25]; rfl) ?_
        refine lv_iload_n hx hb dNs_want_38 rfl (lv_at hl 2 rfl) ?_
        obtain ⟨P29, hP29, hwp⟩ := hwp
        refine uCallUv (As := [.int x2]) (rest := []) (C := RTk) ⟨hx, hb, hml, hown, hts⟩ (kC_Tk_ask l D a A t   u4 x2 P29 hP29) (va_cwA (x := ⟨"NodeServices$Lock", "ask", "(I)V"⟩) (owner := "NodeServices$Lock") 1 hts (gdU wm_359 wm_361 wm_422 wm_423 wm_7 wm_424) rfl rfl rfl (he.decl (mem_tb 360 (by decide +kernel))) (by decide +kernel) ⟨Nat.le_of_ble_eq_true rfl, Nat.le_of_ble_eq_true rfl⟩) (va_recv (ci := 7) (q0 := 11) hK hP rfl rfl) hP hK hD hA hS rfl hl.1 rfl (Nat.le_of_ble_eq_true rfl) dNs_want_39 ⟨Nat.le_of_ble_eq_true rfl, Nat.le_of_ble_eq_true rfl⟩ (fun u30 H locs hu30 hP hD hS => ?_)
        have hwp := hwp u30 hu30
        exact W.vret hx hb hr (fun t ht hW => ⟨⟨u30, rfl, hwp, uEnd ht hW hP hK hD hS hA⟩, hS.F ht⟩) hS.2.2 dNs_want_42
      · have hwp := hwp.2.2 e26
        refine W.eq (g2 := F0 m 38 ls [.ref (a 19)]) (by rw [e26]; rfl) ?_
        refine lv_iload_n hx hb dNs_want_38 rfl (lv_at hl 2 rfl) ?_
        obtain ⟨P31, hP31, hwp⟩ := hwp
        refine uCallUv (As := [.int x2]) (rest := []) (C := RTr) ⟨hx, hb, hml, hown, hts⟩ (kC_Tr_ask l D a A t   u4 x2 P31 hP31) (va_cwA (x := ⟨"NodeServices$Lock", "ask", "(I)V"⟩) (owner := "NodeServices$Lock") 1 hts (gdU wm_359 wm_361 wm_434 wm_435 wm_9 wm_436) rfl rfl rfl (he.decl (mem_tb 360 (by decide +kernel))) (by decide +kernel) ⟨Nat.le_of_ble_eq_true rfl, Nat.le_of_ble_eq_true rfl⟩) (va_recv (ci := 8) (q0 := 19) hK hP rfl rfl) hP hK hD hA hS rfl hl.1 rfl (Nat.le_of_ble_eq_true rfl) dNs_want_39 ⟨Nat.le_of_ble_eq_true rfl, Nat.le_of_ble_eq_true rfl⟩ (fun u32 H locs hu32 hP hD hS => ?_)
        have hwp := hwp u32 hu32
        refine W.widen (k := 5) (n := 20) (by omega) (by omega) ?_
        exact W.vret hx hb hr (fun t ht hW => ⟨⟨u32, rfl, hwp, uEnd ht hW hP hK hD hS hA⟩, hS.F ht⟩) hS.2.2 dNs_want_42
    · have hwp := hwp.2 h22
      exact False.elim hwp
  · have hwp := hwp.2.2 e8
    refine W.eq (g2 := F0 m 14 ls [.ref (a 19)]) (by rw [e8]; rfl) ?_
    refine va_get (D := D) (ci := 8) (C := RTr) (T := TTr) (N := 7) hx hb hts hinTr hown hK hP 19 rfl rfl 3 (by decide) lk62 (fun _ h9 => h9) rfl dNs_want_14 ?_
    refine lv_iload_n hx hb dNs_want_17 rfl (lv_at hl 2 rfl) ?_
    obtain ⟨hi33, hwp⟩ := hwp
    refine va_iald hx hb hK hP 20 0 rfl rfl hi33 dNs_want_18 ?_
    refine lv_if_eq hx hb dNs_want_19 rfl (fun h34 => ?_) (fun h34 => ?_)
    · have hwp := hwp.1 h34
      refine lv_aload_n hx hb dNs_want_32 rfl (lv_at hl 0 rfl) ?_
      refine va_get (D := D) (ci := 1) (C := RNs) (T := TNs) (N := 5) hx hb hts hinNs hown hK hP 0 rfl rfl 1 (by decide) lk18 (fun _ h9 => h9) rfl dNs_want_33 ?_
      refine lv_iload_n hx hb dNs_want_36 rfl (lv_at hl 1 rfl) ?_
      obtain ⟨hi35, hwp⟩ := hwp
      refine va_aldq hx hb hK hP 3 3 rfl rfl hi35 dNs_want_37 ?_
      rcases fx_in3 hi35 with e36 | e37 | e38
      · have hwp := hwp.1 e36
        refine W.eq (g2 := F0 m 38 ls [.ref (a 5)]) (by rw [e36]; rfl) ?_
        refine lv_iload_n hx hb dNs_want_38 rfl (lv_at hl 2 rfl) ?_
        obtain ⟨P39, hP39, hwp⟩ := hwp
        refine uCallUv (As := [.int x2]) (rest := []) (C := RSt) ⟨hx, hb, hml, hown, hts⟩ (kC_St_ask l D a A t   u4 x2 P39 hP39) (va_cwA (x := ⟨"NodeServices$Lock", "ask", "(I)V"⟩) (owner := "NodeServices$Lock") 1 hts (gdU wm_359 wm_361 wm_362 wm_363 wm_6 wm_364) rfl rfl rfl (he.decl (mem_tb 360 (by decide +kernel))) (by decide +kernel) ⟨Nat.le_of_ble_eq_true rfl, Nat.le_of_ble_eq_true rfl⟩) (va_recv (ci := 6) (q0 := 5) hK hP rfl rfl) hP hK hD hA hS rfl hl.1 rfl (Nat.le_of_ble_eq_true rfl) dNs_want_39 ⟨Nat.le_of_ble_eq_true rfl, Nat.le_of_ble_eq_true rfl⟩ (fun u40 H locs hu40 hP hD hS => ?_)
        have hwp := hwp u40 hu40
        exact W.vret hx hb hr (fun t ht hW => ⟨⟨u40, rfl, hwp, uEnd ht hW hP hK hD hS hA⟩, hS.F ht⟩) hS.2.2 dNs_want_42
      · have hwp := hwp.2.1 e37
        refine W.eq (g2 := F0 m 38 ls [.ref (a 11)]) (by rw [e37]; rfl) ?_
        refine lv_iload_n hx hb dNs_want_38 rfl (lv_at hl 2 rfl) ?_
        obtain ⟨P41, hP41, hwp⟩ := hwp
        refine uCallUv (As := [.int x2]) (rest := []) (C := RTk) ⟨hx, hb, hml, hown, hts⟩ (kC_Tk_ask l D a A t   u4 x2 P41 hP41) (va_cwA (x := ⟨"NodeServices$Lock", "ask", "(I)V"⟩) (owner := "NodeServices$Lock") 1 hts (gdU wm_359 wm_361 wm_422 wm_423 wm_7 wm_424) rfl rfl rfl (he.decl (mem_tb 360 (by decide +kernel))) (by decide +kernel) ⟨Nat.le_of_ble_eq_true rfl, Nat.le_of_ble_eq_true rfl⟩) (va_recv (ci := 7) (q0 := 11) hK hP rfl rfl) hP hK hD hA hS rfl hl.1 rfl (Nat.le_of_ble_eq_true rfl) dNs_want_39 ⟨Nat.le_of_ble_eq_true rfl, Nat.le_of_ble_eq_true rfl⟩ (fun u42 H locs hu42 hP hD hS => ?_)
        have hwp := hwp u42 hu42
        exact W.vret hx hb hr (fun t ht hW => ⟨⟨u42, rfl, hwp, uEnd ht hW hP hK hD hS hA⟩, hS.F ht⟩) hS.2.2 dNs_want_42
      · have hwp := hwp.2.2 e38
        refine W.eq (g2 := F0 m 38 ls [.ref (a 19)]) (by rw [e38]; rfl) ?_
        refine lv_iload_n hx hb dNs_want_38 rfl (lv_at hl 2 rfl) ?_
        obtain ⟨P43, hP43, hwp⟩ := hwp
        refine uCallUv (As := [.int x2]) (rest := []) (C := RTr) ⟨hx, hb, hml, hown, hts⟩ (kC_Tr_ask l D a A t   u4 x2 P43 hP43) (va_cwA (x := ⟨"NodeServices$Lock", "ask", "(I)V"⟩) (owner := "NodeServices$Lock") 1 hts (gdU wm_359 wm_361 wm_434 wm_435 wm_9 wm_436) rfl rfl rfl (he.decl (mem_tb 360 (by decide +kernel))) (by decide +kernel) ⟨Nat.le_of_ble_eq_true rfl, Nat.le_of_ble_eq_true rfl⟩) (va_recv (ci := 8) (q0 := 19) hK hP rfl rfl) hP hK hD hA hS rfl hl.1 rfl (Nat.le_of_ble_eq_true rfl) dNs_want_39 ⟨Nat.le_of_ble_eq_true rfl, Nat.le_of_ble_eq_true rfl⟩ (fun u44 H locs hu44 hP hD hS => ?_)
        have hwp := hwp u44 hu44
        refine W.widen (k := 5) (n := 20) (by omega) (by omega) ?_
        exact W.vret hx hb hr (fun t ht hW => ⟨⟨u44, rfl, hwp, uEnd ht hW hP hK hD hS hA⟩, hS.F ht⟩) hS.2.2 dNs_want_42
    · have hwp := hwp.2 h34
      exact False.elim hwp
-- NodeServices: public void want(int, int) throws java.lang.IllegalArgumentException, java.lang.IllegalStateException, on Ns, thr
def wT_Ns_want (a : Nat → Nat) (E : String) (σ : CS) (x1 x2 : Int32) : Prop :=
  ((wT_Ns_requireLock a E σ x1) ∨ (∃ P1 : CS → Prop, wP_Ns_requireLock a P1 σ x1 ∧ (∀ (u2 : CS), P1 u2 → ((wT_Ns_requireNode a E u2 x2) ∨ (∃ P3 : CS → Prop, wP_Ns_requireNode a P3 u2 x2 ∧ (∀ (u4 : CS), P3 u4 → (vp_in x1 3 ∧ ((x1 = 0 → (vp_in x2 4 ∧ ((((u4.1 1 x2.toNatClampNeg) = 0) → (vp_in x1 3 ∧ ((x1 = 0 → False) ∧ (x1 = 1 → False) ∧ (x1 = 2 → False)))) ∧ ((¬ (u4.1 1 x2.toNatClampNeg) = 0) → (E = "java/lang/IllegalStateException"))))) ∧ (x1 = 1 → (vp_in x2 4 ∧ ((((u4.1 7 x2.toNatClampNeg) = 0) → (vp_in x1 3 ∧ ((x1 = 0 → False) ∧ (x1 = 1 → False) ∧ (x1 = 2 → False)))) ∧ ((¬ (u4.1 7 x2.toNatClampNeg) = 0) → (E = "java/lang/IllegalStateException"))))) ∧ (x1 = 2 → (vp_in x2 4 ∧ ((((u4.1 15 x2.toNatClampNeg) = 0) → (vp_in x1 3 ∧ ((x1 = 0 → False) ∧ (x1 = 1 → False) ∧ (x1 = 2 → False)))) ∧ ((¬ (u4.1 15 x2.toNatClampNeg) = 0) → (E = "java/lang/IllegalStateException")))))))))))))
abbrev rmT_Ns_want : Room := { frames := 7, cells := 1, slots := 6, locals := 102 }
set_option maxHeartbeats 4000000 in
set_option maxRecDepth 100000 in
theorem tC_Ns_want (l : Launch) (htr : l.stackTraces = false) (D : va_G) (a : Nat → Nat) (t : Nat → ClassId) (σ : CS) (x1 x2 : Int32) (E : String) (hwp : wT_Ns_want a E σ x1 x2) : tMet l yNs_want wsNs_want rmT_Ns_want (va_Pc [.ref (a 0), .int x1, .int x2] (pE D t a σ)) E 1 6 := by
  refine tMet.ofW (cc := cNs_want) (maxL := 3) (ret := none) (by decide) rfl ?_
  intro p e s m args below meth c s₁ B hml hv hempty
  obtain ⟨rfl, ⟨hP, hK⟩, he⟩ := hv
  have hx := B.exec
  have hb := B.bytes
  have hr := B.returns
  have hts := atoms_spec (ws := wsNs_want) B.pre
  have hown : s.vm.findClass RNs = some m.cls := findClass_of_methodNamed B.named
  have hlocks := B.notSynchronized
  have hinNs : ∀ w ∈ u_ws RNs TNs 5, w ∈ wsNs_want := fun w h => List.mem_cons_of_mem _ (inNs w h)
  have hinSt : ∀ w ∈ u_ws RSt TSt 8, w ∈ wsNs_want := fun w h => List.mem_cons_of_mem _ (inSt w h)
  have hinTk : ∀ w ∈ u_ws RTk TTk 8, w ∈ wsNs_want := fun w h => List.mem_cons_of_mem _ (inTk w h)
  have hinTr : ∀ w ∈ u_ws RTr TTr 7, w ∈ wsNs_want := fun w h => List.mem_cons_of_mem _ (inTr w h)
  have lk18 := hts _ (List.mem_cons_of_mem _ wm_233)
  have lk62 := hts _ (List.mem_cons_of_mem _ wm_81)
  have hS : va_S (fun _ => False) s.heap s.heap [] := va_S.rf
  have hl := lv_entry ([.ref (a 0), .int x1, .int x2]) (n := 3) (Nat.le_of_ble_eq_true rfl)
  rw [lg_entry_eq]
  generalize (lg_sl ([.ref (a 0), .int x1, .int x2]) ++ List.replicate (3 - (lg_sl ([.ref (a 0), .int x1, .int x2])).length) Slot.unset).toArray = ls at hl ⊢
  have hl : lv_has ls 3 [(0, .ref (a 0)), (1, .int x1), (2, .int x2)] := hl
  refine lv_iload_n hx hb dNs_want_0 rfl (lv_at hl 1 rfl) ?_
  rcases hwp with hwp | hwp
  · exact tCallS (As := [.int x1]) (rest := []) ⟨hx, hb, hml, hown, hts⟩ (tC_Ns_requireLock l htr D a t σ x1 E hwp) (cwS 1 hts (gdS wm_268 wm_269 wm_1 wm_270) rfl rfl rfl (by decide +kernel) ⟨Nat.le_of_ble_eq_true rfl, Nat.le_of_ble_eq_true rfl⟩) ⟨pE_blind, pPre hP hK he hS⟩ hS rfl hl.1 rfl (Nat.le_of_ble_eq_true rfl) dNs_want_1 ⟨Nat.le_of_ble_eq_true rfl, Nat.le_of_ble_eq_true rfl⟩ (fun q ce H1 hS1 hce hv hcl hz hk => tOut hempty hlocks hce hv hcl (Nat.le_of_ble_eq_true rfl) (Nat.le_of_ble_eq_true rfl))
  · obtain ⟨P1, hP1, hwp⟩ := hwp
    refine pCallSv (As := [.int x1]) (rest := []) ⟨hx, hb, hml, hown, hts⟩ (pC_Ns_requireLock l D a t   σ x1 P1 hP1) (cwS 1 hts (gdS wm_268 wm_269 wm_1 wm_270) rfl rfl rfl (by decide +kernel) ⟨Nat.le_of_ble_eq_true rfl, Nat.le_of_ble_eq_true rfl⟩) hP hK hS rfl hl.1 rfl (Nat.le_of_ble_eq_true rfl) dNs_want_1 ⟨Nat.le_of_ble_eq_true rfl, Nat.le_of_ble_eq_true rfl⟩ (fun u2 H locs hu2 hP hS => ?_)
    have hwp := hwp u2 hu2
    refine lv_iload_n hx hb dNs_want_4 rfl (lv_at hl 2 rfl) ?_
    rcases hwp with hwp | hwp
    · exact tCallS (As := [.int x2]) (rest := []) ⟨hx, hb, hml, hown, hts⟩ (tC_Ns_requireNode l htr D a t u2 x2 E hwp) (cwS 1 hts (gdS wm_339 wm_340 wm_1 wm_341) rfl rfl rfl (by decide +kernel) ⟨Nat.le_of_ble_eq_true rfl, Nat.le_of_ble_eq_true rfl⟩) ⟨pE_blind, pPre hP hK he hS⟩ hS rfl hl.1 rfl (Nat.le_of_ble_eq_true rfl) dNs_want_5 ⟨Nat.le_of_ble_eq_true rfl, Nat.le_of_ble_eq_true rfl⟩ (fun q ce H1 hS1 hce hv hcl hz hk => tOut hempty hlocks hce hv hcl (Nat.le_of_ble_eq_true rfl) (Nat.le_of_ble_eq_true rfl))
    · obtain ⟨P3, hP3, hwp⟩ := hwp
      refine pCallSv (As := [.int x2]) (rest := []) ⟨hx, hb, hml, hown, hts⟩ (pC_Ns_requireNode l D a t   u2 x2 P3 hP3) (cwS 1 hts (gdS wm_339 wm_340 wm_1 wm_341) rfl rfl rfl (by decide +kernel) ⟨Nat.le_of_ble_eq_true rfl, Nat.le_of_ble_eq_true rfl⟩) hP hK hS rfl hl.1 rfl (Nat.le_of_ble_eq_true rfl) dNs_want_5 ⟨Nat.le_of_ble_eq_true rfl, Nat.le_of_ble_eq_true rfl⟩ (fun u4 H locs hu4 hP hS => ?_)
      have hwp := hwp u4 hu4
      refine lv_aload_n hx hb dNs_want_8 rfl (lv_at hl 0 rfl) ?_
      refine va_get (D := D) (ci := 1) (C := RNs) (T := TNs) (N := 5) hx hb hts hinNs hown hK hP 0 rfl rfl 1 (by decide) lk18 (fun _ h9 => h9) rfl dNs_want_9 ?_
      refine lv_iload_n hx hb dNs_want_12 rfl (lv_at hl 1 rfl) ?_
      obtain ⟨hi5, hwp⟩ := hwp
      refine va_aldq hx hb hK hP 3 3 rfl rfl hi5 dNs_want_13 ?_
      rcases fx_in3 hi5 with e6 | e7 | e8
      · have hwp := hwp.1 e6
        refine W.eq (g2 := F0 m 14 ls [.ref (a 5)]) (by rw [e6]; rfl) ?_
        refine va_get (D := D) (ci := 6) (C := RSt) (T := TSt) (N := 8) hx hb hts hinSt hown hK hP 5 rfl rfl 4 (by decide) lk62 (fun _ h9 => h9) rfl dNs_want_14 ?_
        refine lv_iload_n hx hb dNs_want_17 rfl (lv_at hl 2 rfl) ?_
        obtain ⟨hi9, hwp⟩ := hwp
        refine va_iald hx hb hK hP 6 0 rfl rfl hi9 dNs_want_18 ?_
        refine lv_if_eq hx hb dNs_want_19 rfl (fun h10 => ?_) (fun h10 => ?_)
        · have hwp := hwp.1 h10
          refine lv_aload_n hx hb dNs_want_32 rfl (lv_at hl 0 rfl) ?_
          refine va_get (D := D) (ci := 1) (C := RNs) (T := TNs) (N := 5) hx hb hts hinNs hown hK hP 0 rfl rfl 1 (by decide) lk18 (fun _ h9 => h9) rfl dNs_want_33 ?_
          refine lv_iload_n hx hb dNs_want_36 rfl (lv_at hl 1 rfl) ?_
          obtain ⟨hi11, hwp⟩ := hwp
          refine va_aldq hx hb hK hP 3 3 rfl rfl hi11 dNs_want_37 ?_
          rcases fx_in3 hi11 with e12 | e13 | e14
          · have hwp := hwp.1 e12
            refine W.eq (g2 := F0 m 38 ls [.ref (a 5)]) (by rw [e12]; rfl) ?_
            refine lv_iload_n hx hb dNs_want_38 rfl (lv_at hl 2 rfl) ?_
            exact False.elim hwp
          · have hwp := hwp.2.1 e13
            refine W.eq (g2 := F0 m 38 ls [.ref (a 11)]) (by rw [e13]; rfl) ?_
            refine lv_iload_n hx hb dNs_want_38 rfl (lv_at hl 2 rfl) ?_
            exact False.elim hwp
          · have hwp := hwp.2.2 e14
            refine W.eq (g2 := F0 m 38 ls [.ref (a 19)]) (by rw [e14]; rfl) ?_
            refine lv_iload_n hx hb dNs_want_38 rfl (lv_at hl 2 rfl) ?_
            exact False.elim hwp
        · have hwp := hwp.2 h10
          subst hwp
          obtain ⟨sa, hsa⟩ := eX.str (own := "NodeServices") (i := 68) (text := "the node is not idle") (mem_tb 352 (by decide +kernel)) (by decide +kernel) he
          exact tThrow (names := exN) hx hb htr hown (by decide +kernel) (by decide +kernel) (hts _ (List.mem_cons_of_mem _ wm_343)) (hts _ (List.mem_cons_of_mem _ wm_18)) hsa (he.atoms hts at_ISE) hS (hl.1.trans hml.symm) dNs_want_22 dNs_want_25 dNs_want_26 dNs_want_28 dNs_want_31 hempty (Nat.le_of_ble_eq_true rfl) (Nat.le_of_ble_eq_true rfl) (Nat.le_of_ble_eq_true rfl) (Nat.le_of_ble_eq_true rfl) hlocks (Nat.le_of_ble_eq_true rfl) (Nat.le_of_ble_eq_true rfl)
      · have hwp := hwp.2.1 e7
        refine W.eq (g2 := F0 m 14 ls [.ref (a 11)]) (by rw [e7]; rfl) ?_
        refine va_get (D := D) (ci := 7) (C := RTk) (T := TTk) (N := 8) hx hb hts hinTk hown hK hP 11 rfl rfl 4 (by decide) lk62 (fun _ h9 => h9) rfl dNs_want_14 ?_
        refine lv_iload_n hx hb dNs_want_17 rfl (lv_at hl 2 rfl) ?_
        obtain ⟨hi15, hwp⟩ := hwp
        refine va_iald hx hb hK hP 12 0 rfl rfl hi15 dNs_want_18 ?_
        refine lv_if_eq hx hb dNs_want_19 rfl (fun h16 => ?_) (fun h16 => ?_)
        · have hwp := hwp.1 h16
          refine lv_aload_n hx hb dNs_want_32 rfl (lv_at hl 0 rfl) ?_
          refine va_get (D := D) (ci := 1) (C := RNs) (T := TNs) (N := 5) hx hb hts hinNs hown hK hP 0 rfl rfl 1 (by decide) lk18 (fun _ h9 => h9) rfl dNs_want_33 ?_
          refine lv_iload_n hx hb dNs_want_36 rfl (lv_at hl 1 rfl) ?_
          obtain ⟨hi17, hwp⟩ := hwp
          refine va_aldq hx hb hK hP 3 3 rfl rfl hi17 dNs_want_37 ?_
          rcases fx_in3 hi17 with e18 | e19 | e20
          · have hwp := hwp.1 e18
            refine W.eq (g2 := F0 m 38 ls [.ref (a 5)]) (by rw [e18]; rfl) ?_
            refine lv_iload_n hx hb dNs_want_38 rfl (lv_at hl 2 rfl) ?_
            exact False.elim hwp
          · have hwp := hwp.2.1 e19
            refine W.eq (g2 := F0 m 38 ls [.ref (a 11)]) (by rw [e19]; rfl) ?_
            refine lv_iload_n hx hb dNs_want_38 rfl (lv_at hl 2 rfl) ?_
            exact False.elim hwp
          · have hwp := hwp.2.2 e20
            refine W.eq (g2 := F0 m 38 ls [.ref (a 19)]) (by rw [e20]; rfl) ?_
            refine lv_iload_n hx hb dNs_want_38 rfl (lv_at hl 2 rfl) ?_
            exact False.elim hwp
        · have hwp := hwp.2 h16
          subst hwp
          obtain ⟨sa, hsa⟩ := eX.str (own := "NodeServices") (i := 68) (text := "the node is not idle") (mem_tb 352 (by decide +kernel)) (by decide +kernel) he
          exact tThrow (names := exN) hx hb htr hown (by decide +kernel) (by decide +kernel) (hts _ (List.mem_cons_of_mem _ wm_343)) (hts _ (List.mem_cons_of_mem _ wm_18)) hsa (he.atoms hts at_ISE) hS (hl.1.trans hml.symm) dNs_want_22 dNs_want_25 dNs_want_26 dNs_want_28 dNs_want_31 hempty (Nat.le_of_ble_eq_true rfl) (Nat.le_of_ble_eq_true rfl) (Nat.le_of_ble_eq_true rfl) (Nat.le_of_ble_eq_true rfl) hlocks (Nat.le_of_ble_eq_true rfl) (Nat.le_of_ble_eq_true rfl)
      · have hwp := hwp.2.2 e8
        refine W.eq (g2 := F0 m 14 ls [.ref (a 19)]) (by rw [e8]; rfl) ?_
        refine va_get (D := D) (ci := 8) (C := RTr) (T := TTr) (N := 7) hx hb hts hinTr hown hK hP 19 rfl rfl 3 (by decide) lk62 (fun _ h9 => h9) rfl dNs_want_14 ?_
        refine lv_iload_n hx hb dNs_want_17 rfl (lv_at hl 2 rfl) ?_
        obtain ⟨hi21, hwp⟩ := hwp
        refine va_iald hx hb hK hP 20 0 rfl rfl hi21 dNs_want_18 ?_
        refine lv_if_eq hx hb dNs_want_19 rfl (fun h22 => ?_) (fun h22 => ?_)
        · have hwp := hwp.1 h22
          refine lv_aload_n hx hb dNs_want_32 rfl (lv_at hl 0 rfl) ?_
          refine va_get (D := D) (ci := 1) (C := RNs) (T := TNs) (N := 5) hx hb hts hinNs hown hK hP 0 rfl rfl 1 (by decide) lk18 (fun _ h9 => h9) rfl dNs_want_33 ?_
          refine lv_iload_n hx hb dNs_want_36 rfl (lv_at hl 1 rfl) ?_
          obtain ⟨hi23, hwp⟩ := hwp
          refine va_aldq hx hb hK hP 3 3 rfl rfl hi23 dNs_want_37 ?_
          rcases fx_in3 hi23 with e24 | e25 | e26
          · have hwp := hwp.1 e24
            refine W.eq (g2 := F0 m 38 ls [.ref (a 5)]) (by rw [e24]; rfl) ?_
            refine lv_iload_n hx hb dNs_want_38 rfl (lv_at hl 2 rfl) ?_
            exact False.elim hwp
          · have hwp := hwp.2.1 e25
            refine W.eq (g2 := F0 m 38 ls [.ref (a 11)]) (by rw [e25]; rfl) ?_
            refine lv_iload_n hx hb dNs_want_38 rfl (lv_at hl 2 rfl) ?_
            exact False.elim hwp
          · have hwp := hwp.2.2 e26
            refine W.eq (g2 := F0 m 38 ls [.ref (a 19)]) (by rw [e26]; rfl) ?_
            refine lv_iload_n hx hb dNs_want_38 rfl (lv_at hl 2 rfl) ?_
            exact False.elim hwp
        · have hwp := hwp.2 h22
          subst hwp
          obtain ⟨sa, hsa⟩ := eX.str (own := "NodeServices") (i := 68) (text := "the node is not idle") (mem_tb 352 (by decide +kernel)) (by decide +kernel) he
          exact tThrow (names := exN) hx hb htr hown (by decide +kernel) (by decide +kernel) (hts _ (List.mem_cons_of_mem _ wm_343)) (hts _ (List.mem_cons_of_mem _ wm_18)) hsa (he.atoms hts at_ISE) hS (hl.1.trans hml.symm) dNs_want_22 dNs_want_25 dNs_want_26 dNs_want_28 dNs_want_31 hempty (Nat.le_of_ble_eq_true rfl) (Nat.le_of_ble_eq_true rfl) (Nat.le_of_ble_eq_true rfl) (Nat.le_of_ble_eq_true rfl) hlocks (Nat.le_of_ble_eq_true rfl) (Nat.le_of_ble_eq_true rfl)
-- NodeServices: public void leave(int, int) throws java.lang.IllegalArgumentException, java.lang.IllegalStateException, on Ns, ret
def wC_Ns_leave (a : Nat → Nat) (R : CS → Prop) (σ : CS) (x1 x2 : Int32) : Prop :=
  (∃ P1 : CS → Prop, wC_Ns_requireLock a P1 σ x1 ∧ (∀ (u2 : CS), P1 u2 → (∃ P3 : CS → Prop, wC_Ns_requireNode a P3 u2 x2 ∧ (∀ (u4 : CS), P3 u4 → (vp_in x1 3 ∧ ((x1 = 0 → (vp_in x2 4 ∧ ((((u4.1 1 x2.toNatClampNeg) = 2) → (vp_in x1 3 ∧ ((x1 = 0 → (∃ P15 : CS → Prop, wC_St_release a P15 u4 x2 ∧ (∀ (u16 : CS), P15 u16 → R u16))) ∧ (x1 = 1 → (∃ P17 : CS → Prop, wC_Tk_release a P17 u4 x2 ∧ (∀ (u18 : CS), P17 u18 → R u18))) ∧ (x1 = 2 → (∃ P19 : CS → Prop, wC_Tr_release a P19 u4 x2 ∧ (∀ (u20 : CS), P19 u20 → R u20)))))) ∧ ((¬ (u4.1 1 x2.toNatClampNeg) = 2) → False)))) ∧ (x1 = 1 → (vp_in x2 4 ∧ ((((u4.1 7 x2.toNatClampNeg) = 2) → (vp_in x1 3 ∧ ((x1 = 0 → (∃ P27 : CS → Prop, wC_St_release a P27 u4 x2 ∧ (∀ (u28 : CS), P27 u28 → R u28))) ∧ (x1 = 1 → (∃ P29 : CS → Prop, wC_Tk_release a P29 u4 x2 ∧ (∀ (u30 : CS), P29 u30 → R u30))) ∧ (x1 = 2 → (∃ P31 : CS → Prop, wC_Tr_release a P31 u4 x2 ∧ (∀ (u32 : CS), P31 u32 → R u32)))))) ∧ ((¬ (u4.1 7 x2.toNatClampNeg) = 2) → False)))) ∧ (x1 = 2 → (vp_in x2 4 ∧ ((((u4.1 15 x2.toNatClampNeg) = 2) → (vp_in x1 3 ∧ ((x1 = 0 → (∃ P39 : CS → Prop, wC_St_release a P39 u4 x2 ∧ (∀ (u40 : CS), P39 u40 → R u40))) ∧ (x1 = 1 → (∃ P41 : CS → Prop, wC_Tk_release a P41 u4 x2 ∧ (∀ (u42 : CS), P41 u42 → R u42))) ∧ (x1 = 2 → (∃ P43 : CS → Prop, wC_Tr_release a P43 u4 x2 ∧ (∀ (u44 : CS), P43 u44 → R u44)))))) ∧ ((¬ (u4.1 15 x2.toNatClampNeg) = 2) → False))))))))))
abbrev wsNs_leave : List Cond := .code yNs_leave cNs_leave 3 none :: wg
abbrev rmC_Ns_leave : Room := { frames := 6, cells := 5, slots := 20, locals := 133 }
set_option maxHeartbeats 4000000 in
set_option maxRecDepth 100000 in
theorem kC_Ns_leave (l : Launch) (D : va_G) (a : Nat → Nat) (A : Nat → Prop) (t : Nat → ClassId) (σ : CS) (x1 x2 : Int32) (R : CS → Prop) (hwp : wC_Ns_leave a R σ x1 x2) : Met l yNs_leave wsNs_leave rmC_Ns_leave (va_Pc [.ref (a 0), .int x1, .int x2] (fun U => uI D clA (cT t) A true (cw a t) σ U ∧ eX U)) (va_Qv R (uI D clA (cT t) A true (cw a t)) A) 5 20 A := by
  refine Met.ofW (cc := cNs_leave) (maxL := 3) (ret := none) (by decide) rfl ?_
  intro p e s m args below meth c s₁ B hml hv
  obtain ⟨rfl, ⟨hP, hK, hD, hA⟩, he⟩ := hv
  have hx := B.exec
  have hb := B.bytes
  have hr := B.returns
  have hts := atoms_spec (ws := wsNs_leave) B.pre
  have hown : s.vm.findClass RNs = some m.cls := findClass_of_methodNamed B.named
  have hlocks := B.notSynchronized
  have hinNs : ∀ w ∈ u_ws RNs TNs 5, w ∈ wsNs_leave := fun w h => List.mem_cons_of_mem _ (inNs w h)
  have hinSt : ∀ w ∈ u_ws RSt TSt 8, w ∈ wsNs_leave := fun w h => List.mem_cons_of_mem _ (inSt w h)
  have hinTk : ∀ w ∈ u_ws RTk TTk 8, w ∈ wsNs_leave := fun w h => List.mem_cons_of_mem _ (inTk w h)
  have hinTr : ∀ w ∈ u_ws RTr TTr 7, w ∈ wsNs_leave := fun w h => List.mem_cons_of_mem _ (inTr w h)
  have lk18 := hts _ (List.mem_cons_of_mem _ wm_233)
  have lk62 := hts _ (List.mem_cons_of_mem _ wm_81)
  have hS : va_S A s.heap s.heap [] := va_S.rf
  have hl := lv_entry ([.ref (a 0), .int x1, .int x2]) (n := 3) (Nat.le_of_ble_eq_true rfl)
  rw [lg_entry_eq]
  generalize (lg_sl ([.ref (a 0), .int x1, .int x2]) ++ List.replicate (3 - (lg_sl ([.ref (a 0), .int x1, .int x2])).length) Slot.unset).toArray = ls at hl ⊢
  have hl : lv_has ls 3 [(0, .ref (a 0)), (1, .int x1), (2, .int x2)] := hl
  refine lv_iload_n hx hb dNs_leave_0 rfl (lv_at hl 1 rfl) ?_
  obtain ⟨P1, hP1, hwp⟩ := hwp
  refine uCallSv (As := [.int x1]) (rest := []) ⟨hx, hb, hml, hown, hts⟩ (kC_Ns_requireLock l D a A t   σ x1 P1 hP1) (cwS 1 hts (gdS wm_268 wm_269 wm_1 wm_270) rfl rfl rfl (by decide +kernel) ⟨Nat.le_of_ble_eq_true rfl, Nat.le_of_ble_eq_true rfl⟩) hP hK hD hA hS rfl hl.1 rfl (Nat.le_of_ble_eq_true rfl) dNs_leave_1 ⟨Nat.le_of_ble_eq_true rfl, Nat.le_of_ble_eq_true rfl⟩ (fun u2 H locs hu2 hP hD hS => ?_)
  have hwp := hwp u2 hu2
  refine lv_iload_n hx hb dNs_leave_4 rfl (lv_at hl 2 rfl) ?_
  obtain ⟨P3, hP3, hwp⟩ := hwp
  refine uCallSv (As := [.int x2]) (rest := []) ⟨hx, hb, hml, hown, hts⟩ (kC_Ns_requireNode l D a A t   u2 x2 P3 hP3) (cwS 1 hts (gdS wm_339 wm_340 wm_1 wm_341) rfl rfl rfl (by decide +kernel) ⟨Nat.le_of_ble_eq_true rfl, Nat.le_of_ble_eq_true rfl⟩) hP hK hD hA hS rfl hl.1 rfl (Nat.le_of_ble_eq_true rfl) dNs_leave_5 ⟨Nat.le_of_ble_eq_true rfl, Nat.le_of_ble_eq_true rfl⟩ (fun u4 H locs hu4 hP hD hS => ?_)
  have hwp := hwp u4 hu4
  refine lv_aload_n hx hb dNs_leave_8 rfl (lv_at hl 0 rfl) ?_
  refine va_get (D := D) (ci := 1) (C := RNs) (T := TNs) (N := 5) hx hb hts hinNs hown hK hP 0 rfl rfl 1 (by decide) lk18 (fun _ h9 => h9) rfl dNs_leave_9 ?_
  refine lv_iload_n hx hb dNs_leave_12 rfl (lv_at hl 1 rfl) ?_
  obtain ⟨hi5, hwp⟩ := hwp
  refine va_aldq hx hb hK hP 3 3 rfl rfl hi5 dNs_leave_13 ?_
  rcases fx_in3 hi5 with e6 | e7 | e8
  · have hwp := hwp.1 e6
    refine W.eq (g2 := F0 m 14 ls [.ref (a 5)]) (by rw [e6]; rfl) ?_
    refine va_get (D := D) (ci := 6) (C := RSt) (T := TSt) (N := 8) hx hb hts hinSt hown hK hP 5 rfl rfl 4 (by decide) lk62 (fun _ h9 => h9) rfl dNs_leave_14 ?_
    refine lv_iload_n hx hb dNs_leave_17 rfl (lv_at hl 2 rfl) ?_
    obtain ⟨hi9, hwp⟩ := hwp
    refine va_iald hx hb hK hP 6 0 rfl rfl hi9 dNs_leave_18 ?_
    refine lv_iconst (v := 2) hx hb dNs_leave_19 (by decide) ?_
    refine lv_icmp_eq hx hb dNs_leave_20 rfl (fun h10 => ?_) (fun h10 => ?_)
    · have hwp := hwp.1 h10
      refine lv_aload_n hx hb dNs_leave_33 rfl (lv_at hl 0 rfl) ?_
      refine va_get (D := D) (ci := 1) (C := RNs) (T := TNs) (N := 5) hx hb hts hinNs hown hK hP 0 rfl rfl 1 (by decide) lk18 (fun _ h9 => h9) rfl dNs_leave_34 ?_
      refine lv_iload_n hx hb dNs_leave_37 rfl (lv_at hl 1 rfl) ?_
      obtain ⟨hi11, hwp⟩ := hwp
      refine va_aldq hx hb hK hP 3 3 rfl rfl hi11 dNs_leave_38 ?_
      rcases fx_in3 hi11 with e12 | e13 | e14
      · have hwp := hwp.1 e12
        refine W.eq (g2 := F0 m 39 ls [.ref (a 5)]) (by rw [e12]; rfl) ?_
        refine lv_iload_n hx hb dNs_leave_39 rfl (lv_at hl 2 rfl) ?_
        obtain ⟨P15, hP15, hwp⟩ := hwp
        refine uCallUv (As := [.int x2]) (rest := []) (C := RSt) ⟨hx, hb, hml, hown, hts⟩ (kC_St_release l D a A t   u4 x2 P15 hP15) (va_cwA (x := ⟨"NodeServices$Lock", "release", "(I)V"⟩) (owner := "NodeServices$Lock") 1 hts (gdU wm_472 wm_474 wm_475 wm_476 wm_6 wm_477) rfl rfl rfl (he.decl (mem_tb 473 (by decide +kernel))) (by decide +kernel) ⟨Nat.le_of_ble_eq_true rfl, Nat.le_of_ble_eq_true rfl⟩) (va_recv (ci := 6) (q0 := 5) hK hP rfl rfl) hP hK hD hA hS rfl hl.1 rfl (Nat.le_of_ble_eq_true rfl) dNs_leave_40 ⟨Nat.le_of_ble_eq_true rfl, Nat.le_of_ble_eq_true rfl⟩ (fun u16 H locs hu16 hP hD hS => ?_)
        have hwp := hwp u16 hu16
        exact W.vret hx hb hr (fun t ht hW => ⟨⟨u16, rfl, hwp, uEnd ht hW hP hK hD hS hA⟩, hS.F ht⟩) hS.2.2 dNs_leave_43
      · have hwp := hwp.2.1 e13
        refine W.eq (g2 := F0 m 39 ls [.ref (a 11)]) (by rw [e13]; rfl) ?_
        refine lv_iload_n hx hb dNs_leave_39 rfl (lv_at hl 2 rfl) ?_
        obtain ⟨P17, hP17, hwp⟩ := hwp
        refine uCallUv (As := [.int x2]) (rest := []) (C := RTk) ⟨hx, hb, hml, hown, hts⟩ (kC_Tk_release l D a A t   u4 x2 P17 hP17) (va_cwA (x := ⟨"NodeServices$Lock", "release", "(I)V"⟩) (owner := "NodeServices$Lock") 1 hts (gdU wm_472 wm_474 wm_481 wm_482 wm_7 wm_483) rfl rfl rfl (he.decl (mem_tb 473 (by decide +kernel))) (by decide +kernel) ⟨Nat.le_of_ble_eq_true rfl, Nat.le_of_ble_eq_true rfl⟩) (va_recv (ci := 7) (q0 := 11) hK hP rfl rfl) hP hK hD hA hS rfl hl.1 rfl (Nat.le_of_ble_eq_true rfl) dNs_leave_40 ⟨Nat.le_of_ble_eq_true rfl, Nat.le_of_ble_eq_true rfl⟩ (fun u18 H locs hu18 hP hD hS => ?_)
        have hwp := hwp u18 hu18
        refine W.widen (k := 5) (n := 20) (by omega) (by omega) ?_
        exact W.vret hx hb hr (fun t ht hW => ⟨⟨u18, rfl, hwp, uEnd ht hW hP hK hD hS hA⟩, hS.F ht⟩) hS.2.2 dNs_leave_43
      · have hwp := hwp.2.2 e14
        refine W.eq (g2 := F0 m 39 ls [.ref (a 19)]) (by rw [e14]; rfl) ?_
        refine lv_iload_n hx hb dNs_leave_39 rfl (lv_at hl 2 rfl) ?_
        obtain ⟨P19, hP19, hwp⟩ := hwp
        refine uCallUv (As := [.int x2]) (rest := []) (C := RTr) ⟨hx, hb, hml, hown, hts⟩ (kC_Tr_release l D a A t   u4 x2 P19 hP19) (va_cwA (x := ⟨"NodeServices$Lock", "release", "(I)V"⟩) (owner := "NodeServices$Lock") 1 hts (gdU wm_472 wm_474 wm_502 wm_503 wm_9 wm_504) rfl rfl rfl (he.decl (mem_tb 473 (by decide +kernel))) (by decide +kernel) ⟨Nat.le_of_ble_eq_true rfl, Nat.le_of_ble_eq_true rfl⟩) (va_recv (ci := 8) (q0 := 19) hK hP rfl rfl) hP hK hD hA hS rfl hl.1 rfl (Nat.le_of_ble_eq_true rfl) dNs_leave_40 ⟨Nat.le_of_ble_eq_true rfl, Nat.le_of_ble_eq_true rfl⟩ (fun u20 H locs hu20 hP hD hS => ?_)
        have hwp := hwp u20 hu20
        refine W.widen (k := 5) (n := 20) (by omega) (by omega) ?_
        exact W.vret hx hb hr (fun t ht hW => ⟨⟨u20, rfl, hwp, uEnd ht hW hP hK hD hS hA⟩, hS.F ht⟩) hS.2.2 dNs_leave_43
    · have hwp := hwp.2 h10
      exact False.elim hwp
  · have hwp := hwp.2.1 e7
    refine W.eq (g2 := F0 m 14 ls [.ref (a 11)]) (by rw [e7]; rfl) ?_
    refine va_get (D := D) (ci := 7) (C := RTk) (T := TTk) (N := 8) hx hb hts hinTk hown hK hP 11 rfl rfl 4 (by decide) lk62 (fun _ h9 => h9) rfl dNs_leave_14 ?_
    refine lv_iload_n hx hb dNs_leave_17 rfl (lv_at hl 2 rfl) ?_
    obtain ⟨hi21, hwp⟩ := hwp
    refine va_iald hx hb hK hP 12 0 rfl rfl hi21 dNs_leave_18 ?_
    refine lv_iconst (v := 2) hx hb dNs_leave_19 (by decide) ?_
    refine lv_icmp_eq hx hb dNs_leave_20 rfl (fun h22 => ?_) (fun h22 => ?_)
    · have hwp := hwp.1 h22
      refine lv_aload_n hx hb dNs_leave_33 rfl (lv_at hl 0 rfl) ?_
      refine va_get (D := D) (ci := 1) (C := RNs) (T := TNs) (N := 5) hx hb hts hinNs hown hK hP 0 rfl rfl 1 (by decide) lk18 (fun _ h9 => h9) rfl dNs_leave_34 ?_
      refine lv_iload_n hx hb dNs_leave_37 rfl (lv_at hl 1 rfl) ?_
      obtain ⟨hi23, hwp⟩ := hwp
      refine va_aldq hx hb hK hP 3 3 rfl rfl hi23 dNs_leave_38 ?_
      rcases fx_in3 hi23 with e24 | e25 | e26
      · have hwp := hwp.1 e24
        refine W.eq (g2 := F0 m 39 ls [.ref (a 5)]) (by rw [e24]; rfl) ?_
        refine lv_iload_n hx hb dNs_leave_39 rfl (lv_at hl 2 rfl) ?_
        obtain ⟨P27, hP27, hwp⟩ := hwp
        refine uCallUv (As := [.int x2]) (rest := []) (C := RSt) ⟨hx, hb, hml, hown, hts⟩ (kC_St_release l D a A t   u4 x2 P27 hP27) (va_cwA (x := ⟨"NodeServices$Lock", "release", "(I)V"⟩) (owner := "NodeServices$Lock") 1 hts (gdU wm_472 wm_474 wm_475 wm_476 wm_6 wm_477) rfl rfl rfl (he.decl (mem_tb 473 (by decide +kernel))) (by decide +kernel) ⟨Nat.le_of_ble_eq_true rfl, Nat.le_of_ble_eq_true rfl⟩) (va_recv (ci := 6) (q0 := 5) hK hP rfl rfl) hP hK hD hA hS rfl hl.1 rfl (Nat.le_of_ble_eq_true rfl) dNs_leave_40 ⟨Nat.le_of_ble_eq_true rfl, Nat.le_of_ble_eq_true rfl⟩ (fun u28 H locs hu28 hP hD hS => ?_)
        have hwp := hwp u28 hu28
        exact W.vret hx hb hr (fun t ht hW => ⟨⟨u28, rfl, hwp, uEnd ht hW hP hK hD hS hA⟩, hS.F ht⟩) hS.2.2 dNs_leave_43
      · have hwp := hwp.2.1 e25
        refine W.eq (g2 := F0 m 39 ls [.ref (a 11)]) (by rw [e25]; rfl) ?_
        refine lv_iload_n hx hb dNs_leave_39 rfl (lv_at hl 2 rfl) ?_
        obtain ⟨P29, hP29, hwp⟩ := hwp
        refine uCallUv (As := [.int x2]) (rest := []) (C := RTk) ⟨hx, hb, hml, hown, hts⟩ (kC_Tk_release l D a A t   u4 x2 P29 hP29) (va_cwA (x := ⟨"NodeServices$Lock", "release", "(I)V"⟩) (owner := "NodeServices$Lock") 1 hts (gdU wm_472 wm_474 wm_481 wm_482 wm_7 wm_483) rfl rfl rfl (he.decl (mem_tb 473 (by decide +kernel))) (by decide +kernel) ⟨Nat.le_of_ble_eq_true rfl, Nat.le_of_ble_eq_true rfl⟩) (va_recv (ci := 7) (q0 := 11) hK hP rfl rfl) hP hK hD hA hS rfl hl.1 rfl (Nat.le_of_ble_eq_true rfl) dNs_leave_40 ⟨Nat.le_of_ble_eq_true rfl, Nat.le_of_ble_eq_true rfl⟩ (fun u30 H locs hu30 hP hD hS => ?_)
        have hwp := hwp u30 hu30
        refine W.widen (k := 5) (n := 20) (by omega) (by omega) ?_
        exact W.vret hx hb hr (fun t ht hW => ⟨⟨u30, rfl, hwp, uEnd ht hW hP hK hD hS hA⟩, hS.F ht⟩) hS.2.2 dNs_leave_43
      · have hwp := hwp.2.2 e26
        refine W.eq (g2 := F0 m 39 ls [.ref (a 19)]) (by rw [e26]; rfl) ?_
        refine lv_iload_n hx hb dNs_leave_39 rfl (lv_at hl 2 rfl) ?_
        obtain ⟨P31, hP31, hwp⟩ := hwp
        refine uCallUv (As := [.int x2]) (rest := []) (C := RTr) ⟨hx, hb, hml, hown, hts⟩ (kC_Tr_release l D a A t   u4 x2 P31 hP31) (va_cwA (x := ⟨"NodeServices$Lock", "release", "(I)V"⟩) (owner := "NodeServices$Lock") 1 hts (gdU wm_472 wm_474 wm_502 wm_503 wm_9 wm_504) rfl rfl rfl (he.decl (mem_tb 473 (by decide +kernel))) (by decide +kernel) ⟨Nat.le_of_ble_eq_true rfl, Nat.le_of_ble_eq_true rfl⟩) (va_recv (ci := 8) (q0 := 19) hK hP rfl rfl) hP hK hD hA hS rfl hl.1 rfl (Nat.le_of_ble_eq_true rfl) dNs_leave_40 ⟨Nat.le_of_ble_eq_true rfl, Nat.le_of_ble_eq_true rfl⟩ (fun u32 H locs hu32 hP hD hS => ?_)
        have hwp := hwp u32 hu32
        refine W.widen (k := 5) (n := 20) (by omega) (by omega) ?_
        exact W.vret hx hb hr (fun t ht hW => ⟨⟨u32, rfl, hwp, uEnd ht hW hP hK hD hS hA⟩, hS.F ht⟩) hS.2.2 dNs_leave_43
    · have hwp := hwp.2 h22
      exact False.elim hwp
  · have hwp := hwp.2.2 e8
    refine W.eq (g2 := F0 m 14 ls [.ref (a 19)]) (by rw [e8]; rfl) ?_
    refine va_get (D := D) (ci := 8) (C := RTr) (T := TTr) (N := 7) hx hb hts hinTr hown hK hP 19 rfl rfl 3 (by decide) lk62 (fun _ h9 => h9) rfl dNs_leave_14 ?_
    refine lv_iload_n hx hb dNs_leave_17 rfl (lv_at hl 2 rfl) ?_
    obtain ⟨hi33, hwp⟩ := hwp
    refine va_iald hx hb hK hP 20 0 rfl rfl hi33 dNs_leave_18 ?_
    refine lv_iconst (v := 2) hx hb dNs_leave_19 (by decide) ?_
    refine lv_icmp_eq hx hb dNs_leave_20 rfl (fun h34 => ?_) (fun h34 => ?_)
    · have hwp := hwp.1 h34
      refine lv_aload_n hx hb dNs_leave_33 rfl (lv_at hl 0 rfl) ?_
      refine va_get (D := D) (ci := 1) (C := RNs) (T := TNs) (N := 5) hx hb hts hinNs hown hK hP 0 rfl rfl 1 (by decide) lk18 (fun _ h9 => h9) rfl dNs_leave_34 ?_
      refine lv_iload_n hx hb dNs_leave_37 rfl (lv_at hl 1 rfl) ?_
      obtain ⟨hi35, hwp⟩ := hwp
      refine va_aldq hx hb hK hP 3 3 rfl rfl hi35 dNs_leave_38 ?_
      rcases fx_in3 hi35 with e36 | e37 | e38
      · have hwp := hwp.1 e36
        refine W.eq (g2 := F0 m 39 ls [.ref (a 5)]) (by rw [e36]; rfl) ?_
        refine lv_iload_n hx hb dNs_leave_39 rfl (lv_at hl 2 rfl) ?_
        obtain ⟨P39, hP39, hwp⟩ := hwp
        refine uCallUv (As := [.int x2]) (rest := []) (C := RSt) ⟨hx, hb, hml, hown, hts⟩ (kC_St_release l D a A t   u4 x2 P39 hP39) (va_cwA (x := ⟨"NodeServices$Lock", "release", "(I)V"⟩) (owner := "NodeServices$Lock") 1 hts (gdU wm_472 wm_474 wm_475 wm_476 wm_6 wm_477) rfl rfl rfl (he.decl (mem_tb 473 (by decide +kernel))) (by decide +kernel) ⟨Nat.le_of_ble_eq_true rfl, Nat.le_of_ble_eq_true rfl⟩) (va_recv (ci := 6) (q0 := 5) hK hP rfl rfl) hP hK hD hA hS rfl hl.1 rfl (Nat.le_of_ble_eq_true rfl) dNs_leave_40 ⟨Nat.le_of_ble_eq_true rfl, Nat.le_of_ble_eq_true rfl⟩ (fun u40 H locs hu40 hP hD hS => ?_)
        have hwp := hwp u40 hu40
        exact W.vret hx hb hr (fun t ht hW => ⟨⟨u40, rfl, hwp, uEnd ht hW hP hK hD hS hA⟩, hS.F ht⟩) hS.2.2 dNs_leave_43
      · have hwp := hwp.2.1 e37
        refine W.eq (g2 := F0 m 39 ls [.ref (a 11)]) (by rw [e37]; rfl) ?_
        refine lv_iload_n hx hb dNs_leave_39 rfl (lv_at hl 2 rfl) ?_
        obtain ⟨P41, hP41, hwp⟩ := hwp
        refine uCallUv (As := [.int x2]) (rest := []) (C := RTk) ⟨hx, hb, hml, hown, hts⟩ (kC_Tk_release l D a A t   u4 x2 P41 hP41) (va_cwA (x := ⟨"NodeServices$Lock", "release", "(I)V"⟩) (owner := "NodeServices$Lock") 1 hts (gdU wm_472 wm_474 wm_481 wm_482 wm_7 wm_483) rfl rfl rfl (he.decl (mem_tb 473 (by decide +kernel))) (by decide +kernel) ⟨Nat.le_of_ble_eq_true rfl, Nat.le_of_ble_eq_true rfl⟩) (va_recv (ci := 7) (q0 := 11) hK hP rfl rfl) hP hK hD hA hS rfl hl.1 rfl (Nat.le_of_ble_eq_true rfl) dNs_leave_40 ⟨Nat.le_of_ble_eq_true rfl, Nat.le_of_ble_eq_true rfl⟩ (fun u42 H locs hu42 hP hD hS => ?_)
        have hwp := hwp u42 hu42
        refine W.widen (k := 5) (n := 20) (by omega) (by omega) ?_
        exact W.vret hx hb hr (fun t ht hW => ⟨⟨u42, rfl, hwp, uEnd ht hW hP hK hD hS hA⟩, hS.F ht⟩) hS.2.2 dNs_leave_43
      · have hwp := hwp.2.2 e38
        refine W.eq (g2 := F0 m 39 ls [.ref (a 19)]) (by rw [e38]; rfl) ?_
        refine lv_iload_n hx hb dNs_leave_39 rfl (lv_at hl 2 rfl) ?_
        obtain ⟨P43, hP43, hwp⟩ := hwp
        refine uCallUv (As := [.int x2]) (rest := []) (C := RTr) ⟨hx, hb, hml, hown, hts⟩ (kC_Tr_release l D a A t   u4 x2 P43 hP43) (va_cwA (x := ⟨"NodeServices$Lock", "release", "(I)V"⟩) (owner := "NodeServices$Lock") 1 hts (gdU wm_472 wm_474 wm_502 wm_503 wm_9 wm_504) rfl rfl rfl (he.decl (mem_tb 473 (by decide +kernel))) (by decide +kernel) ⟨Nat.le_of_ble_eq_true rfl, Nat.le_of_ble_eq_true rfl⟩) (va_recv (ci := 8) (q0 := 19) hK hP rfl rfl) hP hK hD hA hS rfl hl.1 rfl (Nat.le_of_ble_eq_true rfl) dNs_leave_40 ⟨Nat.le_of_ble_eq_true rfl, Nat.le_of_ble_eq_true rfl⟩ (fun u44 H locs hu44 hP hD hS => ?_)
        have hwp := hwp u44 hu44
        refine W.widen (k := 5) (n := 20) (by omega) (by omega) ?_
        exact W.vret hx hb hr (fun t ht hW => ⟨⟨u44, rfl, hwp, uEnd ht hW hP hK hD hS hA⟩, hS.F ht⟩) hS.2.2 dNs_leave_43
    · have hwp := hwp.2 h34
      exact False.elim hwp
-- NodeServices: public void leave(int, int) throws java.lang.IllegalArgumentException, java.lang.IllegalStateException, on Ns, thr
def wT_Ns_leave (a : Nat → Nat) (E : String) (σ : CS) (x1 x2 : Int32) : Prop :=
  ((wT_Ns_requireLock a E σ x1) ∨ (∃ P1 : CS → Prop, wP_Ns_requireLock a P1 σ x1 ∧ (∀ (u2 : CS), P1 u2 → ((wT_Ns_requireNode a E u2 x2) ∨ (∃ P3 : CS → Prop, wP_Ns_requireNode a P3 u2 x2 ∧ (∀ (u4 : CS), P3 u4 → (vp_in x1 3 ∧ ((x1 = 0 → (vp_in x2 4 ∧ ((((u4.1 1 x2.toNatClampNeg) = 2) → (vp_in x1 3 ∧ ((x1 = 0 → False) ∧ (x1 = 1 → False) ∧ (x1 = 2 → False)))) ∧ ((¬ (u4.1 1 x2.toNatClampNeg) = 2) → (E = "java/lang/IllegalStateException"))))) ∧ (x1 = 1 → (vp_in x2 4 ∧ ((((u4.1 7 x2.toNatClampNeg) = 2) → (vp_in x1 3 ∧ ((x1 = 0 → False) ∧ (x1 = 1 → False) ∧ (x1 = 2 → False)))) ∧ ((¬ (u4.1 7 x2.toNatClampNeg) = 2) → (E = "java/lang/IllegalStateException"))))) ∧ (x1 = 2 → (vp_in x2 4 ∧ ((((u4.1 15 x2.toNatClampNeg) = 2) → (vp_in x1 3 ∧ ((x1 = 0 → False) ∧ (x1 = 1 → False) ∧ (x1 = 2 → False)))) ∧ ((¬ (u4.1 15 x2.toNatClampNeg) = 2) → (E = "java/lang/IllegalStateException")))))))))))))
abbrev rmT_Ns_leave : Room := { frames := 7, cells := 1, slots := 6, locals := 102 }
set_option maxHeartbeats 4000000 in
set_option maxRecDepth 100000 in
theorem tC_Ns_leave (l : Launch) (htr : l.stackTraces = false) (D : va_G) (a : Nat → Nat) (t : Nat → ClassId) (σ : CS) (x1 x2 : Int32) (E : String) (hwp : wT_Ns_leave a E σ x1 x2) : tMet l yNs_leave wsNs_leave rmT_Ns_leave (va_Pc [.ref (a 0), .int x1, .int x2] (pE D t a σ)) E 1 6 := by
  refine tMet.ofW (cc := cNs_leave) (maxL := 3) (ret := none) (by decide) rfl ?_
  intro p e s m args below meth c s₁ B hml hv hempty
  obtain ⟨rfl, ⟨hP, hK⟩, he⟩ := hv
  have hx := B.exec
  have hb := B.bytes
  have hr := B.returns
  have hts := atoms_spec (ws := wsNs_leave) B.pre
  have hown : s.vm.findClass RNs = some m.cls := findClass_of_methodNamed B.named
  have hlocks := B.notSynchronized
  have hinNs : ∀ w ∈ u_ws RNs TNs 5, w ∈ wsNs_leave := fun w h => List.mem_cons_of_mem _ (inNs w h)
  have hinSt : ∀ w ∈ u_ws RSt TSt 8, w ∈ wsNs_leave := fun w h => List.mem_cons_of_mem _ (inSt w h)
  have hinTk : ∀ w ∈ u_ws RTk TTk 8, w ∈ wsNs_leave := fun w h => List.mem_cons_of_mem _ (inTk w h)
  have hinTr : ∀ w ∈ u_ws RTr TTr 7, w ∈ wsNs_leave := fun w h => List.mem_cons_of_mem _ (inTr w h)
  have lk18 := hts _ (List.mem_cons_of_mem _ wm_233)
  have lk62 := hts _ (List.mem_cons_of_mem _ wm_81)
  have hS : va_S (fun _ => False) s.heap s.heap [] := va_S.rf
  have hl := lv_entry ([.ref (a 0), .int x1, .int x2]) (n := 3) (Nat.le_of_ble_eq_true rfl)
  rw [lg_entry_eq]
  generalize (lg_sl ([.ref (a 0), .int x1, .int x2]) ++ List.replicate (3 - (lg_sl ([.ref (a 0), .int x1, .int x2])).length) Slot.unset).toArray = ls at hl ⊢
  have hl : lv_has ls 3 [(0, .ref (a 0)), (1, .int x1), (2, .int x2)] := hl
  refine lv_iload_n hx hb dNs_leave_0 rfl (lv_at hl 1 rfl) ?_
  rcases hwp with hwp | hwp
  · exact tCallS (As := [.int x1]) (rest := []) ⟨hx, hb, hml, hown, hts⟩ (tC_Ns_requireLock l htr D a t σ x1 E hwp) (cwS 1 hts (gdS wm_268 wm_269 wm_1 wm_270) rfl rfl rfl (by decide +kernel) ⟨Nat.le_of_ble_eq_true rfl, Nat.le_of_ble_eq_true rfl⟩) ⟨pE_blind, pPre hP hK he hS⟩ hS rfl hl.1 rfl (Nat.le_of_ble_eq_true rfl) dNs_leave_1 ⟨Nat.le_of_ble_eq_true rfl, Nat.le_of_ble_eq_true rfl⟩ (fun q ce H1 hS1 hce hv hcl hz hk => tOut hempty hlocks hce hv hcl (Nat.le_of_ble_eq_true rfl) (Nat.le_of_ble_eq_true rfl))
  · obtain ⟨P1, hP1, hwp⟩ := hwp
    refine pCallSv (As := [.int x1]) (rest := []) ⟨hx, hb, hml, hown, hts⟩ (pC_Ns_requireLock l D a t   σ x1 P1 hP1) (cwS 1 hts (gdS wm_268 wm_269 wm_1 wm_270) rfl rfl rfl (by decide +kernel) ⟨Nat.le_of_ble_eq_true rfl, Nat.le_of_ble_eq_true rfl⟩) hP hK hS rfl hl.1 rfl (Nat.le_of_ble_eq_true rfl) dNs_leave_1 ⟨Nat.le_of_ble_eq_true rfl, Nat.le_of_ble_eq_true rfl⟩ (fun u2 H locs hu2 hP hS => ?_)
    have hwp := hwp u2 hu2
    refine lv_iload_n hx hb dNs_leave_4 rfl (lv_at hl 2 rfl) ?_
    rcases hwp with hwp | hwp
    · exact tCallS (As := [.int x2]) (rest := []) ⟨hx, hb, hml, hown, hts⟩ (tC_Ns_requireNode l htr D a t u2 x2 E hwp) (cwS 1 hts (gdS wm_339 wm_340 wm_1 wm_341) rfl rfl rfl (by decide +kernel) ⟨Nat.le_of_ble_eq_true rfl, Nat.le_of_ble_eq_true rfl⟩) ⟨pE_blind, pPre hP hK he hS⟩ hS rfl hl.1 rfl (Nat.le_of_ble_eq_true rfl) dNs_leave_5 ⟨Nat.le_of_ble_eq_true rfl, Nat.le_of_ble_eq_true rfl⟩ (fun q ce H1 hS1 hce hv hcl hz hk => tOut hempty hlocks hce hv hcl (Nat.le_of_ble_eq_true rfl) (Nat.le_of_ble_eq_true rfl))
    · obtain ⟨P3, hP3, hwp⟩ := hwp
      refine pCallSv (As := [.int x2]) (rest := []) ⟨hx, hb, hml, hown, hts⟩ (pC_Ns_requireNode l D a t   u2 x2 P3 hP3) (cwS 1 hts (gdS wm_339 wm_340 wm_1 wm_341) rfl rfl rfl (by decide +kernel) ⟨Nat.le_of_ble_eq_true rfl, Nat.le_of_ble_eq_true rfl⟩) hP hK hS rfl hl.1 rfl (Nat.le_of_ble_eq_true rfl) dNs_leave_5 ⟨Nat.le_of_ble_eq_true rfl, Nat.le_of_ble_eq_true rfl⟩ (fun u4 H locs hu4 hP hS => ?_)
      have hwp := hwp u4 hu4
      refine lv_aload_n hx hb dNs_leave_8 rfl (lv_at hl 0 rfl) ?_
      refine va_get (D := D) (ci := 1) (C := RNs) (T := TNs) (N := 5) hx hb hts hinNs hown hK hP 0 rfl rfl 1 (by decide) lk18 (fun _ h9 => h9) rfl dNs_leave_9 ?_
      refine lv_iload_n hx hb dNs_leave_12 rfl (lv_at hl 1 rfl) ?_
      obtain ⟨hi5, hwp⟩ := hwp
      refine va_aldq hx hb hK hP 3 3 rfl rfl hi5 dNs_leave_13 ?_
      rcases fx_in3 hi5 with e6 | e7 | e8
      · have hwp := hwp.1 e6
        refine W.eq (g2 := F0 m 14 ls [.ref (a 5)]) (by rw [e6]; rfl) ?_
        refine va_get (D := D) (ci := 6) (C := RSt) (T := TSt) (N := 8) hx hb hts hinSt hown hK hP 5 rfl rfl 4 (by decide) lk62 (fun _ h9 => h9) rfl dNs_leave_14 ?_
        refine lv_iload_n hx hb dNs_leave_17 rfl (lv_at hl 2 rfl) ?_
        obtain ⟨hi9, hwp⟩ := hwp
        refine va_iald hx hb hK hP 6 0 rfl rfl hi9 dNs_leave_18 ?_
        refine lv_iconst (v := 2) hx hb dNs_leave_19 (by decide) ?_
        refine lv_icmp_eq hx hb dNs_leave_20 rfl (fun h10 => ?_) (fun h10 => ?_)
        · have hwp := hwp.1 h10
          refine lv_aload_n hx hb dNs_leave_33 rfl (lv_at hl 0 rfl) ?_
          refine va_get (D := D) (ci := 1) (C := RNs) (T := TNs) (N := 5) hx hb hts hinNs hown hK hP 0 rfl rfl 1 (by decide) lk18 (fun _ h9 => h9) rfl dNs_leave_34 ?_
          refine lv_iload_n hx hb dNs_leave_37 rfl (lv_at hl 1 rfl) ?_
          obtain ⟨hi11, hwp⟩ := hwp
          refine va_aldq hx hb hK hP 3 3 rfl rfl hi11 dNs_leave_38 ?_
          rcases fx_in3 hi11 with e12 | e13 | e14
          · have hwp := hwp.1 e12
            refine W.eq (g2 := F0 m 39 ls [.ref (a 5)]) (by rw [e12]; rfl) ?_
            refine lv_iload_n hx hb dNs_leave_39 rfl (lv_at hl 2 rfl) ?_
            exact False.elim hwp
          · have hwp := hwp.2.1 e13
            refine W.eq (g2 := F0 m 39 ls [.ref (a 11)]) (by rw [e13]; rfl) ?_
            refine lv_iload_n hx hb dNs_leave_39 rfl (lv_at hl 2 rfl) ?_
            exact False.elim hwp
          · have hwp := hwp.2.2 e14
            refine W.eq (g2 := F0 m 39 ls [.ref (a 19)]) (by rw [e14]; rfl) ?_
            refine lv_iload_n hx hb dNs_leave_39 rfl (lv_at hl 2 rfl) ?_
            exact False.elim hwp
        · have hwp := hwp.2 h10
          subst hwp
          obtain ⟨sa, hsa⟩ := eX.str (own := "NodeServices") (i := 76) (text := "the node is not in") (mem_tb 471 (by decide +kernel)) (by decide +kernel) he
          exact tThrow (names := exN) hx hb htr hown (by decide +kernel) (by decide +kernel) (hts _ (List.mem_cons_of_mem _ wm_343)) (hts _ (List.mem_cons_of_mem _ wm_18)) hsa (he.atoms hts at_ISE) hS (hl.1.trans hml.symm) dNs_leave_23 dNs_leave_26 dNs_leave_27 dNs_leave_29 dNs_leave_32 hempty (Nat.le_of_ble_eq_true rfl) (Nat.le_of_ble_eq_true rfl) (Nat.le_of_ble_eq_true rfl) (Nat.le_of_ble_eq_true rfl) hlocks (Nat.le_of_ble_eq_true rfl) (Nat.le_of_ble_eq_true rfl)
      · have hwp := hwp.2.1 e7
        refine W.eq (g2 := F0 m 14 ls [.ref (a 11)]) (by rw [e7]; rfl) ?_
        refine va_get (D := D) (ci := 7) (C := RTk) (T := TTk) (N := 8) hx hb hts hinTk hown hK hP 11 rfl rfl 4 (by decide) lk62 (fun _ h9 => h9) rfl dNs_leave_14 ?_
        refine lv_iload_n hx hb dNs_leave_17 rfl (lv_at hl 2 rfl) ?_
        obtain ⟨hi15, hwp⟩ := hwp
        refine va_iald hx hb hK hP 12 0 rfl rfl hi15 dNs_leave_18 ?_
        refine lv_iconst (v := 2) hx hb dNs_leave_19 (by decide) ?_
        refine lv_icmp_eq hx hb dNs_leave_20 rfl (fun h16 => ?_) (fun h16 => ?_)
        · have hwp := hwp.1 h16
          refine lv_aload_n hx hb dNs_leave_33 rfl (lv_at hl 0 rfl) ?_
          refine va_get (D := D) (ci := 1) (C := RNs) (T := TNs) (N := 5) hx hb hts hinNs hown hK hP 0 rfl rfl 1 (by decide) lk18 (fun _ h9 => h9) rfl dNs_leave_34 ?_
          refine lv_iload_n hx hb dNs_leave_37 rfl (lv_at hl 1 rfl) ?_
          obtain ⟨hi17, hwp⟩ := hwp
          refine va_aldq hx hb hK hP 3 3 rfl rfl hi17 dNs_leave_38 ?_
          rcases fx_in3 hi17 with e18 | e19 | e20
          · have hwp := hwp.1 e18
            refine W.eq (g2 := F0 m 39 ls [.ref (a 5)]) (by rw [e18]; rfl) ?_
            refine lv_iload_n hx hb dNs_leave_39 rfl (lv_at hl 2 rfl) ?_
            exact False.elim hwp
          · have hwp := hwp.2.1 e19
            refine W.eq (g2 := F0 m 39 ls [.ref (a 11)]) (by rw [e19]; rfl) ?_
            refine lv_iload_n hx hb dNs_leave_39 rfl (lv_at hl 2 rfl) ?_
            exact False.elim hwp
          · have hwp := hwp.2.2 e20
            refine W.eq (g2 := F0 m 39 ls [.ref (a 19)]) (by rw [e20]; rfl) ?_
            refine lv_iload_n hx hb dNs_leave_39 rfl (lv_at hl 2 rfl) ?_
            exact False.elim hwp
        · have hwp := hwp.2 h16
          subst hwp
          obtain ⟨sa, hsa⟩ := eX.str (own := "NodeServices") (i := 76) (text := "the node is not in") (mem_tb 471 (by decide +kernel)) (by decide +kernel) he
          exact tThrow (names := exN) hx hb htr hown (by decide +kernel) (by decide +kernel) (hts _ (List.mem_cons_of_mem _ wm_343)) (hts _ (List.mem_cons_of_mem _ wm_18)) hsa (he.atoms hts at_ISE) hS (hl.1.trans hml.symm) dNs_leave_23 dNs_leave_26 dNs_leave_27 dNs_leave_29 dNs_leave_32 hempty (Nat.le_of_ble_eq_true rfl) (Nat.le_of_ble_eq_true rfl) (Nat.le_of_ble_eq_true rfl) (Nat.le_of_ble_eq_true rfl) hlocks (Nat.le_of_ble_eq_true rfl) (Nat.le_of_ble_eq_true rfl)
      · have hwp := hwp.2.2 e8
        refine W.eq (g2 := F0 m 14 ls [.ref (a 19)]) (by rw [e8]; rfl) ?_
        refine va_get (D := D) (ci := 8) (C := RTr) (T := TTr) (N := 7) hx hb hts hinTr hown hK hP 19 rfl rfl 3 (by decide) lk62 (fun _ h9 => h9) rfl dNs_leave_14 ?_
        refine lv_iload_n hx hb dNs_leave_17 rfl (lv_at hl 2 rfl) ?_
        obtain ⟨hi21, hwp⟩ := hwp
        refine va_iald hx hb hK hP 20 0 rfl rfl hi21 dNs_leave_18 ?_
        refine lv_iconst (v := 2) hx hb dNs_leave_19 (by decide) ?_
        refine lv_icmp_eq hx hb dNs_leave_20 rfl (fun h22 => ?_) (fun h22 => ?_)
        · have hwp := hwp.1 h22
          refine lv_aload_n hx hb dNs_leave_33 rfl (lv_at hl 0 rfl) ?_
          refine va_get (D := D) (ci := 1) (C := RNs) (T := TNs) (N := 5) hx hb hts hinNs hown hK hP 0 rfl rfl 1 (by decide) lk18 (fun _ h9 => h9) rfl dNs_leave_34 ?_
          refine lv_iload_n hx hb dNs_leave_37 rfl (lv_at hl 1 rfl) ?_
          obtain ⟨hi23, hwp⟩ := hwp
          refine va_aldq hx hb hK hP 3 3 rfl rfl hi23 dNs_leave_38 ?_
          rcases fx_in3 hi23 with e24 | e25 | e26
          · have hwp := hwp.1 e24
            refine W.eq (g2 := F0 m 39 ls [.ref (a 5)]) (by rw [e24]; rfl) ?_
            refine lv_iload_n hx hb dNs_leave_39 rfl (lv_at hl 2 rfl) ?_
            exact False.elim hwp
          · have hwp := hwp.2.1 e25
            refine W.eq (g2 := F0 m 39 ls [.ref (a 11)]) (by rw [e25]; rfl) ?_
            refine lv_iload_n hx hb dNs_leave_39 rfl (lv_at hl 2 rfl) ?_
            exact False.elim hwp
          · have hwp := hwp.2.2 e26
            refine W.eq (g2 := F0 m 39 ls [.ref (a 19)]) (by rw [e26]; rfl) ?_
            refine lv_iload_n hx hb dNs_leave_39 rfl (lv_at hl 2 rfl) ?_
            exact False.elim hwp
        · have hwp := hwp.2 h22
          subst hwp
          obtain ⟨sa, hsa⟩ := eX.str (own := "NodeServices") (i := 76) (text := "the node is not in") (mem_tb 471 (by decide +kernel)) (by decide +kernel) he
          exact tThrow (names := exN) hx hb htr hown (by decide +kernel) (by decide +kernel) (hts _ (List.mem_cons_of_mem _ wm_343)) (hts _ (List.mem_cons_of_mem _ wm_18)) hsa (he.atoms hts at_ISE) hS (hl.1.trans hml.symm) dNs_leave_23 dNs_leave_26 dNs_leave_27 dNs_leave_29 dNs_leave_32 hempty (Nat.le_of_ble_eq_true rfl) (Nat.le_of_ble_eq_true rfl) (Nat.le_of_ble_eq_true rfl) (Nat.le_of_ble_eq_true rfl) hlocks (Nat.le_of_ble_eq_true rfl) (Nat.le_of_ble_eq_true rfl)
-- NodeServices: public void start(int) throws java.lang.IllegalArgumentException, java.lang.IllegalStateException, on Ns, ret
def wC_Ns_start (a : Nat → Nat) (R : CS → Prop) (σ : CS) (x1 : Int32) : Prop :=
  (∃ P1 : CS → Prop, wC_Ns_requireNode a P1 σ x1 ∧ (∀ (u2 : CS), P1 u2 → (vp_in x1 4 ∧ ((((u2.1 29 x1.toNatClampNeg) = 0) → (∃ P5 : CS → Prop, wC_El_stand a P5 u2 x1 ∧ (∀ (u6 : CS), P5 u6 → R u6))) ∧ ((¬ (u2.1 29 x1.toNatClampNeg) = 0) → False)))))
abbrev wsNs_start : List Cond := .code yNs_start cNs_start 2 none :: wg
abbrev rmC_Ns_start : Room := { frames := 5, cells := 1, slots := 4, locals := 113 }
set_option maxHeartbeats 4000000 in
set_option maxRecDepth 100000 in
theorem kC_Ns_start (l : Launch) (D : va_G) (a : Nat → Nat) (A : Nat → Prop) (t : Nat → ClassId) (σ : CS) (x1 : Int32) (R : CS → Prop) (hwp : wC_Ns_start a R σ x1) : Met l yNs_start wsNs_start rmC_Ns_start (va_Pc [.ref (a 0), .int x1] (uI D clA (cT t) A true (cw a t) σ)) (va_Qv R (uI D clA (cT t) A true (cw a t)) A) 1 4 A := by
  refine Met.ofW (cc := cNs_start) (maxL := 2) (ret := none) (by decide) rfl ?_
  intro p e s m args below meth c s₁ B hml hv
  obtain ⟨rfl, ⟨hP, hK, hD, hA⟩⟩ := hv
  have hx := B.exec
  have hb := B.bytes
  have hr := B.returns
  have hts := atoms_spec (ws := wsNs_start) B.pre
  have hown : s.vm.findClass RNs = some m.cls := findClass_of_methodNamed B.named
  have hlocks := B.notSynchronized
  have hinEl : ∀ w ∈ u_ws REl TEl 5, w ∈ wsNs_start := fun w h => List.mem_cons_of_mem _ (inEl w h)
  have hinNs : ∀ w ∈ u_ws RNs TNs 5, w ∈ wsNs_start := fun w h => List.mem_cons_of_mem _ (inNs w h)
  have lk38 := hts _ (List.mem_cons_of_mem _ wm_234)
  have lk81 := hts _ (List.mem_cons_of_mem _ wm_191)
  have hS : va_S A s.heap s.heap [] := va_S.rf
  have hl := lv_entry ([.ref (a 0), .int x1]) (n := 2) (Nat.le_of_ble_eq_true rfl)
  rw [lg_entry_eq]
  generalize (lg_sl ([.ref (a 0), .int x1]) ++ List.replicate (2 - (lg_sl ([.ref (a 0), .int x1])).length) Slot.unset).toArray = ls at hl ⊢
  have hl : lv_has ls 2 [(0, .ref (a 0)), (1, .int x1)] := hl
  refine lv_iload_n hx hb dNs_start_0 rfl (lv_at hl 1 rfl) ?_
  obtain ⟨P1, hP1, hwp⟩ := hwp
  refine uCallSv (As := [.int x1]) (rest := []) ⟨hx, hb, hml, hown, hts⟩ (kC_Ns_requireNode l D a A t   σ x1 P1 hP1) (cwS 1 hts (gdS wm_339 wm_340 wm_1 wm_341) rfl rfl rfl (by decide +kernel) ⟨Nat.le_of_ble_eq_true rfl, Nat.le_of_ble_eq_true rfl⟩) hP hK hD hA hS rfl hl.1 rfl (Nat.le_of_ble_eq_true rfl) dNs_start_1 ⟨Nat.le_of_ble_eq_true rfl, Nat.le_of_ble_eq_true rfl⟩ (fun u2 H locs hu2 hP hD hS => ?_)
  have hwp := hwp u2 hu2
  refine lv_aload_n hx hb dNs_start_4 rfl (lv_at hl 0 rfl) ?_
  refine va_get (D := D) (ci := 1) (C := RNs) (T := TNs) (N := 5) hx hb hts hinNs hown hK hP 0 rfl rfl 2 (by decide) lk38 (fun _ h9 => h9) rfl dNs_start_5 ?_
  refine va_get (D := D) (ci := 9) (C := REl) (T := TEl) (N := 5) hx hb hts hinEl hown hK hP 24 rfl rfl 0 (by decide) lk81 (fun _ h9 => h9) rfl dNs_start_8 ?_
  refine lv_iload_n hx hb dNs_start_11 rfl (lv_at hl 1 rfl) ?_
  obtain ⟨hi3, hwp⟩ := hwp
  refine va_zald hx hb hK hP 35 1 rfl rfl hi3 dNs_start_12 ?_
  refine lv_if_eq hx hb dNs_start_13 rfl (fun h4 => ?_) (fun h4 => ?_)
  · have hwp := hwp.1 h4
    refine lv_aload_n hx hb dNs_start_26 rfl (lv_at hl 0 rfl) ?_
    refine va_get (D := D) (ci := 1) (C := RNs) (T := TNs) (N := 5) hx hb hts hinNs hown hK hP 0 rfl rfl 2 (by decide) lk38 (fun _ h9 => h9) rfl dNs_start_27 ?_
    refine lv_iload_n hx hb dNs_start_30 rfl (lv_at hl 1 rfl) ?_
    obtain ⟨P5, hP5, hwp⟩ := hwp
    refine uCallVv (As := [.int x1]) (rest := []) (C := REl) ⟨hx, hb, hml, hown, hts⟩ (kC_El_stand l D a A t   u2 x1 P5 hP5) (cwV 1 hts (gdV wm_513 wm_514 wm_515 wm_10 wm_516) rfl rfl rfl (by decide +kernel) ⟨Nat.le_of_ble_eq_true rfl, Nat.le_of_ble_eq_true rfl⟩) (va_recv (ci := 9) (q0 := 24) hK hP rfl rfl) hP hK hD hA hS rfl hl.1 rfl (Nat.le_of_ble_eq_true rfl) dNs_start_31 ⟨Nat.le_of_ble_eq_true rfl, Nat.le_of_ble_eq_true rfl⟩ (fun u6 H locs hu6 hP hD hS => ?_)
    have hwp := hwp u6 hu6
    exact W.vret hx hb hr (fun t ht hW => ⟨⟨u6, rfl, hwp, uEnd ht hW hP hK hD hS hA⟩, hS.F ht⟩) hS.2.2 dNs_start_34
  · have hwp := hwp.2 h4
    exact False.elim hwp
-- NodeServices: public void start(int) throws java.lang.IllegalArgumentException, java.lang.IllegalStateException, on Ns, thr
def wT_Ns_start (a : Nat → Nat) (E : String) (σ : CS) (x1 : Int32) : Prop :=
  ((wT_Ns_requireNode a E σ x1) ∨ (∃ P1 : CS → Prop, wP_Ns_requireNode a P1 σ x1 ∧ (∀ (u2 : CS), P1 u2 → (vp_in x1 4 ∧ ((((u2.1 29 x1.toNatClampNeg) = 0) → False) ∧ ((¬ (u2.1 29 x1.toNatClampNeg) = 0) → (E = "java/lang/IllegalStateException")))))))
abbrev rmT_Ns_start : Room := { frames := 7, cells := 1, slots := 6, locals := 102 }
set_option maxHeartbeats 4000000 in
set_option maxRecDepth 100000 in
theorem tC_Ns_start (l : Launch) (htr : l.stackTraces = false) (D : va_G) (a : Nat → Nat) (t : Nat → ClassId) (σ : CS) (x1 : Int32) (E : String) (hwp : wT_Ns_start a E σ x1) : tMet l yNs_start wsNs_start rmT_Ns_start (va_Pc [.ref (a 0), .int x1] (pE D t a σ)) E 1 6 := by
  refine tMet.ofW (cc := cNs_start) (maxL := 2) (ret := none) (by decide) rfl ?_
  intro p e s m args below meth c s₁ B hml hv hempty
  obtain ⟨rfl, ⟨hP, hK⟩, he⟩ := hv
  have hx := B.exec
  have hb := B.bytes
  have hr := B.returns
  have hts := atoms_spec (ws := wsNs_start) B.pre
  have hown : s.vm.findClass RNs = some m.cls := findClass_of_methodNamed B.named
  have hlocks := B.notSynchronized
  have hinEl : ∀ w ∈ u_ws REl TEl 5, w ∈ wsNs_start := fun w h => List.mem_cons_of_mem _ (inEl w h)
  have hinNs : ∀ w ∈ u_ws RNs TNs 5, w ∈ wsNs_start := fun w h => List.mem_cons_of_mem _ (inNs w h)
  have lk38 := hts _ (List.mem_cons_of_mem _ wm_234)
  have lk81 := hts _ (List.mem_cons_of_mem _ wm_191)
  have hS : va_S (fun _ => False) s.heap s.heap [] := va_S.rf
  have hl := lv_entry ([.ref (a 0), .int x1]) (n := 2) (Nat.le_of_ble_eq_true rfl)
  rw [lg_entry_eq]
  generalize (lg_sl ([.ref (a 0), .int x1]) ++ List.replicate (2 - (lg_sl ([.ref (a 0), .int x1])).length) Slot.unset).toArray = ls at hl ⊢
  have hl : lv_has ls 2 [(0, .ref (a 0)), (1, .int x1)] := hl
  refine lv_iload_n hx hb dNs_start_0 rfl (lv_at hl 1 rfl) ?_
  rcases hwp with hwp | hwp
  · exact tCallS (As := [.int x1]) (rest := []) ⟨hx, hb, hml, hown, hts⟩ (tC_Ns_requireNode l htr D a t σ x1 E hwp) (cwS 1 hts (gdS wm_339 wm_340 wm_1 wm_341) rfl rfl rfl (by decide +kernel) ⟨Nat.le_of_ble_eq_true rfl, Nat.le_of_ble_eq_true rfl⟩) ⟨pE_blind, pPre hP hK he hS⟩ hS rfl hl.1 rfl (Nat.le_of_ble_eq_true rfl) dNs_start_1 ⟨Nat.le_of_ble_eq_true rfl, Nat.le_of_ble_eq_true rfl⟩ (fun q ce H1 hS1 hce hv hcl hz hk => tOut hempty hlocks hce hv hcl (Nat.le_of_ble_eq_true rfl) (Nat.le_of_ble_eq_true rfl))
  · obtain ⟨P1, hP1, hwp⟩ := hwp
    refine pCallSv (As := [.int x1]) (rest := []) ⟨hx, hb, hml, hown, hts⟩ (pC_Ns_requireNode l D a t   σ x1 P1 hP1) (cwS 1 hts (gdS wm_339 wm_340 wm_1 wm_341) rfl rfl rfl (by decide +kernel) ⟨Nat.le_of_ble_eq_true rfl, Nat.le_of_ble_eq_true rfl⟩) hP hK hS rfl hl.1 rfl (Nat.le_of_ble_eq_true rfl) dNs_start_1 ⟨Nat.le_of_ble_eq_true rfl, Nat.le_of_ble_eq_true rfl⟩ (fun u2 H locs hu2 hP hS => ?_)
    have hwp := hwp u2 hu2
    refine lv_aload_n hx hb dNs_start_4 rfl (lv_at hl 0 rfl) ?_
    refine va_get (D := D) (ci := 1) (C := RNs) (T := TNs) (N := 5) hx hb hts hinNs hown hK hP 0 rfl rfl 2 (by decide) lk38 (fun _ h9 => h9) rfl dNs_start_5 ?_
    refine va_get (D := D) (ci := 9) (C := REl) (T := TEl) (N := 5) hx hb hts hinEl hown hK hP 24 rfl rfl 0 (by decide) lk81 (fun _ h9 => h9) rfl dNs_start_8 ?_
    refine lv_iload_n hx hb dNs_start_11 rfl (lv_at hl 1 rfl) ?_
    obtain ⟨hi3, hwp⟩ := hwp
    refine va_zald hx hb hK hP 35 1 rfl rfl hi3 dNs_start_12 ?_
    refine lv_if_eq hx hb dNs_start_13 rfl (fun h4 => ?_) (fun h4 => ?_)
    · have hwp := hwp.1 h4
      refine lv_aload_n hx hb dNs_start_26 rfl (lv_at hl 0 rfl) ?_
      refine va_get (D := D) (ci := 1) (C := RNs) (T := TNs) (N := 5) hx hb hts hinNs hown hK hP 0 rfl rfl 2 (by decide) lk38 (fun _ h9 => h9) rfl dNs_start_27 ?_
      refine lv_iload_n hx hb dNs_start_30 rfl (lv_at hl 1 rfl) ?_
      exact False.elim hwp
    · have hwp := hwp.2 h4
      subst hwp
      obtain ⟨sa, hsa⟩ := eX.str (own := "NodeServices") (i := 85) (text := "the node takes part in an election") (mem_tb 512 (by decide +kernel)) (by decide +kernel) he
      exact tThrow (names := exN) hx hb htr hown (by decide +kernel) (by decide +kernel) (hts _ (List.mem_cons_of_mem _ wm_343)) (hts _ (List.mem_cons_of_mem _ wm_18)) hsa (he.atoms hts at_ISE) hS (hl.1.trans hml.symm) dNs_start_16 dNs_start_19 dNs_start_20 dNs_start_22 dNs_start_25 hempty (Nat.le_of_ble_eq_true rfl) (Nat.le_of_ble_eq_true rfl) (Nat.le_of_ble_eq_true rfl) (Nat.le_of_ble_eq_true rfl) hlocks (Nat.le_of_ble_eq_true rfl) (Nat.le_of_ble_eq_true rfl)
-- NodeServices: public void begin(int) throws java.lang.IllegalArgumentException, java.lang.IllegalStateException, on Ns, ret
def wC_Ns_begin (a : Nat → Nat) (R : CS → Prop) (σ : CS) (x1 : Int32) : Prop :=
  (∃ P1 : CS → Prop, wC_Ns_requireNode a P1 σ x1 ∧ (∀ (u2 : CS), P1 u2 → (∃ P3 : Int32 → CS → Prop, wC_Wk_isOver a P3 u2 ∧ (∀ (r5 : Int32) (u4 : CS), P3 r5 u4 → (((¬ r5 = 0) → (∃ P7 : CS → Prop, wC_Wk_plant a P7 u4 x1 ∧ (∀ (u8 : CS), P7 u8 → R u8))) ∧ ((r5 = 0) → False))))))
abbrev wsNs_begin : List Cond := .code yNs_begin cNs_begin 2 none :: wg
abbrev rmC_Ns_begin : Room := { frames := 2, cells := 0, slots := 0, locals := 42 }
set_option maxHeartbeats 4000000 in
set_option maxRecDepth 100000 in
theorem kC_Ns_begin (l : Launch) (D : va_G) (a : Nat → Nat) (A : Nat → Prop) (t : Nat → ClassId) (σ : CS) (x1 : Int32) (R : CS → Prop) (hwp : wC_Ns_begin a R σ x1) : Met l yNs_begin wsNs_begin rmC_Ns_begin (va_Pc [.ref (a 0), .int x1] (uI D clA (cT t) A true (cw a t) σ)) (va_Qv R (uI D clA (cT t) A true (cw a t)) A) 0 0 A := by
  refine Met.ofW (cc := cNs_begin) (maxL := 2) (ret := none) (by decide) rfl ?_
  intro p e s m args below meth c s₁ B hml hv
  obtain ⟨rfl, ⟨hP, hK, hD, hA⟩⟩ := hv
  have hx := B.exec
  have hb := B.bytes
  have hr := B.returns
  have hts := atoms_spec (ws := wsNs_begin) B.pre
  have hown : s.vm.findClass RNs = some m.cls := findClass_of_methodNamed B.named
  have hlocks := B.notSynchronized
  have hinNs : ∀ w ∈ u_ws RNs TNs 5, w ∈ wsNs_begin := fun w h => List.mem_cons_of_mem _ (inNs w h)
  have lk45 := hts _ (List.mem_cons_of_mem _ wm_235)
  have hS : va_S A s.heap s.heap [] := va_S.rf
  have hl := lv_entry ([.ref (a 0), .int x1]) (n := 2) (Nat.le_of_ble_eq_true rfl)
  rw [lg_entry_eq]
  generalize (lg_sl ([.ref (a 0), .int x1]) ++ List.replicate (2 - (lg_sl ([.ref (a 0), .int x1])).length) Slot.unset).toArray = ls at hl ⊢
  have hl : lv_has ls 2 [(0, .ref (a 0)), (1, .int x1)] := hl
  refine lv_iload_n hx hb dNs_begin_0 rfl (lv_at hl 1 rfl) ?_
  obtain ⟨P1, hP1, hwp⟩ := hwp
  refine uCallSv (As := [.int x1]) (rest := []) ⟨hx, hb, hml, hown, hts⟩ (kC_Ns_requireNode l D a A t   σ x1 P1 hP1) (cwS 1 hts (gdS wm_339 wm_340 wm_1 wm_341) rfl rfl rfl (by decide +kernel) ⟨Nat.le_of_ble_eq_true rfl, Nat.le_of_ble_eq_true rfl⟩) hP hK hD hA hS rfl hl.1 rfl (Nat.le_of_ble_eq_true rfl) dNs_begin_1 ⟨Nat.le_of_ble_eq_true rfl, Nat.le_of_ble_eq_true rfl⟩ (fun u2 H locs hu2 hP hD hS => ?_)
  have hwp := hwp u2 hu2
  refine lv_aload_n hx hb dNs_begin_4 rfl (lv_at hl 0 rfl) ?_
  refine va_get (D := D) (ci := 1) (C := RNs) (T := TNs) (N := 5) hx hb hts hinNs hown hK hP 0 rfl rfl 3 (by decide) lk45 (fun _ h9 => h9) rfl dNs_begin_5 ?_
  obtain ⟨P3, hP3, hwp⟩ := hwp
  refine uCallVi (As := []) (rest := []) (C := RWk) ⟨hx, hb, hml, hown, hts⟩ (kC_Wk_isOver l D a A t   u2  P3 hP3) (cwV 0 hts (gdV wm_531 wm_532 wm_533 wm_12 wm_534) rfl rfl rfl (by decide +kernel) ⟨Nat.le_of_ble_eq_true rfl, Nat.le_of_ble_eq_true rfl⟩) (va_recv (ci := 10) (q0 := 38) hK hP rfl rfl) hP hK hD hA hS rfl hl.1 rfl (Nat.le_of_ble_eq_true rfl) dNs_begin_8 ⟨Nat.le_of_ble_eq_true rfl, Nat.le_of_ble_eq_true rfl⟩ (fun r5 u4 H locs hu4 hP hD hS => ?_)
  have hwp := hwp r5 u4 hu4
  refine lv_if_ne hx hb dNs_begin_11 rfl (fun h6 => ?_) (fun h6 => ?_)
  · have hwp := hwp.1 h6
    refine lv_aload_n hx hb dNs_begin_24 rfl (lv_at hl 0 rfl) ?_
    refine va_get (D := D) (ci := 1) (C := RNs) (T := TNs) (N := 5) hx hb hts hinNs hown hK hP 0 rfl rfl 3 (by decide) lk45 (fun _ h9 => h9) rfl dNs_begin_25 ?_
    refine lv_iload_n hx hb dNs_begin_28 rfl (lv_at hl 1 rfl) ?_
    obtain ⟨P7, hP7, hwp⟩ := hwp
    refine uCallVv (As := [.int x1]) (rest := []) (C := RWk) ⟨hx, hb, hml, hown, hts⟩ (kC_Wk_plant l D a A t   u4 x1 P7 hP7) (cwV 1 hts (gdV wm_540 wm_541 wm_542 wm_12 wm_543) rfl rfl rfl (by decide +kernel) ⟨Nat.le_of_ble_eq_true rfl, Nat.le_of_ble_eq_true rfl⟩) (va_recv (ci := 10) (q0 := 38) hK hP rfl rfl) hP hK hD hA hS rfl hl.1 rfl (Nat.le_of_ble_eq_true rfl) dNs_begin_29 ⟨Nat.le_of_ble_eq_true rfl, Nat.le_of_ble_eq_true rfl⟩ (fun u8 H locs hu8 hP hD hS => ?_)
    have hwp := hwp u8 hu8
    exact W.vret hx hb hr (fun t ht hW => ⟨⟨u8, rfl, hwp, uEnd ht hW hP hK hD hS hA⟩, hS.F ht⟩) hS.2.2 dNs_begin_32
  · have hwp := hwp.2 h6
    exact False.elim hwp
-- NodeServices: public void begin(int) throws java.lang.IllegalArgumentException, java.lang.IllegalStateException, on Ns, thr
def wT_Ns_begin (a : Nat → Nat) (E : String) (σ : CS) (x1 : Int32) : Prop :=
  ((wT_Ns_requireNode a E σ x1) ∨ (∃ P1 : CS → Prop, wP_Ns_requireNode a P1 σ x1 ∧ (∀ (u2 : CS), P1 u2 → (∃ P3 : Int32 → CS → Prop, wP_Wk_isOver a P3 u2 ∧ (∀ (r5 : Int32) (u4 : CS), P3 r5 u4 → (((¬ r5 = 0) → False) ∧ ((r5 = 0) → (E = "java/lang/IllegalStateException"))))))))
abbrev rmT_Ns_begin : Room := { frames := 7, cells := 1, slots := 6, locals := 102 }
set_option maxHeartbeats 4000000 in
set_option maxRecDepth 100000 in
theorem tC_Ns_begin (l : Launch) (htr : l.stackTraces = false) (D : va_G) (a : Nat → Nat) (t : Nat → ClassId) (σ : CS) (x1 : Int32) (E : String) (hwp : wT_Ns_begin a E σ x1) : tMet l yNs_begin wsNs_begin rmT_Ns_begin (va_Pc [.ref (a 0), .int x1] (pE D t a σ)) E 1 6 := by
  refine tMet.ofW (cc := cNs_begin) (maxL := 2) (ret := none) (by decide) rfl ?_
  intro p e s m args below meth c s₁ B hml hv hempty
  obtain ⟨rfl, ⟨hP, hK⟩, he⟩ := hv
  have hx := B.exec
  have hb := B.bytes
  have hr := B.returns
  have hts := atoms_spec (ws := wsNs_begin) B.pre
  have hown : s.vm.findClass RNs = some m.cls := findClass_of_methodNamed B.named
  have hlocks := B.notSynchronized
  have hinNs : ∀ w ∈ u_ws RNs TNs 5, w ∈ wsNs_begin := fun w h => List.mem_cons_of_mem _ (inNs w h)
  have lk45 := hts _ (List.mem_cons_of_mem _ wm_235)
  have hS : va_S (fun _ => False) s.heap s.heap [] := va_S.rf
  have hl := lv_entry ([.ref (a 0), .int x1]) (n := 2) (Nat.le_of_ble_eq_true rfl)
  rw [lg_entry_eq]
  generalize (lg_sl ([.ref (a 0), .int x1]) ++ List.replicate (2 - (lg_sl ([.ref (a 0), .int x1])).length) Slot.unset).toArray = ls at hl ⊢
  have hl : lv_has ls 2 [(0, .ref (a 0)), (1, .int x1)] := hl
  refine lv_iload_n hx hb dNs_begin_0 rfl (lv_at hl 1 rfl) ?_
  rcases hwp with hwp | hwp
  · exact tCallS (As := [.int x1]) (rest := []) ⟨hx, hb, hml, hown, hts⟩ (tC_Ns_requireNode l htr D a t σ x1 E hwp) (cwS 1 hts (gdS wm_339 wm_340 wm_1 wm_341) rfl rfl rfl (by decide +kernel) ⟨Nat.le_of_ble_eq_true rfl, Nat.le_of_ble_eq_true rfl⟩) ⟨pE_blind, pPre hP hK he hS⟩ hS rfl hl.1 rfl (Nat.le_of_ble_eq_true rfl) dNs_begin_1 ⟨Nat.le_of_ble_eq_true rfl, Nat.le_of_ble_eq_true rfl⟩ (fun q ce H1 hS1 hce hv hcl hz hk => tOut hempty hlocks hce hv hcl (Nat.le_of_ble_eq_true rfl) (Nat.le_of_ble_eq_true rfl))
  · obtain ⟨P1, hP1, hwp⟩ := hwp
    refine pCallSv (As := [.int x1]) (rest := []) ⟨hx, hb, hml, hown, hts⟩ (pC_Ns_requireNode l D a t   σ x1 P1 hP1) (cwS 1 hts (gdS wm_339 wm_340 wm_1 wm_341) rfl rfl rfl (by decide +kernel) ⟨Nat.le_of_ble_eq_true rfl, Nat.le_of_ble_eq_true rfl⟩) hP hK hS rfl hl.1 rfl (Nat.le_of_ble_eq_true rfl) dNs_begin_1 ⟨Nat.le_of_ble_eq_true rfl, Nat.le_of_ble_eq_true rfl⟩ (fun u2 H locs hu2 hP hS => ?_)
    have hwp := hwp u2 hu2
    refine lv_aload_n hx hb dNs_begin_4 rfl (lv_at hl 0 rfl) ?_
    refine va_get (D := D) (ci := 1) (C := RNs) (T := TNs) (N := 5) hx hb hts hinNs hown hK hP 0 rfl rfl 3 (by decide) lk45 (fun _ h9 => h9) rfl dNs_begin_5 ?_
    obtain ⟨P3, hP3, hwp⟩ := hwp
    refine pCallVi (As := []) (rest := []) (C := RWk) ⟨hx, hb, hml, hown, hts⟩ (pC_Wk_isOver l D a t   u2  P3 hP3) (cwV 0 hts (gdV wm_531 wm_532 wm_533 wm_12 wm_534) rfl rfl rfl (by decide +kernel) ⟨Nat.le_of_ble_eq_true rfl, Nat.le_of_ble_eq_true rfl⟩) (va_recv (ci := 10) (q0 := 38) hK hP rfl rfl) hP hK hS rfl hl.1 rfl (Nat.le_of_ble_eq_true rfl) dNs_begin_8 ⟨Nat.le_of_ble_eq_true rfl, Nat.le_of_ble_eq_true rfl⟩ (fun r5 u4 H locs hu4 hP hS => ?_)
    have hwp := hwp r5 u4 hu4
    refine lv_if_ne hx hb dNs_begin_11 rfl (fun h6 => ?_) (fun h6 => ?_)
    · have hwp := hwp.1 h6
      refine lv_aload_n hx hb dNs_begin_24 rfl (lv_at hl 0 rfl) ?_
      refine va_get (D := D) (ci := 1) (C := RNs) (T := TNs) (N := 5) hx hb hts hinNs hown hK hP 0 rfl rfl 3 (by decide) lk45 (fun _ h9 => h9) rfl dNs_begin_25 ?_
      refine lv_iload_n hx hb dNs_begin_28 rfl (lv_at hl 1 rfl) ?_
      exact False.elim hwp
    · have hwp := hwp.2 h6
      subst hwp
      obtain ⟨sa, hsa⟩ := eX.str (own := "NodeServices") (i := 94) (text := "there is work still") (mem_tb 539 (by decide +kernel)) (by decide +kernel) he
      exact tThrow (names := exN) hx hb htr hown (by decide +kernel) (by decide +kernel) (hts _ (List.mem_cons_of_mem _ wm_343)) (hts _ (List.mem_cons_of_mem _ wm_18)) hsa (he.atoms hts at_ISE) hS (hl.1.trans hml.symm) dNs_begin_14 dNs_begin_17 dNs_begin_18 dNs_begin_20 dNs_begin_23 hempty (Nat.le_of_ble_eq_true rfl) (Nat.le_of_ble_eq_true rfl) (Nat.le_of_ble_eq_true rfl) (Nat.le_of_ble_eq_true rfl) hlocks (Nat.le_of_ble_eq_true rfl) (Nat.le_of_ble_eq_true rfl)
-- NodeServices: public void spread(int, int) throws java.lang.IllegalArgumentException, java.lang.IllegalStateException, on Ns, ret
def wC_Ns_spread_28 (a : Nat → Nat) (R : CS → Prop) (σ : CS) (y1 : Int32) (y2 : Int32) : Prop :=
  False
def wC_Ns_spread (a : Nat → Nat) (R : CS → Prop) (σ : CS) (x1 x2 : Int32) : Prop :=
  (∃ P1 : CS → Prop, wC_Ns_requireChannel a P1 σ x1 x2 ∧ (∀ (u2 : CS), P1 u2 → (vp_in x1 4 ∧ ((((u2.1 32 x1.toNatClampNeg) = 0) → wC_Ns_spread_28 a R u2 x1 x2) ∧ ((¬ (u2.1 32 x1.toNatClampNeg) = 0) → (∃ P5 : Int32 → CS → Prop, wC_Wk_hasMostUnanswered a P5 u2 x1 ∧ (∀ (r7 : Int32) (u6 : CS), P5 r7 u6 → (((r7 = 0) → (∃ P9 : CS → Prop, wC_Wk_share a P9 u6 x1 x2 ∧ (∀ (u10 : CS), P9 u10 → R u10))) ∧ ((¬ r7 = 0) → wC_Ns_spread_28 a R u6 x1 x2)))))))))
abbrev wsNs_spread : List Cond := .code yNs_spread cNs_spread 3 none :: wg
abbrev rmC_Ns_spread : Room := { frames := 4, cells := 1, slots := 4, locals := 91 }
set_option maxHeartbeats 4000000 in
set_option maxRecDepth 100000 in
theorem kC_Ns_spread (l : Launch) (D : va_G) (a : Nat → Nat) (A : Nat → Prop) (t : Nat → ClassId) (σ : CS) (x1 x2 : Int32) (R : CS → Prop) (hwp : wC_Ns_spread a R σ x1 x2) : Met l yNs_spread wsNs_spread rmC_Ns_spread (va_Pc [.ref (a 0), .int x1, .int x2] (uI D clA (cT t) A true (cw a t) σ)) (va_Qv R (uI D clA (cT t) A true (cw a t)) A) 1 4 A := by
  refine Met.ofW (cc := cNs_spread) (maxL := 3) (ret := none) (by decide) rfl ?_
  intro p e s m args below meth c s₁ B hml hv
  obtain ⟨rfl, ⟨hP, hK, hD, hA⟩⟩ := hv
  have hx := B.exec
  have hb := B.bytes
  have hr := B.returns
  have hts := atoms_spec (ws := wsNs_spread) B.pre
  have hown : s.vm.findClass RNs = some m.cls := findClass_of_methodNamed B.named
  have hlocks := B.notSynchronized
  have hinNs : ∀ w ∈ u_ws RNs TNs 5, w ∈ wsNs_spread := fun w h => List.mem_cons_of_mem _ (inNs w h)
  have hinWk : ∀ w ∈ u_ws RWk TWk 7, w ∈ wsNs_spread := fun w h => List.mem_cons_of_mem _ (inWk w h)
  have lk103 := hts _ (List.mem_cons_of_mem _ wm_210)
  have lk45 := hts _ (List.mem_cons_of_mem _ wm_235)
  have hS : va_S A s.heap s.heap [] := va_S.rf
  have cut28 : ∀ (σ : CS) (y1 : Int32) (y2 : Int32) (H : Heap) (locs : List Loc) (ls : Array Slot), wC_Ns_spread_28 a R σ y1 y2 → va_P D clA (cw a t σ) H → va_D A (cw a t σ) → va_S A s.heap H locs → lv_has ls 3 [(0, .ref (a 0)), (1, .int y1), (2, .int y2)] → W p l e (headSpec wsNs_spread rmC_Ns_spread).room s m ([.ref (a 0), .int x1, .int x2] : List Value).toArray below meth c H locs 0 0 (MQ below (va_Qv R (uI D clA (cT t) A true (cw a t)) A) ([.ref (a 0), .int x1, .int x2] : List Value).toArray s 1 4 A) (F0 m 28 ls []) := by
    intro σ y1 y2 H locs ls hwp hP hD hS hl
    exact False.elim hwp
  have hl := lv_entry ([.ref (a 0), .int x1, .int x2]) (n := 3) (Nat.le_of_ble_eq_true rfl)
  rw [lg_entry_eq]
  generalize (lg_sl ([.ref (a 0), .int x1, .int x2]) ++ List.replicate (3 - (lg_sl ([.ref (a 0), .int x1, .int x2])).length) Slot.unset).toArray = ls at hl ⊢
  have hl : lv_has ls 3 [(0, .ref (a 0)), (1, .int x1), (2, .int x2)] := hl
  refine lv_iload_n hx hb dNs_spread_0 rfl (lv_at hl 1 rfl) ?_
  refine lv_iload_n hx hb dNs_spread_1 rfl (lv_at hl 2 rfl) ?_
  obtain ⟨P1, hP1, hwp⟩ := hwp
  refine uCallSv (As := [.int x1, .int x2]) (rest := []) ⟨hx, hb, hml, hown, hts⟩ (kC_Ns_requireChannel l D a A t   σ x1 x2 P1 hP1) (cwS 2 hts (gdS wm_551 wm_552 wm_1 wm_553) rfl rfl rfl (by decide +kernel) ⟨Nat.le_of_ble_eq_true rfl, Nat.le_of_ble_eq_true rfl⟩) hP hK hD hA hS rfl hl.1 rfl (Nat.le_of_ble_eq_true rfl) dNs_spread_2 ⟨Nat.le_of_ble_eq_true rfl, Nat.le_of_ble_eq_true rfl⟩ (fun u2 H locs hu2 hP hD hS => ?_)
  have hwp := hwp u2 hu2
  refine lv_aload_n hx hb dNs_spread_5 rfl (lv_at hl 0 rfl) ?_
  refine va_get (D := D) (ci := 1) (C := RNs) (T := TNs) (N := 5) hx hb hts hinNs hown hK hP 0 rfl rfl 3 (by decide) lk45 (fun _ h9 => h9) rfl dNs_spread_6 ?_
  refine va_get (D := D) (ci := 10) (C := RWk) (T := TWk) (N := 7) hx hb hts hinWk hown hK hP 38 rfl rfl 0 (by decide) lk103 (fun _ h9 => h9) rfl dNs_spread_9 ?_
  refine lv_iload_n hx hb dNs_spread_12 rfl (lv_at hl 1 rfl) ?_
  obtain ⟨hi3, hwp⟩ := hwp
  refine va_zald hx hb hK hP 39 1 rfl rfl hi3 dNs_spread_13 ?_
  refine lv_if_eq hx hb dNs_spread_14 rfl (fun h4 => ?_) (fun h4 => ?_)
  · have hwp := hwp.1 h4
    exact cut28 u2 x1 x2 _ _ _ hwp hP hD hS (lv_sub hl [0, 1, 2] rfl)
  · have hwp := hwp.2 h4
    refine lv_aload_n hx hb dNs_spread_17 rfl (lv_at hl 0 rfl) ?_
    refine va_get (D := D) (ci := 1) (C := RNs) (T := TNs) (N := 5) hx hb hts hinNs hown hK hP 0 rfl rfl 3 (by decide) lk45 (fun _ h9 => h9) rfl dNs_spread_18 ?_
    refine lv_iload_n hx hb dNs_spread_21 rfl (lv_at hl 1 rfl) ?_
    obtain ⟨P5, hP5, hwp⟩ := hwp
    refine uCallVi (As := [.int x1]) (rest := []) (C := RWk) ⟨hx, hb, hml, hown, hts⟩ (kC_Wk_hasMostUnanswered l D a A t   u2 x1 P5 hP5) (cwV 1 hts (gdV wm_555 wm_556 wm_557 wm_12 wm_558) rfl rfl rfl (by decide +kernel) ⟨Nat.le_of_ble_eq_true rfl, Nat.le_of_ble_eq_true rfl⟩) (va_recv (ci := 10) (q0 := 38) hK hP rfl rfl) hP hK hD hA hS rfl hl.1 rfl (Nat.le_of_ble_eq_true rfl) dNs_spread_22 ⟨Nat.le_of_ble_eq_true rfl, Nat.le_of_ble_eq_true rfl⟩ (fun r7 u6 H locs hu6 hP hD hS => ?_)
    have hwp := hwp r7 u6 hu6
    refine lv_if_eq hx hb dNs_spread_25 rfl (fun h8 => ?_) (fun h8 => ?_)
    · have hwp := hwp.1 h8
      refine lv_aload_n hx hb dNs_spread_38 rfl (lv_at hl 0 rfl) ?_
      refine va_get (D := D) (ci := 1) (C := RNs) (T := TNs) (N := 5) hx hb hts hinNs hown hK hP 0 rfl rfl 3 (by decide) lk45 (fun _ h9 => h9) rfl dNs_spread_39 ?_
      refine lv_iload_n hx hb dNs_spread_42 rfl (lv_at hl 1 rfl) ?_
      refine lv_iload_n hx hb dNs_spread_43 rfl (lv_at hl 2 rfl) ?_
      obtain ⟨P9, hP9, hwp⟩ := hwp
      refine uCallVv (As := [.int x1, .int x2]) (rest := []) (C := RWk) ⟨hx, hb, hml, hown, hts⟩ (kC_Wk_share l D a A t   u6 x1 x2 P9 hP9) (cwV 2 hts (gdV wm_560 wm_561 wm_562 wm_12 wm_563) rfl rfl rfl (by decide +kernel) ⟨Nat.le_of_ble_eq_true rfl, Nat.le_of_ble_eq_true rfl⟩) (va_recv (ci := 10) (q0 := 38) hK hP rfl rfl) hP hK hD hA hS rfl hl.1 rfl (Nat.le_of_ble_eq_true rfl) dNs_spread_44 ⟨Nat.le_of_ble_eq_true rfl, Nat.le_of_ble_eq_true rfl⟩ (fun u10 H locs hu10 hP hD hS => ?_)
      have hwp := hwp u10 hu10
      exact W.vret hx hb hr (fun t ht hW => ⟨⟨u10, rfl, hwp, uEnd ht hW hP hK hD hS hA⟩, hS.F ht⟩) hS.2.2 dNs_spread_47
    · have hwp := hwp.2 h8
      exact cut28 u6 x1 x2 _ _ _ hwp hP hD hS (lv_sub hl [0, 1, 2] rfl)
-- NodeServices: public void spread(int, int) throws java.lang.IllegalArgumentException, java.lang.IllegalStateException, on Ns, thr
def wT_Ns_spread_28 (a : Nat → Nat) (E : String) (σ : CS) (y1 : Int32) (y2 : Int32) : Prop :=
  (E = "java/lang/IllegalStateException")
def wT_Ns_spread (a : Nat → Nat) (E : String) (σ : CS) (x1 x2 : Int32) : Prop :=
  ((wT_Ns_requireChannel a E σ x1 x2) ∨ (∃ P1 : CS → Prop, wP_Ns_requireChannel a P1 σ x1 x2 ∧ (∀ (u2 : CS), P1 u2 → (vp_in x1 4 ∧ ((((u2.1 32 x1.toNatClampNeg) = 0) → wT_Ns_spread_28 a E u2 x1 x2) ∧ ((¬ (u2.1 32 x1.toNatClampNeg) = 0) → (∃ P5 : Int32 → CS → Prop, wP_Wk_hasMostUnanswered a P5 u2 x1 ∧ (∀ (r7 : Int32) (u6 : CS), P5 r7 u6 → (((r7 = 0) → False) ∧ ((¬ r7 = 0) → wT_Ns_spread_28 a E u6 x1 x2))))))))))
abbrev rmT_Ns_spread : Room := { frames := 8, cells := 1, slots := 6, locals := 123 }
set_option maxHeartbeats 4000000 in
set_option maxRecDepth 100000 in
theorem tC_Ns_spread (l : Launch) (htr : l.stackTraces = false) (D : va_G) (a : Nat → Nat) (t : Nat → ClassId) (σ : CS) (x1 x2 : Int32) (E : String) (hwp : wT_Ns_spread a E σ x1 x2) : tMet l yNs_spread wsNs_spread rmT_Ns_spread (va_Pc [.ref (a 0), .int x1, .int x2] (pE D t a σ)) E 1 6 := by
  refine tMet.ofW (cc := cNs_spread) (maxL := 3) (ret := none) (by decide) rfl ?_
  intro p e s m args below meth c s₁ B hml hv hempty
  obtain ⟨rfl, ⟨hP, hK⟩, he⟩ := hv
  have hx := B.exec
  have hb := B.bytes
  have hr := B.returns
  have hts := atoms_spec (ws := wsNs_spread) B.pre
  have hown : s.vm.findClass RNs = some m.cls := findClass_of_methodNamed B.named
  have hlocks := B.notSynchronized
  have hinNs : ∀ w ∈ u_ws RNs TNs 5, w ∈ wsNs_spread := fun w h => List.mem_cons_of_mem _ (inNs w h)
  have hinWk : ∀ w ∈ u_ws RWk TWk 7, w ∈ wsNs_spread := fun w h => List.mem_cons_of_mem _ (inWk w h)
  have lk103 := hts _ (List.mem_cons_of_mem _ wm_210)
  have lk45 := hts _ (List.mem_cons_of_mem _ wm_235)
  have hS : va_S (fun _ => False) s.heap s.heap [] := va_S.rf
  have cut28 : ∀ (σ : CS) (y1 : Int32) (y2 : Int32) (H : Heap) (locs : List Loc) (ls : Array Slot), wT_Ns_spread_28 a E σ y1 y2 → va_P D clA (cw a t σ) H → va_S (fun _ => False) s.heap H locs → lv_has ls 3 [(0, .ref (a 0)), (1, .int y1), (2, .int y2)] → W p l e (headSpec wsNs_spread rmT_Ns_spread).room s m ([.ref (a 0), .int x1, .int x2] : List Value).toArray below meth c H locs 0 0 (tE below E ([.ref (a 0), .int x1, .int x2] : List Value).toArray s 1 6) (F0 m 28 ls []) := by
    intro σ y1 y2 H locs ls hwp hP hS hl
    subst hwp
    obtain ⟨sa, hsa⟩ := eX.str (own := "NodeServices") (i := 110) (text := "the node is not busy or has too many messages out") (mem_tb 559 (by decide +kernel)) (by decide +kernel) he
    exact tThrow (names := exN) hx hb htr hown (by decide +kernel) (by decide +kernel) (hts _ (List.mem_cons_of_mem _ wm_343)) (hts _ (List.mem_cons_of_mem _ wm_18)) hsa (he.atoms hts at_ISE) hS (hl.1.trans hml.symm) dNs_spread_28 dNs_spread_31 dNs_spread_32 dNs_spread_34 dNs_spread_37 hempty (Nat.le_of_ble_eq_true rfl) (Nat.le_of_ble_eq_true rfl) (Nat.le_of_ble_eq_true rfl) (Nat.le_of_ble_eq_true rfl) hlocks (Nat.le_of_ble_eq_true rfl) (Nat.le_of_ble_eq_true rfl)
  have hl := lv_entry ([.ref (a 0), .int x1, .int x2]) (n := 3) (Nat.le_of_ble_eq_true rfl)
  rw [lg_entry_eq]
  generalize (lg_sl ([.ref (a 0), .int x1, .int x2]) ++ List.replicate (3 - (lg_sl ([.ref (a 0), .int x1, .int x2])).length) Slot.unset).toArray = ls at hl ⊢
  have hl : lv_has ls 3 [(0, .ref (a 0)), (1, .int x1), (2, .int x2)] := hl
  refine lv_iload_n hx hb dNs_spread_0 rfl (lv_at hl 1 rfl) ?_
  refine lv_iload_n hx hb dNs_spread_1 rfl (lv_at hl 2 rfl) ?_
  rcases hwp with hwp | hwp
  · exact tCallS (As := [.int x1, .int x2]) (rest := []) ⟨hx, hb, hml, hown, hts⟩ (tC_Ns_requireChannel l htr D a t σ x1 x2 E hwp) (cwS 2 hts (gdS wm_551 wm_552 wm_1 wm_553) rfl rfl rfl (by decide +kernel) ⟨Nat.le_of_ble_eq_true rfl, Nat.le_of_ble_eq_true rfl⟩) ⟨pE_blind, pPre hP hK he hS⟩ hS rfl hl.1 rfl (Nat.le_of_ble_eq_true rfl) dNs_spread_2 ⟨Nat.le_of_ble_eq_true rfl, Nat.le_of_ble_eq_true rfl⟩ (fun q ce H1 hS1 hce hv hcl hz hk => tOut hempty hlocks hce hv hcl (Nat.le_of_ble_eq_true rfl) (Nat.le_of_ble_eq_true rfl))
  · obtain ⟨P1, hP1, hwp⟩ := hwp
    refine pCallSv (As := [.int x1, .int x2]) (rest := []) ⟨hx, hb, hml, hown, hts⟩ (pC_Ns_requireChannel l D a t   σ x1 x2 P1 hP1) (cwS 2 hts (gdS wm_551 wm_552 wm_1 wm_553) rfl rfl rfl (by decide +kernel) ⟨Nat.le_of_ble_eq_true rfl, Nat.le_of_ble_eq_true rfl⟩) hP hK hS rfl hl.1 rfl (Nat.le_of_ble_eq_true rfl) dNs_spread_2 ⟨Nat.le_of_ble_eq_true rfl, Nat.le_of_ble_eq_true rfl⟩ (fun u2 H locs hu2 hP hS => ?_)
    have hwp := hwp u2 hu2
    refine lv_aload_n hx hb dNs_spread_5 rfl (lv_at hl 0 rfl) ?_
    refine va_get (D := D) (ci := 1) (C := RNs) (T := TNs) (N := 5) hx hb hts hinNs hown hK hP 0 rfl rfl 3 (by decide) lk45 (fun _ h9 => h9) rfl dNs_spread_6 ?_
    refine va_get (D := D) (ci := 10) (C := RWk) (T := TWk) (N := 7) hx hb hts hinWk hown hK hP 38 rfl rfl 0 (by decide) lk103 (fun _ h9 => h9) rfl dNs_spread_9 ?_
    refine lv_iload_n hx hb dNs_spread_12 rfl (lv_at hl 1 rfl) ?_
    obtain ⟨hi3, hwp⟩ := hwp
    refine va_zald hx hb hK hP 39 1 rfl rfl hi3 dNs_spread_13 ?_
    refine lv_if_eq hx hb dNs_spread_14 rfl (fun h4 => ?_) (fun h4 => ?_)
    · have hwp := hwp.1 h4
      exact cut28 u2 x1 x2 _ _ _ hwp hP hS (lv_sub hl [0, 1, 2] rfl)
    · have hwp := hwp.2 h4
      refine lv_aload_n hx hb dNs_spread_17 rfl (lv_at hl 0 rfl) ?_
      refine va_get (D := D) (ci := 1) (C := RNs) (T := TNs) (N := 5) hx hb hts hinNs hown hK hP 0 rfl rfl 3 (by decide) lk45 (fun _ h9 => h9) rfl dNs_spread_18 ?_
      refine lv_iload_n hx hb dNs_spread_21 rfl (lv_at hl 1 rfl) ?_
      obtain ⟨P5, hP5, hwp⟩ := hwp
      refine pCallVi (As := [.int x1]) (rest := []) (C := RWk) ⟨hx, hb, hml, hown, hts⟩ (pC_Wk_hasMostUnanswered l D a t   u2 x1 P5 hP5) (cwV 1 hts (gdV wm_555 wm_556 wm_557 wm_12 wm_558) rfl rfl rfl (by decide +kernel) ⟨Nat.le_of_ble_eq_true rfl, Nat.le_of_ble_eq_true rfl⟩) (va_recv (ci := 10) (q0 := 38) hK hP rfl rfl) hP hK hS rfl hl.1 rfl (Nat.le_of_ble_eq_true rfl) dNs_spread_22 ⟨Nat.le_of_ble_eq_true rfl, Nat.le_of_ble_eq_true rfl⟩ (fun r7 u6 H locs hu6 hP hS => ?_)
      have hwp := hwp r7 u6 hu6
      refine lv_if_eq hx hb dNs_spread_25 rfl (fun h8 => ?_) (fun h8 => ?_)
      · have hwp := hwp.1 h8
        refine lv_aload_n hx hb dNs_spread_38 rfl (lv_at hl 0 rfl) ?_
        refine va_get (D := D) (ci := 1) (C := RNs) (T := TNs) (N := 5) hx hb hts hinNs hown hK hP 0 rfl rfl 3 (by decide) lk45 (fun _ h9 => h9) rfl dNs_spread_39 ?_
        refine lv_iload_n hx hb dNs_spread_42 rfl (lv_at hl 1 rfl) ?_
        refine lv_iload_n hx hb dNs_spread_43 rfl (lv_at hl 2 rfl) ?_
        exact False.elim hwp
      · have hwp := hwp.2 h8
        exact cut28 u6 x1 x2 _ _ _ hwp hP hS (lv_sub hl [0, 1, 2] rfl)
-- NodeServices: public void rest(int) throws java.lang.IllegalArgumentException, java.lang.IllegalStateException, on Ns, ret
def wC_Ns_rest (a : Nat → Nat) (R : CS → Prop) (σ : CS) (x1 : Int32) : Prop :=
  (∃ P1 : CS → Prop, wC_Ns_requireNode a P1 σ x1 ∧ (∀ (u2 : CS), P1 u2 → (vp_in x1 4 ∧ (((¬ (u2.1 32 x1.toNatClampNeg) = 0) → (∃ P5 : CS → Prop, wC_Wk_pause a P5 u2 x1 ∧ (∀ (u6 : CS), P5 u6 → R u6))) ∧ (((u2.1 32 x1.toNatClampNeg) = 0) → False)))))
abbrev wsNs_rest : List Cond := .code yNs_rest cNs_rest 2 none :: wg
abbrev rmC_Ns_rest : Room := { frames := 5, cells := 1, slots := 4, locals := 112 }
set_option maxHeartbeats 4000000 in
set_option maxRecDepth 100000 in
theorem kC_Ns_rest (l : Launch) (D : va_G) (a : Nat → Nat) (A : Nat → Prop) (t : Nat → ClassId) (σ : CS) (x1 : Int32) (R : CS → Prop) (hwp : wC_Ns_rest a R σ x1) : Met l yNs_rest wsNs_rest rmC_Ns_rest (va_Pc [.ref (a 0), .int x1] (uI D clA (cT t) A true (cw a t) σ)) (va_Qv R (uI D clA (cT t) A true (cw a t)) A) 1 4 A := by
  refine Met.ofW (cc := cNs_rest) (maxL := 2) (ret := none) (by decide) rfl ?_
  intro p e s m args below meth c s₁ B hml hv
  obtain ⟨rfl, ⟨hP, hK, hD, hA⟩⟩ := hv
  have hx := B.exec
  have hb := B.bytes
  have hr := B.returns
  have hts := atoms_spec (ws := wsNs_rest) B.pre
  have hown : s.vm.findClass RNs = some m.cls := findClass_of_methodNamed B.named
  have hlocks := B.notSynchronized
  have hinNs : ∀ w ∈ u_ws RNs TNs 5, w ∈ wsNs_rest := fun w h => List.mem_cons_of_mem _ (inNs w h)
  have hinWk : ∀ w ∈ u_ws RWk TWk 7, w ∈ wsNs_rest := fun w h => List.mem_cons_of_mem _ (inWk w h)
  have lk103 := hts _ (List.mem_cons_of_mem _ wm_210)
  have lk45 := hts _ (List.mem_cons_of_mem _ wm_235)
  have hS : va_S A s.heap s.heap [] := va_S.rf
  have hl := lv_entry ([.ref (a 0), .int x1]) (n := 2) (Nat.le_of_ble_eq_true rfl)
  rw [lg_entry_eq]
  generalize (lg_sl ([.ref (a 0), .int x1]) ++ List.replicate (2 - (lg_sl ([.ref (a 0), .int x1])).length) Slot.unset).toArray = ls at hl ⊢
  have hl : lv_has ls 2 [(0, .ref (a 0)), (1, .int x1)] := hl
  refine lv_iload_n hx hb dNs_rest_0 rfl (lv_at hl 1 rfl) ?_
  obtain ⟨P1, hP1, hwp⟩ := hwp
  refine uCallSv (As := [.int x1]) (rest := []) ⟨hx, hb, hml, hown, hts⟩ (kC_Ns_requireNode l D a A t   σ x1 P1 hP1) (cwS 1 hts (gdS wm_339 wm_340 wm_1 wm_341) rfl rfl rfl (by decide +kernel) ⟨Nat.le_of_ble_eq_true rfl, Nat.le_of_ble_eq_true rfl⟩) hP hK hD hA hS rfl hl.1 rfl (Nat.le_of_ble_eq_true rfl) dNs_rest_1 ⟨Nat.le_of_ble_eq_true rfl, Nat.le_of_ble_eq_true rfl⟩ (fun u2 H locs hu2 hP hD hS => ?_)
  have hwp := hwp u2 hu2
  refine lv_aload_n hx hb dNs_rest_4 rfl (lv_at hl 0 rfl) ?_
  refine va_get (D := D) (ci := 1) (C := RNs) (T := TNs) (N := 5) hx hb hts hinNs hown hK hP 0 rfl rfl 3 (by decide) lk45 (fun _ h9 => h9) rfl dNs_rest_5 ?_
  refine va_get (D := D) (ci := 10) (C := RWk) (T := TWk) (N := 7) hx hb hts hinWk hown hK hP 38 rfl rfl 0 (by decide) lk103 (fun _ h9 => h9) rfl dNs_rest_8 ?_
  refine lv_iload_n hx hb dNs_rest_11 rfl (lv_at hl 1 rfl) ?_
  obtain ⟨hi3, hwp⟩ := hwp
  refine va_zald hx hb hK hP 39 1 rfl rfl hi3 dNs_rest_12 ?_
  refine lv_if_ne hx hb dNs_rest_13 rfl (fun h4 => ?_) (fun h4 => ?_)
  · have hwp := hwp.1 h4
    refine lv_aload_n hx hb dNs_rest_26 rfl (lv_at hl 0 rfl) ?_
    refine va_get (D := D) (ci := 1) (C := RNs) (T := TNs) (N := 5) hx hb hts hinNs hown hK hP 0 rfl rfl 3 (by decide) lk45 (fun _ h9 => h9) rfl dNs_rest_27 ?_
    refine lv_iload_n hx hb dNs_rest_30 rfl (lv_at hl 1 rfl) ?_
    obtain ⟨P5, hP5, hwp⟩ := hwp
    refine uCallVv (As := [.int x1]) (rest := []) (C := RWk) ⟨hx, hb, hml, hown, hts⟩ (kC_Wk_pause l D a A t   u2 x1 P5 hP5) (cwV 1 hts (gdV wm_575 wm_576 wm_577 wm_12 wm_578) rfl rfl rfl (by decide +kernel) ⟨Nat.le_of_ble_eq_true rfl, Nat.le_of_ble_eq_true rfl⟩) (va_recv (ci := 10) (q0 := 38) hK hP rfl rfl) hP hK hD hA hS rfl hl.1 rfl (Nat.le_of_ble_eq_true rfl) dNs_rest_31 ⟨Nat.le_of_ble_eq_true rfl, Nat.le_of_ble_eq_true rfl⟩ (fun u6 H locs hu6 hP hD hS => ?_)
    have hwp := hwp u6 hu6
    exact W.vret hx hb hr (fun t ht hW => ⟨⟨u6, rfl, hwp, uEnd ht hW hP hK hD hS hA⟩, hS.F ht⟩) hS.2.2 dNs_rest_34
  · have hwp := hwp.2 h4
    exact False.elim hwp
-- NodeServices: public void rest(int) throws java.lang.IllegalArgumentException, java.lang.IllegalStateException, on Ns, thr
def wT_Ns_rest (a : Nat → Nat) (E : String) (σ : CS) (x1 : Int32) : Prop :=
  ((wT_Ns_requireNode a E σ x1) ∨ (∃ P1 : CS → Prop, wP_Ns_requireNode a P1 σ x1 ∧ (∀ (u2 : CS), P1 u2 → (vp_in x1 4 ∧ (((¬ (u2.1 32 x1.toNatClampNeg) = 0) → False) ∧ (((u2.1 32 x1.toNatClampNeg) = 0) → (E = "java/lang/IllegalStateException")))))))
abbrev rmT_Ns_rest : Room := { frames := 7, cells := 1, slots := 6, locals := 102 }
set_option maxHeartbeats 4000000 in
set_option maxRecDepth 100000 in
theorem tC_Ns_rest (l : Launch) (htr : l.stackTraces = false) (D : va_G) (a : Nat → Nat) (t : Nat → ClassId) (σ : CS) (x1 : Int32) (E : String) (hwp : wT_Ns_rest a E σ x1) : tMet l yNs_rest wsNs_rest rmT_Ns_rest (va_Pc [.ref (a 0), .int x1] (pE D t a σ)) E 1 6 := by
  refine tMet.ofW (cc := cNs_rest) (maxL := 2) (ret := none) (by decide) rfl ?_
  intro p e s m args below meth c s₁ B hml hv hempty
  obtain ⟨rfl, ⟨hP, hK⟩, he⟩ := hv
  have hx := B.exec
  have hb := B.bytes
  have hr := B.returns
  have hts := atoms_spec (ws := wsNs_rest) B.pre
  have hown : s.vm.findClass RNs = some m.cls := findClass_of_methodNamed B.named
  have hlocks := B.notSynchronized
  have hinNs : ∀ w ∈ u_ws RNs TNs 5, w ∈ wsNs_rest := fun w h => List.mem_cons_of_mem _ (inNs w h)
  have hinWk : ∀ w ∈ u_ws RWk TWk 7, w ∈ wsNs_rest := fun w h => List.mem_cons_of_mem _ (inWk w h)
  have lk103 := hts _ (List.mem_cons_of_mem _ wm_210)
  have lk45 := hts _ (List.mem_cons_of_mem _ wm_235)
  have hS : va_S (fun _ => False) s.heap s.heap [] := va_S.rf
  have hl := lv_entry ([.ref (a 0), .int x1]) (n := 2) (Nat.le_of_ble_eq_true rfl)
  rw [lg_entry_eq]
  generalize (lg_sl ([.ref (a 0), .int x1]) ++ List.replicate (2 - (lg_sl ([.ref (a 0), .int x1])).length) Slot.unset).toArray = ls at hl ⊢
  have hl : lv_has ls 2 [(0, .ref (a 0)), (1, .int x1)] := hl
  refine lv_iload_n hx hb dNs_rest_0 rfl (lv_at hl 1 rfl) ?_
  rcases hwp with hwp | hwp
  · exact tCallS (As := [.int x1]) (rest := []) ⟨hx, hb, hml, hown, hts⟩ (tC_Ns_requireNode l htr D a t σ x1 E hwp) (cwS 1 hts (gdS wm_339 wm_340 wm_1 wm_341) rfl rfl rfl (by decide +kernel) ⟨Nat.le_of_ble_eq_true rfl, Nat.le_of_ble_eq_true rfl⟩) ⟨pE_blind, pPre hP hK he hS⟩ hS rfl hl.1 rfl (Nat.le_of_ble_eq_true rfl) dNs_rest_1 ⟨Nat.le_of_ble_eq_true rfl, Nat.le_of_ble_eq_true rfl⟩ (fun q ce H1 hS1 hce hv hcl hz hk => tOut hempty hlocks hce hv hcl (Nat.le_of_ble_eq_true rfl) (Nat.le_of_ble_eq_true rfl))
  · obtain ⟨P1, hP1, hwp⟩ := hwp
    refine pCallSv (As := [.int x1]) (rest := []) ⟨hx, hb, hml, hown, hts⟩ (pC_Ns_requireNode l D a t   σ x1 P1 hP1) (cwS 1 hts (gdS wm_339 wm_340 wm_1 wm_341) rfl rfl rfl (by decide +kernel) ⟨Nat.le_of_ble_eq_true rfl, Nat.le_of_ble_eq_true rfl⟩) hP hK hS rfl hl.1 rfl (Nat.le_of_ble_eq_true rfl) dNs_rest_1 ⟨Nat.le_of_ble_eq_true rfl, Nat.le_of_ble_eq_true rfl⟩ (fun u2 H locs hu2 hP hS => ?_)
    have hwp := hwp u2 hu2
    refine lv_aload_n hx hb dNs_rest_4 rfl (lv_at hl 0 rfl) ?_
    refine va_get (D := D) (ci := 1) (C := RNs) (T := TNs) (N := 5) hx hb hts hinNs hown hK hP 0 rfl rfl 3 (by decide) lk45 (fun _ h9 => h9) rfl dNs_rest_5 ?_
    refine va_get (D := D) (ci := 10) (C := RWk) (T := TWk) (N := 7) hx hb hts hinWk hown hK hP 38 rfl rfl 0 (by decide) lk103 (fun _ h9 => h9) rfl dNs_rest_8 ?_
    refine lv_iload_n hx hb dNs_rest_11 rfl (lv_at hl 1 rfl) ?_
    obtain ⟨hi3, hwp⟩ := hwp
    refine va_zald hx hb hK hP 39 1 rfl rfl hi3 dNs_rest_12 ?_
    refine lv_if_ne hx hb dNs_rest_13 rfl (fun h4 => ?_) (fun h4 => ?_)
    · have hwp := hwp.1 h4
      refine lv_aload_n hx hb dNs_rest_26 rfl (lv_at hl 0 rfl) ?_
      refine va_get (D := D) (ci := 1) (C := RNs) (T := TNs) (N := 5) hx hb hts hinNs hown hK hP 0 rfl rfl 3 (by decide) lk45 (fun _ h9 => h9) rfl dNs_rest_27 ?_
      refine lv_iload_n hx hb dNs_rest_30 rfl (lv_at hl 1 rfl) ?_
      exact False.elim hwp
    · have hwp := hwp.2 h4
      subst hwp
      obtain ⟨sa, hsa⟩ := eX.str (own := "NodeServices") (i := 115) (text := "the node is not busy") (mem_tb 574 (by decide +kernel)) (by decide +kernel) he
      exact tThrow (names := exN) hx hb htr hown (by decide +kernel) (by decide +kernel) (hts _ (List.mem_cons_of_mem _ wm_343)) (hts _ (List.mem_cons_of_mem _ wm_18)) hsa (he.atoms hts at_ISE) hS (hl.1.trans hml.symm) dNs_rest_16 dNs_rest_19 dNs_rest_20 dNs_rest_22 dNs_rest_25 hempty (Nat.le_of_ble_eq_true rfl) (Nat.le_of_ble_eq_true rfl) (Nat.le_of_ble_eq_true rfl) (Nat.le_of_ble_eq_true rfl) hlocks (Nat.le_of_ble_eq_true rfl) (Nat.le_of_ble_eq_true rfl)
-- NodeServices: public int deliver(int, int) throws java.lang.IllegalArgumentException, java.util.NoSuchElementException, on Ns, ret
def wC_Ns_deliver (a : Nat → Nat) (R : Int32 → CS → Prop) (σ : CS) (x1 x2 : Int32) : Prop :=
  (∃ P1 : CS → Prop, wC_Ns_requireChannel a P1 σ x1 x2 ∧ (∀ (u2 : CS), P1 u2 → (∃ P3 : Option Nat → CS → Prop, wC_Nw_channel a P3 u2 x1 x2 ∧ (∀ (r5 : Option Nat) (u4 : CS), P3 r5 u4 → (∃ k6 : Nat, k6 < 16 ∧ r5 = some (a (42 + k6)) ∧ (∃ P7 : Option Nat → CS → Prop, wC_Ch_takeHead a k6 P7 u4 ∧ (∀ (r9 : Option Nat) (u8 : CS), P7 r9 u8 → ((r9 = none → False) ∧ (∀ q11 : Nat, r9 = some q11 → (q11 ∈ u8.2.2 ∧ (vp_in (u8.1 41 q11) 5 ∧ (((u8.1 41 q11) = 0 → (∃ P20 : CS → Prop, wC_St_receive a q11 P20 u8 x1 x2 ∧ (∀ (u21 : CS), P20 u21 → (q11 ∈ u21.2.2 ∧ R (u21.1 41 q11) u21)))) ∧ ((u8.1 41 q11) = 1 → (∃ P24 : CS → Prop, wC_Tk_receive a q11 P24 u8 x1 x2 ∧ (∀ (u25 : CS), P24 u25 → (q11 ∈ u25.2.2 ∧ R (u25.1 41 q11) u25)))) ∧ ((u8.1 41 q11) = 2 → (∃ P28 : CS → Prop, wC_Tr_receive a q11 P28 u8 x1 x2 ∧ (∀ (u29 : CS), P28 u29 → (q11 ∈ u29.2.2 ∧ R (u29.1 41 q11) u29)))) ∧ ((u8.1 41 q11) = 3 → (∃ P32 : CS → Prop, wC_El_receive a q11 P32 u8 x1 x2 ∧ (∀ (u33 : CS), P32 u33 → (q11 ∈ u33.2.2 ∧ R (u33.1 41 q11) u33)))) ∧ ((u8.1 41 q11) = 4 → (∃ P36 : CS → Prop, wC_Wk_receive a q11 P36 u8 x1 x2 ∧ (∀ (u37 : CS), P36 u37 → (q11 ∈ u37.2.2 ∧ R (u37.1 41 q11) u37))))))))))))))))
abbrev wsNs_deliver : List Cond := .code yNs_deliver cNs_deliver 4 (some .int) :: wg
abbrev rmC_Ns_deliver : Room := { frames := 7, cells := 5, slots := 20, locals := 158 }
set_option maxHeartbeats 4000000 in
set_option maxRecDepth 100000 in
theorem kC_Ns_deliver (l : Launch) (D : va_G) (a : Nat → Nat) (A : Nat → Prop) (t : Nat → ClassId) (σ : CS) (x1 x2 : Int32) (R : Int32 → CS → Prop) (hwp : wC_Ns_deliver a R σ x1 x2) : Met l yNs_deliver wsNs_deliver rmC_Ns_deliver (va_Pc [.ref (a 0), .int x1, .int x2] (fun U => uI D clA (cT t) A true (cw a t) σ U ∧ eX U)) (va_Qi R (uI D clA (cT t) A true (cw a t)) A) 5 20 A := by
  refine Met.ofW (cc := cNs_deliver) (maxL := 4) (ret := (some .int)) (by decide) rfl ?_
  intro p e s m args below meth c s₁ B hml hv
  obtain ⟨rfl, ⟨hP, hK, hD, hA⟩, he⟩ := hv
  have hx := B.exec
  have hb := B.bytes
  have hr := B.returns
  have hts := atoms_spec (ws := wsNs_deliver) B.pre
  have hown : s.vm.findClass RNs = some m.cls := findClass_of_methodNamed B.named
  have hlocks := B.notSynchronized
  have hinMs : ∀ w ∈ u_ws RMs TMs 4, w ∈ wsNs_deliver := fun w h => List.mem_cons_of_mem _ (inMs w h)
  have hinNs : ∀ w ∈ u_ws RNs TNs 5, w ∈ wsNs_deliver := fun w h => List.mem_cons_of_mem _ (inNs w h)
  have lk10 := hts _ (List.mem_cons_of_mem _ wm_232)
  have lk135 := hts _ (List.mem_cons_of_mem _ wm_387)
  have lk51 := hts _ (List.mem_cons_of_mem _ wm_236)
  have hS : va_S A s.heap s.heap [] := va_S.rf
  have hl := lv_entry ([.ref (a 0), .int x1, .int x2]) (n := 4) (Nat.le_of_ble_eq_true rfl)
  rw [lg_entry_eq]
  generalize (lg_sl ([.ref (a 0), .int x1, .int x2]) ++ List.replicate (4 - (lg_sl ([.ref (a 0), .int x1, .int x2])).length) Slot.unset).toArray = ls at hl ⊢
  have hl : lv_has ls 4 [(0, .ref (a 0)), (1, .int x1), (2, .int x2)] := hl
  refine lv_iload_n hx hb dNs_deliver_0 rfl (lv_at hl 1 rfl) ?_
  refine lv_iload_n hx hb dNs_deliver_1 rfl (lv_at hl 2 rfl) ?_
  obtain ⟨P1, hP1, hwp⟩ := hwp
  refine uCallSv (As := [.int x1, .int x2]) (rest := []) ⟨hx, hb, hml, hown, hts⟩ (kC_Ns_requireChannel l D a A t   σ x1 x2 P1 hP1) (cwS 2 hts (gdS wm_551 wm_552 wm_1 wm_553) rfl rfl rfl (by decide +kernel) ⟨Nat.le_of_ble_eq_true rfl, Nat.le_of_ble_eq_true rfl⟩) hP hK hD hA hS rfl hl.1 rfl (Nat.le_of_ble_eq_true rfl) dNs_deliver_2 ⟨Nat.le_of_ble_eq_true rfl, Nat.le_of_ble_eq_true rfl⟩ (fun u2 H locs hu2 hP hD hS => ?_)
  have hwp := hwp u2 hu2
  refine lv_aload_n hx hb dNs_deliver_5 rfl (lv_at hl 0 rfl) ?_
  refine va_get (D := D) (ci := 1) (C := RNs) (T := TNs) (N := 5) hx hb hts hinNs hown hK hP 0 rfl rfl 0 (by decide) lk10 (fun _ h9 => h9) rfl dNs_deliver_6 ?_
  refine lv_iload_n hx hb dNs_deliver_9 rfl (lv_at hl 1 rfl) ?_
  refine lv_iload_n hx hb dNs_deliver_10 rfl (lv_at hl 2 rfl) ?_
  obtain ⟨P3, hP3, hwp⟩ := hwp
  refine uCallVq (As := [.int x1, .int x2]) (rest := []) (C := RNw) ⟨hx, hb, hml, hown, hts⟩ (kC_Nw_channel l D a A t   u2 x1 x2 P3 hP3) (cwV 2 hts (gdV wm_591 wm_415 wm_416 wm_2 wm_417) rfl rfl rfl (by decide +kernel) ⟨Nat.le_of_ble_eq_true rfl, Nat.le_of_ble_eq_true rfl⟩) (va_recv (ci := 2) (q0 := 1) hK hP rfl rfl) hP hK hD hA hS rfl hl.1 rfl (Nat.le_of_ble_eq_true rfl) dNs_deliver_11 ⟨Nat.le_of_ble_eq_true rfl, Nat.le_of_ble_eq_true rfl⟩ (fun r5 u4 H locs hu4 hP hD hS => ?_)
  have hwp := hwp r5 u4 hu4
  obtain ⟨k6, hk6, ek6, hwp⟩ := hwp
  subst ek6
  refine W.eq (g2 := F0 m 14 ls [.ref (a (42 + k6))]) rfl ?_
  obtain ⟨P7, hP7, hwp⟩ := hwp
  refine uCallVq (As := []) (rest := []) (C := RCh) ⟨hx, hb, hml, hown, hts⟩ (kC_Ch_takeHead l D a A t k6 hk6 u4  P7 hP7) (cwV 0 hts (gdV wm_592 wm_593 wm_594 wm_3 wm_595) rfl rfl rfl (by decide +kernel) ⟨Nat.le_of_ble_eq_true rfl, Nat.le_of_ble_eq_true rfl⟩) (va_recv (ci := 3) (q0 := (42 + k6)) hK hP rfl (cw_ch hk6)) hP hK hD hA hS rfl hl.1 rfl (Nat.le_of_ble_eq_true rfl) dNs_deliver_14 ⟨Nat.le_of_ble_eq_true rfl, Nat.le_of_ble_eq_true rfl⟩ (fun r9 u8 H locs hu8 hP hD hS => ?_)
  have hwp := hwp r9 u8 hu8
  refine fx_caseq (fun hq10 => ?_) (fun q11 hq10 => ?_)
  · have hwp := hwp.1 hq10
    refine lv_astore_nN hx hb dNs_deliver_17 rfl hl (by decide) rfl (fun ls hl => ?_)
    have hl : lv_has ls 4 [(3, .null), (0, .ref (a 0)), (1, .int x1), (2, .int x2)] := hl
    refine lv_aload_nN hx hb dNs_deliver_18 rfl (lv_at hl 0 rfl) ?_
    refine lv_ifnonnullN hx hb dNs_deliver_19 ?_
    exact False.elim hwp
  · have hwp := hwp.2 q11 hq10
    refine lv_astore_n hx hb dNs_deliver_17 rfl hl (by decide) rfl (fun ls hl => ?_)
    have hl : lv_has ls 4 [(3, .ref q11), (0, .ref (a 0)), (1, .int x1), (2, .int x2)] := hl
    refine lv_aload_n hx hb dNs_deliver_18 rfl (lv_at hl 0 rfl) ?_
    refine lv_ifnonnull hx hb dNs_deliver_19 rfl ?_
    refine lv_aload_n hx hb dNs_deliver_32 rfl (lv_at hl 1 rfl) ?_
    refine va_get (D := D) (ci := 1) (C := RNs) (T := TNs) (N := 5) hx hb hts hinNs hown hK hP 0 rfl rfl 4 (by decide) lk51 (fun _ h9 => h9) rfl dNs_deliver_33 ?_
    refine lv_aload_n hx hb dNs_deliver_36 rfl (lv_at hl 0 rfl) ?_
    obtain ⟨hm12, hwp⟩ := hwp
    obtain ⟨km13, hkm13⟩ := cw_ms (a := a) (t := t) hm12
    refine va_get (D := D) (ci := 4) (C := RMs) (T := TMs) (N := 4) hx hb hts hinMs hown hK hP km13 hkm13 rfl 0 (by decide) lk135 (fun _ h9 => h9) rfl dNs_deliver_37 ?_
    obtain ⟨hi14, hwp⟩ := hwp
    refine va_aldq hx hb hK hP 4 4 rfl rfl hi14 dNs_deliver_40 ?_
    rcases fx_in5 hi14 with e15 | e16 | e17 | e18 | e19
    · have hwp := hwp.1 e15
      refine W.eq (g2 := F0 m 41 ls [.ref (a 5)]) (by rw [e15]; rfl) ?_
      refine lv_iload_n hx hb dNs_deliver_41 rfl (lv_at hl 2 rfl) ?_
      refine lv_iload_n hx hb dNs_deliver_42 rfl (lv_at hl 3 rfl) ?_
      refine lv_aload_n hx hb dNs_deliver_43 rfl (lv_at hl 0 rfl) ?_
      obtain ⟨P20, hP20, hwp⟩ := hwp
      refine uCallUv (As := [.int x1, .int x2, .ref q11]) (rest := []) (C := RSt) ⟨hx, hb, hml, hown, hts⟩ (kC_St_receive l D a A t q11  u8 x1 x2 P20 hP20) (va_cwA (x := ⟨"NodeServices$Service", "receive", "(IILNodeServices$Message;)V"⟩) (owner := "NodeServices$Service") 3 hts (gdU wm_612 wm_614 wm_627 wm_628 wm_6 wm_629) rfl rfl rfl (he.decl (mem_tb 613 (by decide +kernel))) (by decide +kernel) ⟨Nat.le_of_ble_eq_true rfl, Nat.le_of_ble_eq_true rfl⟩) (va_recv (ci := 6) (q0 := 5) hK hP rfl rfl) hP hK hD hA hS rfl hl.1 rfl (Nat.le_of_ble_eq_true rfl) dNs_deliver_44 ⟨Nat.le_of_ble_eq_true rfl, Nat.le_of_ble_eq_true rfl⟩ (fun u21 H locs hu21 hP hD hS => ?_)
      have hwp := hwp u21 hu21
      refine lv_aload_n hx hb dNs_deliver_47 rfl (lv_at hl 0 rfl) ?_
      obtain ⟨hm22, hwp⟩ := hwp
      obtain ⟨km23, hkm23⟩ := cw_ms (a := a) (t := t) hm22
      refine va_get (D := D) (ci := 4) (C := RMs) (T := TMs) (N := 4) hx hb hts hinMs hown hK hP km23 hkm23 rfl 0 (by decide) lk135 (fun _ h9 => h9) rfl dNs_deliver_48 ?_
      refine W.widen (k := 5) (n := 20) (by omega) (by omega) ?_
      exact W.iret (v := u21.1 41 q11) hx hb hr (fun t ht hW => ⟨⟨u21.1 41 q11, u21, rfl, hwp, uEnd ht hW hP hK hD hS hA⟩, hS.F ht⟩) hS.2.2 dNs_deliver_51
    · have hwp := hwp.2.1 e16
      refine W.eq (g2 := F0 m 41 ls [.ref (a 11)]) (by rw [e16]; rfl) ?_
      refine lv_iload_n hx hb dNs_deliver_41 rfl (lv_at hl 2 rfl) ?_
      refine lv_iload_n hx hb dNs_deliver_42 rfl (lv_at hl 3 rfl) ?_
      refine lv_aload_n hx hb dNs_deliver_43 rfl (lv_at hl 0 rfl) ?_
      obtain ⟨P24, hP24, hwp⟩ := hwp
      refine uCallUv (As := [.int x1, .int x2, .ref q11]) (rest := []) (C := RTk) ⟨hx, hb, hml, hown, hts⟩ (kC_Tk_receive l D a A t q11  u8 x1 x2 P24 hP24) (va_cwA (x := ⟨"NodeServices$Service", "receive", "(IILNodeServices$Message;)V"⟩) (owner := "NodeServices$Service") 3 hts (gdU wm_612 wm_614 wm_648 wm_649 wm_7 wm_650) rfl rfl rfl (he.decl (mem_tb 613 (by decide +kernel))) (by decide +kernel) ⟨Nat.le_of_ble_eq_true rfl, Nat.le_of_ble_eq_true rfl⟩) (va_recv (ci := 7) (q0 := 11) hK hP rfl rfl) hP hK hD hA hS rfl hl.1 rfl (Nat.le_of_ble_eq_true rfl) dNs_deliver_44 ⟨Nat.le_of_ble_eq_true rfl, Nat.le_of_ble_eq_true rfl⟩ (fun u25 H locs hu25 hP hD hS => ?_)
      have hwp := hwp u25 hu25
      refine lv_aload_n hx hb dNs_deliver_47 rfl (lv_at hl 0 rfl) ?_
      obtain ⟨hm26, hwp⟩ := hwp
      obtain ⟨km27, hkm27⟩ := cw_ms (a := a) (t := t) hm26
      refine va_get (D := D) (ci := 4) (C := RMs) (T := TMs) (N := 4) hx hb hts hinMs hown hK hP km27 hkm27 rfl 0 (by decide) lk135 (fun _ h9 => h9) rfl dNs_deliver_48 ?_
      refine W.widen (k := 5) (n := 20) (by omega) (by omega) ?_
      exact W.iret (v := u25.1 41 q11) hx hb hr (fun t ht hW => ⟨⟨u25.1 41 q11, u25, rfl, hwp, uEnd ht hW hP hK hD hS hA⟩, hS.F ht⟩) hS.2.2 dNs_deliver_51
    · have hwp := hwp.2.2.1 e17
      refine W.eq (g2 := F0 m 41 ls [.ref (a 19)]) (by rw [e17]; rfl) ?_
      refine lv_iload_n hx hb dNs_deliver_41 rfl (lv_at hl 2 rfl) ?_
      refine lv_iload_n hx hb dNs_deliver_42 rfl (lv_at hl 3 rfl) ?_
      refine lv_aload_n hx hb dNs_deliver_43 rfl (lv_at hl 0 rfl) ?_
      obtain ⟨P28, hP28, hwp⟩ := hwp
      refine uCallUv (As := [.int x1, .int x2, .ref q11]) (rest := []) (C := RTr) ⟨hx, hb, hml, hown, hts⟩ (kC_Tr_receive l D a A t q11  u8 x1 x2 P28 hP28) (va_cwA (x := ⟨"NodeServices$Service", "receive", "(IILNodeServices$Message;)V"⟩) (owner := "NodeServices$Service") 3 hts (gdU wm_612 wm_614 wm_656 wm_657 wm_9 wm_658) rfl rfl rfl (he.decl (mem_tb 613 (by decide +kernel))) (by decide +kernel) ⟨Nat.le_of_ble_eq_true rfl, Nat.le_of_ble_eq_true rfl⟩) (va_recv (ci := 8) (q0 := 19) hK hP rfl rfl) hP hK hD hA hS rfl hl.1 rfl (Nat.le_of_ble_eq_true rfl) dNs_deliver_44 ⟨Nat.le_of_ble_eq_true rfl, Nat.le_of_ble_eq_true rfl⟩ (fun u29 H locs hu29 hP hD hS => ?_)
      have hwp := hwp u29 hu29
      refine lv_aload_n hx hb dNs_deliver_47 rfl (lv_at hl 0 rfl) ?_
      obtain ⟨hm30, hwp⟩ := hwp
      obtain ⟨km31, hkm31⟩ := cw_ms (a := a) (t := t) hm30
      refine va_get (D := D) (ci := 4) (C := RMs) (T := TMs) (N := 4) hx hb hts hinMs hown hK hP km31 hkm31 rfl 0 (by decide) lk135 (fun _ h9 => h9) rfl dNs_deliver_48 ?_
      refine W.widen (k := 5) (n := 20) (by omega) (by omega) ?_
      exact W.iret (v := u29.1 41 q11) hx hb hr (fun t ht hW => ⟨⟨u29.1 41 q11, u29, rfl, hwp, uEnd ht hW hP hK hD hS hA⟩, hS.F ht⟩) hS.2.2 dNs_deliver_51
    · have hwp := hwp.2.2.2.1 e18
      refine W.eq (g2 := F0 m 41 ls [.ref (a 24)]) (by rw [e18]; rfl) ?_
      refine lv_iload_n hx hb dNs_deliver_41 rfl (lv_at hl 2 rfl) ?_
      refine lv_iload_n hx hb dNs_deliver_42 rfl (lv_at hl 3 rfl) ?_
      refine lv_aload_n hx hb dNs_deliver_43 rfl (lv_at hl 0 rfl) ?_
      obtain ⟨P32, hP32, hwp⟩ := hwp
      refine uCallUv (As := [.int x1, .int x2, .ref q11]) (rest := []) (C := REl) ⟨hx, hb, hml, hown, hts⟩ (kC_El_receive l D a A t q11  u8 x1 x2 P32 hP32) (va_cwA (x := ⟨"NodeServices$Service", "receive", "(IILNodeServices$Message;)V"⟩) (owner := "NodeServices$Service") 3 hts (gdU wm_612 wm_614 wm_615 wm_616 wm_10 wm_617) rfl rfl rfl (he.decl (mem_tb 613 (by decide +kernel))) (by decide +kernel) ⟨Nat.le_of_ble_eq_true rfl, Nat.le_of_ble_eq_true rfl⟩) (va_recv (ci := 9) (q0 := 24) hK hP rfl rfl) hP hK hD hA hS rfl hl.1 rfl (Nat.le_of_ble_eq_true rfl) dNs_deliver_44 ⟨Nat.le_of_ble_eq_true rfl, Nat.le_of_ble_eq_true rfl⟩ (fun u33 H locs hu33 hP hD hS => ?_)
      have hwp := hwp u33 hu33
      refine lv_aload_n hx hb dNs_deliver_47 rfl (lv_at hl 0 rfl) ?_
      obtain ⟨hm34, hwp⟩ := hwp
      obtain ⟨km35, hkm35⟩ := cw_ms (a := a) (t := t) hm34
      refine va_get (D := D) (ci := 4) (C := RMs) (T := TMs) (N := 4) hx hb hts hinMs hown hK hP km35 hkm35 rfl 0 (by decide) lk135 (fun _ h9 => h9) rfl dNs_deliver_48 ?_
      refine W.widen (k := 5) (n := 20) (by omega) (by omega) ?_
      exact W.iret (v := u33.1 41 q11) hx hb hr (fun t ht hW => ⟨⟨u33.1 41 q11, u33, rfl, hwp, uEnd ht hW hP hK hD hS hA⟩, hS.F ht⟩) hS.2.2 dNs_deliver_51
    · have hwp := hwp.2.2.2.2 e19
      refine W.eq (g2 := F0 m 41 ls [.ref (a 38)]) (by rw [e19]; rfl) ?_
      refine lv_iload_n hx hb dNs_deliver_41 rfl (lv_at hl 2 rfl) ?_
      refine lv_iload_n hx hb dNs_deliver_42 rfl (lv_at hl 3 rfl) ?_
      refine lv_aload_n hx hb dNs_deliver_43 rfl (lv_at hl 0 rfl) ?_
      obtain ⟨P36, hP36, hwp⟩ := hwp
      refine uCallUv (As := [.int x1, .int x2, .ref q11]) (rest := []) (C := RWk) ⟨hx, hb, hml, hown, hts⟩ (kC_Wk_receive l D a A t q11  u8 x1 x2 P36 hP36) (va_cwA (x := ⟨"NodeServices$Service", "receive", "(IILNodeServices$Message;)V"⟩) (owner := "NodeServices$Service") 3 hts (gdU wm_612 wm_614 wm_659 wm_660 wm_12 wm_661) rfl rfl rfl (he.decl (mem_tb 613 (by decide +kernel))) (by decide +kernel) ⟨Nat.le_of_ble_eq_true rfl, Nat.le_of_ble_eq_true rfl⟩) (va_recv (ci := 10) (q0 := 38) hK hP rfl rfl) hP hK hD hA hS rfl hl.1 rfl (Nat.le_of_ble_eq_true rfl) dNs_deliver_44 ⟨Nat.le_of_ble_eq_true rfl, Nat.le_of_ble_eq_true rfl⟩ (fun u37 H locs hu37 hP hD hS => ?_)
      have hwp := hwp u37 hu37
      refine lv_aload_n hx hb dNs_deliver_47 rfl (lv_at hl 0 rfl) ?_
      obtain ⟨hm38, hwp⟩ := hwp
      obtain ⟨km39, hkm39⟩ := cw_ms (a := a) (t := t) hm38
      refine va_get (D := D) (ci := 4) (C := RMs) (T := TMs) (N := 4) hx hb hts hinMs hown hK hP km39 hkm39 rfl 0 (by decide) lk135 (fun _ h9 => h9) rfl dNs_deliver_48 ?_
      refine W.widen (k := 5) (n := 20) (by omega) (by omega) ?_
      exact W.iret (v := u37.1 41 q11) hx hb hr (fun t ht hW => ⟨⟨u37.1 41 q11, u37, rfl, hwp, uEnd ht hW hP hK hD hS hA⟩, hS.F ht⟩) hS.2.2 dNs_deliver_51
-- NodeServices: public int deliver(int, int) throws java.lang.IllegalArgumentException, java.util.NoSuchElementException, on Ns, thr
def wT_Ns_deliver (a : Nat → Nat) (E : String) (σ : CS) (x1 x2 : Int32) : Prop :=
  ((wT_Ns_requireChannel a E σ x1 x2) ∨ (∃ P1 : CS → Prop, wP_Ns_requireChannel a P1 σ x1 x2 ∧ (∀ (u2 : CS), P1 u2 → (∃ P3 : Option Nat → CS → Prop, wP_Nw_channel a P3 u2 x1 x2 ∧ (∀ (r5 : Option Nat) (u4 : CS), P3 r5 u4 → (∃ k6 : Nat, k6 < 16 ∧ r5 = some (a (42 + k6)) ∧ (∃ P7 : Option Nat → CS → Prop, wP_Ch_takeHead a k6 P7 u4 ∧ (∀ (r9 : Option Nat) (u8 : CS), P7 r9 u8 → ((r9 = none → (E = "java/util/NoSuchElementException")) ∧ (∀ q11 : Nat, r9 = some q11 → (q11 ∈ u8.2.2 ∧ (vp_in (u8.1 41 q11) 5 ∧ (((u8.1 41 q11) = 0 → False) ∧ ((u8.1 41 q11) = 1 → False) ∧ ((u8.1 41 q11) = 2 → False) ∧ ((u8.1 41 q11) = 3 → False) ∧ ((u8.1 41 q11) = 4 → False))))))))))))))
abbrev rmT_Ns_deliver : Room := { frames := 8, cells := 1, slots := 6, locals := 123 }
set_option maxHeartbeats 4000000 in
set_option maxRecDepth 100000 in
theorem tC_Ns_deliver (l : Launch) (htr : l.stackTraces = false) (D : va_G) (a : Nat → Nat) (t : Nat → ClassId) (σ : CS) (x1 x2 : Int32) (E : String) (hwp : wT_Ns_deliver a E σ x1 x2) : tMet l yNs_deliver wsNs_deliver rmT_Ns_deliver (va_Pc [.ref (a 0), .int x1, .int x2] (pE D t a σ)) E 1 6 := by
  refine tMet.ofW (cc := cNs_deliver) (maxL := 4) (ret := (some .int)) (by decide) rfl ?_
  intro p e s m args below meth c s₁ B hml hv hempty
  obtain ⟨rfl, ⟨hP, hK⟩, he⟩ := hv
  have hx := B.exec
  have hb := B.bytes
  have hr := B.returns
  have hts := atoms_spec (ws := wsNs_deliver) B.pre
  have hown : s.vm.findClass RNs = some m.cls := findClass_of_methodNamed B.named
  have hlocks := B.notSynchronized
  have hinMs : ∀ w ∈ u_ws RMs TMs 4, w ∈ wsNs_deliver := fun w h => List.mem_cons_of_mem _ (inMs w h)
  have hinNs : ∀ w ∈ u_ws RNs TNs 5, w ∈ wsNs_deliver := fun w h => List.mem_cons_of_mem _ (inNs w h)
  have lk10 := hts _ (List.mem_cons_of_mem _ wm_232)
  have lk135 := hts _ (List.mem_cons_of_mem _ wm_387)
  have lk51 := hts _ (List.mem_cons_of_mem _ wm_236)
  have hS : va_S (fun _ => False) s.heap s.heap [] := va_S.rf
  have hl := lv_entry ([.ref (a 0), .int x1, .int x2]) (n := 4) (Nat.le_of_ble_eq_true rfl)
  rw [lg_entry_eq]
  generalize (lg_sl ([.ref (a 0), .int x1, .int x2]) ++ List.replicate (4 - (lg_sl ([.ref (a 0), .int x1, .int x2])).length) Slot.unset).toArray = ls at hl ⊢
  have hl : lv_has ls 4 [(0, .ref (a 0)), (1, .int x1), (2, .int x2)] := hl
  refine lv_iload_n hx hb dNs_deliver_0 rfl (lv_at hl 1 rfl) ?_
  refine lv_iload_n hx hb dNs_deliver_1 rfl (lv_at hl 2 rfl) ?_
  rcases hwp with hwp | hwp
  · exact tCallS (As := [.int x1, .int x2]) (rest := []) ⟨hx, hb, hml, hown, hts⟩ (tC_Ns_requireChannel l htr D a t σ x1 x2 E hwp) (cwS 2 hts (gdS wm_551 wm_552 wm_1 wm_553) rfl rfl rfl (by decide +kernel) ⟨Nat.le_of_ble_eq_true rfl, Nat.le_of_ble_eq_true rfl⟩) ⟨pE_blind, pPre hP hK he hS⟩ hS rfl hl.1 rfl (Nat.le_of_ble_eq_true rfl) dNs_deliver_2 ⟨Nat.le_of_ble_eq_true rfl, Nat.le_of_ble_eq_true rfl⟩ (fun q ce H1 hS1 hce hv hcl hz hk => tOut hempty hlocks hce hv hcl (Nat.le_of_ble_eq_true rfl) (Nat.le_of_ble_eq_true rfl))
  · obtain ⟨P1, hP1, hwp⟩ := hwp
    refine pCallSv (As := [.int x1, .int x2]) (rest := []) ⟨hx, hb, hml, hown, hts⟩ (pC_Ns_requireChannel l D a t   σ x1 x2 P1 hP1) (cwS 2 hts (gdS wm_551 wm_552 wm_1 wm_553) rfl rfl rfl (by decide +kernel) ⟨Nat.le_of_ble_eq_true rfl, Nat.le_of_ble_eq_true rfl⟩) hP hK hS rfl hl.1 rfl (Nat.le_of_ble_eq_true rfl) dNs_deliver_2 ⟨Nat.le_of_ble_eq_true rfl, Nat.le_of_ble_eq_true rfl⟩ (fun u2 H locs hu2 hP hS => ?_)
    have hwp := hwp u2 hu2
    refine lv_aload_n hx hb dNs_deliver_5 rfl (lv_at hl 0 rfl) ?_
    refine va_get (D := D) (ci := 1) (C := RNs) (T := TNs) (N := 5) hx hb hts hinNs hown hK hP 0 rfl rfl 0 (by decide) lk10 (fun _ h9 => h9) rfl dNs_deliver_6 ?_
    refine lv_iload_n hx hb dNs_deliver_9 rfl (lv_at hl 1 rfl) ?_
    refine lv_iload_n hx hb dNs_deliver_10 rfl (lv_at hl 2 rfl) ?_
    obtain ⟨P3, hP3, hwp⟩ := hwp
    refine pCallVq (As := [.int x1, .int x2]) (rest := []) (C := RNw) ⟨hx, hb, hml, hown, hts⟩ (pC_Nw_channel l D a t   u2 x1 x2 P3 hP3) (cwV 2 hts (gdV wm_591 wm_415 wm_416 wm_2 wm_417) rfl rfl rfl (by decide +kernel) ⟨Nat.le_of_ble_eq_true rfl, Nat.le_of_ble_eq_true rfl⟩) (va_recv (ci := 2) (q0 := 1) hK hP rfl rfl) hP hK hS rfl hl.1 rfl (Nat.le_of_ble_eq_true rfl) dNs_deliver_11 ⟨Nat.le_of_ble_eq_true rfl, Nat.le_of_ble_eq_true rfl⟩ (fun r5 u4 H locs hu4 hP hS => ?_)
    have hwp := hwp r5 u4 hu4
    obtain ⟨k6, hk6, ek6, hwp⟩ := hwp
    subst ek6
    refine W.eq (g2 := F0 m 14 ls [.ref (a (42 + k6))]) rfl ?_
    obtain ⟨P7, hP7, hwp⟩ := hwp
    refine pCallVq (As := []) (rest := []) (C := RCh) ⟨hx, hb, hml, hown, hts⟩ (pC_Ch_takeHead l D a t k6 hk6 u4  P7 hP7) (cwV 0 hts (gdV wm_592 wm_593 wm_594 wm_3 wm_595) rfl rfl rfl (by decide +kernel) ⟨Nat.le_of_ble_eq_true rfl, Nat.le_of_ble_eq_true rfl⟩) (va_recv (ci := 3) (q0 := (42 + k6)) hK hP rfl (cw_ch hk6)) hP hK hS rfl hl.1 rfl (Nat.le_of_ble_eq_true rfl) dNs_deliver_14 ⟨Nat.le_of_ble_eq_true rfl, Nat.le_of_ble_eq_true rfl⟩ (fun r9 u8 H locs hu8 hP hS => ?_)
    have hwp := hwp r9 u8 hu8
    refine fx_caseq (fun hq10 => ?_) (fun q11 hq10 => ?_)
    · have hwp := hwp.1 hq10
      refine lv_astore_nN hx hb dNs_deliver_17 rfl hl (by decide) rfl (fun ls hl => ?_)
      have hl : lv_has ls 4 [(3, .null), (0, .ref (a 0)), (1, .int x1), (2, .int x2)] := hl
      refine lv_aload_nN hx hb dNs_deliver_18 rfl (lv_at hl 0 rfl) ?_
      refine lv_ifnonnullN hx hb dNs_deliver_19 ?_
      subst hwp
      obtain ⟨sa, hsa⟩ := eX.str (own := "NodeServices") (i := 132) (text := "the channel is empty") (mem_tb 605 (by decide +kernel)) (by decide +kernel) he
      exact tThrowN hx hb htr hown (he.nse hts) hsa hS (hl.1.trans hml.symm) dNs_deliver_22 dNs_deliver_25 dNs_deliver_26 dNs_deliver_28 dNs_deliver_31 hempty (Nat.le_of_ble_eq_true rfl) (Nat.le_of_ble_eq_true rfl) (Nat.le_of_ble_eq_true rfl) (Nat.le_of_ble_eq_true rfl) hlocks (Nat.le_of_ble_eq_true rfl) (Nat.le_of_ble_eq_true rfl)
    · have hwp := hwp.2 q11 hq10
      refine lv_astore_n hx hb dNs_deliver_17 rfl hl (by decide) rfl (fun ls hl => ?_)
      have hl : lv_has ls 4 [(3, .ref q11), (0, .ref (a 0)), (1, .int x1), (2, .int x2)] := hl
      refine lv_aload_n hx hb dNs_deliver_18 rfl (lv_at hl 0 rfl) ?_
      refine lv_ifnonnull hx hb dNs_deliver_19 rfl ?_
      refine lv_aload_n hx hb dNs_deliver_32 rfl (lv_at hl 1 rfl) ?_
      refine va_get (D := D) (ci := 1) (C := RNs) (T := TNs) (N := 5) hx hb hts hinNs hown hK hP 0 rfl rfl 4 (by decide) lk51 (fun _ h9 => h9) rfl dNs_deliver_33 ?_
      refine lv_aload_n hx hb dNs_deliver_36 rfl (lv_at hl 0 rfl) ?_
      obtain ⟨hm12, hwp⟩ := hwp
      obtain ⟨km13, hkm13⟩ := cw_ms (a := a) (t := t) hm12
      refine va_get (D := D) (ci := 4) (C := RMs) (T := TMs) (N := 4) hx hb hts hinMs hown hK hP km13 hkm13 rfl 0 (by decide) lk135 (fun _ h9 => h9) rfl dNs_deliver_37 ?_
      obtain ⟨hi14, hwp⟩ := hwp
      refine va_aldq hx hb hK hP 4 4 rfl rfl hi14 dNs_deliver_40 ?_
      rcases fx_in5 hi14 with e15 | e16 | e17 | e18 | e19
      · have hwp := hwp.1 e15
        refine W.eq (g2 := F0 m 41 ls [.ref (a 5)]) (by rw [e15]; rfl) ?_
        refine lv_iload_n hx hb dNs_deliver_41 rfl (lv_at hl 2 rfl) ?_
        refine lv_iload_n hx hb dNs_deliver_42 rfl (lv_at hl 3 rfl) ?_
        refine lv_aload_n hx hb dNs_deliver_43 rfl (lv_at hl 0 rfl) ?_
        exact False.elim hwp
      · have hwp := hwp.2.1 e16
        refine W.eq (g2 := F0 m 41 ls [.ref (a 11)]) (by rw [e16]; rfl) ?_
        refine lv_iload_n hx hb dNs_deliver_41 rfl (lv_at hl 2 rfl) ?_
        refine lv_iload_n hx hb dNs_deliver_42 rfl (lv_at hl 3 rfl) ?_
        refine lv_aload_n hx hb dNs_deliver_43 rfl (lv_at hl 0 rfl) ?_
        exact False.elim hwp
      · have hwp := hwp.2.2.1 e17
        refine W.eq (g2 := F0 m 41 ls [.ref (a 19)]) (by rw [e17]; rfl) ?_
        refine lv_iload_n hx hb dNs_deliver_41 rfl (lv_at hl 2 rfl) ?_
        refine lv_iload_n hx hb dNs_deliver_42 rfl (lv_at hl 3 rfl) ?_
        refine lv_aload_n hx hb dNs_deliver_43 rfl (lv_at hl 0 rfl) ?_
        exact False.elim hwp
      · have hwp := hwp.2.2.2.1 e18
        refine W.eq (g2 := F0 m 41 ls [.ref (a 24)]) (by rw [e18]; rfl) ?_
        refine lv_iload_n hx hb dNs_deliver_41 rfl (lv_at hl 2 rfl) ?_
        refine lv_iload_n hx hb dNs_deliver_42 rfl (lv_at hl 3 rfl) ?_
        refine lv_aload_n hx hb dNs_deliver_43 rfl (lv_at hl 0 rfl) ?_
        exact False.elim hwp
      · have hwp := hwp.2.2.2.2 e19
        refine W.eq (g2 := F0 m 41 ls [.ref (a 38)]) (by rw [e19]; rfl) ?_
        refine lv_iload_n hx hb dNs_deliver_41 rfl (lv_at hl 2 rfl) ?_
        refine lv_iload_n hx hb dNs_deliver_42 rfl (lv_at hl 3 rfl) ?_
        refine lv_aload_n hx hb dNs_deliver_43 rfl (lv_at hl 0 rfl) ?_
        exact False.elim hwp
-- NodeServices: public int first(int, int) throws java.lang.IllegalArgumentException, on Ns, ret
def wC_Ns_first_36 (a : Nat → Nat) (R : Int32 → CS → Prop) (σ : CS) (y1 : Int32) (y2 : Int32) (y3 : Nat) (z0 : Int32) : Prop :=
  (y3 ∈ σ.2.2 ∧ (y3 ∈ σ.2.2 ∧ R (((100 * (σ.1 41 y3)) + (10 * (σ.1 42 y3))) + z0) σ))
def wC_Ns_first (a : Nat → Nat) (R : Int32 → CS → Prop) (σ : CS) (x1 x2 : Int32) : Prop :=
  (∃ P5 : CS → Prop, wC_Ns_requireChannel a P5 σ x1 x2 ∧ (∀ (u6 : CS), P5 u6 → (∃ P7 : Option Nat → CS → Prop, wC_Nw_channel a P7 u6 x1 x2 ∧ (∀ (r9 : Option Nat) (u8 : CS), P7 r9 u8 → (∃ k10 : Nat, k10 < 16 ∧ r9 = some (a (42 + k10)) ∧ ((u8.2.1 0 k10 = none → R (-1) u8) ∧ (∀ q12 : Nat, u8.2.1 0 k10 = some q12 → (q12 ∈ u8.2.2 ∧ ((u8.2.1 2 q12 = none → wC_Ns_first_36 a R u8 x1 x2 q12 0) ∧ (∀ q16 : Nat, u8.2.1 2 q12 = some q16 → wC_Ns_first_36 a R u8 x1 x2 q12 1))))))))))
abbrev wsNs_first : List Cond := .code yNs_first cNs_first 5 (some .int) :: wg
abbrev rmC_Ns_first : Room := { frames := 2, cells := 0, slots := 0, locals := 41 }
set_option maxHeartbeats 4000000 in
set_option maxRecDepth 100000 in
theorem kC_Ns_first (l : Launch) (D : va_G) (a : Nat → Nat) (A : Nat → Prop) (t : Nat → ClassId) (σ : CS) (x1 x2 : Int32) (R : Int32 → CS → Prop) (hwp : wC_Ns_first a R σ x1 x2) : Met l yNs_first wsNs_first rmC_Ns_first (va_Pc [.ref (a 0), .int x1, .int x2] (uI D clA (cT t) A true (cw a t) σ)) (va_Qi R (uI D clA (cT t) A true (cw a t)) A) 0 0 A := by
  refine Met.ofW (cc := cNs_first) (maxL := 5) (ret := (some .int)) (by decide) rfl ?_
  intro p e s m args below meth c s₁ B hml hv
  obtain ⟨rfl, ⟨hP, hK, hD, hA⟩⟩ := hv
  have hx := B.exec
  have hb := B.bytes
  have hr := B.returns
  have hts := atoms_spec (ws := wsNs_first) B.pre
  have hown : s.vm.findClass RNs = some m.cls := findClass_of_methodNamed B.named
  have hlocks := B.notSynchronized
  have hinCh : ∀ w ∈ u_ws RCh TCh 3, w ∈ wsNs_first := fun w h => List.mem_cons_of_mem _ (inCh w h)
  have hinMs : ∀ w ∈ u_ws RMs TMs 4, w ∈ wsNs_first := fun w h => List.mem_cons_of_mem _ (inMs w h)
  have hinNs : ∀ w ∈ u_ws RNs TNs 5, w ∈ wsNs_first := fun w h => List.mem_cons_of_mem _ (inNs w h)
  have lk10 := hts _ (List.mem_cons_of_mem _ wm_232)
  have lk135 := hts _ (List.mem_cons_of_mem _ wm_387)
  have lk145 := hts _ (List.mem_cons_of_mem _ wm_43)
  have lk149 := hts _ (List.mem_cons_of_mem _ wm_400)
  have lk152 := hts _ (List.mem_cons_of_mem _ wm_394)
  have hS : va_S A s.heap s.heap [] := va_S.rf
  have cut36 : ∀ (σ : CS) (y1 : Int32) (y2 : Int32) (y3 : Nat) (z0 : Int32) (H : Heap) (locs : List Loc) (ls : Array Slot), wC_Ns_first_36 a R σ y1 y2 y3 z0 → va_P D clA (cw a t σ) H → va_D A (cw a t σ) → va_S A s.heap H locs → lv_has ls 5 [(0, .ref (a 0)), (1, .int y1), (2, .int y2), (3, .ref y3)] → W p l e (headSpec wsNs_first rmC_Ns_first).room s m ([.ref (a 0), .int x1, .int x2] : List Value).toArray below meth c H locs 0 0 (MQ below (va_Qi R (uI D clA (cT t) A true (cw a t)) A) ([.ref (a 0), .int x1, .int x2] : List Value).toArray s 0 0 A) (F0 m 36 ls [.int z0]) := by
    intro σ y1 y2 y3 z0 H locs ls hwp hP hD hS hl
    refine lv_istore hx hb dNs_first_36 hl (by decide) rfl (fun ls hl => ?_)
    have hl : lv_has ls 5 [(4, .int z0), (0, .ref (a 0)), (1, .int y1), (2, .int y2), (3, .ref y3)] := hl
    refine lv_bipush (v := 100) hx hb dNs_first_38 (by decide) ?_
    refine lv_aload_n hx hb dNs_first_40 rfl (lv_at hl 4 rfl) ?_
    obtain ⟨hm1, hwp⟩ := hwp
    obtain ⟨km2, hkm2⟩ := cw_ms (a := a) (t := t) hm1
    refine va_get (D := D) (ci := 4) (C := RMs) (T := TMs) (N := 4) hx hb hts hinMs hown hK hP km2 hkm2 rfl 0 (by decide) lk135 (fun _ h9 => h9) rfl dNs_first_41 ?_
    refine lv_imul hx hb dNs_first_44 ?_
    refine lv_bipush (v := 10) hx hb dNs_first_45 (by decide) ?_
    refine lv_aload_n hx hb dNs_first_47 rfl (lv_at hl 4 rfl) ?_
    obtain ⟨hm3, hwp⟩ := hwp
    obtain ⟨km4, hkm4⟩ := cw_ms (a := a) (t := t) hm3
    refine va_get (D := D) (ci := 4) (C := RMs) (T := TMs) (N := 4) hx hb hts hinMs hown hK hP km4 hkm4 rfl 1 (by decide) lk152 (fun _ h9 => h9) rfl dNs_first_48 ?_
    refine lv_imul hx hb dNs_first_51 ?_
    refine lv_iadd hx hb dNs_first_52 ?_
    refine lv_iload hx hb dNs_first_53 (lv_at hl 0 rfl) ?_
    refine lv_iadd hx hb dNs_first_55 ?_
    exact W.iret (v := ((100 * (σ.1 41 y3)) + (10 * (σ.1 42 y3))) + z0) hx hb hr (fun t ht hW => ⟨⟨((100 * (σ.1 41 y3)) + (10 * (σ.1 42 y3))) + z0, σ, rfl, hwp, uEnd ht hW hP hK hD hS hA⟩, hS.F ht⟩) hS.2.2 dNs_first_56
  have hl := lv_entry ([.ref (a 0), .int x1, .int x2]) (n := 5) (Nat.le_of_ble_eq_true rfl)
  rw [lg_entry_eq]
  generalize (lg_sl ([.ref (a 0), .int x1, .int x2]) ++ List.replicate (5 - (lg_sl ([.ref (a 0), .int x1, .int x2])).length) Slot.unset).toArray = ls at hl ⊢
  have hl : lv_has ls 5 [(0, .ref (a 0)), (1, .int x1), (2, .int x2)] := hl
  refine lv_iload_n hx hb dNs_first_0 rfl (lv_at hl 1 rfl) ?_
  refine lv_iload_n hx hb dNs_first_1 rfl (lv_at hl 2 rfl) ?_
  obtain ⟨P5, hP5, hwp⟩ := hwp
  refine uCallSv (As := [.int x1, .int x2]) (rest := []) ⟨hx, hb, hml, hown, hts⟩ (kC_Ns_requireChannel l D a A t   σ x1 x2 P5 hP5) (cwS 2 hts (gdS wm_551 wm_552 wm_1 wm_553) rfl rfl rfl (by decide +kernel) ⟨Nat.le_of_ble_eq_true rfl, Nat.le_of_ble_eq_true rfl⟩) hP hK hD hA hS rfl hl.1 rfl (Nat.le_of_ble_eq_true rfl) dNs_first_2 ⟨Nat.le_of_ble_eq_true rfl, Nat.le_of_ble_eq_true rfl⟩ (fun u6 H locs hu6 hP hD hS => ?_)
  have hwp := hwp u6 hu6
  refine lv_aload_n hx hb dNs_first_5 rfl (lv_at hl 0 rfl) ?_
  refine va_get (D := D) (ci := 1) (C := RNs) (T := TNs) (N := 5) hx hb hts hinNs hown hK hP 0 rfl rfl 0 (by decide) lk10 (fun _ h9 => h9) rfl dNs_first_6 ?_
  refine lv_iload_n hx hb dNs_first_9 rfl (lv_at hl 1 rfl) ?_
  refine lv_iload_n hx hb dNs_first_10 rfl (lv_at hl 2 rfl) ?_
  obtain ⟨P7, hP7, hwp⟩ := hwp
  refine uCallVq (As := [.int x1, .int x2]) (rest := []) (C := RNw) ⟨hx, hb, hml, hown, hts⟩ (kC_Nw_channel l D a A t   u6 x1 x2 P7 hP7) (cwV 2 hts (gdV wm_591 wm_415 wm_416 wm_2 wm_417) rfl rfl rfl (by decide +kernel) ⟨Nat.le_of_ble_eq_true rfl, Nat.le_of_ble_eq_true rfl⟩) (va_recv (ci := 2) (q0 := 1) hK hP rfl rfl) hP hK hD hA hS rfl hl.1 rfl (Nat.le_of_ble_eq_true rfl) dNs_first_11 ⟨Nat.le_of_ble_eq_true rfl, Nat.le_of_ble_eq_true rfl⟩ (fun r9 u8 H locs hu8 hP hD hS => ?_)
  have hwp := hwp r9 u8 hu8
  obtain ⟨k10, hk10, ek10, hwp⟩ := hwp
  subst ek10
  refine W.eq (g2 := F0 m 14 ls [.ref (a (42 + k10))]) rfl ?_
  refine va_get (D := D) (ci := 3) (C := RCh) (T := TCh) (N := 3) hx hb hts hinCh hown hK hP (42 + k10) (cw_ch hk10) rfl 0 (by decide) lk145 (fun _ h9 => h9) rfl dNs_first_14 ?_
  refine fx_caseq (fun hq11 => ?_) (fun q12 hq11 => ?_)
  · have hwp := hwp.1 hq11
    refine lv_astore_nN hx hb dNs_first_17 rfl hl (by decide) rfl (fun ls hl => ?_)
    have hl : lv_has ls 5 [(3, .null), (0, .ref (a 0)), (1, .int x1), (2, .int x2)] := hl
    refine lv_aload_nN hx hb dNs_first_18 rfl (lv_at hl 0 rfl) ?_
    refine lv_ifnonnullN hx hb dNs_first_19 ?_
    refine lv_iconst (v := (-1)) hx hb dNs_first_22 (by decide) ?_
    exact W.iret (v := (-1)) hx hb hr (fun t ht hW => ⟨⟨(-1), u8, rfl, hwp, uEnd ht hW hP hK hD hS hA⟩, hS.F ht⟩) hS.2.2 dNs_first_23
  · have hwp := hwp.2 q12 hq11
    refine lv_astore_n hx hb dNs_first_17 rfl hl (by decide) rfl (fun ls hl => ?_)
    have hl : lv_has ls 5 [(3, .ref q12), (0, .ref (a 0)), (1, .int x1), (2, .int x2)] := hl
    refine lv_aload_n hx hb dNs_first_18 rfl (lv_at hl 0 rfl) ?_
    refine lv_ifnonnull hx hb dNs_first_19 rfl ?_
    refine lv_aload_n hx hb dNs_first_24 rfl (lv_at hl 0 rfl) ?_
    obtain ⟨hm13, hwp⟩ := hwp
    obtain ⟨km14, hkm14⟩ := cw_ms (a := a) (t := t) hm13
    refine va_get (D := D) (ci := 4) (C := RMs) (T := TMs) (N := 4) hx hb hts hinMs hown hK hP km14 hkm14 rfl 3 (by decide) lk149 (fun _ h9 => h9) rfl dNs_first_25 ?_
    refine fx_caseq (fun hq15 => ?_) (fun q16 hq15 => ?_)
    · have hwp := hwp.1 hq15
      refine lv_ifnonnullN hx hb dNs_first_28 ?_
      refine lv_iconst (v := 0) hx hb dNs_first_31 (by decide) ?_
      refine lv_goto hx hb dNs_first_32 rfl ?_
      exact cut36 u8 x1 x2 q12 0 _ _ _ hwp hP hD hS (lv_sub hl [1, 2, 3, 0] rfl)
    · have hwp := hwp.2 q16 hq15
      refine lv_ifnonnull hx hb dNs_first_28 rfl ?_
      refine lv_iconst (v := 1) hx hb dNs_first_35 (by decide) ?_
      exact cut36 u8 x1 x2 q12 1 _ _ _ hwp hP hD hS (lv_sub hl [1, 2, 3, 0] rfl)
-- NodeServices: public int first(int, int) throws java.lang.IllegalArgumentException, on Ns, thr
def wT_Ns_first_36 (a : Nat → Nat) (E : String) (σ : CS) (y1 : Int32) (y2 : Int32) (y3 : Nat) (z0 : Int32) : Prop :=
  (y3 ∈ σ.2.2 ∧ (y3 ∈ σ.2.2 ∧ False))
def wT_Ns_first (a : Nat → Nat) (E : String) (σ : CS) (x1 x2 : Int32) : Prop :=
  ((wT_Ns_requireChannel a E σ x1 x2) ∨ (∃ P5 : CS → Prop, wP_Ns_requireChannel a P5 σ x1 x2 ∧ (∀ (u6 : CS), P5 u6 → (∃ P7 : Option Nat → CS → Prop, wP_Nw_channel a P7 u6 x1 x2 ∧ (∀ (r9 : Option Nat) (u8 : CS), P7 r9 u8 → (∃ k10 : Nat, k10 < 16 ∧ r9 = some (a (42 + k10)) ∧ ((u8.2.1 0 k10 = none → False) ∧ (∀ q12 : Nat, u8.2.1 0 k10 = some q12 → (q12 ∈ u8.2.2 ∧ ((u8.2.1 2 q12 = none → wT_Ns_first_36 a E u8 x1 x2 q12 0) ∧ (∀ q16 : Nat, u8.2.1 2 q12 = some q16 → wT_Ns_first_36 a E u8 x1 x2 q12 1)))))))))))
abbrev rmT_Ns_first : Room := { frames := 8, cells := 1, slots := 6, locals := 123 }
set_option maxHeartbeats 4000000 in
set_option maxRecDepth 100000 in
theorem tC_Ns_first (l : Launch) (htr : l.stackTraces = false) (D : va_G) (a : Nat → Nat) (t : Nat → ClassId) (σ : CS) (x1 x2 : Int32) (E : String) (hwp : wT_Ns_first a E σ x1 x2) : tMet l yNs_first wsNs_first rmT_Ns_first (va_Pc [.ref (a 0), .int x1, .int x2] (pE D t a σ)) E 1 6 := by
  refine tMet.ofW (cc := cNs_first) (maxL := 5) (ret := (some .int)) (by decide) rfl ?_
  intro p e s m args below meth c s₁ B hml hv hempty
  obtain ⟨rfl, ⟨hP, hK⟩, he⟩ := hv
  have hx := B.exec
  have hb := B.bytes
  have hr := B.returns
  have hts := atoms_spec (ws := wsNs_first) B.pre
  have hown : s.vm.findClass RNs = some m.cls := findClass_of_methodNamed B.named
  have hlocks := B.notSynchronized
  have hinCh : ∀ w ∈ u_ws RCh TCh 3, w ∈ wsNs_first := fun w h => List.mem_cons_of_mem _ (inCh w h)
  have hinMs : ∀ w ∈ u_ws RMs TMs 4, w ∈ wsNs_first := fun w h => List.mem_cons_of_mem _ (inMs w h)
  have hinNs : ∀ w ∈ u_ws RNs TNs 5, w ∈ wsNs_first := fun w h => List.mem_cons_of_mem _ (inNs w h)
  have lk10 := hts _ (List.mem_cons_of_mem _ wm_232)
  have lk135 := hts _ (List.mem_cons_of_mem _ wm_387)
  have lk145 := hts _ (List.mem_cons_of_mem _ wm_43)
  have lk149 := hts _ (List.mem_cons_of_mem _ wm_400)
  have lk152 := hts _ (List.mem_cons_of_mem _ wm_394)
  have hS : va_S (fun _ => False) s.heap s.heap [] := va_S.rf
  have cut36 : ∀ (σ : CS) (y1 : Int32) (y2 : Int32) (y3 : Nat) (z0 : Int32) (H : Heap) (locs : List Loc) (ls : Array Slot), wT_Ns_first_36 a E σ y1 y2 y3 z0 → va_P D clA (cw a t σ) H → va_S (fun _ => False) s.heap H locs → lv_has ls 5 [(0, .ref (a 0)), (1, .int y1), (2, .int y2), (3, .ref y3)] → W p l e (headSpec wsNs_first rmT_Ns_first).room s m ([.ref (a 0), .int x1, .int x2] : List Value).toArray below meth c H locs 0 0 (tE below E ([.ref (a 0), .int x1, .int x2] : List Value).toArray s 1 6) (F0 m 36 ls [.int z0]) := by
    intro σ y1 y2 y3 z0 H locs ls hwp hP hS hl
    refine lv_istore hx hb dNs_first_36 hl (by decide) rfl (fun ls hl => ?_)
    have hl : lv_has ls 5 [(4, .int z0), (0, .ref (a 0)), (1, .int y1), (2, .int y2), (3, .ref y3)] := hl
    refine lv_bipush (v := 100) hx hb dNs_first_38 (by decide) ?_
    refine lv_aload_n hx hb dNs_first_40 rfl (lv_at hl 4 rfl) ?_
    obtain ⟨hm1, hwp⟩ := hwp
    obtain ⟨km2, hkm2⟩ := cw_ms (a := a) (t := t) hm1
    refine va_get (D := D) (ci := 4) (C := RMs) (T := TMs) (N := 4) hx hb hts hinMs hown hK hP km2 hkm2 rfl 0 (by decide) lk135 (fun _ h9 => h9) rfl dNs_first_41 ?_
    refine lv_imul hx hb dNs_first_44 ?_
    refine lv_bipush (v := 10) hx hb dNs_first_45 (by decide) ?_
    refine lv_aload_n hx hb dNs_first_47 rfl (lv_at hl 4 rfl) ?_
    obtain ⟨hm3, hwp⟩ := hwp
    obtain ⟨km4, hkm4⟩ := cw_ms (a := a) (t := t) hm3
    refine va_get (D := D) (ci := 4) (C := RMs) (T := TMs) (N := 4) hx hb hts hinMs hown hK hP km4 hkm4 rfl 1 (by decide) lk152 (fun _ h9 => h9) rfl dNs_first_48 ?_
    refine lv_imul hx hb dNs_first_51 ?_
    refine lv_iadd hx hb dNs_first_52 ?_
    refine lv_iload hx hb dNs_first_53 (lv_at hl 0 rfl) ?_
    refine lv_iadd hx hb dNs_first_55 ?_
    exact False.elim hwp
  have hl := lv_entry ([.ref (a 0), .int x1, .int x2]) (n := 5) (Nat.le_of_ble_eq_true rfl)
  rw [lg_entry_eq]
  generalize (lg_sl ([.ref (a 0), .int x1, .int x2]) ++ List.replicate (5 - (lg_sl ([.ref (a 0), .int x1, .int x2])).length) Slot.unset).toArray = ls at hl ⊢
  have hl : lv_has ls 5 [(0, .ref (a 0)), (1, .int x1), (2, .int x2)] := hl
  refine lv_iload_n hx hb dNs_first_0 rfl (lv_at hl 1 rfl) ?_
  refine lv_iload_n hx hb dNs_first_1 rfl (lv_at hl 2 rfl) ?_
  rcases hwp with hwp | hwp
  · exact tCallS (As := [.int x1, .int x2]) (rest := []) ⟨hx, hb, hml, hown, hts⟩ (tC_Ns_requireChannel l htr D a t σ x1 x2 E hwp) (cwS 2 hts (gdS wm_551 wm_552 wm_1 wm_553) rfl rfl rfl (by decide +kernel) ⟨Nat.le_of_ble_eq_true rfl, Nat.le_of_ble_eq_true rfl⟩) ⟨pE_blind, pPre hP hK he hS⟩ hS rfl hl.1 rfl (Nat.le_of_ble_eq_true rfl) dNs_first_2 ⟨Nat.le_of_ble_eq_true rfl, Nat.le_of_ble_eq_true rfl⟩ (fun q ce H1 hS1 hce hv hcl hz hk => tOut hempty hlocks hce hv hcl (Nat.le_of_ble_eq_true rfl) (Nat.le_of_ble_eq_true rfl))
  · obtain ⟨P5, hP5, hwp⟩ := hwp
    refine pCallSv (As := [.int x1, .int x2]) (rest := []) ⟨hx, hb, hml, hown, hts⟩ (pC_Ns_requireChannel l D a t   σ x1 x2 P5 hP5) (cwS 2 hts (gdS wm_551 wm_552 wm_1 wm_553) rfl rfl rfl (by decide +kernel) ⟨Nat.le_of_ble_eq_true rfl, Nat.le_of_ble_eq_true rfl⟩) hP hK hS rfl hl.1 rfl (Nat.le_of_ble_eq_true rfl) dNs_first_2 ⟨Nat.le_of_ble_eq_true rfl, Nat.le_of_ble_eq_true rfl⟩ (fun u6 H locs hu6 hP hS => ?_)
    have hwp := hwp u6 hu6
    refine lv_aload_n hx hb dNs_first_5 rfl (lv_at hl 0 rfl) ?_
    refine va_get (D := D) (ci := 1) (C := RNs) (T := TNs) (N := 5) hx hb hts hinNs hown hK hP 0 rfl rfl 0 (by decide) lk10 (fun _ h9 => h9) rfl dNs_first_6 ?_
    refine lv_iload_n hx hb dNs_first_9 rfl (lv_at hl 1 rfl) ?_
    refine lv_iload_n hx hb dNs_first_10 rfl (lv_at hl 2 rfl) ?_
    obtain ⟨P7, hP7, hwp⟩ := hwp
    refine pCallVq (As := [.int x1, .int x2]) (rest := []) (C := RNw) ⟨hx, hb, hml, hown, hts⟩ (pC_Nw_channel l D a t   u6 x1 x2 P7 hP7) (cwV 2 hts (gdV wm_591 wm_415 wm_416 wm_2 wm_417) rfl rfl rfl (by decide +kernel) ⟨Nat.le_of_ble_eq_true rfl, Nat.le_of_ble_eq_true rfl⟩) (va_recv (ci := 2) (q0 := 1) hK hP rfl rfl) hP hK hS rfl hl.1 rfl (Nat.le_of_ble_eq_true rfl) dNs_first_11 ⟨Nat.le_of_ble_eq_true rfl, Nat.le_of_ble_eq_true rfl⟩ (fun r9 u8 H locs hu8 hP hS => ?_)
    have hwp := hwp r9 u8 hu8
    obtain ⟨k10, hk10, ek10, hwp⟩ := hwp
    subst ek10
    refine W.eq (g2 := F0 m 14 ls [.ref (a (42 + k10))]) rfl ?_
    refine va_get (D := D) (ci := 3) (C := RCh) (T := TCh) (N := 3) hx hb hts hinCh hown hK hP (42 + k10) (cw_ch hk10) rfl 0 (by decide) lk145 (fun _ h9 => h9) rfl dNs_first_14 ?_
    refine fx_caseq (fun hq11 => ?_) (fun q12 hq11 => ?_)
    · have hwp := hwp.1 hq11
      refine lv_astore_nN hx hb dNs_first_17 rfl hl (by decide) rfl (fun ls hl => ?_)
      have hl : lv_has ls 5 [(3, .null), (0, .ref (a 0)), (1, .int x1), (2, .int x2)] := hl
      refine lv_aload_nN hx hb dNs_first_18 rfl (lv_at hl 0 rfl) ?_
      refine lv_ifnonnullN hx hb dNs_first_19 ?_
      refine lv_iconst (v := (-1)) hx hb dNs_first_22 (by decide) ?_
      exact False.elim hwp
    · have hwp := hwp.2 q12 hq11
      refine lv_astore_n hx hb dNs_first_17 rfl hl (by decide) rfl (fun ls hl => ?_)
      have hl : lv_has ls 5 [(3, .ref q12), (0, .ref (a 0)), (1, .int x1), (2, .int x2)] := hl
      refine lv_aload_n hx hb dNs_first_18 rfl (lv_at hl 0 rfl) ?_
      refine lv_ifnonnull hx hb dNs_first_19 rfl ?_
      refine lv_aload_n hx hb dNs_first_24 rfl (lv_at hl 0 rfl) ?_
      obtain ⟨hm13, hwp⟩ := hwp
      obtain ⟨km14, hkm14⟩ := cw_ms (a := a) (t := t) hm13
      refine va_get (D := D) (ci := 4) (C := RMs) (T := TMs) (N := 4) hx hb hts hinMs hown hK hP km14 hkm14 rfl 3 (by decide) lk149 (fun _ h9 => h9) rfl dNs_first_25 ?_
      refine fx_caseq (fun hq15 => ?_) (fun q16 hq15 => ?_)
      · have hwp := hwp.1 hq15
        refine lv_ifnonnullN hx hb dNs_first_28 ?_
        refine lv_iconst (v := 0) hx hb dNs_first_31 (by decide) ?_
        refine lv_goto hx hb dNs_first_32 rfl ?_
        exact cut36 u8 x1 x2 q12 0 _ _ _ hwp hP hS (lv_sub hl [1, 2, 3, 0] rfl)
      · have hwp := hwp.2 q16 hq15
        refine lv_ifnonnull hx hb dNs_first_28 rfl ?_
        refine lv_iconst (v := 1) hx hb dNs_first_35 (by decide) ?_
        exact cut36 u8 x1 x2 q12 1 _ _ _ hwp hP hS (lv_sub hl [1, 2, 3, 0] rfl)
-- NodeServices: public int waiting(int, int) throws java.lang.IllegalArgumentException, on Ns, ret
def wC_Ns_waiting (a : Nat → Nat) (R : Int32 → CS → Prop) (σ : CS) (x1 x2 : Int32) : Prop :=
  (∃ P1 : CS → Prop, wC_Ns_requireChannel a P1 σ x1 x2 ∧ (∀ (u2 : CS), P1 u2 → (∃ P3 : Option Nat → CS → Prop, wC_Nw_channel a P3 u2 x1 x2 ∧ (∀ (r5 : Option Nat) (u4 : CS), P3 r5 u4 → (∃ k6 : Nat, k6 < 16 ∧ r5 = some (a (42 + k6)) ∧ R (u4.1 40 k6) u4)))))
abbrev wsNs_waiting : List Cond := .code yNs_waiting cNs_waiting 3 (some .int) :: wg
abbrev rmC_Ns_waiting : Room := { frames := 2, cells := 0, slots := 0, locals := 41 }
set_option maxHeartbeats 4000000 in
set_option maxRecDepth 100000 in
theorem kC_Ns_waiting (l : Launch) (D : va_G) (a : Nat → Nat) (A : Nat → Prop) (t : Nat → ClassId) (σ : CS) (x1 x2 : Int32) (R : Int32 → CS → Prop) (hwp : wC_Ns_waiting a R σ x1 x2) : Met l yNs_waiting wsNs_waiting rmC_Ns_waiting (va_Pc [.ref (a 0), .int x1, .int x2] (uI D clA (cT t) A true (cw a t) σ)) (va_Qi R (uI D clA (cT t) A true (cw a t)) A) 0 0 A := by
  refine Met.ofW (cc := cNs_waiting) (maxL := 3) (ret := (some .int)) (by decide) rfl ?_
  intro p e s m args below meth c s₁ B hml hv
  obtain ⟨rfl, ⟨hP, hK, hD, hA⟩⟩ := hv
  have hx := B.exec
  have hb := B.bytes
  have hr := B.returns
  have hts := atoms_spec (ws := wsNs_waiting) B.pre
  have hown : s.vm.findClass RNs = some m.cls := findClass_of_methodNamed B.named
  have hlocks := B.notSynchronized
  have hinCh : ∀ w ∈ u_ws RCh TCh 3, w ∈ wsNs_waiting := fun w h => List.mem_cons_of_mem _ (inCh w h)
  have hinNs : ∀ w ∈ u_ws RNs TNs 5, w ∈ wsNs_waiting := fun w h => List.mem_cons_of_mem _ (inNs w h)
  have lk10 := hts _ (List.mem_cons_of_mem _ wm_232)
  have lk155 := hts _ (List.mem_cons_of_mem _ wm_46)
  have hS : va_S A s.heap s.heap [] := va_S.rf
  have hl := lv_entry ([.ref (a 0), .int x1, .int x2]) (n := 3) (Nat.le_of_ble_eq_true rfl)
  rw [lg_entry_eq]
  generalize (lg_sl ([.ref (a 0), .int x1, .int x2]) ++ List.replicate (3 - (lg_sl ([.ref (a 0), .int x1, .int x2])).length) Slot.unset).toArray = ls at hl ⊢
  have hl : lv_has ls 3 [(0, .ref (a 0)), (1, .int x1), (2, .int x2)] := hl
  refine lv_iload_n hx hb dNs_waiting_0 rfl (lv_at hl 1 rfl) ?_
  refine lv_iload_n hx hb dNs_waiting_1 rfl (lv_at hl 2 rfl) ?_
  obtain ⟨P1, hP1, hwp⟩ := hwp
  refine uCallSv (As := [.int x1, .int x2]) (rest := []) ⟨hx, hb, hml, hown, hts⟩ (kC_Ns_requireChannel l D a A t   σ x1 x2 P1 hP1) (cwS 2 hts (gdS wm_551 wm_552 wm_1 wm_553) rfl rfl rfl (by decide +kernel) ⟨Nat.le_of_ble_eq_true rfl, Nat.le_of_ble_eq_true rfl⟩) hP hK hD hA hS rfl hl.1 rfl (Nat.le_of_ble_eq_true rfl) dNs_waiting_2 ⟨Nat.le_of_ble_eq_true rfl, Nat.le_of_ble_eq_true rfl⟩ (fun u2 H locs hu2 hP hD hS => ?_)
  have hwp := hwp u2 hu2
  refine lv_aload_n hx hb dNs_waiting_5 rfl (lv_at hl 0 rfl) ?_
  refine va_get (D := D) (ci := 1) (C := RNs) (T := TNs) (N := 5) hx hb hts hinNs hown hK hP 0 rfl rfl 0 (by decide) lk10 (fun _ h9 => h9) rfl dNs_waiting_6 ?_
  refine lv_iload_n hx hb dNs_waiting_9 rfl (lv_at hl 1 rfl) ?_
  refine lv_iload_n hx hb dNs_waiting_10 rfl (lv_at hl 2 rfl) ?_
  obtain ⟨P3, hP3, hwp⟩ := hwp
  refine uCallVq (As := [.int x1, .int x2]) (rest := []) (C := RNw) ⟨hx, hb, hml, hown, hts⟩ (kC_Nw_channel l D a A t   u2 x1 x2 P3 hP3) (cwV 2 hts (gdV wm_591 wm_415 wm_416 wm_2 wm_417) rfl rfl rfl (by decide +kernel) ⟨Nat.le_of_ble_eq_true rfl, Nat.le_of_ble_eq_true rfl⟩) (va_recv (ci := 2) (q0 := 1) hK hP rfl rfl) hP hK hD hA hS rfl hl.1 rfl (Nat.le_of_ble_eq_true rfl) dNs_waiting_11 ⟨Nat.le_of_ble_eq_true rfl, Nat.le_of_ble_eq_true rfl⟩ (fun r5 u4 H locs hu4 hP hD hS => ?_)
  have hwp := hwp r5 u4 hu4
  obtain ⟨k6, hk6, ek6, hwp⟩ := hwp
  subst ek6
  refine W.eq (g2 := F0 m 14 ls [.ref (a (42 + k6))]) rfl ?_
  refine va_get (D := D) (ci := 3) (C := RCh) (T := TCh) (N := 3) hx hb hts hinCh hown hK hP (42 + k6) (cw_ch hk6) rfl 2 (by decide) lk155 (fun _ h9 => h9) rfl dNs_waiting_14 ?_
  exact W.iret (v := u4.1 40 k6) hx hb hr (fun t ht hW => ⟨⟨u4.1 40 k6, u4, rfl, hwp, uEnd ht hW hP hK hD hS hA⟩, hS.F ht⟩) hS.2.2 dNs_waiting_17
-- NodeServices: public int waiting(int, int) throws java.lang.IllegalArgumentException, on Ns, thr
def wT_Ns_waiting (a : Nat → Nat) (E : String) (σ : CS) (x1 x2 : Int32) : Prop :=
  ((wT_Ns_requireChannel a E σ x1 x2) ∨ (∃ P1 : CS → Prop, wP_Ns_requireChannel a P1 σ x1 x2 ∧ (∀ (u2 : CS), P1 u2 → (∃ P3 : Option Nat → CS → Prop, wP_Nw_channel a P3 u2 x1 x2 ∧ (∀ (r5 : Option Nat) (u4 : CS), P3 r5 u4 → (∃ k6 : Nat, k6 < 16 ∧ r5 = some (a (42 + k6)) ∧ False))))))
abbrev rmT_Ns_waiting : Room := { frames := 8, cells := 1, slots := 6, locals := 123 }
set_option maxHeartbeats 4000000 in
set_option maxRecDepth 100000 in
theorem tC_Ns_waiting (l : Launch) (htr : l.stackTraces = false) (D : va_G) (a : Nat → Nat) (t : Nat → ClassId) (σ : CS) (x1 x2 : Int32) (E : String) (hwp : wT_Ns_waiting a E σ x1 x2) : tMet l yNs_waiting wsNs_waiting rmT_Ns_waiting (va_Pc [.ref (a 0), .int x1, .int x2] (pE D t a σ)) E 1 6 := by
  refine tMet.ofW (cc := cNs_waiting) (maxL := 3) (ret := (some .int)) (by decide) rfl ?_
  intro p e s m args below meth c s₁ B hml hv hempty
  obtain ⟨rfl, ⟨hP, hK⟩, he⟩ := hv
  have hx := B.exec
  have hb := B.bytes
  have hr := B.returns
  have hts := atoms_spec (ws := wsNs_waiting) B.pre
  have hown : s.vm.findClass RNs = some m.cls := findClass_of_methodNamed B.named
  have hlocks := B.notSynchronized
  have hinCh : ∀ w ∈ u_ws RCh TCh 3, w ∈ wsNs_waiting := fun w h => List.mem_cons_of_mem _ (inCh w h)
  have hinNs : ∀ w ∈ u_ws RNs TNs 5, w ∈ wsNs_waiting := fun w h => List.mem_cons_of_mem _ (inNs w h)
  have lk10 := hts _ (List.mem_cons_of_mem _ wm_232)
  have lk155 := hts _ (List.mem_cons_of_mem _ wm_46)
  have hS : va_S (fun _ => False) s.heap s.heap [] := va_S.rf
  have hl := lv_entry ([.ref (a 0), .int x1, .int x2]) (n := 3) (Nat.le_of_ble_eq_true rfl)
  rw [lg_entry_eq]
  generalize (lg_sl ([.ref (a 0), .int x1, .int x2]) ++ List.replicate (3 - (lg_sl ([.ref (a 0), .int x1, .int x2])).length) Slot.unset).toArray = ls at hl ⊢
  have hl : lv_has ls 3 [(0, .ref (a 0)), (1, .int x1), (2, .int x2)] := hl
  refine lv_iload_n hx hb dNs_waiting_0 rfl (lv_at hl 1 rfl) ?_
  refine lv_iload_n hx hb dNs_waiting_1 rfl (lv_at hl 2 rfl) ?_
  rcases hwp with hwp | hwp
  · exact tCallS (As := [.int x1, .int x2]) (rest := []) ⟨hx, hb, hml, hown, hts⟩ (tC_Ns_requireChannel l htr D a t σ x1 x2 E hwp) (cwS 2 hts (gdS wm_551 wm_552 wm_1 wm_553) rfl rfl rfl (by decide +kernel) ⟨Nat.le_of_ble_eq_true rfl, Nat.le_of_ble_eq_true rfl⟩) ⟨pE_blind, pPre hP hK he hS⟩ hS rfl hl.1 rfl (Nat.le_of_ble_eq_true rfl) dNs_waiting_2 ⟨Nat.le_of_ble_eq_true rfl, Nat.le_of_ble_eq_true rfl⟩ (fun q ce H1 hS1 hce hv hcl hz hk => tOut hempty hlocks hce hv hcl (Nat.le_of_ble_eq_true rfl) (Nat.le_of_ble_eq_true rfl))
  · obtain ⟨P1, hP1, hwp⟩ := hwp
    refine pCallSv (As := [.int x1, .int x2]) (rest := []) ⟨hx, hb, hml, hown, hts⟩ (pC_Ns_requireChannel l D a t   σ x1 x2 P1 hP1) (cwS 2 hts (gdS wm_551 wm_552 wm_1 wm_553) rfl rfl rfl (by decide +kernel) ⟨Nat.le_of_ble_eq_true rfl, Nat.le_of_ble_eq_true rfl⟩) hP hK hS rfl hl.1 rfl (Nat.le_of_ble_eq_true rfl) dNs_waiting_2 ⟨Nat.le_of_ble_eq_true rfl, Nat.le_of_ble_eq_true rfl⟩ (fun u2 H locs hu2 hP hS => ?_)
    have hwp := hwp u2 hu2
    refine lv_aload_n hx hb dNs_waiting_5 rfl (lv_at hl 0 rfl) ?_
    refine va_get (D := D) (ci := 1) (C := RNs) (T := TNs) (N := 5) hx hb hts hinNs hown hK hP 0 rfl rfl 0 (by decide) lk10 (fun _ h9 => h9) rfl dNs_waiting_6 ?_
    refine lv_iload_n hx hb dNs_waiting_9 rfl (lv_at hl 1 rfl) ?_
    refine lv_iload_n hx hb dNs_waiting_10 rfl (lv_at hl 2 rfl) ?_
    obtain ⟨P3, hP3, hwp⟩ := hwp
    refine pCallVq (As := [.int x1, .int x2]) (rest := []) (C := RNw) ⟨hx, hb, hml, hown, hts⟩ (pC_Nw_channel l D a t   u2 x1 x2 P3 hP3) (cwV 2 hts (gdV wm_591 wm_415 wm_416 wm_2 wm_417) rfl rfl rfl (by decide +kernel) ⟨Nat.le_of_ble_eq_true rfl, Nat.le_of_ble_eq_true rfl⟩) (va_recv (ci := 2) (q0 := 1) hK hP rfl rfl) hP hK hS rfl hl.1 rfl (Nat.le_of_ble_eq_true rfl) dNs_waiting_11 ⟨Nat.le_of_ble_eq_true rfl, Nat.le_of_ble_eq_true rfl⟩ (fun r5 u4 H locs hu4 hP hS => ?_)
    have hwp := hwp r5 u4 hu4
    obtain ⟨k6, hk6, ek6, hwp⟩ := hwp
    subst ek6
    refine W.eq (g2 := F0 m 14 ls [.ref (a (42 + k6))]) rfl ?_
    refine va_get (D := D) (ci := 3) (C := RCh) (T := TCh) (N := 3) hx hb hts hinCh hown hK hP (42 + k6) (cw_ch hk6) rfl 2 (by decide) lk155 (fun _ h9 => h9) rfl dNs_waiting_14 ?_
    exact False.elim hwp
-- NodeServices: public int about(int, int) throws java.lang.IllegalArgumentException, on Ns, ret
def wC_Ns_about (a : Nat → Nat) (R : Int32 → CS → Prop) (σ : CS) (x1 x2 : Int32) : Prop :=
  (∃ P1 : CS → Prop, wC_Ns_requireService a P1 σ x1 ∧ (∀ (u2 : CS), P1 u2 → (∃ P3 : CS → Prop, wC_Ns_requireNode a P3 u2 x2 ∧ (∀ (u4 : CS), P3 u4 → (vp_in x1 5 ∧ ((x1 = 0 → (∃ P11 : Int32 → CS → Prop, wC_St_condition a P11 u4 x2 ∧ (∀ (r13 : Int32) (u12 : CS), P11 r13 u12 → R r13 u12))) ∧ (x1 = 1 → (∃ P14 : Int32 → CS → Prop, wC_Tk_condition a P14 u4 x2 ∧ (∀ (r16 : Int32) (u15 : CS), P14 r16 u15 → R r16 u15))) ∧ (x1 = 2 → (∃ P17 : Int32 → CS → Prop, wC_Tr_condition a P17 u4 x2 ∧ (∀ (r19 : Int32) (u18 : CS), P17 r19 u18 → R r19 u18))) ∧ (x1 = 3 → (∃ P20 : Int32 → CS → Prop, wC_El_condition a P20 u4 x2 ∧ (∀ (r22 : Int32) (u21 : CS), P20 r22 u21 → R r22 u21))) ∧ (x1 = 4 → (∃ P23 : Int32 → CS → Prop, wC_Wk_condition a P23 u4 x2 ∧ (∀ (r25 : Int32) (u24 : CS), P23 r25 u24 → R r25 u24)))))))))
abbrev wsNs_about : List Cond := .code yNs_about cNs_about 3 (some .int) :: wg
abbrev rmC_Ns_about : Room := { frames := 2, cells := 0, slots := 0, locals := 42 }
set_option maxHeartbeats 4000000 in
set_option maxRecDepth 100000 in
theorem kC_Ns_about (l : Launch) (D : va_G) (a : Nat → Nat) (A : Nat → Prop) (t : Nat → ClassId) (σ : CS) (x1 x2 : Int32) (R : Int32 → CS → Prop) (hwp : wC_Ns_about a R σ x1 x2) : Met l yNs_about wsNs_about rmC_Ns_about (va_Pc [.ref (a 0), .int x1, .int x2] (fun U => uI D clA (cT t) A true (cw a t) σ U ∧ eX U)) (va_Qi R (uI D clA (cT t) A true (cw a t)) A) 0 0 A := by
  refine Met.ofW (cc := cNs_about) (maxL := 3) (ret := (some .int)) (by decide) rfl ?_
  intro p e s m args below meth c s₁ B hml hv
  obtain ⟨rfl, ⟨hP, hK, hD, hA⟩, he⟩ := hv
  have hx := B.exec
  have hb := B.bytes
  have hr := B.returns
  have hts := atoms_spec (ws := wsNs_about) B.pre
  have hown : s.vm.findClass RNs = some m.cls := findClass_of_methodNamed B.named
  have hlocks := B.notSynchronized
  have hinNs : ∀ w ∈ u_ws RNs TNs 5, w ∈ wsNs_about := fun w h => List.mem_cons_of_mem _ (inNs w h)
  have lk51 := hts _ (List.mem_cons_of_mem _ wm_236)
  have hS : va_S A s.heap s.heap [] := va_S.rf
  have hl := lv_entry ([.ref (a 0), .int x1, .int x2]) (n := 3) (Nat.le_of_ble_eq_true rfl)
  rw [lg_entry_eq]
  generalize (lg_sl ([.ref (a 0), .int x1, .int x2]) ++ List.replicate (3 - (lg_sl ([.ref (a 0), .int x1, .int x2])).length) Slot.unset).toArray = ls at hl ⊢
  have hl : lv_has ls 3 [(0, .ref (a 0)), (1, .int x1), (2, .int x2)] := hl
  refine lv_iload_n hx hb dNs_about_0 rfl (lv_at hl 1 rfl) ?_
  obtain ⟨P1, hP1, hwp⟩ := hwp
  refine uCallSv (As := [.int x1]) (rest := []) ⟨hx, hb, hml, hown, hts⟩ (kC_Ns_requireService l D a A t   σ x1 P1 hP1) (cwS 1 hts (gdS wm_687 wm_688 wm_1 wm_689) rfl rfl rfl (by decide +kernel) ⟨Nat.le_of_ble_eq_true rfl, Nat.le_of_ble_eq_true rfl⟩) hP hK hD hA hS rfl hl.1 rfl (Nat.le_of_ble_eq_true rfl) dNs_about_1 ⟨Nat.le_of_ble_eq_true rfl, Nat.le_of_ble_eq_true rfl⟩ (fun u2 H locs hu2 hP hD hS => ?_)
  have hwp := hwp u2 hu2
  refine lv_iload_n hx hb dNs_about_4 rfl (lv_at hl 2 rfl) ?_
  obtain ⟨P3, hP3, hwp⟩ := hwp
  refine uCallSv (As := [.int x2]) (rest := []) ⟨hx, hb, hml, hown, hts⟩ (kC_Ns_requireNode l D a A t   u2 x2 P3 hP3) (cwS 1 hts (gdS wm_339 wm_340 wm_1 wm_341) rfl rfl rfl (by decide +kernel) ⟨Nat.le_of_ble_eq_true rfl, Nat.le_of_ble_eq_true rfl⟩) hP hK hD hA hS rfl hl.1 rfl (Nat.le_of_ble_eq_true rfl) dNs_about_5 ⟨Nat.le_of_ble_eq_true rfl, Nat.le_of_ble_eq_true rfl⟩ (fun u4 H locs hu4 hP hD hS => ?_)
  have hwp := hwp u4 hu4
  refine lv_aload_n hx hb dNs_about_8 rfl (lv_at hl 0 rfl) ?_
  refine va_get (D := D) (ci := 1) (C := RNs) (T := TNs) (N := 5) hx hb hts hinNs hown hK hP 0 rfl rfl 4 (by decide) lk51 (fun _ h9 => h9) rfl dNs_about_9 ?_
  refine lv_iload_n hx hb dNs_about_12 rfl (lv_at hl 1 rfl) ?_
  obtain ⟨hi5, hwp⟩ := hwp
  refine va_aldq hx hb hK hP 4 4 rfl rfl hi5 dNs_about_13 ?_
  rcases fx_in5 hi5 with e6 | e7 | e8 | e9 | e10
  · have hwp := hwp.1 e6
    refine W.eq (g2 := F0 m 14 ls [.ref (a 5)]) (by rw [e6]; rfl) ?_
    refine lv_iload_n hx hb dNs_about_14 rfl (lv_at hl 2 rfl) ?_
    obtain ⟨P11, hP11, hwp⟩ := hwp
    refine uCallUi (As := [.int x2]) (rest := []) (C := RSt) ⟨hx, hb, hml, hown, hts⟩ (kC_St_condition l D a A t   u4 x2 P11 hP11) (va_cwA (x := ⟨"NodeServices$Service", "condition", "(I)I"⟩) (owner := "NodeServices$Service") 1 hts (gdU wm_691 wm_693 wm_697 wm_698 wm_5 wm_699) rfl rfl rfl (he.decl (mem_tb 692 (by decide +kernel))) (by decide +kernel) ⟨Nat.le_of_ble_eq_true rfl, Nat.le_of_ble_eq_true rfl⟩) (va_recv (ci := 6) (q0 := 5) hK hP rfl rfl) hP hK hD hA hS rfl hl.1 rfl (Nat.le_of_ble_eq_true rfl) dNs_about_15 ⟨Nat.le_of_ble_eq_true rfl, Nat.le_of_ble_eq_true rfl⟩ (fun r13 u12 H locs hu12 hP hD hS => ?_)
    have hwp := hwp r13 u12 hu12
    exact W.iret (v := r13) hx hb hr (fun t ht hW => ⟨⟨r13, u12, rfl, hwp, uEnd ht hW hP hK hD hS hA⟩, hS.F ht⟩) hS.2.2 dNs_about_18
  · have hwp := hwp.2.1 e7
    refine W.eq (g2 := F0 m 14 ls [.ref (a 11)]) (by rw [e7]; rfl) ?_
    refine lv_iload_n hx hb dNs_about_14 rfl (lv_at hl 2 rfl) ?_
    obtain ⟨P14, hP14, hwp⟩ := hwp
    refine uCallUi (As := [.int x2]) (rest := []) (C := RTk) ⟨hx, hb, hml, hown, hts⟩ (kC_Tk_condition l D a A t   u4 x2 P14 hP14) (va_cwA (x := ⟨"NodeServices$Service", "condition", "(I)I"⟩) (owner := "NodeServices$Service") 1 hts (gdU wm_691 wm_693 wm_700 wm_698 wm_5 wm_699) rfl rfl rfl (he.decl (mem_tb 692 (by decide +kernel))) (by decide +kernel) ⟨Nat.le_of_ble_eq_true rfl, Nat.le_of_ble_eq_true rfl⟩) (va_recv (ci := 7) (q0 := 11) hK hP rfl rfl) hP hK hD hA hS rfl hl.1 rfl (Nat.le_of_ble_eq_true rfl) dNs_about_15 ⟨Nat.le_of_ble_eq_true rfl, Nat.le_of_ble_eq_true rfl⟩ (fun r16 u15 H locs hu15 hP hD hS => ?_)
    have hwp := hwp r16 u15 hu15
    exact W.iret (v := r16) hx hb hr (fun t ht hW => ⟨⟨r16, u15, rfl, hwp, uEnd ht hW hP hK hD hS hA⟩, hS.F ht⟩) hS.2.2 dNs_about_18
  · have hwp := hwp.2.2.1 e8
    refine W.eq (g2 := F0 m 14 ls [.ref (a 19)]) (by rw [e8]; rfl) ?_
    refine lv_iload_n hx hb dNs_about_14 rfl (lv_at hl 2 rfl) ?_
    obtain ⟨P17, hP17, hwp⟩ := hwp
    refine uCallUi (As := [.int x2]) (rest := []) (C := RTr) ⟨hx, hb, hml, hown, hts⟩ (kC_Tr_condition l D a A t   u4 x2 P17 hP17) (va_cwA (x := ⟨"NodeServices$Service", "condition", "(I)I"⟩) (owner := "NodeServices$Service") 1 hts (gdU wm_691 wm_693 wm_701 wm_698 wm_5 wm_699) rfl rfl rfl (he.decl (mem_tb 692 (by decide +kernel))) (by decide +kernel) ⟨Nat.le_of_ble_eq_true rfl, Nat.le_of_ble_eq_true rfl⟩) (va_recv (ci := 8) (q0 := 19) hK hP rfl rfl) hP hK hD hA hS rfl hl.1 rfl (Nat.le_of_ble_eq_true rfl) dNs_about_15 ⟨Nat.le_of_ble_eq_true rfl, Nat.le_of_ble_eq_true rfl⟩ (fun r19 u18 H locs hu18 hP hD hS => ?_)
    have hwp := hwp r19 u18 hu18
    exact W.iret (v := r19) hx hb hr (fun t ht hW => ⟨⟨r19, u18, rfl, hwp, uEnd ht hW hP hK hD hS hA⟩, hS.F ht⟩) hS.2.2 dNs_about_18
  · have hwp := hwp.2.2.2.1 e9
    refine W.eq (g2 := F0 m 14 ls [.ref (a 24)]) (by rw [e9]; rfl) ?_
    refine lv_iload_n hx hb dNs_about_14 rfl (lv_at hl 2 rfl) ?_
    obtain ⟨P20, hP20, hwp⟩ := hwp
    refine uCallUi (As := [.int x2]) (rest := []) (C := REl) ⟨hx, hb, hml, hown, hts⟩ (kC_El_condition l D a A t   u4 x2 P20 hP20) (va_cwA (x := ⟨"NodeServices$Service", "condition", "(I)I"⟩) (owner := "NodeServices$Service") 1 hts (gdU wm_691 wm_693 wm_694 wm_695 wm_10 wm_696) rfl rfl rfl (he.decl (mem_tb 692 (by decide +kernel))) (by decide +kernel) ⟨Nat.le_of_ble_eq_true rfl, Nat.le_of_ble_eq_true rfl⟩) (va_recv (ci := 9) (q0 := 24) hK hP rfl rfl) hP hK hD hA hS rfl hl.1 rfl (Nat.le_of_ble_eq_true rfl) dNs_about_15 ⟨Nat.le_of_ble_eq_true rfl, Nat.le_of_ble_eq_true rfl⟩ (fun r22 u21 H locs hu21 hP hD hS => ?_)
    have hwp := hwp r22 u21 hu21
    exact W.iret (v := r22) hx hb hr (fun t ht hW => ⟨⟨r22, u21, rfl, hwp, uEnd ht hW hP hK hD hS hA⟩, hS.F ht⟩) hS.2.2 dNs_about_18
  · have hwp := hwp.2.2.2.2 e10
    refine W.eq (g2 := F0 m 14 ls [.ref (a 38)]) (by rw [e10]; rfl) ?_
    refine lv_iload_n hx hb dNs_about_14 rfl (lv_at hl 2 rfl) ?_
    obtain ⟨P23, hP23, hwp⟩ := hwp
    refine uCallUi (As := [.int x2]) (rest := []) (C := RWk) ⟨hx, hb, hml, hown, hts⟩ (kC_Wk_condition l D a A t   u4 x2 P23 hP23) (va_cwA (x := ⟨"NodeServices$Service", "condition", "(I)I"⟩) (owner := "NodeServices$Service") 1 hts (gdU wm_691 wm_693 wm_702 wm_703 wm_12 wm_704) rfl rfl rfl (he.decl (mem_tb 692 (by decide +kernel))) (by decide +kernel) ⟨Nat.le_of_ble_eq_true rfl, Nat.le_of_ble_eq_true rfl⟩) (va_recv (ci := 10) (q0 := 38) hK hP rfl rfl) hP hK hD hA hS rfl hl.1 rfl (Nat.le_of_ble_eq_true rfl) dNs_about_15 ⟨Nat.le_of_ble_eq_true rfl, Nat.le_of_ble_eq_true rfl⟩ (fun r25 u24 H locs hu24 hP hD hS => ?_)
    have hwp := hwp r25 u24 hu24
    exact W.iret (v := r25) hx hb hr (fun t ht hW => ⟨⟨r25, u24, rfl, hwp, uEnd ht hW hP hK hD hS hA⟩, hS.F ht⟩) hS.2.2 dNs_about_18
-- NodeServices: public int about(int, int) throws java.lang.IllegalArgumentException, on Ns, thr
def wT_Ns_about (a : Nat → Nat) (E : String) (σ : CS) (x1 x2 : Int32) : Prop :=
  ((wT_Ns_requireService a E σ x1) ∨ (∃ P1 : CS → Prop, wP_Ns_requireService a P1 σ x1 ∧ (∀ (u2 : CS), P1 u2 → ((wT_Ns_requireNode a E u2 x2) ∨ (∃ P3 : CS → Prop, wP_Ns_requireNode a P3 u2 x2 ∧ (∀ (u4 : CS), P3 u4 → (vp_in x1 5 ∧ ((x1 = 0 → False) ∧ (x1 = 1 → False) ∧ (x1 = 2 → False) ∧ (x1 = 3 → False) ∧ (x1 = 4 → False)))))))))
abbrev rmT_Ns_about : Room := { frames := 7, cells := 1, slots := 6, locals := 102 }
set_option maxHeartbeats 4000000 in
set_option maxRecDepth 100000 in
theorem tC_Ns_about (l : Launch) (htr : l.stackTraces = false) (D : va_G) (a : Nat → Nat) (t : Nat → ClassId) (σ : CS) (x1 x2 : Int32) (E : String) (hwp : wT_Ns_about a E σ x1 x2) : tMet l yNs_about wsNs_about rmT_Ns_about (va_Pc [.ref (a 0), .int x1, .int x2] (pE D t a σ)) E 1 6 := by
  refine tMet.ofW (cc := cNs_about) (maxL := 3) (ret := (some .int)) (by decide) rfl ?_
  intro p e s m args below meth c s₁ B hml hv hempty
  obtain ⟨rfl, ⟨hP, hK⟩, he⟩ := hv
  have hx := B.exec
  have hb := B.bytes
  have hr := B.returns
  have hts := atoms_spec (ws := wsNs_about) B.pre
  have hown : s.vm.findClass RNs = some m.cls := findClass_of_methodNamed B.named
  have hlocks := B.notSynchronized
  have hinNs : ∀ w ∈ u_ws RNs TNs 5, w ∈ wsNs_about := fun w h => List.mem_cons_of_mem _ (inNs w h)
  have lk51 := hts _ (List.mem_cons_of_mem _ wm_236)
  have hS : va_S (fun _ => False) s.heap s.heap [] := va_S.rf
  have hl := lv_entry ([.ref (a 0), .int x1, .int x2]) (n := 3) (Nat.le_of_ble_eq_true rfl)
  rw [lg_entry_eq]
  generalize (lg_sl ([.ref (a 0), .int x1, .int x2]) ++ List.replicate (3 - (lg_sl ([.ref (a 0), .int x1, .int x2])).length) Slot.unset).toArray = ls at hl ⊢
  have hl : lv_has ls 3 [(0, .ref (a 0)), (1, .int x1), (2, .int x2)] := hl
  refine lv_iload_n hx hb dNs_about_0 rfl (lv_at hl 1 rfl) ?_
  rcases hwp with hwp | hwp
  · exact tCallS (As := [.int x1]) (rest := []) ⟨hx, hb, hml, hown, hts⟩ (tC_Ns_requireService l htr D a t σ x1 E hwp) (cwS 1 hts (gdS wm_687 wm_688 wm_1 wm_689) rfl rfl rfl (by decide +kernel) ⟨Nat.le_of_ble_eq_true rfl, Nat.le_of_ble_eq_true rfl⟩) ⟨pE_blind, pPre hP hK he hS⟩ hS rfl hl.1 rfl (Nat.le_of_ble_eq_true rfl) dNs_about_1 ⟨Nat.le_of_ble_eq_true rfl, Nat.le_of_ble_eq_true rfl⟩ (fun q ce H1 hS1 hce hv hcl hz hk => tOut hempty hlocks hce hv hcl (Nat.le_of_ble_eq_true rfl) (Nat.le_of_ble_eq_true rfl))
  · obtain ⟨P1, hP1, hwp⟩ := hwp
    refine pCallSv (As := [.int x1]) (rest := []) ⟨hx, hb, hml, hown, hts⟩ (pC_Ns_requireService l D a t   σ x1 P1 hP1) (cwS 1 hts (gdS wm_687 wm_688 wm_1 wm_689) rfl rfl rfl (by decide +kernel) ⟨Nat.le_of_ble_eq_true rfl, Nat.le_of_ble_eq_true rfl⟩) hP hK hS rfl hl.1 rfl (Nat.le_of_ble_eq_true rfl) dNs_about_1 ⟨Nat.le_of_ble_eq_true rfl, Nat.le_of_ble_eq_true rfl⟩ (fun u2 H locs hu2 hP hS => ?_)
    have hwp := hwp u2 hu2
    refine lv_iload_n hx hb dNs_about_4 rfl (lv_at hl 2 rfl) ?_
    rcases hwp with hwp | hwp
    · exact tCallS (As := [.int x2]) (rest := []) ⟨hx, hb, hml, hown, hts⟩ (tC_Ns_requireNode l htr D a t u2 x2 E hwp) (cwS 1 hts (gdS wm_339 wm_340 wm_1 wm_341) rfl rfl rfl (by decide +kernel) ⟨Nat.le_of_ble_eq_true rfl, Nat.le_of_ble_eq_true rfl⟩) ⟨pE_blind, pPre hP hK he hS⟩ hS rfl hl.1 rfl (Nat.le_of_ble_eq_true rfl) dNs_about_5 ⟨Nat.le_of_ble_eq_true rfl, Nat.le_of_ble_eq_true rfl⟩ (fun q ce H1 hS1 hce hv hcl hz hk => tOut hempty hlocks hce hv hcl (Nat.le_of_ble_eq_true rfl) (Nat.le_of_ble_eq_true rfl))
    · obtain ⟨P3, hP3, hwp⟩ := hwp
      refine pCallSv (As := [.int x2]) (rest := []) ⟨hx, hb, hml, hown, hts⟩ (pC_Ns_requireNode l D a t   u2 x2 P3 hP3) (cwS 1 hts (gdS wm_339 wm_340 wm_1 wm_341) rfl rfl rfl (by decide +kernel) ⟨Nat.le_of_ble_eq_true rfl, Nat.le_of_ble_eq_true rfl⟩) hP hK hS rfl hl.1 rfl (Nat.le_of_ble_eq_true rfl) dNs_about_5 ⟨Nat.le_of_ble_eq_true rfl, Nat.le_of_ble_eq_true rfl⟩ (fun u4 H locs hu4 hP hS => ?_)
      have hwp := hwp u4 hu4
      refine lv_aload_n hx hb dNs_about_8 rfl (lv_at hl 0 rfl) ?_
      refine va_get (D := D) (ci := 1) (C := RNs) (T := TNs) (N := 5) hx hb hts hinNs hown hK hP 0 rfl rfl 4 (by decide) lk51 (fun _ h9 => h9) rfl dNs_about_9 ?_
      refine lv_iload_n hx hb dNs_about_12 rfl (lv_at hl 1 rfl) ?_
      obtain ⟨hi5, hwp⟩ := hwp
      refine va_aldq hx hb hK hP 4 4 rfl rfl hi5 dNs_about_13 ?_
      rcases fx_in5 hi5 with e6 | e7 | e8 | e9 | e10
      · have hwp := hwp.1 e6
        refine W.eq (g2 := F0 m 14 ls [.ref (a 5)]) (by rw [e6]; rfl) ?_
        refine lv_iload_n hx hb dNs_about_14 rfl (lv_at hl 2 rfl) ?_
        exact False.elim hwp
      · have hwp := hwp.2.1 e7
        refine W.eq (g2 := F0 m 14 ls [.ref (a 11)]) (by rw [e7]; rfl) ?_
        refine lv_iload_n hx hb dNs_about_14 rfl (lv_at hl 2 rfl) ?_
        exact False.elim hwp
      · have hwp := hwp.2.2.1 e8
        refine W.eq (g2 := F0 m 14 ls [.ref (a 19)]) (by rw [e8]; rfl) ?_
        refine lv_iload_n hx hb dNs_about_14 rfl (lv_at hl 2 rfl) ?_
        exact False.elim hwp
      · have hwp := hwp.2.2.2.1 e9
        refine W.eq (g2 := F0 m 14 ls [.ref (a 24)]) (by rw [e9]; rfl) ?_
        refine lv_iload_n hx hb dNs_about_14 rfl (lv_at hl 2 rfl) ?_
        exact False.elim hwp
      · have hwp := hwp.2.2.2.2 e10
        refine W.eq (g2 := F0 m 14 ls [.ref (a 38)]) (by rw [e10]; rfl) ?_
        refine lv_iload_n hx hb dNs_about_14 rfl (lv_at hl 2 rfl) ?_
        exact False.elim hwp
-- NodeServices: public int more(int, int) throws java.lang.IllegalArgumentException, on Ns, ret
def wC_Ns_more (a : Nat → Nat) (R : Int32 → CS → Prop) (σ : CS) (x1 x2 : Int32) : Prop :=
  (∃ P1 : CS → Prop, wC_Ns_requireService a P1 σ x1 ∧ (∀ (u2 : CS), P1 u2 → (∃ P3 : CS → Prop, wC_Ns_requireNode a P3 u2 x2 ∧ (∀ (u4 : CS), P3 u4 → (vp_in x1 5 ∧ ((x1 = 0 → (∃ P11 : Int32 → CS → Prop, wC_St_detail a P11 u4 x2 ∧ (∀ (r13 : Int32) (u12 : CS), P11 r13 u12 → R r13 u12))) ∧ (x1 = 1 → (∃ P14 : Int32 → CS → Prop, wC_Tk_detail a P14 u4 x2 ∧ (∀ (r16 : Int32) (u15 : CS), P14 r16 u15 → R r16 u15))) ∧ (x1 = 2 → (∃ P17 : Int32 → CS → Prop, wC_Tr_detail a P17 u4 x2 ∧ (∀ (r19 : Int32) (u18 : CS), P17 r19 u18 → R r19 u18))) ∧ (x1 = 3 → (∃ P20 : Int32 → CS → Prop, wC_El_detail a P20 u4 x2 ∧ (∀ (r22 : Int32) (u21 : CS), P20 r22 u21 → R r22 u21))) ∧ (x1 = 4 → (∃ P23 : Int32 → CS → Prop, wC_Wk_detail a P23 u4 x2 ∧ (∀ (r25 : Int32) (u24 : CS), P23 r25 u24 → R r25 u24)))))))))
abbrev wsNs_more : List Cond := .code yNs_more cNs_more 3 (some .int) :: wg
abbrev rmC_Ns_more : Room := { frames := 1, cells := 0, slots := 0, locals := 21 }
set_option maxHeartbeats 4000000 in
set_option maxRecDepth 100000 in
theorem kC_Ns_more (l : Launch) (D : va_G) (a : Nat → Nat) (A : Nat → Prop) (t : Nat → ClassId) (σ : CS) (x1 x2 : Int32) (R : Int32 → CS → Prop) (hwp : wC_Ns_more a R σ x1 x2) : Met l yNs_more wsNs_more rmC_Ns_more (va_Pc [.ref (a 0), .int x1, .int x2] (fun U => uI D clA (cT t) A true (cw a t) σ U ∧ eX U)) (va_Qi R (uI D clA (cT t) A true (cw a t)) A) 0 0 A := by
  refine Met.ofW (cc := cNs_more) (maxL := 3) (ret := (some .int)) (by decide) rfl ?_
  intro p e s m args below meth c s₁ B hml hv
  obtain ⟨rfl, ⟨hP, hK, hD, hA⟩, he⟩ := hv
  have hx := B.exec
  have hb := B.bytes
  have hr := B.returns
  have hts := atoms_spec (ws := wsNs_more) B.pre
  have hown : s.vm.findClass RNs = some m.cls := findClass_of_methodNamed B.named
  have hlocks := B.notSynchronized
  have hinNs : ∀ w ∈ u_ws RNs TNs 5, w ∈ wsNs_more := fun w h => List.mem_cons_of_mem _ (inNs w h)
  have lk51 := hts _ (List.mem_cons_of_mem _ wm_236)
  have hS : va_S A s.heap s.heap [] := va_S.rf
  have hl := lv_entry ([.ref (a 0), .int x1, .int x2]) (n := 3) (Nat.le_of_ble_eq_true rfl)
  rw [lg_entry_eq]
  generalize (lg_sl ([.ref (a 0), .int x1, .int x2]) ++ List.replicate (3 - (lg_sl ([.ref (a 0), .int x1, .int x2])).length) Slot.unset).toArray = ls at hl ⊢
  have hl : lv_has ls 3 [(0, .ref (a 0)), (1, .int x1), (2, .int x2)] := hl
  refine lv_iload_n hx hb dNs_more_0 rfl (lv_at hl 1 rfl) ?_
  obtain ⟨P1, hP1, hwp⟩ := hwp
  refine uCallSv (As := [.int x1]) (rest := []) ⟨hx, hb, hml, hown, hts⟩ (kC_Ns_requireService l D a A t   σ x1 P1 hP1) (cwS 1 hts (gdS wm_687 wm_688 wm_1 wm_689) rfl rfl rfl (by decide +kernel) ⟨Nat.le_of_ble_eq_true rfl, Nat.le_of_ble_eq_true rfl⟩) hP hK hD hA hS rfl hl.1 rfl (Nat.le_of_ble_eq_true rfl) dNs_more_1 ⟨Nat.le_of_ble_eq_true rfl, Nat.le_of_ble_eq_true rfl⟩ (fun u2 H locs hu2 hP hD hS => ?_)
  have hwp := hwp u2 hu2
  refine lv_iload_n hx hb dNs_more_4 rfl (lv_at hl 2 rfl) ?_
  obtain ⟨P3, hP3, hwp⟩ := hwp
  refine uCallSv (As := [.int x2]) (rest := []) ⟨hx, hb, hml, hown, hts⟩ (kC_Ns_requireNode l D a A t   u2 x2 P3 hP3) (cwS 1 hts (gdS wm_339 wm_340 wm_1 wm_341) rfl rfl rfl (by decide +kernel) ⟨Nat.le_of_ble_eq_true rfl, Nat.le_of_ble_eq_true rfl⟩) hP hK hD hA hS rfl hl.1 rfl (Nat.le_of_ble_eq_true rfl) dNs_more_5 ⟨Nat.le_of_ble_eq_true rfl, Nat.le_of_ble_eq_true rfl⟩ (fun u4 H locs hu4 hP hD hS => ?_)
  have hwp := hwp u4 hu4
  refine lv_aload_n hx hb dNs_more_8 rfl (lv_at hl 0 rfl) ?_
  refine va_get (D := D) (ci := 1) (C := RNs) (T := TNs) (N := 5) hx hb hts hinNs hown hK hP 0 rfl rfl 4 (by decide) lk51 (fun _ h9 => h9) rfl dNs_more_9 ?_
  refine lv_iload_n hx hb dNs_more_12 rfl (lv_at hl 1 rfl) ?_
  obtain ⟨hi5, hwp⟩ := hwp
  refine va_aldq hx hb hK hP 4 4 rfl rfl hi5 dNs_more_13 ?_
  rcases fx_in5 hi5 with e6 | e7 | e8 | e9 | e10
  · have hwp := hwp.1 e6
    refine W.eq (g2 := F0 m 14 ls [.ref (a 5)]) (by rw [e6]; rfl) ?_
    refine lv_iload_n hx hb dNs_more_14 rfl (lv_at hl 2 rfl) ?_
    obtain ⟨P11, hP11, hwp⟩ := hwp
    refine uCallUi (As := [.int x2]) (rest := []) (C := RSt) ⟨hx, hb, hml, hown, hts⟩ (kC_St_detail l D a A t   u4 x2 P11 hP11) (va_cwA (x := ⟨"NodeServices$Service", "detail", "(I)I"⟩) (owner := "NodeServices$Service") 1 hts (gdU wm_712 wm_714 wm_718 wm_719 wm_6 wm_720) rfl rfl rfl (he.decl (mem_tb 713 (by decide +kernel))) (by decide +kernel) ⟨Nat.le_of_ble_eq_true rfl, Nat.le_of_ble_eq_true rfl⟩) (va_recv (ci := 6) (q0 := 5) hK hP rfl rfl) hP hK hD hA hS rfl hl.1 rfl (Nat.le_of_ble_eq_true rfl) dNs_more_15 ⟨Nat.le_of_ble_eq_true rfl, Nat.le_of_ble_eq_true rfl⟩ (fun r13 u12 H locs hu12 hP hD hS => ?_)
    have hwp := hwp r13 u12 hu12
    exact W.iret (v := r13) hx hb hr (fun t ht hW => ⟨⟨r13, u12, rfl, hwp, uEnd ht hW hP hK hD hS hA⟩, hS.F ht⟩) hS.2.2 dNs_more_18
  · have hwp := hwp.2.1 e7
    refine W.eq (g2 := F0 m 14 ls [.ref (a 11)]) (by rw [e7]; rfl) ?_
    refine lv_iload_n hx hb dNs_more_14 rfl (lv_at hl 2 rfl) ?_
    obtain ⟨P14, hP14, hwp⟩ := hwp
    refine uCallUi (As := [.int x2]) (rest := []) (C := RTk) ⟨hx, hb, hml, hown, hts⟩ (kC_Tk_detail l D a A t   u4 x2 P14 hP14) (va_cwA (x := ⟨"NodeServices$Service", "detail", "(I)I"⟩) (owner := "NodeServices$Service") 1 hts (gdU wm_712 wm_714 wm_721 wm_722 wm_7 wm_723) rfl rfl rfl (he.decl (mem_tb 713 (by decide +kernel))) (by decide +kernel) ⟨Nat.le_of_ble_eq_true rfl, Nat.le_of_ble_eq_true rfl⟩) (va_recv (ci := 7) (q0 := 11) hK hP rfl rfl) hP hK hD hA hS rfl hl.1 rfl (Nat.le_of_ble_eq_true rfl) dNs_more_15 ⟨Nat.le_of_ble_eq_true rfl, Nat.le_of_ble_eq_true rfl⟩ (fun r16 u15 H locs hu15 hP hD hS => ?_)
    have hwp := hwp r16 u15 hu15
    exact W.iret (v := r16) hx hb hr (fun t ht hW => ⟨⟨r16, u15, rfl, hwp, uEnd ht hW hP hK hD hS hA⟩, hS.F ht⟩) hS.2.2 dNs_more_18
  · have hwp := hwp.2.2.1 e8
    refine W.eq (g2 := F0 m 14 ls [.ref (a 19)]) (by rw [e8]; rfl) ?_
    refine lv_iload_n hx hb dNs_more_14 rfl (lv_at hl 2 rfl) ?_
    obtain ⟨P17, hP17, hwp⟩ := hwp
    refine uCallUi (As := [.int x2]) (rest := []) (C := RTr) ⟨hx, hb, hml, hown, hts⟩ (kC_Tr_detail l D a A t   u4 x2 P17 hP17) (va_cwA (x := ⟨"NodeServices$Service", "detail", "(I)I"⟩) (owner := "NodeServices$Service") 1 hts (gdU wm_712 wm_714 wm_724 wm_725 wm_9 wm_726) rfl rfl rfl (he.decl (mem_tb 713 (by decide +kernel))) (by decide +kernel) ⟨Nat.le_of_ble_eq_true rfl, Nat.le_of_ble_eq_true rfl⟩) (va_recv (ci := 8) (q0 := 19) hK hP rfl rfl) hP hK hD hA hS rfl hl.1 rfl (Nat.le_of_ble_eq_true rfl) dNs_more_15 ⟨Nat.le_of_ble_eq_true rfl, Nat.le_of_ble_eq_true rfl⟩ (fun r19 u18 H locs hu18 hP hD hS => ?_)
    have hwp := hwp r19 u18 hu18
    exact W.iret (v := r19) hx hb hr (fun t ht hW => ⟨⟨r19, u18, rfl, hwp, uEnd ht hW hP hK hD hS hA⟩, hS.F ht⟩) hS.2.2 dNs_more_18
  · have hwp := hwp.2.2.2.1 e9
    refine W.eq (g2 := F0 m 14 ls [.ref (a 24)]) (by rw [e9]; rfl) ?_
    refine lv_iload_n hx hb dNs_more_14 rfl (lv_at hl 2 rfl) ?_
    obtain ⟨P20, hP20, hwp⟩ := hwp
    refine uCallUi (As := [.int x2]) (rest := []) (C := REl) ⟨hx, hb, hml, hown, hts⟩ (kC_El_detail l D a A t   u4 x2 P20 hP20) (va_cwA (x := ⟨"NodeServices$Service", "detail", "(I)I"⟩) (owner := "NodeServices$Service") 1 hts (gdU wm_712 wm_714 wm_715 wm_716 wm_10 wm_717) rfl rfl rfl (he.decl (mem_tb 713 (by decide +kernel))) (by decide +kernel) ⟨Nat.le_of_ble_eq_true rfl, Nat.le_of_ble_eq_true rfl⟩) (va_recv (ci := 9) (q0 := 24) hK hP rfl rfl) hP hK hD hA hS rfl hl.1 rfl (Nat.le_of_ble_eq_true rfl) dNs_more_15 ⟨Nat.le_of_ble_eq_true rfl, Nat.le_of_ble_eq_true rfl⟩ (fun r22 u21 H locs hu21 hP hD hS => ?_)
    have hwp := hwp r22 u21 hu21
    exact W.iret (v := r22) hx hb hr (fun t ht hW => ⟨⟨r22, u21, rfl, hwp, uEnd ht hW hP hK hD hS hA⟩, hS.F ht⟩) hS.2.2 dNs_more_18
  · have hwp := hwp.2.2.2.2 e10
    refine W.eq (g2 := F0 m 14 ls [.ref (a 38)]) (by rw [e10]; rfl) ?_
    refine lv_iload_n hx hb dNs_more_14 rfl (lv_at hl 2 rfl) ?_
    obtain ⟨P23, hP23, hwp⟩ := hwp
    refine uCallUi (As := [.int x2]) (rest := []) (C := RWk) ⟨hx, hb, hml, hown, hts⟩ (kC_Wk_detail l D a A t   u4 x2 P23 hP23) (va_cwA (x := ⟨"NodeServices$Service", "detail", "(I)I"⟩) (owner := "NodeServices$Service") 1 hts (gdU wm_712 wm_714 wm_727 wm_728 wm_12 wm_729) rfl rfl rfl (he.decl (mem_tb 713 (by decide +kernel))) (by decide +kernel) ⟨Nat.le_of_ble_eq_true rfl, Nat.le_of_ble_eq_true rfl⟩) (va_recv (ci := 10) (q0 := 38) hK hP rfl rfl) hP hK hD hA hS rfl hl.1 rfl (Nat.le_of_ble_eq_true rfl) dNs_more_15 ⟨Nat.le_of_ble_eq_true rfl, Nat.le_of_ble_eq_true rfl⟩ (fun r25 u24 H locs hu24 hP hD hS => ?_)
    have hwp := hwp r25 u24 hu24
    exact W.iret (v := r25) hx hb hr (fun t ht hW => ⟨⟨r25, u24, rfl, hwp, uEnd ht hW hP hK hD hS hA⟩, hS.F ht⟩) hS.2.2 dNs_more_18
-- NodeServices: public int more(int, int) throws java.lang.IllegalArgumentException, on Ns, thr
def wT_Ns_more (a : Nat → Nat) (E : String) (σ : CS) (x1 x2 : Int32) : Prop :=
  ((wT_Ns_requireService a E σ x1) ∨ (∃ P1 : CS → Prop, wP_Ns_requireService a P1 σ x1 ∧ (∀ (u2 : CS), P1 u2 → ((wT_Ns_requireNode a E u2 x2) ∨ (∃ P3 : CS → Prop, wP_Ns_requireNode a P3 u2 x2 ∧ (∀ (u4 : CS), P3 u4 → (vp_in x1 5 ∧ ((x1 = 0 → False) ∧ (x1 = 1 → False) ∧ (x1 = 2 → False) ∧ (x1 = 3 → False) ∧ (x1 = 4 → False)))))))))
abbrev rmT_Ns_more : Room := { frames := 7, cells := 1, slots := 6, locals := 102 }
set_option maxHeartbeats 4000000 in
set_option maxRecDepth 100000 in
theorem tC_Ns_more (l : Launch) (htr : l.stackTraces = false) (D : va_G) (a : Nat → Nat) (t : Nat → ClassId) (σ : CS) (x1 x2 : Int32) (E : String) (hwp : wT_Ns_more a E σ x1 x2) : tMet l yNs_more wsNs_more rmT_Ns_more (va_Pc [.ref (a 0), .int x1, .int x2] (pE D t a σ)) E 1 6 := by
  refine tMet.ofW (cc := cNs_more) (maxL := 3) (ret := (some .int)) (by decide) rfl ?_
  intro p e s m args below meth c s₁ B hml hv hempty
  obtain ⟨rfl, ⟨hP, hK⟩, he⟩ := hv
  have hx := B.exec
  have hb := B.bytes
  have hr := B.returns
  have hts := atoms_spec (ws := wsNs_more) B.pre
  have hown : s.vm.findClass RNs = some m.cls := findClass_of_methodNamed B.named
  have hlocks := B.notSynchronized
  have hinNs : ∀ w ∈ u_ws RNs TNs 5, w ∈ wsNs_more := fun w h => List.mem_cons_of_mem _ (inNs w h)
  have lk51 := hts _ (List.mem_cons_of_mem _ wm_236)
  have hS : va_S (fun _ => False) s.heap s.heap [] := va_S.rf
  have hl := lv_entry ([.ref (a 0), .int x1, .int x2]) (n := 3) (Nat.le_of_ble_eq_true rfl)
  rw [lg_entry_eq]
  generalize (lg_sl ([.ref (a 0), .int x1, .int x2]) ++ List.replicate (3 - (lg_sl ([.ref (a 0), .int x1, .int x2])).length) Slot.unset).toArray = ls at hl ⊢
  have hl : lv_has ls 3 [(0, .ref (a 0)), (1, .int x1), (2, .int x2)] := hl
  refine lv_iload_n hx hb dNs_more_0 rfl (lv_at hl 1 rfl) ?_
  rcases hwp with hwp | hwp
  · exact tCallS (As := [.int x1]) (rest := []) ⟨hx, hb, hml, hown, hts⟩ (tC_Ns_requireService l htr D a t σ x1 E hwp) (cwS 1 hts (gdS wm_687 wm_688 wm_1 wm_689) rfl rfl rfl (by decide +kernel) ⟨Nat.le_of_ble_eq_true rfl, Nat.le_of_ble_eq_true rfl⟩) ⟨pE_blind, pPre hP hK he hS⟩ hS rfl hl.1 rfl (Nat.le_of_ble_eq_true rfl) dNs_more_1 ⟨Nat.le_of_ble_eq_true rfl, Nat.le_of_ble_eq_true rfl⟩ (fun q ce H1 hS1 hce hv hcl hz hk => tOut hempty hlocks hce hv hcl (Nat.le_of_ble_eq_true rfl) (Nat.le_of_ble_eq_true rfl))
  · obtain ⟨P1, hP1, hwp⟩ := hwp
    refine pCallSv (As := [.int x1]) (rest := []) ⟨hx, hb, hml, hown, hts⟩ (pC_Ns_requireService l D a t   σ x1 P1 hP1) (cwS 1 hts (gdS wm_687 wm_688 wm_1 wm_689) rfl rfl rfl (by decide +kernel) ⟨Nat.le_of_ble_eq_true rfl, Nat.le_of_ble_eq_true rfl⟩) hP hK hS rfl hl.1 rfl (Nat.le_of_ble_eq_true rfl) dNs_more_1 ⟨Nat.le_of_ble_eq_true rfl, Nat.le_of_ble_eq_true rfl⟩ (fun u2 H locs hu2 hP hS => ?_)
    have hwp := hwp u2 hu2
    refine lv_iload_n hx hb dNs_more_4 rfl (lv_at hl 2 rfl) ?_
    rcases hwp with hwp | hwp
    · exact tCallS (As := [.int x2]) (rest := []) ⟨hx, hb, hml, hown, hts⟩ (tC_Ns_requireNode l htr D a t u2 x2 E hwp) (cwS 1 hts (gdS wm_339 wm_340 wm_1 wm_341) rfl rfl rfl (by decide +kernel) ⟨Nat.le_of_ble_eq_true rfl, Nat.le_of_ble_eq_true rfl⟩) ⟨pE_blind, pPre hP hK he hS⟩ hS rfl hl.1 rfl (Nat.le_of_ble_eq_true rfl) dNs_more_5 ⟨Nat.le_of_ble_eq_true rfl, Nat.le_of_ble_eq_true rfl⟩ (fun q ce H1 hS1 hce hv hcl hz hk => tOut hempty hlocks hce hv hcl (Nat.le_of_ble_eq_true rfl) (Nat.le_of_ble_eq_true rfl))
    · obtain ⟨P3, hP3, hwp⟩ := hwp
      refine pCallSv (As := [.int x2]) (rest := []) ⟨hx, hb, hml, hown, hts⟩ (pC_Ns_requireNode l D a t   u2 x2 P3 hP3) (cwS 1 hts (gdS wm_339 wm_340 wm_1 wm_341) rfl rfl rfl (by decide +kernel) ⟨Nat.le_of_ble_eq_true rfl, Nat.le_of_ble_eq_true rfl⟩) hP hK hS rfl hl.1 rfl (Nat.le_of_ble_eq_true rfl) dNs_more_5 ⟨Nat.le_of_ble_eq_true rfl, Nat.le_of_ble_eq_true rfl⟩ (fun u4 H locs hu4 hP hS => ?_)
      have hwp := hwp u4 hu4
      refine lv_aload_n hx hb dNs_more_8 rfl (lv_at hl 0 rfl) ?_
      refine va_get (D := D) (ci := 1) (C := RNs) (T := TNs) (N := 5) hx hb hts hinNs hown hK hP 0 rfl rfl 4 (by decide) lk51 (fun _ h9 => h9) rfl dNs_more_9 ?_
      refine lv_iload_n hx hb dNs_more_12 rfl (lv_at hl 1 rfl) ?_
      obtain ⟨hi5, hwp⟩ := hwp
      refine va_aldq hx hb hK hP 4 4 rfl rfl hi5 dNs_more_13 ?_
      rcases fx_in5 hi5 with e6 | e7 | e8 | e9 | e10
      · have hwp := hwp.1 e6
        refine W.eq (g2 := F0 m 14 ls [.ref (a 5)]) (by rw [e6]; rfl) ?_
        refine lv_iload_n hx hb dNs_more_14 rfl (lv_at hl 2 rfl) ?_
        exact False.elim hwp
      · have hwp := hwp.2.1 e7
        refine W.eq (g2 := F0 m 14 ls [.ref (a 11)]) (by rw [e7]; rfl) ?_
        refine lv_iload_n hx hb dNs_more_14 rfl (lv_at hl 2 rfl) ?_
        exact False.elim hwp
      · have hwp := hwp.2.2.1 e8
        refine W.eq (g2 := F0 m 14 ls [.ref (a 19)]) (by rw [e8]; rfl) ?_
        refine lv_iload_n hx hb dNs_more_14 rfl (lv_at hl 2 rfl) ?_
        exact False.elim hwp
      · have hwp := hwp.2.2.2.1 e9
        refine W.eq (g2 := F0 m 14 ls [.ref (a 24)]) (by rw [e9]; rfl) ?_
        refine lv_iload_n hx hb dNs_more_14 rfl (lv_at hl 2 rfl) ?_
        exact False.elim hwp
      · have hwp := hwp.2.2.2.2 e10
        refine W.eq (g2 := F0 m 14 ls [.ref (a 38)]) (by rw [e10]; rfl) ?_
        refine lv_iload_n hx hb dNs_more_14 rfl (lv_at hl 2 rfl) ?_
        exact False.elim hwp
