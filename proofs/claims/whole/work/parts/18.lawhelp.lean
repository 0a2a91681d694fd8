-- private static int want(NodeServices, int, int)
def wL_want (a : Nat → Nat) (R : Int32 → CS → Prop) (σ : CS) (x1 x2 : Int32) : Prop :=
  (∃ P, wC_Ns_want a P σ x1 x2 ∧ (∀ (u : CS), P u → R 0 u)) ∨ (wT_Ns_want a "java/lang/IllegalArgumentException" σ x1 x2 ∧ R 1 σ) ∨ (wT_Ns_want a "java/lang/IllegalStateException" σ x1 x2 ∧ R 2 σ)
abbrev wsLw_want : List Cond := .codeWith yLw_want cLw_want 4 (some .int) [(0, 6, 9, 13), (0, 6, 12, 15)] :: wg
abbrev rmL_want : Room := { frames := 8, cells := 5, slots := 20, locals := 155 }
set_option maxHeartbeats 4000000 in
set_option maxRecDepth 100000 in
theorem kL_want (l : Launch) (htr : l.stackTraces = false) (D : va_G) (a : Nat → Nat) (A : Nat → Prop) (t : Nat → ClassId) (σ : CS) (x1 x2 : Int32) (R : Int32 → CS → Prop) (hwp : wL_want a R σ x1 x2) : Met l yLw_want wsLw_want rmL_want (va_Pc [.ref (a 0), .int x1, .int x2] (uE D clA (cT t) A true (cw a t) σ)) (va_Qi R (uI D clA (cT t) A true (cw a t)) A) 5 20 A := by
  refine va_MetW (cc := cLw_want) (maxL := 4) (ret := (some .int)) (hh := [(0, 6, 9, 13), (0, 6, 12, 15)]) (by decide) rfl ?_
  intro p e s m args below meth c s₁ B hml hv
  obtain ⟨rfl, ⟨hP, hK, hD, hA⟩, he⟩ := hv
  have hx := B.exec
  have hb := B.bytes
  have hr := B.returns
  have hts := atoms_spec (ws := wsLw_want) B.pre
  have hown : s.vm.findClass RLw = some m.cls := findClass_of_methodNamed B.named
  have hlocks := B.notSynchronized
  obtain ⟨m9, meth9, c9, hn9, hm9, hc9, -, -, htb, -⟩ := Cond.codeWith_spec (hts _ List.mem_cons_self)
  cases B.named.symm.trans hn9
  cases B.method.symm.trans hm9
  cases (Stand.of_body B).code.symm.trans hc9
  obtain ⟨y1, y2, htl, ⟨ys, ye, yh, yc⟩, ⟨zs, ze, zh, zc⟩⟩ := hh2 htb
  have hS : va_S A s.heap s.heap [] := va_S.rf
  have hS0 : va_S (fun _ => False) s.heap s.heap [] := va_S.rf
  have hl := lv_entry ([.ref (a 0), .int x1, .int x2]) (n := 4) (Nat.le_of_ble_eq_true rfl)
  rw [lg_entry_eq]
  generalize (lg_sl ([.ref (a 0), .int x1, .int x2]) ++ List.replicate (4 - (lg_sl ([.ref (a 0), .int x1, .int x2])).length) Slot.unset).toArray = ls at hl ⊢
  have hl : lv_has ls 4 [(0, .ref (a 0)), (1, .int x1), (2, .int x2)] := hl
  refine lv_aload_n hx hb dLw_want_0 rfl (lv_at hl 0 rfl) ?_
  refine lv_iload_n hx hb dLw_want_1 rfl (lv_at hl 1 rfl) ?_
  refine lv_iload_n hx hb dLw_want_2 rfl (lv_at hl 2 rfl) ?_
  rcases hwp with ⟨P, hPw, hwp⟩ | ⟨ht, hwp⟩ | ⟨ht, hwp⟩
  · refine va_callv (va_runV (As := [.int x1, .int x2]) (rest := []) (C := RNs) ⟨hx, hb, hml, hown, hts⟩ (kC_Ns_want l D a A t σ x1 x2 P hPw) (cwV 2 hts (gdV wm_264 wm_265 wm_266 wm_1 wm_267) rfl rfl rfl (by decide +kernel) ⟨Nat.le_of_ble_eq_true rfl, Nat.le_of_ble_eq_true rfl⟩) ⟨uE_blind, (va_recv (ci := 1) (q0 := 0) hK hP rfl rfl), uE_pre hP hK hD hA he⟩ rfl rfl hl.1 rfl (lv_room (Nat.le_of_ble_eq_true rfl)) dLw_want_3 ⟨Nat.le_of_ble_eq_true rfl, Nat.le_of_ble_eq_true rfl⟩) hS (fun q _ h => h) (fun q h => h) (fun u t2 H locs ht hvm hu hB hz hk hS => ?_)
    have hwp := hwp u hu
    rw [uI, ht] at hB
    obtain ⟨hP2, -, hD2, -⟩ := hB
    refine lv_goto hx hb dLw_want_6 rfl ?_
    refine lv_iconst (v := 0) hx hb dLw_want_15 (by decide) ?_
    refine W.widen (k := 5) (n := 20) (by omega) (by omega) ?_
    exact W.iret (v := 0) hx hb hr (fun w ht hW => ⟨⟨0, u, rfl, hwp, uEnd ht hW hP2 hK hD2 hS hA⟩, hS.F ht⟩) hS.2.2 dLw_want_16
  · refine tCallV (As := [.int x1, .int x2]) (rest := []) (C := RNs) ⟨hx, hb, hml, hown, hts⟩ (tC_Ns_want l htr D a t σ x1 x2 _ ht) (cwV 2 hts (gdV wm_264 wm_265 wm_266 wm_1 wm_267) rfl rfl rfl (by decide +kernel) ⟨Nat.le_of_ble_eq_true rfl, Nat.le_of_ble_eq_true rfl⟩) ⟨pE_blind, (va_recv (ci := 1) (q0 := 0) hK hP rfl rfl), pPre hP hK he hS0⟩ hS0 rfl hl.1 rfl (Nat.le_of_ble_eq_true rfl) dLw_want_3 ⟨Nat.le_of_ble_eq_true rfl, Nat.le_of_ble_eq_true rfl⟩ (fun q ce H1 hS1 hce hv hcl hz hk => ?_)
    refine tCatch1 (name := "java/lang/IllegalArgumentException") hown y1 _ htl (hcov ys ye (by decide) (by decide)) (by rw [yc]; decide) (by rw [yc]; exact (hts _ (List.mem_cons_of_mem _ wm_262))) (he.cast nonG_c1) hce hv hcl ?_
    rw [yh]
    refine lv_astore_n hx hb dLw_want_9 rfl hl (by decide) rfl (fun ls hl => ?_)
    refine lv_iconst (v := 1) hx hb dLw_want_10 (by decide) ?_
    refine W.widen (k := 5) (n := 20) (by omega) (by omega) ?_
    have hP2 : va_P D clA (cw a t σ) H1 := hP.kept (fun k z hz2 => hk z.1 ((hP k z hz2).lt))
    exact W.iret (v := 1) hx hb hr (fun w ht hW => ⟨⟨1, σ, rfl, hwp, ⟨by rw [ht]; exact hP2, va_K.moved hW.alike hK, hD, fun h q hq => hA h q (Nat.le_trans hS1.1 (by rw [ht] at hq; exact hq))⟩⟩, ⟨by rw [ht]; exact hS1.1, fun q h1 h2 => by rw [ht]; exact hS1.2.1 q h1 id⟩⟩) (fun _ h => nomatch h) dLw_want_11
  · refine tCallV (As := [.int x1, .int x2]) (rest := []) (C := RNs) ⟨hx, hb, hml, hown, hts⟩ (tC_Ns_want l htr D a t σ x1 x2 _ ht) (cwV 2 hts (gdV wm_264 wm_265 wm_266 wm_1 wm_267) rfl rfl rfl (by decide +kernel) ⟨Nat.le_of_ble_eq_true rfl, Nat.le_of_ble_eq_true rfl⟩) ⟨pE_blind, (va_recv (ci := 1) (q0 := 0) hK hP rfl rfl), pPre hP hK he hS0⟩ hS0 rfl hl.1 rfl (Nat.le_of_ble_eq_true rfl) dLw_want_3 ⟨Nat.le_of_ble_eq_true rfl, Nat.le_of_ble_eq_true rfl⟩ (fun q ce H1 hS1 hce hv hcl hz hk => ?_)
    refine tCatch2 (name := "java/lang/IllegalStateException") (nameY := "java/lang/IllegalArgumentException") hown y1 y2 _ htl (hcov ys ye (by decide) (by decide)) (by rw [yc]; decide) (hcov zs ze (by decide) (by decide)) (by rw [zc]; decide) (by rw [yc]; exact (hts _ (List.mem_cons_of_mem _ wm_262))) (he.nocast (by decide +kernel)) (by rw [zc]; exact (hts _ (List.mem_cons_of_mem _ wm_263))) (he.cast nonG_c2) hce hv hcl ?_
    rw [zh]
    refine lv_astore_n hx hb dLw_want_12 rfl hl (by decide) rfl (fun ls hl => ?_)
    refine lv_iconst (v := 2) hx hb dLw_want_13 (by decide) ?_
    refine W.widen (k := 5) (n := 20) (by omega) (by omega) ?_
    have hP2 : va_P D clA (cw a t σ) H1 := hP.kept (fun k z hz2 => hk z.1 ((hP k z hz2).lt))
    exact W.iret (v := 2) hx hb hr (fun w ht hW => ⟨⟨2, σ, rfl, hwp, ⟨by rw [ht]; exact hP2, va_K.moved hW.alike hK, hD, fun h q hq => hA h q (Nat.le_trans hS1.1 (by rw [ht] at hq; exact hq))⟩⟩, ⟨by rw [ht]; exact hS1.1, fun q h1 h2 => by rw [ht]; exact hS1.2.1 q h1 id⟩⟩) (fun _ h => nomatch h) dLw_want_14
-- private static int leave(NodeServices, int, int)
def wL_leave (a : Nat → Nat) (R : Int32 → CS → Prop) (σ : CS) (x1 x2 : Int32) : Prop :=
  (∃ P, wC_Ns_leave a P σ x1 x2 ∧ (∀ (u : CS), P u → R 0 u)) ∨ (wT_Ns_leave a "java/lang/IllegalArgumentException" σ x1 x2 ∧ R 1 σ) ∨ (wT_Ns_leave a "java/lang/IllegalStateException" σ x1 x2 ∧ R 2 σ)
abbrev wsLw_leave : List Cond := .codeWith yLw_leave cLw_leave 4 (some .int) [(0, 6, 9, 13), (0, 6, 12, 15)] :: wg
abbrev rmL_leave : Room := { frames := 8, cells := 5, slots := 20, locals := 155 }
set_option maxHeartbeats 4000000 in
set_option maxRecDepth 100000 in
theorem kL_leave (l : Launch) (htr : l.stackTraces = false) (D : va_G) (a : Nat → Nat) (A : Nat → Prop) (t : Nat → ClassId) (σ : CS) (x1 x2 : Int32) (R : Int32 → CS → Prop) (hwp : wL_leave a R σ x1 x2) : Met l yLw_leave wsLw_leave rmL_leave (va_Pc [.ref (a 0), .int x1, .int x2] (uE D clA (cT t) A true (cw a t) σ)) (va_Qi R (uI D clA (cT t) A true (cw a t)) A) 5 20 A := by
  refine va_MetW (cc := cLw_leave) (maxL := 4) (ret := (some .int)) (hh := [(0, 6, 9, 13), (0, 6, 12, 15)]) (by decide) rfl ?_
  intro p e s m args below meth c s₁ B hml hv
  obtain ⟨rfl, ⟨hP, hK, hD, hA⟩, he⟩ := hv
  have hx := B.exec
  have hb := B.bytes
  have hr := B.returns
  have hts := atoms_spec (ws := wsLw_leave) B.pre
  have hown : s.vm.findClass RLw = some m.cls := findClass_of_methodNamed B.named
  have hlocks := B.notSynchronized
  obtain ⟨m9, meth9, c9, hn9, hm9, hc9, -, -, htb, -⟩ := Cond.codeWith_spec (hts _ List.mem_cons_self)
  cases B.named.symm.trans hn9
  cases B.method.symm.trans hm9
  cases (Stand.of_body B).code.symm.trans hc9
  obtain ⟨y1, y2, htl, ⟨ys, ye, yh, yc⟩, ⟨zs, ze, zh, zc⟩⟩ := hh2 htb
  have hS : va_S A s.heap s.heap [] := va_S.rf
  have hS0 : va_S (fun _ => False) s.heap s.heap [] := va_S.rf
  have hl := lv_entry ([.ref (a 0), .int x1, .int x2]) (n := 4) (Nat.le_of_ble_eq_true rfl)
  rw [lg_entry_eq]
  generalize (lg_sl ([.ref (a 0), .int x1, .int x2]) ++ List.replicate (4 - (lg_sl ([.ref (a 0), .int x1, .int x2])).length) Slot.unset).toArray = ls at hl ⊢
  have hl : lv_has ls 4 [(0, .ref (a 0)), (1, .int x1), (2, .int x2)] := hl
  refine lv_aload_n hx hb dLw_leave_0 rfl (lv_at hl 0 rfl) ?_
  refine lv_iload_n hx hb dLw_leave_1 rfl (lv_at hl 1 rfl) ?_
  refine lv_iload_n hx hb dLw_leave_2 rfl (lv_at hl 2 rfl) ?_
  rcases hwp with ⟨P, hPw, hwp⟩ | ⟨ht, hwp⟩ | ⟨ht, hwp⟩
  · refine va_callv (va_runV (As := [.int x1, .int x2]) (rest := []) (C := RNs) ⟨hx, hb, hml, hown, hts⟩ (kC_Ns_leave l D a A t σ x1 x2 P hPw) (cwV 2 hts (gdV wm_467 wm_468 wm_469 wm_1 wm_470) rfl rfl rfl (by decide +kernel) ⟨Nat.le_of_ble_eq_true rfl, Nat.le_of_ble_eq_true rfl⟩) ⟨uE_blind, (va_recv (ci := 1) (q0 := 0) hK hP rfl rfl), uE_pre hP hK hD hA he⟩ rfl rfl hl.1 rfl (lv_room (Nat.le_of_ble_eq_true rfl)) dLw_leave_3 ⟨Nat.le_of_ble_eq_true rfl, Nat.le_of_ble_eq_true rfl⟩) hS (fun q _ h => h) (fun q h => h) (fun u t2 H locs ht hvm hu hB hz hk hS => ?_)
    have hwp := hwp u hu
    rw [uI, ht] at hB
    obtain ⟨hP2, -, hD2, -⟩ := hB
    refine lv_goto hx hb dLw_leave_6 rfl ?_
    refine lv_iconst (v := 0) hx hb dLw_leave_15 (by decide) ?_
    refine W.widen (k := 5) (n := 20) (by omega) (by omega) ?_
    exact W.iret (v := 0) hx hb hr (fun w ht hW => ⟨⟨0, u, rfl, hwp, uEnd ht hW hP2 hK hD2 hS hA⟩, hS.F ht⟩) hS.2.2 dLw_leave_16
  · refine tCallV (As := [.int x1, .int x2]) (rest := []) (C := RNs) ⟨hx, hb, hml, hown, hts⟩ (tC_Ns_leave l htr D a t σ x1 x2 _ ht) (cwV 2 hts (gdV wm_467 wm_468 wm_469 wm_1 wm_470) rfl rfl rfl (by decide +kernel) ⟨Nat.le_of_ble_eq_true rfl, Nat.le_of_ble_eq_true rfl⟩) ⟨pE_blind, (va_recv (ci := 1) (q0 := 0) hK hP rfl rfl), pPre hP hK he hS0⟩ hS0 rfl hl.1 rfl (Nat.le_of_ble_eq_true rfl) dLw_leave_3 ⟨Nat.le_of_ble_eq_true rfl, Nat.le_of_ble_eq_true rfl⟩ (fun q ce H1 hS1 hce hv hcl hz hk => ?_)
    refine tCatch1 (name := "java/lang/IllegalArgumentException") hown y1 _ htl (hcov ys ye (by decide) (by decide)) (by rw [yc]; decide) (by rw [yc]; exact (hts _ (List.mem_cons_of_mem _ wm_262))) (he.cast nonG_c1) hce hv hcl ?_
    rw [yh]
    refine lv_astore_n hx hb dLw_leave_9 rfl hl (by decide) rfl (fun ls hl => ?_)
    refine lv_iconst (v := 1) hx hb dLw_leave_10 (by decide) ?_
    refine W.widen (k := 5) (n := 20) (by omega) (by omega) ?_
    have hP2 : va_P D clA (cw a t σ) H1 := hP.kept (fun k z hz2 => hk z.1 ((hP k z hz2).lt))
    exact W.iret (v := 1) hx hb hr (fun w ht hW => ⟨⟨1, σ, rfl, hwp, ⟨by rw [ht]; exact hP2, va_K.moved hW.alike hK, hD, fun h q hq => hA h q (Nat.le_trans hS1.1 (by rw [ht] at hq; exact hq))⟩⟩, ⟨by rw [ht]; exact hS1.1, fun q h1 h2 => by rw [ht]; exact hS1.2.1 q h1 id⟩⟩) (fun _ h => nomatch h) dLw_leave_11
  · refine tCallV (As := [.int x1, .int x2]) (rest := []) (C := RNs) ⟨hx, hb, hml, hown, hts⟩ (tC_Ns_leave l htr D a t σ x1 x2 _ ht) (cwV 2 hts (gdV wm_467 wm_468 wm_469 wm_1 wm_470) rfl rfl rfl (by decide +kernel) ⟨Nat.le_of_ble_eq_true rfl, Nat.le_of_ble_eq_true rfl⟩) ⟨pE_blind, (va_recv (ci := 1) (q0 := 0) hK hP rfl rfl), pPre hP hK he hS0⟩ hS0 rfl hl.1 rfl (Nat.le_of_ble_eq_true rfl) dLw_leave_3 ⟨Nat.le_of_ble_eq_true rfl, Nat.le_of_ble_eq_true rfl⟩ (fun q ce H1 hS1 hce hv hcl hz hk => ?_)
    refine tCatch2 (name := "java/lang/IllegalStateException") (nameY := "java/lang/IllegalArgumentException") hown y1 y2 _ htl (hcov ys ye (by decide) (by decide)) (by rw [yc]; decide) (hcov zs ze (by decide) (by decide)) (by rw [zc]; decide) (by rw [yc]; exact (hts _ (List.mem_cons_of_mem _ wm_262))) (he.nocast (by decide +kernel)) (by rw [zc]; exact (hts _ (List.mem_cons_of_mem _ wm_263))) (he.cast nonG_c2) hce hv hcl ?_
    rw [zh]
    refine lv_astore_n hx hb dLw_leave_12 rfl hl (by decide) rfl (fun ls hl => ?_)
    refine lv_iconst (v := 2) hx hb dLw_leave_13 (by decide) ?_
    refine W.widen (k := 5) (n := 20) (by omega) (by omega) ?_
    have hP2 : va_P D clA (cw a t σ) H1 := hP.kept (fun k z hz2 => hk z.1 ((hP k z hz2).lt))
    exact W.iret (v := 2) hx hb hr (fun w ht hW => ⟨⟨2, σ, rfl, hwp, ⟨by rw [ht]; exact hP2, va_K.moved hW.alike hK, hD, fun h q hq => hA h q (Nat.le_trans hS1.1 (by rw [ht] at hq; exact hq))⟩⟩, ⟨by rw [ht]; exact hS1.1, fun q h1 h2 => by rw [ht]; exact hS1.2.1 q h1 id⟩⟩) (fun _ h => nomatch h) dLw_leave_14
-- private static int start(NodeServices, int)
def wL_start (a : Nat → Nat) (R : Int32 → CS → Prop) (σ : CS) (x1 : Int32) : Prop :=
  (∃ P, wC_Ns_start a P σ x1 ∧ (∀ (u : CS), P u → R 0 u)) ∨ (wT_Ns_start a "java/lang/IllegalArgumentException" σ x1 ∧ R 1 σ) ∨ (wT_Ns_start a "java/lang/IllegalStateException" σ x1 ∧ R 2 σ)
abbrev wsLw_start : List Cond := .codeWith yLw_start cLw_start 3 (some .int) [(0, 5, 8, 13), (0, 5, 11, 15)] :: wg
abbrev rmL_start : Room := { frames := 8, cells := 1, slots := 6, locals := 134 }
set_option maxHeartbeats 4000000 in
set_option maxRecDepth 100000 in
theorem kL_start (l : Launch) (htr : l.stackTraces = false) (D : va_G) (a : Nat → Nat) (A : Nat → Prop) (t : Nat → ClassId) (σ : CS) (x1 : Int32) (R : Int32 → CS → Prop) (hwp : wL_start a R σ x1) : Met l yLw_start wsLw_start rmL_start (va_Pc [.ref (a 0), .int x1] (uE D clA (cT t) A true (cw a t) σ)) (va_Qi R (uI D clA (cT t) A true (cw a t)) A) 1 6 A := by
  refine va_MetW (cc := cLw_start) (maxL := 3) (ret := (some .int)) (hh := [(0, 5, 8, 13), (0, 5, 11, 15)]) (by decide) rfl ?_
  intro p e s m args below meth c s₁ B hml hv
  obtain ⟨rfl, ⟨hP, hK, hD, hA⟩, he⟩ := hv
  have hx := B.exec
  have hb := B.bytes
  have hr := B.returns
  have hts := atoms_spec (ws := wsLw_start) B.pre
  have hown : s.vm.findClass RLw = some m.cls := findClass_of_methodNamed B.named
  have hlocks := B.notSynchronized
  obtain ⟨m9, meth9, c9, hn9, hm9, hc9, -, -, htb, -⟩ := Cond.codeWith_spec (hts _ List.mem_cons_self)
  cases B.named.symm.trans hn9
  cases B.method.symm.trans hm9
  cases (Stand.of_body B).code.symm.trans hc9
  obtain ⟨y1, y2, htl, ⟨ys, ye, yh, yc⟩, ⟨zs, ze, zh, zc⟩⟩ := hh2 htb
  have hS : va_S A s.heap s.heap [] := va_S.rf
  have hS0 : va_S (fun _ => False) s.heap s.heap [] := va_S.rf
  have hl := lv_entry ([.ref (a 0), .int x1]) (n := 3) (Nat.le_of_ble_eq_true rfl)
  rw [lg_entry_eq]
  generalize (lg_sl ([.ref (a 0), .int x1]) ++ List.replicate (3 - (lg_sl ([.ref (a 0), .int x1])).length) Slot.unset).toArray = ls at hl ⊢
  have hl : lv_has ls 3 [(0, .ref (a 0)), (1, .int x1)] := hl
  refine lv_aload_n hx hb dLw_start_0 rfl (lv_at hl 0 rfl) ?_
  refine lv_iload_n hx hb dLw_start_1 rfl (lv_at hl 1 rfl) ?_
  rcases hwp with ⟨P, hPw, hwp⟩ | ⟨ht, hwp⟩ | ⟨ht, hwp⟩
  · refine va_callv (va_runV (As := [.int x1]) (rest := []) (C := RNs) ⟨hx, hb, hml, hown, hts⟩ (kC_Ns_start l D a A t σ x1 P hPw) (cwV 1 hts (gdV wm_508 wm_509 wm_510 wm_1 wm_511) rfl rfl rfl (by decide +kernel) ⟨Nat.le_of_ble_eq_true rfl, Nat.le_of_ble_eq_true rfl⟩) ⟨uI_blind, (va_recv (ci := 1) (q0 := 0) hK hP rfl rfl), uPre hP hK hD hA⟩ rfl rfl hl.1 rfl (lv_room (Nat.le_of_ble_eq_true rfl)) dLw_start_2 ⟨Nat.le_of_ble_eq_true rfl, Nat.le_of_ble_eq_true rfl⟩) hS (fun q _ h => h) (fun q h => h) (fun u t2 H locs ht hvm hu hB hz hk hS => ?_)
    have hwp := hwp u hu
    rw [uI, ht] at hB
    obtain ⟨hP2, -, hD2, -⟩ := hB
    refine lv_goto hx hb dLw_start_5 rfl ?_
    refine lv_iconst (v := 0) hx hb dLw_start_14 (by decide) ?_
    refine W.widen (k := 1) (n := 6) (by omega) (by omega) ?_
    exact W.iret (v := 0) hx hb hr (fun w ht hW => ⟨⟨0, u, rfl, hwp, uEnd ht hW hP2 hK hD2 hS hA⟩, hS.F ht⟩) hS.2.2 dLw_start_15
  · refine tCallV (As := [.int x1]) (rest := []) (C := RNs) ⟨hx, hb, hml, hown, hts⟩ (tC_Ns_start l htr D a t σ x1 _ ht) (cwV 1 hts (gdV wm_508 wm_509 wm_510 wm_1 wm_511) rfl rfl rfl (by decide +kernel) ⟨Nat.le_of_ble_eq_true rfl, Nat.le_of_ble_eq_true rfl⟩) ⟨pE_blind, (va_recv (ci := 1) (q0 := 0) hK hP rfl rfl), pPre hP hK he hS0⟩ hS0 rfl hl.1 rfl (Nat.le_of_ble_eq_true rfl) dLw_start_2 ⟨Nat.le_of_ble_eq_true rfl, Nat.le_of_ble_eq_true rfl⟩ (fun q ce H1 hS1 hce hv hcl hz hk => ?_)
    refine tCatch1 (name := "java/lang/IllegalArgumentException") hown y1 _ htl (hcov ys ye (by decide) (by decide)) (by rw [yc]; decide) (by rw [yc]; exact (hts _ (List.mem_cons_of_mem _ wm_262))) (he.cast nonG_c1) hce hv hcl ?_
    rw [yh]
    refine lv_astore_n hx hb dLw_start_8 rfl hl (by decide) rfl (fun ls hl => ?_)
    refine lv_iconst (v := 1) hx hb dLw_start_9 (by decide) ?_
    refine W.widen (k := 1) (n := 6) (by omega) (by omega) ?_
    have hP2 : va_P D clA (cw a t σ) H1 := hP.kept (fun k z hz2 => hk z.1 ((hP k z hz2).lt))
    exact W.iret (v := 1) hx hb hr (fun w ht hW => ⟨⟨1, σ, rfl, hwp, ⟨by rw [ht]; exact hP2, va_K.moved hW.alike hK, hD, fun h q hq => hA h q (Nat.le_trans hS1.1 (by rw [ht] at hq; exact hq))⟩⟩, ⟨by rw [ht]; exact hS1.1, fun q h1 h2 => by rw [ht]; exact hS1.2.1 q h1 id⟩⟩) (fun _ h => nomatch h) dLw_start_10
  · refine tCallV (As := [.int x1]) (rest := []) (C := RNs) ⟨hx, hb, hml, hown, hts⟩ (tC_Ns_start l htr D a t σ x1 _ ht) (cwV 1 hts (gdV wm_508 wm_509 wm_510 wm_1 wm_511) rfl rfl rfl (by decide +kernel) ⟨Nat.le_of_ble_eq_true rfl, Nat.le_of_ble_eq_true rfl⟩) ⟨pE_blind, (va_recv (ci := 1) (q0 := 0) hK hP rfl rfl), pPre hP hK he hS0⟩ hS0 rfl hl.1 rfl (Nat.le_of_ble_eq_true rfl) dLw_start_2 ⟨Nat.le_of_ble_eq_true rfl, Nat.le_of_ble_eq_true rfl⟩ (fun q ce H1 hS1 hce hv hcl hz hk => ?_)
    refine tCatch2 (name := "java/lang/IllegalStateException") (nameY := "java/lang/IllegalArgumentException") hown y1 y2 _ htl (hcov ys ye (by decide) (by decide)) (by rw [yc]; decide) (hcov zs ze (by decide) (by decide)) (by rw [zc]; decide) (by rw [yc]; exact (hts _ (List.mem_cons_of_mem _ wm_262))) (he.nocast (by decide +kernel)) (by rw [zc]; exact (hts _ (List.mem_cons_of_mem _ wm_263))) (he.cast nonG_c2) hce hv hcl ?_
    rw [zh]
    refine lv_astore_n hx hb dLw_start_11 rfl hl (by decide) rfl (fun ls hl => ?_)
    refine lv_iconst (v := 2) hx hb dLw_start_12 (by decide) ?_
    refine W.widen (k := 1) (n := 6) (by omega) (by omega) ?_
    have hP2 : va_P D clA (cw a t σ) H1 := hP.kept (fun k z hz2 => hk z.1 ((hP k z hz2).lt))
    exact W.iret (v := 2) hx hb hr (fun w ht hW => ⟨⟨2, σ, rfl, hwp, ⟨by rw [ht]; exact hP2, va_K.moved hW.alike hK, hD, fun h q hq => hA h q (Nat.le_trans hS1.1 (by rw [ht] at hq; exact hq))⟩⟩, ⟨by rw [ht]; exact hS1.1, fun q h1 h2 => by rw [ht]; exact hS1.2.1 q h1 id⟩⟩) (fun _ h => nomatch h) dLw_start_13
-- private static int begin(NodeServices, int)
def wL_begin (a : Nat → Nat) (R : Int32 → CS → Prop) (σ : CS) (x1 : Int32) : Prop :=
  (∃ P, wC_Ns_begin a P σ x1 ∧ (∀ (u : CS), P u → R 0 u)) ∨ (wT_Ns_begin a "java/lang/IllegalArgumentException" σ x1 ∧ R 1 σ) ∨ (wT_Ns_begin a "java/lang/IllegalStateException" σ x1 ∧ R 2 σ)
abbrev wsLw_begin : List Cond := .codeWith yLw_begin cLw_begin 3 (some .int) [(0, 5, 8, 13), (0, 5, 11, 15)] :: wg
abbrev rmL_begin : Room := { frames := 8, cells := 1, slots := 6, locals := 123 }
set_option maxHeartbeats 4000000 in
set_option maxRecDepth 100000 in
theorem kL_begin (l : Launch) (htr : l.stackTraces = false) (D : va_G) (a : Nat → Nat) (A : Nat → Prop) (t : Nat → ClassId) (σ : CS) (x1 : Int32) (R : Int32 → CS → Prop) (hwp : wL_begin a R σ x1) : Met l yLw_begin wsLw_begin rmL_begin (va_Pc [.ref (a 0), .int x1] (uE D clA (cT t) A true (cw a t) σ)) (va_Qi R (uI D clA (cT t) A true (cw a t)) A) 1 6 A := by
  refine va_MetW (cc := cLw_begin) (maxL := 3) (ret := (some .int)) (hh := [(0, 5, 8, 13), (0, 5, 11, 15)]) (by decide) rfl ?_
  intro p e s m args below meth c s₁ B hml hv
  obtain ⟨rfl, ⟨hP, hK, hD, hA⟩, he⟩ := hv
  have hx := B.exec
  have hb := B.bytes
  have hr := B.returns
  have hts := atoms_spec (ws := wsLw_begin) B.pre
  have hown : s.vm.findClass RLw = some m.cls := findClass_of_methodNamed B.named
  have hlocks := B.notSynchronized
  obtain ⟨m9, meth9, c9, hn9, hm9, hc9, -, -, htb, -⟩ := Cond.codeWith_spec (hts _ List.mem_cons_self)
  cases B.named.symm.trans hn9
  cases B.method.symm.trans hm9
  cases (Stand.of_body B).code.symm.trans hc9
  obtain ⟨y1, y2, htl, ⟨ys, ye, yh, yc⟩, ⟨zs, ze, zh, zc⟩⟩ := hh2 htb
  have hS : va_S A s.heap s.heap [] := va_S.rf
  have hS0 : va_S (fun _ => False) s.heap s.heap [] := va_S.rf
  have hl := lv_entry ([.ref (a 0), .int x1]) (n := 3) (Nat.le_of_ble_eq_true rfl)
  rw [lg_entry_eq]
  generalize (lg_sl ([.ref (a 0), .int x1]) ++ List.replicate (3 - (lg_sl ([.ref (a 0), .int x1])).length) Slot.unset).toArray = ls at hl ⊢
  have hl : lv_has ls 3 [(0, .ref (a 0)), (1, .int x1)] := hl
  refine lv_aload_n hx hb dLw_begin_0 rfl (lv_at hl 0 rfl) ?_
  refine lv_iload_n hx hb dLw_begin_1 rfl (lv_at hl 1 rfl) ?_
  rcases hwp with ⟨P, hPw, hwp⟩ | ⟨ht, hwp⟩ | ⟨ht, hwp⟩
  · refine va_callv (va_runV (As := [.int x1]) (rest := []) (C := RNs) ⟨hx, hb, hml, hown, hts⟩ (kC_Ns_begin l D a A t σ x1 P hPw) (cwV 1 hts (gdV wm_527 wm_528 wm_529 wm_1 wm_530) rfl rfl rfl (by decide +kernel) ⟨Nat.le_of_ble_eq_true rfl, Nat.le_of_ble_eq_true rfl⟩) ⟨uI_blind, (va_recv (ci := 1) (q0 := 0) hK hP rfl rfl), uPre hP hK hD hA⟩ rfl rfl hl.1 rfl (lv_room (Nat.le_of_ble_eq_true rfl)) dLw_begin_2 ⟨Nat.le_of_ble_eq_true rfl, Nat.le_of_ble_eq_true rfl⟩) hS (fun q _ h => h) (fun q h => h) (fun u t2 H locs ht hvm hu hB hz hk hS => ?_)
    have hwp := hwp u hu
    rw [uI, ht] at hB
    obtain ⟨hP2, -, hD2, -⟩ := hB
    refine lv_goto hx hb dLw_begin_5 rfl ?_
    refine lv_iconst (v := 0) hx hb dLw_begin_14 (by decide) ?_
    refine W.widen (k := 1) (n := 6) (by omega) (by omega) ?_
    exact W.iret (v := 0) hx hb hr (fun w ht hW => ⟨⟨0, u, rfl, hwp, uEnd ht hW hP2 hK hD2 hS hA⟩, hS.F ht⟩) hS.2.2 dLw_begin_15
  · refine tCallV (As := [.int x1]) (rest := []) (C := RNs) ⟨hx, hb, hml, hown, hts⟩ (tC_Ns_begin l htr D a t σ x1 _ ht) (cwV 1 hts (gdV wm_527 wm_528 wm_529 wm_1 wm_530) rfl rfl rfl (by decide +kernel) ⟨Nat.le_of_ble_eq_true rfl, Nat.le_of_ble_eq_true rfl⟩) ⟨pE_blind, (va_recv (ci := 1) (q0 := 0) hK hP rfl rfl), pPre hP hK he hS0⟩ hS0 rfl hl.1 rfl (Nat.le_of_ble_eq_true rfl) dLw_begin_2 ⟨Nat.le_of_ble_eq_true rfl, Nat.le_of_ble_eq_true rfl⟩ (fun q ce H1 hS1 hce hv hcl hz hk => ?_)
    refine tCatch1 (name := "java/lang/IllegalArgumentException") hown y1 _ htl (hcov ys ye (by decide) (by decide)) (by rw [yc]; decide) (by rw [yc]; exact (hts _ (List.mem_cons_of_mem _ wm_262))) (he.cast nonG_c1) hce hv hcl ?_
    rw [yh]
    refine lv_astore_n hx hb dLw_begin_8 rfl hl (by decide) rfl (fun ls hl => ?_)
    refine lv_iconst (v := 1) hx hb dLw_begin_9 (by decide) ?_
    refine W.widen (k := 1) (n := 6) (by omega) (by omega) ?_
    have hP2 : va_P D clA (cw a t σ) H1 := hP.kept (fun k z hz2 => hk z.1 ((hP k z hz2).lt))
    exact W.iret (v := 1) hx hb hr (fun w ht hW => ⟨⟨1, σ, rfl, hwp, ⟨by rw [ht]; exact hP2, va_K.moved hW.alike hK, hD, fun h q hq => hA h q (Nat.le_trans hS1.1 (by rw [ht] at hq; exact hq))⟩⟩, ⟨by rw [ht]; exact hS1.1, fun q h1 h2 => by rw [ht]; exact hS1.2.1 q h1 id⟩⟩) (fun _ h => nomatch h) dLw_begin_10
  · refine tCallV (As := [.int x1]) (rest := []) (C := RNs) ⟨hx, hb, hml, hown, hts⟩ (tC_Ns_begin l htr D a t σ x1 _ ht) (cwV 1 hts (gdV wm_527 wm_528 wm_529 wm_1 wm_530) rfl rfl rfl (by decide +kernel) ⟨Nat.le_of_ble_eq_true rfl, Nat.le_of_ble_eq_true rfl⟩) ⟨pE_blind, (va_recv (ci := 1) (q0 := 0) hK hP rfl rfl), pPre hP hK he hS0⟩ hS0 rfl hl.1 rfl (Nat.le_of_ble_eq_true rfl) dLw_begin_2 ⟨Nat.le_of_ble_eq_true rfl, Nat.le_of_ble_eq_true rfl⟩ (fun q ce H1 hS1 hce hv hcl hz hk => ?_)
    refine tCatch2 (name := "java/lang/IllegalStateException") (nameY := "java/lang/IllegalArgumentException") hown y1 y2 _ htl (hcov ys ye (by decide) (by decide)) (by rw [yc]; decide) (hcov zs ze (by decide) (by decide)) (by rw [zc]; decide) (by rw [yc]; exact (hts _ (List.mem_cons_of_mem _ wm_262))) (he.nocast (by decide +kernel)) (by rw [zc]; exact (hts _ (List.mem_cons_of_mem _ wm_263))) (he.cast nonG_c2) hce hv hcl ?_
    rw [zh]
    refine lv_astore_n hx hb dLw_begin_11 rfl hl (by decide) rfl (fun ls hl => ?_)
    refine lv_iconst (v := 2) hx hb dLw_begin_12 (by decide) ?_
    refine W.widen (k := 1) (n := 6) (by omega) (by omega) ?_
    have hP2 : va_P D clA (cw a t σ) H1 := hP.kept (fun k z hz2 => hk z.1 ((hP k z hz2).lt))
    exact W.iret (v := 2) hx hb hr (fun w ht hW => ⟨⟨2, σ, rfl, hwp, ⟨by rw [ht]; exact hP2, va_K.moved hW.alike hK, hD, fun h q hq => hA h q (Nat.le_trans hS1.1 (by rw [ht] at hq; exact hq))⟩⟩, ⟨by rw [ht]; exact hS1.1, fun q h1 h2 => by rw [ht]; exact hS1.2.1 q h1 id⟩⟩) (fun _ h => nomatch h) dLw_begin_13
-- private static int spread(NodeServices, int, int)
def wL_spread (a : Nat → Nat) (R : Int32 → CS → Prop) (σ : CS) (x1 x2 : Int32) : Prop :=
  (∃ P, wC_Ns_spread a P σ x1 x2 ∧ (∀ (u : CS), P u → R 0 u)) ∨ (wT_Ns_spread a "java/lang/IllegalArgumentException" σ x1 x2 ∧ R 1 σ) ∨ (wT_Ns_spread a "java/lang/IllegalStateException" σ x1 x2 ∧ R 2 σ)
abbrev wsLw_spread : List Cond := .codeWith yLw_spread cLw_spread 4 (some .int) [(0, 6, 9, 13), (0, 6, 12, 15)] :: wg
abbrev rmL_spread : Room := { frames := 9, cells := 1, slots := 6, locals := 145 }
set_option maxHeartbeats 4000000 in
set_option maxRecDepth 100000 in
theorem kL_spread (l : Launch) (htr : l.stackTraces = false) (D : va_G) (a : Nat → Nat) (A : Nat → Prop) (t : Nat → ClassId) (σ : CS) (x1 x2 : Int32) (R : Int32 → CS → Prop) (hwp : wL_spread a R σ x1 x2) : Met l yLw_spread wsLw_spread rmL_spread (va_Pc [.ref (a 0), .int x1, .int x2] (uE D clA (cT t) A true (cw a t) σ)) (va_Qi R (uI D clA (cT t) A true (cw a t)) A) 1 6 A := by
  refine va_MetW (cc := cLw_spread) (maxL := 4) (ret := (some .int)) (hh := [(0, 6, 9, 13), (0, 6, 12, 15)]) (by decide) rfl ?_
  intro p e s m args below meth c s₁ B hml hv
  obtain ⟨rfl, ⟨hP, hK, hD, hA⟩, he⟩ := hv
  have hx := B.exec
  have hb := B.bytes
  have hr := B.returns
  have hts := atoms_spec (ws := wsLw_spread) B.pre
  have hown : s.vm.findClass RLw = some m.cls := findClass_of_methodNamed B.named
  have hlocks := B.notSynchronized
  obtain ⟨m9, meth9, c9, hn9, hm9, hc9, -, -, htb, -⟩ := Cond.codeWith_spec (hts _ List.mem_cons_self)
  cases B.named.symm.trans hn9
  cases B.method.symm.trans hm9
  cases (Stand.of_body B).code.symm.trans hc9
  obtain ⟨y1, y2, htl, ⟨ys, ye, yh, yc⟩, ⟨zs, ze, zh, zc⟩⟩ := hh2 htb
  have hS : va_S A s.heap s.heap [] := va_S.rf
  have hS0 : va_S (fun _ => False) s.heap s.heap [] := va_S.rf
  have hl := lv_entry ([.ref (a 0), .int x1, .int x2]) (n := 4) (Nat.le_of_ble_eq_true rfl)
  rw [lg_entry_eq]
  generalize (lg_sl ([.ref (a 0), .int x1, .int x2]) ++ List.replicate (4 - (lg_sl ([.ref (a 0), .int x1, .int x2])).length) Slot.unset).toArray = ls at hl ⊢
  have hl : lv_has ls 4 [(0, .ref (a 0)), (1, .int x1), (2, .int x2)] := hl
  refine lv_aload_n hx hb dLw_spread_0 rfl (lv_at hl 0 rfl) ?_
  refine lv_iload_n hx hb dLw_spread_1 rfl (lv_at hl 1 rfl) ?_
  refine lv_iload_n hx hb dLw_spread_2 rfl (lv_at hl 2 rfl) ?_
  rcases hwp with ⟨P, hPw, hwp⟩ | ⟨ht, hwp⟩ | ⟨ht, hwp⟩
  · refine va_callv (va_runV (As := [.int x1, .int x2]) (rest := []) (C := RNs) ⟨hx, hb, hml, hown, hts⟩ (kC_Ns_spread l D a A t σ x1 x2 P hPw) (cwV 2 hts (gdV wm_547 wm_548 wm_549 wm_1 wm_550) rfl rfl rfl (by decide +kernel) ⟨Nat.le_of_ble_eq_true rfl, Nat.le_of_ble_eq_true rfl⟩) ⟨uI_blind, (va_recv (ci := 1) (q0 := 0) hK hP rfl rfl), uPre hP hK hD hA⟩ rfl rfl hl.1 rfl (lv_room (Nat.le_of_ble_eq_true rfl)) dLw_spread_3 ⟨Nat.le_of_ble_eq_true rfl, Nat.le_of_ble_eq_true rfl⟩) hS (fun q _ h => h) (fun q h => h) (fun u t2 H locs ht hvm hu hB hz hk hS => ?_)
    have hwp := hwp u hu
    rw [uI, ht] at hB
    obtain ⟨hP2, -, hD2, -⟩ := hB
    refine lv_goto hx hb dLw_spread_6 rfl ?_
    refine lv_iconst (v := 0) hx hb dLw_spread_15 (by decide) ?_
    refine W.widen (k := 1) (n := 6) (by omega) (by omega) ?_
    exact W.iret (v := 0) hx hb hr (fun w ht hW => ⟨⟨0, u, rfl, hwp, uEnd ht hW hP2 hK hD2 hS hA⟩, hS.F ht⟩) hS.2.2 dLw_spread_16
  · refine tCallV (As := [.int x1, .int x2]) (rest := []) (C := RNs) ⟨hx, hb, hml, hown, hts⟩ (tC_Ns_spread l htr D a t σ x1 x2 _ ht) (cwV 2 hts (gdV wm_547 wm_548 wm_549 wm_1 wm_550) rfl rfl rfl (by decide +kernel) ⟨Nat.le_of_ble_eq_true rfl, Nat.le_of_ble_eq_true rfl⟩) ⟨pE_blind, (va_recv (ci := 1) (q0 := 0) hK hP rfl rfl), pPre hP hK he hS0⟩ hS0 rfl hl.1 rfl (Nat.le_of_ble_eq_true rfl) dLw_spread_3 ⟨Nat.le_of_ble_eq_true rfl, Nat.le_of_ble_eq_true rfl⟩ (fun q ce H1 hS1 hce hv hcl hz hk => ?_)
    refine tCatch1 (name := "java/lang/IllegalArgumentException") hown y1 _ htl (hcov ys ye (by decide) (by decide)) (by rw [yc]; decide) (by rw [yc]; exact (hts _ (List.mem_cons_of_mem _ wm_262))) (he.cast nonG_c1) hce hv hcl ?_
    rw [yh]
    refine lv_astore_n hx hb dLw_spread_9 rfl hl (by decide) rfl (fun ls hl => ?_)
    refine lv_iconst (v := 1) hx hb dLw_spread_10 (by decide) ?_
    refine W.widen (k := 1) (n := 6) (by omega) (by omega) ?_
    have hP2 : va_P D clA (cw a t σ) H1 := hP.kept (fun k z hz2 => hk z.1 ((hP k z hz2).lt))
    exact W.iret (v := 1) hx hb hr (fun w ht hW => ⟨⟨1, σ, rfl, hwp, ⟨by rw [ht]; exact hP2, va_K.moved hW.alike hK, hD, fun h q hq => hA h q (Nat.le_trans hS1.1 (by rw [ht] at hq; exact hq))⟩⟩, ⟨by rw [ht]; exact hS1.1, fun q h1 h2 => by rw [ht]; exact hS1.2.1 q h1 id⟩⟩) (fun _ h => nomatch h) dLw_spread_11
  · refine tCallV (As := [.int x1, .int x2]) (rest := []) (C := RNs) ⟨hx, hb, hml, hown, hts⟩ (tC_Ns_spread l htr D a t σ x1 x2 _ ht) (cwV 2 hts (gdV wm_547 wm_548 wm_549 wm_1 wm_550) rfl rfl rfl (by decide +kernel) ⟨Nat.le_of_ble_eq_true rfl, Nat.le_of_ble_eq_true rfl⟩) ⟨pE_blind, (va_recv (ci := 1) (q0 := 0) hK hP rfl rfl), pPre hP hK he hS0⟩ hS0 rfl hl.1 rfl (Nat.le_of_ble_eq_true rfl) dLw_spread_3 ⟨Nat.le_of_ble_eq_true rfl, Nat.le_of_ble_eq_true rfl⟩ (fun q ce H1 hS1 hce hv hcl hz hk => ?_)
    refine tCatch2 (name := "java/lang/IllegalStateException") (nameY := "java/lang/IllegalArgumentException") hown y1 y2 _ htl (hcov ys ye (by decide) (by decide)) (by rw [yc]; decide) (hcov zs ze (by decide) (by decide)) (by rw [zc]; decide) (by rw [yc]; exact (hts _ (List.mem_cons_of_mem _ wm_262))) (he.nocast (by decide +kernel)) (by rw [zc]; exact (hts _ (List.mem_cons_of_mem _ wm_263))) (he.cast nonG_c2) hce hv hcl ?_
    rw [zh]
    refine lv_astore_n hx hb dLw_spread_12 rfl hl (by decide) rfl (fun ls hl => ?_)
    refine lv_iconst (v := 2) hx hb dLw_spread_13 (by decide) ?_
    refine W.widen (k := 1) (n := 6) (by omega) (by omega) ?_
    have hP2 : va_P D clA (cw a t σ) H1 := hP.kept (fun k z hz2 => hk z.1 ((hP k z hz2).lt))
    exact W.iret (v := 2) hx hb hr (fun w ht hW => ⟨⟨2, σ, rfl, hwp, ⟨by rw [ht]; exact hP2, va_K.moved hW.alike hK, hD, fun h q hq => hA h q (Nat.le_trans hS1.1 (by rw [ht] at hq; exact hq))⟩⟩, ⟨by rw [ht]; exact hS1.1, fun q h1 h2 => by rw [ht]; exact hS1.2.1 q h1 id⟩⟩) (fun _ h => nomatch h) dLw_spread_14
-- private static int rest(NodeServices, int)
def wL_rest (a : Nat → Nat) (R : Int32 → CS → Prop) (σ : CS) (x1 : Int32) : Prop :=
  (∃ P, wC_Ns_rest a P σ x1 ∧ (∀ (u : CS), P u → R 0 u)) ∨ (wT_Ns_rest a "java/lang/IllegalArgumentException" σ x1 ∧ R 1 σ) ∨ (wT_Ns_rest a "java/lang/IllegalStateException" σ x1 ∧ R 2 σ)
abbrev wsLw_rest : List Cond := .codeWith yLw_rest cLw_rest 3 (some .int) [(0, 5, 8, 13), (0, 5, 11, 15)] :: wg
abbrev rmL_rest : Room := { frames := 8, cells := 1, slots := 6, locals := 133 }
set_option maxHeartbeats 4000000 in
set_option maxRecDepth 100000 in
theorem kL_rest (l : Launch) (htr : l.stackTraces = false) (D : va_G) (a : Nat → Nat) (A : Nat → Prop) (t : Nat → ClassId) (σ : CS) (x1 : Int32) (R : Int32 → CS → Prop) (hwp : wL_rest a R σ x1) : Met l yLw_rest wsLw_rest rmL_rest (va_Pc [.ref (a 0), .int x1] (uE D clA (cT t) A true (cw a t) σ)) (va_Qi R (uI D clA (cT t) A true (cw a t)) A) 1 6 A := by
  refine va_MetW (cc := cLw_rest) (maxL := 3) (ret := (some .int)) (hh := [(0, 5, 8, 13), (0, 5, 11, 15)]) (by decide) rfl ?_
  intro p e s m args below meth c s₁ B hml hv
  obtain ⟨rfl, ⟨hP, hK, hD, hA⟩, he⟩ := hv
  have hx := B.exec
  have hb := B.bytes
  have hr := B.returns
  have hts := atoms_spec (ws := wsLw_rest) B.pre
  have hown : s.vm.findClass RLw = some m.cls := findClass_of_methodNamed B.named
  have hlocks := B.notSynchronized
  obtain ⟨m9, meth9, c9, hn9, hm9, hc9, -, -, htb, -⟩ := Cond.codeWith_spec (hts _ List.mem_cons_self)
  cases B.named.symm.trans hn9
  cases B.method.symm.trans hm9
  cases (Stand.of_body B).code.symm.trans hc9
  obtain ⟨y1, y2, htl, ⟨ys, ye, yh, yc⟩, ⟨zs, ze, zh, zc⟩⟩ := hh2 htb
  have hS : va_S A s.heap s.heap [] := va_S.rf
  have hS0 : va_S (fun _ => False) s.heap s.heap [] := va_S.rf
  have hl := lv_entry ([.ref (a 0), .int x1]) (n := 3) (Nat.le_of_ble_eq_true rfl)
  rw [lg_entry_eq]
  generalize (lg_sl ([.ref (a 0), .int x1]) ++ List.replicate (3 - (lg_sl ([.ref (a 0), .int x1])).length) Slot.unset).toArray = ls at hl ⊢
  have hl : lv_has ls 3 [(0, .ref (a 0)), (1, .int x1)] := hl
  refine lv_aload_n hx hb dLw_rest_0 rfl (lv_at hl 0 rfl) ?_
  refine lv_iload_n hx hb dLw_rest_1 rfl (lv_at hl 1 rfl) ?_
  rcases hwp with ⟨P, hPw, hwp⟩ | ⟨ht, hwp⟩ | ⟨ht, hwp⟩
  · refine va_callv (va_runV (As := [.int x1]) (rest := []) (C := RNs) ⟨hx, hb, hml, hown, hts⟩ (kC_Ns_rest l D a A t σ x1 P hPw) (cwV 1 hts (gdV wm_570 wm_571 wm_572 wm_1 wm_573) rfl rfl rfl (by decide +kernel) ⟨Nat.le_of_ble_eq_true rfl, Nat.le_of_ble_eq_true rfl⟩) ⟨uI_blind, (va_recv (ci := 1) (q0 := 0) hK hP rfl rfl), uPre hP hK hD hA⟩ rfl rfl hl.1 rfl (lv_room (Nat.le_of_ble_eq_true rfl)) dLw_rest_2 ⟨Nat.le_of_ble_eq_true rfl, Nat.le_of_ble_eq_true rfl⟩) hS (fun q _ h => h) (fun q h => h) (fun u t2 H locs ht hvm hu hB hz hk hS => ?_)
    have hwp := hwp u hu
    rw [uI, ht] at hB
    obtain ⟨hP2, -, hD2, -⟩ := hB
    refine lv_goto hx hb dLw_rest_5 rfl ?_
    refine lv_iconst (v := 0) hx hb dLw_rest_14 (by decide) ?_
    refine W.widen (k := 1) (n := 6) (by omega) (by omega) ?_
    exact W.iret (v := 0) hx hb hr (fun w ht hW => ⟨⟨0, u, rfl, hwp, uEnd ht hW hP2 hK hD2 hS hA⟩, hS.F ht⟩) hS.2.2 dLw_rest_15
  · refine tCallV (As := [.int x1]) (rest := []) (C := RNs) ⟨hx, hb, hml, hown, hts⟩ (tC_Ns_rest l htr D a t σ x1 _ ht) (cwV 1 hts (gdV wm_570 wm_571 wm_572 wm_1 wm_573) rfl rfl rfl (by decide +kernel) ⟨Nat.le_of_ble_eq_true rfl, Nat.le_of_ble_eq_true rfl⟩) ⟨pE_blind, (va_recv (ci := 1) (q0 := 0) hK hP rfl rfl), pPre hP hK he hS0⟩ hS0 rfl hl.1 rfl (Nat.le_of_ble_eq_true rfl) dLw_rest_2 ⟨Nat.le_of_ble_eq_true rfl, Nat.le_of_ble_eq_true rfl⟩ (fun q ce H1 hS1 hce hv hcl hz hk => ?_)
    refine tCatch1 (name := "java/lang/IllegalArgumentException") hown y1 _ htl (hcov ys ye (by decide) (by decide)) (by rw [yc]; decide) (by rw [yc]; exact (hts _ (List.mem_cons_of_mem _ wm_262))) (he.cast nonG_c1) hce hv hcl ?_
    rw [yh]
    refine lv_astore_n hx hb dLw_rest_8 rfl hl (by decide) rfl (fun ls hl => ?_)
    refine lv_iconst (v := 1) hx hb dLw_rest_9 (by decide) ?_
    refine W.widen (k := 1) (n := 6) (by omega) (by omega) ?_
    have hP2 : va_P D clA (cw a t σ) H1 := hP.kept (fun k z hz2 => hk z.1 ((hP k z hz2).lt))
    exact W.iret (v := 1) hx hb hr (fun w ht hW => ⟨⟨1, σ, rfl, hwp, ⟨by rw [ht]; exact hP2, va_K.moved hW.alike hK, hD, fun h q hq => hA h q (Nat.le_trans hS1.1 (by rw [ht] at hq; exact hq))⟩⟩, ⟨by rw [ht]; exact hS1.1, fun q h1 h2 => by rw [ht]; exact hS1.2.1 q h1 id⟩⟩) (fun _ h => nomatch h) dLw_rest_10
  · refine tCallV (As := [.int x1]) (rest := []) (C := RNs) ⟨hx, hb, hml, hown, hts⟩ (tC_Ns_rest l htr D a t σ x1 _ ht) (cwV 1 hts (gdV wm_570 wm_571 wm_572 wm_1 wm_573) rfl rfl rfl (by decide +kernel) ⟨Nat.le_of_ble_eq_true rfl, Nat.le_of_ble_eq_true rfl⟩) ⟨pE_blind, (va_recv (ci := 1) (q0 := 0) hK hP rfl rfl), pPre hP hK he hS0⟩ hS0 rfl hl.1 rfl (Nat.le_of_ble_eq_true rfl) dLw_rest_2 ⟨Nat.le_of_ble_eq_true rfl, Nat.le_of_ble_eq_true rfl⟩ (fun q ce H1 hS1 hce hv hcl hz hk => ?_)
    refine tCatch2 (name := "java/lang/IllegalStateException") (nameY := "java/lang/IllegalArgumentException") hown y1 y2 _ htl (hcov ys ye (by decide) (by decide)) (by rw [yc]; decide) (hcov zs ze (by decide) (by decide)) (by rw [zc]; decide) (by rw [yc]; exact (hts _ (List.mem_cons_of_mem _ wm_262))) (he.nocast (by decide +kernel)) (by rw [zc]; exact (hts _ (List.mem_cons_of_mem _ wm_263))) (he.cast nonG_c2) hce hv hcl ?_
    rw [zh]
    refine lv_astore_n hx hb dLw_rest_11 rfl hl (by decide) rfl (fun ls hl => ?_)
    refine lv_iconst (v := 2) hx hb dLw_rest_12 (by decide) ?_
    refine W.widen (k := 1) (n := 6) (by omega) (by omega) ?_
    have hP2 : va_P D clA (cw a t σ) H1 := hP.kept (fun k z hz2 => hk z.1 ((hP k z hz2).lt))
    exact W.iret (v := 2) hx hb hr (fun w ht hW => ⟨⟨2, σ, rfl, hwp, ⟨by rw [ht]; exact hP2, va_K.moved hW.alike hK, hD, fun h q hq => hA h q (Nat.le_trans hS1.1 (by rw [ht] at hq; exact hq))⟩⟩, ⟨by rw [ht]; exact hS1.1, fun q h1 h2 => by rw [ht]; exact hS1.2.1 q h1 id⟩⟩) (fun _ h => nomatch h) dLw_rest_13
-- private static int deliver(NodeServices, int, int, long[])
def wL_deliver (a : Nat → Nat) (R : Int32 → CS × (Nat → Int64) → Prop) (σ : CS) (f : Nat → Int64) (x1 x2 : Int32) : Prop :=
  (∃ P, wC_Ns_deliver a P σ x1 x2 ∧ (∀ (r : Int32) (u : CS), P r u → R 0 (u, vp_updL f 0 r.toInt64))) ∨ (wT_Ns_deliver a "java/lang/IllegalArgumentException" σ x1 x2 ∧ R 1 (σ, f)) ∨ (wT_Ns_deliver a "java/util/NoSuchElementException" σ x1 x2 ∧ R 2 (σ, f))
abbrev wsLw_deliver : List Cond := .codeWith yLw_deliver cLw_deliver 5 (some .int) [(0, 10, 13, 13), (0, 10, 17, 37)] :: wg
abbrev rmL_deliver : Room := { frames := 9, cells := 5, slots := 20, locals := 181 }
set_option maxHeartbeats 4000000 in
set_option maxRecDepth 100000 in
theorem kL_deliver (l : Launch) (htr : l.stackTraces = false) (D : va_G) (a : Nat → Nat) (A : Nat → Prop) (t : Nat → ClassId) (ao : Nat) (tJ : ClassId) (σ : CS) (f : Nat → Int64) (x1 x2 : Int32) (R : Int32 → CS × (Nat → Int64) → Prop) (hwp : wL_deliver a R σ f x1 x2) : Met l yLw_deliver wsLw_deliver rmL_deliver (va_Pc [.ref (a 0), .int x1, .int x2, .ref ao] (fun U => uE D clA (cT t) A true (cw a t) σ U ∧ va_P D clA [(ao, .inl (tJ, 1, .inr (.inl f)))] U.heap ∧ va_K D clA [(tJ, .long)] U ∧ ¬ A ao)) (va_Qi R (fun u w => uI D clA (cT t) A true (cw a t) u.1 w ∧ va_P D clA [(ao, .inl (tJ, 1, .inr (.inl u.2)))] w.heap) (fun q => A q ∨ q = ao)) 5 20 (fun q => A q ∨ q = ao) := by
  refine va_MetW (cc := cLw_deliver) (maxL := 5) (ret := (some .int)) (hh := [(0, 10, 13, 13), (0, 10, 17, 37)]) (by decide) rfl ?_
  intro p e s m args below meth c s₁ B hml hv
  obtain ⟨rfl, ⟨⟨hP, hK, hD, hA⟩, he⟩, hO, hKJ, hao⟩ := hv
  have hx := B.exec
  have hb := B.bytes
  have hr := B.returns
  have hts := atoms_spec (ws := wsLw_deliver) B.pre
  have hown : s.vm.findClass RLw = some m.cls := findClass_of_methodNamed B.named
  have hlocks := B.notSynchronized
  obtain ⟨m9, meth9, c9, hn9, hm9, hc9, -, -, htb, -⟩ := Cond.codeWith_spec (hts _ List.mem_cons_self)
  cases B.named.symm.trans hn9
  cases B.method.symm.trans hm9
  cases (Stand.of_body B).code.symm.trans hc9
  obtain ⟨y1, y2, htl, ⟨ys, ye, yh, yc⟩, ⟨zs, ze, zh, zc⟩⟩ := hh2 htb
  have hS : va_S A s.heap s.heap [] := va_S.rf
  have hS0 : va_S (fun _ => False) s.heap s.heap [] := va_S.rf
  have hl := lv_entry ([.ref (a 0), .int x1, .int x2, .ref ao]) (n := 5) (Nat.le_of_ble_eq_true rfl)
  rw [lg_entry_eq]
  generalize (lg_sl ([.ref (a 0), .int x1, .int x2, .ref ao]) ++ List.replicate (5 - (lg_sl ([.ref (a 0), .int x1, .int x2, .ref ao])).length) Slot.unset).toArray = ls at hl ⊢
  have hl : lv_has ls 5 [(0, .ref (a 0)), (1, .int x1), (2, .int x2), (3, .ref ao)] := hl
  refine lv_aload_n hx hb dLw_deliver_0 rfl (lv_at hl 3 rfl) ?_
  refine lv_iconst (v := 0) hx hb dLw_deliver_1 (by decide) ?_
  refine lv_aload_n hx hb dLw_deliver_2 rfl (lv_at hl 0 rfl) ?_
  refine lv_iload_n hx hb dLw_deliver_3 rfl (lv_at hl 1 rfl) ?_
  refine lv_iload_n hx hb dLw_deliver_4 rfl (lv_at hl 2 rfl) ?_
  rcases hwp with ⟨P, hPw, hwp⟩ | ⟨ht, hwp⟩ | ⟨ht, hwp⟩
  · refine va_calli (va_runV (As := [.int x1, .int x2]) (rest := [.int 0, .ref ao]) (C := RNs) ⟨hx, hb, hml, hown, hts⟩ (kC_Ns_deliver l D a A t σ x1 x2 P hPw) (cwV 2 hts (gdV wm_587 wm_588 wm_589 wm_1 wm_590) rfl rfl rfl (by decide +kernel) ⟨Nat.le_of_ble_eq_true rfl, Nat.le_of_ble_eq_true rfl⟩) ⟨uE_blind, (va_recv (ci := 1) (q0 := 0) hK hP rfl rfl), uE_pre hP hK hD hA he⟩ rfl rfl hl.1 rfl (lv_room (Nat.le_of_ble_eq_true rfl)) dLw_deliver_5 ⟨Nat.le_of_ble_eq_true rfl, Nat.le_of_ble_eq_true rfl⟩) hS (fun q _ h => h) (fun q h => h) (fun r u t2 H locs ht hvm hu hB hz hk hS => ?_)
    have hwp := hwp r u hu
    rw [uI, ht] at hB
    obtain ⟨hP2, -, hD2, -⟩ := hB
    have hO2 : va_P D clA [(ao, .inl (tJ, 1, .inr (.inl f)))] H := sg_kept hO (hk ao (sg_lt hO) hao)
    have hDo : va_D (fun q => A q ∨ q = ao) [(ao, .inl (tJ, 1, .inr (.inl f)))] := sg_D (Or.inr rfl)
    have hSo : va_S (fun q => A q ∨ q = ao) s.heap H locs := ⟨hS.1, fun q h1 h2 => hS.2.1 q h1 (fun z => h2 (Or.inl z)), fun q hq => Or.inl (hS.2.2 q hq)⟩
    refine lv_i2l hx hb dLw_deliver_8 rfl ?_
    refine tx_last hx hb hKJ hO2 hDo hSo 0 0 rfl rfl (by unfold vp_in; decide) dLw_deliver_9 (fun H1 locs1 hO3 hSo3 hz3 hk3 => ?_)
    have hP3 : va_P D clA (cw a t u) H1 := hP2.kept (fun k q hq => hk3 q.1 (fun z => hao (by rw [← z]; exact hD2.2 k q hq)))
    refine lv_goto hx hb dLw_deliver_10 rfl ?_
    refine lv_iconst (v := 0) hx hb dLw_deliver_21 (by decide) ?_
    refine W.widen (k := 5) (n := 20) (by omega) (by omega) ?_
    exact W.iret (v := 0) hx hb hr (fun w ht hW => ⟨⟨0, (u, vp_updL f 0 r.toInt64), rfl, hwp, ⟨by rw [ht]; exact hP3, va_K.moved hW.alike hK, hD2, fun h q hq => hA h q (Nat.le_trans hSo3.1 (by rw [ht] at hq; exact hq))⟩, by rw [ht]; exact hO3⟩, hSo3.F ht⟩) hSo3.2.2 dLw_deliver_22
  · refine tCallV (As := [.int x1, .int x2]) (rest := [.int 0, .ref ao]) (C := RNs) ⟨hx, hb, hml, hown, hts⟩ (tC_Ns_deliver l htr D a t σ x1 x2 _ ht) (cwV 2 hts (gdV wm_587 wm_588 wm_589 wm_1 wm_590) rfl rfl rfl (by decide +kernel) ⟨Nat.le_of_ble_eq_true rfl, Nat.le_of_ble_eq_true rfl⟩) ⟨pE_blind, (va_recv (ci := 1) (q0 := 0) hK hP rfl rfl), pPre hP hK he hS0⟩ hS0 rfl hl.1 rfl (Nat.le_of_ble_eq_true rfl) dLw_deliver_5 ⟨Nat.le_of_ble_eq_true rfl, Nat.le_of_ble_eq_true rfl⟩ (fun q ce H1 hS1 hce hv hcl hz hk => ?_)
    refine tCatch1 (name := "java/lang/IllegalArgumentException") hown y1 _ htl (hcov ys ye (by decide) (by decide)) (by rw [yc]; decide) (by rw [yc]; exact (hts _ (List.mem_cons_of_mem _ wm_262))) (he.cast nonG_c1) hce hv hcl ?_
    rw [yh]
    refine lv_astore hx hb dLw_deliver_13 hl (by decide) rfl (fun ls hl => ?_)
    refine lv_iconst (v := 1) hx hb dLw_deliver_15 (by decide) ?_
    refine W.widen (k := 5) (n := 20) (by omega) (by omega) ?_
    have hP2 : va_P D clA (cw a t σ) H1 := hP.kept (fun k z hz2 => hk z.1 ((hP k z hz2).lt))
    have hO2 : va_P D clA [(ao, .inl (tJ, 1, .inr (.inl f)))] H1 := hO.kept (fun k z hz2 => hk z.1 ((hO k z hz2).lt))
    exact W.iret (v := 1) hx hb hr (fun w ht hW => ⟨⟨1, (σ, f), rfl, hwp, ⟨by rw [ht]; exact hP2, va_K.moved hW.alike hK, hD, fun h q hq => hA h q (Nat.le_trans hS1.1 (by rw [ht] at hq; exact hq))⟩, by rw [ht]; exact hO2⟩, ⟨by rw [ht]; exact hS1.1, fun q h1 h2 => by rw [ht]; exact hS1.2.1 q h1 id⟩⟩) (fun _ h => nomatch h) dLw_deliver_16
  · refine tCallV (As := [.int x1, .int x2]) (rest := [.int 0, .ref ao]) (C := RNs) ⟨hx, hb, hml, hown, hts⟩ (tC_Ns_deliver l htr D a t σ x1 x2 _ ht) (cwV 2 hts (gdV wm_587 wm_588 wm_589 wm_1 wm_590) rfl rfl rfl (by decide +kernel) ⟨Nat.le_of_ble_eq_true rfl, Nat.le_of_ble_eq_true rfl⟩) ⟨pE_blind, (va_recv (ci := 1) (q0 := 0) hK hP rfl rfl), pPre hP hK he hS0⟩ hS0 rfl hl.1 rfl (Nat.le_of_ble_eq_true rfl) dLw_deliver_5 ⟨Nat.le_of_ble_eq_true rfl, Nat.le_of_ble_eq_true rfl⟩ (fun q ce H1 hS1 hce hv hcl hz hk => ?_)
    refine tCatch2 (name := "java/util/NoSuchElementException") (nameY := "java/lang/IllegalArgumentException") hown y1 y2 _ htl (hcov ys ye (by decide) (by decide)) (by rw [yc]; decide) (hcov zs ze (by decide) (by decide)) (by rw [zc]; decide) (by rw [yc]; exact (hts _ (List.mem_cons_of_mem _ wm_262))) (he.nocast (by decide +kernel)) (by rw [zc]; exact (hts _ (List.mem_cons_of_mem _ wm_586))) (he.cast nonG_c3) hce hv hcl ?_
    rw [zh]
    refine lv_astore hx hb dLw_deliver_17 hl (by decide) rfl (fun ls hl => ?_)
    refine lv_iconst (v := 2) hx hb dLw_deliver_19 (by decide) ?_
    refine W.widen (k := 5) (n := 20) (by omega) (by omega) ?_
    have hP2 : va_P D clA (cw a t σ) H1 := hP.kept (fun k z hz2 => hk z.1 ((hP k z hz2).lt))
    have hO2 : va_P D clA [(ao, .inl (tJ, 1, .inr (.inl f)))] H1 := hO.kept (fun k z hz2 => hk z.1 ((hO k z hz2).lt))
    exact W.iret (v := 2) hx hb hr (fun w ht hW => ⟨⟨2, (σ, f), rfl, hwp, ⟨by rw [ht]; exact hP2, va_K.moved hW.alike hK, hD, fun h q hq => hA h q (Nat.le_trans hS1.1 (by rw [ht] at hq; exact hq))⟩, by rw [ht]; exact hO2⟩, ⟨by rw [ht]; exact hS1.1, fun q h1 h2 => by rw [ht]; exact hS1.2.1 q h1 id⟩⟩) (fun _ h => nomatch h) dLw_deliver_20
-- private static int first(NodeServices, int, int, long[])
def wL_first (a : Nat → Nat) (R : Int32 → CS × (Nat → Int64) → Prop) (σ : CS) (f : Nat → Int64) (x1 x2 : Int32) : Prop :=
  (∃ P, wC_Ns_first a P σ x1 x2 ∧ (∀ (r : Int32) (u : CS), P r u → R 0 (u, vp_updL f 0 r.toInt64))) ∨ (wT_Ns_first a "java/lang/IllegalArgumentException" σ x1 x2 ∧ R 1 (σ, f))
abbrev wsLw_first : List Cond := .codeWith yLw_first cLw_first 5 (some .int) [(0, 10, 13, 13)] :: wg
abbrev rmL_first : Room := { frames := 9, cells := 1, slots := 6, locals := 147 }
set_option maxHeartbeats 4000000 in
set_option maxRecDepth 100000 in
theorem kL_first (l : Launch) (htr : l.stackTraces = false) (D : va_G) (a : Nat → Nat) (A : Nat → Prop) (t : Nat → ClassId) (ao : Nat) (tJ : ClassId) (σ : CS) (f : Nat → Int64) (x1 x2 : Int32) (R : Int32 → CS × (Nat → Int64) → Prop) (hwp : wL_first a R σ f x1 x2) : Met l yLw_first wsLw_first rmL_first (va_Pc [.ref (a 0), .int x1, .int x2, .ref ao] (fun U => uE D clA (cT t) A true (cw a t) σ U ∧ va_P D clA [(ao, .inl (tJ, 1, .inr (.inl f)))] U.heap ∧ va_K D clA [(tJ, .long)] U ∧ ¬ A ao)) (va_Qi R (fun u w => uI D clA (cT t) A true (cw a t) u.1 w ∧ va_P D clA [(ao, .inl (tJ, 1, .inr (.inl u.2)))] w.heap) (fun q => A q ∨ q = ao)) 1 6 (fun q => A q ∨ q = ao) := by
  refine va_MetW (cc := cLw_first) (maxL := 5) (ret := (some .int)) (hh := [(0, 10, 13, 13)]) (by decide) rfl ?_
  intro p e s m args below meth c s₁ B hml hv
  obtain ⟨rfl, ⟨⟨hP, hK, hD, hA⟩, he⟩, hO, hKJ, hao⟩ := hv
  have hx := B.exec
  have hb := B.bytes
  have hr := B.returns
  have hts := atoms_spec (ws := wsLw_first) B.pre
  have hown : s.vm.findClass RLw = some m.cls := findClass_of_methodNamed B.named
  have hlocks := B.notSynchronized
  obtain ⟨m9, meth9, c9, hn9, hm9, hc9, -, -, htb, -⟩ := Cond.codeWith_spec (hts _ List.mem_cons_self)
  cases B.named.symm.trans hn9
  cases B.method.symm.trans hm9
  cases (Stand.of_body B).code.symm.trans hc9
  obtain ⟨y1, htl, ⟨ys, ye, yh, yc⟩⟩ := hh1 htb
  have hS : va_S A s.heap s.heap [] := va_S.rf
  have hS0 : va_S (fun _ => False) s.heap s.heap [] := va_S.rf
  have hl := lv_entry ([.ref (a 0), .int x1, .int x2, .ref ao]) (n := 5) (Nat.le_of_ble_eq_true rfl)
  rw [lg_entry_eq]
  generalize (lg_sl ([.ref (a 0), .int x1, .int x2, .ref ao]) ++ List.replicate (5 - (lg_sl ([.ref (a 0), .int x1, .int x2, .ref ao])).length) Slot.unset).toArray = ls at hl ⊢
  have hl : lv_has ls 5 [(0, .ref (a 0)), (1, .int x1), (2, .int x2), (3, .ref ao)] := hl
  refine lv_aload_n hx hb dLw_first_0 rfl (lv_at hl 3 rfl) ?_
  refine lv_iconst (v := 0) hx hb dLw_first_1 (by decide) ?_
  refine lv_aload_n hx hb dLw_first_2 rfl (lv_at hl 0 rfl) ?_
  refine lv_iload_n hx hb dLw_first_3 rfl (lv_at hl 1 rfl) ?_
  refine lv_iload_n hx hb dLw_first_4 rfl (lv_at hl 2 rfl) ?_
  rcases hwp with ⟨P, hPw, hwp⟩ | ⟨ht, hwp⟩
  · refine va_calli (va_runV (As := [.int x1, .int x2]) (rest := [.int 0, .ref ao]) (C := RNs) ⟨hx, hb, hml, hown, hts⟩ (kC_Ns_first l D a A t σ x1 x2 P hPw) (cwV 2 hts (gdV wm_669 wm_670 wm_671 wm_1 wm_672) rfl rfl rfl (by decide +kernel) ⟨Nat.le_of_ble_eq_true rfl, Nat.le_of_ble_eq_true rfl⟩) ⟨uI_blind, (va_recv (ci := 1) (q0 := 0) hK hP rfl rfl), uPre hP hK hD hA⟩ rfl rfl hl.1 rfl (lv_room (Nat.le_of_ble_eq_true rfl)) dLw_first_5 ⟨Nat.le_of_ble_eq_true rfl, Nat.le_of_ble_eq_true rfl⟩) hS (fun q _ h => h) (fun q h => h) (fun r u t2 H locs ht hvm hu hB hz hk hS => ?_)
    have hwp := hwp r u hu
    rw [uI, ht] at hB
    obtain ⟨hP2, -, hD2, -⟩ := hB
    have hO2 : va_P D clA [(ao, .inl (tJ, 1, .inr (.inl f)))] H := sg_kept hO (hk ao (sg_lt hO) hao)
    have hDo : va_D (fun q => A q ∨ q = ao) [(ao, .inl (tJ, 1, .inr (.inl f)))] := sg_D (Or.inr rfl)
    have hSo : va_S (fun q => A q ∨ q = ao) s.heap H locs := ⟨hS.1, fun q h1 h2 => hS.2.1 q h1 (fun z => h2 (Or.inl z)), fun q hq => Or.inl (hS.2.2 q hq)⟩
    refine lv_i2l hx hb dLw_first_8 rfl ?_
    refine tx_last hx hb hKJ hO2 hDo hSo 0 0 rfl rfl (by unfold vp_in; decide) dLw_first_9 (fun H1 locs1 hO3 hSo3 hz3 hk3 => ?_)
    have hP3 : va_P D clA (cw a t u) H1 := hP2.kept (fun k q hq => hk3 q.1 (fun z => hao (by rw [← z]; exact hD2.2 k q hq)))
    refine lv_goto hx hb dLw_first_10 rfl ?_
    refine lv_iconst (v := 0) hx hb dLw_first_17 (by decide) ?_
    refine W.widen (k := 1) (n := 6) (by omega) (by omega) ?_
    exact W.iret (v := 0) hx hb hr (fun w ht hW => ⟨⟨0, (u, vp_updL f 0 r.toInt64), rfl, hwp, ⟨by rw [ht]; exact hP3, va_K.moved hW.alike hK, hD2, fun h q hq => hA h q (Nat.le_trans hSo3.1 (by rw [ht] at hq; exact hq))⟩, by rw [ht]; exact hO3⟩, hSo3.F ht⟩) hSo3.2.2 dLw_first_18
  · refine tCallV (As := [.int x1, .int x2]) (rest := [.int 0, .ref ao]) (C := RNs) ⟨hx, hb, hml, hown, hts⟩ (tC_Ns_first l htr D a t σ x1 x2 _ ht) (cwV 2 hts (gdV wm_669 wm_670 wm_671 wm_1 wm_672) rfl rfl rfl (by decide +kernel) ⟨Nat.le_of_ble_eq_true rfl, Nat.le_of_ble_eq_true rfl⟩) ⟨pE_blind, (va_recv (ci := 1) (q0 := 0) hK hP rfl rfl), pPre hP hK he hS0⟩ hS0 rfl hl.1 rfl (Nat.le_of_ble_eq_true rfl) dLw_first_5 ⟨Nat.le_of_ble_eq_true rfl, Nat.le_of_ble_eq_true rfl⟩ (fun q ce H1 hS1 hce hv hcl hz hk => ?_)
    refine tCatch1 (name := "java/lang/IllegalArgumentException") hown y1 _ htl (hcov ys ye (by decide) (by decide)) (by rw [yc]; decide) (by rw [yc]; exact (hts _ (List.mem_cons_of_mem _ wm_262))) (he.cast nonG_c1) hce hv hcl ?_
    rw [yh]
    refine lv_astore hx hb dLw_first_13 hl (by decide) rfl (fun ls hl => ?_)
    refine lv_iconst (v := 1) hx hb dLw_first_15 (by decide) ?_
    refine W.widen (k := 1) (n := 6) (by omega) (by omega) ?_
    have hP2 : va_P D clA (cw a t σ) H1 := hP.kept (fun k z hz2 => hk z.1 ((hP k z hz2).lt))
    have hO2 : va_P D clA [(ao, .inl (tJ, 1, .inr (.inl f)))] H1 := hO.kept (fun k z hz2 => hk z.1 ((hO k z hz2).lt))
    exact W.iret (v := 1) hx hb hr (fun w ht hW => ⟨⟨1, (σ, f), rfl, hwp, ⟨by rw [ht]; exact hP2, va_K.moved hW.alike hK, hD, fun h q hq => hA h q (Nat.le_trans hS1.1 (by rw [ht] at hq; exact hq))⟩, by rw [ht]; exact hO2⟩, ⟨by rw [ht]; exact hS1.1, fun q h1 h2 => by rw [ht]; exact hS1.2.1 q h1 id⟩⟩) (fun _ h => nomatch h) dLw_first_16
-- private static int waiting(NodeServices, int, int, long[])
def wL_waiting (a : Nat → Nat) (R : Int32 → CS × (Nat → Int64) → Prop) (σ : CS) (f : Nat → Int64) (x1 x2 : Int32) : Prop :=
  (∃ P, wC_Ns_waiting a P σ x1 x2 ∧ (∀ (r : Int32) (u : CS), P r u → R 0 (u, vp_updL f 0 r.toInt64))) ∨ (wT_Ns_waiting a "java/lang/IllegalArgumentException" σ x1 x2 ∧ R 1 (σ, f))
abbrev wsLw_waiting : List Cond := .codeWith yLw_waiting cLw_waiting 5 (some .int) [(0, 10, 13, 13)] :: wg
abbrev rmL_waiting : Room := { frames := 9, cells := 1, slots := 6, locals := 145 }
set_option maxHeartbeats 4000000 in
set_option maxRecDepth 100000 in
theorem kL_waiting (l : Launch) (htr : l.stackTraces = false) (D : va_G) (a : Nat → Nat) (A : Nat → Prop) (t : Nat → ClassId) (ao : Nat) (tJ : ClassId) (σ : CS) (f : Nat → Int64) (x1 x2 : Int32) (R : Int32 → CS × (Nat → Int64) → Prop) (hwp : wL_waiting a R σ f x1 x2) : Met l yLw_waiting wsLw_waiting rmL_waiting (va_Pc [.ref (a 0), .int x1, .int x2, .ref ao] (fun U => uE D clA (cT t) A true (cw a t) σ U ∧ va_P D clA [(ao, .inl (tJ, 1, .inr (.inl f)))] U.heap ∧ va_K D clA [(tJ, .long)] U ∧ ¬ A ao)) (va_Qi R (fun u w => uI D clA (cT t) A true (cw a t) u.1 w ∧ va_P D clA [(ao, .inl (tJ, 1, .inr (.inl u.2)))] w.heap) (fun q => A q ∨ q = ao)) 1 6 (fun q => A q ∨ q = ao) := by
  refine va_MetW (cc := cLw_waiting) (maxL := 5) (ret := (some .int)) (hh := [(0, 10, 13, 13)]) (by decide) rfl ?_
  intro p e s m args below meth c s₁ B hml hv
  obtain ⟨rfl, ⟨⟨hP, hK, hD, hA⟩, he⟩, hO, hKJ, hao⟩ := hv
  have hx := B.exec
  have hb := B.bytes
  have hr := B.returns
  have hts := atoms_spec (ws := wsLw_waiting) B.pre
  have hown : s.vm.findClass RLw = some m.cls := findClass_of_methodNamed B.named
  have hlocks := B.notSynchronized
  obtain ⟨m9, meth9, c9, hn9, hm9, hc9, -, -, htb, -⟩ := Cond.codeWith_spec (hts _ List.mem_cons_self)
  cases B.named.symm.trans hn9
  cases B.method.symm.trans hm9
  cases (Stand.of_body B).code.symm.trans hc9
  obtain ⟨y1, htl, ⟨ys, ye, yh, yc⟩⟩ := hh1 htb
  have hS : va_S A s.heap s.heap [] := va_S.rf
  have hS0 : va_S (fun _ => False) s.heap s.heap [] := va_S.rf
  have hl := lv_entry ([.ref (a 0), .int x1, .int x2, .ref ao]) (n := 5) (Nat.le_of_ble_eq_true rfl)
  rw [lg_entry_eq]
  generalize (lg_sl ([.ref (a 0), .int x1, .int x2, .ref ao]) ++ List.replicate (5 - (lg_sl ([.ref (a 0), .int x1, .int x2, .ref ao])).length) Slot.unset).toArray = ls at hl ⊢
  have hl : lv_has ls 5 [(0, .ref (a 0)), (1, .int x1), (2, .int x2), (3, .ref ao)] := hl
  refine lv_aload_n hx hb dLw_waiting_0 rfl (lv_at hl 3 rfl) ?_
  refine lv_iconst (v := 0) hx hb dLw_waiting_1 (by decide) ?_
  refine lv_aload_n hx hb dLw_waiting_2 rfl (lv_at hl 0 rfl) ?_
  refine lv_iload_n hx hb dLw_waiting_3 rfl (lv_at hl 1 rfl) ?_
  refine lv_iload_n hx hb dLw_waiting_4 rfl (lv_at hl 2 rfl) ?_
  rcases hwp with ⟨P, hPw, hwp⟩ | ⟨ht, hwp⟩
  · refine va_calli (va_runV (As := [.int x1, .int x2]) (rest := [.int 0, .ref ao]) (C := RNs) ⟨hx, hb, hml, hown, hts⟩ (kC_Ns_waiting l D a A t σ x1 x2 P hPw) (cwV 2 hts (gdV wm_676 wm_677 wm_678 wm_1 wm_679) rfl rfl rfl (by decide +kernel) ⟨Nat.le_of_ble_eq_true rfl, Nat.le_of_ble_eq_true rfl⟩) ⟨uI_blind, (va_recv (ci := 1) (q0 := 0) hK hP rfl rfl), uPre hP hK hD hA⟩ rfl rfl hl.1 rfl (lv_room (Nat.le_of_ble_eq_true rfl)) dLw_waiting_5 ⟨Nat.le_of_ble_eq_true rfl, Nat.le_of_ble_eq_true rfl⟩) hS (fun q _ h => h) (fun q h => h) (fun r u t2 H locs ht hvm hu hB hz hk hS => ?_)
    have hwp := hwp r u hu
    rw [uI, ht] at hB
    obtain ⟨hP2, -, hD2, -⟩ := hB
    have hO2 : va_P D clA [(ao, .inl (tJ, 1, .inr (.inl f)))] H := sg_kept hO (hk ao (sg_lt hO) hao)
    have hDo : va_D (fun q => A q ∨ q = ao) [(ao, .inl (tJ, 1, .inr (.inl f)))] := sg_D (Or.inr rfl)
    have hSo : va_S (fun q => A q ∨ q = ao) s.heap H locs := ⟨hS.1, fun q h1 h2 => hS.2.1 q h1 (fun z => h2 (Or.inl z)), fun q hq => Or.inl (hS.2.2 q hq)⟩
    refine lv_i2l hx hb dLw_waiting_8 rfl ?_
    refine tx_last hx hb hKJ hO2 hDo hSo 0 0 rfl rfl (by unfold vp_in; decide) dLw_waiting_9 (fun H1 locs1 hO3 hSo3 hz3 hk3 => ?_)
    have hP3 : va_P D clA (cw a t u) H1 := hP2.kept (fun k q hq => hk3 q.1 (fun z => hao (by rw [← z]; exact hD2.2 k q hq)))
    refine lv_goto hx hb dLw_waiting_10 rfl ?_
    refine lv_iconst (v := 0) hx hb dLw_waiting_17 (by decide) ?_
    refine W.widen (k := 1) (n := 6) (by omega) (by omega) ?_
    exact W.iret (v := 0) hx hb hr (fun w ht hW => ⟨⟨0, (u, vp_updL f 0 r.toInt64), rfl, hwp, ⟨by rw [ht]; exact hP3, va_K.moved hW.alike hK, hD2, fun h q hq => hA h q (Nat.le_trans hSo3.1 (by rw [ht] at hq; exact hq))⟩, by rw [ht]; exact hO3⟩, hSo3.F ht⟩) hSo3.2.2 dLw_waiting_18
  · refine tCallV (As := [.int x1, .int x2]) (rest := [.int 0, .ref ao]) (C := RNs) ⟨hx, hb, hml, hown, hts⟩ (tC_Ns_waiting l htr D a t σ x1 x2 _ ht) (cwV 2 hts (gdV wm_676 wm_677 wm_678 wm_1 wm_679) rfl rfl rfl (by decide +kernel) ⟨Nat.le_of_ble_eq_true rfl, Nat.le_of_ble_eq_true rfl⟩) ⟨pE_blind, (va_recv (ci := 1) (q0 := 0) hK hP rfl rfl), pPre hP hK he hS0⟩ hS0 rfl hl.1 rfl (Nat.le_of_ble_eq_true rfl) dLw_waiting_5 ⟨Nat.le_of_ble_eq_true rfl, Nat.le_of_ble_eq_true rfl⟩ (fun q ce H1 hS1 hce hv hcl hz hk => ?_)
    refine tCatch1 (name := "java/lang/IllegalArgumentException") hown y1 _ htl (hcov ys ye (by decide) (by decide)) (by rw [yc]; decide) (by rw [yc]; exact (hts _ (List.mem_cons_of_mem _ wm_262))) (he.cast nonG_c1) hce hv hcl ?_
    rw [yh]
    refine lv_astore hx hb dLw_waiting_13 hl (by decide) rfl (fun ls hl => ?_)
    refine lv_iconst (v := 1) hx hb dLw_waiting_15 (by decide) ?_
    refine W.widen (k := 1) (n := 6) (by omega) (by omega) ?_
    have hP2 : va_P D clA (cw a t σ) H1 := hP.kept (fun k z hz2 => hk z.1 ((hP k z hz2).lt))
    have hO2 : va_P D clA [(ao, .inl (tJ, 1, .inr (.inl f)))] H1 := hO.kept (fun k z hz2 => hk z.1 ((hO k z hz2).lt))
    exact W.iret (v := 1) hx hb hr (fun w ht hW => ⟨⟨1, (σ, f), rfl, hwp, ⟨by rw [ht]; exact hP2, va_K.moved hW.alike hK, hD, fun h q hq => hA h q (Nat.le_trans hS1.1 (by rw [ht] at hq; exact hq))⟩, by rw [ht]; exact hO2⟩, ⟨by rw [ht]; exact hS1.1, fun q h1 h2 => by rw [ht]; exact hS1.2.1 q h1 id⟩⟩) (fun _ h => nomatch h) dLw_waiting_16
-- private static int about(NodeServices, int, int, long[])
def wL_about (a : Nat → Nat) (R : Int32 → CS × (Nat → Int64) → Prop) (σ : CS) (f : Nat → Int64) (x1 x2 : Int32) : Prop :=
  (∃ P, wC_Ns_about a P σ x1 x2 ∧ (∀ (r : Int32) (u : CS), P r u → R 0 (u, vp_updL f 0 r.toInt64))) ∨ (wT_Ns_about a "java/lang/IllegalArgumentException" σ x1 x2 ∧ R 1 (σ, f))
abbrev wsLw_about : List Cond := .codeWith yLw_about cLw_about 5 (some .int) [(0, 10, 13, 13)] :: wg
abbrev rmL_about : Room := { frames := 8, cells := 1, slots := 6, locals := 124 }
set_option maxHeartbeats 4000000 in
set_option maxRecDepth 100000 in
theorem kL_about (l : Launch) (htr : l.stackTraces = false) (D : va_G) (a : Nat → Nat) (A : Nat → Prop) (t : Nat → ClassId) (ao : Nat) (tJ : ClassId) (σ : CS) (f : Nat → Int64) (x1 x2 : Int32) (R : Int32 → CS × (Nat → Int64) → Prop) (hwp : wL_about a R σ f x1 x2) : Met l yLw_about wsLw_about rmL_about (va_Pc [.ref (a 0), .int x1, .int x2, .ref ao] (fun U => uE D clA (cT t) A true (cw a t) σ U ∧ va_P D clA [(ao, .inl (tJ, 1, .inr (.inl f)))] U.heap ∧ va_K D clA [(tJ, .long)] U ∧ ¬ A ao)) (va_Qi R (fun u w => uI D clA (cT t) A true (cw a t) u.1 w ∧ va_P D clA [(ao, .inl (tJ, 1, .inr (.inl u.2)))] w.heap) (fun q => A q ∨ q = ao)) 1 6 (fun q => A q ∨ q = ao) := by
  refine va_MetW (cc := cLw_about) (maxL := 5) (ret := (some .int)) (hh := [(0, 10, 13, 13)]) (by decide) rfl ?_
  intro p e s m args below meth c s₁ B hml hv
  obtain ⟨rfl, ⟨⟨hP, hK, hD, hA⟩, he⟩, hO, hKJ, hao⟩ := hv
  have hx := B.exec
  have hb := B.bytes
  have hr := B.returns
  have hts := atoms_spec (ws := wsLw_about) B.pre
  have hown : s.vm.findClass RLw = some m.cls := findClass_of_methodNamed B.named
  have hlocks := B.notSynchronized
  obtain ⟨m9, meth9, c9, hn9, hm9, hc9, -, -, htb, -⟩ := Cond.codeWith_spec (hts _ List.mem_cons_self)
  cases B.named.symm.trans hn9
  cases B.method.symm.trans hm9
  cases (Stand.of_body B).code.symm.trans hc9
  obtain ⟨y1, htl, ⟨ys, ye, yh, yc⟩⟩ := hh1 htb
  have hS : va_S A s.heap s.heap [] := va_S.rf
  have hS0 : va_S (fun _ => False) s.heap s.heap [] := va_S.rf
  have hl := lv_entry ([.ref (a 0), .int x1, .int x2, .ref ao]) (n := 5) (Nat.le_of_ble_eq_true rfl)
  rw [lg_entry_eq]
  generalize (lg_sl ([.ref (a 0), .int x1, .int x2, .ref ao]) ++ List.replicate (5 - (lg_sl ([.ref (a 0), .int x1, .int x2, .ref ao])).length) Slot.unset).toArray = ls at hl ⊢
  have hl : lv_has ls 5 [(0, .ref (a 0)), (1, .int x1), (2, .int x2), (3, .ref ao)] := hl
  refine lv_aload_n hx hb dLw_about_0 rfl (lv_at hl 3 rfl) ?_
  refine lv_iconst (v := 0) hx hb dLw_about_1 (by decide) ?_
  refine lv_aload_n hx hb dLw_about_2 rfl (lv_at hl 0 rfl) ?_
  refine lv_iload_n hx hb dLw_about_3 rfl (lv_at hl 1 rfl) ?_
  refine lv_iload_n hx hb dLw_about_4 rfl (lv_at hl 2 rfl) ?_
  rcases hwp with ⟨P, hPw, hwp⟩ | ⟨ht, hwp⟩
  · refine va_calli (va_runV (As := [.int x1, .int x2]) (rest := [.int 0, .ref ao]) (C := RNs) ⟨hx, hb, hml, hown, hts⟩ (kC_Ns_about l D a A t σ x1 x2 P hPw) (cwV 2 hts (gdV wm_683 wm_684 wm_685 wm_1 wm_686) rfl rfl rfl (by decide +kernel) ⟨Nat.le_of_ble_eq_true rfl, Nat.le_of_ble_eq_true rfl⟩) ⟨uE_blind, (va_recv (ci := 1) (q0 := 0) hK hP rfl rfl), uE_pre hP hK hD hA he⟩ rfl rfl hl.1 rfl (lv_room (Nat.le_of_ble_eq_true rfl)) dLw_about_5 ⟨Nat.le_of_ble_eq_true rfl, Nat.le_of_ble_eq_true rfl⟩) hS (fun q _ h => h) (fun q h => h) (fun r u t2 H locs ht hvm hu hB hz hk hS => ?_)
    have hwp := hwp r u hu
    rw [uI, ht] at hB
    obtain ⟨hP2, -, hD2, -⟩ := hB
    have hO2 : va_P D clA [(ao, .inl (tJ, 1, .inr (.inl f)))] H := sg_kept hO (hk ao (sg_lt hO) hao)
    have hDo : va_D (fun q => A q ∨ q = ao) [(ao, .inl (tJ, 1, .inr (.inl f)))] := sg_D (Or.inr rfl)
    have hSo : va_S (fun q => A q ∨ q = ao) s.heap H locs := ⟨hS.1, fun q h1 h2 => hS.2.1 q h1 (fun z => h2 (Or.inl z)), fun q hq => Or.inl (hS.2.2 q hq)⟩
    refine lv_i2l hx hb dLw_about_8 rfl ?_
    refine tx_last hx hb hKJ hO2 hDo hSo 0 0 rfl rfl (by unfold vp_in; decide) dLw_about_9 (fun H1 locs1 hO3 hSo3 hz3 hk3 => ?_)
    have hP3 : va_P D clA (cw a t u) H1 := hP2.kept (fun k q hq => hk3 q.1 (fun z => hao (by rw [← z]; exact hD2.2 k q hq)))
    refine lv_goto hx hb dLw_about_10 rfl ?_
    refine lv_iconst (v := 0) hx hb dLw_about_17 (by decide) ?_
    refine W.widen (k := 1) (n := 6) (by omega) (by omega) ?_
    exact W.iret (v := 0) hx hb hr (fun w ht hW => ⟨⟨0, (u, vp_updL f 0 r.toInt64), rfl, hwp, ⟨by rw [ht]; exact hP3, va_K.moved hW.alike hK, hD2, fun h q hq => hA h q (Nat.le_trans hSo3.1 (by rw [ht] at hq; exact hq))⟩, by rw [ht]; exact hO3⟩, hSo3.F ht⟩) hSo3.2.2 dLw_about_18
  · refine tCallV (As := [.int x1, .int x2]) (rest := [.int 0, .ref ao]) (C := RNs) ⟨hx, hb, hml, hown, hts⟩ (tC_Ns_about l htr D a t σ x1 x2 _ ht) (cwV 2 hts (gdV wm_683 wm_684 wm_685 wm_1 wm_686) rfl rfl rfl (by decide +kernel) ⟨Nat.le_of_ble_eq_true rfl, Nat.le_of_ble_eq_true rfl⟩) ⟨pE_blind, (va_recv (ci := 1) (q0 := 0) hK hP rfl rfl), pPre hP hK he hS0⟩ hS0 rfl hl.1 rfl (Nat.le_of_ble_eq_true rfl) dLw_about_5 ⟨Nat.le_of_ble_eq_true rfl, Nat.le_of_ble_eq_true rfl⟩ (fun q ce H1 hS1 hce hv hcl hz hk => ?_)
    refine tCatch1 (name := "java/lang/IllegalArgumentException") hown y1 _ htl (hcov ys ye (by decide) (by decide)) (by rw [yc]; decide) (by rw [yc]; exact (hts _ (List.mem_cons_of_mem _ wm_262))) (he.cast nonG_c1) hce hv hcl ?_
    rw [yh]
    refine lv_astore hx hb dLw_about_13 hl (by decide) rfl (fun ls hl => ?_)
    refine lv_iconst (v := 1) hx hb dLw_about_15 (by decide) ?_
    refine W.widen (k := 1) (n := 6) (by omega) (by omega) ?_
    have hP2 : va_P D clA (cw a t σ) H1 := hP.kept (fun k z hz2 => hk z.1 ((hP k z hz2).lt))
    have hO2 : va_P D clA [(ao, .inl (tJ, 1, .inr (.inl f)))] H1 := hO.kept (fun k z hz2 => hk z.1 ((hO k z hz2).lt))
    exact W.iret (v := 1) hx hb hr (fun w ht hW => ⟨⟨1, (σ, f), rfl, hwp, ⟨by rw [ht]; exact hP2, va_K.moved hW.alike hK, hD, fun h q hq => hA h q (Nat.le_trans hS1.1 (by rw [ht] at hq; exact hq))⟩, by rw [ht]; exact hO2⟩, ⟨by rw [ht]; exact hS1.1, fun q h1 h2 => by rw [ht]; exact hS1.2.1 q h1 id⟩⟩) (fun _ h => nomatch h) dLw_about_16
-- private static int more(NodeServices, int, int, long[])
def wL_more (a : Nat → Nat) (R : Int32 → CS × (Nat → Int64) → Prop) (σ : CS) (f : Nat → Int64) (x1 x2 : Int32) : Prop :=
  (∃ P, wC_Ns_more a P σ x1 x2 ∧ (∀ (r : Int32) (u : CS), P r u → R 0 (u, vp_updL f 0 r.toInt64))) ∨ (wT_Ns_more a "java/lang/IllegalArgumentException" σ x1 x2 ∧ R 1 (σ, f))
abbrev wsLw_more : List Cond := .codeWith yLw_more cLw_more 5 (some .int) [(0, 10, 13, 13)] :: wg
abbrev rmL_more : Room := { frames := 8, cells := 1, slots := 6, locals := 124 }
set_option maxHeartbeats 4000000 in
set_option maxRecDepth 100000 in
theorem kL_more (l : Launch) (htr : l.stackTraces = false) (D : va_G) (a : Nat → Nat) (A : Nat → Prop) (t : Nat → ClassId) (ao : Nat) (tJ : ClassId) (σ : CS) (f : Nat → Int64) (x1 x2 : Int32) (R : Int32 → CS × (Nat → Int64) → Prop) (hwp : wL_more a R σ f x1 x2) : Met l yLw_more wsLw_more rmL_more (va_Pc [.ref (a 0), .int x1, .int x2, .ref ao] (fun U => uE D clA (cT t) A true (cw a t) σ U ∧ va_P D clA [(ao, .inl (tJ, 1, .inr (.inl f)))] U.heap ∧ va_K D clA [(tJ, .long)] U ∧ ¬ A ao)) (va_Qi R (fun u w => uI D clA (cT t) A true (cw a t) u.1 w ∧ va_P D clA [(ao, .inl (tJ, 1, .inr (.inl u.2)))] w.heap) (fun q => A q ∨ q = ao)) 1 6 (fun q => A q ∨ q = ao) := by
  refine va_MetW (cc := cLw_more) (maxL := 5) (ret := (some .int)) (hh := [(0, 10, 13, 13)]) (by decide) rfl ?_
  intro p e s m args below meth c s₁ B hml hv
  obtain ⟨rfl, ⟨⟨hP, hK, hD, hA⟩, he⟩, hO, hKJ, hao⟩ := hv
  have hx := B.exec
  have hb := B.bytes
  have hr := B.returns
  have hts := atoms_spec (ws := wsLw_more) B.pre
  have hown : s.vm.findClass RLw = some m.cls := findClass_of_methodNamed B.named
  have hlocks := B.notSynchronized
  obtain ⟨m9, meth9, c9, hn9, hm9, hc9, -, -, htb, -⟩ := Cond.codeWith_spec (hts _ List.mem_cons_self)
  cases B.named.symm.trans hn9
  cases B.method.symm.trans hm9
  cases (Stand.of_body B).code.symm.trans hc9
  obtain ⟨y1, htl, ⟨ys, ye, yh, yc⟩⟩ := hh1 htb
  have hS : va_S A s.heap s.heap [] := va_S.rf
  have hS0 : va_S (fun _ => False) s.heap s.heap [] := va_S.rf
  have hl := lv_entry ([.ref (a 0), .int x1, .int x2, .ref ao]) (n := 5) (Nat.le_of_ble_eq_true rfl)
  rw [lg_entry_eq]
  generalize (lg_sl ([.ref (a 0), .int x1, .int x2, .ref ao]) ++ List.replicate (5 - (lg_sl ([.ref (a 0), .int x1, .int x2, .ref ao])).length) Slot.unset).toArray = ls at hl ⊢
  have hl : lv_has ls 5 [(0, .ref (a 0)), (1, .int x1), (2, .int x2), (3, .ref ao)] := hl
  refine lv_aload_n hx hb dLw_more_0 rfl (lv_at hl 3 rfl) ?_
  refine lv_iconst (v := 0) hx hb dLw_more_1 (by decide) ?_
  refine lv_aload_n hx hb dLw_more_2 rfl (lv_at hl 0 rfl) ?_
  refine lv_iload_n hx hb dLw_more_3 rfl (lv_at hl 1 rfl) ?_
  refine lv_iload_n hx hb dLw_more_4 rfl (lv_at hl 2 rfl) ?_
  rcases hwp with ⟨P, hPw, hwp⟩ | ⟨ht, hwp⟩
  · refine va_calli (va_runV (As := [.int x1, .int x2]) (rest := [.int 0, .ref ao]) (C := RNs) ⟨hx, hb, hml, hown, hts⟩ (kC_Ns_more l D a A t σ x1 x2 P hPw) (cwV 2 hts (gdV wm_708 wm_709 wm_710 wm_1 wm_711) rfl rfl rfl (by decide +kernel) ⟨Nat.le_of_ble_eq_true rfl, Nat.le_of_ble_eq_true rfl⟩) ⟨uE_blind, (va_recv (ci := 1) (q0 := 0) hK hP rfl rfl), uE_pre hP hK hD hA he⟩ rfl rfl hl.1 rfl (lv_room (Nat.le_of_ble_eq_true rfl)) dLw_more_5 ⟨Nat.le_of_ble_eq_true rfl, Nat.le_of_ble_eq_true rfl⟩) hS (fun q _ h => h) (fun q h => h) (fun r u t2 H locs ht hvm hu hB hz hk hS => ?_)
    have hwp := hwp r u hu
    rw [uI, ht] at hB
    obtain ⟨hP2, -, hD2, -⟩ := hB
    have hO2 : va_P D clA [(ao, .inl (tJ, 1, .inr (.inl f)))] H := sg_kept hO (hk ao (sg_lt hO) hao)
    have hDo : va_D (fun q => A q ∨ q = ao) [(ao, .inl (tJ, 1, .inr (.inl f)))] := sg_D (Or.inr rfl)
    have hSo : va_S (fun q => A q ∨ q = ao) s.heap H locs := ⟨hS.1, fun q h1 h2 => hS.2.1 q h1 (fun z => h2 (Or.inl z)), fun q hq => Or.inl (hS.2.2 q hq)⟩
    refine lv_i2l hx hb dLw_more_8 rfl ?_
    refine tx_last hx hb hKJ hO2 hDo hSo 0 0 rfl rfl (by unfold vp_in; decide) dLw_more_9 (fun H1 locs1 hO3 hSo3 hz3 hk3 => ?_)
    have hP3 : va_P D clA (cw a t u) H1 := hP2.kept (fun k q hq => hk3 q.1 (fun z => hao (by rw [← z]; exact hD2.2 k q hq)))
    refine lv_goto hx hb dLw_more_10 rfl ?_
    refine lv_iconst (v := 0) hx hb dLw_more_17 (by decide) ?_
    refine W.widen (k := 1) (n := 6) (by omega) (by omega) ?_
    exact W.iret (v := 0) hx hb hr (fun w ht hW => ⟨⟨0, (u, vp_updL f 0 r.toInt64), rfl, hwp, ⟨by rw [ht]; exact hP3, va_K.moved hW.alike hK, hD2, fun h q hq => hA h q (Nat.le_trans hSo3.1 (by rw [ht] at hq; exact hq))⟩, by rw [ht]; exact hO3⟩, hSo3.F ht⟩) hSo3.2.2 dLw_more_18
  · refine tCallV (As := [.int x1, .int x2]) (rest := [.int 0, .ref ao]) (C := RNs) ⟨hx, hb, hml, hown, hts⟩ (tC_Ns_more l htr D a t σ x1 x2 _ ht) (cwV 2 hts (gdV wm_708 wm_709 wm_710 wm_1 wm_711) rfl rfl rfl (by decide +kernel) ⟨Nat.le_of_ble_eq_true rfl, Nat.le_of_ble_eq_true rfl⟩) ⟨pE_blind, (va_recv (ci := 1) (q0 := 0) hK hP rfl rfl), pPre hP hK he hS0⟩ hS0 rfl hl.1 rfl (Nat.le_of_ble_eq_true rfl) dLw_more_5 ⟨Nat.le_of_ble_eq_true rfl, Nat.le_of_ble_eq_true rfl⟩ (fun q ce H1 hS1 hce hv hcl hz hk => ?_)
    refine tCatch1 (name := "java/lang/IllegalArgumentException") hown y1 _ htl (hcov ys ye (by decide) (by decide)) (by rw [yc]; decide) (by rw [yc]; exact (hts _ (List.mem_cons_of_mem _ wm_262))) (he.cast nonG_c1) hce hv hcl ?_
    rw [yh]
    refine lv_astore hx hb dLw_more_13 hl (by decide) rfl (fun ls hl => ?_)
    refine lv_iconst (v := 1) hx hb dLw_more_15 (by decide) ?_
    refine W.widen (k := 1) (n := 6) (by omega) (by omega) ?_
    have hP2 : va_P D clA (cw a t σ) H1 := hP.kept (fun k z hz2 => hk z.1 ((hP k z hz2).lt))
    have hO2 : va_P D clA [(ao, .inl (tJ, 1, .inr (.inl f)))] H1 := hO.kept (fun k z hz2 => hk z.1 ((hO k z hz2).lt))
    exact W.iret (v := 1) hx hb hr (fun w ht hW => ⟨⟨1, (σ, f), rfl, hwp, ⟨by rw [ht]; exact hP2, va_K.moved hW.alike hK, hD, fun h q hq => hA h q (Nat.le_trans hS1.1 (by rw [ht] at hq; exact hq))⟩, by rw [ht]; exact hO2⟩, ⟨by rw [ht]; exact hS1.1, fun q h1 h2 => by rw [ht]; exact hS1.2.1 q h1 id⟩⟩) (fun _ h => nomatch h) dLw_more_16
