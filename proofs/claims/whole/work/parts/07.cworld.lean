-- the state of the class: numbers by field and place; references by field and place; the messages made
abbrev CS : Type := MS × (Nat → Nat → Option Nat) × List Nat
def cu (σ : CS) (k i : Nat) (v : Int32) : CS := (up2 σ.1 k i v, σ.2)
def cr (σ : CS) (k i : Nat) (o : Option Nat) : CS := (σ.1, (fun j => cond (Nat.beq j k) (va_up (σ.2.1 k) i o) (σ.2.1 j)), σ.2.2)
theorem cr_at (σ : CS) (k i : Nat) (o : Option Nat) (j : Nat) : (cr σ k i o).2.1 j = if j = k then va_up (σ.2.1 k) i o else σ.2.1 j := by
  show cond (Nat.beq j k) (va_up (σ.2.1 k) i o) (σ.2.1 j) = _
  rw [fx_beq]
  by_cases h : j = k <;> simp [h]
theorem cr_1 (σ : CS) (k i : Nat) (o : Option Nat) : (cr σ k i o).1 = σ.1 := rfl
theorem cr_3 (σ : CS) (k i : Nat) (o : Option Nat) : (cr σ k i o).2.2 = σ.2.2 := rfl
def lkp (k : Nat) : Nat := match k with
  | 0 => 5
  | 1 => 11
  | _ => 19
def svp (k : Nat) : Nat := match k with
  | 0 => 5
  | 1 => 11
  | 2 => 19
  | 3 => 24
  | _ => 38
abbrev cT (t : Nat → ClassId) : List (ClassId × FieldType) := [(t 0, .int), (t 1, .boolean), (t 2, .object "NodeServices$Channel"), (t 3, .object "NodeServices$Lock"), (t 4, .object "NodeServices$Service"), (t 5, .object "NodeServices$NodeRow"), (t 6, .array .int)]
def cG (σ : CS) (q : Nat) : va_E := .inr (4, [.int (σ.1 41 q), .int (σ.1 42 q), .int (σ.1 43 q), va_rf (σ.2.1 2 q)])
def cF (a : Nat → Nat) (t : Nat → ClassId) (σ : CS) : va_W := [
  (a 0, .inr (1, [.ref (a 1), .ref (a 3), .ref (a 24), .ref (a 38), .ref (a 4)])),
  (a 1, .inr (2, [.ref (a 2), .int (σ.1 0 0)])),
  (a 2, .inl (t 2, 16, .inr (.inr (.inr (.inr (fun k => some (a (42 + k)))))))),
  (a 3, .inl (t 3, 3, .inr (.inr (.inr (.inr (fun k => some (a (lkp k)))))))),
  (a 4, .inl (t 4, 5, .inr (.inr (.inr (.inr (fun k => some (a (svp k)))))))),
  (a 5, .inr (6, [.ref (a 7), .ref (a 8), .ref (a 9), .ref (a 10), .ref (a 6), .int (σ.1 2 0), .ref (a 1), .int 0])),
  (a 6, .inl (t 0, 4, .inl (σ.1 1))),
  (a 7, .inl (t 0, 4, .inl (σ.1 3))),
  (a 8, .inl (t 0, 4, .inl (σ.1 4))),
  (a 9, .inl (t 0, 4, .inl (σ.1 5))),
  (a 10, .inl (t 1, 16, .inl (σ.1 6))),
  (a 11, .inr (7, [.ref (a 13), .ref (a 18), .ref (a 29), .int (σ.1 9 0), .ref (a 12), .int (σ.1 8 0), .ref (a 1), .int 1])),
  (a 12, .inl (t 0, 4, .inl (σ.1 7))),
  (a 13, .inl (t 6, 4, .inr (.inr (.inr (.inr (fun k => some (a (14 + k)))))))),
  (a 14, .inl (t 0, 4, .inl (σ.1 10))),
  (a 15, .inl (t 0, 4, .inl (σ.1 11))),
  (a 16, .inl (t 0, 4, .inl (σ.1 12))),
  (a 17, .inl (t 0, 4, .inl (σ.1 13))),
  (a 18, .inl (t 0, 4, .inl (σ.1 14))),
  (a 19, .inr (8, [.ref (a 21), .ref (a 22), .ref (a 23), .ref (a 20), .int (σ.1 16 0), .ref (a 1), .int 2])),
  (a 20, .inl (t 0, 4, .inl (σ.1 15))),
  (a 21, .inl (t 0, 4, .inl (σ.1 17))),
  (a 22, .inl (t 5, 4, .inr (.inr (.inr (.inr (fun k => some (a (25 + k)))))))),
  (a 23, .inl (t 1, 4, .inl (σ.1 18))),
  (a 24, .inr (9, [.ref (a 35), .ref (a 36), .ref (a 37), .ref (a 1), .int 3])),
  (a 25, .inr (5, [.ref (a 30), .int (σ.1 19 0)])),
  (a 26, .inr (5, [.ref (a 31), .int (σ.1 20 0)])),
  (a 27, .inr (5, [.ref (a 32), .int (σ.1 21 0)])),
  (a 28, .inr (5, [.ref (a 33), .int (σ.1 22 0)])),
  (a 29, .inr (5, [.ref (a 34), .int (σ.1 23 0)])),
  (a 30, .inl (t 0, 4, .inl (σ.1 24))),
  (a 31, .inl (t 0, 4, .inl (σ.1 25))),
  (a 32, .inl (t 0, 4, .inl (σ.1 26))),
  (a 33, .inl (t 0, 4, .inl (σ.1 27))),
  (a 34, .inl (t 0, 4, .inl (σ.1 28))),
  (a 35, .inl (t 1, 4, .inl (σ.1 29))),
  (a 36, .inl (t 0, 4, .inl (σ.1 30))),
  (a 37, .inl (t 0, 4, .inl (σ.1 31))),
  (a 38, .inr (10, [.ref (a 39), .int (σ.1 33 0), .int (σ.1 34 0), .ref (a 40), .ref (a 41), .ref (a 1), .int 4])),
  (a 39, .inl (t 1, 4, .inl (σ.1 32))),
  (a 40, .inl (t 0, 4, .inl (σ.1 35))),
  (a 41, .inl (t 0, 4, .inl (σ.1 36))),
  (a 42, .inr (3, [va_rf (σ.2.1 0 0), va_rf (σ.2.1 1 0), .int (σ.1 40 0)])),
  (a 43, .inr (3, [va_rf (σ.2.1 0 1), va_rf (σ.2.1 1 1), .int (σ.1 40 1)])),
  (a 44, .inr (3, [va_rf (σ.2.1 0 2), va_rf (σ.2.1 1 2), .int (σ.1 40 2)])),
  (a 45, .inr (3, [va_rf (σ.2.1 0 3), va_rf (σ.2.1 1 3), .int (σ.1 40 3)])),
  (a 46, .inr (3, [va_rf (σ.2.1 0 4), va_rf (σ.2.1 1 4), .int (σ.1 40 4)])),
  (a 47, .inr (3, [va_rf (σ.2.1 0 5), va_rf (σ.2.1 1 5), .int (σ.1 40 5)])),
  (a 48, .inr (3, [va_rf (σ.2.1 0 6), va_rf (σ.2.1 1 6), .int (σ.1 40 6)])),
  (a 49, .inr (3, [va_rf (σ.2.1 0 7), va_rf (σ.2.1 1 7), .int (σ.1 40 7)])),
  (a 50, .inr (3, [va_rf (σ.2.1 0 8), va_rf (σ.2.1 1 8), .int (σ.1 40 8)])),
  (a 51, .inr (3, [va_rf (σ.2.1 0 9), va_rf (σ.2.1 1 9), .int (σ.1 40 9)])),
  (a 52, .inr (3, [va_rf (σ.2.1 0 10), va_rf (σ.2.1 1 10), .int (σ.1 40 10)])),
  (a 53, .inr (3, [va_rf (σ.2.1 0 11), va_rf (σ.2.1 1 11), .int (σ.1 40 11)])),
  (a 54, .inr (3, [va_rf (σ.2.1 0 12), va_rf (σ.2.1 1 12), .int (σ.1 40 12)])),
  (a 55, .inr (3, [va_rf (σ.2.1 0 13), va_rf (σ.2.1 1 13), .int (σ.1 40 13)])),
  (a 56, .inr (3, [va_rf (σ.2.1 0 14), va_rf (σ.2.1 1 14), .int (σ.1 40 14)])),
  (a 57, .inr (3, [va_rf (σ.2.1 0 15), va_rf (σ.2.1 1 15), .int (σ.1 40 15)]))]
def cw (a : Nat → Nat) (t : Nat → ClassId) (σ : CS) : va_W := cF a t σ ++ va_pl σ.2.2 (cG σ)
theorem cw_ro {a : Nat → Nat} {t : Nat → ClassId} {σ : CS} {r : Nat} (h : r < 5) : (cw a t σ)[25 + r]? = some (a (25 + r), .inr (5, [.ref (a (30 + r)), .int (σ.1 (19 + r) 0)])) := by
  rcases (show r = 0 ∨ r = 1 ∨ r = 2 ∨ r = 3 ∨ r = 4 by omega) with rfl | rfl | rfl | rfl | rfl
  all_goals rfl
theorem cw_ro1 {a : Nat → Nat} {t : Nat → ClassId} {σ : CS} {r : Nat} (h : r < 5) (v : Int32) : (cw a t σ).set (25 + r) (a (25 + r), .inr (5, [.ref (a (30 + r)), .int v])) = cw a t (cu σ (19 + r) 0 v) := by
  rcases (show r = 0 ∨ r = 1 ∨ r = 2 ∨ r = 3 ∨ r = 4 by omega) with rfl | rfl | rfl | rfl | rfl
  all_goals rfl
theorem cw_na {a : Nat → Nat} {t : Nat → ClassId} {σ : CS} {r : Nat} (h : r < 5) : (cw a t σ)[30 + r]? = some (a (30 + r), .inl (t 0, 4, .inl (σ.1 (24 + r)))) := by
  rcases (show r = 0 ∨ r = 1 ∨ r = 2 ∨ r = 3 ∨ r = 4 by omega) with rfl | rfl | rfl | rfl | rfl
  all_goals rfl
theorem cw_na1 {a : Nat → Nat} {t : Nat → ClassId} {σ : CS} {r : Nat} (h : r < 5) (i : Nat) (v : Int32) : (cw a t σ).set (30 + r) (a (30 + r), .inl (t 0, 4, .inl (upd (σ.1 (24 + r)) i v))) = cw a t (cu σ (24 + r) i v) := by
  rcases (show r = 0 ∨ r = 1 ∨ r = 2 ∨ r = 3 ∨ r = 4 by omega) with rfl | rfl | rfl | rfl | rfl
  all_goals rfl
theorem cw_kn {a : Nat → Nat} {t : Nat → ClassId} {σ : CS} {n : Nat} (h : n < 4) : (cw a t σ)[14 + n]? = some (a (14 + n), .inl (t 0, 4, .inl (σ.1 (10 + n)))) := by
  rcases (show n = 0 ∨ n = 1 ∨ n = 2 ∨ n = 3 by omega) with rfl | rfl | rfl | rfl
  all_goals rfl
theorem cw_kn1 {a : Nat → Nat} {t : Nat → ClassId} {σ : CS} {n : Nat} (h : n < 4) (i : Nat) (v : Int32) : (cw a t σ).set (14 + n) (a (14 + n), .inl (t 0, 4, .inl (upd (σ.1 (10 + n)) i v))) = cw a t (cu σ (10 + n) i v) := by
  rcases (show n = 0 ∨ n = 1 ∨ n = 2 ∨ n = 3 by omega) with rfl | rfl | rfl | rfl
  all_goals rfl
theorem cw_ch {a : Nat → Nat} {t : Nat → ClassId} {σ : CS} {k : Nat} (h : k < 16) : (cw a t σ)[42 + k]? = some (a (42 + k), .inr (3, [va_rf (σ.2.1 0 k), va_rf (σ.2.1 1 k), .int (σ.1 40 k)])) := by
  rcases (show k = 0 ∨ k = 1 ∨ k = 2 ∨ k = 3 ∨ k = 4 ∨ k = 5 ∨ k = 6 ∨ k = 7 ∨ k = 8 ∨ k = 9 ∨ k = 10 ∨ k = 11 ∨ k = 12 ∨ k = 13 ∨ k = 14 ∨ k = 15 by omega) with rfl | rfl | rfl | rfl | rfl | rfl | rfl | rfl | rfl | rfl | rfl | rfl | rfl | rfl | rfl | rfl
  all_goals rfl
theorem cw_ch0 {a : Nat → Nat} {t : Nat → ClassId} {σ : CS} {k : Nat} (h : k < 16) (q : Option Nat) : (cw a t σ).set (42 + k) (a (42 + k), .inr (3, [va_rf q, va_rf (σ.2.1 1 k), .int (σ.1 40 k)])) = cw a t (cr σ 0 k q) := by
  rcases (show k = 0 ∨ k = 1 ∨ k = 2 ∨ k = 3 ∨ k = 4 ∨ k = 5 ∨ k = 6 ∨ k = 7 ∨ k = 8 ∨ k = 9 ∨ k = 10 ∨ k = 11 ∨ k = 12 ∨ k = 13 ∨ k = 14 ∨ k = 15 by omega) with rfl | rfl | rfl | rfl | rfl | rfl | rfl | rfl | rfl | rfl | rfl | rfl | rfl | rfl | rfl | rfl
  all_goals rfl
theorem cw_ch1 {a : Nat → Nat} {t : Nat → ClassId} {σ : CS} {k : Nat} (h : k < 16) (q : Option Nat) : (cw a t σ).set (42 + k) (a (42 + k), .inr (3, [va_rf (σ.2.1 0 k), va_rf q, .int (σ.1 40 k)])) = cw a t (cr σ 1 k q) := by
  rcases (show k = 0 ∨ k = 1 ∨ k = 2 ∨ k = 3 ∨ k = 4 ∨ k = 5 ∨ k = 6 ∨ k = 7 ∨ k = 8 ∨ k = 9 ∨ k = 10 ∨ k = 11 ∨ k = 12 ∨ k = 13 ∨ k = 14 ∨ k = 15 by omega) with rfl | rfl | rfl | rfl | rfl | rfl | rfl | rfl | rfl | rfl | rfl | rfl | rfl | rfl | rfl | rfl
  all_goals rfl
theorem cw_ch2 {a : Nat → Nat} {t : Nat → ClassId} {σ : CS} {k : Nat} (h : k < 16) (v : Int32) : (cw a t σ).set (42 + k) (a (42 + k), .inr (3, [va_rf (σ.2.1 0 k), va_rf (σ.2.1 1 k), .int v])) = cw a t (cu σ 40 k v) := by
  rcases (show k = 0 ∨ k = 1 ∨ k = 2 ∨ k = 3 ∨ k = 4 ∨ k = 5 ∨ k = 6 ∨ k = 7 ∨ k = 8 ∨ k = 9 ∨ k = 10 ∨ k = 11 ∨ k = 12 ∨ k = 13 ∨ k = 14 ∨ k = 15 by omega) with rfl | rfl | rfl | rfl | rfl | rfl | rfl | rfl | rfl | rfl | rfl | rfl | rfl | rfl | rfl | rfl
  all_goals rfl
theorem cw_ms {a : Nat → Nat} {t : Nat → ClassId} {σ : CS} {q : Nat} (h : q ∈ σ.2.2) : ∃ k : Nat, (cw a t σ)[k]? = some (q, .inr (4, [.int (σ.1 41 q), .int (σ.1 42 q), .int (σ.1 43 q), va_rf (σ.2.1 2 q)])) := va_pl_get (X := cF a t σ) (f := cG σ) h
theorem cw_ms3 {a : Nat → Nat} {t : Nat → ClassId} {σ : CS} {A : Nat → Prop} {q k : Nat} (hD : va_D A (cw a t σ)) (h : q ∈ σ.2.2) (hk : (cw a t σ)[k]? = some (q, .inr (4, [.int (σ.1 41 q), .int (σ.1 42 q), .int (σ.1 43 q), va_rf (σ.2.1 2 q)]))) (o : Option Nat) : (cw a t σ).set k (q, .inr (4, [.int (σ.1 41 q), .int (σ.1 42 q), .int (σ.1 43 q), va_rf o])) = cw a t (cr σ 2 q o) := by
  have h1 := va_pl_set (X := cF a t σ) (f := cG σ) (e := .inr (4, [.int (σ.1 41 q), .int (σ.1 42 q), .int (σ.1 43 q), va_rf o])) hD h hk
  refine h1.trans ?_
  show cF a t σ ++ va_pl σ.2.2 _ = cF a t σ ++ va_pl σ.2.2 (cG (cr σ 2 q o))
  refine congrArg (fun z => cF a t σ ++ z) (va_pl_congr (fun z => ?_))
  by_cases e : z = q
  · subst e
    simp [va_up, cG, cr_at, cr_1]
  · simp [va_up, cG, cr_at, cr_1, e]
theorem cw_ms0 {a : Nat → Nat} {t : Nat → ClassId} {σ : CS} {A : Nat → Prop} {q k : Nat} (hD : va_D A (cw a t σ)) (h : q ∈ σ.2.2) (hk : (cw a t σ)[k]? = some (q, .inr (4, [.int (σ.1 41 q), .int (σ.1 42 q), .int (σ.1 43 q), va_rf (σ.2.1 2 q)]))) (v : Int32) : (cw a t σ).set k (q, .inr (4, [.int v, .int (σ.1 42 q), .int (σ.1 43 q), va_rf (σ.2.1 2 q)])) = cw a t (cu σ 41 q v) := by
  have h1 := va_pl_set (X := cF a t σ) (f := cG σ) (e := .inr (4, [.int v, .int (σ.1 42 q), .int (σ.1 43 q), va_rf (σ.2.1 2 q)])) hD h hk
  refine h1.trans ?_
  show cF a t σ ++ va_pl σ.2.2 _ = cF a t σ ++ va_pl σ.2.2 (cG (cu σ 41 q v))
  refine congrArg (fun z => cF a t σ ++ z) (va_pl_congr (fun z => ?_))
  by_cases e : z = q
  · subst e
    simp [va_up, cG, cu, up2_at, upd]
  · simp [va_up, cG, cu, up2_at, upd, e]
theorem cw_ms1 {a : Nat → Nat} {t : Nat → ClassId} {σ : CS} {A : Nat → Prop} {q k : Nat} (hD : va_D A (cw a t σ)) (h : q ∈ σ.2.2) (hk : (cw a t σ)[k]? = some (q, .inr (4, [.int (σ.1 41 q), .int (σ.1 42 q), .int (σ.1 43 q), va_rf (σ.2.1 2 q)]))) (v : Int32) : (cw a t σ).set k (q, .inr (4, [.int (σ.1 41 q), .int v, .int (σ.1 43 q), va_rf (σ.2.1 2 q)])) = cw a t (cu σ 42 q v) := by
  have h1 := va_pl_set (X := cF a t σ) (f := cG σ) (e := .inr (4, [.int (σ.1 41 q), .int v, .int (σ.1 43 q), va_rf (σ.2.1 2 q)])) hD h hk
  refine h1.trans ?_
  show cF a t σ ++ va_pl σ.2.2 _ = cF a t σ ++ va_pl σ.2.2 (cG (cu σ 42 q v))
  refine congrArg (fun z => cF a t σ ++ z) (va_pl_congr (fun z => ?_))
  by_cases e : z = q
  · subst e
    simp [va_up, cG, cu, up2_at, upd]
  · simp [va_up, cG, cu, up2_at, upd, e]
theorem cw_ms2 {a : Nat → Nat} {t : Nat → ClassId} {σ : CS} {A : Nat → Prop} {q k : Nat} (hD : va_D A (cw a t σ)) (h : q ∈ σ.2.2) (hk : (cw a t σ)[k]? = some (q, .inr (4, [.int (σ.1 41 q), .int (σ.1 42 q), .int (σ.1 43 q), va_rf (σ.2.1 2 q)]))) (v : Int32) : (cw a t σ).set k (q, .inr (4, [.int (σ.1 41 q), .int (σ.1 42 q), .int v, va_rf (σ.2.1 2 q)])) = cw a t (cu σ 43 q v) := by
  have h1 := va_pl_set (X := cF a t σ) (f := cG σ) (e := .inr (4, [.int (σ.1 41 q), .int (σ.1 42 q), .int v, va_rf (σ.2.1 2 q)])) hD h hk
  refine h1.trans ?_
  show cF a t σ ++ va_pl σ.2.2 _ = cF a t σ ++ va_pl σ.2.2 (cG (cu σ 43 q v))
  refine congrArg (fun z => cF a t σ ++ z) (va_pl_congr (fun z => ?_))
  by_cases e : z = q
  · subst e
    simp [va_up, cG, cu, up2_at, upd]
  · simp [va_up, cG, cu, up2_at, upd, e]
/-- a message that was just made -/
def cn (σ : CS) (q : Nat) : CS := (up2 (up2 (up2 σ.1 41 q 0) 42 q 0) 43 q 0, (cr σ 2 q none).2.1, σ.2.2 ++ [q])
theorem cw_new {a : Nat → Nat} {t : Nat → ClassId} {σ : CS} {q : Nat} (h : q ∉ σ.2.2) : cw a t σ ++ [(q, .inr (4, [.int 0, .int 0, .int 0, .null]))] = cw a t (cn σ q) := by
  show (cF a t σ ++ va_pl σ.2.2 (cG σ)) ++ _ = cF a t σ ++ va_pl (σ.2.2 ++ [q]) (cG (cn σ q))
  rw [List.append_assoc, va_pl_push h]
  refine congrArg (fun z => cF a t σ ++ z) (va_pl_congr (fun z => ?_))
  by_cases e : z = q
  · subst e
    simp [va_up, cG, cn, cr_at, up2_at, upd, va_rf]
  · simp [va_up, cG, cn, cr_at, up2_at, upd, e]
