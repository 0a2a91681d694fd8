/-! the law's run from the start gA (22.gapA), by the machine's own steps: it ends with false -/
set_option maxRecDepth 16384
theorem gWords : ∀ c ∈ (Cond.code x code maxLocals ret :: tables_1), c.before start1.args0 gA = true := by
  intro c hc
  rcases List.mem_cons.mp hc with h | h
  · rw [h]; exact su_hand_word (m := ⟨0, 0⟩) (by decide +kernel) rfl (by decide +kernel) (by decide +kernel)
  · have h1 : c ∈ tables_1_1 ++ (tables_1_2 ++ (tables_1_3 ++ (tables_1_4 ++ tables_1_5))) := h
    simp only [List.mem_append] at h1
    rcases h1 with h | h | h | h | h
    · exact gW_1 c h
    · exact gW_2 c h
    · exact gW_3 c h
    · exact gW_4 c h
    · exact gW_5 c h
theorem gStart : AtStart classFile x code maxLocals ret World_1 tables_1 room_1 Calls_1 rest_1 Pre_1 launch0 start1.p0 start1.e0 gA ⟨0, 0⟩ start1.args0 Lib.HandBits.below0 := by
  refine ⟨lists_1, trivial, launch0.admits_env _ _ _, launch0.least_env, fairChoices_fair.cas, fairChoices_fair.clock, rfl, ?_, ?_, (Spec.applies_iff rfl).mpr ⟨rfl, rfl, rfl, ?_, ?_, ?_, launch0.hasRoom_least _ room_1 ?_ ?_ ?_ ?_ ?_ ?_, atoms_intro gWords⟩, trivial, ?_, ?_⟩
  all_goals first | (show rest_1_c.before start1.args0 gA = true; decide +kernel) | (show (Cond.and given_1 narrow_1).before start1.args0 gA = true; decide +kernel) | decide +kernel
def gRun : Nat → State → State
  | 0, s => s
  | n + 1, s => match s.frames with
    | [_] => s
    | _ => gRun n (stepsAlone start1.p0.tables start1.e0 1 s)
theorem gRun_is (n : Nat) (s : State) : ∃ m, gRun n s = stepsAlone start1.p0.tables start1.e0 m s := by
  induction n generalizing s with
  | zero => exact ⟨0, rfl⟩
  | succ n ih =>
    unfold gRun
    split
    · exact ⟨0, rfl⟩
    · obtain ⟨m, hm⟩ := ih (stepsAlone start1.p0.tables start1.e0 1 s)
      exact ⟨1 + m, by rw [hm, stepsAlone_add]⟩
def gOk (v : Int32) (t : State) : Bool := (match t.status with
    | .running => true
    | _ => false) && (match t.frames with
    | [.native ⟨m, a, st, sv, aw, an, lk, w⟩] => decide (m = ⟨0, 0⟩ ∧ a = #[] ∧ st = 0 ∧ sv = #[] ∧ aw = false ∧ an = some (.returned (some (.int v))) ∧ lk = none ∧ w = 0)
    | _ => false)
theorem gOk_spec {v : Int32} {t : State} (h : gOk v t = true) : t.status = Status.running ∧ t.frames = [.native { method := ⟨0, 0⟩, args := #[], awaiting := false, answer := some (.returned (some (.int v))) }] := by
  unfold gOk at h
  rw [Bool.and_eq_true] at h
  obtain ⟨h1, h2⟩ := h
  constructor
  · split at h1
    · assumption
    · cases h1
  · split at h2
    · rename_i e
      obtain ⟨rfl, rfl, rfl, rfl, rfl, rfl, rfl, rfl⟩ := of_decide_eq_true h2
      exact e
    · cases h2
