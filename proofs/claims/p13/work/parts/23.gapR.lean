/-! the law's run from the start gA (22.gapA), by the machine's own steps: it ends with false -/
set_option maxRecDepth 16384
theorem gWords : ∀ c ∈ (Cond.code x code maxLocals ret :: tables_1), c.before start1.args0 gA = true := by
  intro c hc
  rcases List.mem_cons.mp hc with h | h
  · rw [h]; exact su_hand_word (m := ⟨0, 0⟩) (by decide +kernel) rfl (by decide +kernel) (by decide +kernel)
  · have h1 : c ∈ tables_1_1 ++ (tables_1_2 ++ (tables_1_3 ++ (tables_1_4 ++ tables_1_5))) := h
    simp only [List.mem_append] at h1
    rcases h1 with h | h | h | h | h
    · exact gW_1 c h
    · exact gW_2 c h
    · exact gW_3 c h
    · exact gW_4 c h
    · exact gW_5 c h
theorem gStart : AtStart classFile x code maxLocals ret World_1 tables_1 room_1 Calls_1 rest_1 Pre_1 launch0 start1.p0 start1.e0 gA ⟨0, 0⟩ start1.args0 Lib.HandBits.below0 := by
  refine ⟨lists_1, trivial, launch0.admits_env _ _ _, launch0.least_env, fairChoices_fair.cas, fairChoices_fair.clock, rfl, ?_, ?_, (Spec.applies_iff rfl).mpr ⟨rfl, rfl, rfl, ?_, ?_, ?_, launch0.hasRoom_least _ room_1 ?_ ?_ ?_ ?_ ?_ ?_, atoms_intro gWords⟩, trivial, ?_, ?_⟩
  all_goals first | (show rest_1_c.before start1.args0 gA = true; decide +kernel) | (show (Cond.and given_1 narrow_1).before start1.args0 gA = true; decide +kernel) | decide +kernel
def gBase : Frame → Bool
  | .native ⟨m, a, st, sv, aw, an, lk, w⟩ => decide (m = ⟨0, 0⟩ ∧ a = #[] ∧ st = 0 ∧ sv = #[] ∧ aw = false ∧ an = none ∧ lk = none ∧ w = 0)
  | _ => false
theorem gBase_spec {f : Frame} (h : gBase f = true) : [f] = Lib.HandBits.below0 := by
  unfold gBase at h
  split at h
  · obtain ⟨rfl, rfl, rfl, rfl, rfl, rfl, rfl, rfl⟩ := of_decide_eq_true h
    rfl
  · cases h
def gEndsIn : List Frame → Bool
  | [] => false
  | [f] => gBase f
  | _ :: g :: r => gEndsIn (g :: r)
theorem gEndsIn_spec : (l : List Frame) → gEndsIn l = true → ∃ ab, l = ab ++ Lib.HandBits.below0
  | [], h => by
    have h1 : false = true := h
    cases h1
  | [f], h => ⟨[], gBase_spec h⟩
  | f :: g :: r, h => by
    obtain ⟨ab, e⟩ := gEndsIn_spec (g :: r) h
    exact ⟨f :: ab, by rw [e]; rfl⟩
def gAbove : List Frame → Bool
  | [] => false
  | [_] => false
  | [.throwing _, _] => false
  | _ => true
def gIn (s : State) : Bool := gEndsIn s.frames && gAbove s.frames
theorem gIn_spec {s : State} (h : gIn s = true) : Within s Lib.HandBits.below0 := by
  unfold gIn at h
  rw [Bool.and_eq_true] at h
  obtain ⟨h1, h2⟩ := h
  obtain ⟨ab, e⟩ := gEndsIn_spec _ h1
  rw [e] at h2
  refine ⟨ab, e, ?_, ?_⟩
  · intro h0
    rw [h0] at h2
    have h3 : false = true := h2
    cases h3
  · intro a h0
    rw [h0] at h2
    have h3 : false = true := h2
    cases h3
def gRun : Nat → State → State
  | 0, s => s
  | n + 1, s => if gIn s = true then gRun n (stepsAlone start1.p0.tables start1.e0 1 s) else s
theorem gRun_is (n : Nat) (s : State) : ∃ m, gRun n s = stepsAlone start1.p0.tables start1.e0 m s ∧ ∀ k, k < m → Within (stepsAlone start1.p0.tables start1.e0 k s) Lib.HandBits.below0 := by
  induction n generalizing s with
  | zero => exact ⟨0, rfl, fun k hk => absurd hk (Nat.not_lt_zero k)⟩
  | succ n ih =>
    by_cases h : gIn s = true
    · obtain ⟨m, hm, hw⟩ := ih (stepsAlone start1.p0.tables start1.e0 1 s)
      refine ⟨1 + m, ?_, ?_⟩
      · unfold gRun; rw [if_pos h, hm, stepsAlone_add]
      · intro k hk
        cases k with
        | zero => exact gIn_spec h
        | succ k =>
          rw [Nat.add_comm k 1, stepsAlone_add]
          exact hw k (by omega)
    · refine ⟨0, ?_, fun k hk => absurd hk (Nat.not_lt_zero k)⟩
      unfold gRun; rw [if_neg h]; rfl
def gOk (v : Addr) (t : State) : Bool := (match t.status with
    | .running => true
    | _ => false) && (match t.frames with
    | [.throwing a, f] => decide (a = v) && gBase f
    | _ => false)
theorem gOk_spec {v : Addr} {t : State} (h : gOk v t = true) : t.status = Status.running ∧ t.frames = .throwing v :: Lib.HandBits.below0 := by
  unfold gOk at h
  rw [Bool.and_eq_true] at h
  obtain ⟨h1, h2⟩ := h
  constructor
  · split at h1
    · assumption
    · cases h1
  · split at h2
    · rename_i a f e
      rw [Bool.and_eq_true] at h2
      rw [e, ← gBase_spec h2.2, of_decide_eq_true h2.1]
    · cases h2
