section
/-! a start that meets every premise, and at which the law does not return: what shows REPORT.md's S1 for this row.
The start is the witness's own (start1), with another script, and with ONE change: behind its last class stands one more, gX, of the kind 'array of int', with a clone of its own (aload_0, athrow), and the array in FIRST_HOLDERS is of that class. -/
def gX : Class := { start1.cArr "X" 24 .int with interfaces := #[12], methods := #[Lib.HandJ.method "clone" "()Ljava/lang/Object;" [] (some (.object "java/lang/Object")) 0x1 1 ⟨#[0x2a, 0xbf]⟩] }
def gB : State := start1.aboutOf #[.int 0, .int 1, .int 10, .int 2, .int 3]
def gA : State := { gB with vm := { gB.vm with classes := gB.vm.classes.push gX }, heap := gB.heap.setIfInBounds 3 { cls := 37, slots := #[.int 0, .int 0, .int 0, .int 1], vm := .none } }
set_option maxRecDepth 16384
theorem gW_split {α : Type} (p : α → Bool) (n : Nat) (l : List α) (h1 : (l.take n).all p = true) (h2 : (l.drop n).all p = true) : l.all p = true := by
  rw [← List.take_append_drop n l, List.all_append, h1, h2]
  rfl
theorem gW_1_0 : ((tables_1_1).take 40).all (fun c => c.before start1.args0 gA) = true := by decide +kernel
theorem gW_1_1 : (((tables_1_1).drop 40).take 40).all (fun c => c.before start1.args0 gA) = true := by decide +kernel
theorem gW_1_2 : ((((tables_1_1).drop 40).drop 40).take 40).all (fun c => c.before start1.args0 gA) = true := by decide +kernel
theorem gW_1_3 : (((((tables_1_1).drop 40).drop 40).drop 40).take 40).all (fun c => c.before start1.args0 gA) = true := by decide +kernel
theorem gW_1_4 : ((((((tables_1_1).drop 40).drop 40).drop 40).drop 40).take 40).all (fun c => c.before start1.args0 gA) = true := by decide +kernel
theorem gW_1_5 : ((((((tables_1_1).drop 40).drop 40).drop 40).drop 40).drop 40).all (fun c => c.before start1.args0 gA) = true := by decide +kernel
theorem gW_1 : ∀ c ∈ tables_1_1, c.before start1.args0 gA = true := List.all_eq_true.mp (gW_split _ 40 (tables_1_1) gW_1_0 (gW_split _ 40 ((tables_1_1).drop 40) gW_1_1 (gW_split _ 40 (((tables_1_1).drop 40).drop 40) gW_1_2 (gW_split _ 40 ((((tables_1_1).drop 40).drop 40).drop 40) gW_1_3 (gW_split _ 40 (((((tables_1_1).drop 40).drop 40).drop 40).drop 40) gW_1_4 (gW_1_5))))))
theorem gW_2_0 : ((tables_1_2).take 40).all (fun c => c.before start1.args0 gA) = true := by decide +kernel
theorem gW_2_1 : (((tables_1_2).drop 40).take 40).all (fun c => c.before start1.args0 gA) = true := by decide +kernel
theorem gW_2_2 : ((((tables_1_2).drop 40).drop 40).take 40).all (fun c => c.before start1.args0 gA) = true := by decide +kernel
theorem gW_2_3 : (((((tables_1_2).drop 40).drop 40).drop 40).take 40).all (fun c => c.before start1.args0 gA) = true := by decide +kernel
theorem gW_2_4 : ((((((tables_1_2).drop 40).drop 40).drop 40).drop 40).take 40).all (fun c => c.before start1.args0 gA) = true := by decide +kernel
theorem gW_2_5 : ((((((tables_1_2).drop 40).drop 40).drop 40).drop 40).drop 40).all (fun c => c.before start1.args0 gA) = true := by decide +kernel
theorem gW_2 : ∀ c ∈ tables_1_2, c.before start1.args0 gA = true := List.all_eq_true.mp (gW_split _ 40 (tables_1_2) gW_2_0 (gW_split _ 40 ((tables_1_2).drop 40) gW_2_1 (gW_split _ 40 (((tables_1_2).drop 40).drop 40) gW_2_2 (gW_split _ 40 ((((tables_1_2).drop 40).drop 40).drop 40) gW_2_3 (gW_split _ 40 (((((tables_1_2).drop 40).drop 40).drop 40).drop 40) gW_2_4 (gW_2_5))))))
theorem gW_3_0 : ((tables_1_3).take 40).all (fun c => c.before start1.args0 gA) = true := by decide +kernel
theorem gW_3_1 : (((tables_1_3).drop 40).take 40).all (fun c => c.before start1.args0 gA) = true := by decide +kernel
theorem gW_3_2 : ((((tables_1_3).drop 40).drop 40).take 40).all (fun c => c.before start1.args0 gA) = true := by decide +kernel
theorem gW_3_3 : (((((tables_1_3).drop 40).drop 40).drop 40).take 40).all (fun c => c.before start1.args0 gA) = true := by decide +kernel
theorem gW_3_4 : ((((((tables_1_3).drop 40).drop 40).drop 40).drop 40).take 40).all (fun c => c.before start1.args0 gA) = true := by decide +kernel
theorem gW_3_5 : ((((((tables_1_3).drop 40).drop 40).drop 40).drop 40).drop 40).all (fun c => c.before start1.args0 gA) = true := by decide +kernel
theorem gW_3 : ∀ c ∈ tables_1_3, c.before start1.args0 gA = true := List.all_eq_true.mp (gW_split _ 40 (tables_1_3) gW_3_0 (gW_split _ 40 ((tables_1_3).drop 40) gW_3_1 (gW_split _ 40 (((tables_1_3).drop 40).drop 40) gW_3_2 (gW_split _ 40 ((((tables_1_3).drop 40).drop 40).drop 40) gW_3_3 (gW_split _ 40 (((((tables_1_3).drop 40).drop 40).drop 40).drop 40) gW_3_4 (gW_3_5))))))
theorem gW_4_0 : ((tables_1_4).take 40).all (fun c => c.before start1.args0 gA) = true := by decide +kernel
theorem gW_4_1 : (((tables_1_4).drop 40).take 40).all (fun c => c.before start1.args0 gA) = true := by decide +kernel
theorem gW_4_2 : ((((tables_1_4).drop 40).drop 40).take 40).all (fun c => c.before start1.args0 gA) = true := by decide +kernel
theorem gW_4_3 : (((((tables_1_4).drop 40).drop 40).drop 40).take 40).all (fun c => c.before start1.args0 gA) = true := by decide +kernel
theorem gW_4_4 : ((((((tables_1_4).drop 40).drop 40).drop 40).drop 40).take 40).all (fun c => c.before start1.args0 gA) = true := by decide +kernel
theorem gW_4_5 : ((((((tables_1_4).drop 40).drop 40).drop 40).drop 40).drop 40).all (fun c => c.before start1.args0 gA) = true := by decide +kernel
theorem gW_4 : ∀ c ∈ tables_1_4, c.before start1.args0 gA = true := List.all_eq_true.mp (gW_split _ 40 (tables_1_4) gW_4_0 (gW_split _ 40 ((tables_1_4).drop 40) gW_4_1 (gW_split _ 40 (((tables_1_4).drop 40).drop 40) gW_4_2 (gW_split _ 40 ((((tables_1_4).drop 40).drop 40).drop 40) gW_4_3 (gW_split _ 40 (((((tables_1_4).drop 40).drop 40).drop 40).drop 40) gW_4_4 (gW_4_5))))))
theorem gW_5_0 : (tables_1_5).all (fun c => c.before start1.args0 gA) = true := by decide +kernel
theorem gW_5 : ∀ c ∈ tables_1_5, c.before start1.args0 gA = true := List.all_eq_true.mp (gW_5_0)
end
section
/-! the law's run from the start gA (22.gapA), by the machine's own steps: it ends with false -/
set_option maxRecDepth 16384
theorem gWords : ∀ c ∈ (Cond.code x code maxLocals ret :: tables_1), c.before start1.args0 gA = true := by
  intro c hc
  rcases List.mem_cons.mp hc with h | h
  · rw [h]; exact su_hand_word (m := ⟨0, 0⟩) (by decide +kernel) rfl (by decide +kernel) (by decide +kernel)
  · have h1 : c ∈ tables_1_1 ++ (tables_1_2 ++ (tables_1_3 ++ (tables_1_4 ++ tables_1_5))) := h
    simp only [List.mem_append] at h1
    rcases h1 with h | h | h | h | h
    · exact gW_1 c h
    · exact gW_2 c h
    · exact gW_3 c h
    · exact gW_4 c h
    · exact gW_5 c h
theorem gStart : AtStart classFile x code maxLocals ret World_1 tables_1 room_1 Calls_1 rest_1 Pre_1 launch0 start1.p0 start1.e0 gA ⟨0, 0⟩ start1.args0 Lib.HandBits.below0 := by
  refine ⟨lists_1, trivial, launch0.admits_env _ _ _, launch0.least_env, fairChoices_fair.cas, fairChoices_fair.clock, rfl, ?_, ?_, (Spec.applies_iff rfl).mpr ⟨rfl, rfl, rfl, ?_, ?_, ?_, launch0.hasRoom_least _ room_1 ?_ ?_ ?_ ?_ ?_ ?_, atoms_intro gWords⟩, trivial, ?_, ?_⟩
  all_goals first | (show rest_1_c.before start1.args0 gA = true; decide +kernel) | (show (Cond.and given_1 narrow_1).before start1.args0 gA = true; decide +kernel) | decide +kernel
def gBase : Frame → Bool
  | .native ⟨m, a, st, sv, aw, an, lk, w⟩ => decide (m = ⟨0, 0⟩ ∧ a = #[] ∧ st = 0 ∧ sv = #[] ∧ aw = false ∧ an = none ∧ lk = none ∧ w = 0)
  | _ => false
theorem gBase_spec {f : Frame} (h : gBase f = true) : [f] = Lib.HandBits.below0 := by
  unfold gBase at h
  split at h
  · obtain ⟨rfl, rfl, rfl, rfl, rfl, rfl, rfl, rfl⟩ := of_decide_eq_true h
    rfl
  · cases h
def gEndsIn : List Frame → Bool
  | [] => false
  | [f] => gBase f
  | _ :: g :: r => gEndsIn (g :: r)
theorem gEndsIn_spec : (l : List Frame) → gEndsIn l = true → ∃ ab, l = ab ++ Lib.HandBits.below0
  | [], h => by
    have h1 : false = true := h
    cases h1
  | [f], h => ⟨[], gBase_spec h⟩
  | f :: g :: r, h => by
    obtain ⟨ab, e⟩ := gEndsIn_spec (g :: r) h
    exact ⟨f :: ab, by rw [e]; rfl⟩
def gAbove : List Frame → Bool
  | [] => false
  | [_] => false
  | [.throwing _, _] => false
  | _ => true
def gIn (s : State) : Bool := gEndsIn s.frames && gAbove s.frames
theorem gIn_spec {s : State} (h : gIn s = true) : Within s Lib.HandBits.below0 := by
  unfold gIn at h
  rw [Bool.and_eq_true] at h
  obtain ⟨h1, h2⟩ := h
  obtain ⟨ab, e⟩ := gEndsIn_spec _ h1
  rw [e] at h2
  refine ⟨ab, e, ?_, ?_⟩
  · intro h0
    rw [h0] at h2
    have h3 : false = true := h2
    cases h3
  · intro a h0
    rw [h0] at h2
    have h3 : false = true := h2
    cases h3
def gRun : Nat → State → State
  | 0, s => s
  | n + 1, s => if gIn s = true then gRun n (stepsAlone start1.p0.tables start1.e0 1 s) else s
theorem gRun_is (n : Nat) (s : State) : ∃ m, gRun n s = stepsAlone start1.p0.tables start1.e0 m s ∧ ∀ k, k < m → Within (stepsAlone start1.p0.tables start1.e0 k s) Lib.HandBits.below0 := by
  induction n generalizing s with
  | zero => exact ⟨0, rfl, fun k hk => absurd hk (Nat.not_lt_zero k)⟩
  | succ n ih =>
    by_cases h : gIn s = true
    · obtain ⟨m, hm, hw⟩ := ih (stepsAlone start1.p0.tables start1.e0 1 s)
      refine ⟨1 + m, ?_, ?_⟩
      · unfold gRun; rw [if_pos h, hm, stepsAlone_add]
      · intro k hk
        cases k with
        | zero => exact gIn_spec h
        | succ k =>
          rw [Nat.add_comm k 1, stepsAlone_add]
          exact hw k (by omega)
    · refine ⟨0, ?_, fun k hk => absurd hk (Nat.not_lt_zero k)⟩
      unfold gRun; rw [if_neg h]; rfl
def gOk (v : Addr) (t : State) : Bool := (match t.status with
    | .running => true
    | _ => false) && (match t.frames with
    | [.throwing a, f] => decide (a = v) && gBase f
    | _ => false)
theorem gOk_spec {v : Addr} {t : State} (h : gOk v t = true) : t.status = Status.running ∧ t.frames = .throwing v :: Lib.HandBits.below0 := by
  unfold gOk at h
  rw [Bool.and_eq_true] at h
  obtain ⟨h1, h2⟩ := h
  constructor
  · split at h1
    · assumption
    · cases h1
  · split at h2
    · rename_i a f e
      rw [Bool.and_eq_true] at h2
      rw [e, ← gBase_spec h2.2, of_decide_eq_true h2.1]
    · cases h2
end
section
/-! the run itself: from gA the law ends by a throw; so Claimed_1_1, that it returns, is false as it is written -/
set_option maxRecDepth 16384
theorem gEnd : gOk 3 (gRun 4000 gA) = true := by decide +kernel
theorem gFalls : RefutedClaimed_1_1 := by
  obtain ⟨n, hn, hw⟩ := gRun_is 4000 gA
  obtain ⟨h1, h2⟩ := gOk_spec gEnd
  rw [hn] at h1 h2
  refine ⟨launch0, start1.p0, start1.e0, gA, ⟨0, 0⟩, start1.args0, Lib.HandBits.below0, rfl, gStart, n, .threw 3, hw, h1, h2, fun hp => ?_⟩
  have h3 := hp.1
  simp [D.postC, limb_1_1, Cond.after, Cond.holds, Cond.value] at h3
theorem gNot : ¬ Claimed_1_1 := by
  intro h
  obtain ⟨n, hn, hw⟩ := gRun_is 4000 gA
  obtain ⟨h1, h2⟩ := gOk_spec gEnd
  rw [hn] at h1 h2
  obtain ⟨a1, a2, a3, _, a5, a6, a7, a8, a9, a10, a11, a12, a13⟩ := gStart
  obtain ⟨k, o, hk, _, he, hp⟩ := h launch0 rfl a1 a2 start1.p0 start1.e0 a3 a5 a6 gA ⟨0, 0⟩ start1.args0 Lib.HandBits.below0 a7 a8 a9 a10 ⟨a11, a12, a13⟩
  cases o with
  | threw a =>
    have h3 := hp.1
    simp [D.postC, limb_1_1, Cond.after, Cond.holds, Cond.value] at h3
  | returned v =>
    have hl := Ended.length_returned he
    rcases Nat.lt_trichotomy k n with hlt | heq | hgt
    · obtain ⟨ab, e1, e2, _⟩ := hw k hlt
      rw [e1, List.length_append] at hl
      exact e2 (List.eq_nil_of_length_eq_zero (by omega))
    · subst heq
      rw [h2, List.length_cons] at hl
      omega
    · obtain ⟨ab, e1, _, e3⟩ := hk n hgt
      rw [h2] at e1
      exact e3 3 (List.append_cancel_right (show ab ++ Lib.HandBits.below0 = [Frame.throwing 3] ++ Lib.HandBits.below0 from e1.symm))
end
