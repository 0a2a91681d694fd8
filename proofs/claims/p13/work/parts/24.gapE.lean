/-! the run itself: from gA the law ends by a throw; so Claimed_1_1, that it returns, is false as it is written -/
set_option maxRecDepth 16384
theorem gEnd : gOk 3 (gRun 4000 gA) = true := by decide +kernel
theorem gFalls : RefutedClaimed_1_1 := by
  obtain ⟨n, hn, hw⟩ := gRun_is 4000 gA
  obtain ⟨h1, h2⟩ := gOk_spec gEnd
  rw [hn] at h1 h2
  refine ⟨launch0, start1.p0, start1.e0, gA, ⟨0, 0⟩, start1.args0, Lib.HandBits.below0, rfl, gStart, n, .threw 3, hw, h1, h2, fun hp => ?_⟩
  have h3 := hp.1
  simp [D.postC, limb_1_1, Cond.after, Cond.holds, Cond.value] at h3
theorem gNot : ¬ Claimed_1_1 := by
  intro h
  obtain ⟨n, hn, hw⟩ := gRun_is 4000 gA
  obtain ⟨h1, h2⟩ := gOk_spec gEnd
  rw [hn] at h1 h2
  obtain ⟨a1, a2, a3, _, a5, a6, a7, a8, a9, a10, a11, a12, a13⟩ := gStart
  obtain ⟨k, o, hk, _, he, hp⟩ := h launch0 rfl a1 a2 start1.p0 start1.e0 a3 a5 a6 gA ⟨0, 0⟩ start1.args0 Lib.HandBits.below0 a7 a8 a9 a10 ⟨a11, a12, a13⟩
  cases o with
  | threw a =>
    have h3 := hp.1
    simp [D.postC, limb_1_1, Cond.after, Cond.holds, Cond.value] at h3
  | returned v =>
    have hl := Ended.length_returned he
    rcases Nat.lt_trichotomy k n with hlt | heq | hgt
    · obtain ⟨ab, e1, e2, _⟩ := hw k hlt
      rw [e1, List.length_append] at hl
      exact e2 (List.eq_nil_of_length_eq_zero (by omega))
    · subst heq
      rw [h2, List.length_cons] at hl
      omega
    · obtain ⟨ab, e1, _, e3⟩ := hk n hgt
      rw [h2] at e1
      exact e3 3 (List.append_cancel_right (show ab ++ Lib.HandBits.below0 = [Frame.throwing 3] ++ Lib.HandBits.below0 from e1.symm))
