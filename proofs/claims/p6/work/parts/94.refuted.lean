theorem w2_ints : w2_about.IntsAt 0 Sx := ⟨_, rfl, rfl, ⟨(fun k h => (by cases h)), _, rfl, 27, rfl⟩, by decide⟩
theorem refuted_p6 : RefutedClaimed_1_2 := falls_of (b := 0) (by decide +kernel) w2_start ⟨rfl, w2_ints, by decide, w2_pre⟩
theorem not_claimed_p6 : ¬ (Claimed_1_1 ∧ Claimed_1_2) := by
  intro h
  obtain ⟨l, p, e, s, m, args, below, hfl, hA, n, o, hw, hr, he, hno⟩ := refuted_p6
  obtain ⟨b1, b2, ha, b4, hc, hk, hf, hfit, hheap, happ, c1, c2, c3⟩ := hA
  obtain ⟨n', o', hw', hr', he', hp'⟩ := h.2 l hfl b1 b2 p e ha hc hk s m args below hf hfit hheap happ ⟨c1, c2, c3⟩
  obtain ⟨rfl, rfl⟩ := the_end_unique (f := fun k => stepsAlone p.tables e k s) hw he hw' he'
  exact hno hp'
