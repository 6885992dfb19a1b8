theorem w2_ints : w2_about.IntsAt 0 Sx := ⟨_, rfl, rfl, ⟨(fun k h => (by cases h)), _, rfl, 27, rfl⟩, by decide⟩
theorem refuted_whole : RefutedClaimed_1_2 := falls_of (b := 0) (by decide +kernel) w2_start ⟨rfl, w2_ints, by decide, w2_pre⟩
