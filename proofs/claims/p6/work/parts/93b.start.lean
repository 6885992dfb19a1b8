theorem w2_code (c : Jvm.Cond) (h : su_isCode c = true) : c.before start1.args0 w2_about = c.before start1.args0 start1.about := by
  cases c <;> first | (simp [su_isCode] at h; done) | rfl
theorem w2_word {c : Jvm.Cond} (h : w2_ok c = true) (h2 : c.before start1.args0 start1.about = true) : c.before start1.args0 w2_about = true := by
  unfold w2_ok at h
  rcases Bool.or_eq_true _ _ |>.mp h with h | h
  · rw [w2_code c h]; exact h2
  · exact h
theorem w2_words : ∀ c ∈ (Jvm.Cond.code x code maxLocals ret :: tables_1), c.before start1.args0 w2_about = true := by
  intro c hc
  refine w2_word ?_ (start1.words c hc)
  rcases List.mem_cons.mp hc with h | h
  · rw [h]; rfl
  · have h1 : c ∈ tables_1_1 ++ (tables_1_2 ++ (tables_1_3 ++ (tables_1_4 ++ (tables_1_5 ++ tables_1_6)))) := h
    rcases List.mem_append.mp h1 with h2 | h1
    · exact List.all_eq_true.mp w2_all_1 c h2
    rcases List.mem_append.mp h1 with h2 | h1
    · exact List.all_eq_true.mp w2_all_2 c h2
    rcases List.mem_append.mp h1 with h2 | h1
    · exact List.all_eq_true.mp w2_all_3 c h2
    rcases List.mem_append.mp h1 with h2 | h1
    · exact List.all_eq_true.mp w2_all_4 c h2
    rcases List.mem_append.mp h1 with h2 | h1
    · exact List.all_eq_true.mp w2_all_5 c h2
    exact List.all_eq_true.mp w2_all_6 c h1
set_option maxRecDepth 16384 in
theorem w2_pre : (Jvm.Cond.and given_1 narrow_1).before start1.args0 w2_about = true := by decide +kernel
set_option maxRecDepth 16384 in
theorem w2_start : Jvm.D.AtStart classFile x code maxLocals ret World_1 tables_1 room_1 Calls_1 rest_1 Pre_1 launch0 start1.p0 start1.e0 w2_about ⟨0, 0⟩ start1.args0 Lib.HandBits.below0 :=
  ⟨lists_1, trivial, launch0.admits_env _ _ _, launch0.least_env, fairChoices_fair.cas, fairChoices_fair.clock, rfl, by decide +kernel, by decide +kernel,
    (Spec.applies_iff rfl).mpr ⟨rfl, rfl, rfl, by decide +kernel, by decide +kernel, by decide +kernel, launch0.hasRoom_least _ room_1 (by decide +kernel) (by decide +kernel) (by decide +kernel) (by decide +kernel) (by decide +kernel) (by decide +kernel), atoms_intro w2_words⟩,
    trivial, (show rest_1_c.before start1.args0 w2_about = true by decide +kernel), w2_pre⟩
