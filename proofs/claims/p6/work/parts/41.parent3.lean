/-! parent: mothers in the model; the call. -/
section
variable {n i j : Nat} {S : Nat → Bool} {B E : Nat → Nat} {F M : Nat → Option Nat} {fem born died ly fa mo fg mg : Nat → Int32} {x4 : Int32}
theorem ml_dec (h : IP n S B E F M fem born died ly fa mo) (hi : i < n) (hj : j < n) (hb : B j + 14 ≤ B i) : f_X11_lives born died (nI j) (born i) = some (bI (decide (B i ≤ E j))) := by
  obtain ⟨a1, a2, a3, a4, a5, a6, a7, a8, a9, a10, a11, a12⟩ := h.2 i hi
  obtain ⟨b1, b2, b3, b4, b5, b6, b7, b8, b9, b10, b11, b12⟩ := h.2 j hj
  rw [lives_m h hj, a2, decide_eq_true (p := ¬ nI (B i) < nI (B j)) (nI_nlt (by omega) (by omega)), Bool.true_and]
  congr 2
  by_cases q : B i ≤ E j
  · rw [decide_eq_true q, decide_eq_true (nI_nlt q (by omega))]
  · rw [decide_eq_false q, decide_eq_false (fun w => w (nI_lt (by omega) (by omega)))]
theorem pm_m1 (h : IP n S B E F M fem born died ly fa mo) (hi : i < n) (hj : j < n) (hf : gradeOK x4 ∧ motherOK S B E i j ∧ mo i = -1) : f_X11_parent (nI n) fem born died fa mo fg mg (nI i) 1 (nI j) x4 = some (1, 0, fa, upd mo i (nI j), fg, upd mg i x4) := by
  have hn := h.1
  obtain ⟨b1, b2, b3, b4, b5, b6, b7, b8, b9, b10, b11, b12⟩ := h.2 j hj
  have q1 : ¬ (born i - born j < 14) := mt (gap_lt h hi hj (c := 14) (k := 14) rfl (by decide) (Or.inr (by decide))).mp (by have := hf.2.1.2.2.1; omega)
  have q3 : ¬ (50 < born i - born j) := mt (gap_gt h hi hj (c := 50) (k := 50) rfl (by decide)).mp (by have := hf.2.1.2.2.2.1; omega)
  have c2 : ¬ fem j = 0 := by rw [b1, hf.2.1.2.1]; decide
  unfold f_X11_parent g_X11_parent_75 g_X11_parent_195 g_X11_parent_197
  rw [is_m1 (hs_of (by omega) hi), is_m1 (hs_of (by omega) hj)]
  simp only [Option.bind_some, inb_nI (N := 60) (n := i) (by omega) (by decide), inb_nI (N := 60) (n := j) (by omega) (by decide), nI_clamp (n := i) (by omega), nI_clamp (n := j) (by omega), if_true]
  rw [if_neg i10, if_neg i10, if_neg (by decide : ¬ (1 : Int32) < 0), if_pos (by decide : (1 : Int32) ≤ 1), if_neg hf.1.1, if_neg hf.1.2, if_neg (nI_ge hf.2.1.1 (by omega)), if_neg i10, if_neg i10, if_pos hf.2.2, if_neg c2, if_neg q1, if_neg q3, ml_dec h hi hj hf.2.1.2.2.1, decide_eq_true hf.2.1.2.2.2.2]
  simp only [Option.bind_some]
  rw [if_neg (by decide : ¬ bI true = 0), if_neg i10, if_neg i10]
  rfl
theorem pm_m0 (h : IP n S B E F M fem born died ly fa mo) (hi : i < n) (hj : j < n) (hf : ¬ (gradeOK x4 ∧ motherOK S B E i j ∧ mo i = -1)) : f_X11_parent (nI n) fem born died fa mo fg mg (nI i) 1 (nI j) x4 = some (0, 0, fa, mo, fg, mg) := by
  have hn := h.1
  obtain ⟨b1, b2, b3, b4, b5, b6, b7, b8, b9, b10, b11, b12⟩ := h.2 j hj
  have q1 := gap_lt h hi hj (c := 14) (k := 14) rfl (by decide) (Or.inr (by decide))
  have q3 := gap_gt h hi hj (c := 50) (k := 50) rfl (by decide)
  have z : ∀ x5 : Int32, g_X11_parent_74 fem born died 0 fa mo fg mg (nI i) 1 (nI j) x4 x5 = some (0, 0, fa, mo, fg, mg) := fun x5 => rfl
  have z2 : g_X11_parent_194 0 fa mo fg mg (nI i) 1 (nI j) x4 = some (0, 0, fa, mo, fg, mg) := rfl
  unfold f_X11_parent
  rw [is_m1 (hs_of (by omega) hi), is_m1 (hs_of (by omega) hj)]
  simp only [Option.bind_some, inb_nI (N := 60) (n := i) (by omega) (by decide), inb_nI (N := 60) (n := j) (by omega) (by decide), nI_clamp (n := i) (by omega), nI_clamp (n := j) (by omega), if_true, z]
  rw [if_neg i10, if_neg i10, if_neg (by decide : ¬ (1 : Int32) < 0), if_pos (by decide : (1 : Int32) ≤ 1)]
  by_cases c1 : x4 < 1
  · rw [if_pos c1]
  rw [if_neg c1]
  by_cases c1' : 9 < x4
  · rw [if_pos c1']
  rw [if_neg c1']
  by_cases c3 : nI i ≤ nI j
  · rw [if_pos c3]
  rw [if_neg c3]
  rw [nI_leI (by omega) (by omega)] at c3
  unfold g_X11_parent_75
  simp only [inb_nI (N := 60) (n := i) (by omega) (by decide), inb_nI (N := 60) (n := j) (by omega) (by decide), nI_clamp (n := i) (by omega), nI_clamp (n := j) (by omega), if_true, z2]
  rw [if_neg i10, if_neg i10]
  by_cases c4 : mo i = -1
  · rw [if_pos c4]
    by_cases c5 : fem j = 0
    · rw [if_pos c5]
    rw [if_neg c5]
    rw [b1, bI_0] at c5
    by_cases c6 : born i - born j < 14
    · rw [if_pos c6]
    rw [if_neg c6]
    rw [q1] at c6
    by_cases c7 : 50 < born i - born j
    · rw [if_pos c7]
    rw [if_neg c7, ml_dec h hi hj (by omega)]
    rw [q3] at c7
    simp only [Option.bind_some]
    by_cases c8 : B i ≤ E j
    · exact absurd ⟨⟨c1, c1'⟩, ⟨by omega, by cases hs : S j <;> simp_all, by omega, by omega, c8⟩, c4⟩ hf
    · rw [decide_eq_false c8]
      rfl
  · rw [if_neg c4]
/-- the call, where nothing is thrown -/
theorem q_parent (h : IP n S B E F M fem born died ly fa mo) (x1 x2 x3 x4 : Int32) (h1 : hs n x1) (h3 : hs n x3) (h2 : x2 = 0 ∨ x2 = 1) : ∃ a fa' mo' fg' mg', f_X10_parent fem born ly (nI n) fa mo fg mg x1 x2 x3 x4 = some (a, fa', mo', fg', mg') ∧ f_X11_parent (nI n) fem born died fa mo fg mg x1 x2 x3 x4 = some (a, 0, fa', mo', fg', mg') ∧ ∃ F' M', IP n S B E F' M' fem born died ly fa' mo' := by
  have hn := h.1
  obtain ⟨i, hi, rfl⟩ := hs_nI (by omega) h1
  obtain ⟨j, hj, rfl⟩ := hs_nI (by omega) h3
  unfold f_X10_parent
  rw [req_1 h1, req_1 h3]
  simp only [Option.bind_some]
  rcases h2 with rfl | rfl
  · rw [if_pos rfl]
    rcases Classical.em (gradeOK x4 ∧ fatherOK S B E i j ∧ fa i = -1) with hf | hf
    · rw [tf_b1 h hi hj hf, pm_f1 h hi hj hf]
      exact ⟨_, _, _, _, _, rfl, rfl, _, _, ip_father h hf.2.1⟩
    · rw [tf_b0 h hi hj hf, pm_f0 h hi hj hf]
      exact ⟨_, _, _, _, _, rfl, rfl, F, M, h⟩
  · rw [if_neg i10, if_pos rfl]
    rcases Classical.em (gradeOK x4 ∧ motherOK S B E i j ∧ mo i = -1) with hf | hf
    · rw [tm_b1 h hi hj hf, pm_m1 h hi hj hf]
      exact ⟨_, _, _, _, _, rfl, rfl, _, _, ip_mother h hf.2.1⟩
    · rw [tm_b0 h hi hj hf, pm_m0 h hi hj hf]
      exact ⟨_, _, _, _, _, rfl, rfl, F, M, h⟩
theorem what_01 {x : Int32} (h0 : ¬ x = 0) (h1 : ¬ x = 1) : x < 0 ∨ ¬ x ≤ 1 := by
  rcases Classical.em (x < 0) with q | q
  · exact Or.inl q
  · obtain ⟨j, hj, rfl⟩ := nI_of q
    refine Or.inr fun w => ?_
    have w' : nI j ≤ nI 1 := w
    rw [nI_leI hj (by decide)] at w'
    rcases (show j = 0 ∨ j = 1 by omega) with rfl | rfl
    · exact h0 rfl
    · exact h1 rfl
theorem q_parent_x (x1 x2 x3 x4 : Int32) (h : ¬ (hs n x1 ∧ hs n x3 ∧ (x2 = 0 ∨ x2 = 1))) : f_X10_parent_x (nI n) fa mo fg mg x1 x2 x3 = some (fa, mo, fg, mg) ∧ f_X11_parent (nI n) fem born died fa mo fg mg x1 x2 x3 x4 = some (0, 1, fa, mo, fg, mg) := by
  have z : g_X11_parent_30 fa mo fg mg = some (0, 1, fa, mo, fg, mg) := rfl
  unfold f_X10_parent_x f_X11_parent
  rw [z]
  rcases Classical.em (hs n x1) with h1 | h1
  · rw [reqx_1 h1, req_1 h1, is_m1 h1]
    rcases Classical.em (hs n x3) with h3 | h3
    · rw [reqx_1 h3, req_1 h3, is_m1 h3]
      have c0 : ¬ x2 = 0 := fun q => h ⟨h1, h3, Or.inl q⟩
      have c1 : ¬ x2 = 1 := fun q => h ⟨h1, h3, Or.inr q⟩
      simp only [Option.bind_some]
      rw [if_neg c0, if_neg c1, if_neg i10, if_neg i10]
      refine ⟨rfl, ?_⟩
      rcases what_01 c0 c1 with q | q
      · rw [if_pos q]
      · rw [if_neg q]
        split <;> rfl
    · rw [reqx_0 h3, is_m0 h3]
      exact ⟨rfl, rfl⟩
  · rw [reqx_0 h1, is_m0 h1]
    exact ⟨rfl, rfl⟩
end
