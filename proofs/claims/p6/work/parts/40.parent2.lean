/-! parent: the book's and the model's. -/
section
variable {n i j : Nat} {S : Nat → Bool} {B E : Nat → Nat} {F M : Nat → Option Nat} {fem born died ly fa mo fg mg : Nat → Int32} {x4 : Int32}
def gradeOK (x : Int32) : Prop := ¬ x < 1 ∧ ¬ 9 < x
theorem cf_b1 (h : IP n S B E F M fem born died ly fa mo) (hi : i < n) (hj : j < n) (hf : fatherOK S B E i j) : f_X4_canBeFather fem born ly (nI n) (nI i) (nI j) = some 1 := by
  have hn := h.1
  obtain ⟨b1, b2, b3, b4, b5, b6, b7, b8, b9, b10, b11, b12⟩ := h.2 j hj
  have q1 : ¬ (born i - born j < 14) := mt (gap_lt h hi hj (c := 14) (k := 14) rfl (by decide) (Or.inr (by decide))).mp (by have := hf.2.2.1; omega)
  have q2 : ¬ (ly j < born i - 1) := by rw [b7]; exact mt (father_lt h hi hj).mp (by have := hf.2.2.2; omega)
  unfold f_X4_canBeFather
  rw [has_b1 (hs_of (by omega) hi), has_b1 (hs_of (by omega) hj)]
  simp only [Option.bind_some, inb_nI (N := 60) (n := i) (by omega) (by decide), inb_nI (N := 60) (n := j) (by omega) (by decide), nI_clamp (n := i) (by omega), nI_clamp (n := j) (by omega), if_true]
  rw [if_neg i10, if_neg i10, if_neg (nI_ge hf.1 (by omega)), if_pos (by rw [b1, hf.2.1]; rfl), if_neg q1, if_neg q2]
  rfl
theorem cf_b0 (h : IP n S B E F M fem born died ly fa mo) (hi : i < n) (hj : j < n) (hf : ¬ fatherOK S B E i j) : f_X4_canBeFather fem born ly (nI n) (nI i) (nI j) = some 0 := by
  have hn := h.1
  obtain ⟨b1, b2, b3, b4, b5, b6, b7, b8, b9, b10, b11, b12⟩ := h.2 j hj
  have q1 := gap_lt h hi hj (c := 14) (k := 14) rfl (by decide) (Or.inr (by decide))
  have q2 := father_lt h hi hj
  unfold f_X4_canBeFather
  rw [has_b1 (hs_of (by omega) hi), has_b1 (hs_of (by omega) hj)]
  simp only [Option.bind_some, inb_nI (N := 60) (n := i) (by omega) (by decide), inb_nI (N := 60) (n := j) (by omega) (by decide), nI_clamp (n := i) (by omega), nI_clamp (n := j) (by omega), if_true]
  rw [if_neg i10, if_neg i10]
  by_cases c1 : nI i ≤ nI j
  · rw [if_pos c1]; rfl
  rw [if_neg c1]
  rw [nI_leI (by omega) (by omega)] at c1
  by_cases c2 : fem j = 0
  · rw [if_pos c2]
    rw [b1, bI_0] at c2
    by_cases c3 : born i - born j < 14
    · rw [if_pos c3]; rfl
    rw [if_neg c3]
    rw [q1] at c3
    by_cases c4 : ly j < born i - 1
    · rw [if_pos c4]; rfl
    · rw [b7, q2] at c4
      exact absurd ⟨by omega, c2, by omega, by omega⟩ hf
  · rw [if_neg c2]; rfl
theorem tf_b1 (h : IP n S B E F M fem born died ly fa mo) (hi : i < n) (hj : j < n) (hf : gradeOK x4 ∧ fatherOK S B E i j ∧ fa i = -1) : f_X4_tellFather fem born ly (nI n) fa fg (nI i) (nI j) x4 = some (1, upd fa i (nI j), upd fg i x4) := by
  have hn := h.1
  unfold f_X4_tellFather
  rw [grade_b1 hf.1, cf_b1 h hi hj hf.2.1]
  simp only [Option.bind_some, inb_nI (N := 60) (n := i) (by omega) (by decide), nI_clamp (n := i) (by omega), if_true]
  rw [if_neg i10, if_neg i10, if_pos hf.2.2]
theorem tf_b0 (h : IP n S B E F M fem born died ly fa mo) (hi : i < n) (hj : j < n) (hf : ¬ (gradeOK x4 ∧ fatherOK S B E i j ∧ fa i = -1)) : f_X4_tellFather fem born ly (nI n) fa fg (nI i) (nI j) x4 = some (0, fa, fg) := by
  have hn := h.1
  unfold f_X4_tellFather
  by_cases c1 : gradeOK x4
  · rw [grade_b1 c1]
    by_cases c2 : fatherOK S B E i j
    · rw [cf_b1 h hi hj c2]
      simp only [Option.bind_some, inb_nI (N := 60) (n := i) (by omega) (by decide), nI_clamp (n := i) (by omega), if_true]
      rw [if_neg i10, if_neg i10, if_neg (fun c3 => hf ⟨c1, c2, c3⟩)]
      rfl
    · rw [cf_b0 h hi hj c2]; rfl
  · rw [grade_b0 c1]; rfl
theorem cm_b1 (h : IP n S B E F M fem born died ly fa mo) (hi : i < n) (hj : j < n) (hf : motherOK S B E i j) : f_X4_canBeMother fem born ly (nI n) (nI i) (nI j) = some 1 := by
  have hn := h.1
  obtain ⟨a1, a2, a3, a4, a5, a6, a7, a8, a9, a10, a11, a12⟩ := h.2 i hi
  obtain ⟨b1, b2, b3, b4, b5, b6, b7, b8, b9, b10, b11, b12⟩ := h.2 j hj
  have q1 : ¬ (born i - born j < 14) := mt (gap_lt h hi hj (c := 14) (k := 14) rfl (by decide) (Or.inr (by decide))).mp (by have := hf.2.2.1; omega)
  have q3 : ¬ (50 < born i - born j) := mt (gap_gt h hi hj (c := 50) (k := 50) rfl (by decide)).mp (by have := hf.2.2.2.1; omega)
  have q2 : ¬ (ly j < born i) := by rw [b7, a2, nI_ltI (by omega) (by omega)]; have := hf.2.2.2.2; omega
  unfold f_X4_canBeMother
  rw [has_b1 (hs_of (by omega) hi), has_b1 (hs_of (by omega) hj)]
  simp only [Option.bind_some, inb_nI (N := 60) (n := i) (by omega) (by decide), inb_nI (N := 60) (n := j) (by omega) (by decide), nI_clamp (n := i) (by omega), nI_clamp (n := j) (by omega), if_true]
  rw [if_neg i10, if_neg i10, if_neg (nI_ge hf.1 (by omega)), if_neg (by rw [b1, hf.2.1]; decide), if_neg q1, if_neg q3, if_neg q2]
  rfl
theorem cm_b0 (h : IP n S B E F M fem born died ly fa mo) (hi : i < n) (hj : j < n) (hf : ¬ motherOK S B E i j) : f_X4_canBeMother fem born ly (nI n) (nI i) (nI j) = some 0 := by
  have hn := h.1
  obtain ⟨a1, a2, a3, a4, a5, a6, a7, a8, a9, a10, a11, a12⟩ := h.2 i hi
  obtain ⟨b1, b2, b3, b4, b5, b6, b7, b8, b9, b10, b11, b12⟩ := h.2 j hj
  have q1 := gap_lt h hi hj (c := 14) (k := 14) rfl (by decide) (Or.inr (by decide))
  have q3 := gap_gt h hi hj (c := 50) (k := 50) rfl (by decide)
  unfold f_X4_canBeMother
  rw [has_b1 (hs_of (by omega) hi), has_b1 (hs_of (by omega) hj)]
  simp only [Option.bind_some, inb_nI (N := 60) (n := i) (by omega) (by decide), inb_nI (N := 60) (n := j) (by omega) (by decide), nI_clamp (n := i) (by omega), nI_clamp (n := j) (by omega), if_true]
  rw [if_neg i10, if_neg i10]
  by_cases c1 : nI i ≤ nI j
  · rw [if_pos c1]; rfl
  rw [if_neg c1]
  rw [nI_leI (by omega) (by omega)] at c1
  by_cases c2 : fem j = 0
  · rw [if_pos c2]; rfl
  rw [if_neg c2]
  rw [b1, bI_0] at c2
  by_cases c3 : born i - born j < 14
  · rw [if_pos c3]; rfl
  rw [if_neg c3]
  rw [q1] at c3
  by_cases c5 : 50 < born i - born j
  · rw [if_pos c5]; rfl
  rw [if_neg c5]
  rw [q3] at c5
  by_cases c4 : ly j < born i
  · rw [if_pos c4]; rfl
  · rw [b7, a2, nI_ltI (by omega) (by omega)] at c4
    exact absurd ⟨by omega, by cases hs : S j <;> simp_all, by omega, by omega, by omega⟩ hf
theorem tm_b1 (h : IP n S B E F M fem born died ly fa mo) (hi : i < n) (hj : j < n) (hf : gradeOK x4 ∧ motherOK S B E i j ∧ mo i = -1) : f_X4_tellMother fem born ly (nI n) mo mg (nI i) (nI j) x4 = some (1, upd mo i (nI j), upd mg i x4) := by
  have hn := h.1
  unfold f_X4_tellMother
  rw [grade_b1 hf.1, cm_b1 h hi hj hf.2.1]
  simp only [Option.bind_some, inb_nI (N := 60) (n := i) (by omega) (by decide), nI_clamp (n := i) (by omega), if_true]
  rw [if_neg i10, if_neg i10, if_pos hf.2.2]
theorem tm_b0 (h : IP n S B E F M fem born died ly fa mo) (hi : i < n) (hj : j < n) (hf : ¬ (gradeOK x4 ∧ motherOK S B E i j ∧ mo i = -1)) : f_X4_tellMother fem born ly (nI n) mo mg (nI i) (nI j) x4 = some (0, mo, mg) := by
  have hn := h.1
  unfold f_X4_tellMother
  by_cases c1 : gradeOK x4
  · rw [grade_b1 c1]
    by_cases c2 : motherOK S B E i j
    · rw [cm_b1 h hi hj c2]
      simp only [Option.bind_some, inb_nI (N := 60) (n := i) (by omega) (by decide), nI_clamp (n := i) (by omega), if_true]
      rw [if_neg i10, if_neg i10, if_neg (fun c3 => hf ⟨c1, c2, c3⟩)]
      rfl
    · rw [cm_b0 h hi hj c2]; rfl
  · rw [grade_b0 c1]; rfl
theorem lives_m {y : Int32} (h : IP n S B E F M fem born died ly fa mo) (hj : j < n) : f_X11_lives born died (nI j) y = some (bI (decide (¬ y < nI (B j)) && decide (¬ nI (E j) < y))) := by
  have hn := h.1
  obtain ⟨b1, b2, b3, b4, b5, b6, b7, b8, b9, b10, b11, b12⟩ := h.2 j hj
  unfold f_X11_lives
  rw [end_m h hj]
  simp only [Option.bind_some, inb_nI (N := 60) (n := j) (by omega) (by decide), nI_clamp (n := j) (by omega), if_true, b2]
  by_cases c1 : y < nI (B j)
  · rw [if_pos c1]; simp [c1, bI]; rfl
  rw [if_neg c1]
  by_cases c2 : nI (E j) < y
  · rw [if_pos c2]; simp [c2, bI]; rfl
  rw [if_neg c2]
  simp [c1, c2, bI]
  rfl
/-- the model's parent, a father -/
theorem pm_f1 (h : IP n S B E F M fem born died ly fa mo) (hi : i < n) (hj : j < n) (hf : gradeOK x4 ∧ fatherOK S B E i j ∧ fa i = -1) : f_X11_parent (nI n) fem born died fa mo fg mg (nI i) 0 (nI j) x4 = some (1, 0, upd fa i (nI j), mo, upd fg i x4, mg) := by
  have hn := h.1
  obtain ⟨b1, b2, b3, b4, b5, b6, b7, b8, b9, b10, b11, b12⟩ := h.2 j hj
  have q1 : ¬ (born i - born j < 14) := mt (gap_lt h hi hj (c := 14) (k := 14) rfl (by decide) (Or.inr (by decide))).mp (by have := hf.2.1.2.2.1; omega)
  have q2 : ¬ (nI (E j) < born i - 1) := mt (father_lt h hi hj).mp (by have := hf.2.1.2.2.2; omega)
  have c2 : fem j = 0 := by rw [b1, hf.2.1.2.1]; rfl
  unfold f_X11_parent g_X11_parent_75 g_X11_parent_133 g_X11_parent_197
  rw [is_m1 (hs_of (by omega) hi), is_m1 (hs_of (by omega) hj)]
  simp only [Option.bind_some, inb_nI (N := 60) (n := i) (by omega) (by decide), inb_nI (N := 60) (n := j) (by omega) (by decide), nI_clamp (n := i) (by omega), nI_clamp (n := j) (by omega), if_true]
  rw [if_neg i10, if_neg i10, if_neg (by decide : ¬ (0 : Int32) < 0), if_pos (by decide : (0 : Int32) ≤ 1), if_neg hf.1.1, if_neg hf.1.2, if_neg (nI_ge hf.2.1.1 (by omega)), if_neg i10, if_pos hf.2.2, if_pos c2, if_neg q1, end_m h hj]
  simp only [Option.bind_some]
  rw [if_neg q2, if_neg i10]
  rfl
theorem pm_f0 (h : IP n S B E F M fem born died ly fa mo) (hi : i < n) (hj : j < n) (hf : ¬ (gradeOK x4 ∧ fatherOK S B E i j ∧ fa i = -1)) : f_X11_parent (nI n) fem born died fa mo fg mg (nI i) 0 (nI j) x4 = some (0, 0, fa, mo, fg, mg) := by
  have hn := h.1
  obtain ⟨b1, b2, b3, b4, b5, b6, b7, b8, b9, b10, b11, b12⟩ := h.2 j hj
  have q1 := gap_lt h hi hj (c := 14) (k := 14) rfl (by decide) (Or.inr (by decide))
  have q2 := father_lt h hi hj
  have z : ∀ x5 : Int32, g_X11_parent_74 fem born died 0 fa mo fg mg (nI i) 0 (nI j) x4 x5 = some (0, 0, fa, mo, fg, mg) := fun x5 => rfl
  have z2 : g_X11_parent_132 0 fa mo fg mg (nI i) 0 (nI j) x4 = some (0, 0, fa, mo, fg, mg) := rfl
  unfold f_X11_parent
  rw [is_m1 (hs_of (by omega) hi), is_m1 (hs_of (by omega) hj)]
  simp only [Option.bind_some, inb_nI (N := 60) (n := i) (by omega) (by decide), inb_nI (N := 60) (n := j) (by omega) (by decide), nI_clamp (n := i) (by omega), nI_clamp (n := j) (by omega), if_true, z]
  rw [if_neg i10, if_neg i10, if_neg (by decide : ¬ (0 : Int32) < 0), if_pos (by decide : (0 : Int32) ≤ 1)]
  by_cases c1 : x4 < 1
  · rw [if_pos c1]
  rw [if_neg c1]
  by_cases c1' : 9 < x4
  · rw [if_pos c1']
  rw [if_neg c1']
  by_cases c3 : nI i ≤ nI j
  · rw [if_pos c3]
  rw [if_neg c3]
  rw [nI_leI (by omega) (by omega)] at c3
  unfold g_X11_parent_75
  simp only [inb_nI (N := 60) (n := i) (by omega) (by decide), inb_nI (N := 60) (n := j) (by omega) (by decide), nI_clamp (n := i) (by omega), nI_clamp (n := j) (by omega), if_true, z2]
  rw [if_neg i10]
  by_cases c4 : fa i = -1
  · rw [if_pos c4]
    by_cases c5 : fem j = 0
    · rw [if_pos c5]
      rw [b1, bI_0] at c5
      by_cases c6 : born i - born j < 14
      · rw [if_pos c6]
      rw [if_neg c6, end_m h hj]
      rw [q1] at c6
      simp only [Option.bind_some]
      by_cases c7 : nI (E j) < born i - 1
      · rw [if_pos c7]
      · rw [q2] at c7
        exact absurd ⟨⟨c1, c1'⟩, ⟨by omega, c5, by omega, by omega⟩, c4⟩ hf
    · rw [if_neg c5]
  · rw [if_neg c4]
end
