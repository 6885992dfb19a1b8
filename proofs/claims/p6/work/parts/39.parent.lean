/-! People: a person added, a parent told: the value behind goes on. -/
theorem upd_at (f : Nat → Int32) (k : Nat) (x : Int32) : upd f k x k = x := by simp [upd]
theorem upd_ne (f : Nat → Int32) {k j : Nat} (x : Int32) (h : j ≠ k) : upd f k x j = f j := by simp [upd, h]
theorem bz_nar (x : Int32) : vp_nar .boolean (bz x) = bI (decide (¬ x = 0)) := by
  unfold bz bI
  by_cases h : x = 0
  · simp [h]; rfl
  · simp [h]; rfl
theorem ne_m1 (j : Nat) (h : j < 2 ^ 31) : ¬ nI j = -1 := by
  intro e
  exact nI_pos h (by rw [e]; decide)
theorem ip_add {n : Nat} {S : Nat → Bool} {B E : Nat → Nat} {F M : Nat → Option Nat} {fem born died ly fa mo : Nat → Int32} (h : IP n S B E F M fem born died ly fa mo) (hn : n < 60) (x1 x2 x3 : Int32) (hy : yr x2) (hd : dieOK x2 x3) : ∃ S' B' E' F' M', IP (n + 1) S' B' E' F' M' (upd fem n (vp_nar .boolean (bz x1))) (upd born n x2) (upd died n x3) (upd ly n (if x3 = -1 then x2 + 100 else x3)) (upd fa n (-1)) (upd mo n (-1)) := by
  obtain ⟨i, i1, i2, rfl⟩ := yr_nI hy
  obtain ⟨e, e1, e2, he⟩ : ∃ e, i ≤ e ∧ e ≤ i + 100 ∧ (if x3 = -1 then nI i + 100 else x3) = nI e := by
    by_cases q : x3 = -1
    · exact ⟨i + 100, by omega, by omega, by rw [if_pos q]; exact nI_add i 100⟩
    · rcases hd with h0 | ⟨h1, h2, h3⟩
      · exact absurd h0 q
      · have h4 := (die_le hy h1 h2).mp h3
        obtain ⟨j, j1, j2, rfl⟩ := yr_nI h1
        rw [nI_ltI (by omega) (by omega)] at h2
        have q5 : nI i + 100 = nI (i + 100) := nI_add i 100
        rw [q5, nI_leI (by omega) (by omega)] at h4
        exact ⟨j, by omega, by omega, by rw [if_neg q]⟩
  refine ⟨fun k => if k = n then decide (¬ x1 = 0) else S k, fun k => if k = n then i else B k, fun k => if k = n then e else E k, fun k => if k = n then none else F k, fun k => if k = n then none else M k, by omega, fun k hk => ?_⟩
  by_cases hkn : k = n
  · subst hkn
    refine ⟨?_, ?_, ?_, ?_, ?_, ?_, ?_, ?_, ?_, ?_, ?_, ?_⟩ <;> simp only [upd_at, if_true, bz_nar, he] <;> first
      | rfl
      | assumption
      | (intro j hj; cases hj)
  · have hk' : k < n := by omega
    obtain ⟨a1, a2, a3, a4, a5, a6, a7, a8, a9, a10, a11, a12⟩ := h.2 k hk'
    simp only [upd_ne _ _ hkn, if_neg hkn]
    refine ⟨a1, a2, a3, a4, a5, a6, a7, a8, a9, a10, fun j hj => ?_, fun j hj => ?_⟩
    · obtain ⟨b1, b2, b3⟩ := a11 j hj
      have hjn : ¬ j = n := by omega
      rw [if_neg hjn, if_neg hjn]
      exact ⟨b1, b2, b3⟩
    · obtain ⟨b1, b2⟩ := a12 j hj
      have hjn : ¬ j = n := by omega
      rw [if_neg hjn]
      exact ⟨b1, b2⟩
/-- what a father, a mother must be -/
def fatherOK (S : Nat → Bool) (B E : Nat → Nat) (i j : Nat) : Prop := j < i ∧ S j = false ∧ B j + 14 ≤ B i ∧ B i ≤ E j + 1
def motherOK (S : Nat → Bool) (B E : Nat → Nat) (i j : Nat) : Prop := j < i ∧ S j = true ∧ B j + 14 ≤ B i ∧ B i ≤ B j + 50 ∧ B i ≤ E j
theorem ip_father {n i j : Nat} {S : Nat → Bool} {B E : Nat → Nat} {F M : Nat → Option Nat} {fem born died ly fa mo : Nat → Int32} (h : IP n S B E F M fem born died ly fa mo) (hj : fatherOK S B E i j) : IP n S B E (fun k => if k = i then some j else F k) M fem born died ly (upd fa i (nI j)) mo := by
  refine ⟨h.1, fun k hk => ?_⟩
  obtain ⟨a1, a2, a3, a4, a5, a6, a7, a8, a9, a10, a11, a12⟩ := h.2 k hk
  refine ⟨a1, a2, a3, a4, a5, a6, a7, a8, ?_, a10, fun q hq => ?_, a12⟩
  · by_cases e : k = i
    · subst e
      rw [upd_at]
      simp [oI]
    · rw [upd_ne _ _ e]
      simp [e, a9]
  · by_cases e : k = i
    · subst e
      simp at hq
      subst hq
      exact ⟨hj.1, hj.2.1, hj.2.2.1⟩
    · simp [e] at hq
      exact a11 q hq
theorem ip_mother {n i j : Nat} {S : Nat → Bool} {B E : Nat → Nat} {F M : Nat → Option Nat} {fem born died ly fa mo : Nat → Int32} (h : IP n S B E F M fem born died ly fa mo) (hj : motherOK S B E i j) : IP n S B E F (fun k => if k = i then some j else M k) fem born died ly fa (upd mo i (nI j)) := by
  refine ⟨h.1, fun k hk => ?_⟩
  obtain ⟨a1, a2, a3, a4, a5, a6, a7, a8, a9, a10, a11, a12⟩ := h.2 k hk
  refine ⟨a1, a2, a3, a4, a5, a6, a7, a8, a9, ?_, a11, fun q hq => ?_⟩
  · by_cases e : k = i
    · subst e
      rw [upd_at]
      simp [oI]
    · rw [upd_ne _ _ e]
      simp [e, a10]
  · by_cases e : k = i
    · subst e
      simp at hq
      subst hq
      exact ⟨hj.1, hj.2.1⟩
    · simp [e] at hq
      exact a12 q hq
theorem grade_b1 {x : Int32} (h : ¬ x < 1 ∧ ¬ 9 < x) : f_X4_isGrade x = some 1 := by
  unfold f_X4_isGrade
  rw [if_neg h.1, if_neg h.2]
  rfl
theorem grade_b0 {x : Int32} (h : ¬ (¬ x < 1 ∧ ¬ 9 < x)) : f_X4_isGrade x = some 0 := by
  unfold f_X4_isGrade
  by_cases h1 : x < 1
  · rw [if_pos h1]; rfl
  · rw [if_neg h1, if_pos (Classical.byContradiction fun h2 => h ⟨h1, h2⟩)]; rfl
theorem bI_0 {b : Bool} : bI b = 0 ↔ b = false := by cases b <;> simp [bI]
section
variable {n : Nat} {S : Nat → Bool} {B E : Nat → Nat} {F M : Nat → Option Nat} {fem born died ly fa mo fg mg : Nat → Int32}
theorem gap_lt {n i j : Nat} (h : IP n S B E F M fem born died ly fa mo) (hi : i < n) (hj : j < n) {c : Int32} {k : Nat} (hc : c = nI k) (hk : k < 1000) (h0 : B j ≤ B i ∨ 0 < k) : (born i - born j < c) ↔ B i < B j + k := by
  obtain ⟨a1, a2, a3, a4, a5, a6, a7, a8, a9, a10, a11, a12⟩ := h.2 i hi
  obtain ⟨b1, b2, b3, b4, b5, b6, b7, b8, b9, b10, b11, b12⟩ := h.2 j hj
  rw [a2, b2, hc, Int32.lt_iff_toInt_lt, Int32.toInt_sub, nI_toInt (by omega), nI_toInt (by omega), nI_toInt (by omega), Int.bmod_eq_of_le (by omega) (by omega)]
  omega
theorem gap_gt {n i j : Nat} (h : IP n S B E F M fem born died ly fa mo) (hi : i < n) (hj : j < n) {c : Int32} {k : Nat} (hc : c = nI k) (hk : k < 1000) : (c < born i - born j) ↔ B j + k < B i := by
  obtain ⟨a1, a2, a3, a4, a5, a6, a7, a8, a9, a10, a11, a12⟩ := h.2 i hi
  obtain ⟨b1, b2, b3, b4, b5, b6, b7, b8, b9, b10, b11, b12⟩ := h.2 j hj
  rw [a2, b2, hc, Int32.lt_iff_toInt_lt, Int32.toInt_sub, nI_toInt (by omega), nI_toInt (by omega), nI_toInt (by omega), Int.bmod_eq_of_le (by omega) (by omega)]
  omega
theorem end_m {n j : Nat} (h : IP n S B E F M fem born died ly fa mo) (hj : j < n) : f_X11_end born died (nI j) = some (nI (E j)) := by
  obtain ⟨b1, b2, b3, b4, b5, b6, b7, b8, b9, b10, b11, b12⟩ := h.2 j hj
  have hn := h.1
  unfold f_X11_end
  rw [inb_nI (N := 60) (by omega) (by decide), nI_clamp (by omega), ← b8]
  simp only [if_true]
  by_cases q : died j = -1
  · rw [if_pos q, if_pos q]; rfl
  · rw [if_neg q, if_neg q]; rfl
theorem father_lt {n i j : Nat} (h : IP n S B E F M fem born died ly fa mo) (hi : i < n) (hj : j < n) : (nI (E j) < born i - 1) ↔ E j + 1 < B i := by
  obtain ⟨a1, a2, a3, a4, a5, a6, a7, a8, a9, a10, a11, a12⟩ := h.2 i hi
  obtain ⟨b1, b2, b3, b4, b5, b6, b7, b8, b9, b10, b11, b12⟩ := h.2 j hj
  have e : born i - 1 = nI (B i - 1) := by rw [a2]; exact nI_sub (i := 1) (by omega)
  rw [e, nI_ltI (by omega) (by omega)]
  omega
end
