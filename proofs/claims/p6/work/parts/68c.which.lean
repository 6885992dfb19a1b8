def cd (x : Nat) : Nat := if x ≤ 8 then x + 1 else x + 91
def wi (l : List Nat) : Nat := if l = wd 3 then 4 else if l = wd 4 then 5 else if l = wd 5 then 6 else if l = wd 6 then 7 else if l = wd 7 then 8 else if l = wd 8 then 9 else if l = wd 9 then 100 else if l = wd 10 then 101 else if l = wd 11 then 102 else if l = wd 12 then 103 else if l = wd 13 then 104 else if l = wd 14 then 105 else if l = wd 15 then 106 else if l = wd 16 then 107 else 3
set_option maxRecDepth 100000 in
theorem wi_W : ∀ x, x < 14 → wi (wd (x + 3)) = cd (x + 3) := by decide +kernel
theorem wi_cases (l : List Nat) : (∃ x, 3 ≤ x ∧ x ≤ 16 ∧ l = wd x ∧ wi l = cd x) ∨ (wi l = 3 ∧ ∀ x, 3 ≤ x → x ≤ 16 → l ≠ wd x) := by
  by_cases h : ∃ x, 3 ≤ x ∧ x ≤ 16 ∧ l = wd x
  · obtain ⟨x, h1, h2, rfl⟩ := h
    refine Or.inl ⟨x, h1, h2, rfl, ?_⟩
    have := wi_W (x - 3) (by omega)
    rw [show x - 3 + 3 = x by omega] at this
    exact this
  · have hn : ∀ x, 3 ≤ x → x ≤ 16 → l ≠ wd x := fun x h1 h2 e => h ⟨x, h1, h2, e⟩
    refine Or.inr ⟨?_, hn⟩
    unfold wi
    rw [if_neg (hn 3 (by decide) (by decide)), if_neg (hn 4 (by decide) (by decide)), if_neg (hn 5 (by decide) (by decide)), if_neg (hn 6 (by decide) (by decide)), if_neg (hn 7 (by decide) (by decide)), if_neg (hn 8 (by decide) (by decide)), if_neg (hn 9 (by decide) (by decide)), if_neg (hn 10 (by decide) (by decide)), if_neg (hn 11 (by decide) (by decide)), if_neg (hn 12 (by decide) (by decide)), if_neg (hn 13 (by decide) (by decide)), if_neg (hn 14 (by decide) (by decide)), if_neg (hn 15 (by decide) (by decide)), if_neg (hn 16 (by decide) (by decide))]
theorem cd_inj {x y : Nat} (h1 : x ≤ 16) (h2 : y ≤ 16) (h : cd x = cd y) : x = y := by
  unfold cd at h
  split at h <;> split at h <;> omega
theorem cd_ne {x : Nat} (h1 : 3 ≤ x) : cd x ≠ 3 := by
  unfold cd
  split <;> omega
theorem wi_iff {l : List Nat} {x : Nat} (h1 : 3 ≤ x) (h2 : x ≤ 16) : l = wd x ↔ wi l = cd x := by
  rcases wi_cases l with ⟨y, y1, y2, y3, y4⟩ | ⟨y1, y2⟩
  · constructor
    · intro e
      have := wi_W (x - 3) (by omega)
      rw [show x - 3 + 3 = x by omega] at this
      rw [e]
      exact this
    · intro e
      rw [y4] at e
      rw [y3, cd_inj y2 h2 e]
  · constructor
    · intro e
      exact absurd e (y2 x h1 h2)
    · intro e
      rw [y1] at e
      exact absurd e.symm (cd_ne h1)
set_option maxRecDepth 100000 in
theorem W_m : (∀ k, k < 8 → wd (24 + k) = wd (9 + k)) ∧ wd 32 = wd 3 ∧ wd 33 = wd 4 ∧ wd 34 = wd 5 ∧ wd 35 = wd 8 ∧ wd 36 = wd 6 ∧ wd 37 = wd 7 := by decide +kernel
