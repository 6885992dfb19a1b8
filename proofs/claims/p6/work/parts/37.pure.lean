/-! The pure layer: small words, and the calls that add (copy, grant, person), fault, count. -/
theorem isB_0 : isB 0 = true := rfl
theorem isB_1 : isB 1 = true := rfl
theorem inb_nI {n N : Nat} (h : n < N) (hN : N < 2 ^ 31) : inb (nI n) N = true := by
  unfold inb
  have h1 := nI_pos (n := n) (by omega)
  have h2 := nI_clamp (n := n) (by omega)
  rw [h2]
  simp [h1, Nat.not_le.mpr h]
def yr (x : Int32) : Prop := ¬ x < 1000 ∧ ¬ 2000 < x
theorem yr_dec (x : Int32) : yr x ∨ ¬ yr x := Classical.em _
theorem year_b1 {x : Int32} (h : yr x) : f_X10_isYear x = some 1 := by
  unfold f_X10_isYear
  rw [if_neg h.1, if_neg h.2]
  rfl
theorem year_b0 {x : Int32} (h : ¬ yr x) : f_X10_isYear x = some 0 := by
  unfold f_X10_isYear
  by_cases h1 : x < 1000
  · rw [if_pos h1]; rfl
  · rw [if_neg h1, if_pos (Classical.byContradiction fun h2 => h ⟨h1, h2⟩)]; rfl
theorem year_m1 {x : Int32} (h : yr x) : f_X11_isYear x = some 1 := by
  unfold f_X11_isYear
  rw [if_neg h.1, if_neg h.2]
  rfl
theorem year_m0 {x : Int32} (h : ¬ yr x) : f_X11_isYear x = some 0 := by
  unfold f_X11_isYear
  by_cases h1 : x < 1000
  · rw [if_pos h1]; rfl
  · rw [if_neg h1, if_pos (Classical.byContradiction fun h2 => h ⟨h1, h2⟩)]; rfl
/-- a number of one of the first n -/
def hs (n : Nat) (x : Int32) : Prop := ¬ x < 0 ∧ ¬ nI n ≤ x
theorem hs_nI {n : Nat} {x : Int32} (hn : n < 2 ^ 31) (h : hs n x) : ∃ j, j < n ∧ x = nI j := by
  obtain ⟨j, hj, rfl⟩ := nI_of h.1
  refine ⟨j, ?_, rfl⟩
  rcases Nat.lt_or_ge j n with q | q
  · exact q
  · exact absurd (nI_le q hj) h.2
theorem hs_of {n j : Nat} (hn : n < 2 ^ 31) (h : j < n) : hs n (nI j) := ⟨nI_pos (by omega), nI_ge h hn⟩
theorem has_b1 {n : Nat} {x : Int32} (h : hs n x) : f_X4_has (nI n) x = some 1 := by
  unfold f_X4_has
  rw [if_neg h.1, if_neg h.2]
  rfl
theorem has_b0 {n : Nat} {x : Int32} (h : ¬ hs n x) : f_X4_has (nI n) x = some 0 := by
  unfold f_X4_has
  by_cases h1 : x < 0
  · rw [if_pos h1]; rfl
  · rw [if_neg h1, if_pos (Classical.byContradiction fun h2 => h ⟨h1, h2⟩)]; rfl
theorem is_m1 {n : Nat} {x : Int32} (h : hs n x) : f_X11_is (nI n) x = some 1 := by
  unfold f_X11_is
  rw [if_neg h.1, if_neg h.2]
  rfl
theorem is_m0 {n : Nat} {x : Int32} (h : ¬ hs n x) : f_X11_is (nI n) x = some 0 := by
  unfold f_X11_is
  by_cases h1 : x < 0
  · rw [if_pos h1]; rfl
  · rw [if_neg h1, if_pos (Classical.byContradiction fun h2 => h ⟨h1, h2⟩)]; rfl
theorem i10 : ¬ ((1 : Int32) = 0) := by decide
theorem req_1 {n : Nat} {x : Int32} (h : hs n x) : f_X10_requirePerson (nI n) x = some () := by
  unfold f_X10_requirePerson
  rw [has_b1 h, Option.bind_some, if_neg i10]
theorem req_0 {n : Nat} {x : Int32} (h : ¬ hs n x) : f_X10_requirePerson (nI n) x = none := by
  unfold f_X10_requirePerson
  rw [has_b0 h, Option.bind_some, if_pos rfl]
theorem reqx_1 {n : Nat} {x : Int32} (h : hs n x) : f_X10_requirePerson_x (nI n) x = none := by
  unfold f_X10_requirePerson_x
  rw [has_b1 h, Option.bind_some, if_neg i10]
theorem reqx_0 {n : Nat} {x : Int32} (h : ¬ hs n x) : f_X10_requirePerson_x (nI n) x = some () := by
  unfold f_X10_requirePerson_x
  rw [has_b0 h, Option.bind_some, if_pos rfl]
theorem full_b {n N : Nat} (hN : N < 2 ^ 31) (h : n < N) : ¬ nI N ≤ nI n := nI_ge h hN
theorem full_m {n N : Nat} (hN : N < 2 ^ 31) (h : n < N) : ¬ nI n = nI N := fun e => by
  have := (nI_eq (by omega) hN).mp e
  omega
theorem nI_back (n : Nat) : (nI n + 1) - 1 = nI n := by rw [nI_1, nI_pred]
theorem q_copy {cy cr : Nat → Int32} {n : Nat} (hn : n ≤ 40) (x1 x2 : Int32) : ∃ a c1 c2 z, (∃ k, k ≤ 40 ∧ z = nI k) ∧ f_X10_copy cy cr (nI n) x1 x2 = some (a, c1, c2, z) ∧ f_X11_copy (nI n) cy cr x1 x2 = some (a, 0, z, c1, c2) := by
  unfold f_X10_copy f_X0_add f_X11_copy
  rcases Nat.lt_or_ge n 40 with h | h
  · have q1 : ¬ (40 : Int32) ≤ nI n := full_b (N := 40) (by decide) h
    have q2 : ¬ nI n = (40 : Int32) := full_m (N := 40) (by decide) h
    rw [if_neg q1, if_neg q2]
    rcases yr_dec x1 with hy | hy
    · rw [year_b1 hy, year_m1 hy]
      simp only [Option.bind_some]
      rw [if_neg i10, if_neg i10, inb_nI h (by decide)]
      simp only [if_true, Option.bind_some]
      refine ⟨_, _, _, _, ⟨n + 1, h, ?_⟩, rfl, ?_⟩
      · exact nI_1 n
      · rw [nI_back]
    · rw [year_b0 hy, year_m0 hy]
      exact ⟨_, _, _, _, ⟨n, hn, rfl⟩, rfl, rfl⟩
  · have e : n = 40 := by omega
    subst e
    exact ⟨_, _, _, _, ⟨40, hn, rfl⟩, rfl, rfl⟩
theorem q_grant {gh ga gf : Nat → Int32} {n p : Nat} (hn : n ≤ 40) (x1 x2 x3 : Int32) (hp : hs p x1) : ∃ a c1 c2 c3 z, (∃ k, k ≤ 40 ∧ z = nI k) ∧ f_X10_grant (nI p) gh ga gf (nI n) x1 x2 x3 = some (a, c1, c2, c3, z) ∧ f_X11_grant (nI p) (nI n) gh ga gf x1 x2 x3 = some (a, 0, z, c1, c2, c3) := by
  unfold f_X10_grant f_X1_add f_X11_grant
  rw [req_1 hp, is_m1 hp]
  simp only [Option.bind_some]
  rw [if_neg i10]
  rcases Nat.lt_or_ge n 40 with h | h
  · have q1 : ¬ (40 : Int32) ≤ nI n := full_b (N := 40) (by decide) h
    have q2 : ¬ nI n = (40 : Int32) := full_m (N := 40) (by decide) h
    rw [if_neg q1, if_neg q2]
    by_cases h1 : x2 < 1
    · rw [if_pos h1, if_pos h1]
      exact ⟨_, _, _, _, _, ⟨n, hn, rfl⟩, rfl, rfl⟩
    rw [if_neg h1, if_neg h1]
    by_cases h2 : 99 < x2
    · rw [if_pos h2, if_pos h2]
      exact ⟨_, _, _, _, _, ⟨n, hn, rfl⟩, rfl, rfl⟩
    rw [if_neg h2, if_neg h2]
    rcases yr_dec x3 with hy | hy
    · rw [year_b1 hy, year_m1 hy]
      simp only [Option.bind_some]
      rw [if_neg i10, if_neg i10, inb_nI h (by decide)]
      simp only [if_true, Option.bind_some]
      refine ⟨_, _, _, _, _, ⟨n + 1, h, ?_⟩, rfl, ?_⟩
      · exact nI_1 n
      · rw [nI_back]
    · rw [year_b0 hy, year_m0 hy]
      exact ⟨_, _, _, _, _, ⟨n, hn, rfl⟩, rfl, rfl⟩
  · have e : n = 40 := by omega
    subst e
    exact ⟨_, _, _, _, _, ⟨40, hn, rfl⟩, rfl, rfl⟩
theorem q_grant_x {gh ga gf : Nat → Int32} {n p : Nat} (x1 x2 x3 : Int32) (hp : ¬ hs p x1) : f_X10_grant_x (nI p) gh ga gf (nI n) x1 = some (gh, ga, gf, nI n) ∧ f_X11_grant (nI p) (nI n) gh ga gf x1 x2 x3 = some (0, 1, nI n, gh, ga, gf) := by
  unfold f_X10_grant_x f_X11_grant
  rw [reqx_0 hp, is_m0 hp]
  exact ⟨rfl, rfl⟩
