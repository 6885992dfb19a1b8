/-! People: the mathematical value behind the book's and the model's rows. -/
def oI (o : Option Nat) : Int32 := match o with
  | none => -1
  | some j => nI j
def bI (b : Bool) : Int32 := if b = true then 1 else 0
def IP (n : Nat) (S : Nat → Bool) (B E : Nat → Nat) (F M : Nat → Option Nat) (fem born died ly fa mo : Nat → Int32) : Prop :=
  n ≤ 60 ∧ ∀ i, i < n → fem i = bI (S i) ∧ born i = nI (B i) ∧ 1000 ≤ B i ∧ B i ≤ 2000 ∧ B i ≤ E i ∧ E i ≤ B i + 100 ∧ ly i = nI (E i) ∧ (if died i = -1 then born i + 100 else died i) = nI (E i) ∧ fa i = oI (F i) ∧ mo i = oI (M i) ∧ (∀ j, F i = some j → j < i ∧ S j = false ∧ B j + 14 ≤ B i) ∧ (∀ j, M i = some j → j < i ∧ S j = true)
theorem yr_nI {x : Int32} (h : yr x) : ∃ i, 1000 ≤ i ∧ i ≤ 2000 ∧ x = nI i := by
  have h0 : ¬ x < 0 := fun q => h.1 (Int32.lt_trans q (by decide))
  obtain ⟨j, hj, rfl⟩ := nI_of h0
  have e1 : ¬ nI j < nI 1000 := h.1
  have e2 : ¬ nI 2000 < nI j := h.2
  rw [nI_ltI hj (by decide)] at e1
  rw [nI_ltI (by decide) hj] at e2
  exact ⟨j, by omega, by omega, rfl⟩
theorem nI_sub {i j : Nat} (h : i ≤ j) : nI j - nI i = nI (j - i) := by
  have e : nI j = nI (j - i) + nI i := by rw [nI_add]; congr 1; omega
  rw [e, Int32.add_sub_cancel]
def dieOK (b d : Int32) : Prop := d = -1 ∨ (yr d ∧ ¬ d < b ∧ ¬ 100 < d - b)
theorem die_b1 {b d : Int32} (h : dieOK b d) : f_X4_canDie b d = some 1 := by
  unfold f_X4_canDie
  rcases h with h | ⟨h1, h2, h3⟩
  · rw [if_pos h]; rfl
  · by_cases q : d = -1
    · rw [if_pos q]; rfl
    · rw [if_neg q, year_b1 h1]
      simp only [Option.bind_some]
      rw [if_neg i10, if_neg h2, if_neg h3]
      rfl
theorem die_b0 {b d : Int32} (h : ¬ dieOK b d) : f_X4_canDie b d = some 0 := by
  unfold f_X4_canDie
  have q : ¬ d = -1 := fun q => h (Or.inl q)
  rw [if_neg q]
  rcases yr_dec d with hy | hy
  · rw [year_b1 hy]
    simp only [Option.bind_some]
    rw [if_neg i10]
    by_cases h2 : d < b
    · rw [if_pos h2]; rfl
    · rw [if_neg h2]
      by_cases h3 : 100 < d - b
      · rw [if_pos h3]; rfl
      · exact absurd (Or.inr ⟨hy, h2, h3⟩) h
  · rw [year_b0 hy]
    simp only [Option.bind_some]
    rfl
theorem die_le {b d : Int32} (hb : yr b) (hd : yr d) (h : ¬ d < b) : (¬ 100 < d - b) ↔ d ≤ b + 100 := by
  obtain ⟨i, i1, i2, rfl⟩ := yr_nI hb
  obtain ⟨j, j1, j2, rfl⟩ := yr_nI hd
  rw [nI_ltI (by omega) (by omega)] at h
  rw [nI_sub (by omega)]
  have e : nI i + 100 = nI (i + 100) := nI_add i 100
  rw [e, nI_leI (by omega) (by omega)]
  have e2 : (100 < nI (j - i)) ↔ (100 < j - i) := nI_ltI (a := 100) (by decide) (by omega)
  rw [e2]
  omega
theorem person_m1 {n : Nat} {fem born died fa mo : Nat → Int32} {x1 x2 x3 : Int32} (hn : n < 60) (hy : yr x2) (hd : dieOK x2 x3) : f_X11_person (nI n) fem born died fa mo x1 x2 x3 = some (nI n, 0, nI (n + 1), upd fem n (vp_nar .boolean x1), upd born n x2, upd died n x3, upd fa n (-1), upd mo n (-1)) := by
  have hin := inb_nI (N := 60) hn (by decide)
  have hcl := nI_clamp (n := n) (by omega)
  have g : g_X11_person_48 0 (nI n) fem born died fa mo x1 x2 x3 = some (nI n, 0, nI (n + 1), upd fem n (vp_nar .boolean x1), upd born n x2, upd died n x3, upd fa n (-1), upd mo n (-1)) := by
    unfold g_X11_person_48
    rw [hin, hcl, nI_back, nI_1]
    rfl
  unfold f_X11_person
  have q : ¬ nI n = (60 : Int32) := full_m (N := 60) (by decide) hn
  rw [if_neg q, year_m1 hy]
  simp only [Option.bind_some]
  rw [if_neg i10, g]
  rcases hd with h | ⟨h1, h2, h3⟩
  · rw [if_pos h]
  · rw [year_m1 h1]
    simp only [Option.bind_some]
    rw [if_neg i10, if_neg h2, if_pos ((die_le hy h1 h2).mp h3)]
    split <;> rfl
theorem person_m0 {n : Nat} {fem born died fa mo : Nat → Int32} {x1 x2 x3 : Int32} (hn : n ≤ 60) (h : ¬ (n < 60 ∧ yr x2 ∧ dieOK x2 x3)) : f_X11_person (nI n) fem born died fa mo x1 x2 x3 = some (-1, 0, nI n, fem, born, died, fa, mo) := by
  unfold f_X11_person
  by_cases hn' : n = 60
  · subst hn'
    rfl
  have q : ¬ nI n = (60 : Int32) := full_m (N := 60) (by decide) (by omega)
  rw [if_neg q]
  rcases yr_dec x2 with hy | hy
  · rw [year_m1 hy]
    simp only [Option.bind_some]
    rw [if_neg i10]
    by_cases h3 : x3 = -1
    · exact absurd ⟨by omega, hy, Or.inl h3⟩ h
    rw [if_neg h3]
    rcases yr_dec x3 with hz | hz
    · rw [year_m1 hz]
      simp only [Option.bind_some]
      rw [if_neg i10]
      by_cases h4 : x3 < x2
      · rw [if_pos h4]; rfl
      rw [if_neg h4]
      by_cases h5 : x3 ≤ x2 + 100
      · exact absurd ⟨by omega, hy, Or.inr ⟨hz, h4, (die_le hy hz h4).mpr h5⟩⟩ h
      rw [if_neg h5]
      rfl
    · rw [year_m0 hz]
      rfl
  · rw [year_m0 hy]
    rfl
theorem person_b1 {n : Nat} {fem born died ly fa mo : Nat → Int32} {x1 x2 x3 : Int32} (hn : n < 60) (hy : yr x2) (hd : dieOK x2 x3) : f_X10_person fem born died ly fa mo (nI n) x1 x2 x3 = some (nI n, upd fem n (vp_nar .boolean x1), upd born n x2, upd died n x3, upd ly n (if x3 = -1 then x2 + 100 else x3), upd fa n (-1), upd mo n (-1), nI (n + 1)) := by
  have hin := inb_nI (N := 60) hn (by decide)
  have hcl := nI_clamp (n := n) (by omega)
  have q : ¬ (60 : Int32) ≤ nI n := full_b (N := 60) (by decide) hn
  unfold f_X10_person f_X4_add g_X4_add_75
  rw [if_neg q, year_b1 hy]
  simp only [Option.bind_some]
  rw [if_neg i10, die_b1 hd]
  simp only [Option.bind_some]
  rw [if_neg i10, hin, hcl, nI_1]
  by_cases h : x3 = -1
  · rw [if_pos h, if_pos h]; rfl
  · rw [if_neg h, if_neg h]; rfl
theorem person_b0 {n : Nat} {fem born died ly fa mo : Nat → Int32} {x1 x2 x3 : Int32} (hn : n ≤ 60) (h : ¬ (n < 60 ∧ yr x2 ∧ dieOK x2 x3)) : f_X10_person fem born died ly fa mo (nI n) x1 x2 x3 = some (-1, fem, born, died, ly, fa, mo, nI n) := by
  unfold f_X10_person f_X4_add
  by_cases hn' : n = 60
  · subst hn'
    rfl
  have q : ¬ (60 : Int32) ≤ nI n := full_b (N := 60) (by decide) (by omega)
  rw [if_neg q]
  rcases yr_dec x2 with hy | hy
  · rw [year_b1 hy]
    simp only [Option.bind_some]
    rw [if_neg i10, die_b0 (fun hd => h ⟨by omega, hy, hd⟩)]
    rfl
  · rw [year_b0 hy]
    rfl
