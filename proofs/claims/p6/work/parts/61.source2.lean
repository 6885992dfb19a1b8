/-! Copies: the book's source. -/
section
variable {n c : Nat} {yrs rows : Nat → Int32}
theorem s5_some {o : Option Nat} {b : Nat} (h : s5 rows c o = some b) : o = some b ∧ DF rows c b ≤ 4 := by
  cases o with
  | none => cases h
  | some a =>
    simp only [s5] at h
    split at h
    · cases h
      exact ⟨rfl, by assumption⟩
    · cases h
theorem source_b (h : IC n yrs) (hc : c < n) {fu : Nat} (hfu : 61 < fu) : ∀ k t, t ≤ n → n - t < k → f_X0_sourceOf_7 fu yrs rows (nI n) k (nI c, oI (s5 rows c (msrc yrs rows c t)), few rows c (s5 rows c (msrc yrs rows c t)), nI t) = some (oI (s5 rows c (msrc yrs rows c n))) := by
  have hn := h.1
  intro k
  induction k with
  | zero => intro t _ h0; omega
  | succ k ih =>
    intro t ht hk
    show g_X0_sourceOf_7 fu yrs rows (nI n) (fun a b d e => f_X0_sourceOf_7 fu yrs rows (nI n) k (a, b, d, e)) (nI c) (oI (s5 rows c (msrc yrs rows c t))) (few rows c (s5 rows c (msrc yrs rows c t))) (nI t) = _
    unfold g_X0_sourceOf_7 g_X0_sourceOf_51 g_X0_sourceOf_55 g_X0_sourceOf_56 g_X0_sourceOf_83
    rcases Nat.lt_or_ge t n with q | q
    · have d1 := DF_le (rows := rows) c t
      rw [if_neg (nI_ge q (by omega)), changes_q hn hc q hfu, year_b hn q, year_b hn hc, nI_1]
      simp only [Option.bind_some]
      rw [if_neg i10]
      -- the two ends
      have no : s5 rows c (msrc yrs rows c (t + 1)) = s5 rows c (msrc yrs rows c t) → f_X0_sourceOf_7 fu yrs rows (nI n) k (nI c, oI (s5 rows c (msrc yrs rows c t)), few rows c (s5 rows c (msrc yrs rows c t)), nI (t + 1)) = some (oI (s5 rows c (msrc yrs rows c n))) := fun e => by
        rw [← e]
        exact ih (t + 1) q (by omega)
      have yes : s5 rows c (msrc yrs rows c (t + 1)) = some t → f_X0_sourceOf_7 fu yrs rows (nI n) k (nI c, nI t, nI (DF rows c t), nI (t + 1)) = some (oI (s5 rows c (msrc yrs rows c n))) := fun e => by
        have := ih (t + 1) q (by omega)
        rw [e] at this
        exact this
      by_cases c1 : yrs c ≤ yrs t
      · have e0 : s5 rows c (msrc yrs rows c (t + 1)) = s5 rows c (msrc yrs rows c t) := by
          rw [ms_no fun w => absurd c1 (Int32.not_le.mpr w.1)]
        simp only [if_pos c1]
        have hyb : ∃ v, f_X0_yearOf yrs (nI n) (oI (s5 rows c (msrc yrs rows c t))) = some v := by
          cases hs : s5 rows c (msrc yrs rows c t) with
          | none => exact ⟨_, year_n⟩
          | some b => exact ⟨_, year_b hn (by have := ms_lt (s5_some hs).1; omega)⟩
        obtain ⟨v, hv⟩ := hyb
        rw [hv]
        simp only [Option.bind_some, ite_self]
        exact no e0
      · have c1' := Int32.not_le.mp c1
        simp only [if_neg c1, if_true]
        cases hs : s5 rows c (msrc yrs rows c t) with
        | none =>
          rw [hs] at no
          rw [oI_none, year_n]
          simp only [Option.bind_some]
          have hf : few rows c none = nI 4 := rfl
          rw [hf]
          -- taken just if at most 4 places differ
          have acc : DF rows c t ≤ 4 → s5 rows c (msrc yrs rows c (t + 1)) = some t := fun d4 => by
            rw [ms_yes ⟨c1', fun b w => ?_⟩]
            · simp only [s5, if_pos d4]
            · rw [w] at hs
              simp only [s5] at hs
              split at hs
              · cases hs
              · rename_i d5
                exact Or.inl (by omega)
          have rej : ¬ DF rows c t ≤ 4 → s5 rows c (msrc yrs rows c (t + 1)) = none := fun d4 => by
            rw [msrc]
            split
            · simp only [s5, if_neg d4]
            · exact hs
          by_cases a1 : nI (DF rows c t) < nI 4
          · rw [if_pos a1]
            rw [nI_ltI (by omega) (by decide)] at a1
            exact yes (acc (by omega))
          rw [if_neg a1]
          rw [nI_ltI (by omega) (by decide)] at a1
          by_cases a2 : nI (DF rows c t) = nI 4
          · rw [if_pos a2]
            rw [nI_eq (by omega) (by decide)] at a2
            obtain ⟨y, y1, y2, hy⟩ := h.2 t q
            have a3 : ¬ yrs t ≤ -1 := by
              rw [hy]
              exact fun w => nI_pos (n := y) (by omega) (Int32.lt_of_le_of_lt w (by decide))
            rw [if_neg a3]
            exact yes (acc (by omega))
          · rw [if_neg a2]
            rw [nI_eq (by omega) (by decide)] at a2
            exact no (rej (by omega))
        | some b =>
          rw [hs] at no
          obtain ⟨hb, d4⟩ := s5_some hs
          have hbt := ms_lt hb
          rw [oI_some, year_b hn (by omega : b < n)]
          simp only [Option.bind_some]
          have hf : few rows c (some b) = nI (DF rows c b) := rfl
          rw [hf]
          rw [oI_some, hf] at no
          by_cases a1 : nI (DF rows c t) < nI (DF rows c b)
          · rw [if_pos a1]
            rw [nI_ltI (by omega) (by omega)] at a1
            refine yes ?_
            rw [ms_yes ⟨c1', fun b' w => by rw [hb] at w; cases w; exact Or.inl a1⟩]
            simp only [s5]
            rw [if_pos (by omega)]
          rw [if_neg a1]
          rw [nI_ltI (by omega) (by omega)] at a1
          by_cases a2 : nI (DF rows c t) = nI (DF rows c b)
          · rw [if_pos a2]
            rw [nI_eq (by omega) (by omega)] at a2
            by_cases a3 : yrs t ≤ yrs b
            · rw [if_pos a3]
              refine no ?_
              rw [ms_no (fun w => by
                rcases w.2 b hb with v | v
                · exact a1 v
                · exact absurd a3 (Int32.not_le.mpr v.2)), hs]
            · rw [if_neg a3]
              refine yes ?_
              rw [ms_yes ⟨c1', fun b' w => by rw [hb] at w; cases w; exact Or.inr ⟨a2, Int32.not_le.mp a3⟩⟩]
              simp only [s5]
              rw [if_pos (by omega)]
          · rw [if_neg a2]
            rw [nI_eq (by omega) (by omega)] at a2
            refine no ?_
            rw [ms_no (fun w => by
              rcases w.2 b hb with v | v
              · exact a1 v
              · exact a2 v.1), hs]
    · have e : t = n := by omega
      subst e
      rw [if_pos (nI_le (Nat.le_refl _) (by omega))]
end
