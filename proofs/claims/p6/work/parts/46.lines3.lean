/-! Lines that live: the book's set. -/
section
variable {n : Nat} {S : Nat → Bool} {B E : Nat → Nat} {F M : Nat → Option Nat} {fem born died ly fa mo : Nat → Int32} {y : Int32}
/-- what stands in the set when those from m on are worked through -/
def part (n : Nat) (F : Nat → Option Nat) (L : Nat → Bool) (m : Nat) (x : Int64) : Prop := ∀ i, i < 64 → (b6 x i = true ↔ (m ≤ i ∧ i < n ∧ L i = true) ∨ (i < m ∧ ∃ c, m ≤ c ∧ c < n ∧ F c = some i ∧ L c = true))
theorem set_b (h : IP n S B E F M fem born died ly fa mo) : ∀ kf m x, m ≤ n → m < kf → part n F (LL n S F (lvb B E y)) m x → ∃ x', f_X4_livingLines_10 fem born ly fa (nI n) kf (y, x, nI m - 1) = some x' ∧ part n F (LL n S F (lvb B E y)) 0 x' := by
  have hn := h.1
  intro kf
  induction kf with
  | zero => intro m x _ h0; omega
  | succ kf ih =>
    intro m x hm hk hx
    show ∃ x', g_X4_livingLines_10 fem born ly fa (nI n) (fun a b c => f_X4_livingLines_10 fem born ly fa (nI n) kf (a, b, c)) y x (nI m - 1) = some x' ∧ _
    cases m with
    | zero =>
      unfold g_X4_livingLines_10
      rw [if_pos (by decide)]
      exact ⟨x, rfl, hx⟩
    | succ p =>
      rw [nI_pred]
      have hp : p < n := by omega
      have e : nI p + (-1) = nI p - 1 := (Int32.sub_eq_add_neg _ _).symm
      -- behind the first half: the bit of p is right
      have half : ∀ x1 : Int64, (∀ i, i < 64 → (b6 x1 i = true ↔ (p ≤ i ∧ i < n ∧ LL n S F (lvb B E y) i = true) ∨ (i < p ∧ ∃ c, p + 1 ≤ c ∧ c < n ∧ F c = some i ∧ LL n S F (lvb B E y) c = true))) → ∃ x', g_X4_livingLines_42 fa (fun a b c => f_X4_livingLines_10 fem born ly fa (nI n) kf (a, b, c)) y x1 (nI p) = some x' ∧ part n F (LL n S F (lvb B E y)) 0 x' := by
        intro x1 h1
        unfold g_X4_livingLines_42 g_X4_livingLines_74
        rw [isIn_b (by omega : p < 64)]
        simp only [Option.bind_some, inb_nI (N := 60) (n := p) (by omega) (by decide), nI_clamp (n := p) (by omega), if_true]
        rw [e, fa_eq h hp]
        have hb : b6 x1 p = true ↔ LL n S F (lvb B E y) p = true := by
          rw [h1 p (by omega)]
          exact ⟨fun w => by rcases w with a | a; exact a.2.2; omega, fun w => Or.inl ⟨Nat.le_refl _, hp, w⟩⟩
        by_cases c1 : bI (b6 x1 p) = 0
        · rw [if_pos c1]
          rw [bI_0] at c1
          refine ih p x1 (by omega) (by omega) (fun i hi => (h1 i hi).trans ⟨?_, ?_⟩)
          · rintro (a | ⟨a, c, a1, a2, a3, a4⟩)
            · exact Or.inl a
            · exact Or.inr ⟨a, c, by omega, a2, a3, a4⟩
          · rintro (a | ⟨a, c, a1, a2, a3, a4⟩)
            · exact Or.inl a
            · rcases Nat.lt_or_ge p c with w | w
              · exact Or.inr ⟨a, c, w, a2, a3, a4⟩
              · have e2 : c = p := by omega
                subst e2
                rw [hb.mpr a4] at c1
                cases c1
        · rw [if_neg c1]
          have c2 := hb.mp (bI_ne.mp c1)
          cases hf : F p with
          | none =>
            rw [oI_none, if_pos rfl]
            refine ih p x1 (by omega) (by omega) (fun i hi => (h1 i hi).trans ⟨?_, ?_⟩)
            · rintro (a | ⟨a, c, a1, a2, a3, a4⟩)
              · exact Or.inl a
              · exact Or.inr ⟨a, c, by omega, a2, a3, a4⟩
            · rintro (a | ⟨a, c, a1, a2, a3, a4⟩)
              · exact Or.inl a
              · rcases Nat.lt_or_ge p c with w | w
                · exact Or.inr ⟨a, c, w, a2, a3, a4⟩
                · have e2 : c = p := by omega
                  subst e2
                  rw [hf] at a3
                  cases a3
          | some j =>
            have hj := fa_lt h hp hf
            rw [oI_some, if_neg (ne_m1 j (by omega))]
            refine ih p _ (by omega) (by omega) (fun i hi => ?_)
            rw [b6_set x1 (by omega : j < 64), h1 i hi]
            constructor
            · rintro ((a | ⟨a, c, a1, a2, a3, a4⟩) | a)
              · exact Or.inl a
              · exact Or.inr ⟨a, c, by omega, a2, a3, a4⟩
              · subst a
                exact Or.inr ⟨hj, p, Nat.le_refl _, hp, hf, c2⟩
            · rintro (a | ⟨a, c, a1, a2, a3, a4⟩)
              · exact Or.inl (Or.inl a)
              · rcases Nat.lt_or_ge p c with w | w
                · exact Or.inl (Or.inr ⟨a, c, w, a2, a3, a4⟩)
                · have e2 : c = p := by omega
                  subst e2
                  rw [hf] at a3
                  cases a3
                  exact Or.inr rfl
      have hl := LL_iff (n := n) (S := S) (F := F) (lv := lvb B E y) hp
      unfold g_X4_livingLines_10
      rw [if_neg (nI_pos (by omega)), living_b h hp]
      simp only [Option.bind_some, inb_nI (N := 60) (n := p) (by omega) (by decide), nI_clamp (n := p) (by omega), if_true]
      -- the set as it stands, if p isn't put in: p's line lives just by a child
      have keep : ¬ (S p = false ∧ lvb B E y p = true) → ∀ i, i < 64 → (b6 x i = true ↔ (p ≤ i ∧ i < n ∧ LL n S F (lvb B E y) i = true) ∨ (i < p ∧ ∃ c, p + 1 ≤ c ∧ c < n ∧ F c = some i ∧ LL n S F (lvb B E y) c = true)) := by
        intro hno i hi
        rw [hx i hi]
        constructor
        · rintro (a | ⟨a, c, a1, a2, a3, a4⟩)
          · exact Or.inl ⟨by omega, a.2.1, a.2.2⟩
          · rcases Nat.lt_or_ge i p with w | w
            · exact Or.inr ⟨w, c, a1, a2, a3, a4⟩
            · have e2 : i = p := by omega
              subst e2
              have hs := ((h.2 c a2).2.2.2.2.2.2.2.2.2.2.1 i a3).2.1
              exact Or.inl ⟨Nat.le_refl _, hp, hl.mpr ⟨hs, Or.inr ⟨c, by omega, a2, a3, a4⟩⟩⟩
        · rintro (a | ⟨a, c, a1, a2, a3, a4⟩)
          · rcases Nat.lt_or_ge p i with w | w
            · exact Or.inl ⟨w, a.2.1, a.2.2⟩
            · have e2 : i = p := by omega
              subst e2
              obtain ⟨s1, s2 | ⟨c, s2, s3, s4, s5⟩⟩ := hl.mp a.2.2
              · exact absurd ⟨s1, s2⟩ hno
              · exact Or.inr ⟨by omega, c, s2, s3, s4, s5⟩
          · exact Or.inr ⟨by omega, c, a1, a2, a3, a4⟩
      by_cases c1 : fem p = 0
      · rw [if_pos c1]
        have c1' := (fem_0 h hp).mp c1
        by_cases c2 : bI (lvb B E y p) = 0
        · rw [if_pos c2]
          rw [bI_0] at c2
          exact half x (keep fun w => by rw [w.2] at c2; cases c2)
        · rw [if_neg c2]
          have c2' := bI_ne.mp c2
          refine half _ (fun i hi => ?_)
          rw [b6_set x (by omega : p < 64), hx i hi]
          constructor
          · rintro ((a | ⟨a, c, a1, a2, a3, a4⟩) | a)
            · exact Or.inl ⟨by omega, a.2.1, a.2.2⟩
            · rcases Nat.lt_or_ge i p with w | w
              · exact Or.inr ⟨w, c, a1, a2, a3, a4⟩
              · have e2 : i = p := by omega
                subst e2
                exact Or.inl ⟨Nat.le_refl _, hp, hl.mpr ⟨c1', Or.inl c2'⟩⟩
            · subst a
              exact Or.inl ⟨Nat.le_refl _, hp, hl.mpr ⟨c1', Or.inl c2'⟩⟩
          · rintro (a | ⟨a, c, a1, a2, a3, a4⟩)
            · rcases Nat.lt_or_ge p i with w | w
              · exact Or.inl (Or.inl ⟨w, a.2.1, a.2.2⟩)
              · exact Or.inr (by omega)
            · exact Or.inl (Or.inr ⟨by omega, c, a1, a2, a3, a4⟩)
      · rw [if_neg c1]
        exact half x (keep fun w => c1 ((fem_0 h hp).mpr w.1))
theorem q_lines_b (h : IP n S B E F M fem born died ly fa mo) {fu : Nat} (hfu : 60 < fu) : ∃ x, f_X4_livingLines fu fem born ly fa (nI n) y = some x ∧ ∀ i, i < 64 → (b6 x i = true ↔ i < n ∧ LL n S F (lvb B E y) i = true) := by
  have hn := h.1
  obtain ⟨x, h1, h2⟩ := set_b (y := y) h fu n 0 (Nat.le_refl _) (by omega) (fun i hi => by
    rw [b6_0]
    refine ⟨fun q => (by cases q), ?_⟩
    rintro (a | ⟨a, c, a1, a2, -⟩)
    · omega
    · omega)
  refine ⟨x, h1, fun i hi => (h2 i hi).trans ⟨?_, ?_⟩⟩
  · rintro (a | ⟨a, -⟩)
    · exact a.2
    · omega
  · exact fun a => Or.inl ⟨Nat.zero_le _, a⟩
end
