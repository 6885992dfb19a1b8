/-! Lines that live: the two loops. -/
section
variable {n : Nat} {S : Nat → Bool} {B E : Nat → Nat} {F M : Nat → Option Nat} {fem born died ly fa mo : Nat → Int32} {y : Int32}
theorem fem_0 (h : IP n S B E F M fem born died ly fa mo) {i : Nat} (hi : i < n) : fem i = 0 ↔ S i = false := by rw [(h.2 i hi).1, bI_0]
theorem fa_is (h : IP n S B E F M fem born died ly fa mo) {i p : Nat} (hi : i < n) (hp : p < 2 ^ 31) : fa i = nI p ↔ F i = some p := by
  rw [fa_eq h hi]
  have hn := h.1
  cases hf : F i with
  | none => exact ⟨fun q => absurd q.symm (ne_m1 p hp), fun q => by cases q⟩
  | some j =>
    have hj := fa_lt h hi hf
    rw [oI_some, nI_eq (by omega) hp]
    exact ⟨fun q => by rw [q], fun q => by cases q; rfl⟩
theorem nar_bI (b : Bool) : vp_nar .boolean (bI b) = bI b := by cases b <;> rfl
theorem bI_ne {b : Bool} : ¬ bI b = 0 ↔ b = true := by cases b <;> simp [bI]
theorem lines_in (h : IP n S B E F M fem born died ly fa mo) {p : Nat} (hp : p < n) {arr : Nat → Int32} (ha : ∀ c, p < c → c < n → arr c = bI (LL n S F (lvb B E y) c)) (k7 : Int32 → Int32 → (Nat → Int32) → Option (Nat → Int32)) : ∀ k c f f', p < c → c ≤ n → n - c < k → (f' = true ↔ f = true ∨ ∃ c', c ≤ c' ∧ c' < n ∧ F c' = some p ∧ LL n S F (lvb B E y) c' = true) → f_X11_lines_23 (nI n) fem born fa k7 k (y, nI p, bI f, nI c, arr) = k7 y (nI p + (-1)) (upd arr p (bI (!S p && f'))) := by
  have hn := h.1
  intro k
  induction k with
  | zero => intro c f f' _ _ h0; omega
  | succ k ih =>
    intro c f f' hpc hc hk hf
    show g_X11_lines_23 (nI n) fem born fa arr k7 (fun a b c d e => f_X11_lines_23 (nI n) fem born fa k7 k (a, b, c, d, e)) y (nI p) (bI f) (nI c) = _
    unfold g_X11_lines_23 g_X11_lines_76 g_X11_lines_104 g_X11_lines_105
    rw [nI_1]
    rcases Nat.lt_or_ge c n with q | q
    · rw [if_neg (nI_ge q (by omega)), inb_nI (N := 60) (n := c) (by omega) (by decide), nI_clamp (n := c) (by omega)]
      simp only [if_true]
      have no : ¬ (F c = some p ∧ LL n S F (lvb B E y) c = true) → f_X11_lines_23 (nI n) fem born fa k7 k (y, nI p, bI f, nI (c + 1), arr) = k7 y (nI p + (-1)) (upd arr p (bI (!S p && f'))) := fun hno => by
        refine ih (c + 1) f f' (by omega) q (by omega) (hf.trans ⟨?_, ?_⟩)
        · rintro (a | ⟨c', c1, c2, c3, c4⟩)
          · exact Or.inl a
          · rcases Nat.lt_or_ge c c' with w | w
            · exact Or.inr ⟨c', w, c2, c3, c4⟩
            · have e : c' = c := by omega
              subst e
              exact absurd ⟨c3, c4⟩ hno
        · rintro (a | ⟨c', c1, c2, c3, c4⟩)
          · exact Or.inl a
          · exact Or.inr ⟨c', by omega, c2, c3, c4⟩
      by_cases c1 : fa c = nI p
      · rw [if_pos c1]
        have c1' := (fa_is h q (by omega)).mp c1
        by_cases c2 : fem c = 0
        · rw [if_pos c2]
          by_cases c3 : y < born c
          · rw [if_pos c3]
            refine no fun w => ?_
            have w2 := LL_born h n c (by omega) q w.2
            rw [(h.2 c q).2.1] at c3
            exact w2 c3
          rw [if_neg c3, ha c hpc q]
          by_cases c4 : bI (LL n S F (lvb B E y) c) = 0
          · rw [if_pos c4]
            refine no fun w => ?_
            rw [w.2] at c4
            exact absurd c4 (by decide)
          · rw [if_neg c4]
            refine ih (c + 1) true f' (by omega) q (by omega) ⟨fun _ => Or.inl rfl, fun _ => hf.mpr (Or.inr ⟨c, Nat.le_refl _, q, c1', bI_ne.mp c4⟩)⟩
        · rw [if_neg c2]
          refine no fun w => c2 ?_
          rw [fem_0 h q]
          exact ((LL_iff q).mp w.2).1
      · rw [if_neg c1]
        exact no fun w => c1 ((fa_is h q (by omega)).mpr w.1)
    · have e : c = n := by omega
      subst e
      have hff : f' = f := by
        rw [Bool.eq_iff_iff, hf]
        exact ⟨fun w => by rcases w with a | ⟨c', c1, c2, -⟩; exact a; omega, Or.inl⟩
      subst hff
      rw [if_pos (nI_le (Nat.le_refl _) (by omega)), inb_nI (N := 60) (n := p) (by omega) (by decide), nI_clamp (n := p) (by omega)]
      simp only [if_true]
      by_cases c1 : bI f' = 0
      · rw [if_pos c1]
        rw [bI_0] at c1
        subst c1
        simp only [Bool.and_false]
        rfl
      · rw [if_neg c1]
        have c1' := bI_ne.mp c1
        subst c1'
        by_cases c2 : fem p = 0
        · rw [if_pos c2, (fem_0 h hp).mp c2]
          rfl
        · rw [if_neg c2]
          have c3 : S p = true := by
            cases hs : S p
            · exact absurd ((fem_0 h hp).mpr hs) c2
            · rfl
          rw [c3]
          rfl
theorem lines_m (h : IP n S B E F M fem born died ly fa mo) {fu : Nat} (hfu : 60 < fu) : ∀ kf m arr, m ≤ n → m < kf → (∀ c, m ≤ c → c < n → arr c = bI (LL n S F (lvb B E y) c)) → ∃ arr', f_X11_lines_7 fu (nI n) fem born died fa kf (y, nI m - 1, arr) = some arr' ∧ ∀ c, c < n → arr' c = bI (LL n S F (lvb B E y) c) := by
  have hn := h.1
  intro kf
  induction kf with
  | zero => intro m arr _ h0; omega
  | succ kf ih =>
    intro m arr hm hk ha
    show ∃ arr', g_X11_lines_7 fu (nI n) fem born died fa arr (fun a b c => f_X11_lines_7 fu (nI n) fem born died fa kf (a, b, c)) y (nI m - 1) = some arr' ∧ _
    unfold g_X11_lines_7
    cases m with
    | zero =>
      rw [if_pos (by decide)]
      exact ⟨arr, rfl, fun c hc => ha c (Nat.zero_le _) hc⟩
    | succ p =>
      rw [nI_pred, if_neg (nI_pos (by omega)), lives_m h (by omega : p < n)]
      simp only [Option.bind_some]
      rw [nI_1]
      have hl := LL_iff (n := n) (S := S) (F := F) (lv := lvb B E y) (q := p) (by omega)
      obtain ⟨f', hf'⟩ : ∃ f' : Bool, f' = true ↔ lvb B E y p = true ∨ ∃ c', p + 1 ≤ c' ∧ c' < n ∧ F c' = some p ∧ LL n S F (lvb B E y) c' = true := by
        rcases Classical.em (lvb B E y p = true ∨ ∃ c', p + 1 ≤ c' ∧ c' < n ∧ F c' = some p ∧ LL n S F (lvb B E y) c' = true) with w | w
        · exact ⟨true, fun _ => w, fun _ => rfl⟩
        · exact ⟨false, fun q => (by cases q), fun q => absurd q w⟩
      have key := lines_in (y := y) h (by omega : p < n) (arr := arr) (fun c c1 c2 => ha c c1 c2) (fun a b c => f_X11_lines_7 fu (nI n) fem born died fa kf (a, b, c)) fu (p + 1) (lvb B E y p) f' (by omega) hm (by omega) hf'
      rw [show bI (decide (¬ y < nI (B p)) && decide (¬ nI (E p) < y)) = bI (lvb B E y p) from rfl, key]
      have e : nI p + (-1) = nI p - 1 := (Int32.sub_eq_add_neg _ _).symm
      rw [e]
      have hb : (!S p && f') = LL n S F (lvb B E y) p := by
        rw [Bool.eq_iff_iff, hl, Bool.and_eq_true, hf', Bool.not_eq_true']
        rfl
      rw [hb]
      refine ih p _ (by omega) (by omega) (fun c c1 c2 => ?_)
      by_cases w : c = p
      · subst w; rw [upd_at]
      · rw [upd_ne _ _ w]
        exact ha c (by omega) c2
theorem q_lines_m (h : IP n S B E F M fem born died ly fa mo) {fu : Nat} (hfu : 60 < fu) (arr : Nat → Int32) : ∃ arr', f_X11_lines fu (nI n) fem born died fa arr y = some arr' ∧ ∀ c, c < n → arr' c = bI (LL n S F (lvb B E y) c) := by
  have hn := h.1
  exact lines_m h hfu fu n arr (Nat.le_refl _) (by omega) (fun c c1 c2 => by omega)
end
