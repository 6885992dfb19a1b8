/-! Heiresses. -/
noncomputable def dc (p : Prop) : Bool := @decide p (Classical.propDecidable p)
theorem dc_iff {p : Prop} : dc p = true ↔ p := by
  unfold dc
  exact @decide_eq_true_iff p (Classical.propDecidable p)
theorem dc_t {p : Prop} (h : p) : dc p = true := dc_iff.mpr h
theorem dc_f {p : Prop} (h : ¬ p) : dc p = false := by
  cases q : dc p
  · rfl
  · exact absurd (dc_iff.mp q) h
section
variable {n : Nat} {S : Nat → Bool} {B E : Nat → Nat} {F M : Nat → Option Nat} {fem born died ly fa mo : Nat → Int32} {y : Int32}
def noSon (n : Nat) (F : Nat → Option Nat) (L : Nat → Bool) (f : Nat) : Prop := ∀ c, c < n → F c = some f → L c = false
def hrs (n : Nat) (S : Nat → Bool) (B E : Nat → Nat) (F : Nat → Option Nat) (y : Int32) (p : Nat) : Prop := S p = true ∧ ∃ f, F p = some f ∧ nI (E f) ≤ y ∧ noSon n F (LL n S F (lvb B E y)) f
theorem sons_b (h : IP n S B E F M fem born died ly fa mo) {f : Nat} (hf : f < n) {x : Int64} {L : Nat → Bool} (hx : ∀ i, i < 64 → (b6 x i = true ↔ i < n ∧ L i = true)) : ∀ k t, t ≤ n → n - t < k → (∀ c, c < t → F c = some f → L c = false) → f_X4_isHeiress_40 fa (nI n) k (x, nI f, nI t) = some (bI (dc (noSon n F L f))) := by
  have hn := h.1
  intro k
  induction k with
  | zero => intro t _ h0; omega
  | succ k ih =>
    intro t ht hk hc
    show g_X4_isHeiress_40 fa (nI n) (fun a b c => f_X4_isHeiress_40 fa (nI n) k (a, b, c)) x (nI f) (nI t) = _
    unfold g_X4_isHeiress_40 g_X4_isHeiress_72
    rw [nI_1]
    rcases Nat.lt_or_ge t n with q | q
    · rw [if_neg (nI_ge q (by omega)), isIn_b (by omega : t < 64)]
      simp only [Option.bind_some, inb_nI (N := 60) (n := t) (by omega) (by decide), nI_clamp (n := t) (by omega), if_true]
      have hb : b6 x t = L t := by
        rw [Bool.eq_iff_iff, hx t (by omega)]
        exact ⟨fun w => w.2, fun w => ⟨q, w⟩⟩
      rw [hb]
      have go : (F t = some f → L t = false) → f_X4_isHeiress_40 fa (nI n) k (x, nI f, nI (t + 1)) = some (bI (dc (noSon n F L f))) := fun w => by
        refine ih (t + 1) q (by omega) (fun c c1 c2 => ?_)
        rcases Nat.lt_or_ge c t with v | v
        · exact hc c v c2
        · have e : c = t := by omega
          subst e
          exact w c2
      by_cases c1 : fa t = nI f
      · rw [if_pos c1]
        by_cases c2 : bI (L t) = 0
        · rw [if_pos c2]
          exact go fun _ => bI_0.mp c2
        · rw [if_neg c2, dc_f fun w => by
            have := w t q ((fa_is h q (by omega)).mp c1)
            rw [bI_ne.mp c2] at this
            cases this]
          rfl
      · rw [if_neg c1]
        exact go fun w => absurd ((fa_is h q (by omega)).mpr w) c1
    · have e : t = n := by omega
      subst e
      rw [if_pos (nI_le (Nat.le_refl _) (by omega)), dc_t (p := noSon t F L f) fun c c1 c2 => hc c c1 c2]
      rfl
theorem sons_m (h : IP n S B E F M fem born died ly fa mo) {f : Nat} (hf : f < n) {arr : Nat → Int32} (ha : ∀ c, c < n → arr c = bI (LL n S F (lvb B E y) c)) : ∀ k t, t ≤ n → n - t < k → (∀ c, c < t → F c = some f → LL n S F (lvb B E y) c = false) → f_X11_isHeiress_40 (nI n) fem born fa k (y, nI f, nI t, arr) = some (bI (dc (noSon n F (LL n S F (lvb B E y)) f)), arr) := by
  have hn := h.1
  intro k
  induction k with
  | zero => intro t _ h0; omega
  | succ k ih =>
    intro t ht hk hc
    show g_X11_isHeiress_40 (nI n) fem born fa arr (fun a b c d => f_X11_isHeiress_40 (nI n) fem born fa k (a, b, c, d)) y (nI f) (nI t) = _
    unfold g_X11_isHeiress_40 g_X11_isHeiress_93
    rw [nI_1]
    rcases Nat.lt_or_ge t n with q | q
    · rw [if_neg (nI_ge q (by omega))]
      simp only [inb_nI (N := 60) (n := t) (by omega) (by decide), nI_clamp (n := t) (by omega), if_true, ha t q]
      have go : (F t = some f → LL n S F (lvb B E y) t = false) → f_X11_isHeiress_40 (nI n) fem born fa k (y, nI f, nI (t + 1), arr) = some (bI (dc (noSon n F (LL n S F (lvb B E y)) f)), arr) := fun w => by
        refine ih (t + 1) q (by omega) (fun c c1 c2 => ?_)
        rcases Nat.lt_or_ge c t with v | v
        · exact hc c v c2
        · have e : c = t := by omega
          subst e
          exact w c2
      by_cases c1 : fa t = nI f
      · rw [if_pos c1]
        by_cases c3 : fem t = 0
        · rw [if_pos c3]
          by_cases c4 : y < born t
          · rw [if_pos c4]
            refine go fun _ => ?_
            cases hl : LL n S F (lvb B E y) t
            · rfl
            · have w2 := LL_born h n t (by omega) q hl
              rw [(h.2 t q).2.1] at c4
              exact absurd c4 w2
          rw [if_neg c4]
          by_cases c2 : bI (LL n S F (lvb B E y) t) = 0
          · rw [if_pos c2]
            exact go fun _ => bI_0.mp c2
          · rw [if_neg c2, dc_f fun w => by
              have := w t q ((fa_is h q (by omega)).mp c1)
              rw [bI_ne.mp c2] at this
              cases this]
            rfl
        · rw [if_neg c3]
          refine go fun _ => ?_
          cases hl : LL n S F (lvb B E y) t
          · rfl
          · exact absurd ((fem_0 h q).mpr ((LL_iff q).mp hl).1) c3
      · rw [if_neg c1]
        exact go fun w => absurd ((fa_is h q (by omega)).mpr w) c1
    · have e : t = n := by omega
      subst e
      rw [if_pos (nI_le (Nat.le_refl _) (by omega)), dc_t (p := noSon t F (LL t S F (lvb B E y)) f) fun c c1 c2 => hc c c1 c2]
      rfl
theorem female_b (h : IP n S B E F M fem born died ly fa mo) {i : Nat} (hi : i < n) : f_X4_isFemale fem (nI n) (nI i) = some (bI (S i)) := by
  have hn := h.1
  unfold f_X4_isFemale
  rw [has_b1 (hs_of (by omega) hi)]
  simp only [Option.bind_some, inb_nI (N := 60) (n := i) (by omega) (by decide), nI_clamp (n := i) (by omega), if_true]
  rw [if_neg i10]
  by_cases c : fem i = 0
  · rw [if_pos c, (fem_0 h hi).mp c]; rfl
  · rw [if_neg c]
    have : S i = true := by
      cases hs : S i
      · exact absurd ((fem_0 h hi).mpr hs) c
      · rfl
    rw [this]; rfl
theorem heir_b (h : IP n S B E F M fem born died ly fa mo) {p : Nat} (hp : p < n) {x : Int64} (hx : ∀ i, i < 64 → (b6 x i = true ↔ i < n ∧ LL n S F (lvb B E y) i = true)) {fu : Nat} (hfu : 60 < fu) : f_X4_isHeiress fu fem ly fa (nI n) (nI p) y x = some (bI (dc (hrs n S B E F y p))) := by
  have hn := h.1
  unfold f_X4_isHeiress
  rw [fa_b h hp, female_b h hp]
  simp only [Option.bind_some]
  by_cases c1 : bI (S p) = 0
  · rw [if_pos c1]
    rw [bI_0] at c1
    rw [dc_f fun w => by rw [w.1] at c1; cases c1]
    rfl
  rw [if_neg c1]
  have c1' := bI_ne.mp c1
  cases hf : F p with
  | none =>
    have q : ¬ hs n (-1) := fun w => w.1 (by decide)
    rw [oI_none, has_b0 q]
    simp only [Option.bind_some]
    rw [dc_f (p := hrs n S B E F y p) fun w => by obtain ⟨-, f, w2, -⟩ := w; rw [hf] at w2; cases w2]
    rfl
  | some f =>
    have hj := fa_lt h hp hf
    have hl := (h.2 f (by omega)).2.2.2.2.2.2.1
    rw [oI_some, has_b1 (hs_of (by omega) (by omega : f < n))]
    simp only [Option.bind_some, inb_nI (N := 60) (n := f) (by omega) (by decide), nI_clamp (n := f) (by omega), if_true]
    rw [if_neg i10, hl]
    by_cases c2 : nI (E f) ≤ y
    · rw [if_pos c2]
      have := sons_b h (by omega : f < n) hx fu 0 (Nat.zero_le _) (by omega) (fun c hc => by omega)
      rw [show (0 : Int32) = nI 0 from rfl, this]
      congr 2
      rw [Bool.eq_iff_iff, dc_iff, dc_iff]
      constructor
      · exact fun w => ⟨c1', f, hf, c2, w⟩
      · rintro ⟨-, f', w2, -, w4⟩
        rw [hf] at w2
        cases w2
        exact w4
    · rw [if_neg c2, dc_f fun w => by
        obtain ⟨-, f', w2, w3, -⟩ := w
        rw [hf] at w2
        cases w2
        exact c2 w3]
      rfl
theorem heir_m (h : IP n S B E F M fem born died ly fa mo) {p : Nat} (hp : p < n) {fu : Nat} (hfu : 60 < fu) (arr : Nat → Int32) : ∃ arr', f_X11_isHeiress fu (nI n) fem born died fa arr (nI p) y = some (bI (dc (hrs n S B E F y p)), arr') := by
  have hn := h.1
  unfold f_X11_isHeiress
  simp only [inb_nI (N := 60) (n := p) (by omega) (by decide), nI_clamp (n := p) (by omega), if_true]
  by_cases c1 : fem p = 0
  · rw [if_pos c1]
    rw [fem_0 h hp] at c1
    rw [dc_f fun w => by rw [w.1] at c1; cases c1]
    exact ⟨arr, rfl⟩
  rw [if_neg c1]
  have c1' : S p = true := by
    cases hs : S p
    · exact absurd ((fem_0 h hp).mpr hs) c1
    · rfl
  rw [fa_eq h hp]
  cases hf : F p with
  | none =>
    rw [oI_none, if_pos rfl, dc_f fun w => by obtain ⟨-, f, w2, -⟩ := w; rw [hf] at w2; cases w2]
    exact ⟨arr, rfl⟩
  | some f =>
    have hj := fa_lt h hp hf
    rw [oI_some, if_neg (ne_m1 f (by omega)), end_m h (by omega : f < n)]
    simp only [Option.bind_some]
    by_cases c2 : nI (E f) ≤ y
    · rw [if_pos c2]
      obtain ⟨arr', ha1, ha2⟩ := q_lines_m (y := y) h hfu arr
      rw [ha1]
      simp only [Option.bind_some]
      have := sons_m (y := y) h (by omega : f < n) ha2 fu 0 (Nat.zero_le _) (by omega) (fun c hc => by omega)
      refine ⟨arr', ?_⟩
      rw [show (0 : Int32) = nI 0 from rfl, this]
      congr 3
      rw [Bool.eq_iff_iff, dc_iff, dc_iff]
      constructor
      · exact fun w => ⟨c1', f, hf, c2, w⟩
      · rintro ⟨-, f', w2, -, w4⟩
        rw [hf] at w2
        cases w2
        exact w4
    · rw [if_neg c2, dc_f fun w => by
        obtain ⟨-, f', w2, w3, -⟩ := w
        rw [hf] at w2
        cases w2
        exact c2 w3]
      exact ⟨arr, rfl⟩
end
