/-! Going up to the root. -/
def cl (F : Nat → Option Nat) (ar : Nat → Int32) (fg : Nat → Int32) : Nat → Nat → Nat → Int32 → Option (Nat × Nat × Int32)
  | 0, _, _, _ => none
  | k + 1, i, u, g => if ar i = -1 then (match F i with
      | none => none
      | some j => cl F ar fg k j (u + 1) (min32 g (fg i))) else some (i, u, g)
def rI (o : Option (Nat × Nat × Int32)) : Int32 := match o with
  | none => -1
  | some r => nI r.1
theorem cl_root {F : Nat → Option Nat} {ar fg : Nat → Int32} {k i u : Nat} {g : Int32} (h : ¬ ar i = -1) : cl F ar fg (k + 1) i u g = some (i, u, g) := by
  rw [cl, if_neg h]
theorem cl_none {F : Nat → Option Nat} {ar fg : Nat → Int32} {k i u : Nat} {g : Int32} (h : ar i = -1) (hF : F i = none) : cl F ar fg (k + 1) i u g = none := by
  rw [cl, if_pos h, hF]
theorem cl_some {F : Nat → Option Nat} {ar fg : Nat → Int32} {k i j u : Nat} {g : Int32} (h : ar i = -1) (hF : F i = some j) : cl F ar fg (k + 1) i u g = cl F ar fg k j (u + 1) (min32 g (fg i)) := by
  rw [cl, if_pos h, hF]
theorem cl_le {F : Nat → Option Nat} {ar fg : Nat → Int32} {n : Nat} (hF : ∀ i, i < n → ∀ j, F i = some j → j < i) : ∀ {k i u : Nat} {g : Int32} {r : Nat × Nat × Int32}, i < n → cl F ar fg k i u g = some r → r.1 ≤ i ∧ u ≤ r.2.1 ∧ r.2.1 + r.1 ≤ i + u ∧ ¬ ar r.1 = -1 := by
  intro k
  induction k with
  | zero => intro i u g r _ h; cases h
  | succ k ih =>
    intro i u g r hi h
    by_cases c : ar i = -1
    · cases hf : F i with
      | none => rw [cl_none c hf] at h; cases h
      | some j =>
        rw [cl_some c hf] at h
        have hj := hF i hi j hf
        obtain ⟨a, b, c, d⟩ := ih (by omega) h
        exact ⟨by omega, by omega, by omega, d⟩
    · rw [cl_root c] at h
      cases h
      exact ⟨Nat.le_refl _, Nat.le_refl _, by show u + i ≤ i + u; omega, c⟩
section
variable {n gn : Nat} {S : Nat → Bool} {B E : Nat → Nat} {F M : Nat → Option Nat} {fem born died ly fa mo fg mg gh ga gf : Nat → Int32} {y : Int32}
def own (gh ga gf : Nat → Int32) (gn : Nat) (y : Int32) (i : Nat) : Int32 := aw gh ga gf (nI i) y gn
theorem fa_b (h : IP n S B E F M fem born died ly fa mo) {i : Nat} (hi : i < n) : f_X4_fatherOf fa (nI n) (nI i) = some (oI (F i)) := by
  have hn := h.1
  have a9 := (h.2 i hi).2.2.2.2.2.2.2.2.1
  unfold f_X4_fatherOf g_X4_fatherOf_18
  rw [has_b1 (hs_of (by omega) hi)]
  simp only [Option.bind_some, inb_nI (N := 60) (n := i) (by omega) (by decide), nI_clamp (n := i) (by omega), if_true]
  rw [if_neg i10, a9]
theorem fg_b (h : IP n S B E F M fem born died ly fa mo) {i : Nat} (hi : i < n) : f_X4_fatherGradeOf fg (nI n) (nI i) = some (fg i) := by
  have hn := h.1
  unfold f_X4_fatherGradeOf g_X4_fatherGradeOf_18
  rw [has_b1 (hs_of (by omega) hi)]
  simp only [Option.bind_some, inb_nI (N := 60) (n := i) (by omega) (by decide), nI_clamp (n := i) (by omega), if_true]
  rw [if_neg i10]
theorem fa_lt (h : IP n S B E F M fem born died ly fa mo) {i j : Nat} (hi : i < n) (hf : F i = some j) : j < i := ((h.2 i hi).2.2.2.2.2.2.2.2.2.2.1 j hf).1
theorem fa_eq (h : IP n S B E F M fem born died ly fa mo) {i : Nat} (hi : i < n) : fa i = oI (F i) := (h.2 i hi).2.2.2.2.2.2.2.2.1
/-- the model's root -/
theorem root_m (h : IP n S B E F M fem born died ly fa mo) (hg : IG gn gh ga gf) {fu : Nat} (hfu : 40 < fu) : ∀ kf i k u g, i < n → i + 1 < kf → i < k → f_X11_rootOf_2 fu (nI gn) fa gh ga gf kf (y, nI i) = some (rI (cl F (own gh ga gf gn y) fg k i u g)) := by
  have hn := h.1
  intro kf
  induction kf with
  | zero => intro i k u g _ h0; omega
  | succ kf ih =>
    intro i k u g hi hk hk2
    obtain ⟨k, rfl⟩ : ∃ k', k = k' + 1 := ⟨k - 1, by omega⟩
    show g_X11_rootOf_2 fu (nI gn) fa gh ga gf (fun a b => f_X11_rootOf_2 fu (nI gn) fa gh ga gf kf (a, b)) y (nI i) = _
    unfold g_X11_rootOf_2 g_X11_rootOf_27
    rw [if_neg (ne_m1 i (by omega)), q_own_m hg hfu]
    simp only [Option.bind_some, inb_nI (N := 60) (n := i) (by omega) (by decide), nI_clamp (n := i) (by omega), if_true]
    by_cases c : own gh ga gf gn y i = -1
    · have c' : aw gh ga gf (nI i) y gn = -1 := c
      rw [if_pos c', fa_eq h hi]
      cases hf : F i with
      | none =>
        rw [cl_none c hf]
        obtain ⟨kf, rfl⟩ : ∃ k', kf = k' + 1 := ⟨kf - 1, by omega⟩
        rfl
      | some j =>
        rw [cl_some c hf]
        have hj := fa_lt h hi hf
        exact ih j k (u + 1) _ (by omega) (by omega) (by omega)
    · have c' : ¬ aw gh ga gf (nI i) y gn = -1 := c
      rw [if_neg c', cl_root c]
      rfl
theorem steps_m (h : IP n S B E F M fem born died ly fa mo) {ar : Nat → Int32} : ∀ kf i k u g r, i < n → i < kf → cl F ar fg k i u g = some r → f_X11_stepsOf_13 fa kf (nI r.1, nI u, nI i) = some (nI r.2.1) := by
  have hn := h.1
  intro kf
  induction kf with
  | zero => intro i k u g r _ h0; omega
  | succ kf ih =>
    intro i k u g r hi hk hc
    have hle := cl_le (fun i hi j hj => fa_lt h hi hj) hi hc
    show g_X11_stepsOf_13 fa (fun a b c => f_X11_stepsOf_13 fa kf (a, b, c)) (nI r.1) (nI u) (nI i) = _
    unfold g_X11_stepsOf_13 g_X11_stepsOf_39
    rw [if_neg (ne_m1 r.1 (by omega))]
    obtain ⟨k, rfl⟩ : ∃ k', k = k' + 1 := by
      cases k with
      | zero => cases hc
      | succ k => exact ⟨k, rfl⟩
    by_cases c : ar i = -1
    · cases hf : F i with
      | none => rw [cl_none c hf] at hc; cases hc
      | some j =>
        have hj := fa_lt h hi hf
        rw [cl_some c hf] at hc
        have hle2 := cl_le (fun i hi j hj => fa_lt h hi hj) (by omega : j < n) hc
        rw [if_neg (fun q => by have := (nI_eq (by omega) (by omega)).mp q; omega), inb_nI (N := 60) (n := i) (by omega) (by decide), nI_clamp (n := i) (by omega), fa_eq h hi, hf, nI_1]
        exact ih j k (u + 1) _ r (by omega) (by omega) hc
    · rw [cl_root c] at hc
      cases hc
      rw [if_pos rfl]
theorem grade_m (h : IP n S B E F M fem born died ly fa mo) {ar : Nat → Int32} : ∀ kf i k u g r, i < n → i < kf → cl F ar fg k i u g = some r → f_X11_gradeOf_14 fa fg kf (nI r.1, g, nI i) = some r.2.2 := by
  have hn := h.1
  intro kf
  induction kf with
  | zero => intro i k u g r _ h0; omega
  | succ kf ih =>
    intro i k u g r hi hk hc
    have hle := cl_le (fun i hi j hj => fa_lt h hi hj) hi hc
    show g_X11_gradeOf_14 fa fg (fun a b c => f_X11_gradeOf_14 fa fg kf (a, b, c)) (nI r.1) g (nI i) = _
    unfold g_X11_gradeOf_14 g_X11_gradeOf_51
    rw [if_neg (ne_m1 r.1 (by omega))]
    obtain ⟨k, rfl⟩ : ∃ k', k = k' + 1 := by
      cases k with
      | zero => cases hc
      | succ k => exact ⟨k, rfl⟩
    by_cases c : ar i = -1
    · cases hf : F i with
      | none => rw [cl_none c hf] at hc; cases hc
      | some j =>
        have hj := fa_lt h hi hf
        rw [cl_some c hf] at hc
        have hle2 := cl_le (fun i hi j hj => fa_lt h hi hj) (by omega : j < n) hc
        rw [if_neg (fun q => by have := (nI_eq (by omega) (by omega)).mp q; omega), inb_nI (N := 60) (n := i) (by omega) (by decide), nI_clamp (n := i) (by omega), fa_eq h hi, hf]
        exact ih j k (u + 1) _ r (by omega) (by omega) hc
    · rw [cl_root c] at hc
      cases hc
      rw [if_pos rfl]
/-- what the book's proof holds -/
def pv (o : Option (Nat × Nat × Int32)) (ar : Nat → Int32) : Int32 × Int32 × Int32 × Int32 := match o with
  | none => (-1, -1, -1, -1)
  | some r => (ar r.1, nI r.1, nI r.2.1, r.2.2)
theorem climb_b (h : IP n S B E F M fem born died ly fa mo) (hg : IG gn gh ga gf) {fu : Nat} (hfu : 40 < fu) : ∀ kf i k u g, i < n → i + 1 < kf → i < k → i + u < 60 → f_X5_climb_10 fu fa fg (nI n) gh ga gf (nI gn) kf (y, g, nI i, nI u, -1, -1, -1, -1) = some (pv (cl F (own gh ga gf gn y) fg k i u g) (own gh ga gf gn y)) := by
  have hn := h.1
  intro kf
  induction kf with
  | zero => intro i k u g _ h0; omega
  | succ kf ih =>
    intro i k u g hi hk hk2 hu
    obtain ⟨k, rfl⟩ : ∃ k', k = k' + 1 := ⟨k - 1, by omega⟩
    show g_X5_climb_10 fu fa fg (nI n) gh ga gf (nI gn) (-1) (-1) (-1) (-1) (fun a b c d e f g' h' => f_X5_climb_10 fu fa fg (nI n) gh ga gf (nI gn) kf (a, b, c, d, e, f, g', h')) y g (nI i) (nI u) = _
    unfold g_X5_climb_10 g_X5_climb_91
    have q6 : ¬ (60 : Int32) ≤ nI u := nI_ge (b := 60) (by omega) (by decide)
    rw [if_neg q6, if_neg (ne_m1 i (by omega)), q_own_b hg hfu, fg_b h hi, fa_b h hi]
    simp only [Option.bind_some]
    rw [nI_1]
    by_cases c : own gh ga gf gn y i = -1
    · have c' : aw gh ga gf (nI i) y gn = -1 := c
      rw [if_pos c']
      cases hf : F i with
      | none =>
        rw [cl_none c hf]
        obtain ⟨kf, rfl⟩ : ∃ k', kf = k' + 1 := ⟨kf - 1, by omega⟩
        show g_X5_climb_10 fu fa fg (nI n) gh ga gf (nI gn) (-1) (-1) (-1) (-1) (fun a b c d e f g' h' => f_X5_climb_10 fu fa fg (nI n) gh ga gf (nI gn) kf (a, b, c, d, e, f, g', h')) y (min32 g (fg i)) (-1) (nI (u + 1)) = _
        unfold g_X5_climb_10 g_X5_climb_91
        by_cases q : (60 : Int32) ≤ nI (u + 1)
        · rw [if_pos q]; rfl
        · rw [if_neg q, if_pos rfl]; rfl
      | some j =>
        rw [cl_some c hf]
        have hj := fa_lt h hi hf
        exact ih j k (u + 1) _ (by omega) (by omega) (by omega) (by omega)
    · have c' : ¬ aw gh ga gf (nI i) y gn = -1 := c
      rw [if_neg c', cl_root c]
      rfl
end
