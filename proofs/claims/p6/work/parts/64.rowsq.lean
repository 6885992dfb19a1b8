/-! Quarters: the model's inner loops; who brings them. -/
section
variable {q f x : Nat} {m : List Int32} {ll : Nat → Int32} {P G : Int32} {fem born died fa mo gh ga gf : Nat → Int32} {x1 x2 : Int32} {k2 : Int32 → Int32 → Int32 → (Nat → Int32) → (Nat → Int32) → (Nat → Int32) → Option (Int32 × (Nat → Int32) × (Nat → Int32) × (Nat → Int32))}
theorem row_25 (hq : q < 60) (hf : f < 60) (hfq : f ≠ q) {fu : Nat} (hfu : 61 < fu) : ∀ k t r s l, HR r s q l → HR r s f m → t ≤ m.length → m.length - t < k → ∃ r' s', f_X11_quartersOf_25 fu P G fem born died fa mo gh ga gf k2 k (x1, x2, nI q, nI f, nI t, ll, s, r) = g_X11_quartersOf_67 fu P G fem born died fa mo gh ga gf ll s' r' k2 x1 x2 (nI q) ∧ HR r' s' q ((m.drop t).foldl pA l) ∧ FRM q r s r' s' := by
  intro k
  induction k with
  | zero => intro t r s l _ _ _ h0; omega
  | succ k ih =>
    intro t r s l h hm ht hk
    have h12 := hm.1
    show ∃ r' s', g_X11_quartersOf_25 fu P G fem born died fa mo gh ga gf ll s r k2 (fun a b c d e g h i => f_X11_quartersOf_25 fu P G fem born died fa mo gh ga gf k2 k (a, b, c, d, e, g, h, i)) x1 x2 (nI q) (nI f) (nI t) = _ ∧ _
    unfold g_X11_quartersOf_25
    rw [if_neg (ne_m1 f (by omega)), if_pos (inb_nI hf (by decide)), nI_clamp (by omega : f < 2 ^ 31), hm.2.1]
    rcases Nat.lt_or_ge t m.length with c | c
    · rw [if_neg (nI_ge c (by omega)), m12', nI_add, nI_1, if_pos (inb_nI (N := 720) (by omega) (by decide)), nI_clamp (by omega), hm.2.2.2 t c]
      obtain ⟨r1, s1, e1, g1, f1⟩ := put_m h hq (hr_ne hm c) hfu
      rw [e1, drop_at c]
      simp only [Option.bind_some, List.foldl_cons]
      obtain ⟨r2, s2, e2, g2, f2⟩ := ih (t + 1) r1 s1 _ g1 (hr_fr hm f1 hfq) c (by omega)
      exact ⟨r2, s2, e2, g2, frm_tr f1 f2⟩
    · have e : t = m.length := by omega
      subst e
      rw [if_pos (nI_le (Nat.le_refl _) (by omega)), List.drop_length]
      exact ⟨r, s, rfl, h, frm_rf⟩
theorem row_118 (hq : q < 60) (hf : f < 60) (hfq : f ≠ q) {fu : Nat} (hfu : 61 < fu) : ∀ k t r s l, HR r s q l → HR r s f m → t ≤ m.length → m.length - t < k → ∃ r' s', f_X11_quartersOf_118 fu k2 k (x1, x2, nI q, nI f, nI t, ll, s, r) = k2 x1 x2 (nI (q + 1)) ll s' r' ∧ HR r' s' q ((m.drop t).foldl pA l) ∧ FRM q r s r' s' := by
  intro k
  induction k with
  | zero => intro t r s l _ _ _ h0; omega
  | succ k ih =>
    intro t r s l h hm ht hk
    have h12 := hm.1
    show ∃ r' s', g_X11_quartersOf_118 fu ll s r k2 (fun a b c d e g h i => f_X11_quartersOf_118 fu k2 k (a, b, c, d, e, g, h, i)) x1 x2 (nI q) (nI f) (nI t) = _ ∧ _
    unfold g_X11_quartersOf_118 g_X11_quartersOf_154
    rw [if_pos (inb_nI hf (by decide)), nI_clamp (by omega : f < 2 ^ 31), hm.2.1]
    rcases Nat.lt_or_ge t m.length with c | c
    · rw [if_neg (nI_ge c (by omega)), m12', nI_add, nI_1 t, if_pos (inb_nI (N := 720) (by omega) (by decide)), nI_clamp (by omega), hm.2.2.2 t c]
      obtain ⟨r1, s1, e1, g1, f1⟩ := put_m h hq (hr_ne hm c) hfu
      rw [e1, drop_at c]
      simp only [Option.bind_some, List.foldl_cons]
      obtain ⟨r2, s2, e2, g2, f2⟩ := ih (t + 1) r1 s1 _ g1 (hr_fr hm f1 hfq) c (by omega)
      exact ⟨r2, s2, e2, g2, frm_tr f1 f2⟩
    · have e : t = m.length := by omega
      subst e
      rw [if_pos (nI_le (Nat.le_refl _) (by omega)), List.drop_length, nI_1]
      exact ⟨r, s, rfl, h, frm_rf⟩
end
section
variable {n : Nat} {S : Nat → Bool} {B E : Nat → Nat} {F M : Nat → Option Nat} {fem born died ly fa mo : Nat → Int32} {y : Int32}
def brg (n : Nat) (S : Nat → Bool) (B E : Nat → Nat) (F : Nat → Option Nat) (y : Int32) (p : Nat) : Prop := hrs n S B E F y p ∨ (nI (E p) ≤ y ∧ hrs n S B E F (nI (E p)) p)
theorem isB_bI (b : Bool) : isB (bI b) = true := by cases b <;> rfl
theorem brings_b (h : IP n S B E F M fem born died ly fa mo) {p : Nat} (hp : p < n) {x : Int64} (hx : ∀ i, i < 64 → (b6 x i = true ↔ i < n ∧ LL n S F (lvb B E y) i = true)) {fu : Nat} (hfu : 61 < fu) : f_X4_bringsQuarters fu fem born ly fa (nI n) (nI p) y x = some (bI (dc (brg n S B E F y p))) := by
  have hn := h.1
  have hl : ly p = nI (E p) := (h.2 p hp).2.2.2.2.2.2.1
  unfold f_X4_bringsQuarters g_X4_bringsQuarters_30
  rw [heir_b h hp hx (by omega)]
  simp only [Option.bind_some]
  by_cases c1 : hrs n S B E F y p
  · rw [dc_t c1, if_neg (by decide), dc_t (show brg n S B E F y p from Or.inl c1)]
    rfl
  · rw [dc_f c1, if_pos (by decide), has_b1 (hs_of (by omega) hp)]
    simp only [Option.bind_some]
    rw [if_neg i10, if_pos (inb_nI (N := 60) (by omega) (by decide)), nI_clamp (by omega), hl]
    by_cases c2 : nI (E p) ≤ y
    · rw [if_pos c2, if_pos (inb_nI (N := 60) (by omega) (by decide))]
      obtain ⟨x2, e2, hx2⟩ := q_lines_b (y := nI (E p)) h (fu := fu) (by omega)
      rw [e2]
      simp only [Option.bind_some]
      rw [heir_b h hp hx2 (by omega)]
      simp only [Option.bind_some]
      rw [if_pos (isB_bI _)]
      have e : (hrs n S B E F (nI (E p)) p) ↔ brg n S B E F y p := ⟨fun w => Or.inr ⟨c2, w⟩, fun w => by
        rcases w with w | w
        · exact absurd w c1
        · exact w.2⟩
      rw [dc_congr e]
    · rw [if_neg c2, dc_f (fun w : brg n S B E F y p => by
        rcases w with w | w
        · exact c1 w
        · exact c2 w.1)]
      rfl
theorem brings_m (h : IP n S B E F M fem born died ly fa mo) {p : Nat} (hp : p < n) {fu : Nat} (hfu : 61 < fu) (arr : Nat → Int32) : ∃ arr', f_X11_brings fu (nI n) fem born died fa arr (nI p) y = some (bI (dc (brg n S B E F y p)), arr') := by
  have hn := h.1
  unfold f_X11_brings g_X11_brings_31 g_X11_brings_35 g_X11_brings_36
  obtain ⟨a1, e1⟩ := heir_m (y := y) h hp (fu := fu) (by omega) arr
  rw [e1]
  simp only [Option.bind_some]
  by_cases c1 : hrs n S B E F y p
  · rw [dc_t c1, if_neg (by decide), dc_t (show brg n S B E F y p from Or.inl c1)]
    exact ⟨a1, rfl⟩
  · rw [dc_f c1, if_pos (by decide), end_m h hp]
    simp only [Option.bind_some]
    by_cases c2 : nI (E p) ≤ y
    · rw [if_neg (Int32.not_lt.mpr c2)]
      obtain ⟨a2, e2⟩ := heir_m (y := nI (E p)) h hp (fu := fu) (by omega) a1
      rw [e2]
      simp only [Option.bind_some]
      have e : (hrs n S B E F (nI (E p)) p) ↔ brg n S B E F y p := ⟨fun w => Or.inr ⟨c2, w⟩, fun w => by
        rcases w with w | w
        · exact absurd w c1
        · exact w.2⟩
      rw [← dc_congr e]
      cases dc (hrs n S B E F (nI (E p)) p)
      · exact ⟨a2, rfl⟩
      · exact ⟨a2, rfl⟩
    · rw [if_pos (Int32.not_le.mp c2), dc_f (fun w : brg n S B E F y p => by
        rcases w with w | w
        · exact c1 w
        · exact c2 w.1)]
      exact ⟨a1, rfl⟩
end
