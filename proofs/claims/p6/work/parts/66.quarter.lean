/-! Quarters: the call. -/
section
variable {n : Nat} {S : Nat → Bool} {B E : Nat → Nat} {F M : Nat → Option Nat} {fem born died ly fa mo : Nat → Int32} {y : Int32} {gn : Nat} {gh ga gf : Nat → Int32}
noncomputable def QL (n : Nat) (S : Nat → Bool) (B E : Nat → Nat) (F M : Nat → Option Nat) (gh ga gf : Nat → Int32) (gn : Nat) (y : Int32) (p : Nat) : List Int32 := QT F M (own gh ga gf gn y) (fun m => dc (brg n S B E F y m)) (p + 1) p
def hasQ (l : List Int32) (x : Int32) : Prop := x = -1 ∨ (¬ x < 0 ∧ x < nI l.length)
theorem q_quarter (h : IP n S B E F M fem born died ly fa mo) (hg : IG gn gh ga gf) {fu : Nat} (hfu : 61 < fu) {p : Nat} (hp : p < n) (x3 : Int32) (hw : hasQ (QL n S B E F M gh ga gf gn y p) x3) (r s ll mr ms : Nat → Int32) : ∃ a r1 r2 s1 s2 s3, f_X10_quarter fu fem born ly fa mo (nI n) gh ga gf (nI gn) r s (nI p) y x3 = some (a, r1, r2) ∧ f_X11_quarter fu (nI n) (nI gn) fem born died fa mo gh ga gf ll ms mr (nI p) y x3 = some (a, 0, s1, s2, s3) := by
  have hn := h.1
  have hh := hs_of (n := n) (by omega) hp
  obtain ⟨r1, s1, e1, g1⟩ := fill_q (y := y) h hg hfu hp r s
  obtain ⟨r2, s2, l2, e2, g2⟩ := quarters_m (y := y) h hg hfu hp mr ms ll
  have g1' : HR r1 s1 p (QL n S B E F M gh ga gf gn y p) := g1
  have g2' : HR r2 s2 p (QL n S B E F M gh ga gf gn y p) := g2
  have e2' : f_X11_quartersOf fu (nI n) (nI gn) fem born died fa mo gh ga gf ll ms mr (nI p) y = some (nI (QL n S B E F M gh ga gf gn y p).length, l2, s2, r2) := e2
  clear e2 g1 g2
  generalize QL n S B E F M gh ga gf gn y p = l at hw g1' g2' e2'
  have h12 := g1'.1
  unfold f_X10_quarter f_X11_quarter g_X11_quarter_64
  rw [req_1 hh, is_m1 hh]
  simp only [Option.bind_some]
  rw [if_neg i10, e1, e2']
  simp only [Option.bind_some]
  rw [size_b (by omega), g1'.2.1]
  simp only [Option.bind_some]
  rcases hw with rfl | ⟨c1, c2⟩
  · rw [if_pos rfl, if_pos rfl]
    exact ⟨_, _, _, _, _, _, rfl, rfl⟩
  · have c0 : ¬ x3 = -1 := fun e => c1 (by rw [e]; decide)
    obtain ⟨j, hj, rfl⟩ := nI_of c1
    have hj2 := (nI_ltI hj (by omega)).mp c2
    rw [if_neg c0, if_neg c1, if_pos c2, if_neg c0, if_neg c1, if_pos c2, at_b (by omega) (by omega), m12', nI_add, if_pos (inb_nI (N := 720) (by omega) (by decide)), nI_clamp (by omega), g1'.2.2.2 j hj2, g2'.2.2.2 j hj2]
    exact ⟨_, _, _, _, _, _, rfl, rfl⟩
theorem q_quarter_x (h : IP n S B E F M fem born died ly fa mo) (hg : IG gn gh ga gf) {fu : Nat} (hfu : 61 < fu) (x1 x3 : Int32) (hw : ¬ ∃ p, p < n ∧ x1 = nI p ∧ hasQ (QL n S B E F M gh ga gf gn y p) x3) (r s ll mr ms : Nat → Int32) : ∃ r1 r2 s1 s2 s3, f_X10_quarter_x fu fem born ly fa mo (nI n) gh ga gf (nI gn) r s x1 y x3 = some (r1, r2) ∧ f_X11_quarter fu (nI n) (nI gn) fem born died fa mo gh ga gf ll ms mr x1 y x3 = some (0, 1, s1, s2, s3) := by
  have hn := h.1
  by_cases hh : hs n x1
  · obtain ⟨p, hp, rfl⟩ := hs_nI (by omega) hh
    obtain ⟨r1, s1, e1, g1⟩ := fill_q (y := y) h hg hfu hp r s
    obtain ⟨r2, s2, l2, e2, g2⟩ := quarters_m (y := y) h hg hfu hp mr ms ll
    have hw' : ¬ hasQ (QL n S B E F M gh ga gf gn y p) x3 := fun w => hw ⟨p, hp, rfl, w⟩
    have g1' : HR r1 s1 p (QL n S B E F M gh ga gf gn y p) := g1
    have e2' : f_X11_quartersOf fu (nI n) (nI gn) fem born died fa mo gh ga gf ll ms mr (nI p) y = some (nI (QL n S B E F M gh ga gf gn y p).length, l2, s2, r2) := e2
    clear e2 g1 g2
    generalize QL n S B E F M gh ga gf gn y p = l at hw' g1' e2'
    unfold f_X10_quarter_x f_X11_quarter g_X10_quarter_x_50 g_X11_quarter_46 g_X11_quarter_64 orx
    rw [reqx_1 hh, req_1 hh, is_m1 hh]
    simp only [Option.bind_some]
    rw [if_neg i10, e1, e2']
    simp only [Option.bind_some]
    rw [size_b (by omega), g1'.2.1]
    simp only [Option.bind_some]
    have c0 : ¬ x3 = -1 := fun e => hw' (Or.inl e)
    rw [if_neg c0, if_neg c0]
    by_cases c1 : x3 < 0
    · rw [if_pos c1, if_pos c1]
      exact ⟨_, _, _, _, _, rfl, rfl⟩
    · have c2 : ¬ x3 < nI l.length := fun w => hw' (Or.inr ⟨c1, w⟩)
      rw [if_neg c1, if_neg c2, if_neg c1, if_neg c2]
      exact ⟨_, _, _, _, _, rfl, rfl⟩
  · unfold f_X10_quarter_x f_X11_quarter orx
    rw [reqx_0 hh, is_m0 hh]
    exact ⟨_, _, _, _, _, rfl, rfl⟩
end
