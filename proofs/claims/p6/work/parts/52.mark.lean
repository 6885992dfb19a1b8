/-! mark. -/
section
variable {n gn : Nat} {S : Nat → Bool} {B E : Nat → Nat} {F M : Nat → Option Nat} {fem born died ly fa mo fg gh ga gf : Nat → Int32} {y : Int32}
/-- the i-th mark is there -/
def hasMark (F : Nat → Option Nat) (fg gh ga gf : Nat → Int32) (gn : Nat) (y : Int32) (p : Nat) (x3 : Int32) : Prop := ¬ x3 < 0 ∧ ∃ r, PR F fg gh ga gf gn y p = some r ∧ x3 < nI r.2.1
theorem q_mark (h : IP n S B E F M fem born died ly fa mo) (hg : IG gn gh ga gf) {fu : Nat} (hfu : 61 < fu) {p : Nat} (hp : p < n) (x3 : Int32) (hw : hasMark F fg gh ga gf gn y p x3) (row arr mrow : Nat → Int32) : ∃ a r1 r2 r3 r4 r5 r6 s1 s2, f_X10_mark fu fem born ly fa fg (nI n) gh ga gf (nI gn) row (nI p) y x3 = some (a, r1, r2, r3, r4, r5, r6) ∧ f_X11_mark fu (nI n) (nI gn) fem born died fa gh ga gf arr mrow (nI p) y x3 = some (a, 0, s1, s2) := by
  have hn := h.1
  have hh : hs n (nI p) := hs_of (by omega) hp
  obtain ⟨c0, r, hr, c1⟩ := hw
  have hle := cl_le (fun i hi j hj => fa_lt h hi hj) hp hr
  obtain ⟨row', e1, e2⟩ := find_b (y := y) (fg := fg) h hg hfu hp row
  obtain ⟨arr', row2, ha1, ha2, ha3⟩ := marksOf_q (y := y) (fg := fg) h hg hfu hp arr mrow
  unfold f_X10_mark f_X11_mark
  rw [req_1 hh, is_m1 hh, e1, root_q (y := y) (fg := fg) h hg hfu hp, ha1]
  obtain ⟨e2a, -⟩ := e2 r hr
  obtain ⟨ha3a, -⟩ := ha3 r hr
  rw [hr]
  simp only [Option.bind_some]
  have q0 : ¬ rI (some r) = -1 := ne_m1 r.1 (by omega)
  have q1 : x3 < (pv (some r) (own gh ga gf gn y)).2.2.1 := c1
  rw [if_neg i10, if_neg q0, if_neg c0, if_neg c0, if_pos q1, if_pos c1]
  obtain ⟨i, hi, rfl⟩ := nI_of c0
  rw [nI_ltI hi (by omega)] at c1
  unfold f_X5_markAt g_X5_markAt_20
  have q6 : ¬ (60 : Int32) ≤ nI i := nI_ge (b := 60) (by omega) (by decide)
  rw [if_neg c0, if_neg q6]
  simp only [inb_nI (N := 60) (n := i) (by omega) (by decide), nI_clamp (n := i) (by omega), if_true, Option.bind_some, e2a i c1, ha3a i c1]
  exact ⟨_, _, _, _, _, _, _, _, _, rfl, rfl⟩
theorem q_mark_x (h : IP n S B E F M fem born died ly fa mo) (hg : IG gn gh ga gf) {fu : Nat} (hfu : 61 < fu) (x1 x3 : Int32) (hw : ¬ ∃ p, p < n ∧ x1 = nI p ∧ hasMark F fg gh ga gf gn y p x3) (row arr mrow : Nat → Int32) (ra rr rs rg rm : Int32) : ∃ r1 r2 r3 r4 r5 r6 s1 s2, f_X10_mark_x fu fem born ly fa fg (nI n) gh ga gf (nI gn) row ra rr rs rg rm x1 y x3 = some (r1, r2, r3, r4, r5, r6) ∧ f_X11_mark fu (nI n) (nI gn) fem born died fa gh ga gf arr mrow x1 y x3 = some (0, 1, s1, s2) := by
  have hn := h.1
  unfold f_X10_mark_x f_X11_mark
  rcases Classical.em (hs n x1) with hh | hh
  · obtain ⟨p, hp, rfl⟩ := hs_nI (by omega) hh
    obtain ⟨row', e1, e2⟩ := find_b (y := y) (fg := fg) h hg hfu hp row
    obtain ⟨arr', row2, ha1, ha2, ha3⟩ := marksOf_q (y := y) (fg := fg) h hg hfu hp arr mrow
    rw [reqx_1 hh, req_1 hh, is_m1 hh, e1, root_q (y := y) (fg := fg) h hg hfu hp, ha1]
    simp only [Option.bind_some]
    rw [if_neg i10]
    by_cases c0 : x3 < 0
    · rw [if_pos c0, if_pos c0, ite_self]
      exact ⟨_, _, _, _, _, _, _, _, rfl, rfl⟩
    rw [if_neg c0, if_neg c0]
    cases hr : PR F fg gh ga gf gn y p with
    | none =>
      have q1 : ¬ x3 < (pv none (own gh ga gf gn y)).2.2.1 := fun w => c0 (Int32.lt_trans w (by decide : (-1 : Int32) < 0))
      rw [if_neg q1]
      exact ⟨_, _, _, _, _, _, _, _, rfl, rfl⟩
    | some r =>
      have hle := cl_le (fun i hi j hj => fa_lt h hi hj) hp hr
      have q0 : ¬ rI (some r) = -1 := ne_m1 r.1 (by omega)
      have c1 : ¬ x3 < nI r.2.1 := fun w => hw ⟨p, hp, rfl, c0, r, hr, w⟩
      have q1 : ¬ x3 < (pv (some r) (own gh ga gf gn y)).2.2.1 := c1
      rw [if_neg q1, if_neg q0, if_neg c1]
      exact ⟨_, _, _, _, _, _, _, _, rfl, rfl⟩
  · rw [reqx_0 hh, is_m0 hh]
    exact ⟨_, _, _, _, _, _, _, _, rfl, rfl⟩
end
