/-! bears. -/
section
variable {n gn : Nat} {S : Nat → Bool} {B E : Nat → Nat} {F M : Nat → Option Nat} {fem born died ly fa mo fg gh ga gf : Nat → Int32} {y : Int32}
theorem asInt_b (b : Bool) : f_X10_asInt (bI b) = some (bI b) := by cases b <;> rfl
theorem plain_b (a c : Int32) : f_X5_isPlain a c = some (bI (dc (¬ a = -1 ∧ c = 0))) := by
  unfold f_X5_isPlain
  by_cases c1 : a = -1
  · rw [if_pos c1, dc_f fun w => w.1 c1]; rfl
  · rw [if_neg c1]
    by_cases c2 : c = 0
    · rw [if_pos c2, dc_t (p := ¬ a = -1 ∧ c = 0) ⟨c1, c2⟩]; rfl
    · rw [if_neg c2, dc_f fun w => c2 w.2]; rfl
theorem w_ne {a b : Nat} (h : a ≠ b) (ha : a < 100) (hb : b < 100) : ¬ nI a = nI b := fun q => h ((nI_eq (by omega) (by omega)).mp q)
theorem pv_root (o : Option (Nat × Nat × Int32)) (ar : Nat → Int32) : (pv o ar).2.1 = rI o := by cases o <;> rfl
theorem q_bears (h : IP n S B E F M fem born died ly fa mo) (hg : IG gn gh ga gf) {fu : Nat} (hfu : 61 < fu) {p : Nat} (hp : p < n) (x3 : Int32) (hw : x3 = 0 ∨ x3 = 1 ∨ x3 = 2 ∨ x3 = 3 ∨ x3 = 4 ∨ x3 = 5 ∨ x3 = 6 ∨ x3 = 7) (row arr mrow : Nat → Int32) : ∃ a r1 r2 r3 r4 r5 r6 s1 s2, f_X10_bears fu fem born ly fa fg (nI n) gh ga gf (nI gn) row (nI p) y x3 = some (a, r1, r2, r3, r4, r5, r6) ∧ f_X11_bears fu (nI n) (nI gn) fem born died fa fg gh ga gf arr mrow (nI p) y x3 = some (a, 0, s1, s2) := by
  have hn := h.1
  have hh : hs n (nI p) := hs_of (by omega) hp
  obtain ⟨row', e1, e2⟩ := find_b (y := y) (fg := fg) h hg hfu hp row
  have hroot := root_q (y := y) (fg := fg) h hg hfu hp
  unfold f_X10_bears f_X11_bears
  rw [req_1 hh, is_m1 hh, e1, hroot]
  simp only [Option.bind_some]
  rw [if_neg i10]
  rcases hw with rfl | rfl | rfl | rfl | rfl | rfl | rfl | rfl
  · rw [if_pos rfl, if_pos rfl, arms_q (fg := fg) h hg hfu hp]
    exact ⟨_, _, _, _, _, _, _, _, _, rfl, rfl⟩
  · rw [if_neg (by decide), if_pos rfl, if_neg (by decide), if_pos rfl, pv_root]
    exact ⟨_, _, _, _, _, _, _, _, _, rfl, rfl⟩
  · rw [if_neg (by decide), if_neg (by decide), if_pos rfl, if_neg (by decide), if_neg (by decide), if_pos rfl, steps_q (fg := fg) h hg hfu hp]
    cases hr : PR F fg gh ga gf gn y p with
    | none => exact ⟨_, _, _, _, _, _, _, _, _, rfl, rfl⟩
    | some r =>
      have hle := cl_le (fun i hi j hj => fa_lt h hi hj) hp hr
      have q0 : ¬ rI (some r) = -1 := ne_m1 r.1 (by omega)
      rw [if_neg q0]
      exact ⟨_, _, _, _, _, _, _, _, _, rfl, rfl⟩
  · rw [if_neg (by decide), if_neg (by decide), if_neg (by decide), if_pos rfl, if_neg (by decide), if_neg (by decide), if_neg (by decide), if_pos rfl, grade_q (fg := fg) h hg hfu hp]
    cases hr : PR F fg gh ga gf gn y p with
    | none => exact ⟨_, _, _, _, _, _, _, _, _, rfl, rfl⟩
    | some r =>
      have hle := cl_le (fun i hi j hj => fa_lt h hi hj) hp hr
      have q0 : ¬ rI (some r) = -1 := ne_m1 r.1 (by omega)
      rw [if_neg q0]
      exact ⟨_, _, _, _, _, _, _, _, _, rfl, rfl⟩
  · rw [if_neg (by decide), if_neg (by decide), if_neg (by decide), if_neg (by decide), if_pos rfl, if_neg (by decide), if_neg (by decide), if_neg (by decide), if_neg (by decide), if_pos rfl, living_b h hp, lives_m h hp]
    have e3 : (decide (¬ y < nI (B p)) && decide (¬ nI (E p) < y)) = lvb B E y p := rfl
    rw [e3]
    simp only [Option.bind_some, asInt_b]
    cases lvb B E y p
    · exact ⟨_, _, _, _, _, _, _, _, _, rfl, rfl⟩
    · exact ⟨_, _, _, _, _, _, _, _, _, rfl, rfl⟩
  · rw [if_neg (by decide), if_neg (by decide), if_neg (by decide), if_neg (by decide), if_neg (by decide), if_pos rfl, if_neg (by decide), if_neg (by decide), if_neg (by decide), if_neg (by decide), if_neg (by decide), if_pos rfl]
    obtain ⟨x, hx1, hx2⟩ := q_lines_b (y := y) h (by omega : 60 < fu)
    obtain ⟨arr', ha1, ha2⟩ := q_lines_m (y := y) h (by omega : 60 < fu) arr
    rw [hx1, ha1]
    simp only [Option.bind_some, inb_nI (N := 60) (n := p) (by omega) (by decide), nI_clamp (n := p) (by omega), if_true, ha2 p hp]
    rw [isIn_b (by omega : p < 64)]
    have hb : b6 x p = LL n S F (lvb B E y) p := by
      rw [Bool.eq_iff_iff, hx2 p (by omega)]
      exact ⟨fun w => w.2, fun w => ⟨hp, w⟩⟩
    rw [hb]
    simp only [Option.bind_some, asInt_b]
    cases LL n S F (lvb B E y) p
    · exact ⟨_, _, _, _, _, _, _, _, _, rfl, rfl⟩
    · exact ⟨_, _, _, _, _, _, _, _, _, rfl, rfl⟩
  · rw [if_neg (by decide), if_neg (by decide), if_neg (by decide), if_neg (by decide), if_neg (by decide), if_neg (by decide), if_pos rfl, if_neg (by decide), if_neg (by decide), if_neg (by decide), if_neg (by decide), if_neg (by decide), if_neg (by decide), if_pos rfl]
    obtain ⟨x, hx1, hx2⟩ := q_lines_b (y := y) h (by omega : 60 < fu)
    obtain ⟨arr', ha1⟩ := heir_m (y := y) h hp (by omega : 60 < fu) arr
    rw [hx1, ha1]
    simp only [Option.bind_some]
    rw [heir_b h hp hx2 (by omega : 60 < fu)]
    simp only [Option.bind_some, asInt_b]
    cases dc (hrs n S B E F y p)
    · exact ⟨_, _, _, _, _, _, _, _, _, rfl, rfl⟩
    · exact ⟨_, _, _, _, _, _, _, _, _, rfl, rfl⟩
  · rw [if_neg (by decide), if_neg (by decide), if_neg (by decide), if_neg (by decide), if_neg (by decide), if_neg (by decide), if_neg (by decide), if_pos rfl, if_neg (by decide), if_neg (by decide), if_neg (by decide), if_neg (by decide), if_neg (by decide), if_neg (by decide), if_neg (by decide), if_pos rfl]
    obtain ⟨arr', row2, ha1, ha2⟩ := above_q (y := y) (fg := fg) h hg hfu hp arr mrow
    rw [ha1, plain_b]
    simp only [Option.bind_some, asInt_b]
    cases hr : PR F fg gh ga gf gn y p with
    | none =>
      rw [dc_f fun w => w.1 rfl]
      exact ⟨_, _, _, _, _, _, _, _, _, rfl, rfl⟩
    | some r =>
      have hle := cl_le (fun i hi j hj => fa_lt h hi hj) hp hr
      have q0 : ¬ rI (some r) = -1 := ne_m1 r.1 (by omega)
      rw [if_neg q0]
      by_cases c : nI (cnt (MK n S B E F y p r.2.1) r.2.1) = 0
      · rw [if_pos c, dc_t (p := ¬ (pv (some r) (own gh ga gf gn y)).1 = -1 ∧ nI (cnt (MK n S B E F y p r.2.1) r.2.1) = 0) ⟨hle.2.2.2, c⟩]
        exact ⟨_, _, _, _, _, _, _, _, _, rfl, rfl⟩
      · rw [if_neg c, dc_f fun w => c w.2]
        exact ⟨_, _, _, _, _, _, _, _, _, rfl, rfl⟩
theorem q_bears_x (h : IP n S B E F M fem born died ly fa mo) (hg : IG gn gh ga gf) {fu : Nat} (hfu : 61 < fu) (x1 x3 : Int32) (hw : ¬ (hs n x1 ∧ (x3 = 0 ∨ x3 = 1 ∨ x3 = 2 ∨ x3 = 3 ∨ x3 = 4 ∨ x3 = 5 ∨ x3 = 6 ∨ x3 = 7))) (row arr mrow : Nat → Int32) (ra rr rs rg rm : Int32) : ∃ r1 r2 r3 r4 r5 r6, f_X10_bears_x fu fem born ly fa fg (nI n) gh ga gf (nI gn) row ra rr rs rg rm x1 y x3 = some (r1, r2, r3, r4, r5, r6) ∧ f_X11_bears fu (nI n) (nI gn) fem born died fa fg gh ga gf arr mrow x1 y x3 = some (0, 1, arr, mrow) := by
  have hn := h.1
  unfold f_X10_bears_x f_X11_bears
  rcases Classical.em (hs n x1) with hh | hh
  · obtain ⟨p, hp, rfl⟩ := hs_nI (by omega) hh
    obtain ⟨row', e1, e2⟩ := find_b (y := y) (fg := fg) h hg hfu hp row
    rw [reqx_1 hh, req_1 hh, is_m1 hh, e1, root_q (y := y) (fg := fg) h hg hfu hp]
    have q : ∀ v : Int32, (v = 0 ∨ v = 1 ∨ v = 2 ∨ v = 3 ∨ v = 4 ∨ v = 5 ∨ v = 6 ∨ v = 7) → ¬ x3 = v := fun v hv e => hw ⟨hh, by rw [e]; exact hv⟩
    simp only [Option.bind_some]
    rw [if_neg i10]
    simp only [if_neg (q 0 (by decide)), if_neg (q 1 (by decide)), if_neg (q 2 (by decide)), if_neg (q 3 (by decide)), if_neg (q 4 (by decide)), if_neg (q 5 (by decide)), if_neg (q 6 (by decide)), if_neg (q 7 (by decide))]
    exact ⟨_, _, _, _, _, _, rfl, rfl⟩
  · rw [reqx_0 hh, is_m0 hh]
    exact ⟨_, _, _, _, _, _, rfl, rfl⟩
end
