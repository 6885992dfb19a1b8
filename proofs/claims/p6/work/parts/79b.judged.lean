section
variable {n : Nat} {S : Nat → Bool} {B E : Nat → Nat} {F M : Nat → Option Nat} {fem born died ly fa mo fg : Nat → Int32} {y : Int32} {gn : Nat} {gh ga gf : Nat → Int32} {kT : Nat} {tN : Nat → Nat} {tF : Nat → Nat → Int32} {tY ty rm rf row rk : Nat → Int32}
theorem hv_q (h : IP n S B E F M fem born died ly fa mo) (hg : IG gn gh ga gf) {fu : Nat} (hfu : 61 < fu) {p : Nat} (hp : p < n) {r : Nat × Nat × Int32} (hr : PR F fg gh ga gf gn y p = some r) : HV fu (nI n) (nI gn) fem born died fa mo fg gh ga gf (nI p) y (sel8 r.2.2 (nI r.2.1) y (nI (B p)) (bI (S p)) (nI (cnt (MK n S B E F y p r.2.1) r.2.1)) (RVv n F fg gh ga gf gn y p) (nI (QL n S B E F M gh ga gf gn y p).length)) := by
  have hn := h.1
  obtain ⟨b1, b2, b3, b4, b5, b6, b7, b8, b9, b10, b11, b12⟩ := h.2 p hp
  intro j hj ll mr qm qs
  have hin := inb_nI (N := 60) (n := p) (by omega) (by decide)
  have hcl := nI_clamp (n := p) (by omega)
  unfold f_X11_value g_X11_value_81
  rcases (show j = 0 ∨ j = 1 ∨ j = 2 ∨ j = 3 ∨ j = 4 ∨ j = 5 ∨ j = 6 ∨ j = 7 by omega) with rfl | rfl | rfl | rfl | rfl | rfl | rfl | rfl
  · rw [if_pos (by decide), grade_q h hg hfu hp, hr]
    exact ⟨_, _, _, _, rfl⟩
  · rw [if_neg (by decide), if_pos (by decide), steps_q (fg := fg) h hg hfu hp, hr]
    exact ⟨_, _, _, _, rfl⟩
  · rw [if_neg (by decide), if_neg (by decide), if_pos (by decide)]
    exact ⟨_, _, _, _, rfl⟩
  · rw [if_neg (by decide), if_neg (by decide), if_neg (by decide), if_pos (by decide), if_pos hin, hcl, b2]
    exact ⟨_, _, _, _, rfl⟩
  · rw [if_neg (by decide), if_neg (by decide), if_neg (by decide), if_neg (by decide), if_pos (by decide), if_pos hin, hcl, b1]
    show ∃ ll' mr' qm' qs', _ = some (bI (S p), ll', mr', qm', qs')
    cases S p
    · exact ⟨_, _, _, _, rfl⟩
    · exact ⟨_, _, _, _, rfl⟩
  · obtain ⟨arr', row', e1, -⟩ := above_q (fg := fg) (y := y) h hg hfu hp ll mr
    rw [if_neg (by decide), if_neg (by decide), if_neg (by decide), if_neg (by decide), if_neg (by decide), if_pos (by decide), e1, hr]
    exact ⟨_, _, _, _, rfl⟩
  · rw [if_neg (by decide), if_neg (by decide), if_neg (by decide), if_neg (by decide), if_neg (by decide), if_neg (by decide), if_pos (by decide), rivalsOf_q (fg := fg) h hg hfu hp]
    exact ⟨_, _, _, _, rfl⟩
  · obtain ⟨r', s', ll', e1, -⟩ := quarters_m (y := y) h hg hfu hp qs qm ll
    rw [if_neg (by decide), if_neg (by decide), if_neg (by decide), if_neg (by decide), if_neg (by decide), if_neg (by decide), if_neg (by decide), e1]
    exact ⟨_, _, _, _, rfl⟩
theorem judged (h : IP n S B E F M fem born died ly fa mo) (hg : IG gn gh ga gf) (hx : IX kT tN tF tY ty rm rf row rk) {fu : Nat} (hfu : 1000 < fu) {p : Nat} (hp : p < n) {r : Nat × Nat × Int32} (hr : PR F fg gh ga gf gn y p = some r) (qr qz names ops : Nat → Int32) : ∃ R : Int32 → Int32, (∃ q1 q2 nm' ops', f_X10_judge fu fem born ly fa mo (nI n) gh ga gf (nI gn) (own gh ga gf gn y r.1) (nI r.1) (nI r.2.1) r.2.2 (nI (cnt (MK n S B E F y p r.2.1) r.2.1)) (nI kT) kT tN tF tY qr qz names ops (nI p) y = some (q1, q2, nm', ops', 0, R 0, R 1, R 2)) ∧ ∀ (w : Int32) (stk : Nat → Int32) (tp : Int32) (ll mr qm qs : Nat → Int32), ∃ stk' tp' ll' mr' qm' qs', f_X11_ruled fu (nI n) (nI gn) (nI kT) fem born died fa mo fg gh ga gf ty rm rf row rk stk tp ll mr qm qs w (nI p) y = some (R w, stk', tp', ll', mr', qm', qs') := by
  have hn := h.1
  have hV := hv_q (y := y) h hg (by omega : 61 < fu) hp hr
  obtain ⟨q1, q2, e1, g1⟩ := fill_q (y := y) h hg (by omega : 61 < fu) hp qr qz
  have e2 := countRivals_q (y := y) (fg := fg) h hg (by omega : 61 < fu) hp
  rw [hr] at e2
  have e2' : f_X10_countRivals fu (nI n) gh ga gf (nI gn) (own gh ga gf gn y r.1) (nI r.1) y = some (RVv n F fg gh ga gf gn y p) := e2
  have eA : f_X10_asInt (bI (S p)) = some (bI (S p)) := by cases S p <;> decide +kernel
  have hq : q2 p = nI (QL n S B E F M gh ga gf gn y p).length := g1.2.1
  have e3 : f_X6_sizeOf q2 (nI p) = some (nI (QL n S B E F M gh ga gf gn y p).length) := by rw [← hq]; exact size_b (by omega)
  obtain ⟨R, ⟨ops', j1⟩, j2⟩ := judge_q (y := y) hx hfu hV (fun j hj => nm8_at names _ _ _ _ _ _ _ _ hj) ops
  exact ⟨R, ⟨q1, q2, _, ops', judge_bk e1 (born_b h hp) (female_b h hp) eA e2' e3 j1⟩, j2⟩
end
