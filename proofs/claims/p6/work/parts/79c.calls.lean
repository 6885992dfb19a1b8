section
variable {n : Nat} {S : Nat → Bool} {B E : Nat → Nat} {F M : Nat → Option Nat} {fem born died ly fa mo fg : Nat → Int32} {y : Int32} {gn : Nat} {gh ga gf : Nat → Int32} {kT : Nat} {tN : Nat → Nat} {tF : Nat → Nat → Int32} {tY ty rm rf row rk : Nat → Int32}
theorem pr_own {k i u : Nat} {g : Int32} {ar : Nat → Int32} {r : Nat × Nat × Int32} (h : cl F ar fg k i u g = some r) : ¬ ar r.1 = -1 := by
  induction k generalizing i u g with
  | zero => cases h
  | succ k ih =>
    rw [cl] at h
    split at h
    · cases hf : F i with
      | none => rw [hf] at h; cases h
      | some j => rw [hf] at h; exact ih h
    · cases h
      assumption
theorem pr_le (h : IP n S B E F M fem born died ly fa mo) {p : Nat} (hp : p < n) {r : Nat × Nat × Int32} (hr : PR F fg gh ga gf gn y p = some r) : r.1 ≤ p ∧ r.2.1 ≤ 60 := by
  have hn := h.1
  have := cl_le (fun i hi j hj => fa_lt h hi hj) hp hr
  omega
theorem q_claim (h : IP n S B E F M fem born died ly fa mo) (hg : IG gn gh ga gf) (hx : IX kT tN tF tY ty rm rf row rk) {fu : Nat} (hfu : 1000 < fu) {p : Nat} (hp : p < n) (x2 : Int32) (rw' qr qz names ops stk ll mr qm qs : Nat → Int32) (o1 o2 o3 o4 tp : Int32) : ∃ a r1 r2 r3 r4 r5 r6 q1 q2 q3 q4 q5 q6 q7 q8 s1 s2 s3 s4 s5 s6, f_X10_claim fu fem born ly fa mo fg (nI n) gh ga gf (nI gn) (nI kT) kT tN tF tY rw' qr qz names ops o1 o2 o3 o4 (nI p) x2 y = some (a, r1, r2, r3, r4, r5, r6, q1, q2, q3, q4, q5, q6, q7, q8) ∧ f_X11_claim fu (nI n) (nI gn) (nI kT) fem born died fa mo fg gh ga gf ty rm rf row rk stk tp ll mr qm qs (nI p) x2 y = some (a, 0, s1, s2, s3, s4, s5, s6) := by
  have hn := h.1
  have hh : hs n (nI p) := hs_of (by omega) hp
  obtain ⟨row', e1, -⟩ := find_b (y := y) (fg := fg) h hg (by omega : 61 < fu) hp rw'
  have e2 := arms_q (y := y) (fg := fg) h hg (by omega : 61 < fu) hp
  unfold f_X10_claim f_X11_claim
  rw [req_1 hh, is_m1 hh]
  simp only [Option.bind_some]
  rw [if_neg i10]
  cases hr : PR F fg gh ga gf gn y p with
  | none =>
    rw [hr] at e1 e2
    have e1' : f_X5_find fu fem born ly fa fg (nI n) gh ga gf (nI gn) rw' (nI p) y = some (row', -1, -1, -1, -1, 0) := e1
    have e2' : f_X11_armsOf fu (nI gn) fa gh ga gf (nI p) y = some (-1) := e2
    rw [e1', e2']
    exact ⟨_, _, _, _, _, _, _, _, _, _, _, _, _, _, _, _, _, _, _, _, _, rfl, rfl⟩
  | some r =>
    rw [hr] at e1 e2
    have e1' : f_X5_find fu fem born ly fa fg (nI n) gh ga gf (nI gn) rw' (nI p) y = some (row', own gh ga gf gn y r.1, nI r.1, nI r.2.1, r.2.2, nI (cnt (MK n S B E F y p r.2.1) r.2.1)) := e1
    have e2' : f_X11_armsOf fu (nI gn) fa gh ga gf (nI p) y = some (own gh ga gf gn y r.1) := e2
    rw [e1', e2']
    simp only [Option.bind_some]
    have c1 : ¬ own gh ga gf gn y r.1 = -1 := pr_own hr
    rw [if_neg c1, if_neg c1]
    by_cases c2 : own gh ga gf gn y r.1 = x2
    · rw [if_pos c2, if_pos c2, living_b h hp, lives_m h hp]
      simp only [Option.bind_some]
      have hlv : (decide (¬ y < nI (B p)) && decide (¬ nI (E p) < y)) = lvb B E y p := rfl
      rw [hlv]
      cases hl : lvb B E y p
      · exact ⟨_, _, _, _, _, _, _, _, _, _, _, _, _, _, _, _, _, _, _, _, _, rfl, rfl⟩
      · rw [if_neg (by decide), if_neg (by decide)]
        obtain ⟨R, ⟨q1, q2, nm', ops', j1⟩, j2⟩ := judged (y := y) (fg := fg) h hg hx hfu hp hr qr qz names ops
        obtain ⟨stk1, tp1, ll1, mr1, qm1, qs1, m1⟩ := j2 0 stk tp ll mr qm qs
        rw [j1, m1]
        simp only [Option.bind_some]
        by_cases c3 : R 0 = 0
        · obtain ⟨arr', row2, m2, -⟩ := above_q (fg := fg) (y := y) h hg (by omega : 61 < fu) hp ll1 mr1
          rw [hr] at m2
          rw [if_pos c3, if_pos c3, m2]
          simp only [Option.bind_some]
          obtain ⟨stk2, tp2, ll2, mr2, qm2, qs2, m3⟩ := j2 1 stk1 tp1 arr' row2 qm1 qs1
          have hc : cnt (MK n S B E F y p r.2.1) r.2.1 < 2 ^ 31 := by have h1 := cnt_le (MK n S B E F y p r.2.1) r.2.1; have h2 := pr_le h hp hr; omega
          generalize hcn : cnt (MK n S B E F y p r.2.1) r.2.1 = c at hc ⊢
          have ec : (nI c ≤ (0 : Int32)) ↔ c = 0 := by
            have := nI_leI (a := c) (b := 0) hc (by decide)
            exact this.trans (by omega)
          rw [plain_b, m3]
          simp only [Option.bind_some]
          by_cases c4 : R 1 = 0
          · rw [if_pos c4, if_pos c4]
            by_cases c5 : c = 0
            · rw [if_pos (ec.mpr c5)]
              exact ⟨_, _, _, _, _, _, _, _, _, _, _, _, _, _, _, _, _, _, _, _, _, rfl, rfl⟩
            · rw [if_neg (fun w => c5 (ec.mp w))]
              exact ⟨_, _, _, _, _, _, _, _, _, _, _, _, _, _, _, _, _, _, _, _, _, rfl, rfl⟩
          · rw [if_neg c4, if_neg c4]
            by_cases c5 : c = 0
            · rw [if_pos (ec.mpr c5), dc_t (⟨c1, by rw [c5]; rfl⟩ : ¬ own gh ga gf gn y r.1 = -1 ∧ nI c = 0)]
              exact ⟨_, _, _, _, _, _, _, _, _, _, _, _, _, _, _, _, _, _, _, _, _, rfl, rfl⟩
            · rw [if_neg (fun w => c5 (ec.mp w)), dc_f (fun w : ¬ own gh ga gf gn y r.1 = -1 ∧ nI c = 0 => c5 ((nI_eq (b := 0) hc (by decide)).mp w.2))]
              exact ⟨_, _, _, _, _, _, _, _, _, _, _, _, _, _, _, _, _, _, _, _, _, rfl, rfl⟩
        · rw [if_neg c3, if_neg c3]
          exact ⟨_, _, _, _, _, _, _, _, _, _, _, _, _, _, _, _, _, _, _, _, _, rfl, rfl⟩
    · rw [if_neg c2, if_neg c2]
      exact ⟨_, _, _, _, _, _, _, _, _, _, _, _, _, _, _, _, _, _, _, _, _, rfl, rfl⟩
theorem q_fee (h : IP n S B E F M fem born died ly fa mo) (hg : IG gn gh ga gf) (hx : IX kT tN tF tY ty rm rf row rk) {fu : Nat} (hfu : 1000 < fu) {p : Nat} (hp : p < n) (rw' qr qz names ops stk ll mr qm qs : Nat → Int32) (o1 o2 o3 o4 tp : Int32) : ∃ a r1 r2 r3 r4 r5 r6 q1 q2 q3 q4 q5 q6 q7 q8 s1 s2 s3 s4 s5 s6, f_X10_fee fu fem born ly fa mo fg (nI n) gh ga gf (nI gn) (nI kT) kT tN tF tY rw' qr qz names ops o1 o2 o3 o4 (nI p) y = some (a, r1, r2, r3, r4, r5, r6, q1, q2, q3, q4, q5, q6, q7, q8) ∧ f_X11_fee fu (nI n) (nI gn) (nI kT) fem born died fa mo fg gh ga gf ty rm rf row rk stk tp ll mr qm qs (nI p) y = some (a, 0, s1, s2, s3, s4, s5, s6) := by
  have hn := h.1
  have hh : hs n (nI p) := hs_of (by omega) hp
  obtain ⟨row', e1, -⟩ := find_b (y := y) (fg := fg) h hg (by omega : 61 < fu) hp rw'
  have e2 := root_q (y := y) (fg := fg) h hg (by omega : 61 < fu) hp
  unfold f_X10_fee f_X11_fee g_X11_fee_39
  rw [req_1 hh, is_m1 hh]
  simp only [Option.bind_some]
  rw [if_neg i10]
  cases hr : PR F fg gh ga gf gn y p with
  | none =>
    rw [hr] at e1 e2
    have e1' : f_X5_find fu fem born ly fa fg (nI n) gh ga gf (nI gn) rw' (nI p) y = some (row', -1, -1, -1, -1, 0) := e1
    have e2' : f_X11_rootOf fu (nI gn) fa gh ga gf (nI p) y = some (-1) := e2
    rw [e1', e2']
    exact ⟨_, _, _, _, _, _, _, _, _, _, _, _, _, _, _, _, _, _, _, _, _, rfl, rfl⟩
  | some r =>
    rw [hr] at e1 e2
    have e1' : f_X5_find fu fem born ly fa fg (nI n) gh ga gf (nI gn) rw' (nI p) y = some (row', own gh ga gf gn y r.1, nI r.1, nI r.2.1, r.2.2, nI (cnt (MK n S B E F y p r.2.1) r.2.1)) := e1
    have e2' : f_X11_rootOf fu (nI gn) fa gh ga gf (nI p) y = some (nI r.1) := e2
    rw [e1', e2']
    simp only [Option.bind_some]
    have c1 : ¬ own gh ga gf gn y r.1 = -1 := pr_own hr
    have c0 : ¬ nI r.1 = -1 := ne_m1 r.1 (by have h2 := pr_le h hp hr; have := h.1; omega)
    rw [if_neg c1, if_neg c0]
    obtain ⟨R, ⟨q1, q2, nm', ops', j1⟩, j2⟩ := judged (y := y) (fg := fg) h hg hx hfu hp hr qr qz names ops
    obtain ⟨stk1, tp1, ll1, mr1, qm1, qs1, m1⟩ := j2 2 stk tp ll mr qm qs
    rw [j1, m1]
    exact ⟨_, _, _, _, _, _, _, _, _, _, _, _, _, _, _, _, _, _, _, _, _, rfl, rfl⟩
theorem q_claim_x {fu : Nat} (x1 x2 : Int32) (hh : ¬ hs n x1) (rw' qr qz names ops stk ll mr qm qs : Nat → Int32) (ra rr rs rg rn o1 o2 o3 o4 tp : Int32) : f_X10_claim_x (nI n) rw' ra rr rs rg rn qr qz names ops o1 o2 o3 o4 x1 = some (rw', ra, rr, rs, rg, rn, qr, qz, names, ops, o1, o2, o3, o4) ∧ f_X11_claim fu (nI n) (nI gn) (nI kT) fem born died fa mo fg gh ga gf ty rm rf row rk stk tp ll mr qm qs x1 x2 y = some (0, 1, stk, tp, ll, mr, qm, qs) := by
  unfold f_X10_claim_x f_X11_claim
  rw [reqx_0 hh, is_m0 hh]
  exact ⟨rfl, rfl⟩
theorem q_fee_x {fu : Nat} (x1 : Int32) (hh : ¬ hs n x1) (rw' qr qz names ops stk ll mr qm qs : Nat → Int32) (ra rr rs rg rn o1 o2 o3 o4 tp : Int32) : f_X10_fee_x (nI n) rw' ra rr rs rg rn qr qz names ops o1 o2 o3 o4 x1 = some (rw', ra, rr, rs, rg, rn, qr, qz, names, ops, o1, o2, o3, o4) ∧ f_X11_fee fu (nI n) (nI gn) (nI kT) fem born died fa mo fg gh ga gf ty rm rf row rk stk tp ll mr qm qs x1 y = some (0, 1, stk, tp, ll, mr, qm, qs) := by
  unfold f_X10_fee_x f_X11_fee
  rw [reqx_0 hh, is_m0 hh]
  exact ⟨rfl, rfl⟩
end
