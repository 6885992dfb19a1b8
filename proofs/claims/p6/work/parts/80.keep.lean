/-! What the calls that change the book keep. -/
theorem q_copy2 {cy cr : Nat → Int32} {n : Nat} (hc : IC n cy) (x1 x2 : Int32) : ∃ a c1 c2 k, IC k c1 ∧ f_X10_copy cy cr (nI n) x1 x2 = some (a, c1, c2, nI k) ∧ f_X11_copy (nI n) cy cr x1 x2 = some (a, 0, nI k, c1, c2) := by
  have hn := hc.1
  unfold f_X10_copy f_X0_add f_X11_copy
  rcases Nat.lt_or_ge n 40 with h | h
  · have q1 : ¬ (40 : Int32) ≤ nI n := full_b (N := 40) (by decide) h
    have q2 : ¬ nI n = (40 : Int32) := full_m (N := 40) (by decide) h
    rw [if_neg q1, if_neg q2]
    rcases yr_dec x1 with hy | hy
    · rw [year_b1 hy, year_m1 hy]
      simp only [Option.bind_some]
      rw [if_neg i10, if_neg i10, inb_nI h (by decide), nI_clamp (by omega), nI_back, nI_1]
      refine ⟨nI n, upd cy n x1, upd cr n x2, n + 1, ⟨h, fun i hi => ?_⟩, rfl, rfl⟩
      by_cases e : i = n
      · subst e
        rw [upd_at]
        obtain ⟨z, z1, z2, z3⟩ := yr_nI hy
        exact ⟨z, z1, z2, z3⟩
      · rw [upd_ne _ _ e]
        exact hc.2 i (by omega)
    · rw [year_b0 hy, year_m0 hy]
      exact ⟨_, _, _, _, hc, rfl, rfl⟩
  · have e : n = 40 := by omega
    subst e
    exact ⟨_, _, _, _, hc, rfl, rfl⟩
theorem arms_nI {x : Int32} (h1 : ¬ x < 1) (h2 : ¬ 99 < x) : ∃ a, 1 ≤ a ∧ a ≤ 99 ∧ x = nI a := by
  have h0 : ¬ x < 0 := fun q => h1 (Int32.lt_trans q (by decide))
  obtain ⟨j, hj, rfl⟩ := nI_of h0
  have e1 : ¬ nI j < nI 1 := h1
  have e2 : ¬ nI 99 < nI j := h2
  rw [nI_ltI hj (by decide)] at e1
  rw [nI_ltI (by decide) hj] at e2
  exact ⟨j, by omega, by omega, rfl⟩
theorem q_grant2 {gh ga gf : Nat → Int32} {n p : Nat} (hg : IG n gh ga gf) (x1 x2 x3 : Int32) (hp : hs p x1) : ∃ a c1 c2 c3 k, IG k c1 c2 c3 ∧ f_X10_grant (nI p) gh ga gf (nI n) x1 x2 x3 = some (a, c1, c2, c3, nI k) ∧ f_X11_grant (nI p) (nI n) gh ga gf x1 x2 x3 = some (a, 0, nI k, c1, c2, c3) := by
  have hn := hg.1
  unfold f_X10_grant f_X1_add f_X11_grant
  rw [req_1 hp, is_m1 hp]
  simp only [Option.bind_some]
  rw [if_neg i10]
  rcases Nat.lt_or_ge n 40 with h | h
  · have q1 : ¬ (40 : Int32) ≤ nI n := full_b (N := 40) (by decide) h
    have q2 : ¬ nI n = (40 : Int32) := full_m (N := 40) (by decide) h
    rw [if_neg q1, if_neg q2]
    by_cases h1 : x2 < 1
    · rw [if_pos h1, if_pos h1]
      exact ⟨_, _, _, _, _, hg, rfl, rfl⟩
    rw [if_neg h1, if_neg h1]
    by_cases h2 : 99 < x2
    · rw [if_pos h2, if_pos h2]
      exact ⟨_, _, _, _, _, hg, rfl, rfl⟩
    rw [if_neg h2, if_neg h2]
    rcases yr_dec x3 with hy | hy
    · rw [year_b1 hy, year_m1 hy]
      simp only [Option.bind_some]
      rw [if_neg i10, if_neg i10, inb_nI h (by decide), nI_clamp (by omega), nI_back, nI_1]
      refine ⟨nI n, upd gh n x1, upd ga n x2, upd gf n x3, n + 1, ⟨h, fun i hi => ?_⟩, rfl, rfl⟩
      by_cases e : i = n
      · subst e
        rw [upd_at, upd_at]
        exact ⟨yr_nI hy, arms_nI h1 h2⟩
      · rw [upd_ne _ _ e, upd_ne _ _ e]
        exact hg.2 i (by omega)
    · rw [year_b0 hy, year_m0 hy]
      exact ⟨_, _, _, _, _, hg, rfl, rfl⟩
  · have e : n = 40 := by omega
    subst e
    exact ⟨_, _, _, _, _, hg, rfl, rfl⟩
section
variable {kT : Nat} {tN tN' : Nat → Nat} {tF tF' : Nat → Nat → Int32} {tY ty rm rf row rk tY' ty' rm' rf' row' rk' : Nat → Int32}
theorem ix_keep (h : IX kT tN tF tY ty rm rf row rk) (w : ∀ t, t < kT → tN' t = tN t ∧ tF' t = tF t ∧ tY' t = tY t ∧ ty' t = ty t) (hr : RFw kT row row') (h12 : FRk kT 12 rk rk') (h13 : FRk kT 13 rf rf') (h1 : FRk kT 1 rm rm') : IX kT tN' tF' tY' ty' rm' rf' row' rk' := by
  refine ⟨h.1, fun t ht => ?_⟩
  obtain ⟨e1, ⟨z, z1, z2, z3⟩, Rs, g1, g2, g3, g4, g5, g6, g7, g8, g9, g10⟩ := h.2 t ht
  obtain ⟨w1, w2, w3, w4⟩ := w t ht
  refine ⟨by rw [w3, w4, e1], ⟨z, z1, z2, by rw [w3, z3]⟩, Rs, g1, g2, g3, by rw [w1, g4], by rw [w2]; exact g5, g6, fun i hi => ?_, fun i hi => ?_, ?_, ?_⟩
  · rw [hr _ (Or.inl (by omega))]; exact g7 i hi
  · rw [h12 _ (Or.inl (by omega)), h13 _ (Or.inl (by omega))]; exact g8 i hi
  · rw [h13 _ (Or.inl (by omega))]; exact g9
  · rw [h1 _ (Or.inl (by omega))]; exact g10
theorem ix_add (h : IX kT tN tF tY ty rm rf row rk) (hk : kT < 6) (h1 : tY kT = ty kT) (h2 : ∃ z, 1000 ≤ z ∧ z ≤ 2000 ∧ tY kT = nI z) (h3 : ∃ Rs : RL2, goodR Rs ∧ Rs.length ≤ 12 ∧ (cdR Rs).length ≤ 400 ∧ tN kT = (cdR Rs).length ∧ AL (tF kT) 0 (cdR Rs) ∧ (trl (cdR Rs)).length ≤ 600 ∧ AL row (700 * kT) (trl (cdR Rs)) ∧ RKx kT rk rf Rs ∧ rf (13 * kT + Rs.length) = nI (trl (cdR Rs)).length ∧ rm kT = nI Rs.length) : IX (kT + 1) tN tF tY ty rm rf row rk := by
  refine ⟨hk, fun t ht => ?_⟩
  by_cases e : t = kT
  · subst e
    exact ⟨h1, h2, h3⟩
  · exact h.2 t (by omega)
theorem full_2 {k : Nat} (h : k < 6) : f_X2_isFull (nI k) = some 0 := by
  unfold f_X2_isFull
  rw [if_pos (show nI k < (6 : Int32) from nI_lt (b := 6) h (by decide))]
  rfl
def AK (x y : Int32) : Prop := x = y ∨ (x = -4 ∧ y = -3)
theorem ak_of {f g : Int32} (h : KD f g) : AK (-1 - f) (-1 - g) := by
  rcases h with h | ⟨h1, h2⟩
  · exact Or.inl (by rw [h])
  · exact Or.inr ⟨by rw [h1]; decide, by rw [h2]; decide⟩
set_option maxHeartbeats 1000000 in
theorem q_text (hx : IX kT tN tF tY ty rm rf row rk) {b a : Nat → Int32} {ch : Nat → Nat} (h : BY b a ch) {l fu : Nat} (hl : l ≤ 400) (hfu : 500 < fu) (x1 x2 : Int32) (h1 : ¬ x1 < 0) (h2 : ¬ nI l < x1) (hy : yr x2) (tk st code : Nat → Int32) (sz cs at' tok fl pl fp d mat rd mt ms mb me bad bp : Int32) : ∃ av am k' tk' st' sz' code' cs' at1 tok' fl' pl' fp' ty1 rm1 rf1 row1 rk1 d' mat' rd' mt' ms' mb' me' bad' bp', f_X10_text fu b kT (nI l) tk st sz code cs at' tok fl pl (nI kT) x1 x2 = some (av, 0, tk', st', sz', code', cs', at1, tok', fl', pl', nI k', fp', k') ∧ f_X11_text fu a (nI kT) (nI l) fp ty rm rf row rk d mat rd mt ms mb me bad bp x1 x2 = some (am, 0, nI k', 0, fp', ty1, rm1, rf1, row1, rk1, d', mat', rd', mt', ms', mb', me', bad', bp') ∧ IX k' (va_up tN kT (Int32.toNatClampNeg cs')) (va_up tF kT code') (va_up tY kT x2) ty1 rm1 rf1 row1 rk1 ∧ AK av am := by
  have h6 := hx.1
  obtain ⟨m, hm, rfl⟩ := nI_of h1
  rw [nI_ltI (by omega) hm] at h2
  have hup : ∀ (N : Nat) (f : Nat → Int32), IX kT (va_up tN kT N) (va_up tF kT f) (va_up tY kT x2) ty rm rf row rk := fun N f => ix_keep hx (fun t ht => ⟨va_up_ne _ _ (by omega), va_up_ne _ _ (by omega), va_up_ne _ _ (by omega), rfl⟩) (fun _ _ => rfl) (fun _ _ => rfl) (fun _ _ => rfl) (fun _ _ => rfl)
  unfold f_X10_text f_X11_text
  rw [if_neg h1, if_neg h1, if_neg (show ¬ nI l < nI m from fun w => h2 ((nI_ltI (by omega) hm).mp w)), if_neg (show ¬ nI l < nI m from fun w => h2 ((nI_ltI (by omega) hm).mp w)), year_b1 hy, year_m1 hy]
  simp only [Option.bind_some]
  rw [if_neg i10, if_neg i10]
  rcases Nat.lt_or_ge kT 6 with c | c
  · rw [full_2 c, if_neg (show ¬ nI kT = (6 : Int32) from full_m (N := 6) (by decide) c)]
    simp only [Option.bind_some]
    rw [if_pos trivial]
    obtain ⟨tk', st', sz', code', cs', at1, tok', f, pl', rm1, rf1, row1, rk1, d', mat', mt', ms', mb', me', g, bp', e1, e2, w1, w2, w3, w4, w5⟩ := text_q (T := kT) h (by omega : m ≤ 400) hfu (by omega) tk st code rm rf row rk mt ms mb me bp
    rw [e1, e2]
    simp only [Option.bind_some]
    rcases w5 with ⟨rfl, rfl, Rs, g1, g2, g3, g4, g5, g6, g7, g8, g9, g10⟩ | ⟨q1, q2, rfl, kd⟩
    · have hin : inb cs' 401 = true := by rw [g4]; exact inb_nI (by omega) (by decide)
      rw [if_pos rfl, if_pos rfl, if_pos (decide_eq_true (show nI kT = Int32.ofNat kT from rfl)), if_pos (decide_eq_true c), if_pos hin, if_pos (inb_nI (N := 6) c (by decide)), nI_back, nI_1, nI_clamp (by omega)]
      refine ⟨_, _, kT + 1, _, _, _, _, _, _, _, _, _, _, _, _, _, _, _, _, _, _, _, _, _, _, _, _, rfl, rfl, ?_⟩
      refine ⟨?_, Or.inl rfl⟩
      refine ix_add (ix_keep hx (fun t ht => ⟨va_up_ne _ _ (by omega), va_up_ne _ _ (by omega), va_up_ne _ _ (by omega), upd_ne _ _ (by omega)⟩) w1 w2 w3 w4) c ?_ ?_ ?_
      · rw [va_up_self, upd_at]
      · rw [va_up_self]
        exact yr_nI hy
      · rw [va_up_self, va_up_self]
        exact ⟨Rs, g1, g2, g3, by rw [g4, nI_clamp (by omega)], g5, g6, g7, g8, g9, g10⟩
    · rw [if_neg q1, if_neg q2]
      refine ⟨_, _, kT, _, _, _, _, _, _, _, _, _, _, _, _, _, _, _, _, _, _, _, _, _, _, _, _, rfl, rfl, ?_⟩
      exact ⟨ix_keep (hup _ _) (fun _ _ => ⟨rfl, rfl, rfl, rfl⟩) w1 w2 w3 w4, ak_of kd⟩
  · have e : kT = 6 := by omega
    subst e
    have f6 : f_X2_isFull (nI 6) = some 1 := by decide +kernel
    rw [f6, if_pos (show nI 6 = (6 : Int32) from rfl)]
    simp only [Option.bind_some]
    rw [if_neg i10]
    exact ⟨_, _, 6, _, _, _, _, _, _, _, _, _, _, _, _, _, _, _, _, _, _, _, _, _, _, _, _, rfl, rfl, hup _ _, Or.inl rfl⟩
theorem q_text_x {a : Nat → Int32} {l fu : Nat} (x1 x2 : Int32) (hw : ¬ (¬ x1 < 0 ∧ ¬ nI l < x1 ∧ yr x2)) (tk st code : Nat → Int32) (sz cs at' tok fl pl fb fp d mat rd mt ms mb me bad bp : Int32) : f_X10_text_x (nI l) tk st sz code cs at' tok fl pl (nI kT) fb x1 x2 = some (nI l, tk, st, sz, code, cs, at', tok, fl, pl, nI kT, fb) ∧ f_X11_text fu a (nI kT) (nI l) fp ty rm rf row rk d mat rd mt ms mb me bad bp x1 x2 = some (0, 1, nI kT, nI l, fp, ty, rm, rf, row, rk, d, mat, rd, mt, ms, mb, me, bad, bp) := by
  unfold f_X10_text_x f_X11_text
  by_cases a1 : x1 < 0
  · rw [if_pos a1, if_pos a1]
    exact ⟨rfl, rfl⟩
  rw [if_neg a1, if_neg a1]
  by_cases b1 : nI l < x1
  · rw [if_pos b1, if_pos b1]
    exact ⟨rfl, rfl⟩
  rw [if_neg b1, if_neg b1]
  have hy : ¬ yr x2 := fun q => hw ⟨a1, b1, q⟩
  rw [year_b0 hy, year_m0 hy]
  exact ⟨rfl, rfl⟩
end
