/-! Judging: the text in force; claims and fees. -/
def bst (tY : Nat → Int32) (y : Int32) : Nat → Option Nat
  | 0 => none
  | t + 1 => if ¬ y < tY t ∧ (∀ b, bst tY y t = some b → ¬ tY t < tY b) then some t else bst tY y t
def lst (tY : Nat → Int32) (o : Option Nat) : Int32 := match o with
  | none => 1000
  | some b => tY b
def IX (kT : Nat) (tN : Nat → Nat) (tF : Nat → Nat → Int32) (tY ty rm rf row rk : Nat → Int32) : Prop := kT ≤ 6 ∧ ∀ t, t < kT → tY t = ty t ∧ (∃ z, 1000 ≤ z ∧ z ≤ 2000 ∧ tY t = nI z) ∧ ∃ Rs : RL2, goodR Rs ∧ Rs.length ≤ 12 ∧ (cdR Rs).length ≤ 400 ∧ tN t = (cdR Rs).length ∧ AL (tF t) 0 (cdR Rs) ∧ (trl (cdR Rs)).length ≤ 600 ∧ AL row (700 * t) (trl (cdR Rs)) ∧ RKx t rk rf Rs ∧ rf (13 * t + Rs.length) = nI (trl (cdR Rs)).length ∧ rm t = nI Rs.length
section
variable {kT : Nat} {tN : Nat → Nat} {tF : Nat → Nat → Int32} {tY ty rm rf row rk : Nat → Int32} {y : Int32}
theorem bst_lt {t b : Nat} (h : bst tY y t = some b) : b < t := by
  induction t with
  | zero => cases h
  | succ t ih =>
    rw [bst] at h
    split at h
    · cases h; omega
    · have := ih h; omega
theorem force_b (h : IX kT tN tF tY ty rm rf row rk) : ∀ k t, t ≤ kT → kT - t < k → lp (g_X2_inForce (nI kT) kT tY y) k (bst tY y t, lst tY (bst tY y t), nI t) = some (bst tY y kT) := by
  have h6 := h.1
  intro k
  induction k with
  | zero => intro t _ h0; omega
  | succ k ih =>
    intro t ht hk
    show g_X2_inForce (nI kT) kT tY y (lp (g_X2_inForce (nI kT) kT tY y) k) (bst tY y t, lst tY (bst tY y t), nI t) = _
    unfold g_X2_inForce
    simp only []
    rcases Nat.lt_or_ge t kT with q | q
    · obtain ⟨-, ⟨z, z1, z2, ez⟩, -⟩ := h.2 t q
      rw [if_neg (nI_ge q (by omega)), if_pos (inb_nI (N := 6) (by omega) (by decide)), nI_clamp (by omega), if_pos (decide_eq_true q), nI_1]
      have hi := ih (t + 1) q (by omega)
      have hls : ∀ o : Option Nat, bst tY y t = o → ((tY t < lst tY o) ↔ ¬ (∀ b, o = some b → ¬ tY t < tY b)) := fun o _ => by
        cases o with
        | none =>
          have e : ¬ tY t < lst tY none := by
            rw [ez]
            exact nI_nlt (b := 1000) z1 (by omega)
          constructor
          · intro w; exact absurd w e
          · intro w; exact absurd (fun b hb => by cases hb) w
        | some b =>
          show tY t < tY b ↔ _
          constructor
          · intro w w2; exact w2 b rfl w
          · intro w
            exact Classical.byContradiction fun w2 => w (fun b' hb => by cases hb; exact w2)
      have hl2 := hls _ rfl
      by_cases c1 : y < tY t
      · rw [if_pos c1]
        rw [show bst tY y (t + 1) = bst tY y t by rw [bst, if_neg (fun w => w.1 c1)]] at hi
        exact hi
      · rw [if_neg c1]
        by_cases c2 : tY t < lst tY (bst tY y t)
        · rw [if_pos c2]
          rw [show bst tY y (t + 1) = bst tY y t by rw [bst, if_neg (fun w => (hl2.mp c2) w.2)]] at hi
          exact hi
        · rw [if_neg c2]
          rw [show bst tY y (t + 1) = some t by rw [bst, if_pos ⟨c1, Classical.byContradiction fun w => c2 (hl2.mpr w)⟩]] at hi
          exact hi
    · have e : t = kT := by omega
      subst e
      rw [if_pos (nI_le (Nat.le_refl _) (by omega))]
theorem force_m (h : IX kT tN tF tY ty rm rf row rk) {fu : Nat} {P G : Int32} {fem born died fa mo fg gh ga gf : Nat → Int32} {w pp : Int32} {stk ll mr qm qs : Nat → Int32} {tp : Int32} : ∀ k t, t ≤ kT → kT - t < k → f_X11_ruled_6 fu P G (nI kT) fem born died fa mo fg gh ga gf ty rm rf row rk k (w, pp, y, oI (bst tY y t), nI t, stk, tp, ll, mr, qm, qs) = f_X11_ruled_65 fu P G fem born died fa mo fg gh ga gf rm rf row rk fu (w, pp, y, oI (bst tY y kT), 0, 0, stk, tp, ll, mr, qm, qs) := by
  have h6 := h.1
  intro k
  induction k with
  | zero => intro t _ h0; omega
  | succ k ih =>
    intro t ht hk
    show g_X11_ruled_6 fu P G (nI kT) fem born died fa mo fg gh ga gf ty rm rf row rk stk tp ll mr qm qs (fun a b c d e f g h i j l => f_X11_ruled_6 fu P G (nI kT) fem born died fa mo fg gh ga gf ty rm rf row rk k (a, b, c, d, e, f, g, h, i, j, l)) w pp y (oI (bst tY y t)) (nI t) = _
    unfold g_X11_ruled_6 g_X11_ruled_49 g_X11_ruled_53
    rcases Nat.lt_or_ge t kT with q | q
    · obtain ⟨e1, -, -⟩ := h.2 t q
      rw [if_neg (nI_ge q (by omega)), if_pos (inb_nI (N := 6) (by omega) (by decide)), nI_clamp (by omega), ← e1, nI_1]
      have hi := ih (t + 1) q (by omega)
      by_cases c1 : y < tY t
      · rw [if_pos c1]
        rw [show bst tY y (t + 1) = bst tY y t by rw [bst, if_neg (fun w => w.1 c1)]] at hi
        exact hi
      · rw [if_neg c1]
        cases hb : bst tY y t with
        | none =>
          rw [oI_none, if_pos rfl]
          rw [show bst tY y (t + 1) = some t by rw [bst, if_pos ⟨c1, fun b w => by rw [hb] at w; cases w⟩]] at hi
          exact hi
        | some b =>
          have hbt := bst_lt hb
          obtain ⟨e2, -, -⟩ := h.2 b (by omega)
          rw [oI_some, if_neg (ne_m1 b (by omega)), if_pos (inb_nI (N := 6) (by omega) (by decide)), if_pos (inb_nI (N := 6) (by omega) (by decide)), nI_clamp (by omega), ← e2]
          by_cases c2 : tY t < tY b
          · rw [if_pos c2]
            rw [show bst tY y (t + 1) = some b by rw [bst, if_neg (fun w => w.2 b hb c2), hb]] at hi
            exact hi
          · rw [if_neg c2]
            rw [show bst tY y (t + 1) = some t by rw [bst, if_pos ⟨c1, fun b' w => by rw [hb] at w; cases w; exact c2⟩]] at hi
            exact hi
    · have e : t = kT := by omega
      subst e
      rw [if_pos (nI_le (Nat.le_refl _) (by omega))]
theorem judge_q (h : IX kT tN tF tY ty rm rf row rk) {fu : Nat} (hfu : 1000 < fu) {P G : Int32} {fem born died fa mo fg gh ga gf : Nat → Int32} {pp : Int32} {nm names : Nat → Int32} (hV : HV fu P G fem born died fa mo fg gh ga gf pp y nm) (hN : ∀ j, j < 8 → names j = nm j) (ops : Nat → Int32) : ∃ R : Int32 → Int32, (∃ ops', f_X2_judge fu names (nI kT) kT tN tF tY ops y = some (ops', 0, R 0, R 1, R 2)) ∧ ∀ (w : Int32) (stk : Nat → Int32) (tp : Int32) (ll mr qm qs : Nat → Int32), ∃ stk' tp' ll' mr' qm' qs', f_X11_ruled fu P G (nI kT) fem born died fa mo fg gh ga gf ty rm rf row rk stk tp ll mr qm qs w pp y = some (R w, stk', tp', ll', mr', qm', qs') := by
  have h6 := h.1
  have hb : f_X2_inForce fu (nI kT) kT tY y = some (bst tY y kT) := force_b (y := y) h fu 0 (Nat.zero_le _) (by omega)
  have hm := fun (w : Int32) (stk : Nat → Int32) (tp : Int32) (ll mr qm qs : Nat → Int32) => force_m (y := y) (fu := fu) (P := P) (G := G) (fem := fem) (born := born) (died := died) (fa := fa) (mo := mo) (fg := fg) (gh := gh) (ga := ga) (gf := gf) (w := w) (pp := pp) (stk := stk) (tp := tp) (ll := ll) (mr := mr) (qm := qm) (qs := qs) h fu 0 (Nat.zero_le _) (by omega)
  unfold f_X2_judge f_X11_ruled
  rw [hb]
  simp only [Option.bind_some]
  have hm' : ∀ (w : Int32) (stk : Nat → Int32) (tp : Int32) (ll mr qm qs : Nat → Int32), f_X11_ruled_6 fu P G (nI kT) fem born died fa mo fg gh ga gf ty rm rf row rk fu (w, pp, y, -1, 0, stk, tp, ll, mr, qm, qs) = f_X11_ruled_65 fu P G fem born died fa mo fg gh ga gf rm rf row rk fu (w, pp, y, oI (bst tY y kT), 0, 0, stk, tp, ll, mr, qm, qs) := hm
  cases hbs : bst tY y kT with
  | none =>
    refine ⟨fun _ => 0, ⟨ops, rfl⟩, fun w stk tp ll mr qm qs => ?_⟩
    rw [hm', hbs]
    obtain ⟨kd, rfl⟩ : ∃ kd, fu = kd + 1 := ⟨fu - 1, by omega⟩
    refine ⟨stk, tp, ll, mr, qm, qs, ?_⟩
    show g_X11_ruled_65 (kd + 1) P G fem born died fa mo fg gh ga gf rm rf row rk stk tp ll mr qm qs (fun a b c d e f g h i j k' l => f_X11_ruled_65 (kd + 1) P G fem born died fa mo fg gh ga gf rm rf row rk kd (a, b, c, d, e, f, g, h, i, j, k', l)) w pp y (-1) 0 0 = _
    unfold g_X11_ruled_65 g_X11_ruled_183
    rw [if_pos rfl]
  | some t =>
    have ht := bst_lt hbs
    obtain ⟨-, -, Rs, g1, g2, g3, g4, g5, g6, g7, g8, g9, g10⟩ := h.2 t ht
    let Q : List Int32 → Int32 → Prop := fun X v => ∃ k, k ≤ 19 ∧ EVv names fu P G fem born died fa mo fg gh ga gf pp y k X v
    have hQ : ∀ q ∈ Rs, (q.1 = 4 ∨ q.1 = 5 ∨ q.1 = 6) ∧ Q q.2 (vl Q q.2) := fun q hq => by
      obtain ⟨z1, k, z2, z3⟩ := g1 q hq
      obtain ⟨v, hv⟩ := ev_all hV hN z3
      exact ⟨z1, vl_ok ⟨v, k, z2, hv⟩⟩
    refine ⟨fun w => rfo (vl Q) w 0 Rs, ?_, fun w stk tp ll mr qm qs => ?_⟩
    · show ∃ ops', (if decide (t < kT) = true then lp (g_X2_judge names (tN t) (tF t)) fu (0, ops, 0, 0, 0, 0) else none) = _
      rw [if_pos (decide_eq_true ht), g4]
      exact all_b g3 hfu (fun q hq => ⟨(hQ q hq).1, by obtain ⟨k, k1, k2⟩ := (hQ q hq).2; exact ⟨k, k1, k2.1⟩⟩) g5 ops
    · rw [hm', hbs]
      exact rules_m hfu (by omega) g2 (fun q hq => ⟨(hQ q hq).1, by obtain ⟨k, k1, k2⟩ := (hQ q hq).2; exact ⟨k, k1, k2.2⟩⟩) g6 g7 g8 g9 g10 w fu 0 0 stk tp ll mr qm qs (Nat.zero_le _) (by omega)
end
theorem setName_q {names : Nat → Int32} {j : Nat} (hj : j < 8) (v : Int32) : f_X2_setName names (nI (100 + j)) v = some (upd names j v) := by
  have e2 : nI (100 + j) - 100 = nI j := by
    have := nI_sub (i := 100) (j := 100 + j) (by omega)
    rw [show 100 + j - 100 = j by omega] at this
    exact this
  have q8 : ¬ (8 : Int32) ≤ nI j := nI_ge (b := 8) hj (by decide)
  unfold f_X2_setName g_X2_setName_22
  rw [e2, if_neg (nI_pos (by omega)), if_neg q8, if_pos (inb_nI hj (by decide)), nI_clamp (by omega)]
def sel8 (v0 v1 v2 v3 v4 v5 v6 v7 : Int32) (j : Nat) : Int32 := match j with
  | 0 => v0
  | 1 => v1
  | 2 => v2
  | 3 => v3
  | 4 => v4
  | 5 => v5
  | 6 => v6
  | _ => v7
def nm8 (names : Nat → Int32) (v0 v1 v2 v3 v4 v5 v6 v7 : Int32) : Nat → Int32 := upd (upd (upd (upd (upd (upd (upd (upd names 0 v0) 1 v1) 2 v2) 3 v3) 4 v4) 5 v5) 6 v6) 7 v7
theorem nm8_at (names : Nat → Int32) (v0 v1 v2 v3 v4 v5 v6 v7 : Int32) {j : Nat} (hj : j < 8) : nm8 names v0 v1 v2 v3 v4 v5 v6 v7 j = sel8 v0 v1 v2 v3 v4 v5 v6 v7 j := by
  unfold nm8
  rcases (show j = 0 ∨ j = 1 ∨ j = 2 ∨ j = 3 ∨ j = 4 ∨ j = 5 ∨ j = 6 ∨ j = 7 by omega) with rfl | rfl | rfl | rfl | rfl | rfl | rfl | rfl
  · rw [upd_ne _ _ (by decide), upd_ne _ _ (by decide), upd_ne _ _ (by decide), upd_ne _ _ (by decide), upd_ne _ _ (by decide), upd_ne _ _ (by decide), upd_ne _ _ (by decide), upd_at]
    rfl
  · rw [upd_ne _ _ (by decide), upd_ne _ _ (by decide), upd_ne _ _ (by decide), upd_ne _ _ (by decide), upd_ne _ _ (by decide), upd_ne _ _ (by decide), upd_at]
    rfl
  · rw [upd_ne _ _ (by decide), upd_ne _ _ (by decide), upd_ne _ _ (by decide), upd_ne _ _ (by decide), upd_ne _ _ (by decide), upd_at]
    rfl
  · rw [upd_ne _ _ (by decide), upd_ne _ _ (by decide), upd_ne _ _ (by decide), upd_ne _ _ (by decide), upd_at]
    rfl
  · rw [upd_ne _ _ (by decide), upd_ne _ _ (by decide), upd_ne _ _ (by decide), upd_at]
    rfl
  · rw [upd_ne _ _ (by decide), upd_ne _ _ (by decide), upd_at]
    rfl
  · rw [upd_ne _ _ (by decide), upd_at]
    rfl
  · rw [upd_at]
    rfl
theorem setN_0 (nn : Nat → Int32) (v : Int32) : f_X2_setName nn 100 v = some (upd nn 0 v) := setName_q (j := 0) (by decide) v
theorem setN_1 (nn : Nat → Int32) (v : Int32) : f_X2_setName nn 101 v = some (upd nn 1 v) := setName_q (j := 1) (by decide) v
theorem setN_2 (nn : Nat → Int32) (v : Int32) : f_X2_setName nn 102 v = some (upd nn 2 v) := setName_q (j := 2) (by decide) v
theorem setN_3 (nn : Nat → Int32) (v : Int32) : f_X2_setName nn 103 v = some (upd nn 3 v) := setName_q (j := 3) (by decide) v
theorem setN_4 (nn : Nat → Int32) (v : Int32) : f_X2_setName nn 104 v = some (upd nn 4 v) := setName_q (j := 4) (by decide) v
theorem setN_5 (nn : Nat → Int32) (v : Int32) : f_X2_setName nn 105 v = some (upd nn 5 v) := setName_q (j := 5) (by decide) v
theorem setN_6 (nn : Nat → Int32) (v : Int32) : f_X2_setName nn 106 v = some (upd nn 6 v) := setName_q (j := 6) (by decide) v
theorem setN_7 (nn : Nat → Int32) (v : Int32) : f_X2_setName nn 107 v = some (upd nn 7 v) := setName_q (j := 7) (by decide) v
theorem judge_bk {fu : Nat} {fem born ly fa mo gh ga gf qr qz names ops q1 q2 : Nat → Int32} {ps gs ra rr rs rg rn os x1 x2 v3 sx v4 v6 v7 : Int32} {kT : Nat} {tN : Nat → Nat} {tF : Nat → Nat → Int32} {tY ops' : Nat → Int32} {c0 c1 c2 c3 : Int32} (f1 : f_X6_fill fu fem born ly fa mo ps gh ga gf gs qr qz x1 x2 = some (q1, q2)) (f5 : f_X4_bornOf born ps x1 = some v3) (f7 : f_X4_isFemale fem ps x1 = some sx) (f8 : f_X10_asInt sx = some v4) (f11 : f_X10_countRivals fu ps gh ga gf gs ra rr x2 = some v6) (f13 : f_X6_sizeOf q2 x1 = some v7) (fj : f_X2_judge fu (nm8 names rg rs x2 v3 v4 rn v6 v7) os kT tN tF tY ops x2 = some (ops', c0, c1, c2, c3)) : f_X10_judge fu fem born ly fa mo ps gh ga gf gs ra rr rs rg rn os kT tN tF tY qr qz names ops x1 x2 = some (q1, q2, (nm8 names rg rs x2 v3 v4 rn v6 v7), ops', c0, c1, c2, c3) := by
  unfold f_X10_judge
  rw [f1]
  simp only [Option.bind_some]
  rw [setN_0]
  simp only [Option.bind_some]
  rw [setN_1]
  simp only [Option.bind_some]
  rw [setN_2, f5]
  simp only [Option.bind_some]
  rw [setN_3, f7]
  simp only [Option.bind_some]
  rw [f8]
  simp only [Option.bind_some]
  rw [setN_4]
  simp only [Option.bind_some]
  rw [setN_5, f11]
  simp only [Option.bind_some]
  rw [setN_6, f13]
  simp only [Option.bind_some]
  rw [setN_7]
  simp only [Option.bind_some]
  unfold nm8 at fj ⊢
  rw [fj]
  rfl
