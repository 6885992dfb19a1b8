/-! Judging: the text in force; claims and fees. -/
def bst (tY : Nat → Int32) (y : Int32) : Nat → Option Nat
  | 0 => none
  | t + 1 => if ¬ y < tY t ∧ (∀ b, bst tY y t = some b → ¬ tY t < tY b) then some t else bst tY y t
def lst (tY : Nat → Int32) (o : Option Nat) : Int32 := match o with
  | none => 1000
  | some b => tY b
def IX (kT : Nat) (tN : Nat → Nat) (tF : Nat → Nat → Int32) (tY ty rm rf row rk : Nat → Int32) : Prop := kT ≤ 6 ∧ ∀ t, t < kT → tY t = ty t ∧ (∃ z, 1000 ≤ z ∧ z ≤ 2000 ∧ tY t = nI z) ∧ ∃ Rs : RL2, goodR Rs ∧ Rs.length ≤ 12 ∧ (cdR Rs).length ≤ 400 ∧ tN t = (cdR Rs).length ∧ AL (tF t) 0 (cdR Rs) ∧ (trl (cdR Rs)).length ≤ 600 ∧ AL row (700 * t) (trl (cdR Rs)) ∧ RKx t rk rf Rs ∧ rf (13 * t + Rs.length) = nI (trl (cdR Rs)).length ∧ rm t = nI Rs.length
section
variable {kT : Nat} {tN : Nat → Nat} {tF : Nat → Nat → Int32} {tY ty rm rf row rk : Nat → Int32} {y : Int32}
theorem bst_lt {t b : Nat} (h : bst tY y t = some b) : b < t := by
  induction t with
  | zero => cases h
  | succ t ih =>
    rw [bst] at h
    split at h
    · cases h; omega
    · have := ih h; omega
theorem force_b (h : IX kT tN tF tY ty rm rf row rk) : ∀ k t, t ≤ kT → kT - t < k → lp (g_X2_inForce (nI kT) kT tY y) k (bst tY y t, lst tY (bst tY y t), nI t) = some (bst tY y kT) := by
  have h6 := h.1
  intro k
  induction k with
  | zero => intro t _ h0; omega
  | succ k ih =>
    intro t ht hk
    show g_X2_inForce (nI kT) kT tY y (lp (g_X2_inForce (nI kT) kT tY y) k) (bst tY y t, lst tY (bst tY y t), nI t) = _
    unfold g_X2_inForce
    simp only []
    rcases Nat.lt_or_ge t kT with q | q
    · obtain ⟨-, ⟨z, z1, z2, ez⟩, -⟩ := h.2 t q
      rw [if_neg (nI_ge q (by omega)), if_pos (inb_nI (N := 6) (by omega) (by decide)), nI_clamp (by omega), if_pos (decide_eq_true q), nI_1]
      have hi := ih (t + 1) q (by omega)
      have hls : ∀ o : Option Nat, bst tY y t = o → ((tY t < lst tY o) ↔ ¬ (∀ b, o = some b → ¬ tY t < tY b)) := fun o _ => by
        cases o with
        | none =>
          have e : ¬ tY t < lst tY none := by
            rw [ez]
            exact nI_nlt (b := 1000) z1 (by omega)
          constructor
          · intro w; exact absurd w e
          · intro w; exact absurd (fun b hb => by cases hb) w
        | some b =>
          show tY t < tY b ↔ _
          constructor
          · intro w w2; exact w2 b rfl w
          · intro w
            exact Classical.byContradiction fun w2 => w (fun b' hb => by cases hb; exact w2)
      have hl2 := hls _ rfl
      by_cases c1 : y < tY t
      · rw [if_pos c1]
        rw [show bst tY y (t + 1) = bst tY y t by rw [bst, if_neg (fun w => w.1 c1)]] at hi
        exact hi
      · rw [if_neg c1]
        by_cases c2 : tY t < lst tY (bst tY y t)
        · rw [if_pos c2]
          rw [show bst tY y (t + 1) = bst tY y t by rw [bst, if_neg (fun w => (hl2.mp c2) w.2)]] at hi
          exact hi
        · rw [if_neg c2]
          rw [show bst tY y (t + 1) = some t by rw [bst, if_pos ⟨c1, Classical.byContradiction fun w => c2 (hl2.mpr w)⟩]] at hi
          exact hi
    · have e : t = kT := by omega
      subst e
      rw [if_pos (nI_le (Nat.le_refl _) (by omega))]
theorem force_m (h : IX kT tN tF tY ty rm rf row rk) {fu : Nat} {P G : Int32} {fem born died fa mo fg gh ga gf : Nat → Int32} {w pp : Int32} {stk ll mr qm qs : Nat → Int32} {tp : Int32} : ∀ k t, t ≤ kT → kT - t < k → f_X11_ruled_6 fu P G (nI kT) fem born died fa mo fg gh ga gf ty rm rf row rk k (w, pp, y, oI (bst tY y t), nI t, stk, tp, ll, mr, qm, qs) = f_X11_ruled_65 fu P G fem born died fa mo fg gh ga gf rm rf row rk fu (w, pp, y, oI (bst tY y kT), 0, 0, stk, tp, ll, mr, qm, qs) := by
  have h6 := h.1
  intro k
  induction k with
  | zero => intro t _ h0; omega
  | succ k ih =>
    intro t ht hk
    show g_X11_ruled_6 fu P G (nI kT) fem born died fa mo fg gh ga gf ty rm rf row rk stk tp ll mr qm qs (fun a b c d e f g h i j l => f_X11_ruled_6 fu P G (nI kT) fem born died fa mo fg gh ga gf ty rm rf row rk k (a, b, c, d, e, f, g, h, i, j, l)) w pp y (oI (bst tY y t)) (nI t) = _
    unfold g_X11_ruled_6 g_X11_ruled_49 g_X11_ruled_53
    rcases Nat.lt_or_ge t kT with q | q
    · obtain ⟨e1, -, -⟩ := h.2 t q
      rw [if_neg (nI_ge q (by omega)), if_pos (inb_nI (N := 6) (by omega) (by decide)), nI_clamp (by omega), ← e1, nI_1]
      have hi := ih (t + 1) q (by omega)
      by_cases c1 : y < tY t
      · rw [if_pos c1]
        rw [show bst tY y (t + 1) = bst tY y t by rw [bst, if_neg (fun w => w.1 c1)]] at hi
        exact hi
      · rw [if_neg c1]
        cases hb : bst tY y t with
        | none =>
          rw [oI_none, if_pos rfl]
          rw [show bst tY y (t + 1) = some t by rw [bst, if_pos ⟨c1, fun b w => by rw [hb] at w; cases w⟩]] at hi
          exact hi
        | some b =>
          have hbt := bst_lt hb
          obtain ⟨e2, -, -⟩ := h.2 b (by omega)
          rw [oI_some, if_neg (ne_m1 b (by omega)), if_pos (inb_nI (N := 6) (by omega) (by decide)), if_pos (inb_nI (N := 6) (by omega) (by decide)), nI_clamp (by omega), ← e2]
          by_cases c2 : tY t < tY b
          · rw [if_pos c2]
            rw [show bst tY y (t + 1) = some b by rw [bst, if_neg (fun w => w.2 b hb c2), hb]] at hi
            exact hi
          · rw [if_neg c2]
            rw [show bst tY y (t + 1) = some t by rw [bst, if_pos ⟨c1, fun b' w => by rw [hb] at w; cases w; exact c2⟩]] at hi
            exact hi
    · have e : t = kT := by omega
      subst e
      rw [if_pos (nI_le (Nat.le_refl _) (by omega))]
theorem judge_q (h : IX kT tN tF tY ty rm rf row rk) {fu : Nat} (hfu : 1000 < fu) {P G : Int32} {fem born died fa mo fg gh ga gf : Nat → Int32} {pp : Int32} {nm names : Nat → Int32} (hV : HV fu P G fem born died fa mo fg gh ga gf pp y nm) (hN : ∀ j, j < 8 → names j = nm j) (ops : Nat → Int32) : ∃ R : Int32 → Int32, (∃ ops', f_X2_judge fu names (nI kT) kT tN tF tY ops y = some (ops', 0, R 0, R 1, R 2)) ∧ ∀ (w : Int32) (stk : Nat → Int32) (tp : Int32) (ll mr qm qs : Nat → Int32), ∃ stk' tp' ll' mr' qm' qs', f_X11_ruled fu P G (nI kT) fem born died fa mo fg gh ga gf ty rm rf row rk stk tp ll mr qm qs w pp y = some (R w, stk', tp', ll', mr', qm', qs') := by
  have h6 := h.1
  have hb : f_X2_inForce fu (nI kT) kT tY y = some (bst tY y kT) := force_b (y := y) h fu 0 (Nat.zero_le _) (by omega)
  have hm := fun (w : Int32) (stk : Nat → Int32) (tp : Int32) (ll mr qm qs : Nat → Int32) => force_m (y := y) (fu := fu) (P := P) (G := G) (fem := fem) (born := born) (died := died) (fa := fa) (mo := mo) (fg := fg) (gh := gh) (ga := ga) (gf := gf) (w := w) (pp := pp) (stk := stk) (tp := tp) (ll := ll) (mr := mr) (qm := qm) (qs := qs) h fu 0 (Nat.zero_le _) (by omega)
  unfold f_X2_judge f_X11_ruled
  rw [hb]
  simp only [Option.bind_some]
  have hm' : ∀ (w : Int32) (stk : Nat → Int32) (tp : Int32) (ll mr qm qs : Nat → Int32), f_X11_ruled_6 fu P G (nI kT) fem born died fa mo fg gh ga gf ty rm rf row rk fu (w, pp, y, -1, 0, stk, tp, ll, mr, qm, qs) = f_X11_ruled_65 fu P G fem born died fa mo fg gh ga gf rm rf row rk fu (w, pp, y, oI (bst tY y kT), 0, 0, stk, tp, ll, mr, qm, qs) := hm
  cases hbs : bst tY y kT with
  | none =>
    refine ⟨fun _ => 0, ⟨ops, rfl⟩, fun w stk tp ll mr qm qs => ?_⟩
    rw [hm', hbs]
    obtain ⟨kd, rfl⟩ : ∃ kd, fu = kd + 1 := ⟨fu - 1, by omega⟩
    refine ⟨stk, tp, ll, mr, qm, qs, ?_⟩
    show g_X11_ruled_65 (kd + 1) P G fem born died fa mo fg gh ga gf rm rf row rk stk tp ll mr qm qs (fun a b c d e f g h i j k' l => f_X11_ruled_65 (kd + 1) P G fem born died fa mo fg gh ga gf rm rf row rk kd (a, b, c, d, e, f, g, h, i, j, k', l)) w pp y (-1) 0 0 = _
    unfold g_X11_ruled_65 g_X11_ruled_183
    rw [if_pos rfl]
  | some t =>
    have ht := bst_lt hbs
    obtain ⟨-, -, Rs, g1, g2, g3, g4, g5, g6, g7, g8, g9, g10⟩ := h.2 t ht
    let Q : List Int32 → Int32 → Prop := fun X v => ∃ k, k ≤ 19 ∧ EVv names fu P G fem born died fa mo fg gh ga gf pp y k X v
    have hQ : ∀ q ∈ Rs, (q.1 = 4 ∨ q.1 = 5 ∨ q.1 = 6) ∧ Q q.2 (vl Q q.2) := fun q hq => by
      obtain ⟨z1, k, z2, z3⟩ := g1 q hq
      obtain ⟨v, hv⟩ := ev_all hV hN z3
      exact ⟨z1, vl_ok ⟨v, k, z2, hv⟩⟩
    refine ⟨fun w => rfo (vl Q) w 0 Rs, ?_, fun w stk tp ll mr qm qs => ?_⟩
    · show ∃ ops', (if decide (t < kT) = true then lp (g_X2_judge names (tN t) (tF t)) fu (0, ops, 0, 0, 0, 0) else none) = _
      rw [if_pos (decide_eq_true ht), g4]
      exact all_b g3 hfu (fun q hq => ⟨(hQ q hq).1, by obtain ⟨k, k1, k2⟩ := (hQ q hq).2; exact ⟨k, k1, k2.1⟩⟩) g5 ops
    · rw [hm', hbs]
      exact rules_m hfu (by omega) g2 (fun q hq => ⟨(hQ q hq).1, by obtain ⟨k, k1, k2⟩ := (hQ q hq).2; exact ⟨k, k1, k2.2⟩⟩) g6 g7 g8 g9 g10 w fu 0 0 stk tp ll mr qm qs (Nat.zero_le _) (by omega)
end
theorem setName_q {names : Nat → Int32} {j : Nat} (hj : j < 8) (v : Int32) : f_X2_setName names (nI (100 + j)) v = some (upd names j v) := by
  have e2 : nI (100 + j) - 100 = nI j := by
    have := nI_sub (i := 100) (j := 100 + j) (by omega)
    rw [show 100 + j - 100 = j by omega] at this
    exact this
  have q8 : ¬ (8 : Int32) ≤ nI j := nI_ge (b := 8) hj (by decide)
  unfold f_X2_setName g_X2_setName_22
  rw [e2, if_neg (nI_pos (by omega)), if_neg q8, if_pos (inb_nI hj (by decide)), nI_clamp (by omega)]
section
variable {n : Nat} {S : Nat → Bool} {B E : Nat → Nat} {F M : Nat → Option Nat} {fem born died ly fa mo fg : Nat → Int32} {y : Int32} {gn : Nat} {gh ga gf : Nat → Int32} {kT : Nat} {tN : Nat → Nat} {tF : Nat → Nat → Int32} {tY ty rm rf row rk : Nat → Int32}
noncomputable def nmq (n : Nat) (S : Nat → Bool) (B E : Nat → Nat) (F M : Nat → Option Nat) (fg gh ga gf : Nat → Int32) (gn : Nat) (y : Int32) (p : Nat) (r : Nat × Nat × Int32) (j : Nat) : Int32 := match j with
  | 0 => r.2.2
  | 1 => nI r.2.1
  | 2 => y
  | 3 => nI (B p)
  | 4 => bI (S p)
  | 5 => nI (cnt (MK n S B E F y p r.2.1) r.2.1)
  | 6 => RVv n F fg gh ga gf gn y p
  | _ => nI (QL n S B E F M gh ga gf gn y p).length
theorem hv_q (h : IP n S B E F M fem born died ly fa mo) (hg : IG gn gh ga gf) {fu : Nat} (hfu : 61 < fu) {p : Nat} (hp : p < n) {r : Nat × Nat × Int32} (hr : PR F fg gh ga gf gn y p = some r) : HV fu (nI n) (nI gn) fem born died fa mo fg gh ga gf (nI p) y (nmq n S B E F M fg gh ga gf gn y p r) := by
  have hn := h.1
  obtain ⟨b1, b2, b3, b4, b5, b6, b7, b8, b9, b10, b11, b12⟩ := h.2 p hp
  intro j hj ll mr qm qs
  have hin := inb_nI (N := 60) (n := p) (by omega) (by decide)
  have hcl := nI_clamp (n := p) (by omega)
  unfold f_X11_value g_X11_value_81
  rcases (show j = 0 ∨ j = 1 ∨ j = 2 ∨ j = 3 ∨ j = 4 ∨ j = 5 ∨ j = 6 ∨ j = 7 by omega) with rfl | rfl | rfl | rfl | rfl | rfl | rfl | rfl
  · rw [if_pos (by decide), grade_q h hg hfu hp, hr]
    exact ⟨_, _, _, _, rfl⟩
  · rw [if_neg (by decide), if_pos (by decide), steps_q (fg := fg) h hg hfu hp, hr]
    exact ⟨_, _, _, _, rfl⟩
  · rw [if_neg (by decide), if_neg (by decide), if_pos (by decide)]
    exact ⟨_, _, _, _, rfl⟩
  · rw [if_neg (by decide), if_neg (by decide), if_neg (by decide), if_pos (by decide), if_pos hin, hcl, b2]
    exact ⟨_, _, _, _, rfl⟩
  · rw [if_neg (by decide), if_neg (by decide), if_neg (by decide), if_neg (by decide), if_pos (by decide), if_pos hin, hcl, b1]
    show ∃ ll' mr' qm' qs', _ = some (bI (S p), ll', mr', qm', qs')
    cases S p
    · exact ⟨_, _, _, _, rfl⟩
    · exact ⟨_, _, _, _, rfl⟩
  · obtain ⟨arr', row', e1, -⟩ := above_q (fg := fg) (y := y) h hg hfu hp ll mr
    rw [if_neg (by decide), if_neg (by decide), if_neg (by decide), if_neg (by decide), if_neg (by decide), if_pos (by decide), e1, hr]
    exact ⟨_, _, _, _, rfl⟩
  · rw [if_neg (by decide), if_neg (by decide), if_neg (by decide), if_neg (by decide), if_neg (by decide), if_neg (by decide), if_pos (by decide), rivalsOf_q (fg := fg) h hg hfu hp]
    exact ⟨_, _, _, _, rfl⟩
  · obtain ⟨r', s', ll', e1, -⟩ := quarters_m (y := y) h hg hfu hp qs qm ll
    rw [if_neg (by decide), if_neg (by decide), if_neg (by decide), if_neg (by decide), if_neg (by decide), if_neg (by decide), if_neg (by decide), e1]
    exact ⟨_, _, _, _, rfl⟩
theorem judged (h : IP n S B E F M fem born died ly fa mo) (hg : IG gn gh ga gf) (hx : IX kT tN tF tY ty rm rf row rk) {fu : Nat} (hfu : 1000 < fu) {p : Nat} (hp : p < n) {r : Nat × Nat × Int32} (hr : PR F fg gh ga gf gn y p = some r) (qr qz names ops : Nat → Int32) : ∃ R : Int32 → Int32, (∃ q1 q2 nm' ops', f_X10_judge fu fem born ly fa mo (nI n) gh ga gf (nI gn) (own gh ga gf gn y r.1) (nI r.1) (nI r.2.1) r.2.2 (nI (cnt (MK n S B E F y p r.2.1) r.2.1)) (nI kT) kT tN tF tY qr qz names ops (nI p) y = some (q1, q2, nm', ops', 0, R 0, R 1, R 2)) ∧ ∀ (w : Int32) (stk : Nat → Int32) (tp : Int32) (ll mr qm qs : Nat → Int32), ∃ stk' tp' ll' mr' qm' qs', f_X11_ruled fu (nI n) (nI gn) (nI kT) fem born died fa mo fg gh ga gf ty rm rf row rk stk tp ll mr qm qs w (nI p) y = some (R w, stk', tp', ll', mr', qm', qs') := by
  have hn := h.1
  have hV := hv_q (y := y) h hg (by omega : 61 < fu) hp hr
  obtain ⟨q1, q2, e1, g1⟩ := fill_q (y := y) h hg (by omega : 61 < fu) hp qr qz
  have e2 := countRivals_q (y := y) (fg := fg) h hg (by omega : 61 < fu) hp
  rw [hr] at e2
  have e2' : f_X10_countRivals fu (nI n) gh ga gf (nI gn) (own gh ga gf gn y r.1) (nI r.1) y = some (RVv n F fg gh ga gf gn y p) := e2
  have eA : f_X10_asInt (bI (S p)) = some (bI (S p)) := by cases S p <;> decide +kernel
  have s0 : ∀ (nn : Nat → Int32) (v : Int32), f_X2_setName nn 100 v = some (upd nn 0 v) := fun nn v => setName_q (by decide) v
  have s1 : ∀ (nn : Nat → Int32) (v : Int32), f_X2_setName nn 101 v = some (upd nn 1 v) := fun nn v => setName_q (by decide) v
  have s2 : ∀ (nn : Nat → Int32) (v : Int32), f_X2_setName nn 102 v = some (upd nn 2 v) := fun nn v => setName_q (by decide) v
  have s3 : ∀ (nn : Nat → Int32) (v : Int32), f_X2_setName nn 103 v = some (upd nn 3 v) := fun nn v => setName_q (by decide) v
  have s4 : ∀ (nn : Nat → Int32) (v : Int32), f_X2_setName nn 104 v = some (upd nn 4 v) := fun nn v => setName_q (by decide) v
  have s5 : ∀ (nn : Nat → Int32) (v : Int32), f_X2_setName nn 105 v = some (upd nn 5 v) := fun nn v => setName_q (by decide) v
  have s6 : ∀ (nn : Nat → Int32) (v : Int32), f_X2_setName nn 106 v = some (upd nn 6 v) := fun nn v => setName_q (by decide) v
  have s7 : ∀ (nn : Nat → Int32) (v : Int32), f_X2_setName nn 107 v = some (upd nn 7 v) := fun nn v => setName_q (by decide) v
  have hq : q2 p = nI (QL n S B E F M gh ga gf gn y p).length := g1.2.1
  obtain ⟨R, ⟨ops', j1⟩, j2⟩ := judge_q (y := y) hx hfu hV (names := upd (upd (upd (upd (upd (upd (upd (upd names 0 r.2.2) 1 (nI r.2.1)) 2 y) 3 (nI (B p))) 4 (bI (S p))) 5 (nI (cnt (MK n S B E F y p r.2.1) r.2.1))) 6 (RVv n F fg gh ga gf gn y p)) 7 (nI (QL n S B E F M gh ga gf gn y p).length)) (fun j hj => by
    rcases (show j = 0 ∨ j = 1 ∨ j = 2 ∨ j = 3 ∨ j = 4 ∨ j = 5 ∨ j = 6 ∨ j = 7 by omega) with rfl | rfl | rfl | rfl | rfl | rfl | rfl | rfl
    · rw [upd_ne _ _ (by decide), upd_ne _ _ (by decide), upd_ne _ _ (by decide), upd_ne _ _ (by decide), upd_ne _ _ (by decide), upd_ne _ _ (by decide), upd_ne _ _ (by decide), upd_at, nmq]
    · rw [upd_ne _ _ (by decide), upd_ne _ _ (by decide), upd_ne _ _ (by decide), upd_ne _ _ (by decide), upd_ne _ _ (by decide), upd_ne _ _ (by decide), upd_at, nmq]
    · rw [upd_ne _ _ (by decide), upd_ne _ _ (by decide), upd_ne _ _ (by decide), upd_ne _ _ (by decide), upd_ne _ _ (by decide), upd_at, nmq]
    · rw [upd_ne _ _ (by decide), upd_ne _ _ (by decide), upd_ne _ _ (by decide), upd_ne _ _ (by decide), upd_at, nmq]
    · rw [upd_ne _ _ (by decide), upd_ne _ _ (by decide), upd_ne _ _ (by decide), upd_at, nmq]
    · rw [upd_ne _ _ (by decide), upd_ne _ _ (by decide), upd_at, nmq]
    · rw [upd_ne _ _ (by decide), upd_at, nmq]
    · rw [upd_at]
      rfl) ops
  refine ⟨R, ⟨q1, q2, upd (upd (upd (upd (upd (upd (upd (upd names 0 r.2.2) 1 (nI r.2.1)) 2 y) 3 (nI (B p))) 4 (bI (S p))) 5 (nI (cnt (MK n S B E F y p r.2.1) r.2.1))) 6 (RVv n F fg gh ga gf gn y p)) 7 (nI (QL n S B E F M gh ga gf gn y p).length), ops', ?_⟩, j2⟩
  unfold f_X10_judge
  rw [e1]
  simp only [Option.bind_some]
  rw [s0]
  simp only [Option.bind_some]
  rw [s1]
  simp only [Option.bind_some]
  rw [s2, born_b h hp]
  simp only [Option.bind_some]
  rw [s3, female_b h hp]
  simp only [Option.bind_some]
  rw [eA]
  simp only [Option.bind_some]
  rw [s4]
  simp only [Option.bind_some]
  rw [s5, e2']
  simp only [Option.bind_some]
  rw [s6, size_b (s := q2) (by omega : p < 60), hq]
  simp only [Option.bind_some]
  rw [s7]
  simp only [Option.bind_some]
  rw [j1]
  rfl
theorem pr_own {k i u : Nat} {g : Int32} {ar : Nat → Int32} {r : Nat × Nat × Int32} (h : cl F ar fg k i u g = some r) : ¬ ar r.1 = -1 := by
  induction k generalizing i u g with
  | zero => cases h
  | succ k ih =>
    rw [cl] at h
    split at h
    · cases hf : F i with
      | none => rw [hf] at h; cases h
      | some j => rw [hf] at h; exact ih h
    · cases h
      assumption
theorem pr_le (h : IP n S B E F M fem born died ly fa mo) {p : Nat} (hp : p < n) {r : Nat × Nat × Int32} (hr : PR F fg gh ga gf gn y p = some r) : r.1 ≤ p ∧ r.2.1 ≤ 60 := by
  have hn := h.1
  have := cl_le (fun i hi j hj => fa_lt h hi hj) hp hr
  omega
theorem q_claim (h : IP n S B E F M fem born died ly fa mo) (hg : IG gn gh ga gf) (hx : IX kT tN tF tY ty rm rf row rk) {fu : Nat} (hfu : 1000 < fu) {p : Nat} (hp : p < n) (x2 : Int32) (rw' qr qz names ops stk ll mr qm qs : Nat → Int32) (o1 o2 o3 o4 tp : Int32) : ∃ a r1 r2 r3 r4 r5 r6 q1 q2 q3 q4 q5 q6 q7 q8 s1 s2 s3 s4 s5 s6, f_X10_claim fu fem born ly fa mo fg (nI n) gh ga gf (nI gn) (nI kT) kT tN tF tY rw' qr qz names ops o1 o2 o3 o4 (nI p) x2 y = some (a, r1, r2, r3, r4, r5, r6, q1, q2, q3, q4, q5, q6, q7, q8) ∧ f_X11_claim fu (nI n) (nI gn) (nI kT) fem born died fa mo fg gh ga gf ty rm rf row rk stk tp ll mr qm qs (nI p) x2 y = some (a, 0, s1, s2, s3, s4, s5, s6) := by
  have hn := h.1
  have hh : hs n (nI p) := hs_of (by omega) hp
  obtain ⟨row', e1, -⟩ := find_b (y := y) (fg := fg) h hg (by omega : 61 < fu) hp rw'
  have e2 := arms_q (y := y) (fg := fg) h hg (by omega : 61 < fu) hp
  unfold f_X10_claim f_X11_claim
  rw [req_1 hh, is_m1 hh]
  simp only [Option.bind_some]
  rw [if_neg i10]
  cases hr : PR F fg gh ga gf gn y p with
  | none =>
    rw [hr] at e1 e2
    have e1' : f_X5_find fu fem born ly fa fg (nI n) gh ga gf (nI gn) rw' (nI p) y = some (row', -1, -1, -1, -1, 0) := e1
    have e2' : f_X11_armsOf fu (nI gn) fa gh ga gf (nI p) y = some (-1) := e2
    rw [e1', e2']
    exact ⟨_, _, _, _, _, _, _, _, _, _, _, _, _, _, _, _, _, _, _, _, _, rfl, rfl⟩
  | some r =>
    rw [hr] at e1 e2
    have e1' : f_X5_find fu fem born ly fa fg (nI n) gh ga gf (nI gn) rw' (nI p) y = some (row', own gh ga gf gn y r.1, nI r.1, nI r.2.1, r.2.2, nI (cnt (MK n S B E F y p r.2.1) r.2.1)) := e1
    have e2' : f_X11_armsOf fu (nI gn) fa gh ga gf (nI p) y = some (own gh ga gf gn y r.1) := e2
    rw [e1', e2']
    simp only [Option.bind_some]
    have c1 : ¬ own gh ga gf gn y r.1 = -1 := pr_own hr
    rw [if_neg c1, if_neg c1]
    by_cases c2 : own gh ga gf gn y r.1 = x2
    · rw [if_pos c2, if_pos c2, living_b h hp, lives_m h hp]
      simp only [Option.bind_some]
      have hlv : (decide (¬ y < nI (B p)) && decide (¬ nI (E p) < y)) = lvb B E y p := rfl
      rw [hlv]
      cases hl : lvb B E y p
      · exact ⟨_, _, _, _, _, _, _, _, _, _, _, _, _, _, _, _, _, _, _, _, _, rfl, rfl⟩
      · rw [if_neg (by decide), if_neg (by decide)]
        obtain ⟨R, ⟨q1, q2, nm', ops', j1⟩, j2⟩ := judged (y := y) (fg := fg) h hg hx hfu hp hr qr qz names ops
        obtain ⟨stk1, tp1, ll1, mr1, qm1, qs1, m1⟩ := j2 0 stk tp ll mr qm qs
        rw [j1, m1]
        simp only [Option.bind_some]
        by_cases c3 : R 0 = 0
        · obtain ⟨arr', row2, m2, -⟩ := above_q (fg := fg) (y := y) h hg (by omega : 61 < fu) hp ll1 mr1
          rw [hr] at m2
          rw [if_pos c3, if_pos c3, m2]
          simp only [Option.bind_some]
          obtain ⟨stk2, tp2, ll2, mr2, qm2, qs2, m3⟩ := j2 1 stk1 tp1 arr' row2 qm1 qs1
          have hc : cnt (MK n S B E F y p r.2.1) r.2.1 < 2 ^ 31 := by have h1 := cnt_le (MK n S B E F y p r.2.1) r.2.1; have h2 := pr_le h hp hr; omega
          generalize hcn : cnt (MK n S B E F y p r.2.1) r.2.1 = c at hc ⊢
          have ec : (nI c ≤ (0 : Int32)) ↔ c = 0 := by
            have := nI_leI (a := c) (b := 0) hc (by decide)
            exact this.trans (by omega)
          rw [plain_b, m3]
          simp only [Option.bind_some]
          by_cases c4 : R 1 = 0
          · rw [if_pos c4, if_pos c4]
            by_cases c5 : c = 0
            · rw [if_pos (ec.mpr c5)]
              exact ⟨_, _, _, _, _, _, _, _, _, _, _, _, _, _, _, _, _, _, _, _, _, rfl, rfl⟩
            · rw [if_neg (fun w => c5 (ec.mp w))]
              exact ⟨_, _, _, _, _, _, _, _, _, _, _, _, _, _, _, _, _, _, _, _, _, rfl, rfl⟩
          · rw [if_neg c4, if_neg c4]
            by_cases c5 : c = 0
            · rw [if_pos (ec.mpr c5), dc_t (⟨c1, by rw [c5]; rfl⟩ : ¬ own gh ga gf gn y r.1 = -1 ∧ nI c = 0)]
              exact ⟨_, _, _, _, _, _, _, _, _, _, _, _, _, _, _, _, _, _, _, _, _, rfl, rfl⟩
            · rw [if_neg (fun w => c5 (ec.mp w)), dc_f (fun w : ¬ own gh ga gf gn y r.1 = -1 ∧ nI c = 0 => c5 ((nI_eq (b := 0) hc (by decide)).mp w.2))]
              exact ⟨_, _, _, _, _, _, _, _, _, _, _, _, _, _, _, _, _, _, _, _, _, rfl, rfl⟩
        · rw [if_neg c3, if_neg c3]
          exact ⟨_, _, _, _, _, _, _, _, _, _, _, _, _, _, _, _, _, _, _, _, _, rfl, rfl⟩
    · rw [if_neg c2, if_neg c2]
      exact ⟨_, _, _, _, _, _, _, _, _, _, _, _, _, _, _, _, _, _, _, _, _, rfl, rfl⟩
theorem q_fee (h : IP n S B E F M fem born died ly fa mo) (hg : IG gn gh ga gf) (hx : IX kT tN tF tY ty rm rf row rk) {fu : Nat} (hfu : 1000 < fu) {p : Nat} (hp : p < n) (rw' qr qz names ops stk ll mr qm qs : Nat → Int32) (o1 o2 o3 o4 tp : Int32) : ∃ a r1 r2 r3 r4 r5 r6 q1 q2 q3 q4 q5 q6 q7 q8 s1 s2 s3 s4 s5 s6, f_X10_fee fu fem born ly fa mo fg (nI n) gh ga gf (nI gn) (nI kT) kT tN tF tY rw' qr qz names ops o1 o2 o3 o4 (nI p) y = some (a, r1, r2, r3, r4, r5, r6, q1, q2, q3, q4, q5, q6, q7, q8) ∧ f_X11_fee fu (nI n) (nI gn) (nI kT) fem born died fa mo fg gh ga gf ty rm rf row rk stk tp ll mr qm qs (nI p) y = some (a, 0, s1, s2, s3, s4, s5, s6) := by
  have hn := h.1
  have hh : hs n (nI p) := hs_of (by omega) hp
  obtain ⟨row', e1, -⟩ := find_b (y := y) (fg := fg) h hg (by omega : 61 < fu) hp rw'
  have e2 := root_q (y := y) (fg := fg) h hg (by omega : 61 < fu) hp
  unfold f_X10_fee f_X11_fee g_X11_fee_39
  rw [req_1 hh, is_m1 hh]
  simp only [Option.bind_some]
  rw [if_neg i10]
  cases hr : PR F fg gh ga gf gn y p with
  | none =>
    rw [hr] at e1 e2
    have e1' : f_X5_find fu fem born ly fa fg (nI n) gh ga gf (nI gn) rw' (nI p) y = some (row', -1, -1, -1, -1, 0) := e1
    have e2' : f_X11_rootOf fu (nI gn) fa gh ga gf (nI p) y = some (-1) := e2
    rw [e1', e2']
    exact ⟨_, _, _, _, _, _, _, _, _, _, _, _, _, _, _, _, _, _, _, _, _, rfl, rfl⟩
  | some r =>
    rw [hr] at e1 e2
    have e1' : f_X5_find fu fem born ly fa fg (nI n) gh ga gf (nI gn) rw' (nI p) y = some (row', own gh ga gf gn y r.1, nI r.1, nI r.2.1, r.2.2, nI (cnt (MK n S B E F y p r.2.1) r.2.1)) := e1
    have e2' : f_X11_rootOf fu (nI gn) fa gh ga gf (nI p) y = some (nI r.1) := e2
    rw [e1', e2']
    simp only [Option.bind_some]
    have c1 : ¬ own gh ga gf gn y r.1 = -1 := pr_own hr
    have c0 : ¬ nI r.1 = -1 := ne_m1 r.1 (by have h2 := pr_le h hp hr; have := h.1; omega)
    rw [if_neg c1, if_neg c0]
    obtain ⟨R, ⟨q1, q2, nm', ops', j1⟩, j2⟩ := judged (y := y) (fg := fg) h hg hx hfu hp hr qr qz names ops
    obtain ⟨stk1, tp1, ll1, mr1, qm1, qs1, m1⟩ := j2 2 stk tp ll mr qm qs
    rw [j1, m1]
    exact ⟨_, _, _, _, _, _, _, _, _, _, _, _, _, _, _, _, _, _, _, _, _, rfl, rfl⟩
theorem q_claim_x {fu : Nat} (x1 x2 : Int32) (hh : ¬ hs n x1) (rw' qr qz names ops stk ll mr qm qs : Nat → Int32) (ra rr rs rg rn o1 o2 o3 o4 tp : Int32) : f_X10_claim_x (nI n) rw' ra rr rs rg rn qr qz names ops o1 o2 o3 o4 x1 = some (rw', ra, rr, rs, rg, rn, qr, qz, names, ops, o1, o2, o3, o4) ∧ f_X11_claim fu (nI n) (nI gn) (nI kT) fem born died fa mo fg gh ga gf ty rm rf row rk stk tp ll mr qm qs x1 x2 y = some (0, 1, stk, tp, ll, mr, qm, qs) := by
  unfold f_X10_claim_x f_X11_claim
  rw [reqx_0 hh, is_m0 hh]
  exact ⟨rfl, rfl⟩
theorem q_fee_x {fu : Nat} (x1 : Int32) (hh : ¬ hs n x1) (rw' qr qz names ops stk ll mr qm qs : Nat → Int32) (ra rr rs rg rn o1 o2 o3 o4 tp : Int32) : f_X10_fee_x (nI n) rw' ra rr rs rg rn qr qz names ops o1 o2 o3 o4 x1 = some (rw', ra, rr, rs, rg, rn, qr, qz, names, ops, o1, o2, o3, o4) ∧ f_X11_fee fu (nI n) (nI gn) (nI kT) fem born died fa mo fg gh ga gf ty rm rf row rk stk tp ll mr qm qs x1 y = some (0, 1, stk, tp, ll, mr, qm, qs) := by
  unfold f_X10_fee_x f_X11_fee
  rw [reqx_0 hh, is_m0 hh]
  exact ⟨rfl, rfl⟩
end
