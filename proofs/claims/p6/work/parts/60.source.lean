/-! Copies: what one was taken from. -/
def IC (n : Nat) (yrs : Nat → Int32) : Prop := n ≤ 40 ∧ ∀ i, i < n → ∃ y, 1000 ≤ y ∧ y ≤ 2000 ∧ yrs i = nI y
def DF (rows : Nat → Int32) (c t : Nat) : Nat := dfc (rows c) (rows t) 8
def msrc (yrs rows : Nat → Int32) (c : Nat) : Nat → Option Nat
  | 0 => none
  | t + 1 => if yrs t < yrs c ∧ (∀ b, msrc yrs rows c t = some b → DF rows c t < DF rows c b ∨ (DF rows c t = DF rows c b ∧ yrs b < yrs t)) then some t else msrc yrs rows c t
def s5 (rows : Nat → Int32) (c : Nat) (o : Option Nat) : Option Nat := match o with
  | none => none
  | some b => if DF rows c b ≤ 4 then some b else none
def few (rows : Nat → Int32) (c : Nat) (o : Option Nat) : Int32 := match o with
  | none => 4
  | some b => nI (DF rows c b)
section
variable {n c : Nat} {yrs rows : Nat → Int32}
theorem ms_no {t : Nat} (h : ¬ (yrs t < yrs c ∧ (∀ b, msrc yrs rows c t = some b → DF rows c t < DF rows c b ∨ (DF rows c t = DF rows c b ∧ yrs b < yrs t)))) : msrc yrs rows c (t + 1) = msrc yrs rows c t := by rw [msrc, if_neg h]
theorem ms_yes {t : Nat} (h : yrs t < yrs c ∧ (∀ b, msrc yrs rows c t = some b → DF rows c t < DF rows c b ∨ (DF rows c t = DF rows c b ∧ yrs b < yrs t))) : msrc yrs rows c (t + 1) = some t := by rw [msrc, if_pos h]
theorem ms_lt {t b : Nat} (h : msrc yrs rows c t = some b) : b < t := by
  induction t with
  | zero => cases h
  | succ t ih =>
    rw [msrc] at h
    split at h
    · cases h; omega
    · have := ih h; omega
theorem DF_le (a b : Nat) : DF rows a b ≤ 8 := dfc_le _ _ 8
theorem unlike_q {fu x y : Nat} (hfu : 61 < fu) (hx : x < 40) (hy : y < 40) : f_X11_unlike fu rows (nI x) (nI y) = some (nI (DF rows x y)) := unlike_m hx hy fu 0 (Nat.zero_le _) (by omega)
theorem taken_m (h : IC n yrs) (hc : c < n) {fu : Nat} (hfu : 61 < fu) : ∀ k t, t ≤ n → n - t < k → f_X11_takenFrom_4 fu (nI n) yrs rows k (nI c, oI (msrc yrs rows c t), nI t) = some (oI (s5 rows c (msrc yrs rows c n))) := by
  have hn := h.1
  intro k
  induction k with
  | zero => intro t _ h0; omega
  | succ k ih =>
    intro t ht hk
    show g_X11_takenFrom_4 fu (nI n) yrs rows (fun a b d => f_X11_takenFrom_4 fu (nI n) yrs rows k (a, b, d)) (nI c) (oI (msrc yrs rows c t)) (nI t) = _
    unfold g_X11_takenFrom_4 g_X11_takenFrom_52 g_X11_takenFrom_84 g_X11_takenFrom_86 g_X11_takenFrom_107 g_X11_takenFrom_112
    rcases Nat.lt_or_ge t n with q | q
    · rw [if_neg (nI_ge q (by omega)), nI_1]
      simp only [inb_nI (N := 40) (n := t) (by omega) (by decide), inb_nI (N := 40) (n := c) (by omega) (by decide), nI_clamp (n := t) (by omega), nI_clamp (n := c) (by omega), if_true]
      have go : ∀ o, msrc yrs rows c (t + 1) = o → f_X11_takenFrom_4 fu (nI n) yrs rows k (nI c, oI o, nI (t + 1)) = some (oI (s5 rows c (msrc yrs rows c n))) := fun o ho => by
        rw [← ho]
        exact ih (t + 1) q (by omega)
      by_cases c1 : yrs t < yrs c
      · rw [if_pos c1]
        cases hb : msrc yrs rows c t with
        | none =>
          rw [oI_none, if_pos rfl, if_pos rfl]
          exact go (some t) (ms_yes ⟨c1, fun b w => by rw [hb] at w; cases w⟩)
        | some b =>
          have hbt := ms_lt hb
          have d1 := DF_le (rows := rows) c t
          have d2 := DF_le (rows := rows) c b
          rw [oI_some, if_neg (ne_m1 b (by omega)), unlike_q hfu (by omega) (by omega), unlike_q hfu (by omega) (by omega)]
          simp only [Option.bind_some]
          rw [if_neg (ne_m1 b (by omega))]
          simp only [inb_nI (N := 40) (n := b) (by omega) (by decide), nI_clamp (n := b) (by omega), if_true]
          by_cases c2 : nI (DF rows c t) - nI (DF rows c b) < 0
          · rw [if_pos c2]
            rw [sub_neg (by omega) (by omega)] at c2
            exact go (some t) (ms_yes ⟨c1, fun b' w => by rw [hb] at w; cases w; exact Or.inl c2⟩)
          rw [if_neg c2]
          rw [sub_neg (by omega) (by omega)] at c2
          by_cases c3 : nI (DF rows c t) - nI (DF rows c b) = 0
          · rw [if_pos c3]
            rw [sub_zero (by omega) (by omega)] at c3
            by_cases c4 : yrs t ≤ yrs b
            · rw [if_pos c4]
              refine go (some b) ?_
              rw [ms_no (fun w => by
                rcases w.2 b hb with v | v
                · exact c2 v
                · exact absurd c4 (Int32.not_le.mpr v.2)), hb]
            · rw [if_neg c4]
              exact go (some t) (ms_yes ⟨c1, fun b' w => by rw [hb] at w; cases w; exact Or.inr ⟨c3, Int32.not_le.mp c4⟩⟩)
          · rw [if_neg c3]
            rw [sub_zero (by omega) (by omega)] at c3
            refine go (some b) ?_
            rw [ms_no (fun w => by
              rcases w.2 b hb with v | v
              · exact c2 v
              · exact c3 v.1), hb]
      · rw [if_neg c1]
        exact go _ (ms_no fun w => c1 w.1)
    · have e : t = n := by omega
      subst e
      rw [if_pos (nI_le (Nat.le_refl _) (by omega))]
      cases hb : msrc yrs rows c t with
      | none => rfl
      | some b =>
        have hbt := ms_lt hb
        have d2 := DF_le (rows := rows) c b
        rw [oI_some, if_neg (ne_m1 b (by omega)), unlike_q hfu (by omega) (by omega)]
        simp only [Option.bind_some, s5]
        have e4 : (nI (DF rows c b) ≤ (4 : Int32)) ↔ DF rows c b ≤ 4 := nI_leI (b := 4) (by omega) (by decide)
        by_cases c5 : DF rows c b ≤ 4
        · rw [if_pos (e4.mpr c5), if_pos c5]
          rfl
        · rw [if_neg (mt e4.mp c5), if_neg c5]
          rfl
theorem has0_1 {x : Int32} (h : hs n x) : f_X0_has (nI n) x = some 1 := by
  unfold f_X0_has
  rw [if_neg h.1, if_neg h.2]
  rfl
theorem has0_0 {x : Int32} (h : ¬ hs n x) : f_X0_has (nI n) x = some 0 := by
  unfold f_X0_has
  by_cases h1 : x < 0
  · rw [if_pos h1]; rfl
  · rw [if_neg h1, if_pos (Classical.byContradiction fun h2 => h ⟨h1, h2⟩)]; rfl
theorem row_b (hn : n ≤ 40) {i : Nat} (hi : i < n) : f_X0_rowOf rows (nI n) (nI i) = some (rows i) := by
  unfold f_X0_rowOf g_X0_rowOf_18
  rw [has0_1 (hs_of (by omega) hi)]
  simp only [Option.bind_some, inb_nI (N := 40) (n := i) (by omega) (by decide), nI_clamp (n := i) (by omega), if_true]
  rw [if_neg i10]
theorem year_b (hn : n ≤ 40) {i : Nat} (hi : i < n) : f_X0_yearOf yrs (nI n) (nI i) = some (yrs i) := by
  unfold f_X0_yearOf g_X0_yearOf_18
  rw [has0_1 (hs_of (by omega) hi)]
  simp only [Option.bind_some, inb_nI (N := 40) (n := i) (by omega) (by decide), nI_clamp (n := i) (by omega), if_true]
  rw [if_neg i10]
theorem year_n : f_X0_yearOf yrs (nI n) (-1) = some (-1) := by
  unfold f_X0_yearOf g_X0_yearOf_18
  rw [has0_0 fun w => w.1 (by decide)]
  rfl
theorem changes_q (hn : n ≤ 40) {x y fu : Nat} (hx : x < n) (hy : y < n) (hfu : 61 < fu) : f_X0_changes fu rows (nI n) (nI x) (nI y) = some (nI (DF rows x y)) := by
  unfold f_X0_changes
  rw [row_b hn hx, row_b hn hy]
  exact changes_b (rows x) (rows y) fu 0 (Nat.zero_le _) (by omega)
end
