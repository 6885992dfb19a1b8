/-! Copies: drift, the first of a chain, how many were taken; the call. -/
def ctn (p : Nat → Bool) : Nat → Nat
  | 0 => 0
  | t + 1 => ctn p t + (if p t = true then 1 else 0)
theorem ctn_le {p q : Nat → Bool} : ∀ {t : Nat}, (∀ i, i < t → p i = true → q i = true) → ctn p t ≤ ctn q t := by
  intro t
  induction t with
  | zero => intro _; exact Nat.le_refl _
  | succ t ih =>
    intro h
    have h1 := ih (fun i hi => h i (by omega))
    have h2 := h t (by omega)
    simp only [ctn]
    by_cases c : p t = true
    · rw [if_pos c, if_pos (h2 c)]; omega
    · rw [if_neg c]; omega
theorem ctn_lt {p q : Nat → Bool} : ∀ {t : Nat} {s : Nat}, (∀ i, i < t → p i = true → q i = true) → s < t → q s = true → p s = false → ctn p t < ctn q t := by
  intro t
  induction t with
  | zero => intro s _ hs; omega
  | succ t ih =>
    intro s h hs hq hp
    simp only [ctn]
    rcases Nat.lt_or_ge s t with c | c
    · have h1 := ih (fun i hi => h i (by omega)) c hq hp
      have h2 := h t (by omega)
      by_cases e : p t = true
      · rw [if_pos e, if_pos (h2 e)]; omega
      · rw [if_neg e]; omega
    · have e : s = t := by omega
      subst e
      have h1 := ctn_le (fun i hi => h i (by omega)) (t := s)
      rw [if_pos hq, if_neg (by rw [hp]; decide)]
      omega
theorem ctn_max {p : Nat → Bool} (t : Nat) : ctn p t ≤ t := by
  induction t with
  | zero => exact Nat.le_refl _
  | succ t ih => simp only [ctn]; split <;> omega
section
variable {n c : Nat} {yrs rows : Nat → Int32}
def rk (yrs : Nat → Int32) (n c : Nat) : Nat := ctn (fun i => decide (yrs i < yrs c)) n
def src (yrs rows : Nat → Int32) (n c : Nat) : Option Nat := s5 rows c (msrc yrs rows c n)
theorem ms_year {t b : Nat} (h : msrc yrs rows c t = some b) : yrs b < yrs c := by
  induction t with
  | zero => cases h
  | succ t ih =>
    rw [msrc] at h
    split at h
    · rename_i w; cases h; exact w.1
    · exact ih h
theorem src_some {b : Nat} (h : src yrs rows n c = some b) : b < n ∧ yrs b < yrs c ∧ DF rows c b ≤ 4 := by
  obtain ⟨h1, h2⟩ := s5_some h
  exact ⟨ms_lt h1, ms_year h1, h2⟩
theorem rk_lt {b : Nat} (h : src yrs rows n c = some b) : rk yrs n b < rk yrs n c := by
  obtain ⟨h1, h2, -⟩ := src_some h
  refine ctn_lt (s := b) (fun i _ hi => ?_) h1 (decide_eq_true h2) (decide_eq_false Int32.lt_irrefl)
  exact decide_eq_true (Int32.lt_trans (of_decide_eq_true hi) h2)
theorem rk_max (hc : c < n) : rk yrs n c < n := by
  have h1 : rk yrs n c < ctn (fun _ => true) n := ctn_lt (s := c) (fun _ _ _ => rfl) hc rfl (decide_eq_false Int32.lt_irrefl)
  have h2 := ctn_max (p := fun _ => true) n
  omega
theorem taken_q (h : IC n yrs) (hc : c < n) {fu : Nat} (hfu : 61 < fu) : f_X11_takenFrom fu (nI n) yrs rows (nI c) = some (oI (src yrs rows n c)) := by
  have hn := h.1
  exact taken_m h hc hfu fu 0 (Nat.zero_le _) (by omega)
theorem source_q (h : IC n yrs) (hc : c < n) {fu : Nat} (hfu : 61 < fu) : f_X0_sourceOf fu yrs rows (nI n) (nI c) = some (oI (src yrs rows n c)) := by
  have hn := h.1
  exact source_b h hc hfu fu 0 (Nat.zero_le _) (by omega)
theorem chain_q (h : IC n yrs) {fu : Nat} (hfu : 61 < fu) : ∀ r k (o : Nat) (acc : Int32) (u : Nat), o < n → rk yrs n o ≤ r → r < k → r + u ≤ 39 → ∃ acc' o', (∀ x1 x2, f_X11_of_73 fu (nI n) yrs rows k (x1, x2, acc, nI o, oI (src yrs rows n o), 0) = f_X11_of_113 fu (nI n) yrs rows fu (x1, x2, acc', o', 0, 0, 0)) ∧ f_X0_driftOf_14 fu yrs rows (nI n) k (acc, nI o, oI (src yrs rows n o), nI u) = some acc' ∧ f_X0_originalOf_11 fu yrs rows (nI n) k (nI o, oI (src yrs rows n o), nI u) = some o' := by
  have hn := h.1
  intro r
  induction r with
  | zero =>
    intro k o acc u ho hr hk hu
    cases k with
    | zero => omega
    | succ k =>
    have hs : src yrs rows n o = none := by
      cases e : src yrs rows n o with
      | none => rfl
      | some b => have := rk_lt e; omega
    have e40 : ¬ (40 : Int32) ≤ nI u := nI_ge (a := u) (b := 40) (by omega) (by decide)
    refine ⟨acc, nI o, fun x1 x2 => ?_, ?_, ?_⟩
    · show g_X11_of_73 fu (nI n) yrs rows 0 (fun a b d e f g => f_X11_of_73 fu (nI n) yrs rows k (a, b, d, e, f, g)) x1 x2 acc (nI o) (oI (src yrs rows n o)) = _
      unfold g_X11_of_73
      rw [hs, oI_none, if_pos rfl]
    · show g_X0_driftOf_14 fu yrs rows (nI n) (fun a b d e => f_X0_driftOf_14 fu yrs rows (nI n) k (a, b, d, e)) acc (nI o) (oI (src yrs rows n o)) (nI u) = _
      unfold g_X0_driftOf_14 g_X0_driftOf_53
      rw [hs, oI_none, if_neg e40, if_pos rfl]
    · show g_X0_originalOf_11 fu yrs rows (nI n) (fun a b d => f_X0_originalOf_11 fu yrs rows (nI n) k (a, b, d)) (nI o) (oI (src yrs rows n o)) (nI u) = _
      unfold g_X0_originalOf_11 g_X0_originalOf_37
      rw [hs, oI_none, if_neg e40, if_pos rfl]
  | succ r ih =>
    intro k o acc u ho hr hk hu
    cases k with
    | zero => omega
    | succ k =>
    have e40 : ¬ (40 : Int32) ≤ nI u := nI_ge (a := u) (b := 40) (by omega) (by decide)
    cases hs : src yrs rows n o with
    | none =>
      refine ⟨acc, nI o, fun x1 x2 => ?_, ?_, ?_⟩
      · show g_X11_of_73 fu (nI n) yrs rows 0 (fun a b d e f g => f_X11_of_73 fu (nI n) yrs rows k (a, b, d, e, f, g)) x1 x2 acc (nI o) (oI none) = _
        unfold g_X11_of_73
        rw [oI_none, if_pos rfl]
      · show g_X0_driftOf_14 fu yrs rows (nI n) (fun a b d e => f_X0_driftOf_14 fu yrs rows (nI n) k (a, b, d, e)) acc (nI o) (oI none) (nI u) = _
        unfold g_X0_driftOf_14 g_X0_driftOf_53
        rw [oI_none, if_neg e40, if_pos rfl]
      · show g_X0_originalOf_11 fu yrs rows (nI n) (fun a b d => f_X0_originalOf_11 fu yrs rows (nI n) k (a, b, d)) (nI o) (oI none) (nI u) = _
        unfold g_X0_originalOf_11 g_X0_originalOf_37
        rw [oI_none, if_neg e40, if_pos rfl]
    | some s =>
      have hlt := rk_lt hs
      obtain ⟨hsn, -, -⟩ := src_some hs
      obtain ⟨acc', o', i1, i2, i3⟩ := ih k s (acc + nI (DF rows o s)) (u + 1) hsn (by omega) (by omega) (by omega)
      have hne := ne_m1 s (by omega)
      refine ⟨acc', o', fun x1 x2 => ?_, ?_, ?_⟩
      · show g_X11_of_73 fu (nI n) yrs rows 0 (fun a b d e f g => f_X11_of_73 fu (nI n) yrs rows k (a, b, d, e, f, g)) x1 x2 acc (nI o) (oI (some s)) = _
        unfold g_X11_of_73
        rw [oI_some, if_neg hne, unlike_q hfu (by omega) (by omega), taken_q h hsn hfu]
        simp only [Option.bind_some]
        exact i1 x1 x2
      · show g_X0_driftOf_14 fu yrs rows (nI n) (fun a b d e => f_X0_driftOf_14 fu yrs rows (nI n) k (a, b, d, e)) acc (nI o) (oI (some s)) (nI u) = _
        unfold g_X0_driftOf_14
        rw [oI_some, if_neg e40, if_neg hne, changes_q hn ho hsn hfu, source_q h hsn hfu, nI_1]
        simp only [Option.bind_some]
        exact i2
      · show g_X0_originalOf_11 fu yrs rows (nI n) (fun a b d => f_X0_originalOf_11 fu yrs rows (nI n) k (a, b, d)) (nI o) (oI (some s)) (nI u) = _
        unfold g_X0_originalOf_11
        rw [oI_some, if_neg e40, if_neg hne, source_q h hsn hfu, nI_1]
        simp only [Option.bind_some]
        exact i3
theorem src_iff (h : IC n yrs) {k : Nat} (hc : c < n) : (oI (src yrs rows n k) = nI c) ↔ src yrs rows n k = some c := by
  have hn := h.1
  have := oI_inj (a := src yrs rows n k) (b := some c) (fun j hj => by have := (src_some hj).1; omega) (fun j hj => by cases hj; omega)
  exact this
def tkn (yrs rows : Nat → Int32) (n c : Nat) : Nat → Nat := ctn (fun k => decide (src yrs rows n k = some c))
theorem tkn_s (t : Nat) : tkn yrs rows n c (t + 1) = tkn yrs rows n c t + (if src yrs rows n t = some c then 1 else 0) := by
  unfold tkn
  simp only [ctn, decide_eq_true_eq]
theorem takes_b (h : IC n yrs) (hc : c < n) {fu : Nat} (hfu : 61 < fu) : ∀ k t, t ≤ n → n - t < k → f_X0_takenFrom_4 fu yrs rows (nI n) k (nI c, nI (tkn yrs rows n c t), nI t) = some (nI (tkn yrs rows n c n)) := by
  have hn := h.1
  intro k
  induction k with
  | zero => intro t _ h0; omega
  | succ k ih =>
    intro t ht hk
    show g_X0_takenFrom_4 fu yrs rows (nI n) (fun a b d => f_X0_takenFrom_4 fu yrs rows (nI n) k (a, b, d)) (nI c) (nI (tkn yrs rows n c t)) (nI t) = _
    unfold g_X0_takenFrom_4 g_X0_takenFrom_24
    rcases Nat.lt_or_ge t n with q | q
    · rw [if_neg (nI_ge q (by omega)), source_q h q hfu, nI_1, nI_1]
      simp only [Option.bind_some]
      have hi := ih (t + 1) q (by omega)
      rw [tkn_s] at hi
      by_cases e : src yrs rows n t = some c
      · rw [if_pos ((src_iff h hc).mpr e)]
        rw [if_pos e] at hi
        exact hi
      · rw [if_neg (fun w => e ((src_iff h hc).mp w))]
        rw [if_neg e] at hi
        exact hi
    · have e : t = n := by omega
      subst e
      rw [if_pos (nI_le (Nat.le_refl _) (by omega))]
theorem takes_m (h : IC n yrs) (hc : c < n) {fu : Nat} (hfu : 61 < fu) (x2 a o : Int32) : ∀ k t, t ≤ n → n - t < k → f_X11_of_113 fu (nI n) yrs rows k (nI c, x2, a, o, nI (tkn yrs rows n c t), nI t, 0) = some (if x2 = 2 then a else if x2 = 3 then o else nI (tkn yrs rows n c n), 0) := by
  have hn := h.1
  intro k
  induction k with
  | zero => intro t _ h0; omega
  | succ k ih =>
    intro t ht hk
    show g_X11_of_113 fu (nI n) yrs rows 0 (fun a b d e f g i => f_X11_of_113 fu (nI n) yrs rows k (a, b, d, e, f, g, i)) (nI c) x2 a o (nI (tkn yrs rows n c t)) (nI t) = _
    unfold g_X11_of_113 g_X11_of_139 g_X11_of_170
    rcases Nat.lt_or_ge t n with q | q
    · rw [if_neg (nI_ge q (by omega)), taken_q h q hfu, nI_1, nI_1, show nI (tkn yrs rows n c t) + 0 = nI (tkn yrs rows n c t) from Int32.add_zero _]
      simp only [Option.bind_some]
      have hi := ih (t + 1) q (by omega)
      rw [tkn_s] at hi
      by_cases e : src yrs rows n t = some c
      · rw [if_pos ((src_iff h hc).mpr e)]
        rw [if_pos e] at hi
        exact hi
      · rw [if_neg (fun w => e ((src_iff h hc).mp w))]
        rw [if_neg e] at hi
        exact hi
    · have e : t = n := by omega
      subst e
      rw [if_pos (nI_le (Nat.le_refl _) (by omega))]
      by_cases e2 : x2 = 2
      · rw [if_pos e2, if_pos e2]
      · rw [if_neg e2, if_neg e2]
        by_cases e3 : x2 = 3
        · rw [if_pos e3, if_pos e3]
        · rw [if_neg e3, if_neg e3]
theorem q_of (h : IC n yrs) {fu : Nat} (hfu : 61 < fu) (hc : c < n) (x2 : Int32) (hw : x2 = 0 ∨ x2 = 1 ∨ x2 = 2 ∨ x2 = 3 ∨ x2 = 4) : ∃ a, f_X10_of fu yrs rows (nI n) (nI c) x2 = some a ∧ f_X11_of fu (nI n) yrs rows (nI c) x2 = some (a, 0) := by
  have hn := h.1
  have hh := hs_of (n := n) (by omega) hc
  have hz : f_X0_takenFrom fu yrs rows (nI n) (nI c) = some (nI (tkn yrs rows n c n)) := takes_b h hc hfu fu 0 (Nat.zero_le _) (by omega)
  have hm := fun (x2 a o : Int32) => takes_m (rows := rows) h hc hfu x2 a o fu 0 (Nat.zero_le _) (by omega)
  obtain ⟨a', o', i1, i2, i3⟩ := chain_q (rows := rows) h hfu (rk yrs n c) fu c 0 0 hc (Nat.le_refl _) (by have := rk_max (yrs := yrs) hc; omega) (by have := rk_max (yrs := yrs) hc; omega)
  have hd : f_X0_driftOf fu yrs rows (nI n) (nI c) = some a' := by
    unfold f_X0_driftOf
    rw [source_q h hc hfu]
    exact i2
  have ho : f_X0_originalOf fu yrs rows (nI n) (nI c) = some o' := by
    unfold f_X0_originalOf
    rw [source_q h hc hfu]
    exact i3
  unfold f_X10_of f_X11_of
  rw [has0_1 hh, if_neg hh.1, if_neg hh.2, taken_q h hc hfu, source_q h hc hfu, hz, hd, ho]
  simp only [Option.bind_some]
  rw [if_neg i10]
  rcases hw with rfl | rfl | rfl | rfl | rfl
  · exact ⟨_, rfl, rfl⟩
  · rw [if_neg (by decide), if_pos (by decide), if_neg (by decide), if_pos (by decide), if_neg (by decide), if_pos (by decide)]
    unfold f_X0_changesOf g_X0_changesOf_21 g_X11_of_63
    rw [source_q h hc hfu]
    simp only [Option.bind_some]
    cases hs : src yrs rows n c with
    | none => rw [oI_none, if_pos rfl, if_pos rfl]; exact ⟨_, rfl, rfl⟩
    | some s =>
      obtain ⟨hsn, -, -⟩ := src_some hs
      rw [oI_some, if_neg (ne_m1 s (by omega)), if_neg (ne_m1 s (by omega)), changes_q hn hc hsn hfu, unlike_q hfu (by omega) (by omega)]
      exact ⟨_, rfl, rfl⟩
  · rw [i1]
    have e := hm 2 a' o'
    exact ⟨_, rfl, e⟩
  · rw [i1]
    have e := hm 3 a' o'
    exact ⟨_, rfl, e⟩
  · rw [i1]
    have e := hm 4 a' o'
    exact ⟨_, rfl, e⟩
theorem q_of_x {fu : Nat} (x1 x2 : Int32) (hw : ¬ (hs n x1 ∧ (x2 = 0 ∨ x2 = 1 ∨ x2 = 2 ∨ x2 = 3 ∨ x2 = 4))) : f_X10_of_x (nI n) x1 x2 = some () ∧ f_X11_of fu (nI n) yrs rows x1 x2 = some (0, 1) := by
  have hg : g_X11_of_26 = some (0, 1) := rfl
  unfold f_X10_of_x f_X11_of
  by_cases hh : hs n x1
  · rw [has0_1 hh, if_neg hh.1, if_neg hh.2]
    simp only [Option.bind_some]
    have hx : ¬ (x2 = 0 ∨ x2 = 1 ∨ x2 = 2 ∨ x2 = 3 ∨ x2 = 4) := fun w => hw ⟨hh, w⟩
    rw [if_neg i10, if_neg (fun e => hx (Or.inl e)), if_neg (fun e => hx (Or.inr (Or.inl e))), if_neg (fun e => hx (Or.inr (Or.inr (Or.inl e)))), if_neg (fun e => hx (Or.inr (Or.inr (Or.inr (Or.inl e))))), if_neg (fun e => hx (Or.inr (Or.inr (Or.inr (Or.inr e)))))]
    refine ⟨rfl, ?_⟩
    by_cases c1 : x2 < 0
    · rw [if_pos c1]; exact hg
    rw [if_neg c1]
    obtain ⟨j, hj, rfl⟩ := nI_of c1
    have c2 : ¬ nI j ≤ (4 : Int32) := fun w => by
      have w2 := (nI_leI (b := 4) hj (by decide)).mp w
      rcases (show j = 0 ∨ j = 1 ∨ j = 2 ∨ j = 3 ∨ j = 4 by omega) with rfl | rfl | rfl | rfl | rfl
      · exact hx (Or.inl rfl)
      · exact hx (Or.inr (Or.inl rfl))
      · exact hx (Or.inr (Or.inr (Or.inl rfl)))
      · exact hx (Or.inr (Or.inr (Or.inr (Or.inl rfl))))
      · exact hx (Or.inr (Or.inr (Or.inr (Or.inr rfl))))
    rw [if_neg c2]
    exact hg
  · rw [has0_0 hh]
    simp only [Option.bind_some]
    refine ⟨rfl, ?_⟩
    by_cases h1 : x1 < 0
    · rw [if_pos h1]; exact hg
    · rw [if_neg h1, if_pos (Classical.byContradiction fun h2 => hh ⟨h1, h2⟩)]; exact hg
theorem q_count {a b d e f : Int32} (x : Int32) (hw : x = 0 ∨ x = 1 ∨ x = 2 ∨ x = 3 ∨ x = 4) : ∃ v, f_X10_count a b f d e x = some v ∧ f_X11_count a b d e f x = some (v, 0) := by
  rcases hw with rfl | rfl | rfl | rfl | rfl <;> exact ⟨_, rfl, rfl⟩
theorem q_count_x {a b d e f : Int32} (x : Int32) (hw : ¬ (x = 0 ∨ x = 1 ∨ x = 2 ∨ x = 3 ∨ x = 4)) : f_X10_count_x x = some () ∧ f_X11_count a b d e f x = some (0, 1) := by
  have h0 : ¬ x = 0 := fun e => hw (Or.inl e)
  have h1 : ¬ x = 1 := fun e => hw (Or.inr (Or.inl e))
  have h2 : ¬ x = 2 := fun e => hw (Or.inr (Or.inr (Or.inl e)))
  have h3 : ¬ x = 3 := fun e => hw (Or.inr (Or.inr (Or.inr (Or.inl e))))
  have h4 : ¬ x = 4 := fun e => hw (Or.inr (Or.inr (Or.inr (Or.inr e))))
  unfold f_X10_count_x f_X11_count
  rw [if_neg h0, if_neg h1, if_neg h2, if_neg h3, if_neg h4, if_neg h0, if_neg h1, if_neg h2, if_neg h3, if_neg h4]
  exact ⟨rfl, rfl⟩
end
