/-! rivals. -/
def rv (ar : Nat → Int32) (r : Nat) : Nat → Nat
  | 0 => 0
  | t + 1 => if ¬ t = r ∧ ar t = ar r then rv ar r t + 1 else rv ar r t
section
variable {n gn : Nat} {S : Nat → Bool} {B E : Nat → Nat} {F M : Nat → Option Nat} {fem born died ly fa mo fg gh ga gf : Nat → Int32} {y : Int32}
theorem rivals_b (hn : n ≤ 60) (hg : IG gn gh ga gf) {fu : Nat} (hfu : 61 < fu) {r : Nat} (hr : r < n) : ∀ k t, t ≤ n → n - t < k → f_X10_countRivals_17 fu (nI n) gh ga gf (nI gn) (own gh ga gf gn y r) (nI r) k (y, nI (rv (own gh ga gf gn y) r t), nI t) = some (nI (rv (own gh ga gf gn y) r n)) := by
  intro k
  induction k with
  | zero => intro t _ h0; omega
  | succ k ih =>
    intro t ht hk
    show g_X10_countRivals_17 fu (nI n) gh ga gf (nI gn) (own gh ga gf gn y r) (nI r) (fun a b c => f_X10_countRivals_17 fu (nI n) gh ga gf (nI gn) (own gh ga gf gn y r) (nI r) k (a, b, c)) y (nI (rv (own gh ga gf gn y) r t)) (nI t) = _
    unfold g_X10_countRivals_17 g_X10_countRivals_61
    rw [nI_1, nI_1]
    rcases Nat.lt_or_ge t n with q | q
    · rw [if_neg (nI_ge q (by omega)), q_own_b hg (by omega)]
      simp only [Option.bind_some]
      have := ih (t + 1) q (by omega)
      rw [rv] at this
      by_cases c1 : nI t = nI r
      · rw [if_pos c1]
        rw [nI_eq (by omega) (by omega)] at c1
        rw [if_neg fun w => w.1 c1] at this
        exact this
      rw [if_neg c1]
      rw [nI_eq (by omega) (by omega)] at c1
      by_cases c2 : own gh ga gf gn y t = own gh ga gf gn y r
      · have c2' : aw gh ga gf (nI t) y gn = own gh ga gf gn y r := c2
        rw [if_pos c2']
        rw [if_pos ⟨c1, c2⟩] at this
        exact this
      · have c2' : ¬ aw gh ga gf (nI t) y gn = own gh ga gf gn y r := c2
        rw [if_neg c2']
        rw [if_neg fun w => c2 w.2] at this
        exact this
    · have e : t = n := by omega
      subst e
      rw [if_pos (nI_le (Nat.le_refl _) (by omega))]
theorem rivals_m (hn : n ≤ 60) (hg : IG gn gh ga gf) {fu : Nat} (hfu : 61 < fu) {r : Nat} (hr : r < n) : ∀ k t, t ≤ n → n - t < k → f_X11_rivalsOf_13 fu (nI n) (nI gn) gh ga gf k (y, nI r, nI (rv (own gh ga gf gn y) r t), nI t) = some (nI (rv (own gh ga gf gn y) r n)) := by
  intro k
  induction k with
  | zero => intro t _ h0; omega
  | succ k ih =>
    intro t ht hk
    show g_X11_rivalsOf_13 fu (nI n) (nI gn) gh ga gf (fun a b c d => f_X11_rivalsOf_13 fu (nI n) (nI gn) gh ga gf k (a, b, c, d)) y (nI r) (nI (rv (own gh ga gf gn y) r t)) (nI t) = _
    unfold g_X11_rivalsOf_13 g_X11_rivalsOf_55 g_X11_rivalsOf_56 g_X11_rivalsOf_65
    rcases Nat.lt_or_ge t n with q | q
    · rw [if_neg (nI_ge q (by omega)), if_neg (ne_m1 r (by omega)), q_own_m hg (by omega), q_own_m hg (by omega), nI_1, Int32.add_zero, nI_1]
      simp only [Option.bind_some]
      have := ih (t + 1) q (by omega)
      rw [rv] at this
      by_cases c1 : nI t = nI r
      · rw [if_pos c1]
        rw [nI_eq (by omega) (by omega)] at c1
        rw [if_neg fun w => w.1 c1] at this
        exact this
      rw [if_neg c1]
      rw [nI_eq (by omega) (by omega)] at c1
      by_cases c2 : own gh ga gf gn y t = own gh ga gf gn y r
      · have c2' : aw gh ga gf (nI t) y gn = aw gh ga gf (nI r) y gn := c2
        rw [if_pos c2']
        rw [if_pos ⟨c1, c2⟩] at this
        exact this
      · have c2' : ¬ aw gh ga gf (nI t) y gn = aw gh ga gf (nI r) y gn := c2
        rw [if_neg c2']
        rw [if_neg fun w => c2 w.2] at this
        exact this
    · have e : t = n := by omega
      subst e
      rw [if_pos (nI_le (Nat.le_refl _) (by omega))]
def RVv (n : Nat) (F : Nat → Option Nat) (fg gh ga gf : Nat → Int32) (gn : Nat) (y : Int32) (p : Nat) : Int32 := match PR F fg gh ga gf gn y p with
  | none => 0
  | some r => nI (rv (own gh ga gf gn y) r.1 n)
theorem rivalsOf_q (h : IP n S B E F M fem born died ly fa mo) (hg : IG gn gh ga gf) {fu : Nat} (hfu : 61 < fu) {p : Nat} (hp : p < n) : f_X11_rivalsOf fu (nI n) (nI gn) fa gh ga gf (nI p) y = some (RVv n F fg gh ga gf gn y p) := by
  have hn := h.1
  unfold f_X11_rivalsOf RVv
  rw [root_q (fg := fg) h hg hfu hp]
  simp only [Option.bind_some]
  cases hr : PR F fg gh ga gf gn y p with
  | none =>
    obtain ⟨fu, rfl⟩ : ∃ k, fu = k + 1 := ⟨fu - 1, by omega⟩
    show g_X11_rivalsOf_13 (fu + 1) (nI n) (nI gn) gh ga gf _ y (-1) 0 0 = some 0
    unfold g_X11_rivalsOf_13 g_X11_rivalsOf_65
    rw [if_pos rfl, ite_self]
  | some r =>
    have hle := cl_le (fun i hi j hj => fa_lt h hi hj) hp hr
    exact rivals_m hn hg hfu (by omega) fu 0 (Nat.zero_le _) (by omega)
theorem countRivals_q (h : IP n S B E F M fem born died ly fa mo) (hg : IG gn gh ga gf) {fu : Nat} (hfu : 61 < fu) {p : Nat} (hp : p < n) : f_X10_countRivals fu (nI n) gh ga gf (nI gn) (pv (PR F fg gh ga gf gn y p) (own gh ga gf gn y)).1 (pv (PR F fg gh ga gf gn y p) (own gh ga gf gn y)).2.1 y = some (RVv n F fg gh ga gf gn y p) := by
  have hn := h.1
  unfold f_X10_countRivals RVv
  cases hr : PR F fg gh ga gf gn y p with
  | none => rfl
  | some r =>
    have hle := cl_le (fun i hi j hj => fa_lt h hi hj) hp hr
    have q0 : ¬ (pv (some r) (own gh ga gf gn y)).1 = -1 := hle.2.2.2
    rw [if_neg q0]
    exact rivals_b hn hg hfu (by omega) fu 0 (Nat.zero_le _) (by omega)
theorem q_rivals (h : IP n S B E F M fem born died ly fa mo) (hg : IG gn gh ga gf) {fu : Nat} (hfu : 61 < fu) {p : Nat} (hp : p < n) (row : Nat → Int32) : ∃ a r1 r2 r3 r4 r5 r6, f_X10_rivals fu fem born ly fa fg (nI n) gh ga gf (nI gn) row (nI p) y = some (a, r1, r2, r3, r4, r5, r6) ∧ f_X11_rivals fu (nI n) (nI gn) fa gh ga gf (nI p) y = some (a, 0) := by
  have hn := h.1
  have hh : hs n (nI p) := hs_of (by omega) hp
  obtain ⟨row', e1, e2⟩ := find_b (y := y) (fg := fg) h hg hfu hp row
  unfold f_X10_rivals f_X11_rivals
  rw [req_1 hh, is_m1 hh, e1, rivalsOf_q (fg := fg) h hg hfu hp]
  simp only [Option.bind_some]
  rw [countRivals_q h hg hfu hp, if_neg i10]
  exact ⟨_, _, _, _, _, _, _, rfl, rfl⟩
theorem q_rivals_x {fu : Nat} (x1 : Int32) (hh : ¬ hs n x1) (row : Nat → Int32) (ra rr rs rg rm : Int32) : f_X10_rivals_x (nI n) row ra rr rs rg rm x1 = some (row, ra, rr, rs, rg, rm) ∧ f_X11_rivals fu (nI n) (nI gn) fa gh ga gf x1 y = some (0, 1) := by
  unfold f_X10_rivals_x f_X11_rivals
  rw [reqx_0 hh, is_m0 hh]
  exact ⟨rfl, rfl⟩
end
