/-! Grants: the arms that one has by a grant of its own. -/
def IG (n : Nat) (gh ga gf : Nat → Int32) : Prop := n ≤ 40 ∧ ∀ i, i < n → (∃ y, 1000 ≤ y ∧ y ≤ 2000 ∧ gf i = nI y) ∧ (∃ a, 1 ≤ a ∧ a ≤ 99 ∧ ga i = nI a)
/-- the grant that counts among the first t -/
def ow (gh gf : Nat → Int32) (p y : Int32) : Nat → Option Nat
  | 0 => none
  | t + 1 => if gh t = p ∧ ¬ y < gf t ∧ (∀ b, ow gh gf p y t = some b → ¬ gf t < gf b) then some t else ow gh gf p y t
theorem ow_lt {gh gf : Nat → Int32} {p y : Int32} {t b : Nat} (h : ow gh gf p y t = some b) : b < t := by
  induction t with
  | zero => cases h
  | succ t ih =>
    unfold ow at h
    split at h
    · cases h; omega
    · have := ih h; omega
def aw (gh ga gf : Nat → Int32) (p y : Int32) (t : Nat) : Int32 := match ow gh gf p y t with
  | none => -1
  | some b => ga b
section
variable {n : Nat} {gh ga gf : Nat → Int32} {x1 x2 : Int32}
theorem ow_yes {t : Nat} (h1 : gh t = x1) (h2 : ¬ x2 < gf t) (h3 : ∀ b, ow gh gf x1 x2 t = some b → ¬ gf t < gf b) : ow gh gf x1 x2 (t + 1) = some t := by
  rw [ow, if_pos ⟨h1, h2, h3⟩]
theorem ow_no {t : Nat} (h : ¬ (gh t = x1 ∧ ¬ x2 < gf t ∧ ∀ b, ow gh gf x1 x2 t = some b → ¬ gf t < gf b)) : ow gh gf x1 x2 (t + 1) = ow gh gf x1 x2 t := by
  rw [ow, if_neg h]
theorem oI_none : oI none = -1 := rfl
theorem oI_some (j : Nat) : oI (some j) = nI j := rfl
theorem own_m (h : IG n gh ga gf) : ∀ k t, t ≤ n → n - t < k → f_X11_own_5 (nI n) gh ga gf k (x1, x2, oI (ow gh gf x1 x2 t), nI t) = some (aw gh ga gf x1 x2 n) := by
  have hn := h.1
  intro k
  induction k with
  | zero => intro t _ hk; omega
  | succ k ih =>
    intro t ht hk
    show g_X11_own_5 (nI n) gh ga gf (fun y1 y2 y3 y4 => f_X11_own_5 (nI n) gh ga gf k (y1, y2, y3, y4)) x1 x2 (oI (ow gh gf x1 x2 t)) (nI t) = _
    unfold g_X11_own_5 g_X11_own_57 g_X11_own_60 g_X11_own_81
    rw [nI_1]
    rcases Nat.lt_or_ge t n with q | q
    · rw [if_neg (nI_ge q (by omega)), inb_nI (N := 40) (n := t) (by omega) (by decide), nI_clamp (n := t) (by omega)]
      simp only [if_true]
      have go : ∀ o, ow gh gf x1 x2 (t + 1) = o → f_X11_own_5 (nI n) gh ga gf k (x1, x2, oI o, nI (t + 1)) = some (aw gh ga gf x1 x2 n) := fun o ho => by
        rw [← ho]
        exact ih (t + 1) q (by omega)
      by_cases c1 : gh t = x1
      · rw [if_pos c1]
        by_cases c2 : x2 < gf t
        · rw [if_pos c2]
          exact go _ (ow_no fun w => w.2.1 c2)
        rw [if_neg c2]
        cases hb : ow gh gf x1 x2 t with
        | none =>
          rw [oI_none, if_pos rfl]
          exact go (some t) (ow_yes c1 c2 fun b w => by rw [hb] at w; cases w)
        | some b =>
          have hbt := ow_lt hb
          rw [oI_some, if_neg (ne_m1 b (by omega)), inb_nI (N := 40) (n := b) (by omega) (by decide), nI_clamp (n := b) (by omega)]
          simp only [if_true]
          by_cases c3 : gf t < gf b
          · rw [if_pos c3]
            exact go (some b) (by rw [ow_no fun w => w.2.2 b hb c3, hb])
          · rw [if_neg c3]
            exact go (some t) (ow_yes c1 c2 fun b' w => by rw [hb] at w; cases w; exact c3)
      · rw [if_neg c1]
        exact go _ (ow_no fun w => c1 w.1)
    · have e : t = n := by omega
      subst e
      rw [if_pos (nI_le (Nat.le_refl _) (by omega))]
      unfold aw
      cases hb : ow gh gf x1 x2 t with
      | none => rfl
      | some b =>
        have hbt := ow_lt hb
        rw [oI_some, if_neg (ne_m1 b (by omega)), inb_nI (N := 40) (n := b) (by omega) (by decide), nI_clamp (n := b) (by omega)]
        rfl
theorem q_own_m (h : IG n gh ga gf) {fu : Nat} (hfu : 40 < fu) (x1 x2 : Int32) : f_X11_own fu (nI n) gh ga gf x1 x2 = some (aw gh ga gf x1 x2 n) := by
  have hn := h.1
  exact own_m h fu 0 (Nat.zero_le _) (by omega)
def lat (gf : Nat → Int32) (o : Option Nat) : Int32 := match o with
  | none => 1000
  | some b => gf b
theorem own_b (h : IG n gh ga gf) : ∀ k t, t ≤ n → n - t < k → f_X1_ownArms_10 gh ga gf (nI n) k (x1, x2, aw gh ga gf x1 x2 t, lat gf (ow gh gf x1 x2 t), nI t) = some (aw gh ga gf x1 x2 n) := by
  have hn := h.1
  intro k
  induction k with
  | zero => intro t _ hk; omega
  | succ k ih =>
    intro t ht hk
    show g_X1_ownArms_10 gh ga gf (nI n) (fun y1 y2 y3 y4 y5 => f_X1_ownArms_10 gh ga gf (nI n) k (y1, y2, y3, y4, y5)) x1 x2 (aw gh ga gf x1 x2 t) (lat gf (ow gh gf x1 x2 t)) (nI t) = _
    unfold g_X1_ownArms_10 g_X1_ownArms_70
    rw [nI_1]
    rcases Nat.lt_or_ge t n with q | q
    · rw [if_neg (nI_ge q (by omega)), inb_nI (N := 40) (n := t) (by omega) (by decide), nI_clamp (n := t) (by omega)]
      simp only [if_true]
      have no : ow gh gf x1 x2 (t + 1) = ow gh gf x1 x2 t → f_X1_ownArms_10 gh ga gf (nI n) k (x1, x2, aw gh ga gf x1 x2 t, lat gf (ow gh gf x1 x2 t), nI (t + 1)) = some (aw gh ga gf x1 x2 n) := fun ho => by
        have := ih (t + 1) q (by omega)
        unfold aw at this ⊢
        rw [ho] at this
        exact this
      have yes : ow gh gf x1 x2 (t + 1) = some t → f_X1_ownArms_10 gh ga gf (nI n) k (x1, x2, ga t, gf t, nI (t + 1)) = some (aw gh ga gf x1 x2 n) := fun ho => by
        have := ih (t + 1) q (by omega)
        unfold aw at this ⊢
        rw [ho] at this
        exact this
      by_cases c1 : gh t = x1
      · rw [if_pos c1]
        by_cases c2 : x2 < gf t
        · rw [if_pos c2]
          exact no (ow_no fun w => w.2.1 c2)
        rw [if_neg c2]
        by_cases c3 : gf t < lat gf (ow gh gf x1 x2 t)
        · rw [if_pos c3]
          refine no (ow_no fun w => ?_)
          cases hb : ow gh gf x1 x2 t with
          | none =>
            rw [hb] at c3
            obtain ⟨⟨y, y1, y2, hy⟩, -⟩ := h.2 t q
            have c4 : gf t < nI 1000 := c3
            rw [hy, nI_ltI (by omega) (by decide)] at c4
            omega
          | some b =>
            rw [hb] at c3
            exact w.2.2 b hb c3
        · rw [if_neg c3]
          refine yes (ow_yes c1 c2 fun b w => ?_)
          rw [w] at c3
          exact c3
      · rw [if_neg c1]
        exact no (ow_no fun w => c1 w.1)
    · have e : t = n := by omega
      subst e
      rw [if_pos (nI_le (Nat.le_refl _) (by omega))]
theorem q_own_b (h : IG n gh ga gf) {fu : Nat} (hfu : 40 < fu) (x1 x2 : Int32) : f_X1_ownArms fu gh ga gf (nI n) x1 x2 = some (aw gh ga gf x1 x2 n) := by
  have hn := h.1
  exact own_b h fu 0 (Nat.zero_le _) (by omega)
theorem aw_cases (h : IG n gh ga gf) (x1 x2 : Int32) : aw gh ga gf x1 x2 n = -1 ∨ ∃ a, 1 ≤ a ∧ a ≤ 99 ∧ aw gh ga gf x1 x2 n = nI a := by
  unfold aw
  cases hb : ow gh gf x1 x2 n with
  | none => exact Or.inl rfl
  | some b => exact Or.inr (h.2 b (ow_lt hb)).2
end
