/-! The place among brothers. -/
def eld (B : Nat → Nat) (c p : Nat) : Bool := decide (B c < B p) || (decide (B c = B p) && decide (c < p))
def plc (F : Nat → Option Nat) (L : Nat → Bool) (B : Nat → Nat) (p : Nat) : Nat → Nat
  | 0 => 1
  | t + 1 => if F t = F p ∧ L t = true ∧ eld B t p = true then plc F L B p t + 1 else plc F L B p t
theorem plc_le {F : Nat → Option Nat} {L : Nat → Bool} {B : Nat → Nat} {p : Nat} (t : Nat) : plc F L B p t ≤ t + 1 := by
  induction t with
  | zero => exact Nat.le_refl _
  | succ t ih =>
    rw [plc]
    split
    · omega
    · omega
section
variable {n : Nat} {S : Nat → Bool} {B E : Nat → Nat} {F M : Nat → Option Nat} {fem born died ly fa mo : Nat → Int32} {y : Int32}
theorem born_b (h : IP n S B E F M fem born died ly fa mo) {i : Nat} (hi : i < n) : f_X4_bornOf born (nI n) (nI i) = some (nI (B i)) := by
  have hn := h.1
  unfold f_X4_bornOf g_X4_bornOf_18
  rw [has_b1 (hs_of (by omega) hi)]
  simp only [Option.bind_some, inb_nI (N := 60) (n := i) (by omega) (by decide), nI_clamp (n := i) (by omega), if_true]
  rw [if_neg i10, (h.2 i hi).2.1]
theorem sub_neg {a b : Nat} (ha : a < 10000) (hb : b < 10000) : (nI a - nI b < 0) ↔ a < b := by
  rw [Int32.lt_iff_toInt_lt, Int32.toInt_sub, nI_toInt (by omega), nI_toInt (by omega), Int.bmod_eq_of_le (by omega) (by omega)]
  show _ < (0 : Int32).toInt ↔ _
  rw [show (0 : Int32).toInt = 0 from by decide]
  omega
theorem sub_zero {a b : Nat} (ha : a < 10000) (hb : b < 10000) : (nI a - nI b = 0) ↔ a = b := by
  rw [← Int32.toInt_inj, Int32.toInt_sub, nI_toInt (by omega), nI_toInt (by omega), Int.bmod_eq_of_le (by omega) (by omega)]
  rw [show (0 : Int32).toInt = 0 from by decide]
  omega
theorem elder_b (h : IP n S B E F M fem born died ly fa mo) {c p : Nat} (hc : c < n) (hp : p < n) : f_X4_isElder born (nI n) (nI c) (nI p) = some (bI (eld B c p)) := by
  have hn := h.1
  have b1 := (h.2 c hc).2.2.2.1
  have b2 := (h.2 p hp).2.2.2.1
  unfold f_X4_isElder eld
  rw [born_b h hc, born_b h hp]
  simp only [Option.bind_some]
  by_cases c1 : nI (B c) - nI (B p) < 0
  · rw [if_pos c1]
    rw [sub_neg (by omega) (by omega)] at c1
    simp [c1, bI]
    rfl
  rw [if_neg c1]
  rw [sub_neg (by omega) (by omega)] at c1
  by_cases c2 : nI (B c) - nI (B p) = 0
  · rw [if_pos c2]
    rw [sub_zero (by omega) (by omega)] at c2
    by_cases c3 : nI p ≤ nI c
    · rw [if_pos c3]
      rw [nI_leI (by omega) (by omega)] at c3
      simp [c1, Nat.not_lt.mpr c3, bI]
      rfl
    · rw [if_neg c3]
      rw [nI_leI (by omega) (by omega)] at c3
      simp [c2, Nat.not_le.mp c3, bI]
      rfl
  · rw [if_neg c2]
    rw [sub_zero (by omega) (by omega)] at c2
    simp [c1, c2, bI]
    rfl
theorem ahead_m (h : IP n S B E F M fem born died ly fa mo) {c p : Nat} (hc : c < n) (hp : p < n) : f_X11_isAhead born (nI c) (nI p) = some (bI (eld B c p)) := by
  have hn := h.1
  have b1 := (h.2 c hc).2.2.2.1
  have b2 := (h.2 p hp).2.2.2.1
  unfold f_X11_isAhead eld
  simp only [inb_nI (N := 60) (n := c) (by omega) (by decide), inb_nI (N := 60) (n := p) (by omega) (by decide), nI_clamp (n := c) (by omega), nI_clamp (n := p) (by omega), if_true, (h.2 c hc).2.1, (h.2 p hp).2.1]
  by_cases c1 : nI (B c) < nI (B p)
  · rw [if_pos c1]
    rw [nI_ltI (by omega) (by omega)] at c1
    simp [c1, bI]
    rfl
  rw [if_neg c1]
  rw [nI_ltI (by omega) (by omega)] at c1
  by_cases c2 : nI (B c) = nI (B p)
  · rw [if_pos c2]
    rw [nI_eq (by omega) (by omega)] at c2
    by_cases c3 : nI p ≤ nI c
    · rw [if_pos c3]
      rw [nI_leI (by omega) (by omega)] at c3
      simp [c1, Nat.not_lt.mpr c3, bI]
      rfl
    · rw [if_neg c3]
      rw [nI_leI (by omega) (by omega)] at c3
      simp [c2, Nat.not_le.mp c3, bI]
      rfl
  · rw [if_neg c2]
    rw [nI_eq (by omega) (by omega)] at c2
    simp [c1, c2, bI]
    rfl
theorem oI_inj {a b : Option Nat} (ha : ∀ j, a = some j → j < 2 ^ 31) (hb : ∀ j, b = some j → j < 2 ^ 31) : oI a = oI b ↔ a = b := by
  cases a with
  | none =>
    cases b with
    | none => simp
    | some j => exact ⟨fun q => absurd q.symm (ne_m1 j (hb j rfl)), fun q => by cases q⟩
  | some i =>
    cases b with
    | none => exact ⟨fun q => absurd q (ne_m1 i (ha i rfl)), fun q => by cases q⟩
    | some j =>
      rw [oI_some, oI_some, nI_eq (ha i rfl) (hb j rfl)]
      simp
theorem fa_two (h : IP n S B E F M fem born died ly fa mo) {c p : Nat} (hc : c < n) (hp : p < n) : fa c = oI (F p) ↔ F c = F p := by
  have hn := h.1
  rw [fa_eq h hc]
  exact oI_inj (fun j hj => by have := fa_lt h hc hj; omega) (fun j hj => by have := fa_lt h hp hj; omega)
theorem place_b (h : IP n S B E F M fem born died ly fa mo) {p : Nat} (hp : p < n) {x : Int64} {L : Nat → Bool} (hx : ∀ i, i < 64 → (b6 x i = true ↔ i < n ∧ L i = true)) : ∀ k t, t ≤ n → n - t < k → f_X4_placeOf_13 born fa (nI n) k (nI p, x, oI (F p), nI (plc F L B p t), nI t) = some (nI (plc F L B p n)) := by
  have hn := h.1
  intro k
  induction k with
  | zero => intro t _ h0; omega
  | succ k ih =>
    intro t ht hk
    show g_X4_placeOf_13 born fa (nI n) (fun a b c d e => f_X4_placeOf_13 born fa (nI n) k (a, b, c, d, e)) (nI p) x (oI (F p)) (nI (plc F L B p t)) (nI t) = _
    unfold g_X4_placeOf_13 g_X4_placeOf_56
    rw [nI_1, nI_1]
    rcases Nat.lt_or_ge t n with q | q
    · rw [if_neg (nI_ge q (by omega)), isIn_b (by omega : t < 64), elder_b h q hp]
      simp only [Option.bind_some, inb_nI (N := 60) (n := t) (by omega) (by decide), nI_clamp (n := t) (by omega), if_true]
      have hb : b6 x t = L t := by
        rw [Bool.eq_iff_iff, hx t (by omega)]
        exact ⟨fun w => w.2, fun w => ⟨q, w⟩⟩
      rw [hb]
      have no : ¬ (F t = F p ∧ L t = true ∧ eld B t p = true) → f_X4_placeOf_13 born fa (nI n) k (nI p, x, oI (F p), nI (plc F L B p t), nI (t + 1)) = some (nI (plc F L B p n)) := fun w => by
        have := ih (t + 1) q (by omega)
        rw [plc, if_neg w] at this
        exact this
      by_cases c1 : fa t = oI (F p)
      · rw [if_pos c1]
        have c1' := (fa_two h q hp).mp c1
        by_cases c2 : bI (L t) = 0
        · rw [if_pos c2]
          rw [bI_0] at c2
          exact no fun w => by rw [w.2.1] at c2; cases c2
        rw [if_neg c2]
        by_cases c3 : bI (eld B t p) = 0
        · rw [if_pos c3]
          rw [bI_0] at c3
          exact no fun w => by rw [w.2.2] at c3; cases c3
        · rw [if_neg c3]
          have := ih (t + 1) q (by omega)
          rw [plc, if_pos ⟨c1', bI_ne.mp c2, bI_ne.mp c3⟩] at this
          exact this
      · rw [if_neg c1]
        exact no fun w => c1 ((fa_two h q hp).mpr w.1)
    · have e : t = n := by omega
      subst e
      rw [if_pos (nI_le (Nat.le_refl _) (by omega))]
theorem place_m (h : IP n S B E F M fem born died ly fa mo) {p : Nat} (hp : p < n) {arr : Nat → Int32} (ha : ∀ c, c < n → arr c = bI (LL n S F (lvb B E y) c)) : ∀ k t, t ≤ n → n - t < k → f_X11_placeOf_5 (nI n) fem born fa arr k (nI p, y, nI (plc F (LL n S F (lvb B E y)) B p t), nI t) = some (nI (plc F (LL n S F (lvb B E y)) B p n)) := by
  have hn := h.1
  intro k
  induction k with
  | zero => intro t _ h0; omega
  | succ k ih =>
    intro t ht hk
    show g_X11_placeOf_5 (nI n) fem born fa arr (fun a b c d => f_X11_placeOf_5 (nI n) fem born fa arr k (a, b, c, d)) (nI p) y (nI (plc F (LL n S F (lvb B E y)) B p t)) (nI t) = _
    unfold g_X11_placeOf_5 g_X11_placeOf_80
    rw [nI_1, nI_1]
    rcases Nat.lt_or_ge t n with q | q
    · rw [if_neg (nI_ge q (by omega)), ahead_m h q hp]
      simp only [Option.bind_some, inb_nI (N := 60) (n := t) (by omega) (by decide), inb_nI (N := 60) (n := p) (by omega) (by decide), nI_clamp (n := t) (by omega), nI_clamp (n := p) (by omega), if_true, ha t q]
      have no : ¬ (F t = F p ∧ LL n S F (lvb B E y) t = true ∧ eld B t p = true) → f_X11_placeOf_5 (nI n) fem born fa arr k (nI p, y, nI (plc F (LL n S F (lvb B E y)) B p t), nI (t + 1)) = some (nI (plc F (LL n S F (lvb B E y)) B p n)) := fun w => by
        have := ih (t + 1) q (by omega)
        rw [plc, if_neg w] at this
        exact this
      by_cases c0 : nI t = nI p
      · rw [if_pos c0]
        rw [nI_eq (by omega) (by omega)] at c0
        subst c0
        exact no fun w => by have := w.2.2; simp [eld] at this
      rw [if_neg c0]
      by_cases c1 : fa t = fa p
      · rw [if_pos c1]
        have c1' := (fa_two h q hp).mp (by rw [c1, fa_eq h hp])
        by_cases c4 : fem t = 0
        · rw [if_pos c4]
          by_cases c5 : y < born t
          · rw [if_pos c5]
            refine no fun w => ?_
            have w2 := LL_born h n t (by omega) q w.2.1
            rw [(h.2 t q).2.1] at c5
            exact w2 c5
          rw [if_neg c5]
          by_cases c2 : bI (LL n S F (lvb B E y) t) = 0
          · rw [if_pos c2]
            rw [bI_0] at c2
            exact no fun w => by rw [w.2.1] at c2; cases c2
          rw [if_neg c2]
          by_cases c3 : bI (eld B t p) = 0
          · rw [if_pos c3]
            rw [bI_0] at c3
            exact no fun w => by rw [w.2.2] at c3; cases c3
          · rw [if_neg c3]
            have := ih (t + 1) q (by omega)
            rw [plc, if_pos ⟨c1', bI_ne.mp c2, bI_ne.mp c3⟩] at this
            exact this
        · rw [if_neg c4]
          refine no fun w => c4 ?_
          rw [fem_0 h q]
          exact ((LL_iff q).mp w.2.1).1
      · rw [if_neg c1]
        exact no fun w => c1 (by rw [fa_eq h hp]; exact (fa_two h q hp).mpr w.1)
    · have e : t = n := by omega
      subst e
      rw [if_pos (nI_le (Nat.le_refl _) (by omega))]
end
