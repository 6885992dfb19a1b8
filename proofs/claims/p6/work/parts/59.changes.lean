/-! Copies: places that differ, in the book and in the model. -/
theorem b_xorC (x y : Int32) (i : Nat) : bt (x ^^^ y) i = (bt x i ^^ bt y i) := by unfold bt; rw [Int32.toBitVec_xor, BitVec.getLsbD_xor]
theorem b_15 : ∀ i, i < 32 → bt 15 i = decide (i < 4) := by decide +kernel
theorem b_zero (i : Nat) : bt 0 i = false := BitVec.getLsbD_zero
def nib (x : Int32) (k : Nat) : Int32 := (x >>> (nI (4 * k) &&& 31)) &&& 15
theorem nib_eq (a b : Int32) {k : Nat} (hk : k < 8) : ((ushr32 (a ^^^ b) (nI (4 * k))) &&& 15 = 0) ↔ nib a k = nib b k := by
  have ha : ∀ (x : Int32) i, i < 32 → bt (nib x k) i = (bt x (4 * k + i) && decide (i < 4)) := fun x i hi => by
    unfold nib
    rw [b_and, b_15 i hi, b_sshr (4 * k) (by omega) x hi]
    rcases Nat.lt_or_ge i 4 with h | h
    · rw [if_pos (by omega)]
    · rw [decide_eq_false (by omega), Bool.and_false, Bool.and_false]
  have hx : ∀ i, i < 32 → bt ((ushr32 (a ^^^ b) (nI (4 * k))) &&& 15) i = ((bt a (4 * k + i) ^^ bt b (4 * k + i)) && decide (i < 4)) := fun i hi => by
    rw [b_and, b_15 i hi]
    unfold ushr32
    rw [b_ushr (4 * k) (by omega), b_xorC]
  constructor
  · intro h
    refine b_ext fun i hi => ?_
    have := hx i hi
    rw [h, b_zero] at this
    rw [ha a i hi, ha b i hi]
    revert this
    cases bt a (4 * k + i) <;> cases bt b (4 * k + i) <;> cases decide (i < 4) <;> simp
  · intro h
    refine b_ext fun i hi => ?_
    have h1 := ha a i hi
    rw [h, ha b i hi] at h1
    rw [hx i hi, b_zero]
    revert h1
    cases bt a (4 * k + i) <;> cases bt b (4 * k + i) <;> cases decide (i < 4) <;> simp
/-- how many of the first t places differ -/
def dfc (a b : Int32) : Nat → Nat
  | 0 => 0
  | t + 1 => if nib a t = nib b t then dfc a b t else dfc a b t + 1
theorem dfc_le (a b : Int32) (t : Nat) : dfc a b t ≤ t := by
  induction t with
  | zero => exact Nat.le_refl _
  | succ t ih =>
    rw [dfc]
    split <;> omega
theorem i4 : ∀ t, t < 8 → nI t * 4 = nI (4 * t) := by decide +kernel
theorem i4' : ∀ t, t < 8 → 4 * nI t = nI (4 * t) := by decide +kernel
theorem changes_b (a b : Int32) : ∀ k t, t ≤ 8 → 8 - t < k → f_X0_changes_18 k (a ^^^ b, nI (dfc a b t), nI t) = some (nI (dfc a b 8)) := by
  intro k
  induction k with
  | zero => intro t _ h0; omega
  | succ k ih =>
    intro t ht hk
    show g_X0_changes_18 (fun x y z => f_X0_changes_18 k (x, y, z)) (a ^^^ b) (nI (dfc a b t)) (nI t) = _
    unfold g_X0_changes_18 g_X0_changes_40
    rcases Nat.lt_or_ge t 8 with q | q
    · have c8 : ¬ (8 : Int32) ≤ nI t := nI_ge (b := 8) q (by decide)
      rw [if_neg c8, i4 t q, nI_1, nI_1]
      have := ih (t + 1) q (by omega)
      rw [dfc] at this
      by_cases c : nib a t = nib b t
      · rw [if_pos ((nib_eq a b q).mpr c)]
        rw [if_pos c] at this
        exact this
      · rw [if_neg (mt (nib_eq a b q).mp c)]
        rw [if_neg c] at this
        exact this
    · have e : t = 8 := by omega
      subst e
      have c8 : (8 : Int32) ≤ nI 8 := by decide
      rw [if_pos c8]
theorem unlike_m {rows : Nat → Int32} {x y : Nat} (hx : x < 40) (hy : y < 40) : ∀ k t, t ≤ 8 → 8 - t < k → f_X11_unlike_5 rows k (nI x, nI y, nI (dfc (rows x) (rows y) t), nI t) = some (nI (dfc (rows x) (rows y) 8)) := by
  intro k
  induction k with
  | zero => intro t _ h0; omega
  | succ k ih =>
    intro t ht hk
    show g_X11_unlike_5 rows (fun a b c d => f_X11_unlike_5 rows k (a, b, c, d)) (nI x) (nI y) (nI (dfc (rows x) (rows y) t)) (nI t) = _
    unfold g_X11_unlike_5 g_X11_unlike_49
    rcases Nat.lt_or_ge t 8 with q | q
    · have c8 : ¬ (8 : Int32) ≤ nI t := nI_ge (b := 8) q (by decide)
      rw [if_neg c8, i4' t q, nI_1, Int32.add_zero, nI_1]
      simp only [inb_nI hx (by decide), inb_nI hy (by decide), nI_clamp (n := x) (by omega), nI_clamp (n := y) (by omega), if_true]
      have := ih (t + 1) q (by omega)
      rw [dfc] at this
      by_cases c : nib (rows x) t = nib (rows y) t
      · have c' : (rows x >>> (nI (4 * t) &&& 31)) &&& 15 = (rows y >>> (nI (4 * t) &&& 31)) &&& 15 := c
        rw [if_pos c']
        rw [if_pos c] at this
        exact this
      · have c' : ¬ (rows x >>> (nI (4 * t) &&& 31)) &&& 15 = (rows y >>> (nI (4 * t) &&& 31)) &&& 15 := c
        rw [if_neg c']
        rw [if_neg c] at this
        exact this
    · have e : t = 8 := by omega
      subst e
      have c8 : (8 : Int32) ≤ nI 8 := by decide
      rw [if_pos c8]
