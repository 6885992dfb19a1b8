/-! Lines that live: the set of bits and the row of truths. -/
def b6 (x : Int64) (i : Nat) : Bool := x.toBitVec.getLsbD i
theorem b6_or (x y : Int64) (i : Nat) : b6 (x ||| y) i = (b6 x i || b6 y i) := by unfold b6; rw [Int64.toBitVec_or, BitVec.getLsbD_or]
theorem b6_and (x y : Int64) (i : Nat) : b6 (x &&& y) i = (b6 x i && b6 y i) := by unfold b6; rw [Int64.toBitVec_and, BitVec.getLsbD_and]
theorem b6_0 (i : Nat) : b6 0 i = false := BitVec.getLsbD_zero
theorem sh6 : ∀ l, l < 64 → (shl64 1 (nI l)).toBitVec = BitVec.twoPow 64 l := by decide +kernel
theorem b6_sh {p q : Nat} (hp : p < 64) : b6 (shl64 1 (nI p)) q = decide (q = p) := by
  unfold b6
  rw [sh6 p hp, BitVec.getLsbD_twoPow, decide_eq_true hp, Bool.true_and]
  by_cases h : p = q
  · subst h; simp
  · simp [h, Ne.symm h]
theorem b6_set (x : Int64) {p q : Nat} (hp : p < 64) : (b6 (x ||| shl64 1 (nI p)) q = true) ↔ (b6 x q = true ∨ q = p) := by
  rw [b6_or, b6_sh hp, Bool.or_eq_true, decide_eq_true_eq]
theorem su6 : ∀ n, n < 64 → (((nI n).toInt64.toUInt64 &&& Int64.toUInt64 63).toBitVec % 64).toNat = n := by decide +kernel
theorem lgc_0 {x : Int64} : lg_cmp x 0 = 0 ↔ x = 0 := by
  unfold lg_cmp
  by_cases h : x > 0
  · rw [if_pos h]
    refine ⟨fun q => absurd q (by decide), fun q => ?_⟩
    subst q
    exact absurd h (by decide)
  · rw [if_neg h]
    by_cases h2 : x = 0
    · rw [if_pos h2]; simp [h2]
    · rw [if_neg h2]; simp [h2]
theorem isIn_b {x : Int64} {q : Nat} (hq : q < 64) : f_X4_isIn x (nI q) = some (bI (b6 x q)) := by
  have e : (ushr64 x (nI q)).toBitVec = x.toBitVec >>> q := by
    show x.toBitVec >>> (((nI q).toInt64.toUInt64 &&& Int64.toUInt64 63).toBitVec % 64) = x.toBitVec >>> q
    rw [BitVec.ushiftRight_eq', su6 q hq]
  have key : (lg_cmp ((ushr64 x (nI q)) &&& 1) 0 = 0) ↔ b6 x q = false := by
    rw [lgc_0, ← Int64.toBitVec_inj, Int64.toBitVec_and, e]
    show (x.toBitVec >>> q &&& 1#64) = 0#64 ↔ _
    rw [BitVec.and_one_eq_setWidth_ofBool_getLsbD, BitVec.getLsbD_ushiftRight, Nat.add_zero]
    unfold b6
    cases hb : x.toBitVec.getLsbD q
    · simp
    · simp
  unfold f_X4_isIn
  cases hb : b6 x q
  · rw [if_pos (key.mpr hb)]; rfl
  · rw [if_neg (fun w => by rw [key.mp w] at hb; cases hb)]; rfl
/-- LIVING, LINE LIVES -/
def lvb (B E : Nat → Nat) (y : Int32) (i : Nat) : Bool := decide (¬ y < nI (B i)) && decide (¬ nI (E i) < y)
def llf (n : Nat) (S : Nat → Bool) (F : Nat → Option Nat) (lv : Nat → Bool) : Nat → Nat → Bool
  | 0, _ => false
  | k + 1, q => !S q && (lv q || (List.range n).any (fun c => decide (q < c) && (decide (F c = some q) && llf n S F lv k c)))
theorem llf_fix {n : Nat} {S : Nat → Bool} {F : Nat → Option Nat} {lv : Nat → Bool} : ∀ k q, q < n → n - q ≤ k → llf n S F lv (k + 1) q = llf n S F lv k q := by
  intro k
  induction k with
  | zero => intro q h1 h2; omega
  | succ k ih =>
    intro q h1 h2
    rw [llf, llf]
    congr 2
    rw [Bool.eq_iff_iff, List.any_eq_true, List.any_eq_true]
    constructor
    · rintro ⟨c, hc, h⟩
      refine ⟨c, hc, ?_⟩
      simp only [Bool.and_eq_true, decide_eq_true_eq] at h ⊢
      rw [List.mem_range] at hc
      exact ⟨h.1, h.2.1, by rw [← ih c hc (by omega)]; exact h.2.2⟩
    · rintro ⟨c, hc, h⟩
      refine ⟨c, hc, ?_⟩
      simp only [Bool.and_eq_true, decide_eq_true_eq] at h ⊢
      rw [List.mem_range] at hc
      exact ⟨h.1, h.2.1, by rw [ih c hc (by omega)]; exact h.2.2⟩
def LL (n : Nat) (S : Nat → Bool) (F : Nat → Option Nat) (lv : Nat → Bool) (q : Nat) : Bool := llf n S F lv n q
theorem LL_iff {n : Nat} {S : Nat → Bool} {F : Nat → Option Nat} {lv : Nat → Bool} {q : Nat} (hq : q < n) : LL n S F lv q = true ↔ S q = false ∧ (lv q = true ∨ ∃ c, q < c ∧ c < n ∧ F c = some q ∧ LL n S F lv c = true) := by
  unfold LL
  rw [← llf_fix n q hq (by omega), llf]
  simp only [Bool.and_eq_true, Bool.not_eq_true', Bool.or_eq_true, List.any_eq_true, List.mem_range, decide_eq_true_eq]
  constructor
  · rintro ⟨a, b | ⟨c, h1, h2, h3, h4⟩⟩
    · exact ⟨a, Or.inl b⟩
    · exact ⟨a, Or.inr ⟨c, h2, h1, h3, h4⟩⟩
  · rintro ⟨a, b | ⟨c, h1, h2, h3, h4⟩⟩
    · exact ⟨a, Or.inl b⟩
    · exact ⟨a, Or.inr ⟨c, h2, h1, h3, h4⟩⟩
section
variable {n : Nat} {S : Nat → Bool} {B E : Nat → Nat} {F M : Nat → Option Nat} {fem born died ly fa mo : Nat → Int32} {y : Int32}
theorem living_b (h : IP n S B E F M fem born died ly fa mo) {i : Nat} (hi : i < n) : f_X4_isLiving born ly (nI n) (nI i) y = some (bI (lvb B E y i)) := by
  have hn := h.1
  obtain ⟨b1, b2, b3, b4, b5, b6, b7, b8, b9, b10, b11, b12⟩ := h.2 i hi
  unfold f_X4_isLiving lvb
  rw [has_b1 (hs_of (by omega) hi)]
  simp only [Option.bind_some, inb_nI (N := 60) (n := i) (by omega) (by decide), nI_clamp (n := i) (by omega), if_true, b2, b7]
  rw [if_neg i10]
  by_cases c1 : y < nI (B i)
  · rw [if_pos c1]; simp [c1, bI]; rfl
  rw [if_neg c1]
  by_cases c2 : nI (E i) < y
  · rw [if_pos c2]; simp [c2, bI]; rfl
  rw [if_neg c2]
  simp [c1, c2, bI]
  rfl
/-- who has a line that lives is born by then -/
theorem LL_born (h : IP n S B E F M fem born died ly fa mo) : ∀ m q, n - q ≤ m → q < n → LL n S F (lvb B E y) q = true → ¬ y < nI (B q) := by
  intro m
  induction m with
  | zero => intro q h1 h2; omega
  | succ m ih =>
    intro q h1 hq hl
    rw [LL_iff hq] at hl
    rcases hl.2 with a | ⟨c, c1, c2, c3, c4⟩
    · unfold lvb at a
      simp only [Bool.and_eq_true, decide_eq_true_eq] at a
      exact a.1
    · have hc := ih c (by omega) c2 c4
      obtain ⟨d1, d2, d3⟩ := (h.2 c c2).2.2.2.2.2.2.2.2.2.2.1 q c3
      have hb := (h.2 c c2).2.2.2.1
      intro w
      refine hc (Int32.lt_trans w (nI_lt (by omega) (by omega)))
end
