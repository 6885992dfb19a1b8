/-! Forebears: the book's set. -/
def par2 (F M : Nat → Option Nat) (c q : Nat) : Prop := F c = some q ∨ M c = some q
def upf (n : Nat) (F M : Nat → Option Nat) (p : Nat) : Nat → Nat → Bool
  | 0, _ => false
  | k + 1, q => decide (q = p) || (List.range n).any (fun c => decide (q < c) && (decide (F c = some q ∨ M c = some q) && upf n F M p k c))
theorem upf_fix {n : Nat} {F M : Nat → Option Nat} {p : Nat} : ∀ k q, q < n → n - q ≤ k → upf n F M p (k + 1) q = upf n F M p k q := by
  intro k
  induction k with
  | zero => intro q h1 h2; omega
  | succ k ih =>
    intro q h1 h2
    rw [upf, upf]
    congr 1
    rw [Bool.eq_iff_iff, List.any_eq_true, List.any_eq_true]
    constructor
    · rintro ⟨c, hc, h⟩
      refine ⟨c, hc, ?_⟩
      simp only [Bool.and_eq_true, decide_eq_true_eq] at h ⊢
      rw [List.mem_range] at hc
      exact ⟨h.1, h.2.1, by rw [← ih c hc (by omega)]; exact h.2.2⟩
    · rintro ⟨c, hc, h⟩
      refine ⟨c, hc, ?_⟩
      simp only [Bool.and_eq_true, decide_eq_true_eq] at h ⊢
      rw [List.mem_range] at hc
      exact ⟨h.1, h.2.1, by rw [ih c hc (by omega)]; exact h.2.2⟩
def UP (n : Nat) (F M : Nat → Option Nat) (p q : Nat) : Bool := upf n F M p n q
theorem UP_iff {n : Nat} {F M : Nat → Option Nat} {p q : Nat} (hq : q < n) : UP n F M p q = true ↔ q = p ∨ ∃ c, q < c ∧ c < n ∧ par2 F M c q ∧ UP n F M p c = true := by
  unfold UP par2
  rw [← upf_fix n q hq (by omega), upf]
  simp only [Bool.and_eq_true, Bool.or_eq_true, List.any_eq_true, List.mem_range, decide_eq_true_eq]
  constructor
  · rintro (b | ⟨c, h1, h2, h3, h4⟩)
    · exact Or.inl b
    · exact Or.inr ⟨c, h2, h1, h3, h4⟩
  · rintro (b | ⟨c, h1, h2, h3, h4⟩)
    · exact Or.inl b
    · exact Or.inr ⟨c, h2, h1, h3, h4⟩
theorem UP_le {n : Nat} {F M : Nat → Option Nat} {p : Nat} : ∀ m q, n - q ≤ m → q < n → UP n F M p q = true → q ≤ p := by
  intro m
  induction m with
  | zero => intro q h1 h2; omega
  | succ m ih =>
    intro q h1 hq hu
    rw [UP_iff hq] at hu
    rcases hu with a | ⟨c, c1, c2, c3, c4⟩
    · omega
    · have := ih c (by omega) c2 c4
      omega
/-- what stands when those from m on are worked through -/
def upAt (n : Nat) (F M : Nat → Option Nat) (p m i : Nat) : Prop := (m ≤ i ∧ i < n ∧ UP n F M p i = true) ∨ (i < m ∧ (i = p ∨ ∃ c, m ≤ c ∧ c < n ∧ par2 F M c i ∧ UP n F M p c = true))
theorem upAt_here {n : Nat} {F M : Nat → Option Nat} {p q : Nat} (hq : q < n) : upAt n F M p (q + 1) q ↔ UP n F M p q = true := by
  rw [UP_iff hq]
  unfold upAt
  constructor
  · rintro (a | ⟨-, a | ⟨c, c1, c2, c3, c4⟩⟩)
    · omega
    · exact Or.inl a
    · exact Or.inr ⟨c, c1, c2, c3, c4⟩
  · rintro (a | ⟨c, c1, c2, c3, c4⟩)
    · exact Or.inr ⟨by omega, Or.inl a⟩
    · exact Or.inr ⟨by omega, Or.inr ⟨c, c1, c2, c3, c4⟩⟩
theorem upAt_no {n : Nat} {F M : Nat → Option Nat} {p q i : Nat} (hq : q < n) (hu : ¬ UP n F M p q = true) : upAt n F M p (q + 1) i ↔ upAt n F M p q i := by
  rcases Nat.lt_trichotomy i q with w | w | w
  · unfold upAt
    constructor
    · rintro (a | ⟨-, a | ⟨c, c1, c2, c3, c4⟩⟩)
      · omega
      · exact Or.inr ⟨w, Or.inl a⟩
      · exact Or.inr ⟨w, Or.inr ⟨c, by omega, c2, c3, c4⟩⟩
    · rintro (a | ⟨-, a | ⟨c, c1, c2, c3, c4⟩⟩)
      · omega
      · exact Or.inr ⟨by omega, Or.inl a⟩
      · rcases Nat.lt_or_ge q c with v | v
        · exact Or.inr ⟨by omega, Or.inr ⟨c, v, c2, c3, c4⟩⟩
        · have e : c = q := by omega
          subst e
          exact absurd c4 hu
  · subst w
    rw [upAt_here hq]
    exact ⟨fun a => absurd a hu, fun a => by
      rcases a with a | a
      · exact a.2.2
      · exact absurd a.1 (Nat.lt_irrefl _)⟩
  · unfold upAt
    constructor
    · rintro (a | a)
      · exact Or.inl ⟨by omega, a.2.1, a.2.2⟩
      · omega
    · rintro (a | a)
      · exact Or.inl ⟨by omega, a.2.1, a.2.2⟩
      · omega
theorem upAt_yes {n : Nat} {F M : Nat → Option Nat} {p q i : Nat} (hq : q < n) (hu : UP n F M p q = true) (hlt : ∀ j, par2 F M q j → j < q) : upAt n F M p q i ↔ upAt n F M p (q + 1) i ∨ par2 F M q i := by
  rcases Nat.lt_trichotomy i q with w | w | w
  · unfold upAt
    constructor
    · rintro (a | ⟨-, a | ⟨c, c1, c2, c3, c4⟩⟩)
      · omega
      · exact Or.inl (Or.inr ⟨by omega, Or.inl a⟩)
      · rcases Nat.lt_or_ge q c with v | v
        · exact Or.inl (Or.inr ⟨by omega, Or.inr ⟨c, v, c2, c3, c4⟩⟩)
        · have e : c = q := by omega
          subst e
          exact Or.inr c3
    · rintro ((a | ⟨-, a | ⟨c, c1, c2, c3, c4⟩⟩) | a)
      · omega
      · exact Or.inr ⟨w, Or.inl a⟩
      · exact Or.inr ⟨w, Or.inr ⟨c, by omega, c2, c3, c4⟩⟩
      · exact Or.inr ⟨w, Or.inr ⟨q, Nat.le_refl _, hq, a, hu⟩⟩
  · subst w
    rw [upAt_here hq]
    exact ⟨fun _ => Or.inl hu, fun _ => Or.inl ⟨Nat.le_refl _, hq, hu⟩⟩
  · unfold upAt
    constructor
    · rintro (a | a)
      · exact Or.inl (Or.inl ⟨by omega, a.2.1, a.2.2⟩)
      · omega
    · rintro ((a | a) | a)
      · exact Or.inl ⟨by omega, a.2.1, a.2.2⟩
      · omega
      · have := hlt i a
        omega
section
variable {n : Nat} {S : Nat → Bool} {B E : Nat → Nat} {F M : Nat → Option Nat} {fem born died ly fa mo : Nat → Int32}
theorem par_lt (h : IP n S B E F M fem born died ly fa mo) {q j : Nat} (hq : q < n) (hp : par2 F M q j) : j < q := by
  rcases hp with a | a
  · exact fa_lt h hq a
  · exact mo_lt h hq a
theorem up_b (h : IP n S B E F M fem born died ly fa mo) {p : Nat} : ∀ kf m x, m ≤ n → m < kf → (∀ i, i < 64 → (b6 x i = true ↔ upAt n F M p m i)) → ∃ x', f_X4_forebears_24 fa mo kf (x, nI m - 1) = some x' ∧ ∀ i, i < 64 → (b6 x' i = true ↔ upAt n F M p 0 i) := by
  have hn := h.1
  intro kf
  induction kf with
  | zero => intro m x _ h0; omega
  | succ kf ih =>
    intro m x hm hk hx
    show ∃ x', g_X4_forebears_24 fa mo (fun a b => f_X4_forebears_24 fa mo kf (a, b)) x (nI m - 1) = some x' ∧ _
    cases m with
    | zero =>
      unfold g_X4_forebears_24
      rw [if_pos (by decide)]
      exact ⟨x, rfl, hx⟩
    | succ q =>
      have hq : q < n := by omega
      have e : nI q + (-1) = nI q - 1 := (Int32.sub_eq_add_neg _ _).symm
      rw [nI_pred]
      unfold g_X4_forebears_24 g_X4_forebears_61 g_X4_forebears_93
      rw [if_neg (nI_pos (by omega)), isIn_b (by omega : q < 64), e]
      simp only [Option.bind_some, inb_nI (N := 60) (n := q) (by omega) (by decide), nI_clamp (n := q) (by omega), if_true]
      have hb : b6 x q = true ↔ UP n F M p q = true := by rw [hx q (by omega), upAt_here hq]
      by_cases c1 : bI (b6 x q) = 0
      · rw [if_pos c1, if_pos c1]
        refine ih q x (by omega) (by omega) (fun i hi => (hx i hi).trans (upAt_no hq fun w => ?_))
        rw [bI_0, hb.mpr w] at c1
        cases c1
      rw [if_neg c1, if_neg c1]
      have hu := hb.mp (bI_ne.mp c1)
      rw [fa_eq h hq, mo_eq h hq]
      -- behind the father
      have half : ∀ x1 : Int64, (∀ i, i < 64 → (b6 x1 i = true ↔ upAt n F M p (q + 1) i ∨ F q = some i)) → ∃ x', ((f_X4_isIn x1 (nI q)).bind fun v6 => if v6 = 0 then f_X4_forebears_24 fa mo kf (x1, nI q - 1) else if oI (M q) = -1 then f_X4_forebears_24 fa mo kf (x1, nI q - 1) else f_X4_forebears_24 fa mo kf (x1 ||| shl64 1 (oI (M q)), nI q - 1)) = some x' ∧ ∀ i, i < 64 → (b6 x' i = true ↔ upAt n F M p 0 i) := by
        intro x1 h1
        rw [isIn_b (by omega : q < 64)]
        simp only [Option.bind_some]
        have hb1 : b6 x1 q = true := (h1 q (by omega)).mpr (Or.inl ((upAt_here hq).mpr hu))
        rw [if_neg (by rw [hb1]; decide)]
        cases hm : M q with
        | none =>
          rw [oI_none, if_pos rfl]
          refine ih q x1 (by omega) (by omega) (fun i hi => (h1 i hi).trans ?_)
          rw [upAt_yes hq hu fun j hj => par_lt h hq hj]
          unfold par2
          rw [hm]
          exact ⟨fun a => by rcases a with a | a; exact Or.inl a; exact Or.inr (Or.inl a), fun a => by rcases a with a | a | a; exact Or.inl a; exact Or.inr a; cases a⟩
        | some j =>
          have hj := mo_lt h hq hm
          rw [oI_some, if_neg (ne_m1 j (by omega))]
          refine ih q _ (by omega) (by omega) (fun i hi => ?_)
          rw [b6_set x1 (by omega : j < 64), h1 i hi, upAt_yes hq hu fun j hj => par_lt h hq hj]
          unfold par2
          rw [hm]
          constructor
          · rintro ((a | a) | a)
            · exact Or.inl a
            · exact Or.inr (Or.inl a)
            · exact Or.inr (Or.inr (by rw [a]))
          · rintro (a | a | a)
            · exact Or.inl (Or.inl a)
            · exact Or.inl (Or.inr a)
            · cases a
              exact Or.inr rfl
      cases hf : F q with
      | none =>
        rw [oI_none, if_pos rfl]
        rw [hf] at half
        have := half x (fun i hi => (hx i hi).trans ⟨Or.inl, fun a => by rcases a with a | a; exact a; cases a⟩)
        rw [isIn_b (by omega : q < 64)] at this
        simp only [Option.bind_some] at this
        rw [if_neg c1] at this
        exact this
      | some j =>
        have hj := fa_lt h hq hf
        rw [oI_some, if_neg (ne_m1 j (by omega))]
        rw [hf] at half
        exact half _ (fun i hi => by
          rw [b6_set x (by omega : j < 64), hx i hi]
          constructor
          · rintro (a | a)
            · exact Or.inl a
            · exact Or.inr (by rw [a])
          · rintro (a | a)
            · exact Or.inl a
            · cases a
              exact Or.inr rfl)
theorem q_up_b (h : IP n S B E F M fem born died ly fa mo) {fu : Nat} (hfu : 61 < fu) {p : Nat} (hp : p < n) : ∃ x, f_X4_forebears fu fa mo (nI n) (nI p) = some x ∧ ∀ i, i < 64 → (b6 x i = true ↔ i < n ∧ UP n F M p i = true) := by
  have hn := h.1
  obtain ⟨x, h1, h2⟩ := up_b h (p := p) fu n (shl64 1 (nI p)) (Nat.le_refl _) (by omega) (fun i hi => by
    rw [b6_sh (by omega : p < 64), decide_eq_true_eq]
    unfold upAt
    constructor
    · intro a
      exact Or.inr ⟨by omega, Or.inl a⟩
    · rintro (a | ⟨-, a | ⟨c, c1, c2, -⟩⟩)
      · omega
      · exact a
      · omega)
  refine ⟨x, ?_, fun i hi => (h2 i hi).trans ?_⟩
  · unfold f_X4_forebears g_X4_forebears_15
    rw [has_b1 (hs_of (by omega) hp)]
    simp only [Option.bind_some]
    rw [if_neg i10]
    exact h1
  · unfold upAt
    constructor
    · rintro (a | a)
      · exact a.2
      · omega
    · exact fun a => Or.inl ⟨Nat.zero_le _, a⟩
end
