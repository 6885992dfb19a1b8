/-! Text: tokens. -/
def sta (ch : Nat → Nat) (n i : Nat) : Nat := bh (fun j => blk (ch j)) n i
def ted (ch : Nat → Nat) (n s : Nat) : Nat := if isL (ch s) = true then bh (fun j => isL (ch j)) n s else if isD (ch s) = true then bh (fun j => isD (ch j)) n s else s + 1
def en1 (ch : Nat → Nat) (n s : Nat) : Nat := if s < n then ted ch n s else s
def nvl (ch : Nat → Nat) (s : Nat) : Nat → Nat
  | 0 => 0
  | k + 1 => nvl ch s k * 10 + (ch (s + k) - 48)
def tks (ch : Nat → Nat) (n s : Nat) : Nat := if isL (ch s) = true then wi (sl ch s (ted ch n s)) else if isD (ch s) = true then (if ted ch n s - s ≤ 4 then 1000 + nvl ch s (ted ch n s - s) else 2) else if sgn (ch s) = true then ch s else 1
def tk1 (ch : Nat → Nat) (n s : Nat) : Nat := if s < n then tks ch n s else 0
def mk1 (ch : Nat → Nat) (n s : Nat) : Nat := if s < n then (if isL (ch s) = true then 1 else if isD (ch s) = true then 2 else if sgn (ch s) = true then 3 else 4) else 0
def ms1 (ch : Nat → Nat) (n s : Nat) : Nat := if s < n then (if isL (ch s) = true then 0 else if isD (ch s) = true then 0 else ch s) else 0
def psn (ch : Nat → Nat) (n : Nat) : Nat → Nat
  | 0 => 0
  | k + 1 => en1 ch n (sta ch n (psn ch n k))
section
variable {b a : Nat → Int32} {ch : Nat → Nat} {n i s : Nat}
theorem sta_ge : i ≤ sta ch n i := bh_ge _ _ _
theorem sta_le (h : i ≤ n) : sta ch n i ≤ n := bh_le _ h
theorem sta_b (h : i < n) (hb : blk (ch i) = true) : sta ch n i = sta ch n (i + 1) := bh_yes (p := fun j => blk (ch j)) h hb
theorem sta_n (hb : blk (ch i) = false) : sta ch n i = i := bh_no (p := fun j => blk (ch j)) (fun w => by have w2 : blk (ch i) = true := w.2; rw [hb] at w2; cases w2)
theorem sta_e : sta ch n n = n := bh_no (fun w => absurd w.1 (Nat.lt_irrefl n))
theorem sta_nb (h : sta ch n i < n) : blk (ch (sta ch n i)) = false := bh_out (p := fun j => blk (ch j)) h
theorem ted_gt (h : s < n) : s < ted ch n s ∧ ted ch n s ≤ n := by
  unfold ted
  by_cases c : isL (ch s) = true
  · rw [if_pos c, bh_yes (p := fun j => isL (ch j)) h c]
    exact ⟨bh_ge _ _ _, bh_le _ h⟩
  · rw [if_neg c]
    by_cases d : isD (ch s) = true
    · rw [if_pos d, bh_yes (p := fun j => isD (ch j)) h d]
      exact ⟨bh_ge _ _ _, bh_le _ h⟩
    · rw [if_neg d]
      exact ⟨by omega, h⟩
theorem en1_le (h : s ≤ n) : s ≤ en1 ch n s ∧ en1 ch n s ≤ n := by
  unfold en1
  by_cases c : s < n
  · rw [if_pos c]
    have := ted_gt (ch := ch) c
    omega
  · rw [if_neg c]
    exact ⟨Nat.le_refl _, h⟩
theorem psn_le (k : Nat) : psn ch n k ≤ n := by
  induction k with
  | zero => exact Nat.zero_le _
  | succ k ih => rw [psn]; exact (en1_le (sta_le ih)).2
theorem psn_lt {k : Nat} (h : sta ch n (psn ch n k) < n) : psn ch n k < psn ch n (k + 1) := by
  rw [psn]
  unfold en1
  rw [if_pos h]
  have h1 := (ted_gt (ch := ch) h).1
  have h2 := sta_ge (ch := ch) (n := n) (i := psn ch n k)
  omega
theorem psn_k {k : Nat} (h : ∀ j, j < k → sta ch n (psn ch n j) < n) : k ≤ psn ch n k := by
  induction k with
  | zero => exact Nat.zero_le _
  | succ k ih =>
    have h1 := ih (fun j hj => h j (by omega))
    have h2 := psn_lt (h k (by omega))
    omega
theorem sgn_if {α : Type} (x y : α) {c : Nat} (hc : c < 256) : (if nI c = 40 then x else if nI c = 41 then x else if nI c = 59 then x else if nI c = 43 then x else if nI c = 45 then x else if nI c = 60 then x else if nI c = 61 then x else y) = if sgn c = true then x else y := by
  have e : ∀ d, d < 256 → (nI c = nI d ↔ c = d) := fun d hd => nI_eq (by omega) (by omega)
  have e40 : nI c = 40 ↔ c = 40 := e 40 (by decide)
  have e41 : nI c = 41 ↔ c = 41 := e 41 (by decide)
  have e59 : nI c = 59 ↔ c = 59 := e 59 (by decide)
  have e43 : nI c = 43 ↔ c = 43 := e 43 (by decide)
  have e45 : nI c = 45 ↔ c = 45 := e 45 (by decide)
  have e60 : nI c = 60 ↔ c = 60 := e 60 (by decide)
  have e61 : nI c = 61 ↔ c = 61 := e 61 (by decide)
  simp only [e40, e41, e59, e43, e45, e60, e61]
  by_cases h : sgn c = true
  · rw [if_pos h]
    unfold sgn at h
    simp only [Bool.or_eq_true, decide_eq_true_eq] at h
    rcases h with (((((h | h) | h) | h) | h) | h) | h <;> subst h <;> rfl
  · rw [if_neg h]
    unfold sgn at h
    simp only [Bool.or_eq_true, decide_eq_true_eq, not_or] at h
    obtain ⟨⟨⟨⟨⟨⟨h1, h2⟩, h3⟩, h4⟩, h5⟩, h6⟩, h7⟩ := h
    rw [if_neg h1, if_neg h2, if_neg h3, if_neg h4, if_neg h5, if_neg h6, if_neg h7]
theorem step_81 (h : BY b a ch) (hn : n ≤ 400) {t0 s0 b0 e0 : Int32} : ∀ k j, n - j < k → j ≤ n → f_X11_step_81 a (nI n) k (nI j, t0, s0, b0, e0) = some (nI (bh (fun j => isL (ch j)) n j), 1, s0, b0, nI (bh (fun j => isL (ch j)) n j)) := by
  intro k
  induction k with
  | zero => intro j h0; omega
  | succ k ih =>
    intro j hk hj
    show g_X11_step_81 a (nI n) (nI j) t0 s0 b0 e0 (fun p q r s t => f_X11_step_81 a (nI n) k (p, q, r, s, t)) = _
    unfold g_X11_step_81 g_X11_step_234
    rcases Nat.lt_or_ge j n with q | q
    · rw [at_a h hn q]
      simp only [Option.bind_some]
      rw [let_a _ (h j).2.1]
      simp only [Option.bind_some]
      cases e : isL (ch j)
      · rw [if_pos (by decide), bh_no (p := fun j => isL (ch j)) (fun w => by have w2 : isL (ch j) = true := w.2; rw [e] at w2; cases w2)]
      · rw [if_neg (by decide), nI_1, bh_yes (p := fun j => isL (ch j)) q e]
        exact ih (j + 1) (by omega) q
    · have e : j = n := by omega
      subst e
      rw [at_n hn (Nat.le_refl _) (by omega)]
      simp only [Option.bind_some]
      rw [let_n]
      simp only [Option.bind_some]
      rw [if_pos trivial, bh_no (fun w => absurd w.1 (Nat.lt_irrefl _))]
theorem step_123 (h : BY b a ch) (hn : n ≤ 400) {t0 s0 b0 e0 : Int32} : ∀ k j, n - j < k → j ≤ n → f_X11_step_123 a (nI n) k (nI j, t0, s0, b0, e0) = some (nI (bh (fun j => isD (ch j)) n j), 2, s0, b0, nI (bh (fun j => isD (ch j)) n j)) := by
  intro k
  induction k with
  | zero => intro j h0; omega
  | succ k ih =>
    intro j hk hj
    show g_X11_step_123 a (nI n) (nI j) t0 s0 b0 e0 (fun p q r s t => f_X11_step_123 a (nI n) k (p, q, r, s, t)) = _
    unfold g_X11_step_123 g_X11_step_234
    rcases Nat.lt_or_ge j n with q | q
    · rw [at_a h hn q]
      simp only [Option.bind_some]
      rw [dig_a _ (h j).2.1]
      simp only [Option.bind_some]
      cases e : isD (ch j)
      · rw [if_pos (by decide), bh_no (p := fun j => isD (ch j)) (fun w => by have w2 : isD (ch j) = true := w.2; rw [e] at w2; cases w2)]
      · rw [if_neg (by decide), nI_1, bh_yes (p := fun j => isD (ch j)) q e]
        exact ih (j + 1) (by omega) q
    · have e : j = n := by omega
      subst e
      rw [at_n hn (Nat.le_refl _) (by omega)]
      simp only [Option.bind_some]
      rw [dig_n]
      simp only [Option.bind_some]
      rw [if_pos trivial, bh_no (fun w => absurd w.1 (Nat.lt_irrefl _))]
theorem step_l (h : BY b a ch) (hn : n ≤ 400) {fu : Nat} (hfu : 500 < fu) {t0 s0 b0 e0 : Int32} : ∀ k i, n - i < k → i ≤ n → f_X11_step_0 fu a (nI n) k (nI i, t0, s0, b0, e0) = some (nI (en1 ch n (sta ch n i)), nI (mk1 ch n (sta ch n i)), nI (ms1 ch n (sta ch n i)), nI (sta ch n i), nI (en1 ch n (sta ch n i))) := by
  intro k
  induction k with
  | zero => intro j h0; omega
  | succ k ih =>
    intro i hk hi
    show g_X11_step_0 fu a (nI n) (nI i) t0 s0 b0 e0 (fun p q r s t => f_X11_step_0 fu a (nI n) k (p, q, r, s, t)) = _
    unfold g_X11_step_0 g_X11_step_26
    rcases Nat.lt_or_ge i n with q | q
    · have hc := (h i).2.1
      have e32 : nI (ch i) = 32 ↔ ch i = 32 := nI_eq (b := 32) (by omega) (by decide)
      have e10 : nI (ch i) = 10 ↔ ch i = 10 := nI_eq (b := 10) (by omega) (by decide)
      rw [at_a h hn q]
      simp only [Option.bind_some]
      by_cases c1 : ch i = 32
      · rw [if_pos (e32.mpr c1), nI_1, sta_b q (by rw [c1]; rfl)]
        exact ih (i + 1) (by omega) q
      rw [if_neg (fun w => c1 (e32.mp w))]
      by_cases c2 : ch i = 10
      · rw [if_pos (e10.mpr c2), nI_1, sta_b q (by rw [c2]; rfl)]
        exact ih (i + 1) (by omega) q
      have hb : blk (ch i) = false := by unfold blk; rw [decide_eq_false c1, decide_eq_false c2]; rfl
      rw [if_neg (fun w => c2 (e10.mp w)), if_neg (ne_m1 _ (by omega)), sta_n hb]
      unfold en1 mk1 ms1 ted
      rw [if_pos q, if_pos q, if_pos q, let_a _ hc]
      simp only [Option.bind_some]
      cases e1 : isL (ch i)
      · rw [if_pos (by decide), dig_a _ hc]
        simp only [Option.bind_some]
        cases e2 : isD (ch i)
        · rw [if_pos (by decide), nI_1, sgn_if _ _ hc]
          cases e3 : sgn (ch i)
          · rfl
          · rfl
        · rw [if_neg (by decide)]
          have := step_123 (t0 := t0) (s0 := 0) (b0 := nI i) (e0 := e0) h hn fu i (by omega) hi
          rw [this]
          rfl
      · rw [if_neg (by decide)]
        have := step_81 (t0 := t0) (s0 := 0) (b0 := nI i) (e0 := e0) h hn fu i (by omega) hi
        rw [this]
        rfl
    · have e : i = n := by omega
      subst e
      rw [at_n hn (Nat.le_refl _) (by omega)]
      simp only [Option.bind_some]
      rw [if_neg (by decide), if_neg (by decide), if_pos trivial, sta_e]
      unfold en1 mk1 ms1 g_X11_step_234
      rw [if_neg (Nat.lt_irrefl _), if_neg (Nat.lt_irrefl _), if_neg (Nat.lt_irrefl _)]
      rfl
theorem step_q (h : BY b a ch) (hn : n ≤ 400) {fu : Nat} (hfu : 500 < fu) (hi : i ≤ n) (t0 s0 b0 e0 : Int32) : f_X11_step fu a (nI n) (nI i) t0 s0 b0 e0 = some (nI (en1 ch n (sta ch n i)), nI (mk1 ch n (sta ch n i)), nI (ms1 ch n (sta ch n i)), nI (sta ch n i), nI (en1 ch n (sta ch n i))) :=
  step_l h hn hfu fu i (by omega) hi
end
