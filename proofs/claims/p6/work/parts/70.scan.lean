/-! Text: the book's scanner. -/
section
variable {b a : Nat → Int32} {ch : Nat → Nat} {n i s e : Nat}
theorem dig48 {c : Nat} (h : isD c = true) : 48 ≤ c ∧ c ≤ 57 := by
  unfold isD at h
  simp only [Bool.and_eq_true, decide_eq_true_eq] at h
  exact h
theorem let97 {c : Nat} (h : isL c = true) : 97 ≤ c ∧ c ≤ 122 := by
  unfold isL at h
  simp only [Bool.and_eq_true, decide_eq_true_eq] at h
  exact h
theorem behL (h : BY b a ch) (he : e ≤ 400) : ∀ k j, e - j < k → j ≤ e → f_X7_behindLetters_2 b k (nI e, nI j) = some (nI (bh (fun j => isL (ch j)) e j)) := by
  intro k
  induction k with
  | zero => intro j h0; omega
  | succ k ih =>
    intro j hk hj
    show g_X7_behindLetters_2 b (fun p q => f_X7_behindLetters_2 b k (p, q)) (nI e) (nI j) = _
    unfold g_X7_behindLetters_2 g_X7_behindLetters_22
    rcases Nat.lt_or_ge j e with q | q
    · rw [if_neg (nI_ge q (by omega)), if_pos (inb_nI (N := 400) (by omega) (by decide)), nI_clamp (by omega), let_b h]
      simp only [Option.bind_some]
      cases c : isL (ch j)
      · rw [if_pos (by decide), bh_no (p := fun j => isL (ch j)) (fun w => by have w2 : isL (ch j) = true := w.2; rw [c] at w2; cases w2)]
      · rw [if_neg (by decide), nI_1, bh_yes (p := fun j => isL (ch j)) q c]
        exact ih (j + 1) (by omega) q
    · rw [if_pos (nI_le q (by omega)), bh_no (fun w => by omega)]
theorem behD (h : BY b a ch) (he : e ≤ 400) : ∀ k j, e - j < k → j ≤ e → f_X7_behindDigits_2 b k (nI e, nI j) = some (nI (bh (fun j => isD (ch j)) e j)) := by
  intro k
  induction k with
  | zero => intro j h0; omega
  | succ k ih =>
    intro j hk hj
    show g_X7_behindDigits_2 b (fun p q => f_X7_behindDigits_2 b k (p, q)) (nI e) (nI j) = _
    unfold g_X7_behindDigits_2 g_X7_behindDigits_22
    rcases Nat.lt_or_ge j e with q | q
    · rw [if_neg (nI_ge q (by omega)), if_pos (inb_nI (N := 400) (by omega) (by decide)), nI_clamp (by omega), dig_b h]
      simp only [Option.bind_some]
      cases c : isD (ch j)
      · rw [if_pos (by decide), bh_no (p := fun j => isD (ch j)) (fun w => by have w2 : isD (ch j) = true := w.2; rw [c] at w2; cases w2)]
      · rw [if_neg (by decide), nI_1, bh_yes (p := fun j => isD (ch j)) q c]
        exact ih (j + 1) (by omega) q
    · rw [if_pos (nI_le q (by omega)), bh_no (fun w => by omega)]
theorem m10 (q : Nat) : nI q * 10 = nI (q * 10) := by
  have e : (10 : Int32) = Int32.ofNat 10 := rfl
  unfold nI
  rw [e, ← Int32.ofNat_mul]
theorem m10' (q : Nat) : 10 * nI q = nI (q * 10) := by
  have e : (10 : Int32) = Int32.ofNat 10 := rfl
  unfold nI
  rw [e, ← Int32.ofNat_mul, Nat.mul_comm]
theorem num_l (h : BY b a ch) (hse : s ≤ e) (he : e ≤ 400) (hd : ∀ j, s ≤ j → j < e → isD (ch j) = true) : ∀ k j, s + j ≤ e → e - (s + j) < k → f_X7_numberToken_14 b k (nI e, nI (nvl ch s j), nI (s + j)) = some (nI (1000 + nvl ch s (e - s))) := by
  intro k
  induction k with
  | zero => intro j _ h0; omega
  | succ k ih =>
    intro j hj hk
    show g_X7_numberToken_14 b (fun p q r => f_X7_numberToken_14 b k (p, q, r)) (nI e) (nI (nvl ch s j)) (nI (s + j)) = _
    unfold g_X7_numberToken_14
    rcases Nat.lt_or_ge (s + j) e with q | q
    · have hc := dig48 (hd (s + j) (by omega) q)
      have e48 : nI (ch (s + j)) - 48 = nI (ch (s + j) - 48) := nI_sub (i := 48) hc.1
      rw [if_neg (nI_ge q (by omega)), if_pos (inb_nI (N := 400) (by omega) (by decide)), nI_clamp (by omega), (h (s + j)).2.2.1 (by omega), e48, m10, nI_add, nI_1]
      have := ih (j + 1) (by omega) (by omega)
      rw [nvl] at this
      exact this
    · have e1 : e - s = j := by omega
      rw [if_pos (nI_le q (by omega)), e1]
      exact congrArg some (nI_add 1000 _)
theorem num_q (h : BY b a ch) (hse : s ≤ e) (he : e ≤ 400) (hd : ∀ j, s ≤ j → j < e → isD (ch j) = true) {fu : Nat} (hfu : 500 < fu) : f_X7_numberToken fu b (nI s) (nI e) = some (nI (if e - s ≤ 4 then 1000 + nvl ch s (e - s) else 2)) := by
  unfold f_X7_numberToken
  rw [nI_sub hse]
  have e4 : (nI (e - s) ≤ (4 : Int32)) ↔ e - s ≤ 4 := nI_leI (b := 4) (by omega) (by decide)
  by_cases c : e - s ≤ 4
  · rw [if_pos (e4.mpr c), if_pos c]
    exact num_l h hse he hd fu 0 hse (by omega)
  · rw [if_neg (fun w => c (e4.mp w)), if_neg c]
    rfl
theorem sign_b (h : BY b a ch) (i : Nat) : f_X7_isSign (b i) = some (bI (sgn (ch i))) := by
  obtain ⟨-, h2, h3, h4⟩ := h i
  rcases Nat.lt_or_ge (ch i) 128 with q | q
  · rw [h3 q]
    exact (by decide +kernel : ∀ c, c < 128 → f_X7_isSign (nI c) = some (bI (sgn c))) _ q
  · have hne : ∀ d : Nat, d < 128 → ¬ b i = nI d := fun d hd w => by
      have := (eq_b h i hd).mp w
      omega
    have hs : sgn (ch i) = false := by
      unfold sgn
      rw [decide_eq_false (by omega : ¬ ch i = 40), decide_eq_false (by omega : ¬ ch i = 41), decide_eq_false (by omega : ¬ ch i = 59), decide_eq_false (by omega : ¬ ch i = 43), decide_eq_false (by omega : ¬ ch i = 45), decide_eq_false (by omega : ¬ ch i = 60), decide_eq_false (by omega : ¬ ch i = 61)]
      rfl
    unfold f_X7_isSign
    have n40 : ¬ b i = 40 := hne 40 (by decide)
    have n41 : ¬ b i = 41 := hne 41 (by decide)
    have n59 : ¬ b i = 59 := hne 59 (by decide)
    have n43 : ¬ b i = 43 := hne 43 (by decide)
    have n45 : ¬ b i = 45 := hne 45 (by decide)
    have n60 : ¬ b i = 60 := hne 60 (by decide)
    have n61 : ¬ b i = 61 := hne 61 (by decide)
    rw [if_neg n40, if_neg n41, if_neg n59, if_neg n43, if_neg n45, if_neg n60, if_neg n61, hs]
    rfl
theorem put_q {tk st : Nat → Int32} {k : Nat} (hk : k < 401) (x y : Int32) : f_X7_put tk st (nI k) x y = some (upd tk k x, upd st k y, nI (k + 1)) := by
  have q : ¬ (401 : Int32) ≤ nI k := nI_ge (b := 401) hk (by decide)
  unfold f_X7_put g_X7_put_40
  rw [if_neg q, if_pos (inb_nI hk (by decide)), if_pos (inb_nI hk (by decide)), nI_clamp (by omega), nI_1]
theorem sgn128 {c : Nat} (h : sgn c = true) : c < 128 := by
  unfold sgn at h
  simp only [Bool.or_eq_true, decide_eq_true_eq] at h
  omega
theorem one_s (h : BY b a ch) (hn : n ≤ 400) (hi : i < n) {fu : Nat} (hfu : 500 < fu) {tk st : Nat → Int32} {k : Nat} (hk : k < 401) : f_X7_scanOne fu b tk st (nI k) (nI i) (nI n) = if blk (ch i) = true then some (nI (i + 1), tk, st, nI k) else some (nI (ted ch n i), upd tk k (nI (tks ch n i)), upd st k (nI i), nI (k + 1)) := by
  unfold f_X7_scanOne g_X7_scanOne_19 g_X7_scanOne_100
  have e32 : b i = 32 ↔ ch i = 32 := eq_b h i (c := 32) (by decide)
  have e10 : b i = 10 ↔ ch i = 10 := eq_b h i (c := 10) (by decide)
  rw [if_pos (inb_nI (N := 400) (by omega) (by decide)), nI_clamp (by omega), nI_1]
  by_cases c1 : ch i = 32
  · rw [if_pos (e32.mpr c1), if_pos (by rw [c1]; rfl)]
  rw [if_neg (fun w => c1 (e32.mp w))]
  by_cases c2 : ch i = 10
  · rw [if_pos (e10.mpr c2), if_pos (by rw [c2]; rfl)]
  have hb : ¬ blk (ch i) = true := by unfold blk; rw [decide_eq_false c1, decide_eq_false c2]; decide
  rw [if_neg (fun w => c2 (e10.mp w)), if_neg hb, let_b h]
  simp only [Option.bind_some]
  unfold tks
  cases e1 : isL (ch i)
  · rw [if_pos (by decide), dig_b h]
    simp only [Option.bind_some]
    cases e2 : isD (ch i)
    · have ht : ted ch n i = i + 1 := by unfold ted; rw [e1, e2]; rfl
      rw [if_pos (by decide), sign_b h, ht]
      simp only [Option.bind_some]
      cases e3 : sgn (ch i)
      · rw [if_pos (by decide), put_q hk]
        rfl
      · rw [if_neg (by decide), put_q hk, (h i).2.2.1 (sgn128 e3)]
        rfl
    · have ht : ted ch n i = bh (fun j => isD (ch j)) n i := by unfold ted; rw [e1, e2]; rfl
      have hg := ted_gt (ch := ch) hi
      have hq : f_X7_behindDigits fu b (nI i) (nI n) = some (nI (ted ch n i)) := by rw [ht]; exact behD h hn fu i (by omega) (by omega)
      rw [if_neg (by decide), hq]
      simp only [Option.bind_some]
      rw [num_q h (by omega) (by omega) (fun j j1 j2 => by rw [ht] at j2; exact bh_in (p := fun j => isD (ch j)) j1 j2) hfu]
      simp only [Option.bind_some]
      rw [put_q hk]
      rfl
  · have ht : ted ch n i = bh (fun j => isL (ch j)) n i := by unfold ted; rw [e1]; rfl
    have hg := ted_gt (ch := ch) hi
    have hq : f_X7_behindLetters fu b (nI i) (nI n) = some (nI (ted ch n i)) := by rw [ht]; exact behL h hn fu i (by omega) (by omega)
    rw [if_neg (by decide), hq]
    simp only [Option.bind_some]
    rw [word_q h (by omega) (by omega) hfu]
    simp only [Option.bind_some]
    rw [put_q hk]
    rfl
def SC (ch : Nat → Nat) (n : Nat) (tk st : Nat → Int32) (K : Nat) : Prop := ∀ j, j < K → tk j = nI (tk1 ch n (sta ch n (psn ch n j))) ∧ st j = nI (sta ch n (psn ch n j)) ∧ sta ch n (psn ch n j) < n
theorem scan_l (h : BY b a ch) (hn : n ≤ 400) {fu : Nat} (hfu : 500 < fu) : ∀ f i t k tk st, i ≤ n → n - i < f → t ≤ i → k ≤ i → sta ch n i = sta ch n (psn ch n k) → SC ch n tk st k → ∃ tk' st' K, f_X7_scan_18 fu b f (nI n, nI i, nI t, tk, st, nI k) = some (tk', st', nI (K + 1)) ∧ K ≤ 400 ∧ SC ch n tk' st' K ∧ tk' K = 0 ∧ st' K = nI n ∧ sta ch n (psn ch n K) = n := by
  intro f
  induction f with
  | zero => intro i t k tk st _ h0; omega
  | succ f ih =>
    intro i t k tk st hi hf ht hk hs hsc
    show ∃ tk' st' K, g_X7_scan_18 fu b tk st (nI k) (fun p q r s u v => f_X7_scan_18 fu b f (p, q, r, s, u, v)) (nI n) (nI i) (nI t) = some (tk', st', nI (K + 1)) ∧ _
    unfold g_X7_scan_18 g_X7_scan_48
    rcases Nat.lt_or_ge i n with q | q
    · have q4 : ¬ (400 : Int32) ≤ nI t := nI_ge (b := 400) (by omega) (by decide)
      rw [if_neg q4, if_neg (nI_ge q (by omega)), one_s h hn q hfu (by omega), nI_1]
      by_cases c : blk (ch i) = true
      · rw [if_pos c]
        simp only [Option.bind_some]
        exact ih (i + 1) (t + 1) k tk st q (by omega) (by omega) (by omega) (by rw [← sta_b q c]; exact hs) hsc
      · rw [if_neg c]
        simp only [Option.bind_some]
        have hb : blk (ch i) = false := by cases e : blk (ch i) with
          | false => rfl
          | true => exact absurd e c
        have hsi : sta ch n i = i := sta_n hb
        have hp : sta ch n (psn ch n k) = i := by rw [← hs, hsi]
        have hg := ted_gt (ch := ch) q
        have hnx : psn ch n (k + 1) = ted ch n i := by rw [psn, hp]; unfold en1; rw [if_pos q]
        refine ih (ted ch n i) (t + 1) (k + 1) _ _ hg.2 (by omega) (by omega) (by omega) (by rw [hnx]) (fun j hj => ?_)
        by_cases e : j = k
        · subst e
          rw [upd_at, upd_at, hp]
          refine ⟨?_, rfl, q⟩
          unfold tk1
          rw [if_pos q]
        · rw [upd_ne _ _ e, upd_ne _ _ e]
          exact hsc j (by omega)
    · have e : i = n := by omega
      subst e
      have hfin : ∀ z : Option ((Nat → Int32) × (Nat → Int32) × Int32), z = (f_X7_put tk st (nI k) 0 (nI i)).bind (fun v2 => some (v2.1, v2.2.1, v2.2.2)) → ∃ tk' st' K, z = some (tk', st', nI (K + 1)) ∧ K ≤ 400 ∧ SC ch i tk' st' K ∧ tk' K = 0 ∧ st' K = nI i ∧ sta ch i (psn ch i K) = i := fun z hz => by
        rw [hz, put_q (by omega)]
        simp only [Option.bind_some]
        refine ⟨_, _, k, rfl, by omega, fun j hj => ?_, upd_at _ _ _, upd_at _ _ _, ?_⟩
        · rw [upd_ne _ _ (show j ≠ k by omega), upd_ne _ _ (show j ≠ k by omega)]
          exact hsc j hj
        · rw [← hs, sta_e]
      by_cases c : (400 : Int32) ≤ nI t
      · rw [if_pos c]
        exact hfin _ rfl
      · rw [if_neg c, if_pos (nI_le (Nat.le_refl _) (by omega))]
        exact hfin _ rfl
theorem scan_q (h : BY b a ch) (hn : n ≤ 400) {fu : Nat} (hfu : 500 < fu) (tk st : Nat → Int32) : ∃ tk' st' K, f_X7_scan fu b tk st (nI n) = some (tk', st', nI (K + 1)) ∧ K ≤ 400 ∧ SC ch n tk' st' K ∧ tk' K = 0 ∧ st' K = nI n ∧ sta ch n (psn ch n K) = n := by
  have e : min32 (nI n) 400 = nI n := by
    unfold min32
    have : ¬ (400 : Int32) < nI n := nI_nlt (a := 400) hn (by decide)
    rw [if_neg this]
  unfold f_X7_scan
  rw [e]
  exact scan_l h hn hfu fu 0 0 0 tk st (by omega) (by omega) (by omega) (by omega) rfl (fun j hj => by omega)
end
