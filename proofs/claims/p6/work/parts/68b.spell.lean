section
variable {b a : Nat → Int32} {ch : Nat → Nat} {s e x : Nat}
theorem sl_len : (sl ch s e).length = e - s := by simp [sl]
theorem sl_at {k : Nat} (h : k < e - s) : (sl ch s e).getD k 0 = ch (s + k) := by simp [sl, List.getD_eq_getElem?_getD, h]
theorem l_ext {l m : List Nat} (h1 : l.length = m.length) (h2 : ∀ k, k < l.length → l.getD k 0 = m.getD k 0) : l = m := by
  refine List.ext_getElem h1 (fun k k1 k2 => ?_)
  have := h2 k k1
  simpa [List.getD_eq_getElem?_getD, k1, k2] using this
theorem sl_eq {w : List Nat} (hl : w.length = e - s) : sl ch s e = w ↔ ∀ k, k < e - s → ch (s + k) = w.getD k 0 := by
  constructor
  · intro h k hk
    rw [← h, sl_at hk]
  · intro h
    refine l_ext (by rw [sl_len, hl]) (fun k hk => ?_)
    rw [sl_len] at hk
    rw [sl_at hk]
    exact h k hk
theorem slen (hx : x < 38) : f_J0_length_8abf5 x = some (nI (ESlen.getD x 0)) := by
  unfold f_J0_length_8abf5
  rw [if_pos (show x < ESN from hx)]
  rfl
theorem schar (hx : x < 38) {j : Nat} (hj : j < ESlen.getD x 0) : f_J0_charAt_5068e x (nI j) = some (nI ((wd x).getD j 0)) := by
  obtain ⟨h1, h2, h3⟩ := w_ok hx
  unfold f_J0_charAt_5068e
  rw [if_pos (show x < ESN from hx), if_pos (inb_nI hj (by omega)), nI_clamp (by omega), (h3 j hj).1]
theorem spell_l (h : BY b a ch) (hx : x < 38) (hs : s + ESlen.getD x 0 ≤ 400) : ∀ k t, t ≤ ESlen.getD x 0 → ESlen.getD x 0 - t < k → (∀ j, j < t → ch (s + j) = (wd x).getD j 0) → f_X7_spells_15 b k (nI s, x, nI t) = some (bI (decide (sl ch s (s + ESlen.getD x 0) = wd x))) := by
  obtain ⟨h1, h2, h3⟩ := w_ok hx
  have hse : s + ESlen.getD x 0 - s = ESlen.getD x 0 := by omega
  intro k
  induction k with
  | zero => intro t _ h0; omega
  | succ k ih =>
    intro t ht hk hp
    show g_X7_spells_15 b (fun a c d => f_X7_spells_15 b k (a, c, d)) (nI s) x (nI t) = _
    unfold g_X7_spells_15
    rw [slen hx]
    simp only [Option.bind_some]
    rcases Nat.lt_or_ge t (ESlen.getD x 0) with c | c
    · rw [if_neg (nI_ge c (by omega)), nI_add, if_pos (inb_nI (N := 400) (by omega) (by decide)), schar hx c, nI_clamp (by omega), nI_1]
      simp only [Option.bind_some]
      by_cases d : ch (s + t) = (wd x).getD t 0
      · rw [if_pos ((eq_b h (s + t) (h3 t c).2).mpr d)]
        refine ih (t + 1) c (by omega) (fun j hj => ?_)
        rcases Nat.lt_or_ge j t with q | q
        · exact hp j q
        · have : j = t := by omega
          rw [this]
          exact d
      · rw [if_neg (fun w => d ((eq_b h (s + t) (h3 t c).2).mp w)), decide_eq_false (fun w => d ((sl_eq (by rw [h1, hse])).mp w t (by omega)))]
        rfl
    · have e : t = ESlen.getD x 0 := by omega
      rw [if_pos (nI_le c (by omega)), decide_eq_true ((sl_eq (by rw [h1, hse])).mpr (fun k hk => hp k (by omega)))]
      rfl
theorem spells_q (h : BY b a ch) (hx : x < 38) (hse : s ≤ e) (he : e ≤ 400) {fu : Nat} (hfu : 500 < fu) : f_X7_spells fu b (nI s) (nI e) x = some (bI (decide (sl ch s e = wd x))) := by
  obtain ⟨h1, h2, h3⟩ := w_ok hx
  unfold f_X7_spells
  rw [slen hx, nI_sub hse]
  simp only [Option.bind_some]
  by_cases c : e - s = ESlen.getD x 0
  · have e1 : e = s + ESlen.getD x 0 := by omega
    rw [if_pos (by rw [c]), e1]
    exact spell_l h hx (by omega) fu 0 (Nat.zero_le _) (by omega) (fun j hj => by omega)
  · rw [if_neg (fun w => c ((nI_eq (by omega) (by omega)).mp w)), decide_eq_false (fun w => c (by rw [← h1, ← w, sl_len]))]
    rfl
theorem word_0 {k : Nat} {t : Int32} : f_X11_isWord_32 a (nI s) (k + 1) (x, 0, t) = some 0 := by
  show g_X11_isWord_32 a (nI s) (fun p q r => f_X11_isWord_32 a (nI s) k (p, q, r)) x 0 t = _
  unfold g_X11_isWord_32
  rw [if_pos rfl]
  rfl
theorem word_l (h : BY b a ch) (hx : x < 38) (hs : s + ESlen.getD x 0 ≤ 400) : ∀ k t, t ≤ ESlen.getD x 0 → ESlen.getD x 0 - t + 1 < k → (∀ j, j < t → ch (s + j) = (wd x).getD j 0) → f_X11_isWord_32 a (nI s) k (x, 1, nI t) = some (bI (decide (sl ch s (s + ESlen.getD x 0) = wd x))) := by
  obtain ⟨h1, h2, h3⟩ := w_ok hx
  have hse : s + ESlen.getD x 0 - s = ESlen.getD x 0 := by omega
  intro k
  induction k with
  | zero => intro t _ h0; omega
  | succ k ih =>
    intro t ht hk hp
    show g_X11_isWord_32 a (nI s) (fun p q r => f_X11_isWord_32 a (nI s) k (p, q, r)) x 1 (nI t) = _
    unfold g_X11_isWord_32 g_X11_isWord_68
    rw [if_neg i10, slen hx]
    simp only [Option.bind_some]
    rcases Nat.lt_or_ge t (ESlen.getD x 0) with c | c
    · rw [if_neg (nI_ge c (by omega)), schar hx c]
      simp only [Option.bind_some]
      rw [nI_add, if_pos (inb_nI (N := 400) (by omega) (by decide)), nI_clamp (by omega), nI_1]
      by_cases d : ch (s + t) = (wd x).getD t 0
      · rw [if_pos ((eq_a h (s + t) (by have := (h3 t c).2; omega)).mpr d).symm]
        refine ih (t + 1) c (by omega) (fun j hj => ?_)
        rcases Nat.lt_or_ge j t with q | q
        · exact hp j q
        · have : j = t := by omega
          rw [this]
          exact d
      · rw [if_neg (fun w => d ((eq_a h (s + t) (by have := (h3 t c).2; omega)).mp w.symm)), decide_eq_false (fun w => d ((sl_eq (by rw [h1, hse])).mp w t (by omega)))]
        cases k with
        | zero => omega
        | succ k => exact word_0
    · rw [if_pos (nI_le c (by omega)), decide_eq_true ((sl_eq (by rw [h1, hse])).mpr (fun k hk => hp k (by omega)))]
      rfl
theorem isWord_q (h : BY b a ch) (hx : x < 38) (hse : s ≤ e) (he : e ≤ 400) {fu : Nat} (hfu : 500 < fu) : f_X11_isWord fu a 1 (nI s) (nI e) x = some (bI (decide (sl ch s e = wd x))) := by
  obtain ⟨h1, h2, h3⟩ := w_ok hx
  unfold f_X11_isWord g_X11_isWord_28 g_X11_isWord_29
  rw [if_pos rfl, slen hx, nI_sub hse]
  simp only [Option.bind_some]
  by_cases c : e - s = ESlen.getD x 0
  · have e1 : e = s + ESlen.getD x 0 := by omega
    rw [if_pos (by rw [c]), e1]
    exact word_l h hx (by omega) fu 0 (Nat.zero_le _) (by omega) (fun j hj => by omega)
  · rw [if_neg (fun w => c ((nI_eq (by omega) (by omega)).mp w.symm)), decide_eq_false (fun w => c (by rw [← h1, ← w, sl_len]))]
    cases fu with
    | zero => omega
    | succ k => exact word_0
theorem isWord_n {t m : Int32} (ht : ¬ t = 1) {fu : Nat} (hfu : 500 < fu) : f_X11_isWord fu a t (nI s) m x = some 0 := by
  unfold f_X11_isWord g_X11_isWord_28 g_X11_isWord_29
  rw [if_neg ht]
  cases fu with
  | zero => omega
  | succ k => exact word_0
end
