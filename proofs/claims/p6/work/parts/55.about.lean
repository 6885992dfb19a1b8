/-! about; copy, fault and count stand in 37 or are plain. -/
def chn (F M : Nat → Option Nat) (r : Nat) : Nat → Nat
  | 0 => 0
  | t + 1 => if F t = some r ∨ M t = some r then chn F M r t + 1 else chn F M r t
section
variable {n : Nat} {S : Nat → Bool} {B E : Nat → Nat} {F M : Nat → Option Nat} {fem born died ly fa mo fg mg : Nat → Int32}
theorem children_b (h : IP n S B E F M fem born died ly fa mo) {r : Nat} (hr : r < n) : ∀ k t, t ≤ n → n - t < k → f_X4_childrenOf_4 fa mo (nI n) k (nI r, nI (chn F M r t), nI t) = some (nI (chn F M r n)) := by
  have hn := h.1
  intro k
  induction k with
  | zero => intro t _ h0; omega
  | succ k ih =>
    intro t ht hk
    show g_X4_childrenOf_4 fa mo (nI n) (fun a b c => f_X4_childrenOf_4 fa mo (nI n) k (a, b, c)) (nI r) (nI (chn F M r t)) (nI t) = _
    unfold g_X4_childrenOf_4 g_X4_childrenOf_32 g_X4_childrenOf_35
    rw [nI_1, nI_1]
    rcases Nat.lt_or_ge t n with q | q
    · rw [if_neg (nI_ge q (by omega))]
      simp only [inb_nI (N := 60) (n := t) (by omega) (by decide), nI_clamp (n := t) (by omega), if_true]
      have := ih (t + 1) q (by omega)
      rw [chn] at this
      by_cases c1 : fa t = nI r
      · rw [if_pos c1]
        rw [if_pos (Or.inl ((fa_is h q (by omega)).mp c1))] at this
        exact this
      rw [if_neg c1]
      by_cases c2 : mo t = nI r
      · rw [if_pos c2]
        rw [if_pos (Or.inr ((mo_is h q (by omega)).mp c2))] at this
        exact this
      · rw [if_neg c2]
        rw [if_neg fun w => by
          rcases w with v | v
          · exact c1 ((fa_is h q (by omega)).mpr v)
          · exact c2 ((mo_is h q (by omega)).mpr v)] at this
        exact this
    · have e : t = n := by omega
      subst e
      rw [if_pos (nI_le (Nat.le_refl _) (by omega))]
theorem about_m (h : IP n S B E F M fem born died ly fa mo) {r : Nat} (hr : r < n) (x2 : Int32) : ∀ k t, t ≤ n → n - t < k → f_X11_about_23 (nI n) fem born died fa mo fg mg k (nI r, x2, nI (chn F M r t), nI t, 0) = g_X11_about_23 (nI n) fem born died fa mo fg mg 0 (fun _ _ _ _ _ => none) (nI r) x2 (nI (chn F M r n)) (nI n) := by
  have hn := h.1
  intro k
  induction k with
  | zero => intro t _ h0; omega
  | succ k ih =>
    intro t ht hk
    show g_X11_about_23 (nI n) fem born died fa mo fg mg 0 (fun a b c d e => f_X11_about_23 (nI n) fem born died fa mo fg mg k (a, b, c, d, e)) (nI r) x2 (nI (chn F M r t)) (nI t) = _
    rcases Nat.lt_or_ge t n with q | q
    · have := ih (t + 1) q (by omega)
      rw [chn] at this
      rw [← this, g_X11_about_23, g_X11_about_48, g_X11_about_48, if_neg (nI_ge q (by omega)), child_m h q hr, Int32.add_zero, nI_1, nI_1]
      simp only [Option.bind_some]
      by_cases c : bI (dc (F t = some r ∨ M t = some r)) = 0
      · rw [if_pos c, if_neg fun w => by rw [bI_0, dc_t w] at c; cases c]
      · rw [if_neg c, if_pos (dc_iff.mp (bI_ne.mp c))]
    · have e : t = n := by omega
      subst e
      rw [g_X11_about_23, g_X11_about_23, if_pos (nI_le (Nat.le_refl _) (by omega)), if_pos (nI_le (Nat.le_refl _) (by omega))]
theorem q_about (h : IP n S B E F M fem born died ly fa mo) {fu : Nat} (hfu : 61 < fu) {p : Nat} (hp : p < n) (x2 : Int32) (hw : x2 = 0 ∨ x2 = 1 ∨ x2 = 2 ∨ x2 = 3 ∨ x2 = 4 ∨ x2 = 5 ∨ x2 = 6 ∨ x2 = 7) : ∃ a, f_X10_about fu fem born died fa mo fg mg (nI n) (nI p) x2 = some a ∧ f_X11_about fu (nI n) fem born died fa mo fg mg (nI p) x2 = some (a, 0) := by
  have hn := h.1
  have hh : hs n (nI p) := hs_of (by omega) hp
  have hm : f_X11_about_23 (nI n) fem born died fa mo fg mg fu (nI p, x2, 0, 0, 0) = _ := about_m (fg := fg) (mg := mg) h hp x2 fu 0 (Nat.zero_le _) (by omega)
  unfold f_X10_about f_X11_about
  rw [req_1 hh, is_m1 hh]
  simp only [Option.bind_some]
  rw [if_neg i10, hm, g_X11_about_23, if_pos (nI_le (Nat.le_refl _) (by omega))]
  simp only [inb_nI (N := 60) (n := p) (by omega) (by decide), nI_clamp (n := p) (by omega), if_true]
  have hb := has_b1 hh
  rcases hw with rfl | rfl | rfl | rfl | rfl | rfl | rfl | rfl
  · rw [if_pos rfl, if_pos rfl, born_b h hp, (h.2 p hp).2.1]
    exact ⟨_, rfl, rfl⟩
  · rw [if_neg (by decide), if_pos rfl, if_neg (by decide), if_pos rfl]
    unfold f_X4_toldDeathOf
    rw [hb]
    simp only [Option.bind_some, inb_nI (N := 60) (n := p) (by omega) (by decide), nI_clamp (n := p) (by omega), if_true]
    rw [if_neg i10]
    exact ⟨_, rfl, rfl⟩
  · rw [if_neg (by decide), if_neg (by decide), if_pos rfl, if_neg (by decide), if_neg (by decide), if_pos rfl, fa_b h hp, fa_eq h hp]
    exact ⟨_, rfl, rfl⟩
  · rw [if_neg (by decide), if_neg (by decide), if_neg (by decide), if_pos rfl, if_neg (by decide), if_neg (by decide), if_neg (by decide), if_pos rfl]
    unfold f_X4_motherOf
    rw [hb]
    simp only [Option.bind_some, inb_nI (N := 60) (n := p) (by omega) (by decide), nI_clamp (n := p) (by omega), if_true]
    rw [if_neg i10]
    exact ⟨_, rfl, rfl⟩
  · rw [if_neg (by decide), if_neg (by decide), if_neg (by decide), if_neg (by decide), if_pos rfl, if_neg (by decide), if_neg (by decide), if_neg (by decide), if_neg (by decide), if_pos rfl, fg_b h hp]
    exact ⟨_, rfl, rfl⟩
  · rw [if_neg (by decide), if_neg (by decide), if_neg (by decide), if_neg (by decide), if_neg (by decide), if_pos rfl, if_neg (by decide), if_neg (by decide), if_neg (by decide), if_neg (by decide), if_neg (by decide), if_pos rfl]
    unfold f_X4_motherGradeOf
    rw [hb]
    simp only [Option.bind_some, inb_nI (N := 60) (n := p) (by omega) (by decide), nI_clamp (n := p) (by omega), if_true]
    rw [if_neg i10]
    exact ⟨_, rfl, rfl⟩
  · rw [if_neg (by decide), if_neg (by decide), if_neg (by decide), if_neg (by decide), if_neg (by decide), if_neg (by decide), if_pos rfl, if_neg (by decide), if_neg (by decide), if_neg (by decide), if_neg (by decide), if_neg (by decide), if_neg (by decide), if_pos rfl, female_b h hp, (h.2 p hp).1]
    simp only [Option.bind_some, asInt_b]
    cases S p
    · exact ⟨_, rfl, rfl⟩
    · exact ⟨_, rfl, rfl⟩
  · rw [if_neg (by decide), if_neg (by decide), if_neg (by decide), if_neg (by decide), if_neg (by decide), if_neg (by decide), if_neg (by decide), if_pos rfl, if_neg (by decide), if_neg (by decide), if_neg (by decide), if_neg (by decide), if_neg (by decide), if_neg (by decide), if_neg (by decide), if_pos rfl]
    have hc : f_X4_childrenOf fu fa mo (nI n) (nI p) = some (nI (chn F M p n)) := children_b h hp fu 0 (Nat.zero_le _) (by omega)
    rw [hc]
    exact ⟨_, rfl, rfl⟩
theorem q_about_x (h : IP n S B E F M fem born died ly fa mo) {fu : Nat} (hfu : 61 < fu) (x1 x2 : Int32) (hw : ¬ (hs n x1 ∧ (x2 = 0 ∨ x2 = 1 ∨ x2 = 2 ∨ x2 = 3 ∨ x2 = 4 ∨ x2 = 5 ∨ x2 = 6 ∨ x2 = 7))) : f_X10_about_x (nI n) x1 x2 = some () ∧ f_X11_about fu (nI n) fem born died fa mo fg mg x1 x2 = some (0, 1) := by
  have hn := h.1
  unfold f_X10_about_x f_X11_about
  rcases Classical.em (hs n x1) with hh | hh
  · obtain ⟨p, hp, rfl⟩ := hs_nI (by omega) hh
    have hm : f_X11_about_23 (nI n) fem born died fa mo fg mg fu (nI p, x2, 0, 0, 0) = _ := about_m (fg := fg) (mg := mg) h hp x2 fu 0 (Nat.zero_le _) (by omega)
    have q : ∀ v : Int32, (v = 0 ∨ v = 1 ∨ v = 2 ∨ v = 3 ∨ v = 4 ∨ v = 5 ∨ v = 6 ∨ v = 7) → ¬ x2 = v := fun v hv e => hw ⟨hh, by rw [e]; exact hv⟩
    rw [reqx_1 hh, req_1 hh, is_m1 hh]
    simp only [Option.bind_some]
    rw [if_neg i10, hm, g_X11_about_23, if_pos (nI_le (Nat.le_refl _) (by omega))]
    simp only [if_neg (q 0 (by decide)), if_neg (q 1 (by decide)), if_neg (q 2 (by decide)), if_neg (q 3 (by decide)), if_neg (q 4 (by decide)), if_neg (q 5 (by decide)), if_neg (q 6 (by decide)), if_neg (q 7 (by decide))]
    exact ⟨rfl, rfl⟩
  · rw [reqx_0 hh, is_m0 hh]
    exact ⟨rfl, rfl⟩
end
