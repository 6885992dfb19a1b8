/-! head. -/
def hrb (F M : Nat → Option Nat) (L : Nat → Bool) (B : Nat → Nat) (r : Nat) : Nat → Option Nat
  | 0 => none
  | t + 1 => if (F t = some r ∨ M t = some r) ∧ L t = true ∧ (∀ b, hrb F M L B r t = some b → eld B t b = true) then some t else hrb F M L B r t
theorem hrb_no {F M : Nat → Option Nat} {L : Nat → Bool} {B : Nat → Nat} {r t : Nat} (h : ¬ ((F t = some r ∨ M t = some r) ∧ L t = true ∧ (∀ b, hrb F M L B r t = some b → eld B t b = true))) : hrb F M L B r (t + 1) = hrb F M L B r t := by rw [hrb, if_neg h]
theorem hrb_yes {F M : Nat → Option Nat} {L : Nat → Bool} {B : Nat → Nat} {r t : Nat} (h : (F t = some r ∨ M t = some r) ∧ L t = true ∧ (∀ b, hrb F M L B r t = some b → eld B t b = true)) : hrb F M L B r (t + 1) = some t := by rw [hrb, if_pos h]
theorem hrb_is {F M : Nat → Option Nat} {L : Nat → Bool} {B : Nat → Nat} {r t b : Nat} (h : hrb F M L B r t = some b) : b < t ∧ (F b = some r ∨ M b = some r) := by
  induction t with
  | zero => cases h
  | succ t ih =>
    rw [hrb] at h
    split at h
    · rename_i w
      cases h
      exact ⟨by omega, w.1⟩
    · have := ih h
      exact ⟨by omega, this.2⟩
def hdv (F M : Nat → Option Nat) (L : Nat → Bool) (B : Nat → Nat) (lv : Nat → Bool) (n : Nat) : Nat → Nat → Int32
  | 0, _ => -1
  | k + 1, r => if lv r = true then nI r else (match hrb F M L B r n with
      | none => -1
      | some c => hdv F M L B lv n k c)
section
variable {n : Nat} {S : Nat → Bool} {B E : Nat → Nat} {F M : Nat → Option Nat} {fem born died ly fa mo : Nat → Int32} {y : Int32}
theorem mo_eq (h : IP n S B E F M fem born died ly fa mo) {i : Nat} (hi : i < n) : mo i = oI (M i) := (h.2 i hi).2.2.2.2.2.2.2.2.2.1
theorem mo_lt (h : IP n S B E F M fem born died ly fa mo) {i j : Nat} (hi : i < n) (hf : M i = some j) : j < i := ((h.2 i hi).2.2.2.2.2.2.2.2.2.2.2 j hf).1
theorem mo_is (h : IP n S B E F M fem born died ly fa mo) {i p : Nat} (hi : i < n) (hp : p < 2 ^ 31) : mo i = nI p ↔ M i = some p := by
  rw [mo_eq h hi]
  have hn := h.1
  cases hf : M i with
  | none => exact ⟨fun q => absurd q.symm (ne_m1 p hp), fun q => by cases q⟩
  | some j =>
    have hj := mo_lt h hi hf
    rw [oI_some, nI_eq (by omega) hp]
    exact ⟨fun q => by rw [q], fun q => by cases q; rfl⟩
theorem heir_loop (h : IP n S B E F M fem born died ly fa mo) {r : Nat} (hr : r < n) {x : Int64} {L : Nat → Bool} (hx : ∀ i, i < 64 → (b6 x i = true ↔ i < n ∧ L i = true)) : ∀ k t, t ≤ n → n - t < k → f_X4_heirOf_6 born fa mo (nI n) k (nI r, x, oI (hrb F M L B r t), nI t) = some (oI (hrb F M L B r n)) := by
  have hn := h.1
  intro k
  induction k with
  | zero => intro t _ h0; omega
  | succ k ih =>
    intro t ht hk
    show g_X4_heirOf_6 born fa mo (nI n) (fun a b c d => f_X4_heirOf_6 born fa mo (nI n) k (a, b, c, d)) (nI r) x (oI (hrb F M L B r t)) (nI t) = _
    unfold g_X4_heirOf_6 g_X4_heirOf_37 g_X4_heirOf_50 g_X4_heirOf_51 g_X4_heirOf_75 g_X4_heirOf_79
    rw [nI_1]
    rcases Nat.lt_or_ge t n with q | q
    · rw [if_neg (nI_ge q (by omega)), isIn_b (by omega : t < 64)]
      have hb : b6 x t = L t := by
        rw [Bool.eq_iff_iff, hx t (by omega)]
        exact ⟨fun w => w.2, fun w => ⟨q, w⟩⟩
      rw [hb]
      simp only [Option.bind_some, inb_nI (N := 60) (n := t) (by omega) (by decide), nI_clamp (n := t) (by omega), if_true]
      have go : ∀ o, hrb F M L B r (t + 1) = o → f_X4_heirOf_6 born fa mo (nI n) k (nI r, x, oI o, nI (t + 1)) = some (oI (hrb F M L B r n)) := fun o ho => by
        rw [← ho]
        exact ih (t + 1) q (by omega)
      have son : (F t = some r ∨ M t = some r) → (if bI (L t) = 0 then f_X4_heirOf_6 born fa mo (nI n) k (nI r, x, oI (hrb F M L B r t), nI (t + 1)) else if (1 : Int32) = 0 then f_X4_heirOf_6 born fa mo (nI n) k (nI r, x, oI (hrb F M L B r t), nI (t + 1)) else if oI (hrb F M L B r t) = -1 then f_X4_heirOf_6 born fa mo (nI n) k (nI r, x, nI t, nI (t + 1)) else (f_X4_isElder born (nI n) (nI t) (oI (hrb F M L B r t))).bind fun v8 => if v8 = 0 then f_X4_heirOf_6 born fa mo (nI n) k (nI r, x, oI (hrb F M L B r t), nI (t + 1)) else f_X4_heirOf_6 born fa mo (nI n) k (nI r, x, nI t, nI (t + 1))) = some (oI (hrb F M L B r n)) := fun hs => by
        by_cases c2 : bI (L t) = 0
        · rw [if_pos c2]
          rw [bI_0] at c2
          exact go _ (hrb_no fun w => by rw [w.2.1] at c2; cases c2)
        rw [if_neg c2, if_neg i10]
        have c2' := bI_ne.mp c2
        cases hb : hrb F M L B r t with
        | none =>
          rw [oI_none, if_pos rfl]
          exact go (some t) (hrb_yes ⟨hs, c2', fun b w => by rw [hb] at w; cases w⟩)
        | some b =>
          have hbt := (hrb_is hb).1
          rw [oI_some, if_neg (ne_m1 b (by omega)), elder_b h q (by omega : b < n)]
          simp only [Option.bind_some]
          by_cases c3 : bI (eld B t b) = 0
          · rw [if_pos c3]
            rw [bI_0] at c3
            exact go (some b) (by rw [hrb_no (fun w => by rw [w.2.2 b hb] at c3; cases c3), hb])
          · rw [if_neg c3]
            exact go (some t) (hrb_yes ⟨hs, c2', fun b' w => by rw [hb] at w; cases w; exact bI_ne.mp c3⟩)
      by_cases c1 : fa t = nI r
      · rw [if_pos c1]
        exact son (Or.inl ((fa_is h q (by omega)).mp c1))
      rw [if_neg c1]
      by_cases c4 : mo t = nI r
      · rw [if_pos c4]
        exact son (Or.inr ((mo_is h q (by omega)).mp c4))
      · rw [if_neg c4]
        refine go _ (hrb_no fun w => ?_)
        rcases w.1 with v | v
        · exact c1 ((fa_is h q (by omega)).mpr v)
        · exact c4 ((mo_is h q (by omega)).mpr v)
    · have e : t = n := by omega
      subst e
      rw [if_pos (nI_le (Nat.le_refl _) (by omega))]
theorem child_m (h : IP n S B E F M fem born died ly fa mo) {c r : Nat} (hc : c < n) (hr : r < n) : f_X11_isChild fa mo (nI c) (nI r) = some (bI (dc (F c = some r ∨ M c = some r))) := by
  have hn := h.1
  unfold f_X11_isChild
  simp only [inb_nI (N := 60) (n := c) (by omega) (by decide), nI_clamp (n := c) (by omega), if_true]
  by_cases c1 : fa c = nI r
  · rw [if_pos c1, dc_t (p := F c = some r ∨ M c = some r) (Or.inl ((fa_is h hc (by omega)).mp c1))]; rfl
  rw [if_neg c1]
  by_cases c2 : mo c = nI r
  · rw [if_pos c2, dc_t (p := F c = some r ∨ M c = some r) (Or.inr ((mo_is h hc (by omega)).mp c2))]; rfl
  · rw [if_neg c2, dc_f (p := F c = some r ∨ M c = some r) fun w => by
      rcases w with v | v
      · exact c1 ((fa_is h hc (by omega)).mpr v)
      · exact c2 ((mo_is h hc (by omega)).mpr v)]
    rfl
theorem heir_loop_m (h : IP n S B E F M fem born died ly fa mo) {r : Nat} (hr : r < n) {arr : Nat → Int32} (ha : ∀ c, c < n → arr c = bI (LL n S F (lvb B E y) c)) {cd : Int32} (k25 : Int32 → Int32 → Int32 → (Nat → Int32) → Option (Int32 × Int32 × (Nat → Int32))) : ∀ k t, t ≤ n → n - t < k → f_X11_head_45 (nI n) fem born fa mo k25 k (y, nI r, oI (hrb F M (LL n S F (lvb B E y)) B r t), nI t, cd, arr) = k25 y (oI (hrb F M (LL n S F (lvb B E y)) B r n)) cd arr := by
  have hn := h.1
  intro k
  induction k with
  | zero => intro t _ h0; omega
  | succ k ih =>
    intro t ht hk
    show g_X11_head_45 (nI n) fem born fa mo cd arr k25 (fun a b c d e f => f_X11_head_45 (nI n) fem born fa mo k25 k (a, b, c, d, e, f)) y (nI r) (oI (hrb F M (LL n S F (lvb B E y)) B r t)) (nI t) = _
    unfold g_X11_head_45 g_X11_head_101 g_X11_head_105
    rw [nI_1]
    rcases Nat.lt_or_ge t n with q | q
    · rw [if_neg (nI_ge q (by omega)), child_m h q hr]
      simp only [Option.bind_some, inb_nI (N := 60) (n := t) (by omega) (by decide), nI_clamp (n := t) (by omega), if_true, ha t q]
      have go : ∀ o, hrb F M (LL n S F (lvb B E y)) B r (t + 1) = o → f_X11_head_45 (nI n) fem born fa mo k25 k (y, nI r, oI o, nI (t + 1), cd, arr) = k25 y (oI (hrb F M (LL n S F (lvb B E y)) B r n)) cd arr := fun o ho => by
        rw [← ho]
        exact ih (t + 1) q (by omega)
      by_cases c1 : bI (dc (F t = some r ∨ M t = some r)) = 0
      · rw [if_pos c1]
        rw [bI_0] at c1
        exact go _ (hrb_no fun w => by rw [dc_t w.1] at c1; cases c1)
      rw [if_neg c1]
      have hs := dc_iff.mp (bI_ne.mp c1)
      by_cases c3 : fem t = 0
      · rw [if_pos c3]
        by_cases c2 : bI (LL n S F (lvb B E y) t) = 0
        · rw [if_pos c2]
          rw [bI_0] at c2
          exact go _ (hrb_no fun w => by rw [w.2.1] at c2; cases c2)
        rw [if_neg c2]
        have c2' := bI_ne.mp c2
        cases hb : hrb F M (LL n S F (lvb B E y)) B r t with
        | none =>
          rw [oI_none, if_pos rfl]
          exact go (some t) (hrb_yes ⟨hs, c2', fun b w => by rw [hb] at w; cases w⟩)
        | some b =>
          have hbt := (hrb_is hb).1
          rw [oI_some, if_neg (ne_m1 b (by omega)), ahead_m h q (by omega : b < n)]
          simp only [Option.bind_some]
          by_cases c3 : bI (eld B t b) = 0
          · rw [if_pos c3]
            rw [bI_0] at c3
            exact go (some b) (by rw [hrb_no (fun w => by rw [w.2.2 b hb] at c3; cases c3), hb])
          · rw [if_neg c3]
            exact go (some t) (hrb_yes ⟨hs, c2', fun b' w => by rw [hb] at w; cases w; exact bI_ne.mp c3⟩)
      · rw [if_neg c3]
        exact go _ (hrb_no fun w => c3 ((fem_0 h q).mpr ((LL_iff q).mp w.2.1).1))
    · have e : t = n := by omega
      subst e
      rw [if_pos (nI_le (Nat.le_refl _) (by omega))]
theorem heir_gt (h : IP n S B E F M fem born died ly fa mo) {L : Nat → Bool} {r c : Nat} (hc : hrb F M L B r n = some c) : r < c ∧ c < n := by
  obtain ⟨a, b⟩ := hrb_is hc
  rcases b with b | b
  · exact ⟨fa_lt h a b, a⟩
  · exact ⟨mo_lt h a b, a⟩
theorem head_b (h : IP n S B E F M fem born died ly fa mo) {x : Int64} {L : Nat → Bool} (hx : ∀ i, i < 64 → (b6 x i = true ↔ i < n ∧ L i = true)) {fu : Nat} (hfu : 61 < fu) : ∀ kf k r u, r < n → n - r < kf → n - r ≤ k → u ≤ r → f_X4_headOf_12 fu born ly fa mo (nI n) kf (y, x, nI r, nI u) = some (hdv F M L B (lvb B E y) n k r) := by
  have hn := h.1
  intro kf
  induction kf with
  | zero => intro k r u _ h0; omega
  | succ kf ih =>
    intro k r u hr hk hk2 hu
    obtain ⟨k, rfl⟩ : ∃ k', k = k' + 1 := ⟨k - 1, by omega⟩
    show g_X4_headOf_12 fu born ly fa mo (nI n) (fun a b c d => f_X4_headOf_12 fu born ly fa mo (nI n) kf (a, b, c, d)) y x (nI r) (nI u) = _
    unfold g_X4_headOf_12 g_X4_headOf_53
    have q6 : ¬ (60 : Int32) ≤ nI u := nI_ge (b := 60) (by omega) (by decide)
    rw [if_neg q6, if_neg (ne_m1 r (by omega)), living_b h hr, hdv]
    simp only [Option.bind_some]
    by_cases c : bI (lvb B E y r) = 0
    · rw [if_pos c]
      rw [bI_0] at c
      rw [if_neg (by rw [c]; decide)]
      have hh : f_X4_heirOf fu born fa mo (nI n) (nI r) x = some (oI (hrb F M L B r n)) := heir_loop h hr hx fu 0 (Nat.zero_le _) (by omega)
      rw [hh, nI_1]
      simp only [Option.bind_some]
      cases hc : hrb F M L B r n with
      | none =>
        obtain ⟨kf, rfl⟩ : ∃ k', kf = k' + 1 := ⟨kf - 1, by omega⟩
        show g_X4_headOf_12 fu born ly fa mo (nI n) (fun a b c d => f_X4_headOf_12 fu born ly fa mo (nI n) kf (a, b, c, d)) y x (-1) (nI (u + 1)) = some (-1)
        unfold g_X4_headOf_12 g_X4_headOf_53
        rw [if_pos rfl, ite_self]
      | some c =>
        obtain ⟨c1, c2⟩ := heir_gt h hc
        exact ih k c (u + 1) c2 (by omega) (by omega) (by omega)
    · rw [if_neg c, if_pos (bI_ne.mp c)]
theorem head_m (h : IP n S B E F M fem born died ly fa mo) {arr : Nat → Int32} (ha : ∀ c, c < n → arr c = bI (LL n S F (lvb B E y) c)) {fu : Nat} (hfu : 61 < fu) : ∀ kf k r, r < n → n - r < kf → n - r ≤ k → f_X11_head_25 fu (nI n) fem born died fa mo kf (y, nI r, 0, arr) = some (hdv F M (LL n S F (lvb B E y)) B (lvb B E y) n k r, 0, arr) := by
  have hn := h.1
  intro kf
  induction kf with
  | zero => intro k r _ h0; omega
  | succ kf ih =>
    intro k r hr hk hk2
    obtain ⟨k, rfl⟩ : ∃ k', k = k' + 1 := ⟨k - 1, by omega⟩
    show g_X11_head_25 fu (nI n) fem born died fa mo 0 arr (fun a b c d => f_X11_head_25 fu (nI n) fem born died fa mo kf (a, b, c, d)) y (nI r) = _
    unfold g_X11_head_25 g_X11_head_117
    have e3 : (decide (¬ y < nI (B r)) && decide (¬ nI (E r) < y)) = lvb B E y r := rfl
    rw [if_neg (ne_m1 r (by omega)), lives_m h hr, e3, hdv]
    simp only [Option.bind_some]
    by_cases c : bI (lvb B E y r) = 0
    · rw [if_pos c]
      rw [bI_0] at c
      rw [if_neg (by rw [c]; decide)]
      have hh := heir_loop_m (y := y) (cd := 0) h hr ha (fun a b c d => f_X11_head_25 fu (nI n) fem born died fa mo kf (a, b, c, d)) fu 0 (Nat.zero_le _) (by omega)
      have hh' : f_X11_head_45 (nI n) fem born fa mo (fun a b c d => f_X11_head_25 fu (nI n) fem born died fa mo kf (a, b, c, d)) fu (y, nI r, -1, 0, 0, arr) = f_X11_head_25 fu (nI n) fem born died fa mo kf (y, oI (hrb F M (LL n S F (lvb B E y)) B r n), 0, arr) := hh
      rw [hh']
      cases hc : hrb F M (LL n S F (lvb B E y)) B r n with
      | none =>
        obtain ⟨kf, rfl⟩ : ∃ k', kf = k' + 1 := ⟨kf - 1, by omega⟩
        rfl
      | some c =>
        obtain ⟨c1, c2⟩ := heir_gt h hc
        exact ih k c c2 (by omega) (by omega)
    · rw [if_neg c, if_pos (bI_ne.mp c)]
theorem q_head (h : IP n S B E F M fem born died ly fa mo) {fu : Nat} (hfu : 61 < fu) {p : Nat} (hp : p < n) (arr : Nat → Int32) : ∃ a s1, f_X10_head fu fem born ly fa mo (nI n) (nI p) y = some a ∧ f_X11_head fu (nI n) fem born died fa mo arr (nI p) y = some (a, 0, s1) := by
  have hn := h.1
  have hh : hs n (nI p) := hs_of (by omega) hp
  obtain ⟨x, hx1, hx2⟩ := q_lines_b (y := y) h (by omega : 60 < fu)
  obtain ⟨arr', ha1, ha2⟩ := q_lines_m (y := y) h (by omega : 60 < fu) arr
  unfold f_X10_head f_X4_headOf f_X11_head
  rw [req_1 hh, is_m1 hh, hx1, ha1]
  simp only [Option.bind_some]
  rw [if_neg i10, head_m h ha2 hfu fu 60 p hp (by omega) (by omega)]
  have := head_b (y := y) h hx2 hfu fu 60 p 0 hp (by omega) (by omega) (by omega)
  have this' : f_X4_headOf_12 fu born ly fa mo (nI n) fu (y, x, nI p, 0) = some (hdv F M (LL n S F (lvb B E y)) B (lvb B E y) n 60 p) := this
  rw [this']
  exact ⟨_, _, rfl, rfl⟩
theorem q_head_x {fu : Nat} (x1 : Int32) (hh : ¬ hs n x1) (arr : Nat → Int32) : f_X10_head_x (nI n) x1 = some () ∧ f_X11_head fu (nI n) fem born died fa mo arr x1 y = some (0, 1, arr) := by
  unfold f_X10_head_x f_X11_head
  rw [reqx_0 hh, is_m0 hh]
  exact ⟨rfl, rfl⟩
end
