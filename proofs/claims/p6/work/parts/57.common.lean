/-! Forebears in the model; common. -/
def cmx (U : Nat → Bool) : Nat → Option Nat
  | 0 => none
  | t + 1 => if U t = true then some t else cmx U t
section
variable {n : Nat} {S : Nat → Bool} {B E : Nat → Nat} {F M : Nat → Option Nat} {fem born died ly fa mo : Nat → Int32}
theorem dc_congr {p q : Prop} (h : p ↔ q) : dc p = dc q := by rw [Bool.eq_iff_iff, dc_iff, dc_iff]; exact h
theorem up_m (h : IP n S B E F M fem born died ly fa mo) {p : Nat} : ∀ kf m arr, m ≤ n → m < kf → (∀ i, i < 60 → arr i = bI (dc (upAt n F M p m i))) → ∃ arr', f_X11_up_32 fa mo kf (nI m - 1, arr) = some arr' ∧ ∀ i, i < 60 → arr' i = bI (dc (upAt n F M p 0 i)) := by
  have hn := h.1
  intro kf
  induction kf with
  | zero => intro m arr _ h0; omega
  | succ kf ih =>
    intro m arr hm hk ha
    show ∃ arr', g_X11_up_32 fa mo arr (fun a b => f_X11_up_32 fa mo kf (a, b)) (nI m - 1) = some arr' ∧ _
    cases m with
    | zero =>
      unfold g_X11_up_32
      rw [if_pos (by decide)]
      exact ⟨arr, rfl, ha⟩
    | succ q =>
      have hq : q < n := by omega
      have e : nI q + (-1) = nI q - 1 := (Int32.sub_eq_add_neg _ _).symm
      rw [nI_pred]
      unfold g_X11_up_32 g_X11_up_70 g_X11_up_92
      rw [if_neg (nI_pos (by omega)), e]
      simp only [inb_nI (N := 60) (n := q) (by omega) (by decide), nI_clamp (n := q) (by omega), if_true, ha q (by omega)]
      by_cases c1 : bI (dc (upAt n F M p (q + 1) q)) = 0
      · rw [if_pos c1]
        rw [bI_0] at c1
        have hu : ¬ UP n F M p q = true := fun w => by rw [dc_t ((upAt_here hq).mpr w)] at c1; cases c1
        exact ih q arr (by omega) (by omega) (fun i hi => by rw [ha i hi, dc_congr (upAt_no hq hu)])
      rw [if_neg c1]
      have hu := (upAt_here hq).mp (dc_iff.mp (bI_ne.mp c1))
      rw [fa_eq h hq, mo_eq h hq]
      have half : ∀ arr1 : Nat → Int32, (∀ i, i < 60 → arr1 i = bI (dc (upAt n F M p (q + 1) i ∨ F q = some i))) → ∃ arr', (if oI (M q) = -1 then f_X11_up_32 fa mo kf (nI q - 1, arr1) else if inb (oI (M q)) 60 = true then f_X11_up_32 fa mo kf (nI q - 1, upd arr1 (oI (M q)).toNatClampNeg (vp_nar .boolean 1)) else none) = some arr' ∧ ∀ i, i < 60 → arr' i = bI (dc (upAt n F M p 0 i)) := by
        intro arr1 h1
        cases hm : M q with
        | none =>
          rw [oI_none, if_pos rfl]
          refine ih q arr1 (by omega) (by omega) (fun i hi => ?_)
          rw [h1 i hi]
          congr 1
          apply dc_congr
          rw [upAt_yes hq hu fun j hj => par_lt h hq hj]
          unfold par2
          rw [hm]
          exact ⟨fun a => by rcases a with a | a; exact Or.inl a; exact Or.inr (Or.inl a), fun a => by rcases a with a | a | a; exact Or.inl a; exact Or.inr a; cases a⟩
        | some j =>
          have hj := mo_lt h hq hm
          rw [oI_some, if_neg (ne_m1 j (by omega)), inb_nI (N := 60) (n := j) (by omega) (by decide), nI_clamp (n := j) (by omega)]
          simp only [if_true]
          refine ih q _ (by omega) (by omega) (fun i hi => ?_)
          have key : upAt n F M p q i ↔ (upAt n F M p (q + 1) i ∨ F q = some i) ∨ i = j := by
            rw [upAt_yes hq hu fun j hj => par_lt h hq hj]
            unfold par2
            rw [hm]
            constructor
            · rintro (a | a | a)
              · exact Or.inl (Or.inl a)
              · exact Or.inl (Or.inr a)
              · cases a
                exact Or.inr rfl
            · rintro ((a | a) | a)
              · exact Or.inl a
              · exact Or.inr (Or.inl a)
              · exact Or.inr (Or.inr (by rw [a]))
          by_cases w : i = j
          · subst w
            rw [upd_at, dc_t (key.mpr (Or.inr rfl))]
            rfl
          · rw [upd_ne _ _ w, h1 i hi]
            congr 1
            apply dc_congr
            rw [key]
            exact ⟨Or.inl, fun a => by rcases a with a | a; exact a; exact absurd a w⟩
      cases hf : F q with
      | none =>
        rw [oI_none, if_pos rfl]
        rw [hf] at half
        exact half arr (fun i hi => by
          rw [ha i hi]
          congr 1
          apply dc_congr
          exact ⟨Or.inl, fun a => by rcases a with a | a; exact a; cases a⟩)
      | some j =>
        have hj := fa_lt h hq hf
        rw [oI_some, if_neg (ne_m1 j (by omega)), inb_nI (N := 60) (n := j) (by omega) (by decide), nI_clamp (n := j) (by omega)]
        simp only [if_true]
        rw [hf] at half
        exact half _ (fun i hi => by
          by_cases w : i = j
          · subst w
            rw [upd_at, dc_t (p := upAt n F M p (q + 1) i ∨ some i = some i) (Or.inr rfl)]
            rfl
          · rw [upd_ne _ _ w, ha i hi]
            congr 1
            apply dc_congr
            exact ⟨Or.inl, fun a => by
              rcases a with a | a
              · exact a
              · cases a
                exact absurd rfl w⟩)
theorem up0_m {p : Nat} (hp : p < 60) {fu : Nat} : ∀ k t arr, t ≤ 60 → 60 - t < k → (∀ i, i < t → arr i = bI (decide (i = p))) → ∃ arr', f_X11_up_2 fu fa mo k (nI p, nI t, arr) = f_X11_up_32 fa mo fu (nI p, arr') ∧ ∀ i, i < 60 → arr' i = bI (decide (i = p)) := by
  intro k
  induction k with
  | zero => intro t arr _ h0; omega
  | succ k ih =>
    intro t arr ht hk ha
    show ∃ arr', g_X11_up_2 fu fa mo arr (fun a b c => f_X11_up_2 fu fa mo k (a, b, c)) (nI p) (nI t) = _ ∧ _
    unfold g_X11_up_2 g_X11_up_23
    rcases Nat.lt_or_ge t 60 with q | q
    · have q6 : ¬ (60 : Int32) ≤ nI t := nI_ge (b := 60) q (by decide)
      rw [if_neg q6, nI_1]
      simp only [inb_nI (N := 60) (n := t) q (by decide), nI_clamp (n := t) (by omega), if_true]
      have go : ∀ v : Int32, v = bI (decide (t = p)) → ∃ arr', f_X11_up_2 fu fa mo k (nI p, nI (t + 1), upd arr t (vp_nar .boolean v)) = f_X11_up_32 fa mo fu (nI p, arr') ∧ ∀ i, i < 60 → arr' i = bI (decide (i = p)) := fun v hv => by
        refine ih (t + 1) _ q (by omega) (fun i hi => ?_)
        by_cases w : i = t
        · subst w
          rw [upd_at, hv, nar_bI]
        · rw [upd_ne _ _ w]
          exact ha i (by omega)
      by_cases c : nI t = nI p
      · rw [if_pos c]
        rw [nI_eq (by omega) (by omega)] at c
        exact go 1 (by rw [decide_eq_true c]; rfl)
      · rw [if_neg c]
        rw [nI_eq (by omega) (by omega)] at c
        exact go 0 (by rw [decide_eq_false c]; rfl)
    · have e : t = 60 := by omega
      subst e
      have q6 : (60 : Int32) ≤ nI 60 := by decide
      rw [if_pos q6]
      exact ⟨arr, rfl, ha⟩
theorem q_up_m (h : IP n S B E F M fem born died ly fa mo) {fu : Nat} (hfu : 61 < fu) {p : Nat} (hp : p < n) (arr : Nat → Int32) : ∃ arr', f_X11_up fu fa mo arr (nI p) = some arr' ∧ ∀ i, i < 60 → arr' i = bI (dc (i < n ∧ UP n F M p i = true)) := by
  have hn := h.1
  obtain ⟨arr1, e1, e2⟩ := up0_m (fa := fa) (mo := mo) (by omega : p < 60) (fu := fu) fu 0 arr (Nat.zero_le _) (by omega) (fun i hi => by omega)
  obtain ⟨arr2, e3, e4⟩ := up_m h (p := p) fu (p + 1) arr1 hp (by omega) (fun i hi => by
    rw [e2 i hi]
    congr 1
    rw [Bool.eq_iff_iff, decide_eq_true_eq, dc_iff]
    unfold upAt
    constructor
    · intro a
      exact Or.inr ⟨by omega, Or.inl a⟩
    · rintro (a | ⟨-, a | ⟨c, c1, c2, -, c4⟩⟩)
      · have := UP_le n i (by omega) a.2.1 a.2.2
        omega
      · exact a
      · have := UP_le n c (by omega) c2 c4
        omega)
  rw [nI_pred] at e3
  refine ⟨arr2, ?_, fun i hi => ?_⟩
  · have e1' : f_X11_up fu fa mo arr (nI p) = f_X11_up_32 fa mo fu (nI p, arr1) := e1
    rw [e1', e3]
  · rw [e4 i hi]
    congr 1
    apply dc_congr
    unfold upAt
    constructor
    · rintro (a | a)
      · exact a.2
      · omega
    · exact fun a => Or.inl ⟨Nat.zero_le _, a⟩
theorem cm_b (hn : n ≤ 60) {x : Int64} {U : Nat → Bool} (hx : ∀ i, i < n → b6 x i = U i) : ∀ k m, m ≤ n → m < k → f_X10_common_39 k (x, nI m - 1) = some (oI (cmx U m)) := by
  intro k
  induction k with
  | zero => intro m _ h0; omega
  | succ k ih =>
    intro m hm hk
    show g_X10_common_39 (fun a b => f_X10_common_39 k (a, b)) x (nI m - 1) = _
    cases m with
    | zero =>
      unfold g_X10_common_39
      rw [if_pos (by decide)]
      rfl
    | succ q =>
      have e : nI q + (-1) = nI q - 1 := (Int32.sub_eq_add_neg _ _).symm
      rw [nI_pred]
      unfold g_X10_common_39
      rw [if_neg (nI_pos (by omega)), isIn_b (by omega : q < 64), hx q (by omega), e]
      simp only [Option.bind_some]
      rw [cmx]
      by_cases c : bI (U q) = 0
      · rw [if_pos c]
        rw [bI_0] at c
        rw [if_neg (by rw [c]; decide)]
        exact ih q (by omega) (by omega)
      · rw [if_neg c, if_pos (bI_ne.mp c)]
        rfl
theorem cm_m (hn : n ≤ 60) {u1 u2 : Nat → Int32} {U1 U2 : Nat → Bool} (h1 : ∀ i, i < n → u1 i = bI (U1 i)) (h2 : ∀ i, i < n → u2 i = bI (U2 i)) : ∀ k t, t ≤ n → n - t < k → f_X11_common_67 (nI n) k (oI (cmx (fun i => U1 i && U2 i) t), nI t, 0, u1, u2) = some (oI (cmx (fun i => U1 i && U2 i) n), 0, u1, u2) := by
  intro k
  induction k with
  | zero => intro t _ h0; omega
  | succ k ih =>
    intro t ht hk
    show g_X11_common_67 (nI n) 0 u1 u2 (fun a b c d e => f_X11_common_67 (nI n) k (a, b, c, d, e)) (oI (cmx (fun i => U1 i && U2 i) t)) (nI t) = _
    unfold g_X11_common_67 g_X11_common_99
    rcases Nat.lt_or_ge t n with q | q
    · rw [if_neg (nI_ge q (by omega)), nI_1]
      simp only [inb_nI (N := 60) (n := t) (by omega) (by decide), nI_clamp (n := t) (by omega), if_true, h1 t q, h2 t q]
      have := ih (t + 1) q (by omega)
      rw [cmx] at this
      by_cases c1 : bI (U1 t) = 0
      · rw [if_pos c1]
        rw [bI_0] at c1
        rw [if_neg (by rw [c1]; simp)] at this
        exact this
      rw [if_neg c1]
      by_cases c2 : bI (U2 t) = 0
      · rw [if_pos c2]
        rw [bI_0] at c2
        rw [if_neg (by rw [c2]; simp)] at this
        exact this
      · rw [if_neg c2]
        rw [if_pos (by rw [bI_ne.mp c1, bI_ne.mp c2]; rfl)] at this
        exact this
    · have e : t = n := by omega
      subst e
      rw [if_pos (nI_le (Nat.le_refl _) (by omega))]
theorem cp_m {o : Int32} {u1 : Nat → Int32} {U : Nat → Bool} (h1 : ∀ i, i < 60 → u1 i = bI (U i)) {fu : Nat} {pn : Int32} : ∀ k t w, t ≤ 60 → 60 - t < k → (∀ i, i < t → w i = bI (U i)) → ∃ w', f_X11_common_33 fu pn fa mo k (o, nI t, 0, u1, w) = ((f_X11_up fu fa mo u1 o).bind fun v8 => f_X11_common_67 pn fu (-1, 0, 0, v8, w')) ∧ ∀ i, i < 60 → w' i = bI (U i) := by
  intro k
  induction k with
  | zero => intro t w _ h0; omega
  | succ k ih =>
    intro t w ht hk hw
    show ∃ w', g_X11_common_33 fu pn fa mo 0 u1 w (fun a b c d e => f_X11_common_33 fu pn fa mo k (a, b, c, d, e)) o (nI t) = _ ∧ _
    unfold g_X11_common_33
    rcases Nat.lt_or_ge t 60 with q | q
    · have q6 : ¬ (60 : Int32) ≤ nI t := nI_ge (b := 60) q (by decide)
      rw [if_neg q6, nI_1]
      simp only [inb_nI (N := 60) (n := t) q (by decide), nI_clamp (n := t) (by omega), if_true]
      refine ih (t + 1) _ q (by omega) (fun i hi => ?_)
      by_cases v : i = t
      · subst v
        rw [upd_at, h1 i q, nar_bI]
      · rw [upd_ne _ _ v]
        exact hw i (by omega)
    · have e : t = 60 := by omega
      subst e
      have q6 : (60 : Int32) ≤ nI 60 := by decide
      rw [if_pos q6]
      exact ⟨w, rfl, hw⟩
theorem q_common (h : IP n S B E F M fem born died ly fa mo) {fu : Nat} (hfu : 61 < fu) {p o : Nat} (hp : p < n) (ho : o < n) (iu wu : Nat → Int32) : ∃ a s1 s2, f_X10_common fu fa mo (nI n) (nI p) (nI o) = some a ∧ f_X11_common fu (nI n) fa mo iu wu (nI p) (nI o) = some (a, 0, s1, s2) := by
  have hn := h.1
  have hh : hs n (nI p) := hs_of (by omega) hp
  have hh2 : hs n (nI o) := hs_of (by omega) ho
  obtain ⟨x1, a1, a2⟩ := q_up_b h hfu hp
  obtain ⟨x2, b1, b2⟩ := q_up_b h hfu ho
  obtain ⟨u1, c1, c2⟩ := q_up_m h hfu hp iu
  obtain ⟨u2, d1, d2⟩ := q_up_m h hfu ho u1
  obtain ⟨w', e1, e2⟩ := cp_m (fa := fa) (mo := mo) (o := nI o) (pn := nI n) c2 (fu := fu) fu 0 wu (Nat.zero_le _) (by omega) (fun i hi => by omega)
  have e1' : f_X11_common_33 fu (nI n) fa mo fu (nI o, 0, 0, u1, wu) = ((f_X11_up fu fa mo u1 (nI o)).bind fun v8 => f_X11_common_67 (nI n) fu (-1, 0, 0, v8, w')) := e1
  unfold f_X10_common f_X11_common
  rw [req_1 hh, req_1 hh2, is_m1 hh, is_m1 hh2, a1, b1, c1]
  simp only [Option.bind_some]
  rw [if_neg i10, if_neg i10, e1', d1]
  simp only [Option.bind_some]
  have key := cm_m hn (u1 := u2) (u2 := w') (U1 := fun i => dc (i < n ∧ UP n F M o i = true)) (U2 := fun i => dc (i < n ∧ UP n F M p i = true)) (fun i hi => d2 i (by omega)) (fun i hi => e2 i (by omega)) fu 0 (Nat.zero_le _) (by omega)
  have key' : f_X11_common_67 (nI n) fu (-1, 0, 0, u2, w') = some (oI (cmx (fun i => dc (i < n ∧ UP n F M o i = true) && dc (i < n ∧ UP n F M p i = true)) n), 0, u2, w') := key
  rw [key', cm_b hn (U := fun i => dc (i < n ∧ UP n F M o i = true) && dc (i < n ∧ UP n F M p i = true)) (fun i hi => by
    rw [b6_and, Bool.eq_iff_iff, Bool.and_eq_true, Bool.and_eq_true, a2 i (by omega), b2 i (by omega), dc_iff, dc_iff]
    exact ⟨fun w => ⟨w.2, w.1⟩, fun w => ⟨w.2, w.1⟩⟩) fu n (Nat.le_refl _) (by omega)]
  exact ⟨_, _, _, rfl, rfl⟩
theorem q_common_x {fu : Nat} (x1 x2 : Int32) (hw : ¬ (hs n x1 ∧ hs n x2)) (iu wu : Nat → Int32) : f_X10_common_x (nI n) x1 x2 = some () ∧ f_X11_common fu (nI n) fa mo iu wu x1 x2 = some (0, 1, iu, wu) := by
  unfold f_X10_common_x f_X11_common
  rcases Classical.em (hs n x1) with hh | hh
  · rcases Classical.em (hs n x2) with h2 | h2
    · exact absurd ⟨hh, h2⟩ hw
    · rw [reqx_1 hh, req_1 hh, is_m1 hh, reqx_0 h2, is_m0 h2]
      exact ⟨rfl, rfl⟩
  · rw [reqx_0 hh, is_m0 hh]
    exact ⟨rfl, rfl⟩
end
