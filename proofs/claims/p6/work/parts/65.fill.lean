/-! Quarters: all rows, from the least number up. -/
def q1 (F : Nat → Option Nat) (R : Nat → List Int32) (t : Nat) : List Int32 := match F t with
  | none => []
  | some f => (R f).foldl pA []
def q3 (M : Nat → Option Nat) (br : Nat → Bool) (R : Nat → List Int32) (t : Nat) (l : List Int32) : List Int32 := match M t with
  | none => l
  | some m => if br m = true then (R m).foldl pA l else l
def QT (F M : Nat → Option Nat) (ow : Nat → Int32) (br : Nat → Bool) : Nat → Nat → List Int32
  | 0, _ => []
  | t + 1, q => if q = t then q3 M br (QT F M ow br t) t (pA (q1 F (QT F M ow br t) t) (ow t)) else QT F M ow br t q
section
variable {n : Nat} {S : Nat → Bool} {B E : Nat → Nat} {F M : Nat → Option Nat} {fem born died ly fa mo : Nat → Int32} {y : Int32} {gn : Nat} {gh ga gf : Nat → Int32} {ow : Nat → Int32} {br : Nat → Bool}
theorem QT_s (t : Nat) : QT F M ow br (t + 1) t = q3 M br (QT F M ow br t) t (pA (q1 F (QT F M ow br t) t) (ow t)) := by rw [QT, if_pos rfl]
theorem QT_o {t q : Nat} (h : q ≠ t) : QT F M ow br (t + 1) q = QT F M ow br t q := by rw [QT, if_neg h]
theorem mo_b (h : IP n S B E F M fem born died ly fa mo) {i : Nat} (hi : i < n) : f_X4_motherOf mo (nI n) (nI i) = some (oI (M i)) := by
  have hn := h.1
  unfold f_X4_motherOf
  rw [has_b1 (hs_of (by omega) hi)]
  simp only [Option.bind_some]
  rw [if_neg i10, if_pos (inb_nI (N := 60) (by omega) (by decide)), nI_clamp (by omega), (h.2 i hi).2.2.2.2.2.2.2.2.2.1]
  rfl
theorem hr_0 {r s : Nat → Int32} (t : Nat) : HR r (upd s t 0) t [] ∧ FRM t r s r (upd s t 0) :=
  ⟨⟨Nat.zero_le _, upd_at _ _ _, by simp, fun i hi => absurd hi (Nat.not_lt_zero _)⟩, fun _ _ => rfl, fun p hp => upd_ne _ _ hp⟩
theorem up_cl {p t q : Nat} (hq : q < n) (ht : t < n) (hlt : q < t) (hu : UP n F M p t = true) (hpar : F t = some q ∨ M t = some q) : UP n F M p q = true :=
  (UP_iff hq).mpr (Or.inr ⟨t, hlt, ht, hpar, hu⟩)
theorem one_b (h : IP n S B E F M fem born died ly fa mo) (hg : IG gn gh ga gf) {fu : Nat} (hfu : 61 < fu) {xl : Int64} (hx : ∀ i, i < 64 → (b6 xl i = true ↔ i < n ∧ LL n S F (lvb B E y) i = true)) {t : Nat} (ht : t < n) {r s : Nat → Int32} {R : Nat → List Int32} (hF : ∀ f, F t = some f → HR r s f (R f)) (hM : ∀ m, M t = some m → HR r s m (R m)) (k18 : Int32 → Int64 → Int64 → Int32 → (Nat → Int32) → (Nat → Int32) → Option ((Nat → Int32) × (Nat → Int32))) (xu : Int64) (hu : b6 xu t = true) : ∃ r' s', g_X6_fill_18 fu fem born ly fa mo (nI n) gh ga gf (nI gn) r s k18 y xl xu (nI t) = k18 y xl xu (nI (t + 1)) r' s' ∧ HR r' s' t (q3 M (fun m => dc (brg n S B E F y m)) R t (pA (q1 F R t) (own gh ga gf gn y t))) ∧ FRM t r s r' s' := by
  have hn := h.1
  unfold g_X6_fill_18 g_X6_fill_104
  rw [if_neg (ge60 (by omega)), isIn_b (by omega), hu]
  simp only [Option.bind_some]
  rw [if_neg (by decide), if_pos (inb_nI (N := 60) (by omega) (by decide)), nI_clamp (by omega), fa_b h ht, nI_1]
  simp only [Option.bind_some]
  obtain ⟨z1, z2⟩ := hr_0 (r := r) (s := s) t
  have h1 : ∃ r1 s1, f_X6_addRow fu r (upd s t 0) (nI t) (oI (F t)) = some (r1, s1) ∧ HR r1 s1 t (q1 F R t) ∧ FRM t r s r1 s1 := by
    cases hf : F t with
    | none =>
      rw [oI_none, row_n hfu]
      refine ⟨_, _, rfl, ?_, z2⟩
      unfold q1
      rw [hf]
      exact z1
    | some f =>
      have hlt := fa_lt h ht hf
      rw [oI_some]
      obtain ⟨r1, s1, e1, g1, f1⟩ := rowq_b z1 (hr_fr (hF f hf) z2 (by omega)) (by omega) (by omega) (by omega) hfu
      refine ⟨r1, s1, e1, ?_, frm_tr z2 f1⟩
      unfold q1
      rw [hf]
      exact g1
  obtain ⟨r1, s1, e1, g1, f1⟩ := h1
  rw [e1]
  simp only [Option.bind_some]
  rw [q_own_b hg (by omega)]
  simp only [Option.bind_some]
  obtain ⟨r2, s2, e2, g2, f2⟩ := add_b g1 (by omega) hfu (own gh ga gf gn y t)
  have e2' : f_X6_addArms fu r1 s1 (nI t) (aw gh ga gf (nI t) y gn) = some (r2, s2) := e2
  rw [e2']
  simp only [Option.bind_some]
  rw [mo_b h ht]
  simp only [Option.bind_some]
  cases hm : M t with
  | none =>
    rw [oI_none, if_pos rfl]
    refine ⟨r2, s2, rfl, ?_, frm_tr f1 f2⟩
    unfold q3
    rw [hm]
    exact g2
  | some m =>
    have hlt := mo_lt h ht hm
    rw [oI_some, if_neg (ne_m1 m (by omega)), brings_b h (by omega) hx hfu]
    simp only [Option.bind_some]
    unfold q3
    rw [hm]
    cases hb : dc (brg n S B E F y m)
    · rw [if_pos (by decide)]
      refine ⟨r2, s2, rfl, ?_, frm_tr f1 f2⟩
      simp only [hb]
      exact g2
    · rw [if_neg (by decide)]
      obtain ⟨r3, s3, e3, g3, f3⟩ := rowq_b g2 (hr_fr (hM m hm) (frm_tr f1 f2) (by omega)) (by omega) (by omega) (by omega) hfu
      rw [e3]
      refine ⟨r3, s3, rfl, ?_, frm_tr (frm_tr f1 f2) f3⟩
      simp only [hb]
      exact g3
theorem fill_l (h : IP n S B E F M fem born died ly fa mo) (hg : IG gn gh ga gf) {fu : Nat} (hfu : 61 < fu) {xl xu : Int64} (hx : ∀ i, i < 64 → (b6 xl i = true ↔ i < n ∧ LL n S F (lvb B E y) i = true)) {p : Nat} (hu : ∀ i, i < 64 → (b6 xu i = true ↔ i < n ∧ UP n F M p i = true)) : ∀ k t r s, t ≤ 60 → 60 - t < k → (∀ q, q < t → q < n → UP n F M p q = true → HR r s q (QT F M (own gh ga gf gn y) (fun m => dc (brg n S B E F y m)) t q)) → ∃ r' s', f_X6_fill_18 fu fem born ly fa mo (nI n) gh ga gf (nI gn) k (y, xl, xu, nI t, r, s) = some (r', s') ∧ ∀ q, q < n → UP n F M p q = true → HR r' s' q (QT F M (own gh ga gf gn y) (fun m => dc (brg n S B E F y m)) 60 q) := by
  have hn := h.1
  intro k
  induction k with
  | zero => intro t r s _ h0; omega
  | succ k ih =>
    intro t r s ht hk hi
    show ∃ r' s', g_X6_fill_18 fu fem born ly fa mo (nI n) gh ga gf (nI gn) r s (fun a b c d e f => f_X6_fill_18 fu fem born ly fa mo (nI n) gh ga gf (nI gn) k (a, b, c, d, e, f)) y xl xu (nI t) = some (r', s') ∧ _
    rcases Nat.lt_or_ge t 60 with c | c
    · cases hb : b6 xu t
      · have hno : ¬ (t < n ∧ UP n F M p t = true) := fun w => by
          have := (hu t (by omega)).mpr w
          rw [hb] at this
          cases this
        unfold g_X6_fill_18 g_X6_fill_104
        rw [if_neg (ge60 c), isIn_b (by omega), hb]
        simp only [Option.bind_some]
        rw [if_pos (by decide), nI_1]
        refine ih (t + 1) r s c (by omega) (fun q q1 q2 q3 => ?_)
        have hne : q ≠ t := fun e => hno (by subst e; exact ⟨q2, q3⟩)
        rw [QT_o hne]
        exact hi q (by omega) q2 q3
      · obtain ⟨htn, hut⟩ := (hu t (by omega)).mp hb
        obtain ⟨r', s', e1, g1, f1⟩ := one_b (r := r) (s := s) (R := QT F M (own gh ga gf gn y) (fun m => dc (brg n S B E F y m)) t) h hg hfu hx htn (fun f hf => by
          have hlt := fa_lt h htn hf
          exact hi f hlt (by omega) (up_cl (by omega) htn hlt hut (Or.inl hf))) (fun m hm => by
          have hlt := mo_lt h htn hm
          exact hi m hlt (by omega) (up_cl (by omega) htn hlt hut (Or.inr hm))) (fun a b c d e f => f_X6_fill_18 fu fem born ly fa mo (nI n) gh ga gf (nI gn) k (a, b, c, d, e, f)) xu hb
        rw [e1]
        refine ih (t + 1) r' s' c (by omega) (fun q q1 q2 q3 => ?_)
        by_cases e : q = t
        · subst e
          rw [QT_s]
          exact g1
        · rw [QT_o e]
          exact hr_fr (hi q (by omega) q2 q3) f1 e
    · have e : t = 60 := by omega
      subst e
      unfold g_X6_fill_18
      rw [if_pos (by decide)]
      exact ⟨r, s, rfl, fun q q1 q2 => hi q (by omega) q1 q2⟩
theorem QT_st {t u q : Nat} (h : q < t) (hu : t ≤ u) : QT F M ow br u q = QT F M ow br t q := by
  induction u with
  | zero => omega
  | succ u ih =>
    rcases Nat.lt_or_ge u t with c | c
    · have : t = u + 1 := by omega
      subst this
      rfl
    · rw [QT_o (by omega), ih c]
theorem fill_q (h : IP n S B E F M fem born died ly fa mo) (hg : IG gn gh ga gf) {fu : Nat} (hfu : 61 < fu) {p : Nat} (hp : p < n) (r s : Nat → Int32) : ∃ r' s', f_X6_fill fu fem born ly fa mo (nI n) gh ga gf (nI gn) r s (nI p) y = some (r', s') ∧ HR r' s' p (QT F M (own gh ga gf gn y) (fun m => dc (brg n S B E F y m)) (p + 1) p) := by
  have hn := h.1
  unfold f_X6_fill
  obtain ⟨xl, el, hx⟩ := q_lines_b (y := y) h (fu := fu) (by omega)
  obtain ⟨xu, eu, hu⟩ := q_up_b h hfu hp
  rw [el, eu]
  simp only [Option.bind_some]
  obtain ⟨r', s', e1, g1⟩ := fill_l h hg hfu hx hu fu 0 r s (by omega) (by omega) (fun q q1 => by omega)
  refine ⟨r', s', e1, ?_⟩
  have := g1 p hp ((UP_iff hp).mpr (Or.inl rfl))
  rw [QT_st (t := p + 1) (by omega) (by omega)] at this
  exact this
theorem one_m (h : IP n S B E F M fem born died ly fa mo) (hg : IG gn gh ga gf) {fu : Nat} (hfu : 61 < fu) {t : Nat} (ht : t < n) {r s ll : Nat → Int32} {R : Nat → List Int32} (hF : ∀ f, F t = some f → HR r s f (R f)) (hM : ∀ m, M t = some m → HR r s m (R m)) (k2 : Int32 → Int32 → Int32 → (Nat → Int32) → (Nat → Int32) → (Nat → Int32) → Option (Int32 × (Nat → Int32) × (Nat → Int32) × (Nat → Int32))) {p : Nat} (hp : p < n) (htp : t ≤ p) : ∃ r' s' ll', g_X11_quartersOf_2 fu (nI n) (nI gn) fem born died fa mo gh ga gf ll s r k2 (nI p) y (nI t) = k2 (nI p) y (nI (t + 1)) ll' s' r' ∧ HR r' s' t (q3 M (fun m => dc (brg n S B E F y m)) R t (pA (q1 F R t) (own gh ga gf gn y t))) ∧ FRM t r s r' s' := by
  have hn := h.1
  unfold g_X11_quartersOf_2
  rw [if_neg (nI_nlt htp (by omega)), if_pos (inb_nI (N := 60) (by omega) (by decide)), if_pos (inb_nI (N := 60) (by omega) (by decide)), nI_clamp (by omega), fa_eq h ht]
  obtain ⟨z1, z2⟩ := hr_0 (r := r) (s := s) t
  have h1 : ∃ r1 s1, f_X11_quartersOf_25 fu (nI n) (nI gn) fem born died fa mo gh ga gf k2 fu (nI p, y, nI t, oI (F t), 0, ll, upd s t 0, r) = g_X11_quartersOf_67 fu (nI n) (nI gn) fem born died fa mo gh ga gf ll s1 r1 k2 (nI p) y (nI t) ∧ HR r1 s1 t (q1 F R t) ∧ FRM t r s r1 s1 := by
    cases hf : F t with
    | none =>
      refine ⟨r, upd s t 0, ?_, ?_, z2⟩
      · cases fu with
        | zero => omega
        | succ k =>
          show g_X11_quartersOf_25 (k + 1) (nI n) (nI gn) fem born died fa mo gh ga gf ll (upd s t 0) r k2 (fun a b c d e g h i => f_X11_quartersOf_25 (k + 1) (nI n) (nI gn) fem born died fa mo gh ga gf k2 k (a, b, c, d, e, g, h, i)) (nI p) y (nI t) (-1) 0 = _
          unfold g_X11_quartersOf_25
          rw [if_pos rfl]
      · unfold q1
        rw [hf]
        exact z1
    | some f =>
      have hlt := fa_lt h ht hf
      rw [oI_some]
      obtain ⟨r1, s1, e1, g1, f1⟩ := row_25 (P := nI n) (G := nI gn) (fem := fem) (born := born) (died := died) (fa := fa) (mo := mo) (gh := gh) (ga := ga) (gf := gf) (x1 := nI p) (x2 := y) (ll := ll) (k2 := k2) (m := R f) (q := t) (f := f) (by omega) (by omega) (by omega) hfu fu 0 r (upd s t 0) [] z1 (hr_fr (hF f hf) z2 (by omega)) (Nat.zero_le _) (by have := (hF f hf).1; omega)
      refine ⟨r1, s1, e1, ?_, frm_tr z2 f1⟩
      unfold q1
      rw [hf]
      exact g1
  obtain ⟨r1, s1, e1, g1, f1⟩ := h1
  rw [e1]
  unfold g_X11_quartersOf_67
  rw [q_own_m hg (by omega)]
  simp only [Option.bind_some]
  have h2 : ∃ r2 s2, (if aw gh ga gf (nI t) y gn = -1 then g_X11_quartersOf_88 fu (nI n) fem born died fa mo ll s1 r1 k2 (nI p) y (nI t) else (f_X11_put fu s1 r1 (nI t) (aw gh ga gf (nI t) y gn)).bind fun v16 => g_X11_quartersOf_88 fu (nI n) fem born died fa mo ll v16.1 v16.2 k2 (nI p) y (nI t)) = g_X11_quartersOf_88 fu (nI n) fem born died fa mo ll s2 r2 k2 (nI p) y (nI t) ∧ HR r2 s2 t (pA (q1 F R t) (own gh ga gf gn y t)) ∧ FRM t r s r2 s2 := by
    by_cases c : aw gh ga gf (nI t) y gn = -1
    · rw [if_pos c]
      refine ⟨r1, s1, rfl, ?_, f1⟩
      unfold own
      rw [c, pA_m1]
      exact g1
    · rw [if_neg c]
      obtain ⟨r2, s2, e2, g2, f2⟩ := put_m (a := aw gh ga gf (nI t) y gn) g1 (by omega) c hfu
      rw [e2]
      exact ⟨r2, s2, rfl, g2, frm_tr f1 f2⟩
  obtain ⟨r2, s2, e2, g2, f2⟩ := h2
  rw [e2]
  unfold g_X11_quartersOf_88 g_X11_quartersOf_154
  rw [if_pos (inb_nI (N := 60) (by omega) (by decide)), nI_clamp (by omega), (h.2 t ht).2.2.2.2.2.2.2.2.2.1, nI_1]
  cases hm : M t with
  | none =>
    rw [oI_none, if_pos rfl]
    refine ⟨r2, s2, ll, rfl, ?_, f2⟩
    unfold q3
    rw [hm]
    exact g2
  | some m =>
    have hlt := mo_lt h ht hm
    obtain ⟨ll', eb⟩ := brings_m (y := y) h (by omega : m < n) hfu ll
    rw [oI_some, if_neg (ne_m1 m (by omega)), eb]
    simp only [Option.bind_some]
    unfold q3
    rw [hm]
    cases hb : dc (brg n S B E F y m)
    · rw [if_pos (by decide)]
      refine ⟨r2, s2, ll', rfl, ?_, f2⟩
      simp only [hb]
      exact g2
    · rw [if_neg (by decide)]
      obtain ⟨r3, s3, e3, g3, f3⟩ := row_118 (x1 := nI p) (x2 := y) (ll := ll') (k2 := k2) (m := R m) (q := t) (f := m) (by omega) (by omega) (by omega) hfu fu 0 r2 s2 _ g2 (hr_fr (hM m hm) f2 (by omega)) (Nat.zero_le _) (by have := (hM m hm).1; omega)
      refine ⟨r3, s3, ll', e3, ?_, frm_tr f2 f3⟩
      simp only [hb]
      exact g3
theorem all_m (h : IP n S B E F M fem born died ly fa mo) (hg : IG gn gh ga gf) {fu : Nat} (hfu : 61 < fu) {p : Nat} (hp : p < n) : ∀ k t r s ll, t ≤ p + 1 → p + 1 - t < k → (∀ q, q < t → HR r s q (QT F M (own gh ga gf gn y) (fun m => dc (brg n S B E F y m)) t q)) → ∃ r' s' ll', f_X11_quartersOf_2 fu (nI n) (nI gn) fem born died fa mo gh ga gf k (nI p, y, nI t, ll, s, r) = some (nI (QT F M (own gh ga gf gn y) (fun m => dc (brg n S B E F y m)) (p + 1) p).length, ll', s', r') ∧ HR r' s' p (QT F M (own gh ga gf gn y) (fun m => dc (brg n S B E F y m)) (p + 1) p) := by
  have hn := h.1
  intro k
  induction k with
  | zero => intro t r s ll _ h0; omega
  | succ k ih =>
    intro t r s ll ht hk hi
    show ∃ r' s' ll', g_X11_quartersOf_2 fu (nI n) (nI gn) fem born died fa mo gh ga gf ll s r (fun a b c d e f => f_X11_quartersOf_2 fu (nI n) (nI gn) fem born died fa mo gh ga gf k (a, b, c, d, e, f)) (nI p) y (nI t) = _ ∧ _
    rcases Nat.lt_or_ge p t with c | c
    · have e : t = p + 1 := by omega
      subst e
      have := hi p (by omega)
      unfold g_X11_quartersOf_2
      rw [if_pos (nI_lt c (by omega)), if_pos (inb_nI (N := 60) (by omega) (by decide)), nI_clamp (by omega), this.2.1]
      exact ⟨r, s, ll, rfl, this⟩
    · obtain ⟨r', s', ll', e1, g1, f1⟩ := one_m (r := r) (s := s) (ll := ll) (R := QT F M (own gh ga gf gn y) (fun m => dc (brg n S B E F y m)) t) h hg hfu (by omega : t < n) (fun f hf => hi f (fa_lt h (by omega) hf)) (fun m hm => hi m (mo_lt h (by omega) hm)) (fun a b c d e f => f_X11_quartersOf_2 fu (nI n) (nI gn) fem born died fa mo gh ga gf k (a, b, c, d, e, f)) hp c
      rw [e1]
      refine ih (t + 1) r' s' ll' (by omega) (by omega) (fun q q1 => ?_)
      by_cases e : q = t
      · subst e
        rw [QT_s]
        exact g1
      · rw [QT_o e]
        exact hr_fr (hi q (by omega)) f1 e
theorem quarters_m (h : IP n S B E F M fem born died ly fa mo) (hg : IG gn gh ga gf) {fu : Nat} (hfu : 61 < fu) {p : Nat} (hp : p < n) (r s ll : Nat → Int32) : ∃ r' s' ll', f_X11_quartersOf fu (nI n) (nI gn) fem born died fa mo gh ga gf ll s r (nI p) y = some (nI (QT F M (own gh ga gf gn y) (fun m => dc (brg n S B E F y m)) (p + 1) p).length, ll', s', r') ∧ HR r' s' p (QT F M (own gh ga gf gn y) (fun m => dc (brg n S B E F y m)) (p + 1) p) := by
  have hn := h.1
  exact all_m h hg hfu hp fu 0 r s ll (by omega) (by omega) (fun q q1 => by omega)
end
