/-! Quarters: a row as a list; one coat more. -/
def pA (l : List Int32) (a : Int32) : List Int32 := if a = -1 ∨ 12 ≤ l.length ∨ a ∈ l then l else l ++ [a]
def HR (r s : Nat → Int32) (q : Nat) (l : List Int32) : Prop := l.length ≤ 12 ∧ s q = nI l.length ∧ (-1 : Int32) ∉ l ∧ ∀ i, i < l.length → r (12 * q + i) = l.getD i 0
def FRM (q : Nat) (r s r' s' : Nat → Int32) : Prop := (∀ j, (j < 12 * q ∨ 12 * q + 12 ≤ j) → r' j = r j) ∧ ∀ p, p ≠ q → s' p = s p
theorem ge60 {q : Nat} (h : q < 60) : ¬ (60 : Int32) ≤ nI q := nI_ge (b := 60) h (by decide)
theorem ge12 {q : Nat} (h : q < 12) : ¬ (12 : Int32) ≤ nI q := nI_ge (b := 12) h (by decide)
section
variable {q p : Nat} {r s r' s' r1 s1 : Nat → Int32} {l : List Int32} {a : Int32}
theorem frm_rf : FRM q r s r s := ⟨fun _ _ => rfl, fun _ _ => rfl⟩
theorem frm_tr (h1 : FRM q r s r1 s1) (h2 : FRM q r1 s1 r' s') : FRM q r s r' s' := ⟨fun j hj => (h2.1 j hj).trans (h1.1 j hj), fun p hp => (h2.2 p hp).trans (h1.2 p hp)⟩
theorem hr_fr (h : HR r s p l) (hf : FRM q r s r' s') (hp : p ≠ q) : HR r' s' p l :=
  ⟨h.1, (hf.2 p hp).trans h.2.1, h.2.2.1, fun i hi => (hf.1 _ (by have := h.1; omega)).trans (h.2.2.2 i hi)⟩
theorem mem_at : a ∈ l ↔ ∃ i, i < l.length ∧ l.getD i 0 = a := by
  constructor
  · intro h
    obtain ⟨i, hi, e⟩ := List.mem_iff_getElem.mp h
    exact ⟨i, hi, by simp [List.getD_eq_getElem?_getD, hi, e]⟩
  · rintro ⟨i, hi, e⟩
    exact List.mem_iff_getElem.mpr ⟨i, hi, by simpa [List.getD_eq_getElem?_getD, hi] using e⟩
theorem gd_l {i : Nat} (h : i < l.length) : (l ++ [a]).getD i 0 = l.getD i 0 := by simp [List.getD_eq_getElem?_getD, List.getElem?_append_left h]
theorem gd_r : (l ++ [a]).getD l.length 0 = a := by simp [List.getD_eq_getElem?_getD]
theorem m12 (q : Nat) : nI q * 12 = nI (12 * q) := by
  have e : (12 : Int32) = Int32.ofNat 12 := rfl
  unfold nI
  rw [e, ← Int32.ofNat_mul, Nat.mul_comm]
theorem m12' (q : Nat) : 12 * nI q = nI (12 * q) := by
  have e : (12 : Int32) = Int32.ofNat 12 := rfl
  unfold nI
  rw [e, ← Int32.ofNat_mul]
theorem pA_in (h : a ∈ l) : pA l a = l := by unfold pA; rw [if_pos (Or.inr (Or.inr h))]
theorem pA_m1 : pA l (-1) = l := by unfold pA; rw [if_pos (Or.inl rfl)]
theorem pA_full (h : 12 ≤ l.length) : pA l a = l := by unfold pA; rw [if_pos (Or.inr (Or.inl h))]
theorem pA_new (h1 : a ≠ -1) (h2 : l.length < 12) (h3 : a ∉ l) : pA l a = l ++ [a] := by
  unfold pA
  rw [if_neg]
  rintro (e | e | e)
  · exact h1 e
  · omega
  · exact h3 e
theorem hr_new (h : HR r s q l) (h1 : a ≠ -1) (h2 : l.length < 12) (h3 : a ∉ l) : HR (upd r (12 * q + l.length) a) (upd s q (nI (l.length + 1))) q (pA l a) ∧ FRM q r s (upd r (12 * q + l.length) a) (upd s q (nI (l.length + 1))) := by
  rw [pA_new h1 h2 h3]
  refine ⟨⟨by rw [List.length_append]; show l.length + 1 ≤ 12; omega, by rw [upd_at, List.length_append]; rfl, ?_, fun i hi => ?_⟩, fun j hj => upd_ne _ _ (by omega), fun p hp => upd_ne _ _ hp⟩
  · rw [List.mem_append]
    rintro (e | e)
    · exact h.2.2.1 e
    · exact h1 (List.mem_singleton.mp e).symm
  · rw [List.length_append] at hi
    have hi2 : i < l.length + 1 := hi
    rcases Nat.lt_or_ge i l.length with c | c
    · rw [upd_ne _ _ (by omega), gd_l c]
      exact h.2.2.2 i c
    · have e : i = l.length := by omega
      subst e
      rw [upd_at, gd_r]
theorem place_1 (hq : q < 60) {i : Nat} (hi : i < 12) : f_X6_isPlace (nI q) (nI i) = some 1 := by
  unfold f_X6_isPlace
  rw [if_neg (nI_pos (by omega)), if_neg (ge60 hq), if_neg (nI_pos (by omega)), if_neg (ge12 hi)]
  rfl
theorem place_0 (hq : q < 60) : f_X6_isPlace (nI q) (nI 12) = some 0 := by
  unfold f_X6_isPlace
  rw [if_neg (nI_pos (by omega)), if_neg (ge60 hq), if_neg (nI_pos (by omega)), if_pos (by decide)]
  rfl
theorem size_b (hq : q < 60) : f_X6_sizeOf s (nI q) = some (s q) := by
  unfold f_X6_sizeOf
  rw [if_neg (nI_pos (by omega)), if_neg (ge60 hq), if_pos (inb_nI hq (by decide)), nI_clamp (by omega)]
  rfl
theorem size_n : f_X6_sizeOf s (-1) = some 0 := by
  unfold f_X6_sizeOf
  rw [if_pos (by decide)]
  rfl
theorem at_b (hq : q < 60) {i : Nat} (hi : i < 12) : f_X6_armsAt r (nI q) (nI i) = some (r (12 * q + i)) := by
  unfold f_X6_armsAt
  rw [place_1 hq hi]
  simp only [Option.bind_some]
  rw [if_neg i10, m12, nI_add, if_pos (inb_nI (N := 720) (by omega) (by decide)), nI_clamp (by omega)]
  rfl
theorem arms_l (h : HR r s q l) (hq : q < 60) (h1 : a ≠ -1) (hl : l.length < 12) : ∀ k t, t ≤ l.length → l.length - t < k → (∀ i, i < t → l.getD i 0 ≠ a) → ∃ r' s', f_X6_addArms_23 k (nI q, a, nI l.length, nI t, r, s) = some (r', s') ∧ HR r' s' q (pA l a) ∧ FRM q r s r' s' := by
  intro k
  induction k with
  | zero => intro t _ h0; omega
  | succ k ih =>
    intro t ht hk hno
    show ∃ r' s', g_X6_addArms_23 r s (fun a b c d e f => f_X6_addArms_23 k (a, b, c, d, e, f)) (nI q) a (nI l.length) (nI t) = some (r', s') ∧ _
    unfold g_X6_addArms_23
    rcases Nat.lt_or_ge t l.length with c | c
    · rw [if_neg (nI_ge c (by omega)), at_b hq (by omega), h.2.2.2 t c]
      simp only [Option.bind_some]
      by_cases e : l.getD t 0 = a
      · rw [if_pos e, pA_in (mem_at.mpr ⟨t, c, e⟩)]
        exact ⟨r, s, rfl, h, frm_rf⟩
      · rw [if_neg e, nI_1]
        refine ih (t + 1) c (by omega) (fun i hi => ?_)
        rcases Nat.lt_or_ge i t with w | w
        · exact hno i w
        · have : i = t := by omega
          subst this
          exact e
    · have e : t = l.length := by omega
      subst e
      rw [if_pos (nI_le (Nat.le_refl _) (by omega)), m12, nI_add, if_pos (inb_nI (N := 720) (by omega) (by decide)), if_pos (inb_nI hq (by decide)), nI_clamp (by omega), nI_clamp (by omega), nI_1]
      have hm : a ∉ l := fun w => by
        obtain ⟨i, hi, e⟩ := mem_at.mp w
        exact hno i hi e
      exact ⟨_, _, rfl, hr_new h h1 hl hm⟩
theorem add_b (h : HR r s q l) (hq : q < 60) {fu : Nat} (hfu : 61 < fu) (a : Int32) : ∃ r' s', f_X6_addArms fu r s (nI q) a = some (r', s') ∧ HR r' s' q (pA l a) ∧ FRM q r s r' s' := by
  unfold f_X6_addArms g_X6_addArms_19
  rw [size_b hq, h.2.1]
  simp only [Option.bind_some]
  by_cases c : a = -1
  · rw [if_pos c]
    subst c
    rw [pA_m1]
    exact ⟨r, s, rfl, h, frm_rf⟩
  rw [if_neg c]
  rcases Nat.lt_or_ge l.length 12 with d | d
  · rw [place_1 hq d]
    simp only [Option.bind_some]
    rw [if_neg i10]
    exact arms_l h hq c d fu 0 (Nat.zero_le _) (by omega) (fun i hi => by omega)
  · have e : l.length = 12 := by have := h.1; omega
    rw [e, place_0 hq]
    simp only [Option.bind_some]
    rw [if_pos trivial, pA_full d]
    exact ⟨r, s, rfl, h, frm_rf⟩
theorem put_l (h : HR r s q l) (hq : q < 60) (h1 : a ≠ -1) : ∀ k t b, t ≤ l.length → l.length - t < k → (b = 0 ∧ l.length < 12 ∧ (∀ i, i < t → l.getD i 0 ≠ a)) ∨ (b = 1 ∧ pA l a = l) → ∃ r' s', f_X11_put_20 k (nI q, a, b, nI t, s, r) = some (s', r') ∧ HR r' s' q (pA l a) ∧ FRM q r s r' s' := by
  have h12 := h.1
  intro k
  induction k with
  | zero => intro t b _ h0; omega
  | succ k ih =>
    intro t b ht hk hb
    show ∃ r' s', g_X11_put_20 s r (fun a b c d e f => f_X11_put_20 k (a, b, c, d, e, f)) (nI q) a b (nI t) = some (s', r') ∧ _
    unfold g_X11_put_20 g_X11_put_51 g_X11_put_56
    rw [if_pos (inb_nI hq (by decide)), nI_clamp (by omega), h.2.1]
    rcases Nat.lt_or_ge t l.length with c | c
    · rw [if_neg (nI_ge c (by omega)), m12', nI_add, nI_1]
      rcases hb with ⟨rfl, d, hno⟩ | ⟨rfl, hp⟩
      · rw [if_pos rfl, if_pos (inb_nI (N := 720) (by omega) (by decide)), nI_clamp (by omega), h.2.2.2 t c]
        by_cases e : l.getD t 0 = a
        · rw [if_pos e]
          exact ih (t + 1) 1 c (by omega) (Or.inr ⟨rfl, pA_in (mem_at.mpr ⟨t, c, e⟩)⟩)
        · rw [if_neg e]
          refine ih (t + 1) 0 c (by omega) (Or.inl ⟨rfl, d, fun i hi => ?_⟩)
          rcases Nat.lt_or_ge i t with w | w
          · exact hno i w
          · have : i = t := by omega
            subst this
            exact e
      · rw [if_neg i10]
        exact ih (t + 1) 1 c (by omega) (Or.inr ⟨rfl, hp⟩)
    · have e : t = l.length := by omega
      subst e
      rw [if_pos (nI_le (Nat.le_refl _) (by omega))]
      rcases hb with ⟨rfl, d, hno⟩ | ⟨rfl, hp⟩
      · rw [if_pos rfl, m12', nI_add, if_pos (inb_nI hq (by decide)), if_pos (inb_nI (N := 720) (by omega) (by decide)), if_pos (inb_nI hq (by decide)), if_pos (inb_nI hq (by decide)), nI_clamp (by omega), nI_1]
        have hm : a ∉ l := fun w => by
          obtain ⟨i, hi, e⟩ := mem_at.mp w
          exact hno i hi e
        exact ⟨_, _, rfl, hr_new h h1 d hm⟩
      · rw [if_neg i10, hp]
        exact ⟨r, s, rfl, h, frm_rf⟩
theorem put_m (h : HR r s q l) (hq : q < 60) (h1 : a ≠ -1) {fu : Nat} (hfu : 61 < fu) : ∃ r' s', f_X11_put fu s r (nI q) a = some (s', r') ∧ HR r' s' q (pA l a) ∧ FRM q r s r' s' := by
  have h12 := h.1
  unfold f_X11_put g_X11_put_16
  rw [if_pos (inb_nI hq (by decide)), nI_clamp (by omega), h.2.1]
  by_cases c : l.length = 12
  · rw [if_pos (by rw [c]; rfl)]
    exact put_l h hq h1 fu 0 1 (Nat.zero_le _) (by omega) (Or.inr ⟨rfl, pA_full (by omega)⟩)
  · have c2 : ¬ nI l.length = (12 : Int32) := fun w => c ((nI_eq (b := 12) (by omega) (by decide)).mp w)
    rw [if_neg c2]
    exact put_l h hq h1 fu 0 0 (Nat.zero_le _) (by omega) (Or.inl ⟨rfl, by omega, fun i hi => by omega⟩)
theorem drop_at {m : List Int32} {t : Nat} (h : t < m.length) : m.drop t = m.getD t 0 :: m.drop (t + 1) := by
  rw [List.drop_eq_getElem_cons h]
  simp [List.getD_eq_getElem?_getD, h]
theorem hr_ne {m : List Int32} (h : HR r s p m) {t : Nat} (ht : t < m.length) : m.getD t 0 ≠ -1 := fun e => h.2.2.1 (mem_at.mpr ⟨t, ht, e⟩)
theorem row_b9 {f : Nat} {m : List Int32} (hq : q < 60) (hf : f < 60) (hfq : f ≠ q) {fu : Nat} (hfu : 61 < fu) : ∀ k t r s l, HR r s q l → HR r s f m → t ≤ m.length → m.length - t < k → ∃ r' s', f_X6_addRow_9 fu k (nI q, nI f, nI m.length, nI t, r, s) = some (r', s') ∧ HR r' s' q ((m.drop t).foldl pA l) ∧ FRM q r s r' s' := by
  intro k
  induction k with
  | zero => intro t r s l _ _ _ h0; omega
  | succ k ih =>
    intro t r s l h hm ht hk
    have h12 := hm.1
    show ∃ r' s', g_X6_addRow_9 fu r s (fun a b c d e f => f_X6_addRow_9 fu k (a, b, c, d, e, f)) (nI q) (nI f) (nI m.length) (nI t) = some (r', s') ∧ _
    unfold g_X6_addRow_9
    rcases Nat.lt_or_ge t m.length with c | c
    · rw [if_neg (nI_ge c (by omega)), at_b hf (by omega), hm.2.2.2 t c, nI_1]
      simp only [Option.bind_some]
      obtain ⟨r1, s1, e1, g1, f1⟩ := add_b h hq hfu (m.getD t 0)
      rw [e1, drop_at c]
      simp only [Option.bind_some, List.foldl_cons]
      obtain ⟨r2, s2, e2, g2, f2⟩ := ih (t + 1) r1 s1 _ g1 (hr_fr hm f1 hfq) c (by omega)
      exact ⟨r2, s2, e2, g2, frm_tr f1 f2⟩
    · have e : t = m.length := by omega
      subst e
      rw [if_pos (nI_le (Nat.le_refl _) (by omega)), List.drop_length]
      exact ⟨r, s, rfl, h, frm_rf⟩
theorem rowq_b {f : Nat} {m : List Int32} (h : HR r s q l) (hm : HR r s f m) (hq : q < 60) (hf : f < 60) (hfq : f ≠ q) {fu : Nat} (hfu : 61 < fu) : ∃ r' s', f_X6_addRow fu r s (nI q) (nI f) = some (r', s') ∧ HR r' s' q (m.foldl pA l) ∧ FRM q r s r' s' := by
  have h12 := hm.1
  unfold f_X6_addRow
  rw [size_b hf, hm.2.1]
  simp only [Option.bind_some]
  exact row_b9 hq hf hfq hfu fu 0 r s l h hm (Nat.zero_le _) (by omega)
theorem row_n {fu : Nat} (hfu : 61 < fu) : f_X6_addRow fu r s (nI q) (-1) = some (r, s) := by
  unfold f_X6_addRow
  rw [size_n]
  simp only [Option.bind_some]
  cases fu with
  | zero => omega
  | succ k =>
    show g_X6_addRow_9 (k + 1) r s (fun a b c d e f => f_X6_addRow_9 (k + 1) k (a, b, c, d, e, f)) (nI q) (-1) 0 0 = _
    unfold g_X6_addRow_9
    rw [if_pos (by decide)]
end
