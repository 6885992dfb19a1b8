/-! Marks from the root down, and how many are above 1. -/
def mks (F : Nat → Option Nat) (pl : Nat → Nat) : Nat → Nat → Nat → Nat
  | 0, _, _ => 0
  | m + 1, i, k => if k = m then pl i else (match F i with
      | none => 0
      | some j => mks F pl m j k)
def cnt (f : Nat → Nat) : Nat → Nat
  | 0 => 0
  | m + 1 => if f m ≤ 1 then cnt f m else cnt f m + 1
theorem cnt_congr {f g : Nat → Nat} (m : Nat) (h : ∀ k, k < m → f k = g k) : cnt f m = cnt g m := by
  induction m with
  | zero => rfl
  | succ m ih =>
    rw [cnt, cnt, h m (by omega), ih (fun k hk => h k (by omega))]
theorem cnt_le (f : Nat → Nat) (m : Nat) : cnt f m ≤ m := by
  induction m with
  | zero => exact Nat.le_refl _
  | succ m ih =>
    rw [cnt]
    split <;> omega
def rowIs (row : Nat → Int32) (m : Nat) (f : Nat → Nat) (row0 : Nat → Int32) : Prop := (∀ k, k < m → row k = nI (f k)) ∧ ∀ k, m ≤ k → row k = row0 k
section
variable {n : Nat} {S : Nat → Bool} {B E : Nat → Nat} {F M : Nat → Option Nat} {fem born died ly fa mo fg : Nat → Int32} {y : Int32}
theorem q_place_b (h : IP n S B E F M fem born died ly fa mo) {p : Nat} (hp : p < n) {x : Int64} {L : Nat → Bool} (hx : ∀ i, i < 64 → (b6 x i = true ↔ i < n ∧ L i = true)) {fu : Nat} (hfu : 60 < fu) : f_X4_placeOf fu born fa (nI n) (nI p) x = some (nI (plc F L B p n)) := by
  have hn := h.1
  unfold f_X4_placeOf
  rw [fa_b h hp]
  exact place_b h hp hx fu 0 (Nat.zero_le _) (by omega)
theorem q_place_m (h : IP n S B E F M fem born died ly fa mo) {p : Nat} (hp : p < n) {arr : Nat → Int32} (ha : ∀ c, c < n → arr c = bI (LL n S F (lvb B E y) c)) {fu : Nat} (hfu : 60 < fu) : f_X11_placeOf fu (nI n) fem born fa arr (nI p) y = some (nI (plc F (LL n S F (lvb B E y)) B p n)) := by
  have hn := h.1
  exact place_m h hp ha fu 0 (Nat.zero_le _) (by omega)
theorem one_le {v : Nat} (hv : v < 2 ^ 31) : nI v ≤ 1 ↔ v ≤ 1 := nI_leI (b := 1) hv (by decide)
theorem marks_b (h : IP n S B E F M fem born died ly fa mo) {x : Int64} {L : Nat → Bool} (hx : ∀ i, i < 64 → (b6 x i = true ↔ i < n ∧ L i = true)) {fu : Nat} (hfu : 60 < fu) {ar : Nat → Int32} : ∀ kf m i k u g r row ab, i < n → m < kf → m ≤ 60 → cl F ar fg k i u g = some r → r.2.1 = u + m → ∃ row', f_X5_setMarks_16 fu born fa (nI n) kf (x, nI i, nI m - 1, row, nI ab) = some (row', nI (ab + cnt (mks F (fun p => plc F L B p n) m i) m)) ∧ rowIs row' m (mks F (fun p => plc F L B p n) m i) row := by
  have hn := h.1
  intro kf
  induction kf with
  | zero => intro m i k u g r row ab _ h0; omega
  | succ kf ih =>
    intro m i k u g r row ab hi hk hm hc hr
    show ∃ row', g_X5_setMarks_16 fu born fa (nI n) row (nI ab) (fun a b c d e => f_X5_setMarks_16 fu born fa (nI n) kf (a, b, c, d, e)) x (nI i) (nI m - 1) = some _ ∧ _
    unfold g_X5_setMarks_16 g_X5_setMarks_56
    cases m with
    | zero =>
      rw [if_pos (by decide)]
      exact ⟨row, rfl, fun k hk => by omega, fun k _ => rfl⟩
    | succ m =>
      have e : nI m + (-1) = nI m - 1 := (Int32.sub_eq_add_neg _ _).symm
      have hpl := plc_le (F := F) (L := L) (B := B) (p := i) n
      obtain ⟨k, rfl⟩ : ∃ k', k = k' + 1 := by
        cases k with
        | zero => cases hc
        | succ k => exact ⟨k, rfl⟩
      obtain ⟨j, hf, hc2⟩ : ∃ j, F i = some j ∧ cl F ar fg k j (u + 1) (min32 g (fg i)) = some r := by
        by_cases c : ar i = -1
        · cases hf : F i with
          | none => rw [cl_none c hf] at hc; cases hc
          | some j => rw [cl_some c hf] at hc; exact ⟨j, rfl, hc⟩
        · rw [cl_root c] at hc
          cases hc
          exact absurd hr (by show ¬ u = u + (m + 1); omega)
      have hj := fa_lt h hi hf
      rw [nI_pred, if_neg (nI_pos (by omega)), q_place_b h hi hx hfu, fa_b h hi, hf]
      simp only [Option.bind_some, inb_nI (N := 60) (n := m) (by omega) (by decide), nI_clamp (n := m) (by omega), if_true, upd_at]
      rw [e, nI_1, oI_some]
      have hmk : ∀ q, q < m → mks F (fun p => plc F L B p n) (m + 1) i q = mks F (fun p => plc F L B p n) m j q := fun q hq => by
        rw [mks, if_neg (by omega), hf]
      have hmm : mks F (fun p => plc F L B p n) (m + 1) i m = plc F L B i n := by rw [mks, if_pos rfl]
      have fin : ∀ ab', (∃ row', f_X5_setMarks_16 fu born fa (nI n) kf (x, nI j, nI m - 1, upd row m (nI (plc F L B i n)), nI ab') = some (row', nI (ab' + cnt (mks F (fun p => plc F L B p n) m j) m)) ∧ rowIs row' (m + 1) (mks F (fun p => plc F L B p n) (m + 1) i) row) := fun ab' => by
        obtain ⟨row', e1, e2, e3⟩ := ih m j k (u + 1) (min32 g (fg i)) r (upd row m (nI (plc F L B i n))) ab' (by omega) (by omega) (by omega) hc2 (by omega)
        refine ⟨row', e1, fun q hq => ?_, fun q hq => ?_⟩
        · rcases Nat.lt_or_ge q m with w | w
          · rw [e2 q w, hmk q w]
          · have e4 : q = m := by omega
            subst e4
            rw [e3 q (Nat.le_refl _), upd_at, hmm]
        · rw [e3 q (by omega), upd_ne _ _ (by omega)]
      have hcn := cnt_congr m hmk
      by_cases c : nI (plc F L B i n) ≤ 1
      · rw [if_pos c]
        rw [one_le (by omega)] at c
        obtain ⟨row', e1, e2⟩ := fin ab
        refine ⟨row', ?_, e2⟩
        rw [cnt, hmm, if_pos c, hcn]
        exact e1
      · rw [if_neg c]
        rw [one_le (by omega)] at c
        obtain ⟨row', e1, e2⟩ := fin (ab + 1)
        refine ⟨row', ?_, e2⟩
        rw [cnt, hmm, if_neg c, hcn]
        have e5 : ab + (cnt (mks F (fun p => plc F L B p n) m j) m + 1) = ab + 1 + cnt (mks F (fun p => plc F L B p n) m j) m := by omega
        rw [e5]
        exact e1
theorem marks_m (h : IP n S B E F M fem born died ly fa mo) {arr : Nat → Int32} (ha : ∀ c, c < n → arr c = bI (LL n S F (lvb B E y) c)) {fu : Nat} (hfu : 60 < fu) {ar : Nat → Int32} {tot : Int32} : ∀ kf m i k u g r row, i < n → m < kf → m ≤ 60 → cl F ar fg k i u g = some r → r.2.1 = u + m → ∃ row', f_X11_marksOf_20 fu (nI n) fem born fa kf (y, tot, nI i, nI m - 1, arr, row) = some (tot, arr, row') ∧ rowIs row' m (mks F (fun p => plc F (LL n S F (lvb B E y)) B p n) m i) row := by
  have hn := h.1
  intro kf
  induction kf with
  | zero => intro m i k u g r row _ h0; omega
  | succ kf ih =>
    intro m i k u g r row hi hk hm hc hr
    show ∃ row', g_X11_marksOf_20 fu (nI n) fem born fa arr row (fun a b c d e f => f_X11_marksOf_20 fu (nI n) fem born fa kf (a, b, c, d, e, f)) y tot (nI i) (nI m - 1) = some _ ∧ _
    unfold g_X11_marksOf_20
    cases m with
    | zero =>
      rw [if_pos (by decide)]
      exact ⟨row, rfl, fun k hk => by omega, fun k _ => rfl⟩
    | succ m =>
      have e : nI m + (-1) = nI m - 1 := (Int32.sub_eq_add_neg _ _).symm
      obtain ⟨k, rfl⟩ : ∃ k', k = k' + 1 := by
        cases k with
        | zero => cases hc
        | succ k => exact ⟨k, rfl⟩
      obtain ⟨j, hf, hc2⟩ : ∃ j, F i = some j ∧ cl F ar fg k j (u + 1) (min32 g (fg i)) = some r := by
        by_cases c : ar i = -1
        · cases hf : F i with
          | none => rw [cl_none c hf] at hc; cases hc
          | some j => rw [cl_some c hf] at hc; exact ⟨j, rfl, hc⟩
        · rw [cl_root c] at hc
          cases hc
          exact absurd hr (by show ¬ u = u + (m + 1); omega)
      have hj := fa_lt h hi hf
      rw [nI_pred, if_neg (nI_pos (by omega)), q_place_m h hi ha hfu]
      simp only [Option.bind_some, inb_nI (N := 60) (n := m) (by omega) (by decide), inb_nI (N := 60) (n := i) (by omega) (by decide), nI_clamp (n := m) (by omega), nI_clamp (n := i) (by omega), if_true]
      rw [e, fa_eq h hi, hf, oI_some]
      obtain ⟨row', e1, e2, e3⟩ := ih m j k (u + 1) (min32 g (fg i)) r (upd row m (nI (plc F (LL n S F (lvb B E y)) B i n))) (by omega) (by omega) (by omega) hc2 (by omega)
      refine ⟨row', e1, fun q hq => ?_, fun q hq => ?_⟩
      · rcases Nat.lt_or_ge q m with w | w
        · rw [e2 q w, mks, if_neg (by omega), hf]
        · have e4 : q = m := by omega
          subst e4
          rw [e3 q (Nat.le_refl _), upd_at, mks, if_pos rfl]
      · rw [e3 q (by omega), upd_ne _ _ (by omega)]
theorem above_m {arr row : Nat → Int32} {m : Nat} {f : Nat → Nat} (hm : m ≤ 60) (hf : ∀ k, k < m → row k = nI (f k) ∧ f k < 2 ^ 31) : ∀ kf t, t ≤ m → m - t < kf → f_X11_marksAbove_13 kf (nI m, nI (cnt f t), nI t, arr, row) = some (nI (cnt f m), arr, row) := by
  intro kf
  induction kf with
  | zero => intro t _ h0; omega
  | succ kf ih =>
    intro t ht hk
    show g_X11_marksAbove_13 arr row (fun a b c d e => f_X11_marksAbove_13 kf (a, b, c, d, e)) (nI m) (nI (cnt f t)) (nI t) = _
    unfold g_X11_marksAbove_13 g_X11_marksAbove_37
    rcases Nat.lt_or_ge t m with q | q
    · obtain ⟨q1, q2⟩ := hf t q
      rw [if_neg (nI_ge q (by omega)), nI_1]
      simp only [inb_nI (N := 60) (n := t) (by omega) (by decide), nI_clamp (n := t) (by omega), if_true, q1]
      have := ih (t + 1) q (by omega)
      rw [cnt] at this
      by_cases c : nI (f t) ≤ 1
      · rw [if_pos c]
        rw [one_le q2] at c
        rw [if_pos c] at this
        have e : nI (cnt f t) + 0 = nI (cnt f t) := Int32.add_zero _
        rw [e]
        exact this
      · rw [if_neg c]
        rw [one_le q2] at c
        rw [if_neg c] at this
        rw [nI_1]
        exact this
    · have e : t = m := by omega
      subst e
      rw [if_pos (nI_le (Nat.le_refl _) (by omega))]
end
