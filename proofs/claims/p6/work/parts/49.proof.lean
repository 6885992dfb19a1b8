/-! The proof of one in a year: the book's find, the model's marksOf and marksAbove. -/
section
variable {n gn : Nat} {S : Nat → Bool} {B E : Nat → Nat} {F M : Nat → Option Nat} {fem born died ly fa mo fg gh ga gf : Nat → Int32} {y : Int32}
def PR (F : Nat → Option Nat) (fg gh ga gf : Nat → Int32) (gn : Nat) (y : Int32) (p : Nat) : Option (Nat × Nat × Int32) := cl F (own gh ga gf gn y) fg 60 p 0 9
def MK (n : Nat) (S : Nat → Bool) (B E : Nat → Nat) (F : Nat → Option Nat) (y : Int32) (p u : Nat) : Nat → Nat := mks F (fun q => plc F (LL n S F (lvb B E y)) B q n) u p
theorem mks_lt {F : Nat → Option Nat} {pl : Nat → Nat} {N : Nat} (hN : 0 < N) (h : ∀ q, pl q < N) : ∀ m i k, mks F pl m i k < N := by
  intro m
  induction m with
  | zero => intro i k; exact hN
  | succ m ih =>
    intro i k
    rw [mks]
    split
    · exact h i
    · split
      · exact hN
      · exact ih _ _
theorem MK_lt {p u k : Nat} (hn : n ≤ 60) : MK n S B E F y p u k < 2 ^ 31 := mks_lt (by decide) (fun q => by have := plc_le (F := F) (L := LL n S F (lvb B E y)) (B := B) (p := q) n; omega) _ _ _
theorem min_60 {u : Nat} (h : u ≤ 60) : min32 (nI u) 60 = nI u := by
  unfold min32
  have q : ¬ (60 : Int32) < nI u := nI_nlt (a := 60) h (by decide)
  rw [if_neg q]
theorem find_b (h : IP n S B E F M fem born died ly fa mo) (hg : IG gn gh ga gf) {fu : Nat} (hfu : 61 < fu) {p : Nat} (hp : p < n) (row : Nat → Int32) : ∃ row', f_X5_find fu fem born ly fa fg (nI n) gh ga gf (nI gn) row (nI p) y = some (row', (pv (PR F fg gh ga gf gn y p) (own gh ga gf gn y)).1, (pv (PR F fg gh ga gf gn y p) (own gh ga gf gn y)).2.1, (pv (PR F fg gh ga gf gn y p) (own gh ga gf gn y)).2.2.1, (pv (PR F fg gh ga gf gn y p) (own gh ga gf gn y)).2.2.2, (match PR F fg gh ga gf gn y p with
    | none => 0
    | some r => nI (cnt (MK n S B E F y p r.2.1) r.2.1))) ∧ ∀ r, PR F fg gh ga gf gn y p = some r → rowIs row' r.2.1 (MK n S B E F y p r.2.1) row := by
  have hn := h.1
  unfold f_X5_find f_X5_climb g_X5_find_54
  have hc := climb_b (y := y) (fg := fg) h hg (by omega : 40 < fu) fu p 60 0 9 hp (by omega) (by omega) (by omega)
  have hc' : f_X5_climb_10 fu fa fg (nI n) gh ga gf (nI gn) fu (y, 9, nI p, 0, -1, -1, -1, -1) = some (pv (PR F fg gh ga gf gn y p) (own gh ga gf gn y)) := hc
  rw [hc']
  simp only [Option.bind_some]
  cases hr : PR F fg gh ga gf gn y p with
  | none => exact ⟨row, rfl, fun r q => by cases q⟩
  | some r =>
    have hle := cl_le (fun i hi j hj => fa_lt h hi hj) hp hr
    have q0 : ¬ (pv (some r) (own gh ga gf gn y)).2.1 = -1 := ne_m1 r.1 (by omega)
    rw [if_neg q0]
    obtain ⟨x, hx1, hx2⟩ := q_lines_b (y := y) h (by omega : 60 < fu)
    rw [hx1]
    simp only [Option.bind_some]
    obtain ⟨row', e1, e2⟩ := marks_b h hx2 (by omega : 60 < fu) fu r.2.1 p 60 0 9 r row 0 hp (by omega) (by omega) hr (by omega)
    unfold f_X5_setMarks
    have q1 : min32 (pv (some r) (own gh ga gf gn y)).2.2.1 60 = nI r.2.1 := min_60 (by omega)
    rw [q1]
    have e1' : f_X5_setMarks_16 fu born fa (nI n) fu (x, nI p, nI r.2.1 - 1, row, 0) = some (row', nI (0 + cnt (mks F (fun p => plc F (LL n S F (lvb B E y)) B p n) r.2.1 p) r.2.1)) := e1
    rw [e1', Nat.zero_add]
    refine ⟨row', rfl, fun r' q => ?_⟩
    cases q
    exact e2
theorem root_q (h : IP n S B E F M fem born died ly fa mo) (hg : IG gn gh ga gf) {fu : Nat} (hfu : 61 < fu) {p : Nat} (hp : p < n) : f_X11_rootOf fu (nI gn) fa gh ga gf (nI p) y = some (rI (PR F fg gh ga gf gn y p)) := by
  have hn := h.1
  exact root_m h hg (by omega) fu p 60 0 9 hp (by omega) (by omega)
theorem steps_q (h : IP n S B E F M fem born died ly fa mo) (hg : IG gn gh ga gf) {fu : Nat} (hfu : 61 < fu) {p : Nat} (hp : p < n) : f_X11_stepsOf fu (nI gn) fa gh ga gf (nI p) y = some (match PR F fg gh ga gf gn y p with
    | none => 0
    | some r => nI r.2.1) := by
  have hn := h.1
  unfold f_X11_stepsOf
  rw [root_q (fg := fg) h hg hfu hp]
  simp only [Option.bind_some]
  cases hr : PR F fg gh ga gf gn y p with
  | none =>
    obtain ⟨fu, rfl⟩ : ∃ k, fu = k + 1 := ⟨fu - 1, by omega⟩
    rfl
  | some r => exact steps_m h fu p 60 0 9 r hp (by omega) hr
theorem grade_q (h : IP n S B E F M fem born died ly fa mo) (hg : IG gn gh ga gf) {fu : Nat} (hfu : 61 < fu) {p : Nat} (hp : p < n) : f_X11_gradeOf fu (nI gn) fa fg gh ga gf (nI p) y = some (match PR F fg gh ga gf gn y p with
    | none => 9
    | some r => r.2.2) := by
  have hn := h.1
  unfold f_X11_gradeOf
  rw [root_q (fg := fg) h hg hfu hp]
  simp only [Option.bind_some]
  cases hr : PR F fg gh ga gf gn y p with
  | none =>
    obtain ⟨fu, rfl⟩ : ∃ k, fu = k + 1 := ⟨fu - 1, by omega⟩
    rfl
  | some r => exact grade_m h fu p 60 0 9 r hp (by omega) hr
theorem arms_q (h : IP n S B E F M fem born died ly fa mo) (hg : IG gn gh ga gf) {fu : Nat} (hfu : 61 < fu) {p : Nat} (hp : p < n) : f_X11_armsOf fu (nI gn) fa gh ga gf (nI p) y = some (pv (PR F fg gh ga gf gn y p) (own gh ga gf gn y)).1 := by
  have hn := h.1
  unfold f_X11_armsOf g_X11_armsOf_22
  rw [root_q (fg := fg) h hg hfu hp]
  simp only [Option.bind_some]
  cases hr : PR F fg gh ga gf gn y p with
  | none => rfl
  | some r =>
    have hle := cl_le (fun i hi j hj => fa_lt h hi hj) hp hr
    show (if nI r.1 = -1 then _ else _) = _
    rw [if_neg (ne_m1 r.1 (by omega))]
    show (f_X11_own fu (nI gn) gh ga gf (nI r.1) y).bind _ = _
    rw [q_own_m hg (by omega)]
    rfl
theorem marksOf_q (h : IP n S B E F M fem born died ly fa mo) (hg : IG gn gh ga gf) {fu : Nat} (hfu : 61 < fu) {p : Nat} (hp : p < n) (arr row : Nat → Int32) : ∃ arr' row', f_X11_marksOf fu (nI n) (nI gn) fem born died fa gh ga gf arr row (nI p) y = some ((match PR F fg gh ga gf gn y p with
    | none => 0
    | some r => nI r.2.1), arr', row') ∧ (∀ c, c < n → arr' c = bI (LL n S F (lvb B E y) c)) ∧ ∀ r, PR F fg gh ga gf gn y p = some r → rowIs row' r.2.1 (MK n S B E F y p r.2.1) row := by
  have hn := h.1
  unfold f_X11_marksOf
  obtain ⟨arr', ha1, ha2⟩ := q_lines_m (y := y) h (by omega : 60 < fu) arr
  rw [ha1, steps_q (fg := fg) h hg hfu hp]
  simp only [Option.bind_some]
  cases hr : PR F fg gh ga gf gn y p with
  | none =>
    obtain ⟨fu, rfl⟩ : ∃ k, fu = k + 1 := ⟨fu - 1, by omega⟩
    exact ⟨arr', row, rfl, ha2, fun r q => by cases q⟩
  | some r =>
    have hle := cl_le (fun i hi j hj => fa_lt h hi hj) hp hr
    obtain ⟨row', e1, e2⟩ := marks_m h ha2 (by omega : 60 < fu) (tot := nI r.2.1) fu r.2.1 p 60 0 9 r row hp (by omega) (by omega) hr (by omega)
    refine ⟨arr', row', e1, ha2, fun r' q => ?_⟩
    cases q
    exact e2
theorem above_q (h : IP n S B E F M fem born died ly fa mo) (hg : IG gn gh ga gf) {fu : Nat} (hfu : 61 < fu) {p : Nat} (hp : p < n) (arr row : Nat → Int32) : ∃ arr' row', f_X11_marksAbove fu (nI n) (nI gn) fem born died fa gh ga gf arr row (nI p) y = some ((match PR F fg gh ga gf gn y p with
    | none => 0
    | some r => nI (cnt (MK n S B E F y p r.2.1) r.2.1)), arr', row') ∧ (∀ c, c < n → arr' c = bI (LL n S F (lvb B E y) c)) := by
  have hn := h.1
  unfold f_X11_marksAbove
  obtain ⟨arr', row', e1, e2, e3⟩ := marksOf_q (y := y) (fg := fg) h hg hfu hp arr row
  rw [e1]
  simp only [Option.bind_some]
  cases hr : PR F fg gh ga gf gn y p with
  | none =>
    obtain ⟨fu, rfl⟩ : ∃ k, fu = k + 1 := ⟨fu - 1, by omega⟩
    exact ⟨arr', row', rfl, e2⟩
  | some r =>
    have hle := cl_le (fun i hi j hj => fa_lt h hi hj) hp hr
    have e4 := (e3 r hr).1
    exact ⟨arr', row', above_m (f := MK n S B E F y p r.2.1) (by omega) (fun k hk => ⟨e4 k hk, MK_lt hn⟩) fu 0 (Nat.zero_le _) (by omega), e2⟩
end
