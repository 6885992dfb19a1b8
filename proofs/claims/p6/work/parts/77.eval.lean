/-! Judging: the value of an expression, on both sides. -/
theorem al_l {f : Nat → Int32} {i : Nat} {X Y : List Int32} (h : AL f i (X ++ Y)) : AL f i X := fun j hj => by
  rw [h j (by rw [List.length_append]; omega)]
  simp [List.getD_eq_getElem?_getD, List.getElem?_append_left hj]
theorem al_r {f : Nat → Int32} {i : Nat} {X Y : List Int32} (h : AL f i (X ++ Y)) : AL f (i + X.length) Y := fun j hj => by
  have := h (X.length + j) (by rw [List.length_append]; omega)
  rw [← Nat.add_assoc] at this
  rw [this]
  simp [List.getD_eq_getElem?_getD, List.getElem?_append_right]
theorem al_1 {f : Nat → Int32} {i : Nat} {t : Int32} (h : AL f i [t]) : f i = t := h 0 (Nat.one_pos)
def PBk (names : Nat → Int32) (h : Nat) (X : List Int32) (v : Int32) : Prop := ∀ (f : Nat → Int32) (n i k : Nat) (ops : Nat → Int32) (o : Nat) (r d e : Int32), AL f i X → i + X.length ≤ n → n ≤ 400 → o + h ≤ 24 → ∃ ops', lp (g_X2_judge names n f) (k + X.length) (nI i, ops, nI o, r, d, e) = lp (g_X2_judge names n f) k (nI (i + X.length), ops', nI (o + 1), r, d, e) ∧ (∀ j, j < o → ops' j = ops j) ∧ ops' o = v
section
variable {names ops f : Nat → Int32} {o n i k v : Nat} {r d e : Int32}
theorem jstep (hi : i < n) (hn : n ≤ 400) : lp (g_X2_judge names n f) (k + 1) (nI i, ops, nI o, r, d, e) = (f_X2_work names ops (nI o) r d e (f i)).bind fun w => lp (g_X2_judge names n f) k (nI (i + 1), w) := by
  show g_X2_judge names n f (lp (g_X2_judge names n f) k) (nI i, ops, nI o, r, d, e) = _
  unfold g_X2_judge
  have q : ¬ Int32.ofNat n ≤ nI i := nI_ge (b := n) hi (by omega)
  simp only []
  rw [if_neg q, if_pos (inb_nI hi (by omega)), nI_clamp (by omega), nI_1]
theorem push_b (ho : o < 24) (x : Int32) : f_X2_push ops (nI o) x = some (upd ops o x, nI (o + 1)) := by
  have q : ¬ (24 : Int32) ≤ nI o := nI_ge (b := 24) ho (by decide)
  unfold f_X2_push g_X2_push_29
  rw [if_neg q, if_pos (inb_nI ho (by decide)), nI_clamp (by omega), nI_1]
theorem pop_b (ho : o < 24) : f_X2_pop ops (nI (o + 1)) = some (ops o, nI o) := by
  have q : (0 : Int32) < nI (o + 1) := nI_lt (a := 0) (by omega) (by omega)
  unfold f_X2_pop
  rw [if_pos q, nI_pred, if_pos (inb_nI ho (by decide)), nI_clamp (by omega)]
theorem work_n (ho : o < 24) (hv : v ≤ 9999) : f_X2_work names ops (nI o) r d e (nI (1000 + v)) = some (upd ops o (nI v), nI (o + 1), r, d, e) := by
  have e2 : nI (1000 + v) - 1000 = nI v := by
    have := nI_sub (i := 1000) (j := 1000 + v) (by omega)
    rw [show 1000 + v - 1000 = v by omega] at this
    exact this
  unfold f_X2_work g_X2_work_170
  rw [isNum_q (by omega), decide_eq_true (by omega : 1000 ≤ 1000 + v)]
  simp only [Option.bind_some]
  rw [if_neg (by decide), e2, push_b ho]
  rfl
theorem work_m (ho : o < 24) {j : Nat} (hj : j < 8) : f_X2_work names ops (nI o) r d e (nI (100 + j)) = some (upd ops o (names j), nI (o + 1), r, d, e) := by
  have e2 : nI (100 + j) - 100 = nI j := by
    have := nI_sub (i := 100) (j := 100 + j) (by omega)
    rw [show 100 + j - 100 = j by omega] at this
    exact this
  have q8 : ¬ (8 : Int32) ≤ nI j := nI_ge (b := 8) hj (by decide)
  have hv : f_X2_nameValue names (nI (100 + j)) = some (names j) := by
    unfold f_X2_nameValue g_X2_nameValue_25
    rw [e2, if_neg (nI_pos (by omega)), if_neg q8, if_pos (inb_nI hj (by decide)), nI_clamp (by omega)]
  unfold f_X2_work g_X2_work_170
  rw [isNum_q (by omega), decide_eq_false (by omega : ¬ 1000 ≤ 100 + j)]
  simp only [Option.bind_some]
  rw [if_pos (by decide), isName_q (by omega), decide_eq_true (by omega : 100 ≤ 100 + j ∧ 100 + j ≤ 107)]
  simp only [Option.bind_some]
  rw [if_neg (by decide), hv]
  simp only [Option.bind_some]
  rw [push_b ho]
  rfl
def notv (x : Int32) : Int32 := if x = 0 then 1 else 0
theorem work_9 (ho : o < 24) : f_X2_work names ops (nI (o + 1)) r d e 9 = some (upd ops o (notv (ops o)), nI (o + 1), r, d, e) := by
  unfold f_X2_work g_X2_work_57 g_X2_work_170 notv
  rw [show f_X7_isNumber 9 = some 0 by decide +kernel]
  simp only [Option.bind_some]
  rw [if_pos trivial, show f_X7_isName 9 = some 0 by decide +kernel]
  simp only [Option.bind_some]
  rw [if_pos trivial, if_pos trivial, pop_b ho]
  simp only [Option.bind_some]
  rw [show f_X10_asInt 1 = some 1 by decide +kernel, show f_X10_asInt 0 = some 0 by decide +kernel]
  simp only [Option.bind_some]
  rw [push_b ho, push_b ho]
  by_cases c : ops o = 0
  · rw [if_pos c, if_pos c]
    rfl
  · rw [if_neg c, if_neg c]
    rfl
def jn (t l r : Int32) : Int32 := if t = 43 then l + r else if t = 45 then l - r else if t = 60 then (if r ≤ l then 0 else 1) else if t = 61 then (if l = r then 1 else 0) else if t = 7 then (if l = 0 then 0 else if r = 0 then 0 else 1) else (if l = 0 then (if r = 0 then 0 else 1) else 1)
theorem join_b {t : Int32} (ht : isBin t) (l r : Int32) : f_X2_joined t l r = some (jn t l r) := by
  have a1 : f_X10_asInt 1 = some 1 := by decide +kernel
  have a0 : f_X10_asInt 0 = some 0 := by decide +kernel
  unfold f_X2_joined g_X2_joined_108 g_X2_joined_121 g_X2_joined_109 g_X2_joined_126 g_X2_joined_78 g_X2_joined_92 jn
  rw [a1, a0]
  rcases ht with rfl | rfl | rfl | rfl | rfl | rfl
  · rfl
  · rfl
  · by_cases c : r ≤ l
    · simp [c]
    · simp [c]
  · by_cases c : l = r
    · simp [c]
    · simp [c]
  · by_cases c : l = 0
    · simp [c]
    · by_cases c2 : r = 0
      · simp [c, c2]
      · simp [c, c2]
  · by_cases c : l = 0
    · by_cases c2 : r = 0
      · simp [c, c2]
      · simp [c, c2]
    · simp [c]
theorem two_m {t : Int32} (ht : isBin t) : ∃ s0, tr1 t = [s0] ∧ ¬ s0 = 0 ∧ s0 < 20 ∧ ¬ s0 = 7 ∧ ∀ l r, f_X11_two s0 l r = some (jn t l r) := by
  rcases ht with rfl | rfl | rfl | rfl | rfl | rfl
  · exact ⟨1, by decide +kernel, by decide, by decide, by decide, fun l r => rfl⟩
  · exact ⟨2, by decide +kernel, by decide, by decide, by decide, fun l r => rfl⟩
  · refine ⟨3, by decide +kernel, by decide, by decide, by decide, fun l r => ?_⟩
    unfold f_X11_two g_X11_two_54 jn
    by_cases c : r ≤ l
    · simp [c]
    · simp [c]
  · refine ⟨4, by decide +kernel, by decide, by decide, by decide, fun l r => ?_⟩
    unfold f_X11_two g_X11_two_65 jn
    by_cases c : l = r
    · simp [c]
    · simp [c]
  · refine ⟨5, by decide +kernel, by decide, by decide, by decide, fun l r => ?_⟩
    unfold f_X11_two g_X11_two_78 g_X11_two_79 jn
    by_cases c : l = 0
    · simp [c]
    · by_cases c2 : r = 0
      · simp [c, c2]
      · simp [c, c2]
  · refine ⟨6, by decide +kernel, by decide, by decide, by decide, fun l r => ?_⟩
    unfold f_X11_two g_X11_two_88 g_X11_two_93 jn
    by_cases c : l = 0
    · by_cases c2 : r = 0
      · simp [c, c2]
      · simp [c, c2]
    · simp [c]
theorem work_2 (ho : o + 1 < 24) {t : Int32} (ht : isBin t) : f_X2_work names ops (nI (o + 1 + 1)) r d e t = some (upd ops o (jn t (ops o) (ops (o + 1))), nI (o + 1), r, d, e) := by
  have h0 : f_X7_isNumber t = some 0 ∧ f_X7_isName t = some 0 ∧ ¬ t = 9 ∧ ¬ t = 4 ∧ ¬ t = 5 ∧ ¬ t = 6 := by
    rcases ht with rfl | rfl | rfl | rfl | rfl | rfl <;> decide +kernel
  obtain ⟨h1, h2, h3, h4, h5, h6⟩ := h0
  unfold f_X2_work g_X2_work_170
  rw [h1]
  simp only [Option.bind_some]
  rw [if_pos trivial, h2]
  simp only [Option.bind_some]
  rw [if_pos trivial, if_neg h3, if_neg h4, if_neg h5, if_neg h6, pop_b ho]
  simp only [Option.bind_some]
  rw [pop_b (by omega)]
  simp only [Option.bind_some]
  rw [join_b ht]
  simp only [Option.bind_some]
  rw [push_b (by omega)]
  rfl
end
section
variable {fu : Nat} {P G : Int32} {fem born died fa mo fg gh ga gf : Nat → Int32} {pp yy : Int32} {nm : Nat → Int32}
def HV (fu : Nat) (P G : Int32) (fem born died fa mo fg gh ga gf : Nat → Int32) (pp yy : Int32) (nm : Nat → Int32) : Prop := ∀ j, j < 8 → ∀ ll mr qm qs, ∃ ll' mr' qm' qs', f_X11_value fu P G fem born died fa mo fg gh ga gf ll mr qm qs (nI j) pp yy = some (nm j, ll', mr', qm', qs')
def PMk (fu : Nat) (P G : Int32) (fem born died fa mo fg gh ga gf : Nat → Int32) (pp yy : Int32) (h : Nat) (X : List Int32) (v : Int32) : Prop := ∀ (row : Nat → Int32) (e i k : Nat) (stk : Nat → Int32) (t : Nat) (ll mr qm qs : Nat → Int32), AL row i (trl X) → i + (trl X).length ≤ e → e ≤ 4200 → t + h ≤ 150 → ∃ k' stk' ll' mr' qm' qs', k ≤ k' ∧ f_X11_told_8 fu P G fem born died fa mo fg gh ga gf row (k + (trl X).length) (nI e, pp, yy, nI i, stk, nI t, ll, mr, qm, qs) = f_X11_told_8 fu P G fem born died fa mo fg gh ga gf row k' (nI e, pp, yy, nI (i + (trl X).length), stk', nI (t + 1), ll', mr', qm', qs') ∧ (∀ j, j < t → stk' j = stk j) ∧ stk' t = v
variable {row stk ll mr qm qs : Nat → Int32} {e i k t : Nat}
theorem ts_num (he : e ≤ 4200) (hi : i + 2 ≤ e) (ht : t < 150) (h0 : row i = 0) : f_X11_told_8 fu P G fem born died fa mo fg gh ga gf row (k + 1) (nI e, pp, yy, nI i, stk, nI t, ll, mr, qm, qs) = f_X11_told_8 fu P G fem born died fa mo fg gh ga gf row k (nI e, pp, yy, nI (i + 2), upd stk t (row (i + 1)), nI (t + 1), ll, mr, qm, qs) := by
  show g_X11_told_8 fu P G fem born died fa mo fg gh ga gf row stk (nI t) ll mr qm qs (fun a b c d e f g h i j => f_X11_told_8 fu P G fem born died fa mo fg gh ga gf row k (a, b, c, d, e, f, g, h, i, j)) (nI e) pp yy (nI i) = _
  unfold g_X11_told_8 g_X11_told_187
  rw [if_neg (nI_ge (by omega : i < e) (by omega)), if_pos (inb_nI (N := 4200) (by omega) (by decide)), nI_clamp (by omega), h0, if_pos rfl, nI_1, if_pos (inb_nI (N := 4200) (by omega) (by decide)), if_pos (inb_nI ht (by decide)), nI_clamp (by omega), nI_clamp (by omega), nI_1, nI_1]
theorem ts_nam (hV : HV fu P G fem born died fa mo fg gh ga gf pp yy nm) (he : e ≤ 4200) (hi : i + 1 ≤ e) (ht : t < 150) {j : Nat} (hj : j < 8) (h0 : row i = nI (20 + j)) : ∃ ll' mr' qm' qs', f_X11_told_8 fu P G fem born died fa mo fg gh ga gf row (k + 1) (nI e, pp, yy, nI i, stk, nI t, ll, mr, qm, qs) = f_X11_told_8 fu P G fem born died fa mo fg gh ga gf row k (nI e, pp, yy, nI (i + 1), upd stk t (nm j), nI (t + 1), ll', mr', qm', qs') := by
  obtain ⟨ll', mr', qm', qs', hv⟩ := hV j hj ll mr qm qs
  refine ⟨ll', mr', qm', qs', ?_⟩
  have q0 : ¬ nI (20 + j) = 0 := nI_ne0 (by omega) (by omega)
  have q20 : ¬ nI (20 + j) < (20 : Int32) := nI_nlt (b := 20) (by omega) (by omega)
  have e2 : nI (20 + j) - 20 = nI j := by
    have := nI_sub (i := 20) (j := 20 + j) (by omega)
    rw [show 20 + j - 20 = j by omega] at this
    exact this
  show g_X11_told_8 fu P G fem born died fa mo fg gh ga gf row stk (nI t) ll mr qm qs (fun a b c d e f g h i j => f_X11_told_8 fu P G fem born died fa mo fg gh ga gf row k (a, b, c, d, e, f, g, h, i, j)) (nI e) pp yy (nI i) = _
  unfold g_X11_told_8 g_X11_told_187
  rw [if_neg (nI_ge (by omega : i < e) (by omega)), if_pos (inb_nI (N := 4200) (by omega) (by decide)), nI_clamp (by omega), h0, if_neg q0, if_neg q20, e2, hv]
  simp only [Option.bind_some]
  rw [if_pos (inb_nI ht (by decide)), nI_clamp (by omega), nI_1, nI_1]
theorem ts_not (he : e ≤ 4200) (hi : i + 1 ≤ e) (ht : t < 150) (h0 : row i = 7) : f_X11_told_8 fu P G fem born died fa mo fg gh ga gf row (k + 1) (nI e, pp, yy, nI i, stk, nI (t + 1), ll, mr, qm, qs) = f_X11_told_8 fu P G fem born died fa mo fg gh ga gf row k (nI e, pp, yy, nI (i + 1), upd stk t (notv (stk t)), nI (t + 1), ll, mr, qm, qs) := by
  show g_X11_told_8 fu P G fem born died fa mo fg gh ga gf row stk (nI (t + 1)) ll mr qm qs (fun a b c d e f g h i j => f_X11_told_8 fu P G fem born died fa mo fg gh ga gf row k (a, b, c, d, e, f, g, h, i, j)) (nI e) pp yy (nI i) = _
  unfold g_X11_told_8 g_X11_told_137 g_X11_told_187 notv
  rw [if_neg (nI_ge (by omega : i < e) (by omega)), if_pos (inb_nI (N := 4200) (by omega) (by decide)), nI_clamp (by omega), h0, if_neg (by decide), if_pos (by decide), if_pos rfl, nI_pred, if_pos (inb_nI ht (by decide)), nI_clamp (by omega), nI_1]
  by_cases c : stk t = 0
  · rw [if_pos c, if_pos c, if_pos (inb_nI ht (by decide))]
  · rw [if_neg c, if_neg c, if_pos (inb_nI ht (by decide))]
theorem ts_two (he : e ≤ 4200) (hi : i + 1 ≤ e) (ht : t + 1 < 150) {s0 w : Int32} (h0 : row i = s0) (z1 : ¬ s0 = 0) (z2 : s0 < 20) (z3 : ¬ s0 = 7) (hw : f_X11_two s0 (stk t) (stk (t + 1)) = some w) : f_X11_told_8 fu P G fem born died fa mo fg gh ga gf row (k + 1) (nI e, pp, yy, nI i, stk, nI (t + 1 + 1), ll, mr, qm, qs) = f_X11_told_8 fu P G fem born died fa mo fg gh ga gf row k (nI e, pp, yy, nI (i + 1), upd stk t w, nI (t + 1), ll, mr, qm, qs) := by
  show g_X11_told_8 fu P G fem born died fa mo fg gh ga gf row stk (nI (t + 1 + 1)) ll mr qm qs (fun a b c d e f g h i j => f_X11_told_8 fu P G fem born died fa mo fg gh ga gf row k (a, b, c, d, e, f, g, h, i, j)) (nI e) pp yy (nI i) = _
  unfold g_X11_told_8 g_X11_told_187
  rw [if_neg (nI_ge (by omega : i < e) (by omega)), if_pos (inb_nI (N := 4200) (by omega) (by decide)), nI_clamp (by omega), h0, if_neg z1, if_pos z2, if_neg z3, nI_pred, nI_pred, if_pos (inb_nI (N := 150) (by omega) (by decide)), if_pos (inb_nI (N := 150) (by omega) (by decide)), nI_clamp (by omega), nI_clamp (by omega), hw]
  simp only [Option.bind_some]
  rw [if_pos (inb_nI (N := 150) (by omega) (by decide)), nI_1]
def EVv (names : Nat → Int32) (fu : Nat) (P G : Int32) (fem born died fa mo fg gh ga gf : Nat → Int32) (pp yy : Int32) (h : Nat) (X : List Int32) (v : Int32) : Prop := PBk names h X v ∧ PMk fu P G fem born died fa mo fg gh ga gf pp yy h X v
theorem ev_all (hV : HV fu P G fem born died fa mo fg gh ga gf pp yy nm) {names : Nat → Int32} (hN : ∀ j, j < 8 → names j = nm j) {h : Nat} {X : List Int32} (hw : WF h X) : ∃ v, EVv names fu P G fem born died fa mo fg gh ga gf pp yy h X v := by
  refine (hw (fun h X => 1 ≤ h ∧ ∃ v, EVv names fu P G fem born died fa mo fg gh ga gf pp yy h X v) ?_ ?_ ?_).2
  · rintro t (⟨v, hv, rfl⟩ | ⟨j, hj, rfl⟩)
    · refine ⟨Nat.le_refl _, nI v, fun f n i k ops o r d e hA hi hn ho => ?_, fun row e i k stk t ll mr qm qs hA hi he ht => ?_⟩
      · have hf := al_1 hA
        have hi2 : i + 1 ≤ n := hi
        refine ⟨upd ops o (nI v), ?_, fun j hj => upd_ne _ _ (by omega), upd_at _ _ _⟩
        show lp (g_X2_judge names n f) (k + 1) (nI i, ops, nI o, r, d, e) = _
        rw [jstep (by omega) hn, hf, work_n (by omega) hv]
        rfl
      · rw [trl_one, tr_num hv] at hA hi ⊢
        have h0 : row i = 0 := hA 0 (by show 0 < 2; omega)
        have h1 : row (i + 1) = nI v := hA 1 (by show 1 < 2; omega)
        have hi2 : i + 2 ≤ e := hi
        refine ⟨k + 1, upd stk t (nI v), ll, mr, qm, qs, by omega, ?_, fun j hj => upd_ne _ _ (by omega), upd_at _ _ _⟩
        show f_X11_told_8 fu P G fem born died fa mo fg gh ga gf row (k + 1 + 1) (nI e, pp, yy, nI i, stk, nI t, ll, mr, qm, qs) = _
        rw [ts_num he hi2 (by omega) h0, h1]
        rfl
    · refine ⟨Nat.le_refl _, nm j, fun f n i k ops o r d e hA hi hn ho => ?_, fun row e i k stk t ll mr qm qs hA hi he ht => ?_⟩
      · have hf := al_1 hA
        have hi2 : i + 1 ≤ n := hi
        refine ⟨upd ops o (nm j), ?_, fun j hj => upd_ne _ _ (by omega), upd_at _ _ _⟩
        show lp (g_X2_judge names n f) (k + 1) (nI i, ops, nI o, r, d, e) = _
        rw [jstep (by omega) hn, hf, work_m (by omega) hj, hN j hj]
        rfl
      · rw [trl_one, tr_nam hj] at hA hi ⊢
        have h0 : row i = nI (20 + j) := al_1 hA
        have hi2 : i + 1 ≤ e := hi
        obtain ⟨ll', mr', qm', qs', hs⟩ := ts_nam (row := row) (stk := stk) (ll := ll) (mr := mr) (qm := qm) (qs := qs) (k := k) hV he hi2 (by omega : t < 150) hj h0
        exact ⟨k, upd stk t (nm j), ll', mr', qm', qs', Nat.le_refl _, hs, fun j hj => upd_ne _ _ (by omega), upd_at _ _ _⟩
  · rintro h X ⟨g1, v, hb, hm⟩
    refine ⟨g1, notv v, fun f n i k ops o r d e hA hi hn ho => ?_, fun row e i k stk t ll mr qm qs hA hi he ht => ?_⟩
    · have hl : (X ++ [9]).length = X.length + 1 := by rw [List.length_append]; rfl
      rw [hl] at hi
      obtain ⟨ops1, e1, e2, e3⟩ := hb f n i (k + 1) ops o r d e (al_l hA) (by omega) hn ho
      have hf := al_1 (al_r hA)
      refine ⟨upd ops1 o (notv v), ?_, fun j hj => by rw [upd_ne _ _ (by omega)]; exact e2 j hj, upd_at _ _ _⟩
      rw [hl, show k + (X.length + 1) = k + 1 + X.length by omega, e1, jstep (by omega) hn, hf, work_9 (by omega), e3]
      rfl
    · have hl : trl (X ++ [9]) = trl X ++ [7] := by rw [trl_app, trl_one]; rfl
      rw [hl] at hA hi
      have hl2 : (trl X ++ [7]).length = (trl X).length + 1 := by rw [List.length_append]; rfl
      rw [hl2] at hi
      obtain ⟨k1, stk1, ll1, mr1, qm1, qs1, hk, e1, e2, e3⟩ := hm row e i (k + 1) stk t ll mr qm qs (al_l hA) (by omega) he ht
      have hf := al_1 (al_r hA)
      obtain ⟨k2, rfl⟩ : ∃ k2, k1 = k2 + 1 := ⟨k1 - 1, by omega⟩
      refine ⟨k2, upd stk1 t (notv v), ll1, mr1, qm1, qs1, by omega, ?_, fun j hj => by rw [upd_ne _ _ (by omega)]; exact e2 j hj, upd_at _ _ _⟩
      rw [hl, hl2, show k + ((trl X).length + 1) = k + 1 + (trl X).length by omega, e1, ts_not he (by omega) (by omega) hf, e3]
      rfl
  · rintro h1 h2 X Y t ⟨g1, v1, hb1, hm1⟩ ⟨g2, v2, hb2, hm2⟩ ht
    refine ⟨Nat.le_trans g1 (Nat.le_max_left _ _), jn t v1 v2, fun f n i k ops o r d e hA hi hn ho => ?_, fun row e i k stk tt ll mr qm qs hA hi he hh => ?_⟩
    · have hl := len3 X Y t
      rw [hl] at hi
      have hx : h1 ≤ max h1 (h2 + 1) := Nat.le_max_left _ _
      have hy : h2 + 1 ≤ max h1 (h2 + 1) := Nat.le_max_right _ _
      obtain ⟨ops1, e1, e2, e3⟩ := hb1 f n i (k + 1 + Y.length) ops o r d e (al_l (al_l hA)) (by omega) hn (by omega)
      obtain ⟨ops2, f1, f2, f3⟩ := hb2 f n (i + X.length) (k + 1) ops1 (o + 1) r d e (al_r (al_l hA)) (by omega) hn (by omega)
      have hf := al_1 (al_r hA)
      rw [List.length_append, ← Nat.add_assoc] at hf
      have e4 : ops2 o = v1 := by rw [f2 o (by omega)]; exact e3
      refine ⟨upd ops2 o (jn t v1 v2), ?_, fun j hj => by rw [upd_ne _ _ (by omega), f2 j (by omega)]; exact e2 j hj, upd_at _ _ _⟩
      rw [hl, show k + (X.length + Y.length + 1) = k + 1 + Y.length + X.length by omega, e1, f1, jstep (by omega) hn, hf, work_2 (by omega) ht, e4, f3]
      simp only [Option.bind_some]
      rw [show i + (X.length + Y.length + 1) = i + X.length + Y.length + 1 by omega]
    · obtain ⟨s0, z0, z1, z2, z3, z4⟩ := two_m ht
      have hl := trl3 (X := X) (Y := Y) z0
      have hl2 : trl (X ++ Y ++ [t]) = trl X ++ trl Y ++ [s0] := by rw [trl_app, trl_app, trl_one, z0]
      rw [hl] at hi
      rw [hl2] at hA
      have hx : h1 ≤ max h1 (h2 + 1) := Nat.le_max_left _ _
      have hy : h2 + 1 ≤ max h1 (h2 + 1) := Nat.le_max_right _ _
      obtain ⟨k1, stk1, ll1, mr1, qm1, qs1, hk1, e1, e2, e3⟩ := hm1 row e i (k + 1 + (trl Y).length) stk tt ll mr qm qs (al_l (al_l hA)) (by omega) he (by omega)
      obtain ⟨kd, rfl⟩ : ∃ kd, k1 = kd + (trl Y).length := ⟨k1 - (trl Y).length, by omega⟩
      obtain ⟨k2, stk2, ll2, mr2, qm2, qs2, hk2, f1, f2, f3⟩ := hm2 row e (i + (trl X).length) kd stk1 (tt + 1) ll1 mr1 qm1 qs1 (al_r (al_l hA)) (by omega) he (by omega)
      obtain ⟨k3, rfl⟩ : ∃ k3, k2 = k3 + 1 := ⟨k2 - 1, by omega⟩
      have hf := al_1 (al_r hA)
      rw [List.length_append, ← Nat.add_assoc] at hf
      have e4 : stk2 tt = v1 := by rw [f2 tt (by omega)]; exact e3
      refine ⟨k3, upd stk2 tt (jn t v1 v2), ll2, mr2, qm2, qs2, by omega, ?_, fun j hj => by rw [upd_ne _ _ (by omega), f2 j (by omega)]; exact e2 j hj, upd_at _ _ _⟩
      rw [hl, show k + ((trl X).length + (trl Y).length + 1) = k + 1 + (trl Y).length + (trl X).length by omega, e1, f1, ts_two (w := jn t v1 v2) he (by omega) (by omega) hf z1 z2 z3 (by rw [e4, f3]; exact z4 v1 v2), show i + ((trl X).length + (trl Y).length + 1) = i + (trl X).length + (trl Y).length + 1 by omega]
end
