/-! Text: the parsers' states. -/
def tr1 (t : Int32) : List Int32 := if 1000 ≤ t then [0, t - 1000] else if 100 ≤ t then [t - 80] else if t = 43 then [1] else if t = 45 then [2] else if t = 60 then [3] else if t = 61 then [4] else if t = 7 then [5] else if t = 8 then [6] else if t = 9 then [7] else []
def trl (C : List Int32) : List Int32 := C.flatMap tr1
theorem trl_app (C D : List Int32) : trl (C ++ D) = trl C ++ trl D := by simp [trl]
theorem trl_one (t : Int32) : trl [t] = tr1 t := by simp [trl]
def AL (f : Nat → Int32) (o : Nat) (l : List Int32) : Prop := ∀ i, i < l.length → f (o + i) = l.getD i 0
theorem al_nil {f : Nat → Int32} {o : Nat} : AL f o [] := fun i hi => absurd hi (Nat.not_lt_zero _)
theorem al_app {f : Nat → Int32} {o : Nat} {l : List Int32} (h : AL f o l) (x : Int32) : AL (upd f (o + l.length) x) o (l ++ [x]) := by
  intro i hi
  rw [List.length_append] at hi
  have hi2 : i < l.length + 1 := hi
  rcases Nat.lt_or_ge i l.length with c | c
  · rw [upd_ne _ _ (by omega), gd_l c]
    exact h i c
  · have e : i = l.length := by omega
    subst e
    rw [upd_at, gd_r]
def RFw (T : Nat) (r0 r : Nat → Int32) : Prop := ∀ j, (j < 700 * T ∨ 700 * T + 700 ≤ j) → r j = r0 j
theorem emit_b {C : List Int32} {code : Nat → Int32} (h : AL code 0 C) (hc : C.length < 400) (x : Int32) : ∃ code', f_X3_emit code (nI C.length) x = some (code', nI (C ++ [x]).length) ∧ AL code' 0 (C ++ [x]) := by
  have q : ¬ (400 : Int32) ≤ nI C.length := nI_ge (b := 400) hc (by decide)
  unfold f_X3_emit g_X3_emit_30
  rw [if_neg q, if_pos (inb_nI hc (by decide)), nI_clamp (by omega), nI_1]
  have := al_app h x
  rw [Nat.zero_add] at this
  exact ⟨_, by rw [List.length_append]; rfl, this⟩
theorem emit_e {c : Nat} {code : Nat → Int32} (hc : c ≤ 400) (x : Int32) : ∃ code' c', f_X3_emit code (nI c) x = some (code', nI c') ∧ c' ≤ 400 := by
  unfold f_X3_emit g_X3_emit_30
  by_cases q : (400 : Int32) ≤ nI c
  · rw [if_pos q]
    exact ⟨_, c, rfl, hc⟩
  · have hc2 : c < 400 := by
      have e : ((400 : Int32) ≤ nI c) ↔ 400 ≤ c := nI_leI (a := 400) (by decide) (by omega)
      rw [e] at q
      omega
    rw [if_neg q, if_pos (inb_nI hc2 (by decide)), nI_1]
    exact ⟨_, c + 1, rfl, hc2⟩
theorem m700 (q : Nat) : 700 * nI q = nI (700 * q) := by
  have e : (700 : Int32) = Int32.ofNat 700 := rfl
  unfold nI
  rw [e, ← Int32.ofNat_mul]
theorem emit_m {C : List Int32} {T : Nat} {row r0 : Nat → Int32} (hT : T ≤ 5) (h : AL row (700 * T) C) (hr : RFw T r0 row) (hc : C.length < 700) (x : Int32) : ∃ row', f_X11_emit (nI T) 0 row (nI C.length) x = some (row', nI (C ++ [x]).length) ∧ AL row' (700 * T) (C ++ [x]) ∧ RFw T r0 row' := by
  unfold f_X11_emit
  rw [if_pos rfl, m700, nI_add, if_pos (inb_nI (N := 4200) (by omega) (by decide)), nI_clamp (by omega), nI_1]
  refine ⟨_, by rw [List.length_append]; rfl, al_app h x, fun j hj => ?_⟩
  rw [upd_ne _ _ (by omega)]
  exact hr j hj
theorem emit_me {T : Nat} {row : Nat → Int32} {d g x : Int32} (hg : ¬ g = 0) : f_X11_emit (nI T) g row d x = some (row, d) := by
  unfold f_X11_emit
  rw [if_neg hg]
def isPush (t : Int32) : Prop := (∃ v, v ≤ 9999 ∧ t = nI (1000 + v)) ∨ (∃ j, j < 8 ∧ t = nI (100 + j))
def isBin (t : Int32) : Prop := t = 43 ∨ t = 45 ∨ t = 60 ∨ t = 61 ∨ t = 7 ∨ t = 8
def WF (h : Nat) (X : List Int32) : Prop := ∀ P : Nat → List Int32 → Prop, (∀ t, isPush t → P 1 [t]) → (∀ h X, P h X → P h (X ++ [9])) → (∀ h1 h2 X Y t, P h1 X → P h2 Y → isBin t → P (max h1 (h2 + 1)) (X ++ Y ++ [t])) → P h X
theorem wf_push {t : Int32} (h : isPush t) : WF 1 [t] := fun _ p1 _ _ => p1 t h
theorem wf_not {h : Nat} {X : List Int32} (w : WF h X) : WF h (X ++ [9]) := fun P p1 p2 p3 => p2 h X (w P p1 p2 p3)
theorem wf_bin {h1 h2 : Nat} {X Y : List Int32} {t : Int32} (w1 : WF h1 X) (w2 : WF h2 Y) (ht : isBin t) : WF (max h1 (h2 + 1)) (X ++ Y ++ [t]) := fun P p1 p2 p3 => p3 h1 h2 X Y t (w1 P p1 p2 p3) (w2 P p1 p2 p3) ht
def WFl (H : Nat) (X : List Int32) : Prop := ∃ h, h ≤ H ∧ WF h X
theorem wfl_mono {H H' : Nat} {X : List Int32} (h : WFl H X) (hh : H ≤ H') : WFl H' X := by
  obtain ⟨k, k1, k2⟩ := h
  exact ⟨k, by omega, k2⟩
section
variable {b a : Nat → Int32} {ch : Nat → Nat} {n K k : Nat} {tk st : Nat → Int32}
/-- the k-th token's first place, and its value -/
def SS (ch : Nat → Nat) (n k : Nat) : Nat := sta ch n (psn ch n k)
def TK (ch : Nat → Nat) (n k : Nat) : Nat := tk1 ch n (SS ch n k)
def MKd (ch : Nat → Nat) (n k : Nat) : Nat := mk1 ch n (SS ch n k)
def MSd (ch : Nat → Nat) (n k : Nat) : Nat := ms1 ch n (SS ch n k)
def SCK (ch : Nat → Nat) (n : Nat) (tk st : Nat → Int32) (K : Nat) : Prop := K ≤ 400 ∧ SC ch n tk st K ∧ tk K = 0 ∧ st K = nI n ∧ SS ch n K = n
theorem psn_s (k : Nat) : psn ch n (k + 1) = en1 ch n (SS ch n k) := rfl
theorem wi_rng (l : List Nat) : (3 ≤ wi l ∧ wi l ≤ 9) ∨ (100 ≤ wi l ∧ wi l ≤ 107) := by
  rcases wi_cases l with ⟨x, x1, x2, -, x4⟩ | ⟨h, -⟩
  · rw [x4]
    unfold cd
    split <;> omega
  · omega
theorem nvl_lt (hd : ∀ j, j < k → ch (n + j) ≤ 57) : nvl ch n k < 10 ^ k := by
  induction k with
  | zero => exact Nat.one_pos
  | succ k ih =>
    have h1 := ih (fun j hj => hd j (by omega))
    have h2 := hd k (by omega)
    rw [nvl, Nat.pow_succ]
    omega
/-- what a token may be -/
theorem tk_cases (s : Nat) : (¬ s < n ∧ tk1 ch n s = 0 ∧ mk1 ch n s = 0) ∨ (s < n ∧ tk1 ch n s = wi (sl ch s (en1 ch n s)) ∧ mk1 ch n s = 1) ∨ (s < n ∧ en1 ch n s - s ≤ 4 ∧ tk1 ch n s = 1000 + nvl ch s (en1 ch n s - s) ∧ nvl ch s (en1 ch n s - s) ≤ 9999 ∧ mk1 ch n s = 2 ∧ (∀ j, s ≤ j → j < en1 ch n s → isD (ch j) = true)) ∨ (s < n ∧ ¬ en1 ch n s - s ≤ 4 ∧ tk1 ch n s = 2 ∧ mk1 ch n s = 2) ∨ (s < n ∧ mk1 ch n s = 3 ∧ sgn (ch s) = true ∧ tk1 ch n s = ch s ∧ ms1 ch n s = ch s ∧ en1 ch n s = s + 1) ∨ (s < n ∧ mk1 ch n s = 4 ∧ tk1 ch n s = 1) := by
  by_cases q : s < n
  · unfold tk1 mk1 ms1 en1 tks
    simp only [if_pos q]
    by_cases c1 : isL (ch s) = true
    · simp only [if_pos c1]
      exact Or.inr (Or.inl ⟨q, (by first | rfl | trivial), (by first | rfl | trivial)⟩)
    simp only [if_neg c1]
    by_cases c2 : isD (ch s) = true
    · simp only [if_pos c2]
      have ht : ted ch n s = bh (fun j => isD (ch j)) n s := by unfold ted; rw [if_neg c1, if_pos c2]
      have hd : ∀ j, s ≤ j → j < ted ch n s → isD (ch j) = true := fun j j1 j2 => by rw [ht] at j2; exact bh_in (p := fun j => isD (ch j)) j1 j2
      by_cases c3 : ted ch n s - s ≤ 4
      · simp only [if_pos c3]
        refine Or.inr (Or.inr (Or.inl ⟨q, c3, (by first | rfl | trivial), ?_, (by first | rfl | trivial), hd⟩))
        have h1 := nvl_lt (ch := ch) (n := s) (k := ted ch n s - s) (fun j hj => (dig48 (hd (s + j) (by omega) (by omega))).2)
        have h2 : 10 ^ (ted ch n s - s) ≤ 10 ^ 4 := Nat.pow_le_pow_right (by decide) c3
        omega
      · simp only [if_neg c3]
        exact Or.inr (Or.inr (Or.inr (Or.inl ⟨q, c3, (by first | rfl | trivial), (by first | rfl | trivial)⟩)))
    simp only [if_neg c2]
    by_cases c4 : sgn (ch s) = true
    · simp only [if_pos c4]
      refine Or.inr (Or.inr (Or.inr (Or.inr (Or.inl ⟨q, (by first | rfl | trivial), c4, (by first | rfl | trivial), (by first | rfl | trivial), ?_⟩))))
      unfold ted
      rw [if_neg c1, if_neg c2]
    · simp only [if_neg c4]
      exact Or.inr (Or.inr (Or.inr (Or.inr (Or.inr ⟨q, (by first | rfl | trivial), (by first | rfl | trivial)⟩))))
  · unfold tk1 mk1
    rw [if_neg q, if_neg q]
    exact Or.inl ⟨q, rfl, rfl⟩
theorem sgn_mem {c : Nat} (h : sgn c = true) : c = 40 ∨ c = 41 ∨ c = 59 ∨ c = 43 ∨ c = 45 ∨ c = 60 ∨ c = 61 := by
  unfold sgn at h
  simp only [Bool.or_eq_true, decide_eq_true_eq] at h
  omega
theorem tk_lt (s : Nat) : tk1 ch n s < 11000 := by
  rcases tk_cases (ch := ch) (n := n) s with h | h | h | h | h | h
  · omega
  · have := wi_rng (sl ch s (en1 ch n s))
    omega
  · omega
  · omega
  · have := sgn_mem h.2.2.1
    omega
  · omega
theorem tk_0 (s : Nat) (h : tk1 ch n s = 0) : ¬ s < n := by
  rcases tk_cases (ch := ch) (n := n) s with q | q | q | q | q | q
  · exact q.1
  · have := wi_rng (sl ch s (en1 ch n s))
    omega
  · omega
  · omega
  · have := sgn_mem q.2.2.1
    omega
  · omega
theorem sign_q (s c : Nat) (hc : c = 40 ∨ c = 41 ∨ c = 59 ∨ c = 43 ∨ c = 45 ∨ c = 60 ∨ c = 61) : f_X11_isSign (nI (mk1 ch n s)) (nI (ms1 ch n s)) (nI c) = some (bI (decide (tk1 ch n s = c))) := by
  unfold f_X11_isSign g_X11_isSign_20 g_X11_isSign_21
  have no : mk1 ch n s ≠ 3 → mk1 ch n s < 5 → tk1 ch n s ≠ c → (if nI (mk1 ch n s) = 3 then if nI (ms1 ch n s) = nI c then if isB 1 = true then some 1 else none else if isB 0 = true then some 0 else none else if isB 0 = true then some (0 : Int32) else none) = some (bI (decide (tk1 ch n s = c))) := fun h1 h2 h3 => by
    have e3 : nI (mk1 ch n s) = 3 ↔ mk1 ch n s = 3 := nI_eq (b := 3) (by omega) (by decide)
    rw [if_neg (fun w => h1 (e3.mp w)), decide_eq_false h3]
    rfl
  rcases tk_cases (ch := ch) (n := n) s with q | q | q | q | q | q
  · exact no (by omega) (by omega) (by omega)
  · have := wi_rng (sl ch s (en1 ch n s))
    exact no (by omega) (by omega) (by omega)
  · exact no (by omega) (by omega) (by omega)
  · exact no (by omega) (by omega) (by omega)
  · have := sgn_mem q.2.2.1
    rw [q.2.1, q.2.2.2.1, q.2.2.2.2.1, if_pos (by decide)]
    by_cases e : ch s = c
    · rw [if_pos (by rw [e]), decide_eq_true e]
      rfl
    · rw [if_neg (fun w => e ((nI_eq (by omega) (by omega)).mp w)), decide_eq_false e]
      rfl
  · exact no (by omega) (by omega) (by omega)
theorem word_x (h : BY b a ch) (hn : n ≤ 400) {fu : Nat} (hfu : 500 < fu) {s : Nat} (hs : s ≤ n) {x y : Nat} (hx : x < 38) (hy : wd x = wd y) (y1 : 3 ≤ y) (y2 : y ≤ 16) : f_X11_isWord fu a (nI (mk1 ch n s)) (nI s) (nI (en1 ch n s)) x = some (bI (decide (tk1 ch n s = cd y))) := by
  have hcd : (4 ≤ cd y ∧ cd y ≤ 9) ∨ (100 ≤ cd y ∧ cd y ≤ 107) := by
    unfold cd
    split <;> omega
  have no : mk1 ch n s ≠ 1 → mk1 ch n s < 5 → tk1 ch n s ≠ cd y → f_X11_isWord fu a (nI (mk1 ch n s)) (nI s) (nI (en1 ch n s)) x = some (bI (decide (tk1 ch n s = cd y))) := fun h1 h2 h3 => by
    have e1 : nI (mk1 ch n s) = 1 ↔ mk1 ch n s = 1 := nI_eq (b := 1) (by omega) (by decide)
    rw [isWord_n (fun w => h1 (e1.mp w)) hfu, decide_eq_false h3]
    rfl
  rcases tk_cases (ch := ch) (n := n) s with q | q | q | q | q | q
  · exact no (by omega) (by omega) (by omega)
  · have he := en1_le (ch := ch) hs
    rw [q.2.2, q.2.1]
    have := isWord_q h hx he.1 (by omega) hfu (e := en1 ch n s)
    rw [show nI 1 = (1 : Int32) from rfl, this, hy]
    by_cases e : sl ch s (en1 ch n s) = wd y
    · rw [decide_eq_true e, decide_eq_true ((wi_iff y1 y2).mp e)]
    · rw [decide_eq_false e, decide_eq_false (fun w => e ((wi_iff y1 y2).mpr w))]
  · exact no (by omega) (by omega) (by omega)
  · exact no (by omega) (by omega) (by omega)
  · have := sgn_mem q.2.2.1
    exact no (by omega) (by omega) (by omega)
  · exact no (by omega) (by omega) (by omega)
theorem tk_at (h : SCK ch n tk st K) (hk : k ≤ K) : tk k = nI (TK ch n k) ∧ st k = nI (SS ch n k) := by
  obtain ⟨h1, h2, h3, h4, h5⟩ := h
  rcases Nat.lt_or_ge k K with q | q
  · exact ⟨(h2 k q).1, (h2 k q).2.1⟩
  · have e : k = K := by omega
    subst e
    refine ⟨?_, by rw [h4, h5]⟩
    rw [h3]
    unfold TK tk1
    rw [h5, if_neg (Nat.lt_irrefl _)]
    rfl
theorem tk_lt_K (h : SCK ch n tk st K) (hk : k ≤ K) (ht : TK ch n k ≠ 0) : k < K := by
  rcases Nat.lt_or_ge k K with q | q
  · exact q
  · have e : k = K := by omega
    subst e
    exfalso
    apply ht
    unfold TK tk1
    rw [h.2.2.2.2, if_neg (Nat.lt_irrefl _)]
theorem ss_le (k : Nat) : SS ch n k ≤ n := sta_le (psn_le k)
theorem ss_lt (h : SCK ch n tk st K) (hk : k < K) : SS ch n k < n := (h.2.1 k hk).2.2
theorem ps_lt (h : SCK ch n tk st K) (hk : k < K) : psn ch n k < psn ch n (k + 1) := psn_lt (ss_lt h hk)
theorem adv_b (h : SCK ch n tk st K) (hk : k < K) : f_X3_advance tk (nI k) = some (nI (k + 1), nI (TK ch n (k + 1))) := by
  have hK := h.1
  have e : min32 (nI (k + 1)) 400 = nI (k + 1) := by
    unfold min32
    have : ¬ (400 : Int32) < nI (k + 1) := nI_nlt (a := 400) (by omega) (by decide)
    rw [if_neg this]
  unfold f_X3_advance
  rw [nI_1, e, if_pos (inb_nI (N := 401) (by omega) (by decide)), nI_clamp (by omega), (tk_at h (by omega)).1]
theorem blame_b (h : SCK ch n tk st K) (hk : k ≤ K) (tok pl x : Int32) : f_X3_blame st (nI k) tok 0 pl x = some (-1, x, nI (SS ch n k)) := by
  have hK := h.1
  unfold f_X3_blame g_X3_blame_33
  rw [if_pos rfl, if_pos (inb_nI (N := 401) (by omega) (by decide)), nI_clamp (by omega), (tk_at h hk).2]
theorem blame_e {at' tok f pl x : Int32} (hf : ¬ f = 0) : f_X3_blame st at' tok f pl x = some (tok, f, pl) := by
  unfold f_X3_blame g_X3_blame_33
  rw [if_neg hf]
end
