/-! Text: the parsers side by side: expressions within expressions. -/
section
variable {b a : Nat → Int32} {ch : Nat → Nat} {n K T k H A : Nat} {tk st r0 : Nat → Int32} {fu : Nat} {C X : List Int32} {code row : Nat → Int32} {cs at' tok pl d mat mt ms mb me bp x : Int32}
variable {ke : Int32 → (Nat → Int32) → Int32 → Int32 → Int32 → Int32 → Int32 → Option ((Nat → Int32) × Int32 × Int32 × Int32 × Int32 × Int32)} {kem : Int32 → (Nat → Int32) → Int32 → Int32 → Int32 → Int32 → Int32 → Int32 → Int32 → Int32 → Option ((Nat → Int32) × Int32 × Int32 × Int32 × Int32 × Int32 × Int32 × Int32 × Int32)}
theorem nopart (hfu : 500 < fu) (hS : SCK ch n tk st K) (hk : k ≤ K) (c1 : ¬ 1000 ≤ TK ch n k) (c2 : ¬ (100 ≤ TK ch n k ∧ TK ch n k ≤ 107)) (c3 : TK ch n k ≠ 40) (c4 : TK ch n k ≠ 9) : ∃ v, (¬ v = 0 ∧ v = fwv (TK ch n k)) ∧ f_X3_readTest fu tk st code cs (nI k) (nI (TK ch n k)) 0 pl ke x = some (code, cs, nI k, -1, v, nI (SS ch n k)) := by
  have htl : TK ch n k < 11000 := tk_lt _
  obtain ⟨v, ev, hv⟩ := fwp_q (nI (TK ch n k))
  have e40 : nI (TK ch n k) = 40 ↔ TK ch n k = 40 := tk_eq (c := 40) (by decide)
  have e9 : nI (TK ch n k) = 9 ↔ TK ch n k = 9 := tk_eq (c := 9) (by decide)
  have hp : f_X3_readPart tk st code cs (nI k) (nI (TK ch n k)) 0 pl ke x = some (code, cs, nI k, -1, v, nI (SS ch n k)) := by
    unfold f_X3_readPart g_X3_readPart_87
    rw [isNum_q (by omega), decide_eq_false c1]
    simp only [Option.bind_some]
    rw [if_pos (by decide), isName_q (by omega), decide_eq_false c2]
    simp only [Option.bind_some]
    rw [if_pos (by decide), if_neg (fun w => c3 (e40.mp w)), ev]
    simp only [Option.bind_some]
    rw [blame_b hS hk]
    rfl
  have hs : f_X3_readSum fu tk st code cs (nI k) (nI (TK ch n k)) 0 pl ke x = some (code, cs, nI k, -1, v, nI (SS ch n k)) := by
    unfold f_X3_readSum
    rw [hp]
    simp only [Option.bind_some]
    cases fu with
    | zero => omega
    | succ f => rw [sum_le]
  refine ⟨v, ⟨hv, Option.some.inj (ev.symm.trans (fwp_v htl))⟩, ?_⟩
  unfold f_X3_readTest g_X3_readTest_14 g_X3_readTest_23 g_X3_readTest_65 g_X3_readTest_75
  rw [if_neg (fun w => c4 (e9.mp w)), if_pos rfl, hs]
  simp only [Option.bind_some]
  rw [if_neg (by decide : ¬ (-1 : Int32) = 60), if_neg (by decide : ¬ (-1 : Int32) = 61), if_pos trivial]
/-- may the token begin an expression, as the model asks -/
abbrev canB (ch : Nat → Nat) (n k : Nat) : Prop := MKd ch n k = 1 ∨ MKd ch n k = 2 ∨ TK ch n k = 40
theorem can_m (x : Int32) (row : Nat → Int32) (d mat me bp : Int32) : f_X11_readExpression fu (nI T) a (nI n) row d mat (nI (MKd ch n k)) (nI (MSd ch n k)) mb me 0 bp kem x = if canB ch n k then g_X11_readExpression_25 fu (nI T) a (nI n) row d mat (nI (MKd ch n k)) (nI (MSd ch n k)) mb me 0 bp kem x else g_X11_readExpression_30 fu (nI T) a (nI n) row d mat (nI (MKd ch n k)) (nI (MSd ch n k)) mb me 0 bp kem x 0 := by
  have hmk : MKd ch n k < 5 := by
    unfold MKd mk1
    split
    · split
      · omega
      · split
        · omega
        · split <;> omega
    · omega
  have f1 : nI (MKd ch n k) = 1 ↔ MKd ch n k = 1 := nI_eq (b := 1) (by omega) (by decide)
  have f2 : nI (MKd ch n k) = 2 ↔ MKd ch n k = 2 := nI_eq (b := 2) (by omega) (by decide)
  have hsg : f_X11_isSign (nI (MKd ch n k)) (nI (MSd ch n k)) 40 = _ := isSg 40 (Or.inl rfl)
  unfold f_X11_readExpression canB
  by_cases c1 : MKd ch n k = 1
  · rw [if_pos (f1.mpr c1), if_pos (Or.inl c1)]
  rw [if_neg (fun w => c1 (f1.mp w))]
  by_cases c2 : MKd ch n k = 2
  · rw [if_pos (f2.mpr c2), if_pos (Or.inr (Or.inl c2))]
  rw [if_neg (fun w => c2 (f2.mp w)), hsg]
  simp only [Option.bind_some]
  by_cases c3 : TK ch n k = 40
  · rw [decide_eq_true c3, if_neg (by decide), if_pos (Or.inr (Or.inr c3))]
  · rw [decide_eq_false c3, if_pos (by decide), if_neg (by
      rintro (w | w | w)
      · exact c1 w
      · exact c2 w
      · exact c3 w)]
theorem cant (hc : ¬ canB ch n k) : ¬ 1000 ≤ TK ch n k ∧ ¬ (100 ≤ TK ch n k ∧ TK ch n k ≤ 107) ∧ TK ch n k ≠ 40 ∧ TK ch n k ≠ 9 ∧ TK ch n k ≠ 2 ∧ ¬ (3 ≤ TK ch n k ∧ TK ch n k ≤ 9) := by
  unfold canB at hc
  have h1 : mk1 ch n (SS ch n k) ≠ 1 := fun w => hc (Or.inl w)
  have h2 : mk1 ch n (SS ch n k) ≠ 2 := fun w => hc (Or.inr (Or.inl w))
  have h3 : TK ch n k ≠ 40 := fun w => hc (Or.inr (Or.inr w))
  rcases tk_cases (ch := ch) (n := n) (SS ch n k) with q | q | q | q | q | q
  · have t : TK ch n k = 0 := q.2.1
    omega
  · exact absurd q.2.2 h1
  · exact absurd q.2.2.2.2.1 h2
  · exact absurd q.2.2.2 h2
  · have t : TK ch n k = ch (SS ch n k) := q.2.2.2.1
    have := sgn_mem q.2.2.1
    omega
  · have t : TK ch n k = 1 := q.2.2
    omega
/-- may the token begin an expression, as the class asks -/
abbrev CBg (t : Nat) : Prop := t = 40 ∨ t = 9 ∨ 1000 ≤ t ∨ (100 ≤ t ∧ t ≤ 107)
theorem can_b {t : Nat} (ht : t < 11000) : ∃ w, f_X3_canBeginExpression (nI t) = some w ∧ ((w = 0 ∧ ¬ CBg t) ∨ (¬ w = 0 ∧ CBg t)) := by
  have e40 : nI t = 40 ↔ t = 40 := nI_eq (b := 40) (by omega) (by decide)
  have e9 : nI t = 9 ↔ t = 9 := nI_eq (b := 9) (by omega) (by decide)
  unfold f_X3_canBeginExpression g_X3_canBeginExpression_38 g_X3_canBeginExpression_43 CBg
  by_cases c1 : t = 40
  · rw [if_pos (e40.mpr c1)]; exact ⟨_, rfl, Or.inr ⟨by decide, Or.inl c1⟩⟩
  rw [if_neg (fun w => c1 (e40.mp w))]
  by_cases c2 : t = 9
  · rw [if_pos (e9.mpr c2)]; exact ⟨_, rfl, Or.inr ⟨by decide, Or.inr (Or.inl c2)⟩⟩
  rw [if_neg (fun w => c2 (e9.mp w)), isNum_q (by omega)]
  simp only [Option.bind_some]
  by_cases c3 : 1000 ≤ t
  · rw [decide_eq_true c3, if_neg (by decide)]; exact ⟨_, rfl, Or.inr ⟨by decide, by omega⟩⟩
  rw [decide_eq_false c3, if_pos (by decide), isName_q (by omega)]
  simp only [Option.bind_some]
  by_cases c4 : 100 ≤ t ∧ t ≤ 107
  · rw [decide_eq_true c4, if_neg (by decide)]; exact ⟨_, rfl, Or.inr ⟨by decide, by omega⟩⟩
  · rw [decide_eq_false c4, if_pos (by decide)]; exact ⟨_, rfl, Or.inl ⟨by decide, by omega⟩⟩
/-- within six others: what the class calls a token at which the model says: too much -/
theorem kd_6 {ch : Nat → Nat} {n k : Nat} (hc : canB ch n k) (hb : ¬ CBg (TK ch n k)) : KD (fwv (TK ch n k)) 2 := by
  unfold canB at hc
  unfold CBg at hb
  have e : MKd ch n k = mk1 ch n (SS ch n k) := rfl
  rcases tk_cases (ch := ch) (n := n) (SS ch n k) with q | q | q | q | q | q
  · have t : TK ch n k = 0 := q.2.1
    have m : MKd ch n k = 0 := q.2.2
    omega
  · have hr := wi_rng (sl ch (SS ch n k) (en1 ch n (SS ch n k)))
    have t : TK ch n k = wi (sl ch (SS ch n k) (en1 ch n (SS ch n k))) := q.2.1
    rw [← t] at hr
    exact Or.inr ⟨fw3 (by omega), rfl⟩
  · obtain ⟨q1, q2, q3, q4, q5, q6⟩ := q
    have t : TK ch n k = 1000 + nvl ch (SS ch n k) (en1 ch n (SS ch n k) - SS ch n k) := q3
    omega
  · have t : TK ch n k = 2 := q.2.2.1
    exact Or.inl (fw2 t)
  · obtain ⟨q1, q2, q3, q4, q5, q6⟩ := q
    have m : MKd ch n k = 3 := q2
    omega
  · have m : MKd ch n k = 4 := q.2.1
    have t : TK ch n k = 1 := q.2.2
    omega
theorem no_30 {g : Int32} (hg : ¬ g = 0) : g_X11_readExpression_54 fu (nI T) a (nI n) row d mat mt ms mb me g bp kem x = some (row, d, mat, mt, ms, mb, me, g, bp) := by
  unfold g_X11_readExpression_54
  rw [if_neg hg]
theorem expr_q (h : BY b a ch) (hn : n ≤ 400) (hfu : 500 < fu) (hT : T ≤ 5) (hS : SCK ch n tk st K) (hA : A ≤ 5) (hp : KEX ch n K T r0 H (fun code cs at' tok f pl => f_X3_readTest fu tk st code cs at' tok f pl ke (nI A)) (fun row d mat mt ms mb me g bp => f_X11_readTest fu (nI T) a (nI n) row d mat mt ms mb me g bp kem (nI A))) : KEX ch n K T r0 (H + 1) (fun code cs at' tok f pl => f_X3_readExpression fu tk st code cs at' tok f pl ke (nI A)) (fun row d mat mt ms mb me g bp => f_X11_readExpression fu (nI T) a (nI n) row d mat mt ms mb me g bp kem (nI A)) := by
  intro k C code cs at' tok pl row d mat mt ms mb me bp hk hb hm hC
  have hK := hS.1
  have hb0 := hb
  have hm0 := hm
  obtain ⟨code1, cs1, at1, tok1, f1, pl1, row1, d1, mat1, mt1, ms1', mb1, me1, g1, bp1, eb, em, hres⟩ := hp k C code cs at' tok pl row d mat mt ms mb me bp hk hb hm hC
  obtain ⟨rfl, rfl, rfl, hAL, hl⟩ := hb
  obtain ⟨rfl, rfl, rfl, rfl, rfl, rfl, hR, hF⟩ := hm
  show RES ch n K T r0 (H + 1) k C (f_X3_readExpression fu tk st code (nI C.length) (nI k) (nI (TK ch n k)) 0 pl ke (nI A)) (f_X11_readExpression fu (nI T) a (nI n) row (nI (trl C).length) (nI (psn ch n (k + 1))) (nI (MKd ch n k)) (nI (MSd ch n k)) (nI (SS ch n k)) (nI (psn ch n (k + 1))) 0 bp kem (nI A))
  have h5 : nI A ≤ (5 : Int32) := nI_le (b := 5) hA (by decide)
  have h6 : ¬ nI A = (6 : Int32) := fun w => by have := (nI_eq (b := 6) (by omega) (by decide)).mp w; omega
  rw [can_m]
  unfold f_X3_readExpression
  rw [if_pos h5]
  by_cases c : canB ch n k
  · rw [if_pos c]
    unfold g_X11_readExpression_25 g_X11_readExpression_30 g_X11_readExpression_54
    rw [if_neg i10, if_neg h6, if_pos rfl]
    simp only [] at eb em
    rw [eb, em]
    simp only [Option.bind_some]
    rcases hres with ⟨rfl, rfl, k', X, r1, r2, r3, r4, r5, r6, r7⟩ | ⟨r1, r2⟩
    · exact exp_l h hn hfu hT hS hp fu k' k 0 C X code1 cs1 at1 tok1 pl1 row1 d1 mat1 mt1 ms1' mb1 me1 bp1 r1 r2 (by omega) (by omega) (wfl_mono r3 (by omega)) r4 r5 hl hC r6 r7
    · obtain ⟨rfl, s2, s3, rfl, c0, s4, rfl, kd⟩ := r1
      cases fu with
      | zero => omega
      | succ f =>
        rw [exp_le, exp_lm f s3]
        exact res_err rfl rfl ⟨rfl, s2, s3, rfl, c0, s4, rfl, kd⟩ r2
  · obtain ⟨d1, d2, d3, d4, d5, d6⟩ := cant c
    obtain ⟨v, ⟨hv, hv2⟩, ev⟩ := nopart (code := code) (cs := nI C.length) (pl := pl) (ke := ke) (x := nI A) hfu hS hk d1 d2 d3 d4
    rw [if_neg c, ev]
    unfold g_X11_readExpression_30 f_X11_wrong
    rw [if_pos rfl, if_pos rfl]
    simp only [Option.bind_some]
    rw [no_30 (by decide)]
    cases fu with
    | zero => omega
    | succ f =>
      rw [exp_le]
      exact res_err rfl rfl ⟨rfl, hv, by decide, rfl, _, by omega, rfl, Or.inl (hv2.trans (fw1 d5 d6))⟩ hF
theorem expr_6 (hS : SCK ch n tk st K) : KEX ch n K T r0 H (fun code cs at' tok f pl => f_X3_readExpression fu tk st code cs at' tok f pl ke (nI 6)) (fun row d mat mt ms mb me g bp => f_X11_readExpression fu (nI T) a (nI n) row d mat mt ms mb me g bp kem (nI 6)) := by
  intro k C code cs at' tok pl row d mat mt ms mb me bp hk hb hm hC
  have hK := hS.1
  obtain ⟨rfl, rfl, rfl, hAL, hl⟩ := hb
  obtain ⟨rfl, rfl, rfl, rfl, rfl, rfl, hR, hF⟩ := hm
  have htl : TK ch n k < 11000 := tk_lt _
  show RES ch n K T r0 H k C (f_X3_readExpression fu tk st code (nI C.length) (nI k) (nI (TK ch n k)) 0 pl ke (nI 6)) (f_X11_readExpression fu (nI T) a (nI n) row (nI (trl C).length) (nI (psn ch n (k + 1))) (nI (MKd ch n k)) (nI (MSd ch n k)) (nI (SS ch n k)) (nI (psn ch n (k + 1))) 0 bp kem (nI 6))
  have hB : ∃ v, (¬ v = 0 ∧ (canB ch n k → KD v 2) ∧ (¬ canB ch n k → KD v 1)) ∧ f_X3_readExpression fu tk st code (nI C.length) (nI k) (nI (TK ch n k)) 0 pl ke (nI 6) = some (code, nI C.length, nI k, -1, v, nI (SS ch n k)) := by
    have h21 : ∀ v : Int32, g_X3_readExpression_21 st code (nI C.length) (nI k) (nI (TK ch n k)) 0 pl v = some (code, nI C.length, nI k, -1, v, nI (SS ch n k)) := fun v => by
      unfold g_X3_readExpression_21
      rw [blame_b hS hk]
      rfl
    obtain ⟨w, ew, hw⟩ := can_b htl
    unfold f_X3_readExpression
    rw [if_neg (by decide), ew]
    simp only [Option.bind_some]
    by_cases c : w = 0
    · obtain ⟨v, ev, hv⟩ := fwp_q (nI (TK ch n k))
      rw [if_pos c, ev]
      simp only [Option.bind_some]
      rw [h21]
      have hvv : v = fwv (TK ch n k) := Option.some.inj (ev.symm.trans (fwp_v htl))
      have hnb : ¬ CBg (TK ch n k) := by
        rcases hw with z | z
        · exact z.2
        · exact absurd c z.1
      refine ⟨v, ⟨hv, fun z => by rw [hvv]; exact kd_6 z hnb, fun z => ?_⟩, rfl⟩
      obtain ⟨d1, d2, d3, d4, d5, d6⟩ := cant z
      exact Or.inl (hvv.trans (fw1 d5 d6))
    · rw [if_neg c, h21]
      have hyb : CBg (TK ch n k) := by
        rcases hw with z | z
        · exact absurd z.1 c
        · exact z.2
      refine ⟨2, ⟨by decide, fun _ => Or.inl rfl, fun z => ?_⟩, rfl⟩
      obtain ⟨d1, d2, d3, d4, d5, d6⟩ := cant z
      unfold CBg at hyb
      omega
  obtain ⟨v, ⟨hv, kA, kB⟩, ev⟩ := hB
  rw [ev, can_m]
  by_cases c : canB ch n k
  · rw [if_pos c]
    unfold g_X11_readExpression_25 g_X11_readExpression_30 f_X11_wrong
    rw [if_neg i10, if_pos (by decide), if_pos rfl]
    simp only [Option.bind_some]
    rw [no_30 (by decide)]
    exact res_err rfl rfl ⟨rfl, hv, by decide, rfl, _, by omega, rfl, kA c⟩ hF
  · rw [if_neg c]
    unfold g_X11_readExpression_30 f_X11_wrong
    rw [if_pos rfl, if_pos rfl]
    simp only [Option.bind_some]
    rw [no_30 (by decide)]
    exact res_err rfl rfl ⟨rfl, hv, by decide, rfl, _, by omega, rfl, kB c⟩ hF
theorem ex_all (h : BY b a ch) (hn : n ≤ 400) (hfu : 500 < fu) (hT : T ≤ 5) (hS : SCK ch n tk st K) : ∀ j, j ≤ 6 → KEX ch n K T r0 (3 * j + 1) (e_X3_readExpression fu tk st (2 + j) (nI (6 - j))) (e_X11_readExpression fu (nI T) a (nI n) (2 + j) (nI (6 - j))) := by
  intro j
  induction j with
  | zero => intro _; exact expr_6 hS
  | succ j ih =>
    intro hj
    have hi := ih (by omega)
    have e1 : nI (6 - (j + 1)) + 1 = nI (6 - j) := by rw [nI_1]; congr 1; omega
    rw [← e1] at hi
    have h1 := part_q (x := nI (6 - (j + 1))) (ke := e_X3_readExpression fu tk st (2 + j)) (kem := e_X11_readExpression fu (nI T) a (nI n) (2 + j)) h hn hfu hT hS (by omega) hi
    have h2 := sum_q h hn hfu hT hS h1
    have h3 := test_q h hn hfu hT hS h2
    have h4 := expr_q (A := 6 - (j + 1)) h hn hfu hT hS (by omega) h3
    exact h4
end
