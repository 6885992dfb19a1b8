/-! Text: the parsers side by side: sums, tests, expressions. -/
section
variable {b a : Nat → Int32} {ch : Nat → Nat} {n K T k H : Nat} {tk st r0 : Nat → Int32} {fu : Nat} {C X : List Int32} {code row : Nat → Int32} {cs at' tok pl d mat mt ms mb me bp x : Int32}
variable {ke : Int32 → (Nat → Int32) → Int32 → Int32 → Int32 → Int32 → Int32 → Option ((Nat → Int32) × Int32 × Int32 × Int32 × Int32 × Int32)} {kem : Int32 → (Nat → Int32) → Int32 → Int32 → Int32 → Int32 → Int32 → Int32 → Int32 → Int32 → Option ((Nat → Int32) × Int32 × Int32 × Int32 × Int32 × Int32 × Int32 × Int32 × Int32)}
theorem emit_2 {op s0 : Int32} (hT : T ≤ 5) (hA : AL code 0 C) (hc : C.length < 400) (hR : AL row (700 * T) (trl C)) (hF : RFw T r0 row) (hd : (trl C).length < 700) (ht : tr1 op = [s0]) : ∃ code' row', f_X3_emit code (nI C.length) op = some (code', nI (C ++ [op]).length) ∧ AL code' 0 (C ++ [op]) ∧ f_X11_emit (nI T) 0 row (nI (trl C).length) s0 = some (row', nI (trl (C ++ [op])).length) ∧ AL row' (700 * T) (trl (C ++ [op])) ∧ RFw T r0 row' := by
  obtain ⟨code', e1, e2⟩ := emit_b hA hc op
  obtain ⟨row', f1, f2, f3⟩ := emit_m hT hR hF hd s0
  have e : trl (C ++ [op]) = trl C ++ [s0] := by rw [trl_app, trl_one, ht]
  rw [e]
  exact ⟨code', row', e1, e2, f1, f2, f3⟩
theorem len1 (l : List Int32) (y : Int32) : (l ++ [y]).length = l.length + 1 := by rw [List.length_append]; rfl
theorem app3 (C X Y : List Int32) (y : Int32) : C ++ X ++ Y ++ [y] = C ++ (X ++ Y ++ [y]) := by simp [List.append_assoc]
theorem trl3 {X Y : List Int32} {op s0 : Int32} (ht : tr1 op = [s0]) : (trl (X ++ Y ++ [op])).length = (trl X).length + (trl Y).length + 1 := by
  rw [trl_app, trl_app, trl_one, ht, List.length_append, List.length_append]
  rfl
theorem len3 (X Y : List Int32) (y : Int32) : (X ++ Y ++ [y]).length = X.length + Y.length + 1 := by rw [len1, List.length_append]
theorem tk_eq {c : Nat} (hc : c < 2 ^ 31) : nI (TK ch n k) = nI c ↔ TK ch n k = c := nI_eq (by have : TK ch n k < 11000 := tk_lt _; omega) hc
theorem sum_le (kf : Nat) {t f : Int32} : f_X3_readSum_7 tk st ke (kf + 1) (x, t, code, cs, at', -1, f, pl) = some (code, cs, at', -1, f, pl) := by
  show g_X3_readSum_7 tk st code cs at' (-1) f pl (fun p q r s u v w y => f_X3_readSum_7 tk st ke kf (p, q, r, s, u, v, w, y)) ke x t = _
  unfold g_X3_readSum_7 g_X3_readSum_57
  rw [if_neg (by decide : ¬ (-1 : Int32) = 43), if_neg (by decide : ¬ (-1 : Int32) = 45), ite_self]
theorem sum_lm (kf : Nat) {g : Int32} (hg : ¬ g = 0) : f_X11_readSum_5 fu (nI T) a (nI n) kem (kf + 1) (x, row, d, mat, mt, ms, mb, me, g, bp) = some (row, d, mat, mt, ms, mb, me, g, bp) := by
  show g_X11_readSum_5 fu (nI T) a (nI n) row d mat mt ms mb me g bp (fun p q r s u v w y z t => f_X11_readSum_5 fu (nI T) a (nI n) kem kf (p, q, r, s, u, v, w, y, z, t)) kem x = _
  unfold g_X11_readSum_5 g_X11_readSum_62
  rw [if_neg hg]
theorem sum_l (h : BY b a ch) (hn : n ≤ 400) (hfu : 500 < fu) (hT : T ≤ 5) (hS : SCK ch n tk st K) (hp : KEX ch n K T r0 H (fun code cs at' tok f pl => f_X3_readPart tk st code cs at' tok f pl ke x) (fun row d mat mt ms mb me g bp => f_X11_readPart fu (nI T) a (nI n) row d mat mt ms mb me g bp kem x)) : ∀ kf k k0 t C X code cs at' tok pl row d mat mt ms mb me bp, k0 < k → k ≤ K → K - k < kf → t ≤ k → WFl (H + 1) X → X.length + k0 ≤ k → 2 * (trl X).length + 3 * psn ch n k0 ≤ 3 * psn ch n k + 1 → C.length ≤ k0 → 2 * (trl C).length ≤ 3 * psn ch n k0 → OKb ch n k (C ++ X) code cs at' tok → OKm ch n T r0 k (C ++ X) row d mat mt ms mb me → RES ch n K T r0 (H + 1) k0 C (f_X3_readSum_7 tk st ke kf (x, nI t, code, cs, at', tok, 0, pl)) (f_X11_readSum_5 fu (nI T) a (nI n) kem kf (x, row, d, mat, mt, ms, mb, me, 0, bp)) := by
  have hK := hS.1
  intro kf
  induction kf with
  | zero => intro k k0 t C X code cs at' tok pl row d mat mt ms mb me bp _ _ h0; omega
  | succ kf ih =>
    intro k k0 t C X code cs at' tok pl row d mat mt ms mb me bp hk0 hk hkf ht hw hX hY hC hD hb hm
    have hb0 := hb
    have hm0 := hm
    obtain ⟨rfl, rfl, rfl, hA, hl⟩ := hb
    obtain ⟨rfl, rfl, rfl, rfl, rfl, rfl, hR, hF⟩ := hm
    have hps : psn ch n k ≤ n := psn_le k
    show RES ch n K T r0 (H + 1) k0 C (g_X3_readSum_7 tk st code (nI (C ++ X).length) (nI k) (nI (TK ch n k)) 0 pl (fun p q r s u v w y => f_X3_readSum_7 tk st ke kf (p, q, r, s, u, v, w, y)) ke x (nI t)) (g_X11_readSum_5 fu (nI T) a (nI n) row (nI (trl (C ++ X)).length) (nI (psn ch n (k + 1))) (nI (MKd ch n k)) (nI (MSd ch n k)) (nI (SS ch n k)) (nI (psn ch n (k + 1))) 0 bp (fun p q r s u v w y z t => f_X11_readSum_5 fu (nI T) a (nI n) kem kf (p, q, r, s, u, v, w, y, z, t)) kem x)
    have eA : nI (TK ch n k) = 43 ↔ TK ch n k = 43 := tk_eq (c := 43) (by decide)
    have eB : nI (TK ch n k) = 45 ↔ TK ch n k = 45 := tk_eq (c := 45) (by decide)
    have sA : f_X11_isSign (nI (MKd ch n k)) (nI (MSd ch n k)) 43 = some (bI (decide (TK ch n k = 43))) := isSg 43 (by decide)
    have sB : f_X11_isSign (nI (MKd ch n k)) (nI (MSd ch n k)) 45 = some (bI (decide (TK ch n k = 45))) := isSg 45 (by decide)
    by_cases c0 : TK ch n k = 43 ∨ TK ch n k = 45
    · have hk2 := tk_lt_K hS hk (by omega)
      have hps2 := ps_lt hS hk2
      have q4 : ¬ (400 : Int32) ≤ nI t := nI_ge (b := 400) (by omega) (by decide)
      obtain ⟨s0, hs0, e1⟩ : ∃ s0, tr1 (nI (TK ch n k)) = [s0] ∧ g_X11_readSum_5 fu (nI T) a (nI n) row (nI (trl (C ++ X)).length) (nI (psn ch n (k + 1))) (nI (MKd ch n k)) (nI (MSd ch n k)) (nI (SS ch n k)) (nI (psn ch n (k + 1))) 0 bp (fun p q r s u v w y z t => f_X11_readSum_5 fu (nI T) a (nI n) kem kf (p, q, r, s, u, v, w, y, z, t)) kem x = g_X11_readSum_44 fu (nI T) a (nI n) row (nI (trl (C ++ X)).length) (nI (psn ch n (k + 1))) (nI (MKd ch n k)) (nI (MSd ch n k)) (nI (SS ch n k)) (nI (psn ch n (k + 1))) 0 bp (fun p q r s u v w y z t => f_X11_readSum_5 fu (nI T) a (nI n) kem kf (p, q, r, s, u, v, w, y, z, t)) kem x s0 := by
        rcases c0 with c | c
        · refine ⟨1, by rw [c]; decide +kernel, ?_⟩
          unfold g_X11_readSum_5 g_X11_readSum_30
          rw [if_pos rfl, sA, decide_eq_true c]
          simp only [Option.bind_some]
          rw [if_neg (by decide)]
          rw [if_neg (by decide)]
        · refine ⟨2, by rw [c]; decide +kernel, ?_⟩
          unfold g_X11_readSum_5 g_X11_readSum_30
          rw [if_pos rfl, sA, sB, decide_eq_true c, decide_eq_false (by omega)]
          simp only [Option.bind_some]
          rw [if_pos (by decide), if_neg (by decide), if_pos (by decide)]
      have e2 : g_X3_readSum_7 tk st code (nI (C ++ X).length) (nI k) (nI (TK ch n k)) 0 pl (fun p q r s u v w y => f_X3_readSum_7 tk st ke kf (p, q, r, s, u, v, w, y)) ke x (nI t) = g_X3_readSum_32 tk st code (nI (C ++ X).length) (nI k) (nI (TK ch n k)) 0 pl (fun p q r s u v w y => f_X3_readSum_7 tk st ke kf (p, q, r, s, u, v, w, y)) ke x (nI t) := by
        unfold g_X3_readSum_7
        rcases c0 with c | c
        · rw [if_neg q4, if_pos (eA.mpr c)]
        · rw [if_neg q4, if_neg (fun w => by have := eA.mp w; omega), if_pos (eB.mpr c)]
      rw [e1, e2]
      have hin := hp (k + 1) (C ++ X) code (nI (C ++ X).length) (nI (k + 1)) (nI (TK ch n (k + 1))) pl row (nI (trl (C ++ X)).length) (nI (psn ch n (k + 1 + 1))) (nI (MKd ch n (k + 1))) (nI (MSd ch n (k + 1))) (nI (SS ch n (k + 1))) (nI (psn ch n (k + 1 + 1))) bp hk2 ⟨rfl, rfl, rfl, hA, by omega⟩ ⟨rfl, rfl, rfl, rfl, rfl, rfl, hR, hF⟩ (by rw [trl_app, List.length_append]; omega)
      obtain ⟨code1, cs1, at1, tok1, f1, pl1, row1, d1, mat1, mt1, ms1', mb1, me1, g1, bp1, eb, em, hres⟩ := hin
      unfold g_X3_readSum_32 g_X11_readSum_44
      rw [adv_b hS hk2, stp h hn hfu]
      simp only [Option.bind_some]
      simp only [] at eb em
      rw [eb, em]
      simp only [Option.bind_some]
      rcases hres with ⟨rfl, rfl, k', Y, r1, r2, r3, r4, r5, r6, r7⟩ | ⟨r1, r2⟩
      · obtain ⟨rfl, rfl, rfl, s4, s5⟩ := r6
        obtain ⟨rfl, rfl, rfl, rfl, rfl, rfl, s6, s7⟩ := r7
        have hps3 : psn ch n k' ≤ n := psn_le k'
        have hl1 : (C ++ X ++ Y).length = C.length + X.length + Y.length := by rw [List.length_append, List.length_append]
        have hl2 : (trl (C ++ X ++ Y)).length = (trl C).length + (trl X).length + (trl Y).length := by rw [trl_app, trl_app, List.length_append, List.length_append]
        obtain ⟨code2, row2, u1, u2, u3, u4, u5⟩ := emit_2 (op := nI (TK ch n k)) (s0 := s0) hT s4 (by omega) s6 s7 (by omega) hs0
        rw [u1, u3, nI_1]
        simp only [Option.bind_some]
        have hbin : isBin (nI (TK ch n k)) := by
          rcases c0 with c | c <;> rw [c]
          · exact Or.inl rfl
          · exact Or.inr (Or.inl rfl)
        obtain ⟨h1, w1, w2⟩ := hw
        obtain ⟨h2, w3, w4⟩ := r3
        have hl3 := len3 X Y (nI (TK ch n k))
        have hl4 := trl3 (X := X) (Y := Y) hs0
        rw [app3] at u2 u3 u4
        refine ih k' k0 (t + 1) C (X ++ Y ++ [nI (TK ch n k)]) code2 _ _ _ pl1 row2 _ _ _ _ _ _ bp1 (by omega) r2 (by omega) (by omega) ⟨_, by omega, wf_bin w2 w4 hbin⟩ (by omega) (by omega) hC hD ⟨rfl, rfl, by rw [app3], u2, by rw [List.length_append]; omega⟩ ⟨rfl, rfl, rfl, rfl, rfl, by rw [app3], u4, u5⟩
      · obtain ⟨rfl, s2, s3, rfl, c0', s4, rfl, kd⟩ := r1
        obtain ⟨code2, c2, v1, v2⟩ := emit_e (code := code1) s4 (nI (TK ch n k))
        rw [v1, emit_me s3]
        simp only [Option.bind_some]
        cases kf with
        | zero => omega
        | succ kf =>
          rw [sum_le, sum_lm kf s3]
          exact res_err rfl rfl ⟨rfl, s2, s3, rfl, c2, v2, rfl, kd⟩ r2
    · have e1 : g_X11_readSum_5 fu (nI T) a (nI n) row (nI (trl (C ++ X)).length) (nI (psn ch n (k + 1))) (nI (MKd ch n k)) (nI (MSd ch n k)) (nI (SS ch n k)) (nI (psn ch n (k + 1))) 0 bp (fun p q r s u v w y z t => f_X11_readSum_5 fu (nI T) a (nI n) kem kf (p, q, r, s, u, v, w, y, z, t)) kem x = some (row, nI (trl (C ++ X)).length, nI (psn ch n (k + 1)), nI (MKd ch n k), nI (MSd ch n k), nI (SS ch n k), nI (psn ch n (k + 1)), 0, bp) := by
        unfold g_X11_readSum_5 g_X11_readSum_62
        rw [if_pos rfl, sA, sB, decide_eq_false (fun w => c0 (Or.inl w)), decide_eq_false (fun w => c0 (Or.inr w))]
        rfl
      have e2 : g_X3_readSum_7 tk st code (nI (C ++ X).length) (nI k) (nI (TK ch n k)) 0 pl (fun p q r s u v w y => f_X3_readSum_7 tk st ke kf (p, q, r, s, u, v, w, y)) ke x (nI t) = some (code, nI (C ++ X).length, nI k, nI (TK ch n k), 0, pl) := by
        unfold g_X3_readSum_7 g_X3_readSum_57
        rw [if_neg (fun w => c0 (Or.inl (eA.mp w))), if_neg (fun w => c0 (Or.inr (eB.mp w))), ite_self]
      rw [e1, e2]
      exact ⟨_, _, _, _, _, _, _, _, _, _, _, _, _, _, _, rfl, rfl, Or.inl ⟨rfl, rfl, k, X, hk0, hk, hw, hX, hY, hb0, hm0⟩⟩
theorem sum_q (h : BY b a ch) (hn : n ≤ 400) (hfu : 500 < fu) (hT : T ≤ 5) (hS : SCK ch n tk st K) (hp : KEX ch n K T r0 H (fun code cs at' tok f pl => f_X3_readPart tk st code cs at' tok f pl ke x) (fun row d mat mt ms mb me g bp => f_X11_readPart fu (nI T) a (nI n) row d mat mt ms mb me g bp kem x)) : KEX ch n K T r0 (H + 1) (fun code cs at' tok f pl => f_X3_readSum fu tk st code cs at' tok f pl ke x) (fun row d mat mt ms mb me g bp => f_X11_readSum fu (nI T) a (nI n) row d mat mt ms mb me g bp kem x) := by
  intro k C code cs at' tok pl row d mat mt ms mb me bp hk hb hm hC
  have hK := hS.1
  obtain ⟨code1, cs1, at1, tok1, f1, pl1, row1, d1, mat1, mt1, ms1', mb1, me1, g1, bp1, eb, em, hres⟩ := hp k C code cs at' tok pl row d mat mt ms mb me bp hk hb hm hC
  show RES ch n K T r0 (H + 1) k C (f_X3_readSum fu tk st code cs at' tok 0 pl ke x) (f_X11_readSum fu (nI T) a (nI n) row d mat mt ms mb me 0 bp kem x)
  unfold f_X3_readSum f_X11_readSum
  simp only [] at eb em
  rw [eb, em]
  simp only [Option.bind_some]
  rcases hres with ⟨rfl, rfl, k', X, r1, r2, r3, r4, r5, r6, r7⟩ | ⟨r1, r2⟩
  · exact sum_l h hn hfu hT hS hp fu k' k 0 C X code1 cs1 at1 tok1 pl1 row1 d1 mat1 mt1 ms1' mb1 me1 bp1 r1 r2 (by omega) (by omega) (wfl_mono r3 (by omega)) r4 r5 hb.2.2.2.2 hC r6 r7
  · obtain ⟨rfl, s2, s3, rfl, c0, s4, rfl, kd⟩ := r1
    cases fu with
    | zero => omega
    | succ f =>
      rw [sum_le, sum_lm f s3]
      exact res_err rfl rfl ⟨rfl, s2, s3, rfl, c0, s4, rfl, kd⟩ r2
theorem fin_t (nt : Bool) {k0 : Nat} (hn : n ≤ 400) (hT : T ≤ 5) (hS : SCK ch n tk st K) (hk0 : k0 < k) (hk : k ≤ K) (hw : WFl H X) (hX : X.length + (if nt = true then 1 else 0) + k0 ≤ k) (hY : 2 * (trl X).length + (if nt = true then 2 else 0) + 3 * psn ch n k0 ≤ 3 * psn ch n k + 1) (hC : C.length ≤ k0) (hD : 2 * (trl C).length ≤ 3 * psn ch n k0) (hb : OKb ch n k (C ++ X) code cs at' tok) (hm : OKm ch n T r0 k (C ++ X) row d mat mt ms mb me) : RES ch n K T r0 H k0 C (g_X3_readTest_65 code cs at' tok 0 pl (bI nt)) (g_X11_readTest_75 (nI T) row d mat mt ms mb me 0 bp (bI nt)) := by
  have hK := hS.1
  have hps : psn ch n k ≤ n := psn_le k
  unfold g_X3_readTest_65 g_X11_readTest_75 g_X3_readTest_75 g_X11_readTest_85
  cases nt
  · rw [if_pos (by decide), if_pos (by decide)]
    exact ⟨_, _, _, _, _, _, _, _, _, _, _, _, _, _, _, rfl, rfl, Or.inl ⟨rfl, rfl, k, X, hk0, hk, hw, by simpa using hX, by simpa using hY, hb, hm⟩⟩
  · rw [if_neg (by decide), if_neg (by decide)]
    obtain ⟨rfl, rfl, rfl, hA, hl⟩ := hb
    obtain ⟨rfl, rfl, rfl, rfl, rfl, rfl, hR, hF⟩ := hm
    simp only [if_true] at hX hY
    have hl1 : (C ++ X).length = C.length + X.length := List.length_append
    have hl2 : (trl (C ++ X)).length = (trl C).length + (trl X).length := by rw [trl_app, List.length_append]
    have hnl : psn ch n k ≤ 400 := by
      have := hps
      have := hS.1
      omega
    obtain ⟨code2, row2, u1, u2, u3, u4, u5⟩ := emit_2 (op := 9) (s0 := 7) hT hA (by omega) hR hF (by omega) (by decide +kernel)
    rw [u1, u3]
    simp only [Option.bind_some]
    rw [List.append_assoc] at u2 u4
    obtain ⟨h1, w1, w2⟩ := hw
    have h7 : (trl (X ++ [9])).length = (trl X).length + 1 := by rw [trl_app, trl_one, List.length_append]; rfl
    refine ⟨_, _, _, _, _, _, _, _, _, _, _, _, _, _, _, rfl, rfl, Or.inl ⟨rfl, rfl, k, X ++ [9], hk0, hk, ⟨h1, w1, wf_not w2⟩, by rw [len1]; omega, by omega, ⟨rfl, rfl, by rw [List.append_assoc], u2, by rw [List.length_append, len1]; omega⟩, rfl, rfl, rfl, rfl, rfl, by rw [List.append_assoc], u4, u5⟩⟩
theorem fin_te (nt : Bool) {k0 : Nat} {f g : Int32} {c : Nat} (hf : ¬ f = 0) (hg : ¬ g = 0) (kd : KD f g) (hc : c ≤ 400) (hr : RFw T r0 row) : RES ch n K T r0 H k0 C (g_X3_readTest_65 code (nI c) at' (-1) f pl (bI nt)) (g_X11_readTest_75 (nI T) row d mat mt ms mb me g pl (bI nt)) := by
  unfold g_X3_readTest_65 g_X11_readTest_75 g_X3_readTest_75 g_X11_readTest_85
  cases nt
  · rw [if_pos (by decide), if_pos (by decide)]
    exact res_err rfl rfl ⟨rfl, hf, hg, rfl, c, hc, rfl, kd⟩ hr
  · rw [if_neg (by decide), if_neg (by decide)]
    obtain ⟨code2, c2, v1, v2⟩ := emit_e (code := code) hc 9
    rw [v1, emit_me hg]
    exact res_err rfl rfl ⟨rfl, hf, hg, rfl, c2, v2, rfl, kd⟩ hr
/-- a test, its 'not' read already -/
theorem test_c (nt : Bool) {k0 : Nat} (h : BY b a ch) (hn : n ≤ 400) (hfu : 500 < fu) (hT : T ≤ 5) (hS : SCK ch n tk st K) (hs : KEX ch n K T r0 H (fun code cs at' tok f pl => f_X3_readSum fu tk st code cs at' tok f pl ke x) (fun row d mat mt ms mb me g bp => f_X11_readSum fu (nI T) a (nI n) row d mat mt ms mb me g bp kem x)) (hk0 : k0 + (if nt = true then 1 else 0) ≤ k) (hk : k ≤ K) (hq : psn ch n k0 + (if nt = true then 1 else 0) ≤ psn ch n k) (hC : C.length ≤ k0) (hD : 2 * (trl C).length ≤ 3 * psn ch n k0) (hb : OKb ch n k C code cs at' tok) (hm : OKm ch n T r0 k C row d mat mt ms mb me) : RES ch n K T r0 (H + 1) k0 C (g_X3_readTest_23 fu tk st code cs at' tok 0 pl ke x (bI nt)) (g_X11_readTest_16 fu (nI T) a (nI n) row d mat mt ms mb me 0 bp kem x (bI nt)) := by
  have hK := hS.1
  obtain ⟨code1, cs1, at1, tok1, f1, pl1, row1, d1, mat1, mt1, ms1', mb1, me1, g1, bp1, eb, em, hres⟩ := hs k C code cs at' tok pl row d mat mt ms mb me bp hk hb hm (by cases nt <;> simp at hq <;> omega)
  unfold g_X3_readTest_23 g_X11_readTest_16
  simp only [] at eb em
  rw [eb, em]
  simp only [Option.bind_some]
  have hnt : (if nt = true then 1 else 0) ≤ 1 := by cases nt <;> decide
  have hz : (if nt = true then 2 else 0) = 2 * (if nt = true then 1 else 0) := by cases nt <;> rfl
  rcases hres with ⟨rfl, rfl, k', X, r1, r2, r3, r4, r5, r6, r7⟩ | ⟨r1, r2⟩
  · have r60 := r6
    have r70 := r7
    obtain ⟨rfl, rfl, rfl, s4, s5⟩ := r6
    obtain ⟨rfl, rfl, rfl, rfl, rfl, rfl, s6, s7⟩ := r7
    have eA : nI (TK ch n k') = 60 ↔ TK ch n k' = 60 := tk_eq (c := 60) (by decide)
    have eB : nI (TK ch n k') = 61 ↔ TK ch n k' = 61 := tk_eq (c := 61) (by decide)
    have sA : f_X11_isSign (nI (MKd ch n k')) (nI (MSd ch n k')) 60 = some (bI (decide (TK ch n k' = 60))) := isSg 60 (by decide)
    have sB : f_X11_isSign (nI (MKd ch n k')) (nI (MSd ch n k')) 61 = some (bI (decide (TK ch n k' = 61))) := isSg 61 (by decide)
    have hps1 : psn ch n k' ≤ n := psn_le k'
    by_cases c0 : TK ch n k' = 60 ∨ TK ch n k' = 61
    · have hk2 := tk_lt_K hS r2 (by omega)
      have hps2 := ps_lt hS hk2
      obtain ⟨s0, hs0, e1⟩ : ∃ s0, tr1 (nI (TK ch n k')) = [s0] ∧ (if (0 : Int32) = 0 then (f_X11_isSign (nI (MKd ch n k')) (nI (MSd ch n k')) 60).bind fun v7 => if v7 = 0 then (f_X11_isSign (nI (MKd ch n k')) (nI (MSd ch n k')) 61).bind fun v14 => if v14 = 0 then g_X11_readTest_75 (nI T) row1 (nI (trl (C ++ X)).length) (nI (psn ch n (k' + 1))) (nI (MKd ch n k')) (nI (MSd ch n k')) (nI (SS ch n k')) (nI (psn ch n (k' + 1))) 0 bp1 (bI nt) else g_X11_readTest_46 fu (nI T) a (nI n) row1 (nI (trl (C ++ X)).length) (nI (psn ch n (k' + 1))) (nI (MKd ch n k')) (nI (MSd ch n k')) (nI (SS ch n k')) (nI (psn ch n (k' + 1))) 0 bp1 kem x (bI nt) else g_X11_readTest_46 fu (nI T) a (nI n) row1 (nI (trl (C ++ X)).length) (nI (psn ch n (k' + 1))) (nI (MKd ch n k')) (nI (MSd ch n k')) (nI (SS ch n k')) (nI (psn ch n (k' + 1))) 0 bp1 kem x (bI nt) else g_X11_readTest_75 (nI T) row1 (nI (trl (C ++ X)).length) (nI (psn ch n (k' + 1))) (nI (MKd ch n k')) (nI (MSd ch n k')) (nI (SS ch n k')) (nI (psn ch n (k' + 1))) 0 bp1 (bI nt)) = g_X11_readTest_60 fu (nI T) a (nI n) row1 (nI (trl (C ++ X)).length) (nI (psn ch n (k' + 1))) (nI (MKd ch n k')) (nI (MSd ch n k')) (nI (SS ch n k')) (nI (psn ch n (k' + 1))) 0 bp1 kem x (bI nt) s0 := by
        rcases c0 with c | c
        · refine ⟨3, by rw [c]; decide +kernel, ?_⟩
          unfold g_X11_readTest_46
          rw [if_pos rfl, sA, decide_eq_true c]
          simp only [Option.bind_some]
          rw [if_neg (by decide)]
          rw [if_neg (by decide)]
        · refine ⟨4, by rw [c]; decide +kernel, ?_⟩
          unfold g_X11_readTest_46
          rw [if_pos rfl, sA, sB, decide_eq_true c, decide_eq_false (by omega)]
          simp only [Option.bind_some]
          rw [if_pos (by decide), if_neg (by decide), if_pos (by decide)]
      have e2 : (if nI (TK ch n k') = 60 then g_X3_readTest_46 fu tk st code1 (nI (C ++ X).length) (nI k') (nI (TK ch n k')) 0 pl1 ke x (bI nt) else if nI (TK ch n k') = 61 then g_X3_readTest_46 fu tk st code1 (nI (C ++ X).length) (nI k') (nI (TK ch n k')) 0 pl1 ke x (bI nt) else g_X3_readTest_65 code1 (nI (C ++ X).length) (nI k') (nI (TK ch n k')) 0 pl1 (bI nt)) = g_X3_readTest_46 fu tk st code1 (nI (C ++ X).length) (nI k') (nI (TK ch n k')) 0 pl1 ke x (bI nt) := by
        rcases c0 with c | c
        · rw [if_pos (eA.mpr c)]
        · rw [if_neg (fun w => by have := eA.mp w; omega), if_pos (eB.mpr c)]
      rw [e1, e2]
      have hin := hs (k' + 1) (C ++ X) code1 (nI (C ++ X).length) (nI (k' + 1)) (nI (TK ch n (k' + 1))) pl1 row1 (nI (trl (C ++ X)).length) (nI (psn ch n (k' + 1 + 1))) (nI (MKd ch n (k' + 1))) (nI (MSd ch n (k' + 1))) (nI (SS ch n (k' + 1))) (nI (psn ch n (k' + 1 + 1))) bp1 hk2 ⟨rfl, rfl, rfl, s4, by omega⟩ ⟨rfl, rfl, rfl, rfl, rfl, rfl, s6, s7⟩ (by rw [trl_app, List.length_append]; omega)
      obtain ⟨code2, cs2, at2, tok2, f2, pl2, row2, d2, mat2, mt2, ms2', mb2, me2, g2, bp2, eb2, em2, hres2⟩ := hin
      unfold g_X3_readTest_46 g_X11_readTest_60
      rw [adv_b hS hk2, stp h hn hfu]
      simp only [Option.bind_some]
      simp only [] at eb2 em2
      rw [eb2, em2]
      simp only [Option.bind_some]
      rcases hres2 with ⟨rfl, rfl, k3, Y, t1, t2, t3, t4, t5, t6, t7⟩ | ⟨t1, t2⟩
      · obtain ⟨rfl, rfl, rfl, v4, v5⟩ := t6
        obtain ⟨rfl, rfl, rfl, rfl, rfl, rfl, v6, v7⟩ := t7
        have hps3 : psn ch n k3 ≤ n := psn_le k3
        have hl1 : (C ++ X ++ Y).length = C.length + X.length + Y.length := by rw [List.length_append, List.length_append]
        have hl2 : (trl (C ++ X ++ Y)).length = (trl C).length + (trl X).length + (trl Y).length := by rw [trl_app, trl_app, List.length_append, List.length_append]
        obtain ⟨code3, row3, u1, u2, u3, u4, u5⟩ := emit_2 (op := nI (TK ch n k')) (s0 := s0) hT v4 (by omega) v6 v7 (by omega) hs0
        rw [u1, u3]
        simp only [Option.bind_some]
        have hbin : isBin (nI (TK ch n k')) := by
          rcases c0 with c | c <;> rw [c]
          · exact Or.inr (Or.inr (Or.inl rfl))
          · exact Or.inr (Or.inr (Or.inr (Or.inl rfl)))
        obtain ⟨h1, w1, w2⟩ := r3
        obtain ⟨h2, w3, w4⟩ := t3
        have hl3 := len3 X Y (nI (TK ch n k'))
        have hl4 := trl3 (X := X) (Y := Y) hs0
        rw [app3] at u2 u4
        exact fin_t (X := X ++ Y ++ [nI (TK ch n k')]) nt hn hT hS (by omega) t2 ⟨_, by omega, wf_bin w2 w4 hbin⟩ (by omega) (by rw [hz]; omega) hC hD ⟨rfl, rfl, by rw [app3], u2, by rw [List.length_append]; omega⟩ ⟨rfl, rfl, rfl, rfl, rfl, by rw [app3], u4, u5⟩
      · obtain ⟨rfl, v2, v3, rfl, c0', v4, rfl, kd⟩ := t1
        obtain ⟨code3, c3, x1, x2⟩ := emit_e (code := code2) v4 (nI (TK ch n k'))
        rw [x1, emit_me v3]
        simp only [Option.bind_some]
        exact fin_te nt v2 v3 kd x2 t2
    · have e1 : ∀ z : Option ((Nat → Int32) × Int32 × Int32 × Int32 × Int32 × Int32 × Int32 × Int32 × Int32), (if (0 : Int32) = 0 then (f_X11_isSign (nI (MKd ch n k')) (nI (MSd ch n k')) 60).bind fun v7 => if v7 = 0 then (f_X11_isSign (nI (MKd ch n k')) (nI (MSd ch n k')) 61).bind fun v14 => if v14 = 0 then g_X11_readTest_75 (nI T) row1 (nI (trl (C ++ X)).length) (nI (psn ch n (k' + 1))) (nI (MKd ch n k')) (nI (MSd ch n k')) (nI (SS ch n k')) (nI (psn ch n (k' + 1))) 0 bp1 (bI nt) else g_X11_readTest_46 fu (nI T) a (nI n) row1 (nI (trl (C ++ X)).length) (nI (psn ch n (k' + 1))) (nI (MKd ch n k')) (nI (MSd ch n k')) (nI (SS ch n k')) (nI (psn ch n (k' + 1))) 0 bp1 kem x (bI nt) else g_X11_readTest_46 fu (nI T) a (nI n) row1 (nI (trl (C ++ X)).length) (nI (psn ch n (k' + 1))) (nI (MKd ch n k')) (nI (MSd ch n k')) (nI (SS ch n k')) (nI (psn ch n (k' + 1))) 0 bp1 kem x (bI nt) else z) = g_X11_readTest_75 (nI T) row1 (nI (trl (C ++ X)).length) (nI (psn ch n (k' + 1))) (nI (MKd ch n k')) (nI (MSd ch n k')) (nI (SS ch n k')) (nI (psn ch n (k' + 1))) 0 bp1 (bI nt) := fun z => by
        rw [if_pos rfl, sA, sB, decide_eq_false (fun w => c0 (Or.inl w)), decide_eq_false (fun w => c0 (Or.inr w))]
        simp only [Option.bind_some]
        rw [if_pos (by decide), if_pos (by decide)]
      rw [e1, if_neg (fun w => c0 (Or.inl (eA.mp w))), if_neg (fun w => c0 (Or.inr (eB.mp w)))]
      exact fin_t nt hn hT hS (by omega) r2 (wfl_mono r3 (by omega)) (by omega) (by rw [hz]; omega) hC hD r60 r70
  · obtain ⟨rfl, s2, s3, rfl, c0, s4, rfl, kd⟩ := r1
    rw [if_neg (by decide : ¬ (-1 : Int32) = 60), if_neg (by decide : ¬ (-1 : Int32) = 61), if_neg s3]
    exact fin_te nt s2 s3 kd s4 r2
theorem test_q (h : BY b a ch) (hn : n ≤ 400) (hfu : 500 < fu) (hT : T ≤ 5) (hS : SCK ch n tk st K) (hs : KEX ch n K T r0 H (fun code cs at' tok f pl => f_X3_readSum fu tk st code cs at' tok f pl ke x) (fun row d mat mt ms mb me g bp => f_X11_readSum fu (nI T) a (nI n) row d mat mt ms mb me g bp kem x)) : KEX ch n K T r0 (H + 1) (fun code cs at' tok f pl => f_X3_readTest fu tk st code cs at' tok f pl ke x) (fun row d mat mt ms mb me g bp => f_X11_readTest fu (nI T) a (nI n) row d mat mt ms mb me g bp kem x) := by
  intro k C code cs at' tok pl row d mat mt ms mb me bp hk hb hm hC
  have hb0 := hb
  have hm0 := hm
  obtain ⟨rfl, rfl, rfl, hA, hl⟩ := hb
  obtain ⟨rfl, rfl, rfl, rfl, rfl, rfl, hR, hF⟩ := hm
  show RES ch n K T r0 (H + 1) k C (f_X3_readTest fu tk st code (nI C.length) (nI k) (nI (TK ch n k)) 0 pl ke x) (f_X11_readTest fu (nI T) a (nI n) row (nI (trl C).length) (nI (psn ch n (k + 1))) (nI (MKd ch n k)) (nI (MSd ch n k)) (nI (SS ch n k)) (nI (psn ch n (k + 1))) 0 bp kem x)
  have e9 : nI (TK ch n k) = 9 ↔ TK ch n k = 9 := tk_eq (c := 9) (by decide)
  have s9 : f_X11_isWord fu a (nI (MKd ch n k)) (nI (SS ch n k)) (nI (psn ch n (k + 1))) 35 = some (bI (decide (TK ch n k = 9))) := word_x h hn hfu (ss_le k) (x := 35) (y := 8) (by decide) W_m.2.2.2.2.1 (by decide) (by decide)
  unfold f_X3_readTest f_X11_readTest g_X3_readTest_14
  rw [s9]
  simp only [Option.bind_some]
  by_cases c : TK ch n k = 9
  · have hk2 := tk_lt_K hS hk (by omega)
    have hps2 := ps_lt hS hk2
    rw [if_pos (e9.mpr c), decide_eq_true c, if_neg (by decide), if_neg (by decide), adv_b hS hk2, stp h hn hfu]
    simp only [Option.bind_some]
    exact test_c true (k := k + 1) h hn hfu hT hS hs (by simp) hk2 (by simp; omega) hl hC ⟨rfl, rfl, rfl, hA, by omega⟩ ⟨rfl, rfl, rfl, rfl, rfl, rfl, hR, hF⟩
  · rw [if_neg (fun w => c (e9.mp w)), decide_eq_false c, if_pos trivial, if_pos (by decide)]
    exact test_c false (k := k) h hn hfu hT hS hs (by simp) hk (by simp) hl hC hb0 hm0
end
