/-! Text: the parsers side by side: expressions. -/
section
variable {b a : Nat → Int32} {ch : Nat → Nat} {n K T k H : Nat} {tk st r0 : Nat → Int32} {fu : Nat} {C X : List Int32} {code row : Nat → Int32} {cs at' tok pl d mat mt ms mb me bp x : Int32}
variable {ke : Int32 → (Nat → Int32) → Int32 → Int32 → Int32 → Int32 → Int32 → Option ((Nat → Int32) × Int32 × Int32 × Int32 × Int32 × Int32)} {kem : Int32 → (Nat → Int32) → Int32 → Int32 → Int32 → Int32 → Int32 → Int32 → Int32 → Int32 → Option ((Nat → Int32) × Int32 × Int32 × Int32 × Int32 × Int32 × Int32 × Int32 × Int32)}
theorem exp_le (kf : Nat) {t f : Int32} : f_X3_readExpression_32 fu tk st ke (kf + 1) (x, t, code, cs, at', -1, f, pl) = some (code, cs, at', -1, f, pl) := by
  show g_X3_readExpression_32 fu tk st code cs at' (-1) f pl (fun p q r s u v w y => f_X3_readExpression_32 fu tk st ke kf (p, q, r, s, u, v, w, y)) ke x t = _
  unfold g_X3_readExpression_32 g_X3_readExpression_82
  rw [if_neg (by decide : ¬ (-1 : Int32) = 7), if_neg (by decide : ¬ (-1 : Int32) = 8), ite_self]
theorem exp_lm (kf : Nat) {g : Int32} (hg : ¬ g = 0) : f_X11_readExpression_67 fu (nI T) a (nI n) kem (kf + 1) (x, row, d, mat, mt, ms, mb, me, g, bp) = some (row, d, mat, mt, ms, mb, me, g, bp) := by
  show g_X11_readExpression_67 fu (nI T) a (nI n) row d mat mt ms mb me g bp (fun p q r s u v w y z t => f_X11_readExpression_67 fu (nI T) a (nI n) kem kf (p, q, r, s, u, v, w, y, z, t)) kem x = _
  unfold g_X11_readExpression_67 g_X11_readExpression_128
  rw [if_neg hg]
theorem exp_l (h : BY b a ch) (hn : n ≤ 400) (hfu : 500 < fu) (hT : T ≤ 5) (hS : SCK ch n tk st K) (hp : KEX ch n K T r0 H (fun code cs at' tok f pl => f_X3_readTest fu tk st code cs at' tok f pl ke x) (fun row d mat mt ms mb me g bp => f_X11_readTest fu (nI T) a (nI n) row d mat mt ms mb me g bp kem x)) : ∀ kf k k0 t C X code cs at' tok pl row d mat mt ms mb me bp, k0 < k → k ≤ K → K - k < kf → t ≤ k → WFl (H + 1) X → X.length + k0 ≤ k → 2 * (trl X).length + 3 * psn ch n k0 ≤ 3 * psn ch n k + 1 → C.length ≤ k0 → 2 * (trl C).length ≤ 3 * psn ch n k0 → OKb ch n k (C ++ X) code cs at' tok → OKm ch n T r0 k (C ++ X) row d mat mt ms mb me → RES ch n K T r0 (H + 1) k0 C (f_X3_readExpression_32 fu tk st ke kf (x, nI t, code, cs, at', tok, 0, pl)) (f_X11_readExpression_67 fu (nI T) a (nI n) kem kf (x, row, d, mat, mt, ms, mb, me, 0, bp)) := by
  have hK := hS.1
  intro kf
  induction kf with
  | zero => intro k k0 t C X code cs at' tok pl row d mat mt ms mb me bp _ _ h0; omega
  | succ kf ih =>
    intro k k0 t C X code cs at' tok pl row d mat mt ms mb me bp hk0 hk hkf ht hw hX hY hC hD hb hm
    have hb0 := hb
    have hm0 := hm
    obtain ⟨rfl, rfl, rfl, hA, hl⟩ := hb
    obtain ⟨rfl, rfl, rfl, rfl, rfl, rfl, hR, hF⟩ := hm
    have hps : psn ch n k ≤ n := psn_le k
    show RES ch n K T r0 (H + 1) k0 C (g_X3_readExpression_32 fu tk st code (nI (C ++ X).length) (nI k) (nI (TK ch n k)) 0 pl (fun p q r s u v w y => f_X3_readExpression_32 fu tk st ke kf (p, q, r, s, u, v, w, y)) ke x (nI t)) (g_X11_readExpression_67 fu (nI T) a (nI n) row (nI (trl (C ++ X)).length) (nI (psn ch n (k + 1))) (nI (MKd ch n k)) (nI (MSd ch n k)) (nI (SS ch n k)) (nI (psn ch n (k + 1))) 0 bp (fun p q r s u v w y z t => f_X11_readExpression_67 fu (nI T) a (nI n) kem kf (p, q, r, s, u, v, w, y, z, t)) kem x)
    have eA : nI (TK ch n k) = 7 ↔ TK ch n k = 7 := tk_eq (c := 7) (by decide)
    have eB : nI (TK ch n k) = 8 ↔ TK ch n k = 8 := tk_eq (c := 8) (by decide)
    have sA : f_X11_isWord fu a (nI (MKd ch n k)) (nI (SS ch n k)) (nI (psn ch n (k + 1))) 36 = some (bI (decide (TK ch n k = 7))) := word_x h hn hfu (ss_le k) (x := 36) (y := 6) (by decide) W_m.2.2.2.2.2.1 (by decide) (by decide)
    have sB : f_X11_isWord fu a (nI (MKd ch n k)) (nI (SS ch n k)) (nI (psn ch n (k + 1))) 37 = some (bI (decide (TK ch n k = 8))) := word_x h hn hfu (ss_le k) (x := 37) (y := 7) (by decide) W_m.2.2.2.2.2.2 (by decide) (by decide)
    by_cases c0 : TK ch n k = 7 ∨ TK ch n k = 8
    · have hk2 := tk_lt_K hS hk (by omega)
      have hps2 := ps_lt hS hk2
      have q4 : ¬ (400 : Int32) ≤ nI t := nI_ge (b := 400) (by omega) (by decide)
      obtain ⟨s0, hs0, e1⟩ : ∃ s0, tr1 (nI (TK ch n k)) = [s0] ∧ g_X11_readExpression_67 fu (nI T) a (nI n) row (nI (trl (C ++ X)).length) (nI (psn ch n (k + 1))) (nI (MKd ch n k)) (nI (MSd ch n k)) (nI (SS ch n k)) (nI (psn ch n (k + 1))) 0 bp (fun p q r s u v w y z t => f_X11_readExpression_67 fu (nI T) a (nI n) kem kf (p, q, r, s, u, v, w, y, z, t)) kem x = g_X11_readExpression_110 fu (nI T) a (nI n) row (nI (trl (C ++ X)).length) (nI (psn ch n (k + 1))) (nI (MKd ch n k)) (nI (MSd ch n k)) (nI (SS ch n k)) (nI (psn ch n (k + 1))) 0 bp (fun p q r s u v w y z t => f_X11_readExpression_67 fu (nI T) a (nI n) kem kf (p, q, r, s, u, v, w, y, z, t)) kem x s0 := by
        rcases c0 with c | c
        · refine ⟨5, by rw [c]; decide +kernel, ?_⟩
          unfold g_X11_readExpression_67 g_X11_readExpression_94
          rw [if_pos rfl, sA, decide_eq_true c]
          simp only [Option.bind_some]
          rw [if_neg (by decide)]
          rw [if_neg (by decide)]
        · refine ⟨6, by rw [c]; decide +kernel, ?_⟩
          unfold g_X11_readExpression_67 g_X11_readExpression_94
          rw [if_pos rfl, sA, sB, decide_eq_true c, decide_eq_false (by omega)]
          simp only [Option.bind_some]
          rw [if_pos (by decide), if_neg (by decide), if_pos (by decide)]
      have e2 : g_X3_readExpression_32 fu tk st code (nI (C ++ X).length) (nI k) (nI (TK ch n k)) 0 pl (fun p q r s u v w y => f_X3_readExpression_32 fu tk st ke kf (p, q, r, s, u, v, w, y)) ke x (nI t) = g_X3_readExpression_57 fu tk st code (nI (C ++ X).length) (nI k) (nI (TK ch n k)) 0 pl (fun p q r s u v w y => f_X3_readExpression_32 fu tk st ke kf (p, q, r, s, u, v, w, y)) ke x (nI t) := by
        unfold g_X3_readExpression_32
        rcases c0 with c | c
        · rw [if_neg q4, if_pos (eA.mpr c)]
        · rw [if_neg q4, if_neg (fun w => by have := eA.mp w; omega), if_pos (eB.mpr c)]
      rw [e1, e2]
      have hin := hp (k + 1) (C ++ X) code (nI (C ++ X).length) (nI (k + 1)) (nI (TK ch n (k + 1))) pl row (nI (trl (C ++ X)).length) (nI (psn ch n (k + 1 + 1))) (nI (MKd ch n (k + 1))) (nI (MSd ch n (k + 1))) (nI (SS ch n (k + 1))) (nI (psn ch n (k + 1 + 1))) bp hk2 ⟨rfl, rfl, rfl, hA, by omega⟩ ⟨rfl, rfl, rfl, rfl, rfl, rfl, hR, hF⟩ (by rw [trl_app, List.length_append]; omega)
      obtain ⟨code1, cs1, at1, tok1, f1, pl1, row1, d1, mat1, mt1, ms1', mb1, me1, g1, bp1, eb, em, hres⟩ := hin
      unfold g_X3_readExpression_57 g_X11_readExpression_110
      rw [adv_b hS hk2, stp h hn hfu]
      simp only [Option.bind_some]
      simp only [] at eb em
      rw [eb, em]
      simp only [Option.bind_some]
      rcases hres with ⟨rfl, rfl, k', Y, r1, r2, r3, r4, r5, r6, r7⟩ | ⟨r1, r2⟩
      · obtain ⟨rfl, rfl, rfl, s4, s5⟩ := r6
        obtain ⟨rfl, rfl, rfl, rfl, rfl, rfl, s6, s7⟩ := r7
        have hps3 : psn ch n k' ≤ n := psn_le k'
        have hl1 : (C ++ X ++ Y).length = C.length + X.length + Y.length := by rw [List.length_append, List.length_append]
        have hl2 : (trl (C ++ X ++ Y)).length = (trl C).length + (trl X).length + (trl Y).length := by rw [trl_app, trl_app, List.length_append, List.length_append]
        obtain ⟨code2, row2, u1, u2, u3, u4, u5⟩ := emit_2 (op := nI (TK ch n k)) (s0 := s0) hT s4 (by omega) s6 s7 (by omega) hs0
        rw [u1, u3, nI_1]
        simp only [Option.bind_some]
        have hbin : isBin (nI (TK ch n k)) := by
          rcases c0 with c | c <;> rw [c]
          · exact Or.inr (Or.inr (Or.inr (Or.inr (Or.inl rfl))))
          · exact Or.inr (Or.inr (Or.inr (Or.inr (Or.inr rfl))))
        obtain ⟨h1, w1, w2⟩ := hw
        obtain ⟨h2, w3, w4⟩ := r3
        have hl3 := len3 X Y (nI (TK ch n k))
        have hl4 := trl3 (X := X) (Y := Y) hs0
        rw [app3] at u2 u3 u4
        refine ih k' k0 (t + 1) C (X ++ Y ++ [nI (TK ch n k)]) code2 _ _ _ pl1 row2 _ _ _ _ _ _ bp1 (by omega) r2 (by omega) (by omega) ⟨_, by omega, wf_bin w2 w4 hbin⟩ (by omega) (by omega) hC hD ⟨rfl, rfl, by rw [app3], u2, by rw [List.length_append]; omega⟩ ⟨rfl, rfl, rfl, rfl, rfl, by rw [app3], u4, u5⟩
      · obtain ⟨rfl, s2, s3, rfl, c0', s4, rfl, kd⟩ := r1
        obtain ⟨code2, c2, v1, v2⟩ := emit_e (code := code1) s4 (nI (TK ch n k))
        rw [v1, emit_me s3]
        simp only [Option.bind_some]
        cases kf with
        | zero => omega
        | succ kf =>
          rw [exp_le, exp_lm kf s3]
          exact res_err rfl rfl ⟨rfl, s2, s3, rfl, c2, v2, rfl, kd⟩ r2
    · have e1 : g_X11_readExpression_67 fu (nI T) a (nI n) row (nI (trl (C ++ X)).length) (nI (psn ch n (k + 1))) (nI (MKd ch n k)) (nI (MSd ch n k)) (nI (SS ch n k)) (nI (psn ch n (k + 1))) 0 bp (fun p q r s u v w y z t => f_X11_readExpression_67 fu (nI T) a (nI n) kem kf (p, q, r, s, u, v, w, y, z, t)) kem x = some (row, nI (trl (C ++ X)).length, nI (psn ch n (k + 1)), nI (MKd ch n k), nI (MSd ch n k), nI (SS ch n k), nI (psn ch n (k + 1)), 0, bp) := by
        unfold g_X11_readExpression_67 g_X11_readExpression_128
        rw [if_pos rfl, sA, sB, decide_eq_false (fun w => c0 (Or.inl w)), decide_eq_false (fun w => c0 (Or.inr w))]
        rfl
      have e2 : g_X3_readExpression_32 fu tk st code (nI (C ++ X).length) (nI k) (nI (TK ch n k)) 0 pl (fun p q r s u v w y => f_X3_readExpression_32 fu tk st ke kf (p, q, r, s, u, v, w, y)) ke x (nI t) = some (code, nI (C ++ X).length, nI k, nI (TK ch n k), 0, pl) := by
        unfold g_X3_readExpression_32 g_X3_readExpression_82
        rw [if_neg (fun w => c0 (Or.inl (eA.mp w))), if_neg (fun w => c0 (Or.inr (eB.mp w))), ite_self]
      rw [e1, e2]
      exact ⟨_, _, _, _, _, _, _, _, _, _, _, _, _, _, _, rfl, rfl, Or.inl ⟨rfl, rfl, k, X, hk0, hk, hw, hX, hY, hb0, hm0⟩⟩
end
