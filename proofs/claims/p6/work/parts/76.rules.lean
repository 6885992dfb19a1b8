/-! Text: the rules. -/
abbrev RL2 : Type := List (Int32 × List Int32)
def cdR (Rs : RL2) : List Int32 := Rs.flatMap (fun r => r.2 ++ [r.1])
def goodR (Rs : RL2) : Prop := ∀ r ∈ Rs, (r.1 = 4 ∨ r.1 = 5 ∨ r.1 = 6) ∧ WFl 19 r.2
theorem cdR_app (Rs : RL2) (v : Int32) (X : List Int32) : cdR (Rs ++ [(v, X)]) = cdR Rs ++ X ++ [v] := by simp [cdR]
theorem gdl {α : Type} {l : List α} {y z : α} {i : Nat} (h : i < l.length) : (l ++ [y]).getD i z = l.getD i z := by simp [List.getD_eq_getElem?_getD, List.getElem?_append_left h]
theorem gdr {α : Type} {l : List α} {y z : α} : (l ++ [y]).getD l.length z = y := by simp [List.getD_eq_getElem?_getD]
theorem tkl {α : Type} {l : List α} {y : α} {i : Nat} (h : i ≤ l.length) : (l ++ [y]).take i = l.take i := by rw [List.take_append_of_le_length h]
/-- the model's rows of the rules of the text T -/
def RKx (T : Nat) (rk rf : Nat → Int32) (Rs : RL2) : Prop := ∀ i, i < Rs.length → rk (12 * T + i) = (Rs.getD i (0, [])).1 - 4 ∧ rf (13 * T + i) = nI (trl (cdR (Rs.take i))).length
def FRk (T N : Nat) (r0 r : Nat → Int32) : Prop := ∀ j, (j < N * T ∨ N * T + N ≤ j) → r j = r0 j
theorem frk_up {T N i : Nat} {r0 r : Nat → Int32} (h : FRk T N r0 r) (hi : i < N) (x : Int32) : FRk T N r0 (upd r (N * T + i) x) := fun j hj => by
  rw [upd_ne _ _ (by omega)]
  exact h j hj
theorem m12n (q : Nat) : 12 * nI q = nI (12 * q) := m12' q
theorem m13n (q : Nat) : 13 * nI q = nI (13 * q) := by
  have e : (13 : Int32) = Int32.ofNat 13 := rfl
  unfold nI
  rw [e, ← Int32.ofNat_mul]
section
variable {b a : Nat → Int32} {ch : Nat → Nat} {n K T k : Nat} {tk st r0 rk0 rf0 rm0 : Nat → Int32} {fu : Nat} {sz : Int32}
theorem mk_0 : MKd ch n k = 0 ↔ TK ch n k = 0 := by
  have e1 : TK ch n k = tk1 ch n (SS ch n k) := rfl
  have e2 : MKd ch n k = mk1 ch n (SS ch n k) := rfl
  rcases tk_cases (ch := ch) (n := n) (SS ch n k) with q | q | q | q | q | q
  · omega
  · have := wi_rng (sl ch (SS ch n k) (en1 ch n (SS ch n k)))
    omega
  · omega
  · omega
  · have := sgn_mem q.2.2.1
    omega
  · omega
/-- what both have in hand at the end -/
def FIN (T : Nat) (r0 rk0 rf0 rm0 : Nat → Int32) (rb : Option ((Nat → Int32) × (Nat → Int32) × Int32 × (Nat → Int32) × Int32 × Int32 × Int32 × Int32 × Int32)) (rm : Option ((Nat → Int32) × (Nat → Int32) × (Nat → Int32) × (Nat → Int32) × Int32 × Int32 × Int32 × Int32 × Int32 × Int32 × Int32 × Int32)) : Prop :=
  ∃ tk st sz code cs at' tok f pl rm' rf row rk d mat mt ms mb me g bp, rb = some (tk, st, sz, code, cs, at', tok, f, pl) ∧ rm = some (rm', rf, row, rk, d, mat, mt, ms, mb, me, g, bp) ∧ RFw T r0 row ∧ FRk T 12 rk0 rk ∧ FRk T 13 rf0 rf ∧ FRk T 1 rm0 rm' ∧ ((f = 0 ∧ g = 0 ∧ ∃ Rs : RL2, goodR Rs ∧ Rs.length ≤ 12 ∧ (cdR Rs).length ≤ 400 ∧ cs = nI (cdR Rs).length ∧ AL code 0 (cdR Rs) ∧ (trl (cdR Rs)).length ≤ 600 ∧ AL row (700 * T) (trl (cdR Rs)) ∧ RKx T rk rf Rs ∧ rf (13 * T + Rs.length) = nI (trl (cdR Rs)).length ∧ rm' T = nI Rs.length) ∨ (¬ f = 0 ∧ ¬ g = 0 ∧ pl = bp ∧ KD f g))
theorem fin174 (hT : T ≤ 5) {m : Nat} (hm : m ≤ 12) {rm' rf row rk : Nat → Int32} {d mat mt ms mb me g bp : Int32} : g_X11_readText_174 (nI T) rm' rf row rk d mat mt ms mb me g bp (nI m) = some (upd rm' T (nI m), upd rf (13 * T + m) d, row, rk, d, mat, mt, ms, mb, me, g, bp) := by
  unfold g_X11_readText_174
  rw [m13n, nI_add, if_pos (inb_nI (N := 78) (by omega) (by decide)), if_pos (inb_nI (N := 6) (by omega) (by decide)), nI_clamp (by omega), nI_clamp (by omega)]
theorem frk1 {T : Nat} {r0 r : Nat → Int32} (h : FRk T 1 r0 r) (x : Int32) : FRk T 1 r0 (upd r T x) := fun j hj => by
  rw [upd_ne _ _ (by omega)]
  exact h j hj
theorem par_e (kf : Nat) {m : Int32} {code : Nat → Int32} {cs at' f pl : Int32} (hf : ¬ f = 0) : f_X3_parse_47 fu (kf + 1) (m, tk, st, sz, code, cs, at', -1, f, pl) = some (tk, st, sz, code, cs, at', -1, f, pl) := by
  show g_X3_parse_47 fu tk st sz code cs at' (-1) f pl (fun p q r s t u v w y z => f_X3_parse_47 fu kf (p, q, r, s, t, u, v, w, y, z)) m = _
  unfold g_X3_parse_47 g_X3_parse_78
  rw [if_neg hf, ite_self, ite_self]
theorem txt_e (hT : T ≤ 5) (kf : Nat) {m : Nat} (hm : m ≤ 12) {rm' rf row rk : Nat → Int32} {d mat mt ms mb me g bp : Int32} (hg : ¬ g = 0) : f_X11_readText_6 fu (nI T) a (nI n) (kf + 1) (nI m, rm', rf, row, rk, d, mat, mt, ms, mb, me, g, bp) = some (upd rm' T (nI m), upd rf (13 * T + m) d, row, rk, d, mat, mt, ms, mb, me, g, bp) := by
  show g_X11_readText_6 fu (nI T) a (nI n) rm' rf row rk d mat mt ms mb me g bp (fun p q r s t u v w y z x i j => f_X11_readText_6 fu (nI T) a (nI n) kf (p, q, r, s, t, u, v, w, y, z, x, i, j)) (nI m) = _
  unfold g_X11_readText_6
  rw [if_neg hg]
  exact fin174 hT hm
theorem rules_l (h : BY b a ch) (hn : n ≤ 400) (hfu : 500 < fu) (hT : T ≤ 5) (hS : SCK ch n tk st K) : ∀ kf k (Rs : RL2) code cs at' tok pl rm' rf row rk d mat mt ms mb me bp, k ≤ K → K - k + 1 < kf → goodR Rs → Rs.length ≤ 12 → OKb ch n k (cdR Rs) code cs at' tok → OKm ch n T r0 k (cdR Rs) row d mat mt ms mb me → 2 * (trl (cdR Rs)).length ≤ 3 * psn ch n k → RKx T rk rf Rs → FRk T 12 rk0 rk → FRk T 13 rf0 rf → FRk T 1 rm0 rm' → FIN T r0 rk0 rf0 rm0 (f_X3_parse_47 fu kf (nI Rs.length, tk, st, sz, code, cs, at', tok, 0, pl)) (f_X11_readText_6 fu (nI T) a (nI n) kf (nI Rs.length, rm', rf, row, rk, d, mat, mt, ms, mb, me, 0, bp)) := by
  have hK := hS.1
  intro kf
  induction kf with
  | zero => intro k Rs code cs at' tok pl rm' rf row rk d mat mt ms mb me bp _ h0; omega
  | succ kf ih =>
    intro k Rs code cs at' tok pl rm' rf row rk d mat mt ms mb me bp hk hkf hgd hlen hb hm hC hRK hF1 hF2 hF3
    obtain ⟨rfl, rfl, rfl, hA, hl⟩ := hb
    obtain ⟨rfl, rfl, rfl, rfl, rfl, rfl, hR, hF⟩ := hm
    have htl : TK ch n k < 11000 := tk_lt _
    have hps : psn ch n k ≤ n := psn_le k
    have hmk : MKd ch n k < 5 := by
      unfold MKd mk1
      split
      · split
        · omega
        · split
          · omega
          · split <;> omega
      · omega
    show FIN T r0 rk0 rf0 rm0 (g_X3_parse_47 fu tk st sz code (nI (cdR Rs).length) (nI k) (nI (TK ch n k)) 0 pl (fun p q r s t u v w y z => f_X3_parse_47 fu kf (p, q, r, s, t, u, v, w, y, z)) (nI Rs.length)) (g_X11_readText_6 fu (nI T) a (nI n) rm' rf row rk (nI (trl (cdR Rs)).length) (nI (psn ch n (k + 1))) (nI (MKd ch n k)) (nI (MSd ch n k)) (nI (SS ch n k)) (nI (psn ch n (k + 1))) 0 bp (fun p q r s t u v w y z x i j => f_X11_readText_6 fu (nI T) a (nI n) kf (p, q, r, s, t, u, v, w, y, z, x, i, j)) (nI Rs.length))
    have q12 : ¬ (12 : Int32) < nI Rs.length := nI_nlt (a := 12) hlen (by decide)
    have e0 : nI (TK ch n k) = 0 ↔ TK ch n k = 0 := tk_eq (c := 0) (by decide)
    have em0 : nI (MKd ch n k) = 0 ↔ MKd ch n k = 0 := nI_eq (b := 0) (by omega) (by decide)
    unfold g_X3_parse_47 g_X11_readText_6
    rw [if_neg q12]
    by_cases c0 : TK ch n k = 0
    · -- the end
      rw [if_pos (e0.mpr c0), if_pos rfl, if_pos (em0.mpr (mk_0.mpr c0)), fin174 hT hlen]
      refine ⟨_, _, _, _, _, _, _, _, _, _, _, _, _, _, _, _, _, _, _, _, _, rfl, rfl, hF, hF1, frk_up hF2 (by omega) _, frk1 hF3 _, Or.inl ⟨rfl, rfl, Rs, hgd, hlen, by omega, rfl, hA, by omega, hR, fun i hi => ⟨(hRK i hi).1, ?_⟩, upd_at _ _ _, upd_at _ _ _⟩⟩
      rw [upd_ne _ _ (by omega)]
      exact (hRK i hi).2
    have hk2 := tk_lt_K hS hk c0
    have hps2 := ps_lt hS hk2
    have s4 : f_X11_isWord fu a (nI (MKd ch n k)) (nI (SS ch n k)) (nI (psn ch n (k + 1))) 32 = some (bI (decide (TK ch n k = 4))) := word_x h hn hfu (ss_le k) (x := 32) (y := 3) (by decide) W_m.2.1 (by decide) (by decide)
    have s5 : f_X11_isWord fu a (nI (MKd ch n k)) (nI (SS ch n k)) (nI (psn ch n (k + 1))) 33 = some (bI (decide (TK ch n k = 5))) := word_x h hn hfu (ss_le k) (x := 33) (y := 4) (by decide) W_m.2.2.1 (by decide) (by decide)
    have s6 : f_X11_isWord fu a (nI (MKd ch n k)) (nI (SS ch n k)) (nI (psn ch n (k + 1))) 34 = some (bI (decide (TK ch n k = 6))) := word_x h hn hfu (ss_le k) (x := 34) (y := 5) (by decide) W_m.2.2.2.1 (by decide) (by decide)
    have e4 : nI (TK ch n k) = 4 ↔ TK ch n k = 4 := tk_eq (c := 4) (by decide)
    have e5 : nI (TK ch n k) = 5 ↔ TK ch n k = 5 := tk_eq (c := 5) (by decide)
    have e6 : nI (TK ch n k) = 6 ↔ TK ch n k = 6 := tk_eq (c := 6) (by decide)
    obtain ⟨kf, rfl⟩ : ∃ j, kf = j + 1 := ⟨kf - 1, by omega⟩
    rw [if_neg (fun w => c0 (e0.mp w)), if_pos rfl, if_pos rfl, if_neg (fun w => c0 (mk_0.mp (em0.mp w))), s4, s5, s6]
    unfold f_X3_readRule
    simp only [Option.bind_some]
    -- one rule, its verb known
    have go : ∀ w : Int32, (nI (TK ch n k) = 4 ∨ nI (TK ch n k) = 5 ∨ nI (TK ch n k) = 6) → w = nI (TK ch n k) - 4 → ¬ w = -1 → FIN T r0 rk0 rf0 rm0 ((g_X3_readRule_27 fu tk st code (nI (cdR Rs).length) (nI k) (nI (TK ch n k)) 0 pl (nI Rs.length) (nI (TK ch n k))).bind fun v6 => f_X3_parse_47 fu (kf + 1) (nI Rs.length + 1, tk, st, sz, v6.1, v6.2.1, v6.2.2.1, v6.2.2.2.1, v6.2.2.2.2.1, v6.2.2.2.2.2)) (g_X11_readText_61 fu (nI T) a (nI n) rm' rf row rk (nI (trl (cdR Rs)).length) (nI (psn ch n (k + 1))) (nI (MKd ch n k)) (nI (MSd ch n k)) (nI (SS ch n k)) (nI (psn ch n (k + 1))) 0 bp (fun p q r s t u v w y z x i j => f_X11_readText_6 fu (nI T) a (nI n) (kf + 1) (p, q, r, s, t, u, v, w, y, z, x, i, j)) (nI Rs.length) w) := fun w hv hw hw1 => by
      unfold g_X11_readText_61 g_X3_readRule_27
      rw [if_neg hw1]
      have e12 : (nI Rs.length < (12 : Int32)) ↔ Rs.length < 12 := nI_ltI (b := 12) (by omega) (by decide)
      have e12' : (nI Rs.length = (12 : Int32)) ↔ Rs.length = 12 := nI_eq (b := 12) (by omega) (by decide)
      rcases Nat.lt_or_ge Rs.length 12 with c | c
      · rw [if_pos (e12.mpr c), if_neg (fun z => by have := e12'.mp z; omega)]
        unfold g_X11_readText_86
        rw [if_pos rfl, m12n, m13n, nI_add, nI_add, if_pos (inb_nI (N := 72) (by omega) (by decide)), if_pos (inb_nI (N := 78) (by omega) (by decide)), nI_clamp (by omega), nI_clamp (by omega), adv_b hS hk2, stp h hn hfu, nI_1]
        simp only [Option.bind_some]
        obtain ⟨code1, cs1, at1, tok1, f1, pl1, row1, d1, mat1, mt1, ms1', mb1, me1, g1, bp1, eb, em, hres⟩ := ex_all (r0 := r0) h hn hfu hT hS 6 (by decide) (k + 1) (cdR Rs) code (nI (cdR Rs).length) (nI (k + 1)) (nI (TK ch n (k + 1))) pl row (nI (trl (cdR Rs)).length) (nI (psn ch n (k + 1 + 1))) (nI (MKd ch n (k + 1))) (nI (MSd ch n (k + 1))) (nI (SS ch n (k + 1))) (nI (psn ch n (k + 1 + 1))) bp hk2 ⟨rfl, rfl, rfl, hA, by omega⟩ ⟨rfl, rfl, rfl, rfl, rfl, rfl, hR, hF⟩ (by omega)
        have eb' : e_X3_readExpression fu tk st 8 0 code (nI (cdR Rs).length) (nI (k + 1)) (nI (TK ch n (k + 1))) 0 pl = some (code1, cs1, at1, tok1, f1, pl1) := eb
        have em' : e_X11_readExpression fu (nI T) a (nI n) 8 0 row (nI (trl (cdR Rs)).length) (nI (psn ch n (k + 1 + 1))) (nI (MKd ch n (k + 1))) (nI (MSd ch n (k + 1))) (nI (SS ch n (k + 1))) (nI (psn ch n (k + 1 + 1))) 0 bp = some (row1, d1, mat1, mt1, ms1', mb1, me1, g1, bp1) := em
        rw [eb', em']
        simp only [Option.bind_some]
        have hFk := frk_up hF1 c w
        have hFf := frk_up hF2 (show Rs.length < 13 by omega) (nI (trl (cdR Rs)).length)
        rcases hres with ⟨rfl, rfl, k', X, r1, r2, r3, r4, r5, r6, r7⟩ | ⟨r1, r2⟩
        · obtain ⟨rfl, rfl, rfl, v4, v5⟩ := r6
          obtain ⟨rfl, rfl, rfl, rfl, rfl, rfl, v6, v7⟩ := r7
          have hps3 : psn ch n k' ≤ n := psn_le k'
          have e59 : nI (TK ch n k') = 59 ↔ TK ch n k' = 59 := tk_eq (c := 59) (by decide)
          have s59 : f_X11_isSign (nI (MKd ch n k')) (nI (MSd ch n k')) 59 = some (bI (decide (TK ch n k' = 59))) := isSg 59 (by decide)
          rw [if_pos (rfl : (0 : Int32) = 0), s59]
          simp only [Option.bind_some]
          unfold g_X11_readText_160 g_X11_readText_171
          have hlx : (cdR Rs ++ X).length = (cdR Rs).length + X.length := List.length_append
          by_cases c2 : TK ch n k' = 59
          · have hk3 := tk_lt_K hS r2 (by omega)
            have hps4 := ps_lt hS hk3
            have hvt : trl (cdR Rs ++ X ++ [nI (TK ch n k)]) = trl (cdR Rs ++ X) := by
              rw [trl_app (cdR Rs ++ X), trl_one]
              rcases hv with z | z | z <;> rw [z] <;> exact List.append_nil _
            have hlt : (trl (cdR Rs ++ X)).length = (trl (cdR Rs)).length + (trl X).length := by rw [trl_app, List.length_append]
            obtain ⟨code2, u1, u2⟩ := emit_b v4 (by omega) (nI (TK ch n k))
            rw [if_pos (e59.mpr c2), adv_b hS hk3, decide_eq_true c2, if_neg (by decide), if_pos rfl, stp h hn hfu]
            simp only [Option.bind_some]
            rw [u1]
            simp only [Option.bind_some]
            have hcd : cdR (Rs ++ [(nI (TK ch n k), X)]) = cdR Rs ++ X ++ [nI (TK ch n k)] := cdR_app _ _ _
            have hll : (Rs ++ [(nI (TK ch n k), X)]).length = Rs.length + 1 := by rw [List.length_append]; rfl
            rw [← hcd] at u2 hvt
            rw [← hcd]
            rw [← hvt] at v6 hlt
            have := ih (k' + 1) (Rs ++ [(nI (TK ch n k), X)]) code2 (nI (cdR (Rs ++ [(nI (TK ch n k), X)])).length) (nI (k' + 1)) (nI (TK ch n (k' + 1))) pl1 rm' (upd rf (13 * T + Rs.length) (nI (trl (cdR Rs)).length)) row1 (upd rk (12 * T + Rs.length) w) (nI (trl (cdR Rs ++ X)).length) (nI (psn ch n (k' + 1 + 1))) (nI (MKd ch n (k' + 1))) (nI (MSd ch n (k' + 1))) (nI (SS ch n (k' + 1))) (nI (psn ch n (k' + 1 + 1))) bp1 hk3 (by omega) (fun r hr => by
              rcases List.mem_append.mp hr with z | z
              · exact hgd r z
              · rw [List.mem_singleton.mp z]
                exact ⟨hv, r3⟩) (by omega) ⟨rfl, rfl, rfl, u2, by rw [hcd, len1]; omega⟩ ⟨rfl, rfl, rfl, rfl, rfl, by rw [hvt], v6, v7⟩ (by omega) (fun i hi => by
              rw [hll] at hi
              rcases Nat.lt_or_ge i Rs.length with z | z
              · rw [upd_ne _ _ (by omega), upd_ne _ _ (by omega), gdl z, tkl (by omega)]
                exact hRK i z
              · have ei : i = Rs.length := by omega
                subst ei
                rw [upd_at, upd_at, gdr, tkl (Nat.le_refl _), List.take_length]
                exact ⟨hw, rfl⟩) hFk hFf hF3
            rw [hll] at this
            exact this
          · rw [if_neg (fun z => c2 (e59.mp z)), blame_b hS r2, decide_eq_false c2, if_pos (by decide), show f_X11_wrong (nI (SS ch n k')) 0 bp1 1 = some (1, nI (SS ch n k')) by unfold f_X11_wrong; rw [if_pos rfl]]
            simp only [Option.bind_some]
            rw [if_neg (by decide : ¬ (1 : Int32) = 0), par_e kf (by decide), txt_e hT kf (by omega) (by decide)]
            exact ⟨_, _, _, _, _, _, _, _, _, _, _, _, _, _, _, _, _, _, _, _, _, rfl, rfl, v7, hFk, frk_up hFf (by omega) _, frk1 hF3 _, Or.inr ⟨by decide, by decide, rfl, Or.inl rfl⟩⟩
        · obtain ⟨rfl, v2, v3, rfl, c0', v4, rfl, kd⟩ := r1
          unfold g_X11_readText_160 g_X11_readText_171
          rw [if_neg (by decide : ¬ (-1 : Int32) = 59), blame_e v2, if_neg v3, if_neg v3]
          simp only [Option.bind_some]
          rw [par_e kf v2, txt_e hT kf (by omega) v3]
          exact ⟨_, _, _, _, _, _, _, _, _, _, _, _, _, _, _, _, _, _, _, _, _, rfl, rfl, r2, hFk, frk_up hFf (by omega) _, frk1 hF3 _, Or.inr ⟨v2, v3, rfl, kd⟩⟩
      · rw [if_neg (fun z => by have := e12.mp z; omega), if_pos (e12'.mpr (by omega)), blame_b hS hk, show f_X11_wrong (nI (SS ch n k)) 0 bp 2 = some (2, nI (SS ch n k)) by unfold f_X11_wrong; rw [if_pos rfl]]
        simp only [Option.bind_some]
        unfold g_X11_readText_86
        rw [if_neg (by decide : ¬ (2 : Int32) = 0), par_e kf (by decide)]
        exact ⟨_, _, _, _, _, _, _, _, _, _, _, _, _, _, _, _, _, _, _, _, _, rfl, rfl, hF, hF1, hF2, hF3, Or.inr ⟨by decide, by decide, rfl, Or.inl rfl⟩⟩
    by_cases c4 : TK ch n k = 4
    · rw [if_pos (e4.mpr c4), decide_eq_true c4, if_neg (by decide : ¬ bI true = 0)]
      exact go 0 (Or.inl (e4.mpr c4)) (by rw [c4]; decide) (by decide)
    rw [if_neg (fun w => c4 (e4.mp w)), decide_eq_false c4, if_pos (by decide : bI false = 0)]
    by_cases c5 : TK ch n k = 5
    · rw [if_pos (e5.mpr c5), decide_eq_true c5, if_neg (by decide : ¬ bI true = 0)]
      exact go 1 (Or.inr (Or.inl (e5.mpr c5))) (by rw [c5]; decide) (by decide)
    rw [if_neg (fun w => c5 (e5.mp w)), decide_eq_false c5, if_pos (by decide : bI false = 0)]
    by_cases c6 : TK ch n k = 6
    · rw [if_pos (e6.mpr c6), decide_eq_true c6, if_neg (by decide : ¬ bI true = 0)]
      exact go 2 (Or.inr (Or.inr (e6.mpr c6))) (by rw [c6]; decide) (by decide)
    rw [if_neg (fun w => c6 (e6.mp w)), decide_eq_false c6, if_pos (by decide : bI false = 0), blame_b hS hk]
    simp only [Option.bind_some]
    unfold g_X11_readText_61
    rw [if_pos rfl, show f_X11_wrong (nI (SS ch n k)) 0 bp 1 = some (1, nI (SS ch n k)) by unfold f_X11_wrong; rw [if_pos rfl]]
    simp only [Option.bind_some]
    unfold g_X11_readText_86
    rw [if_neg (by decide : ¬ (1 : Int32) = 0), par_e kf (by decide)]
    exact ⟨_, _, _, _, _, _, _, _, _, _, _, _, _, _, _, _, _, _, _, _, _, rfl, rfl, hF, hF1, hF2, hF3, Or.inr ⟨by decide, by decide, rfl, Or.inl rfl⟩⟩
theorem text_q (h : BY b a ch) (hn : n ≤ 400) (hfu : 500 < fu) (hT : T ≤ 5) (tk st code rm' rf row rk : Nat → Int32) (t0 s0 b0 e0 bp : Int32) : FIN T row rk rf rm' (f_X3_parse fu b tk st code (nI n)) (f_X11_readText fu (nI T) a (nI n) rm' rf row rk 0 0 t0 s0 b0 e0 0 bp) := by
  obtain ⟨tk1', st1, K, e1, hK, hSC, z1, z2, z3⟩ := scan_q h hn hfu tk st
  have hS : SCK ch n tk1' st1 K := ⟨hK, hSC, z1, z2, z3⟩
  unfold f_X3_parse f_X11_readText
  rw [e1]
  simp only [Option.bind_some]
  have hst := step_q h hn hfu (i := 0) (Nat.zero_le _) t0 s0 b0 e0
  have hst' : f_X11_step fu a (nI n) 0 t0 s0 b0 e0 = _ := hst
  rw [if_pos (by decide), hst']
  simp only [Option.bind_some]
  have ht : tk1' (Int32.toNatClampNeg 0) = nI (TK ch n 0) := (tk_at hS (Nat.zero_le _)).1
  rw [ht]
  exact rules_l h hn hfu hT hS fu 0 [] code 0 0 (nI (TK ch n 0)) (-1) rm' rf row rk 0 _ _ _ _ _ bp (Nat.zero_le _) (by omega) (fun r hr => absurd hr (by simp)) (by decide) ⟨rfl, rfl, rfl, al_nil, Nat.zero_le _⟩ ⟨rfl, rfl, rfl, rfl, rfl, rfl, al_nil, fun _ _ => rfl⟩ (Nat.zero_le _) (fun i hi => absurd hi (Nat.not_lt_zero _)) (fun _ _ => rfl) (fun _ _ => rfl) (fun _ _ => rfl)
end
