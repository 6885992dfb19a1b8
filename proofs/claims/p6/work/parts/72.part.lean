/-! Text: the parsers side by side: a part. -/
def OKb (ch : Nat → Nat) (n k : Nat) (C : List Int32) (code : Nat → Int32) (cs at' tok : Int32) : Prop := at' = nI k ∧ tok = nI (TK ch n k) ∧ cs = nI C.length ∧ AL code 0 C ∧ C.length ≤ k
def OKm (ch : Nat → Nat) (n T : Nat) (r0 : Nat → Int32) (k : Nat) (C : List Int32) (row : Nat → Int32) (d mat mt ms mb me : Int32) : Prop := mat = nI (psn ch n (k + 1)) ∧ mt = nI (MKd ch n k) ∧ ms = nI (MSd ch n k) ∧ mb = nI (SS ch n k) ∧ me = nI (psn ch n (k + 1)) ∧ d = nI (trl C).length ∧ AL row (700 * T) (trl C) ∧ RFw T r0 row
def KD (f g : Int32) : Prop := f = g ∨ (f = 3 ∧ g = 2)
def fwv (t : Nat) : Int32 := if t = 2 then 2 else if 3 ≤ t ∧ t ≤ 9 then 3 else 1
theorem fw1 {t : Nat} (h : t ≠ 2) (h2 : ¬ (3 ≤ t ∧ t ≤ 9)) : fwv t = 1 := by unfold fwv; rw [if_neg h, if_neg h2]
theorem fw2 {t : Nat} (h : t = 2) : fwv t = 2 := by unfold fwv; rw [if_pos h]
theorem fw3 {t : Nat} (h : 3 ≤ t ∧ t ≤ 9) : fwv t = 3 := by unfold fwv; rw [if_neg (by omega), if_pos h]
def ERR (f g pl bp tok cs : Int32) : Prop := tok = -1 ∧ ¬ f = 0 ∧ ¬ g = 0 ∧ pl = bp ∧ ∃ c, c ≤ 400 ∧ cs = nI c ∧ KD f g
def RES (ch : Nat → Nat) (n K T : Nat) (r0 : Nat → Int32) (H k : Nat) (C : List Int32) (rb : Option ((Nat → Int32) × Int32 × Int32 × Int32 × Int32 × Int32)) (rm : Option ((Nat → Int32) × Int32 × Int32 × Int32 × Int32 × Int32 × Int32 × Int32 × Int32)) : Prop :=
  ∃ code cs at' tok f pl row d mat mt ms mb me g bp, rb = some (code, cs, at', tok, f, pl) ∧ rm = some (row, d, mat, mt, ms, mb, me, g, bp) ∧ ((f = 0 ∧ g = 0 ∧ ∃ k' X, k < k' ∧ k' ≤ K ∧ WFl H X ∧ X.length + k ≤ k' ∧ 2 * (trl X).length + 3 * psn ch n k ≤ 3 * psn ch n k' + 1 ∧ OKb ch n k' (C ++ X) code cs at' tok ∧ OKm ch n T r0 k' (C ++ X) row d mat mt ms mb me) ∨ (ERR f g pl bp tok cs ∧ RFw T r0 row))
def KEX (ch : Nat → Nat) (n K T : Nat) (r0 : Nat → Int32) (H : Nat) (fb : (Nat → Int32) → Int32 → Int32 → Int32 → Int32 → Int32 → Option ((Nat → Int32) × Int32 × Int32 × Int32 × Int32 × Int32)) (fm : (Nat → Int32) → Int32 → Int32 → Int32 → Int32 → Int32 → Int32 → Int32 → Int32 → Option ((Nat → Int32) × Int32 × Int32 × Int32 × Int32 × Int32 × Int32 × Int32 × Int32)) : Prop :=
  ∀ k C code cs at' tok pl row d mat mt ms mb me bp, k ≤ K → OKb ch n k C code cs at' tok → OKm ch n T r0 k C row d mat mt ms mb me → 2 * (trl C).length ≤ 3 * psn ch n k → RES ch n K T r0 H k C (fb code cs at' tok 0 pl) (fm row d mat mt ms mb me 0 bp)
/-- on a fault both go on with it -/
def KER (T : Nat) (r0 : Nat → Int32) (fb : (Nat → Int32) → Int32 → Int32 → Int32 → Int32 → Int32 → Option ((Nat → Int32) × Int32 × Int32 × Int32 × Int32 × Int32)) : Prop :=
  ∀ code cs at' f pl c, ¬ f = 0 → c ≤ 400 → cs = nI c → ∃ code' c', c' ≤ 400 ∧ fb code cs at' (-1) f pl = some (code', nI c', at', -1, f, pl)
theorem isNum_q {t : Nat} (h : t < 2 ^ 31) : f_X7_isNumber (nI t) = some (bI (decide (1000 ≤ t))) := by
  unfold f_X7_isNumber g_X7_isNumber_12
  have e : (nI t < (1000 : Int32)) ↔ t < 1000 := nI_ltI (b := 1000) h (by decide)
  by_cases c : 1000 ≤ t
  · rw [if_neg (fun w => by have := e.mp w; omega), decide_eq_true c]
    rfl
  · rw [if_pos (e.mpr (by omega)), decide_eq_false c]
    rfl
theorem isName_q {t : Nat} (h : t < 2 ^ 31) : f_X7_isName (nI t) = some (bI (decide (100 ≤ t ∧ t ≤ 107))) := by
  unfold f_X7_isName g_X7_isName_16 g_X7_isName_17
  have e : (nI t < (100 : Int32)) ↔ t < 100 := nI_ltI (b := 100) h (by decide)
  have e2 : ((107 : Int32) < nI t) ↔ 107 < t := nI_ltI (a := 107) (by decide) h
  by_cases c : t < 100
  · rw [if_pos (e.mpr c), decide_eq_false (by omega)]
    rfl
  · rw [if_neg (fun w => c (e.mp w))]
    by_cases c2 : 107 < t
    · rw [if_pos (e2.mpr c2), decide_eq_false (by omega)]
      rfl
    · rw [if_neg (fun w => c2 (e2.mp w)), decide_eq_true (by omega)]
      rfl
theorem fwp_q (x : Int32) : ∃ v, f_X3_faultWithoutPart x = some v ∧ ¬ v = 0 := by
  unfold f_X3_faultWithoutPart g_X3_faultWithoutPart_31 g_X3_faultWithoutPart_32 g_X3_faultWithoutPart_42
  by_cases c1 : x = 2
  · rw [if_pos c1]; exact ⟨_, rfl, by decide⟩
  rw [if_neg c1]
  by_cases c2 : x < 3
  · rw [if_pos c2]; exact ⟨1, rfl, by decide⟩
  rw [if_neg c2]
  by_cases c3 : 9 < x
  · rw [if_pos c3]; exact ⟨1, rfl, by decide⟩
  rw [if_neg c3]
  exact ⟨3, rfl, by decide⟩
theorem fwp_v {t : Nat} (ht : t < 11000) : f_X3_faultWithoutPart (nI t) = some (fwv t) := by
  have e1 : nI t = 2 ↔ t = 2 := nI_eq (b := 2) (by omega) (by decide)
  have e2 : (nI t < (3 : Int32)) ↔ t < 3 := nI_ltI (b := 3) (by omega) (by decide)
  have e3 : ((9 : Int32) < nI t) ↔ 9 < t := nI_ltI (a := 9) (by decide) (by omega)
  unfold f_X3_faultWithoutPart g_X3_faultWithoutPart_31 g_X3_faultWithoutPart_32 g_X3_faultWithoutPart_42
  by_cases c1 : t = 2
  · rw [if_pos (e1.mpr c1), fw2 c1]
  rw [if_neg (fun w => c1 (e1.mp w))]
  by_cases c2 : t < 3
  · rw [if_pos (e2.mpr c2), fw1 c1 (by omega)]; rfl
  rw [if_neg (fun w => c2 (e2.mp w))]
  by_cases c3 : 9 < t
  · rw [if_pos (e3.mpr c3), fw1 c1 (by omega)]; rfl
  rw [if_neg (fun w => c3 (e3.mp w)), fw3 (by omega)]; rfl
theorem num_m1 : f_X7_isNumber (-1) = some 0 := by decide +kernel
theorem nam_m1 : f_X7_isName (-1) = some 0 := by decide +kernel
section
variable {b a : Nat → Int32} {ch : Nat → Nat} {n K T k H : Nat} {tk st r0 : Nat → Int32} {fu : Nat} {C X : List Int32} {code row : Nat → Int32} {cs at' tok pl d mat mt ms mb me bp x : Int32}
variable {ke : Int32 → (Nat → Int32) → Int32 → Int32 → Int32 → Int32 → Int32 → Option ((Nat → Int32) × Int32 × Int32 × Int32 × Int32 × Int32)} {kem : Int32 → (Nat → Int32) → Int32 → Int32 → Int32 → Int32 → Int32 → Int32 → Int32 → Int32 → Option ((Nat → Int32) × Int32 × Int32 × Int32 × Int32 × Int32 × Int32 × Int32 × Int32)}
theorem stp (h : BY b a ch) (hn : n ≤ 400) (hfu : 500 < fu) (k : Nat) (t0 s0 b0 e0 : Int32) : f_X11_step fu a (nI n) (nI (psn ch n (k + 1))) t0 s0 b0 e0 = some (nI (psn ch n (k + 1 + 1)), nI (MKd ch n (k + 1)), nI (MSd ch n (k + 1)), nI (SS ch n (k + 1)), nI (psn ch n (k + 1 + 1))) := step_q h hn hfu (psn_le _) _ _ _ _
theorem res_err {rb : Option ((Nat → Int32) × Int32 × Int32 × Int32 × Int32 × Int32)} {rm : Option ((Nat → Int32) × Int32 × Int32 × Int32 × Int32 × Int32 × Int32 × Int32 × Int32)} {f g : Int32} (h1 : rb = some (code, cs, at', tok, f, pl)) (h2 : rm = some (row, d, mat, mt, ms, mb, me, g, bp)) (h3 : ERR f g pl bp tok cs) (h4 : RFw T r0 row) : RES ch n K T r0 H k C rb rm :=
  ⟨_, _, _, _, _, _, _, _, _, _, _, _, _, _, _, h1, h2, Or.inr ⟨h3, h4⟩⟩
theorem tr_num {v : Nat} (hv : v ≤ 9999) : tr1 (nI (1000 + v)) = [0, nI v] := by
  unfold tr1
  have e : (1000 : Int32) ≤ nI (1000 + v) := nI_le (a := 1000) (by omega) (by omega)
  have e2 : nI (1000 + v) - 1000 = nI v := by
    have := nI_sub (i := 1000) (j := 1000 + v) (by omega)
    rw [show 1000 + v - 1000 = v by omega] at this
    exact this
  rw [if_pos e, e2]
theorem tr_nam {j : Nat} (hj : j < 8) : tr1 (nI (100 + j)) = [nI (20 + j)] := (by decide +kernel : ∀ j, j < 8 → tr1 (nI (100 + j)) = [nI (20 + j)]) j hj
/-- one token that is a value by itself -/
theorem push_q (hS : SCK ch n tk st K) (hk : k < K) (hb : OKb ch n k C code cs at' tok) : ∃ code', g_X3_readPart_20 tk code cs at' tok 0 pl = some (code', nI (C ++ [tok]).length, nI (k + 1), nI (TK ch n (k + 1)), 0, pl) ∧ OKb ch n (k + 1) (C ++ [tok]) code' (nI (C ++ [tok]).length) (nI (k + 1)) (nI (TK ch n (k + 1))) := by
  obtain ⟨rfl, rfl, rfl, hA, hl⟩ := hb
  have hK := hS.1
  obtain ⟨code', e1, e2⟩ := emit_b hA (by omega) (nI (TK ch n k))
  unfold g_X3_readPart_20 g_X3_readPart_87
  rw [e1, adv_b hS hk]
  exact ⟨code', rfl, rfl, rfl, rfl, e2, by rw [List.length_append]; show C.length + 1 ≤ k + 1; omega⟩
theorem num_m (h : BY b a ch) (hn : n ≤ 400) {s e : Nat} (hse : s ≤ e) (he : e ≤ n) (hd : ∀ j, s ≤ j → j < e → isD (ch j) = true) {mat mt ms mb : Int32} : ∀ kf j, s + j ≤ e → e - (s + j) < kf → f_X11_readPart_41 fu (nI T) a (nI n) kf (nI (nvl ch s j), nI (s + j), row, d, mat, mt, ms, mb, nI e, 0, bp) = g_X11_readPart_77 fu (nI T) a (nI n) row d mat mt ms mb (nI e) 0 bp (nI (nvl ch s (e - s))) := by
  intro kf
  induction kf with
  | zero => intro j _ h0; omega
  | succ kf ih =>
    intro j hj hk
    show g_X11_readPart_41 fu (nI T) a (nI n) row d mat mt ms mb (nI e) 0 bp (fun p q r s u v w x y z t => f_X11_readPart_41 fu (nI T) a (nI n) kf (p, q, r, s, u, v, w, x, y, z, t)) (nI (nvl ch s j)) (nI (s + j)) = _
    unfold g_X11_readPart_41
    rcases Nat.lt_or_ge (s + j) e with q | q
    · have hc := dig48 (hd (s + j) (by omega) q)
      have e48 : nI (nvl ch s j * 10 + ch (s + j)) - 48 = nI (nvl ch s j * 10 + ch (s + j) - 48) := nI_sub (i := 48) (by omega)
      rw [if_neg (nI_ge q (by omega)), if_pos rfl, if_pos (inb_nI (N := 400) (by omega) (by decide)), nI_clamp (by omega), (h (s + j)).1, m10', nI_add, e48, nI_1]
      have := ih (j + 1) (by omega) (by omega)
      rw [nvl, show nvl ch s j * 10 + (ch (s + j) - 48) = nvl ch s j * 10 + ch (s + j) - 48 by omega] at this
      exact this
    · have e1 : e - s = j := by omega
      rw [if_pos (nI_le q (by omega)), e1]
def nmv (t j : Nat) : Int32 := if 100 ≤ t ∧ t < 100 + j then nI (t - 100) else -1
theorem nam_m (h : BY b a ch) (hn : n ≤ 400) (hfu : 500 < fu) {s : Nat} (hs : s ≤ n) {mat ms bad : Int32} : ∀ kf j, j ≤ 8 → 8 - j < kf → f_X11_readPart_102 fu (nI T) a (nI n) kf (nmv (tk1 ch n s) j, nI j, row, d, mat, nI (mk1 ch n s), ms, nI s, nI (en1 ch n s), bad, bp) = if nmv (tk1 ch n s) 8 = -1 then (f_X11_wrong (nI s) bad bp 3).bind fun v18 => g_X11_readPart_139 fu (nI T) a (nI n) row d mat (nI (mk1 ch n s)) ms (nI s) (nI (en1 ch n s)) v18.1 v18.2 (nmv (tk1 ch n s) 8) else g_X11_readPart_139 fu (nI T) a (nI n) row d mat (nI (mk1 ch n s)) ms (nI s) (nI (en1 ch n s)) bad bp (nmv (tk1 ch n s) 8) := by
  intro kf
  induction kf with
  | zero => intro j _ h0; omega
  | succ kf ih =>
    intro j hj hk
    show g_X11_readPart_102 fu (nI T) a (nI n) row d mat (nI (mk1 ch n s)) ms (nI s) (nI (en1 ch n s)) bad bp (fun p q r s u v w x y z t => f_X11_readPart_102 fu (nI T) a (nI n) kf (p, q, r, s, u, v, w, x, y, z, t)) (nmv (tk1 ch n s) j) (nI j) = _
    unfold g_X11_readPart_102 g_X11_readPart_123
    rcases Nat.lt_or_ge j 8 with q | q
    · have q8 : ¬ (8 : Int32) ≤ nI j := nI_ge (b := 8) q (by decide)
      have hcd : cd (9 + j) = 100 + j := by unfold cd; rw [if_neg (by omega)]; omega
      rw [if_neg q8, if_pos (inb_nI (N := 8) q (by decide)), nI_clamp (by omega), word_x h hn hfu hs (x := 24 + j) (y := 9 + j) (by omega) (W_m.1 j q) (by omega) (by omega), hcd, nI_1]
      simp only [Option.bind_some]
      have hi := ih (j + 1) (by omega) (by omega)
      by_cases e : tk1 ch n s = 100 + j
      · rw [decide_eq_true e, if_neg (by decide)]
        have e2 : nmv (tk1 ch n s) (j + 1) = nI j := by unfold nmv; rw [if_pos (by omega), e, show 100 + j - 100 = j by omega]
        rw [e2] at hi
        exact hi
      · rw [decide_eq_false e, if_pos (by decide)]
        have e2 : nmv (tk1 ch n s) (j + 1) = nmv (tk1 ch n s) j := by
          unfold nmv
          by_cases w : 100 ≤ tk1 ch n s ∧ tk1 ch n s < 100 + j
          · rw [if_pos w, if_pos (by omega)]
          · rw [if_neg w, if_neg (by omega)]
        rw [e2] at hi
        exact hi
    · have e : j = 8 := by omega
      subst e
      rw [if_pos (by decide)]
theorem fin_m (h : BY b a ch) (hn : n ≤ 400) (hfu : 500 < fu) (k : Nat) (mt ms mb me : Int32) : g_X11_readPart_199 fu a (nI n) row d (nI (psn ch n (k + 1))) mt ms mb me 0 bp = some (row, d, nI (psn ch n (k + 1 + 1)), nI (MKd ch n (k + 1)), nI (MSd ch n (k + 1)), nI (SS ch n (k + 1)), nI (psn ch n (k + 1 + 1)), 0, bp) := by
  unfold g_X11_readPart_199 g_X11_readPart_210
  rw [if_pos rfl, stp h hn hfu]
  rfl
theorem fin_e {bad : Int32} (hb : ¬ bad = 0) : g_X11_readPart_199 fu a (nI n) row d mat mt ms mb me bad bp = some (row, d, mat, mt, ms, mb, me, bad, bp) := by
  unfold g_X11_readPart_199 g_X11_readPart_210
  rw [if_neg hb]
theorem isSg (c : Nat) (hc : c = 40 ∨ c = 41 ∨ c = 59 ∨ c = 43 ∨ c = 45 ∨ c = 60 ∨ c = 61) : f_X11_isSign (nI (MKd ch n k)) (nI (MSd ch n k)) (nI c) = some (bI (decide (TK ch n k = c))) := sign_q _ c hc
theorem part_q (h : BY b a ch) (hn : n ≤ 400) (hfu : 500 < fu) (hT : T ≤ 5) (hS : SCK ch n tk st K) (hH : 1 ≤ H) (hke : KEX ch n K T r0 H (ke (x + 1)) (kem (x + 1))) : KEX ch n K T r0 H (fun code cs at' tok f pl => f_X3_readPart tk st code cs at' tok f pl ke x) (fun row d mat mt ms mb me g bp => f_X11_readPart fu (nI T) a (nI n) row d mat mt ms mb me g bp kem x) := by
  intro k C code cs at' tok pl row d mat mt ms mb me bp hk hb hm hC
  have hK := hS.1
  have hb0 := hb
  obtain ⟨rfl, rfl, rfl, hA, hl⟩ := hb
  obtain ⟨rfl, rfl, rfl, rfl, rfl, rfl, hR, hF⟩ := hm
  have hps : psn ch n k ≤ n := psn_le k
  have htl : TK ch n k < 11000 := tk_lt _
  show RES ch n K T r0 H k C (f_X3_readPart tk st code (nI C.length) (nI k) (nI (TK ch n k)) 0 pl ke x) (f_X11_readPart fu (nI T) a (nI n) row (nI (trl C).length) (nI (psn ch n (k + 1))) (nI (MKd ch n k)) (nI (MSd ch n k)) (nI (SS ch n k)) (nI (psn ch n (k + 1))) 0 bp kem x)
  -- a fault here
  have bad : ¬ 1000 ≤ TK ch n k → ¬ (100 ≤ TK ch n k ∧ TK ch n k ≤ 107) → TK ch n k ≠ 40 → ∀ row' d' g, ¬ g = 0 → fwv (TK ch n k) = g → RFw T r0 row' → f_X11_readPart fu (nI T) a (nI n) row (nI (trl C).length) (nI (psn ch n (k + 1))) (nI (MKd ch n k)) (nI (MSd ch n k)) (nI (SS ch n k)) (nI (psn ch n (k + 1))) 0 bp kem x = some (row', d', nI (psn ch n (k + 1)), nI (MKd ch n k), nI (MSd ch n k), nI (SS ch n k), nI (psn ch n (k + 1)), g, nI (SS ch n k)) → RES ch n K T r0 H k C (f_X3_readPart tk st code (nI C.length) (nI k) (nI (TK ch n k)) 0 pl ke x) (f_X11_readPart fu (nI T) a (nI n) row (nI (trl C).length) (nI (psn ch n (k + 1))) (nI (MKd ch n k)) (nI (MSd ch n k)) (nI (SS ch n k)) (nI (psn ch n (k + 1))) 0 bp kem x) := fun c1 c2 c3 row' d' g hg hgv hr hm => by
    obtain ⟨v, ev, hv⟩ := fwp_q (nI (TK ch n k))
    have hvv : v = fwv (TK ch n k) := Option.some.inj (ev.symm.trans (fwp_v htl))
    have e40 : nI (TK ch n k) = 40 ↔ TK ch n k = 40 := nI_eq (b := 40) (by omega) (by decide)
    refine res_err (f := v) (g := g) ?_ hm ⟨rfl, hv, hg, rfl, C.length, by omega, rfl, Or.inl (hvv.trans hgv)⟩ hr (tok := -1) (cs := nI C.length) (code := code) (at' := nI k) (pl := nI (SS ch n k))
    unfold f_X3_readPart g_X3_readPart_87
    rw [isNum_q (by omega), decide_eq_false c1]
    simp only [Option.bind_some]
    rw [if_pos (by decide), isName_q (by omega), decide_eq_false c2]
    simp only [Option.bind_some]
    rw [if_pos (by decide), if_neg (fun w => c3 (e40.mp w)), ev]
    simp only [Option.bind_some]
    rw [blame_b hS hk]
    rfl
  -- a value by itself
  have good : k < K → isPush (nI (TK ch n k)) → (1000 ≤ TK ch n k ∨ (100 ≤ TK ch n k ∧ TK ch n k ≤ 107)) → ∀ row', AL row' (700 * T) (trl (C ++ [nI (TK ch n k)])) → RFw T r0 row' → f_X11_readPart fu (nI T) a (nI n) row (nI (trl C).length) (nI (psn ch n (k + 1))) (nI (MKd ch n k)) (nI (MSd ch n k)) (nI (SS ch n k)) (nI (psn ch n (k + 1))) 0 bp kem x = some (row', nI (trl (C ++ [nI (TK ch n k)])).length, nI (psn ch n (k + 1 + 1)), nI (MKd ch n (k + 1)), nI (MSd ch n (k + 1)), nI (SS ch n (k + 1)), nI (psn ch n (k + 1 + 1)), 0, bp) → (tr1 (nI (TK ch n k))).length ≤ 2 → RES ch n K T r0 H k C (f_X3_readPart tk st code (nI C.length) (nI k) (nI (TK ch n k)) 0 pl ke x) (f_X11_readPart fu (nI T) a (nI n) row (nI (trl C).length) (nI (psn ch n (k + 1))) (nI (MKd ch n k)) (nI (MSd ch n k)) (nI (SS ch n k)) (nI (psn ch n (k + 1))) 0 bp kem x) := fun hk2 hp c row' a1 a2 hm hlen => by
    obtain ⟨code', e1, e2⟩ := push_q (pl := pl) hS hk2 hb0
    have hps2 := ps_lt hS hk2
    refine ⟨code', _, _, _, 0, pl, row', _, _, _, _, _, _, 0, bp, ?_, hm, Or.inl ⟨rfl, rfl, k + 1, [nI (TK ch n k)], by omega, hk2, ⟨1, hH, wf_push hp⟩, by show 1 + k ≤ k + 1; omega, by rw [trl_one]; omega, e2, rfl, rfl, rfl, rfl, rfl, rfl, a1, a2⟩⟩
    unfold f_X3_readPart
    rw [isNum_q (by omega)]
    simp only [Option.bind_some]
    rcases c with c | c
    · rw [decide_eq_true c, if_neg (by decide)]
      exact e1
    · rw [decide_eq_false (by omega), if_pos (by decide), isName_q (by omega), decide_eq_true c]
      simp only [Option.bind_some]
      rw [if_neg (by decide)]
      exact e1
  have hss : SS ch n k ≤ n := ss_le k
  have w1 : ∀ g : Int32, f_X11_wrong (nI (SS ch n k)) 0 bp g = some (g, nI (SS ch n k)) := fun g => by unfold f_X11_wrong; rw [if_pos rfl]
  have hK2 : TK ch n k ≠ 0 → k < K := tk_lt_K hS hk
  have hme : psn ch n (k + 1) = en1 ch n (SS ch n k) := rfl
  have hpe := en1_le (ch := ch) hss
  -- not a word, nor a number
  have other : MKd ch n k ≠ 1 → MKd ch n k ≠ 2 → MKd ch n k < 5 → TK ch n k ≠ 40 → f_X11_readPart fu (nI T) a (nI n) row (nI (trl C).length) (nI (psn ch n (k + 1))) (nI (MKd ch n k)) (nI (MSd ch n k)) (nI (SS ch n k)) (nI (psn ch n (k + 1))) 0 bp kem x = some (row, nI (trl C).length, nI (psn ch n (k + 1)), nI (MKd ch n k), nI (MSd ch n k), nI (SS ch n k), nI (psn ch n (k + 1)), 1, nI (SS ch n k)) := fun m1 m2 m5 c3 => by
    have f1 : nI (MKd ch n k) = 1 ↔ MKd ch n k = 1 := nI_eq (b := 1) (by omega) (by decide)
    have f2 : nI (MKd ch n k) = 2 ↔ MKd ch n k = 2 := nI_eq (b := 2) (by omega) (by decide)
    have hsg : f_X11_isSign (nI (MKd ch n k)) (nI (MSd ch n k)) 40 = _ := isSg 40 (Or.inl rfl)
    unfold f_X11_readPart
    rw [if_pos rfl, if_neg (fun w => m2 (f2.mp w)), if_neg (fun w => m1 (f1.mp w)), hsg, decide_eq_false c3]
    simp only [Option.bind_some]
    rw [if_pos (by decide), w1]
    simp only [Option.bind_some]
    exact fin_e (by decide)
  rcases tk_cases (ch := ch) (n := n) (SS ch n k) with q | q | q | q | q | q
  · -- the end
    have t0 : TK ch n k = 0 := q.2.1
    have m0 : MKd ch n k = 0 := q.2.2
    exact bad (by omega) (by omega) (by omega) _ _ 1 (by decide) (fw1 (by omega) (by omega)) hF (other (by omega) (by omega) (by omega) (by omega))
  · -- a word
    have m1 : MKd ch n k = 1 := q.2.2
    have m1' : mk1 ch n (SS ch n k) = 1 := q.2.2
    have hr := wi_rng (sl ch (SS ch n k) (en1 ch n (SS ch n k)))
    have hr2 : (3 ≤ TK ch n k ∧ TK ch n k ≤ 9) ∨ (100 ≤ TK ch n k ∧ TK ch n k ≤ 107) := by
      have e : TK ch n k = wi (sl ch (SS ch n k) (en1 ch n (SS ch n k))) := q.2.1
      rw [e]
      exact hr
    have hmm : f_X11_readPart fu (nI T) a (nI n) row (nI (trl C).length) (nI (psn ch n (k + 1))) (nI (MKd ch n k)) (nI (MSd ch n k)) (nI (SS ch n k)) (nI (psn ch n (k + 1))) 0 bp kem x = if nmv (TK ch n k) 8 = -1 then (f_X11_wrong (nI (SS ch n k)) 0 bp 3).bind fun v18 => g_X11_readPart_139 fu (nI T) a (nI n) row (nI (trl C).length) (nI (psn ch n (k + 1))) (nI (MKd ch n k)) (nI (MSd ch n k)) (nI (SS ch n k)) (nI (psn ch n (k + 1))) v18.1 v18.2 (nmv (TK ch n k) 8) else g_X11_readPart_139 fu (nI T) a (nI n) row (nI (trl C).length) (nI (psn ch n (k + 1))) (nI (MKd ch n k)) (nI (MSd ch n k)) (nI (SS ch n k)) (nI (psn ch n (k + 1))) 0 bp (nmv (TK ch n k) 8) := by
      have f1 : nI (MKd ch n k) = 1 := by rw [m1]; rfl
      have f2 : ¬ nI (MKd ch n k) = 2 := by rw [m1]; decide
      unfold f_X11_readPart
      rw [if_pos rfl, if_neg f2, if_pos f1]
      have e0 : nmv (tk1 ch n (SS ch n k)) 0 = -1 := by unfold nmv; rw [if_neg (by omega)]
      have := nam_m (T := T) (row := row) (d := nI (trl C).length) (bp := bp) (mat := nI (psn ch n (k + 1))) (ms := nI (MSd ch n k)) (bad := 0) h hn hfu hss fu 0 (by omega) (by omega)
      rw [e0] at this
      exact this
    rcases hr2 with c | c
    · have en : nmv (TK ch n k) 8 = -1 := by unfold nmv; rw [if_neg (by omega)]
      refine bad (by omega) (by omega) (by omega) row (nI (trl C).length) 3 (by decide) (fw3 c) hF ?_
      rw [hmm, if_pos en, w1]
      simp only [Option.bind_some]
      unfold g_X11_readPart_139
      rw [emit_me (by decide)]
      simp only [Option.bind_some]
      exact fin_e (by decide)
    · obtain ⟨j, hj, ej⟩ : ∃ j, j < 8 ∧ TK ch n k = 100 + j := ⟨TK ch n k - 100, by omega, by omega⟩
      have en : nmv (TK ch n k) 8 = nI j := by unfold nmv; rw [if_pos (by omega), ej, show 100 + j - 100 = j by omega]
      have hk2 := hK2 (by omega)
      have htr : tr1 (nI (TK ch n k)) = [nI (20 + j)] := by rw [ej]; exact tr_nam hj
      obtain ⟨row', e1, e2, e3⟩ := emit_m (C := trl C) hT hR hF (by omega) (nI (20 + j))
      refine good hk2 (Or.inr ⟨j, hj, by rw [ej]⟩) (Or.inr c) row' (by rw [trl_app, trl_one, htr]; exact e2) e3 ?_ (by rw [htr]; show 1 ≤ 2; omega)
      have e20 : (20 : Int32) + nI j = nI (20 + j) := nI_add 20 j
      rw [hmm, en, if_neg (ne_m1 j (by omega))]
      unfold g_X11_readPart_139
      rw [e20, e1]
      simp only [Option.bind_some]
      rw [fin_m h hn hfu, trl_app, trl_one, htr]
  · -- a number
    obtain ⟨q1, q2, q3, q4, q5, q6⟩ := q
    have et : TK ch n k = 1000 + nvl ch (SS ch n k) (en1 ch n (SS ch n k) - SS ch n k) := q3
    have m2 : MKd ch n k = 2 := q5
    have hk2 := hK2 (by omega)
    generalize hv : nvl ch (SS ch n k) (en1 ch n (SS ch n k) - SS ch n k) = v at et q4
    have htr : tr1 (nI (TK ch n k)) = [0, nI v] := by rw [et]; exact tr_num q4
    obtain ⟨row1, e1, e2, e3⟩ := emit_m (C := trl C) hT hR hF (by omega) 0
    obtain ⟨row2, f1, f2, f3⟩ := emit_m (C := trl C ++ [0]) hT e2 e3 (by rw [List.length_append]; show (trl C).length + 1 < 700; omega) (nI v)
    have htl2 : trl (C ++ [nI (TK ch n k)]) = trl C ++ [0] ++ [nI v] := by rw [trl_app, trl_one, htr, List.append_assoc]; rfl
    refine good hk2 (Or.inl ⟨v, q4, by rw [et]⟩) (Or.inl (by omega)) row2 (by rw [htl2]; exact f2) f3 ?_ (by rw [htr]; show 2 ≤ 2; omega)
    have e4 : (nI (psn ch n (k + 1)) - nI (SS ch n k) ≤ (4 : Int32)) := by
      rw [nI_sub (by rw [hme]; omega), hme]
      exact nI_le (b := 4) q2 (by decide)
    have g2 : nI (MKd ch n k) = 2 := by rw [m2]; rfl
    have hloop := num_m (fu := fu) (T := T) (row := row) (d := nI (trl C).length) (bp := bp) (mat := nI (psn ch n (k + 1))) (mt := nI (MKd ch n k)) (ms := nI (MSd ch n k)) (mb := nI (SS ch n k)) h hn hpe.1 hpe.2 q6 fu 0 hpe.1 (by omega)
    unfold f_X11_readPart g_X11_readPart_34
    rw [if_pos rfl, if_pos g2, if_pos e4]
    have hl2 : f_X11_readPart_41 fu (nI T) a (nI n) fu (0, nI (SS ch n k), row, nI (trl C).length, nI (psn ch n (k + 1)), nI (MKd ch n k), nI (MSd ch n k), nI (SS ch n k), nI (psn ch n (k + 1)), 0, bp) = g_X11_readPart_77 fu (nI T) a (nI n) row (nI (trl C).length) (nI (psn ch n (k + 1))) (nI (MKd ch n k)) (nI (MSd ch n k)) (nI (SS ch n k)) (nI (psn ch n (k + 1))) 0 bp (nI v) := by
      rw [← hv]
      exact hloop
    rw [hl2]
    unfold g_X11_readPart_77
    rw [e1]
    simp only [Option.bind_some]
    rw [f1]
    simp only [Option.bind_some]
    rw [fin_m h hn hfu, htl2]
  · -- a number that is too long
    have t2 : TK ch n k = 2 := q.2.2.1
    have m2 : MKd ch n k = 2 := q.2.2.2
    refine bad (by omega) (by omega) (by omega) row (nI (trl C).length) 2 (by decide) (fw2 t2) hF ?_
    have g2 : nI (MKd ch n k) = 2 := by rw [m2]; rfl
    have e4 : ¬ (nI (psn ch n (k + 1)) - nI (SS ch n k) ≤ (4 : Int32)) := by
      rw [nI_sub (by rw [hme]; omega), hme]
      exact nI_ge (a := 4) (by omega) (by omega)
    unfold f_X11_readPart g_X11_readPart_34
    rw [if_pos rfl, if_pos g2, if_neg e4, w1]
    simp only [Option.bind_some]
    cases fu with
    | zero => omega
    | succ f =>
      show g_X11_readPart_41 (f + 1) (nI T) a (nI n) row (nI (trl C).length) (nI (psn ch n (k + 1))) (nI (MKd ch n k)) (nI (MSd ch n k)) (nI (SS ch n k)) (nI (psn ch n (k + 1))) 2 (nI (SS ch n k)) (fun p q r s u v w x y z t => f_X11_readPart_41 (f + 1) (nI T) a (nI n) f (p, q, r, s, u, v, w, x, y, z, t)) 0 (nI (SS ch n k)) = _
      have h77 : ∀ v : Int32, g_X11_readPart_77 (f + 1) (nI T) a (nI n) row (nI (trl C).length) (nI (psn ch n (k + 1))) (nI (MKd ch n k)) (nI (MSd ch n k)) (nI (SS ch n k)) (nI (psn ch n (k + 1))) 2 (nI (SS ch n k)) v = some (row, nI (trl C).length, nI (psn ch n (k + 1)), nI (MKd ch n k), nI (MSd ch n k), nI (SS ch n k), nI (psn ch n (k + 1)), 2, nI (SS ch n k)) := fun v => by
        unfold g_X11_readPart_77
        rw [emit_me (by decide)]
        simp only [Option.bind_some]
        rw [emit_me (by decide)]
        simp only [Option.bind_some]
        exact fin_e (by decide)
      unfold g_X11_readPart_41
      rw [h77, if_neg (by decide : ¬ (2 : Int32) = 0), ite_self]
  · -- a sign
    obtain ⟨q1, q2, q3, q4, q5, q6⟩ := q
    have hsm := sgn_mem q3
    have et : TK ch n k = ch (SS ch n k) := q4
    have m3 : MKd ch n k = 3 := q2
    by_cases c : TK ch n k = 40
    · -- an expression in brackets
      have hk2 := hK2 (by omega)
      have hps2 := ps_lt hS hk2
      have hsg : f_X11_isSign (nI (MKd ch n k)) (nI (MSd ch n k)) 40 = _ := isSg 40 (Or.inl rfl)
      have hin := hke (k + 1) C code (nI C.length) (nI (k + 1)) (nI (TK ch n (k + 1))) pl row (nI (trl C).length) (nI (psn ch n (k + 1 + 1))) (nI (MKd ch n (k + 1))) (nI (MSd ch n (k + 1))) (nI (SS ch n (k + 1))) (nI (psn ch n (k + 1 + 1))) bp hk2 ⟨rfl, rfl, rfl, hA, by omega⟩ ⟨rfl, rfl, rfl, rfl, rfl, rfl, hR, hF⟩ (by omega)
      obtain ⟨code1, cs1, at1, tok1, f1, pl1, row1, d1, mat1, mt1, ms1', mb1, me1, g1, bp1, eb, em, hres⟩ := hin
      have eB : f_X3_readPart tk st code (nI C.length) (nI k) (nI (TK ch n k)) 0 pl ke x = if tok1 = 41 then (f_X3_advance tk at1).bind fun v14 => g_X3_readPart_87 code1 cs1 v14.1 v14.2 f1 pl1 else (f_X3_blame st at1 tok1 f1 pl1 1).bind fun v13 => g_X3_readPart_87 code1 cs1 at1 v13.1 v13.2.1 v13.2.2 := by
        unfold f_X3_readPart
        rw [isNum_q (by omega), decide_eq_false (by omega)]
        simp only [Option.bind_some]
        rw [if_pos (by decide), isName_q (by omega), decide_eq_false (by omega)]
        simp only [Option.bind_some]
        rw [if_pos (by decide), if_pos (by rw [c]; rfl), adv_b hS hk2]
        simp only [Option.bind_some]
        rw [eb]
        rfl
      have eM : f_X11_readPart fu (nI T) a (nI n) row (nI (trl C).length) (nI (psn ch n (k + 1))) (nI (MKd ch n k)) (nI (MSd ch n k)) (nI (SS ch n k)) (nI (psn ch n (k + 1))) 0 bp kem x = if g1 = 0 then (f_X11_isSign mt1 ms1' 41).bind fun v12 => if v12 = 0 then (f_X11_wrong mb1 g1 bp1 1).bind fun v14 => g_X11_readPart_199 fu a (nI n) row1 d1 mat1 mt1 ms1' mb1 me1 v14.1 v14.2 else g_X11_readPart_199 fu a (nI n) row1 d1 mat1 mt1 ms1' mb1 me1 g1 bp1 else g_X11_readPart_199 fu a (nI n) row1 d1 mat1 mt1 ms1' mb1 me1 g1 bp1 := by
        have f1 : ¬ nI (MKd ch n k) = 1 := by rw [m3]; decide
        have f2 : ¬ nI (MKd ch n k) = 2 := by rw [m3]; decide
        unfold f_X11_readPart
        rw [if_pos rfl, if_neg f2, if_neg f1, hsg, decide_eq_true c]
        simp only [Option.bind_some]
        rw [if_neg (by decide), stp h hn hfu]
        simp only [Option.bind_some]
        rw [em]
        rfl
      rw [eB, eM]
      rcases hres with ⟨rfl, rfl, k', X, r1, r2, r3, r4, r5, r6, r7⟩ | ⟨r1, r2⟩
      · obtain ⟨rfl, rfl, rfl, s4, s5⟩ := r6
        obtain ⟨rfl, rfl, rfl, rfl, rfl, rfl, s6, s7⟩ := r7
        have htl' : TK ch n k' < 11000 := tk_lt _
        have e41 : nI (TK ch n k') = 41 ↔ TK ch n k' = 41 := nI_eq (b := 41) (by omega) (by decide)
        have hs41 : f_X11_isSign (nI (MKd ch n k')) (nI (MSd ch n k')) 41 = _ := isSg 41 (Or.inr (Or.inl rfl))
        rw [if_pos rfl, hs41]
        simp only [Option.bind_some]
        by_cases c2 : TK ch n k' = 41
        · have hk3 := tk_lt_K hS r2 (by omega)
          have hps3 := ps_lt hS hk3
          rw [if_pos (e41.mpr c2), decide_eq_true c2, if_neg (by decide), adv_b hS hk3, fin_m h hn hfu]
          refine ⟨_, _, _, _, _, _, _, _, _, _, _, _, _, _, _, rfl, rfl, Or.inl ⟨rfl, rfl, k' + 1, X, by omega, hk3, r3, by omega, by omega, ⟨rfl, rfl, rfl, s4, by omega⟩, rfl, rfl, rfl, rfl, rfl, rfl, s6, s7⟩⟩
        · rw [if_neg (fun w => c2 (e41.mp w)), decide_eq_false c2, if_pos (by decide), blame_b hS r2, show f_X11_wrong (nI (SS ch n k')) 0 bp1 1 = some (1, nI (SS ch n k')) by unfold f_X11_wrong; rw [if_pos rfl]]
          simp only [Option.bind_some]
          rw [fin_e (by decide)]
          exact res_err rfl rfl ⟨rfl, by decide, by decide, rfl, _, by omega, rfl, Or.inl rfl⟩ s7
      · obtain ⟨rfl, s2, s3, rfl, c0, s4, rfl, kd⟩ := r1
        rw [if_neg (by decide : ¬ (-1 : Int32) = 41), blame_e s2, if_neg s3, fin_e s3]
        exact res_err rfl rfl ⟨rfl, s2, s3, rfl, c0, s4, rfl, kd⟩ r2
    · exact bad (by omega) (by omega) c _ _ 1 (by decide) (fw1 (by omega) (by omega)) hF (other (by omega) (by omega) (by omega) c)
  · -- no token
    have t1 : TK ch n k = 1 := q.2.2
    have m4 : MKd ch n k = 4 := q.2.1
    exact bad (by omega) (by omega) (by omega) _ _ 1 (by decide) (fw1 (by omega) (by omega)) hF (other (by omega) (by omega) (by omega) (by omega))
theorem part_e (ke) : KER T r0 (fun code cs at' tok f pl => f_X3_readPart tk st code cs at' tok f pl ke x) := by
  intro code cs at' f pl c hf hc hcs
  obtain ⟨v, ev, hv⟩ := fwp_q (-1)
  refine ⟨code, c, hc, ?_⟩
  show f_X3_readPart tk st code cs at' (-1) f pl ke x = _
  unfold f_X3_readPart g_X3_readPart_87
  rw [num_m1]
  simp only [Option.bind_some]
  rw [if_pos trivial, nam_m1]
  simp only [Option.bind_some]
  rw [if_pos trivial, if_neg (by decide : ¬ (-1 : Int32) = 40), ev]
  simp only [Option.bind_some]
  rw [blame_e hf, hcs]
  rfl
theorem part_em {g : Int32} (hg : ¬ g = 0) : f_X11_readPart fu (nI T) a (nI n) row d mat mt ms mb me g bp kem x = some (row, d, mat, mt, ms, mb, me, g, bp) := by
  unfold f_X11_readPart
  rw [if_neg hg]
end
