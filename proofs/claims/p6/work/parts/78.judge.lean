/-! Judging: the rules of a text. -/
noncomputable def vl (Q : List Int32 → Int32 → Prop) (X : List Int32) : Int32 := @dite _ (∃ v, Q X v) (Classical.propDecidable _) (fun h => h.choose) (fun _ => 0)
theorem vl_ok {Q : List Int32 → Int32 → Prop} {X : List Int32} (h : ∃ v, Q X v) : Q X (vl Q X) := by
  unfold vl
  rw [dif_pos h]
  exact h.choose_spec
def stp1 (val : List Int32 → Int32) (w s : Int32) (r : Int32 × List Int32) : Int32 := if r.1 - 4 = w then (if w = 2 then s + val r.2 else if val r.2 = 0 then s else 1) else s
def rfo (val : List Int32 → Int32) (w s : Int32) (Rs : RL2) : Int32 := Rs.foldl (stp1 val w) s
theorem cdR_cons (r : Int32 × List Int32) (Rs : RL2) : cdR (r :: Rs) = r.2 ++ [r.1] ++ cdR Rs := by simp [cdR]
theorem bit_s {val : List Int32 → Int32} {w s : Int32} (hw : w = 0 ∨ w = 1) (hs : s = 0 ∨ s = 1) (r : Int32 × List Int32) : stp1 val w s r = 0 ∨ stp1 val w s r = 1 := by
  have h2 : ¬ w = 2 := by rcases hw with rfl | rfl <;> decide
  unfold stp1
  rw [if_neg h2]
  split
  · split
    · exact hs
    · exact Or.inr rfl
  · exact hs
theorem stp_n {val : List Int32 → Int32} {w s v : Int32} {X : List Int32} (h : ¬ v - 4 = w) : stp1 val w s (v, X) = s := by unfold stp1; rw [if_neg h]
theorem stp_y {val : List Int32 → Int32} {w s v : Int32} {X : List Int32} (h : v - 4 = w) (h2 : ¬ w = 2) : stp1 val w s (v, X) = if val X = 0 then s else 1 := by unfold stp1; rw [if_pos h, if_neg h2]
theorem stp_2 {val : List Int32 → Int32} {s v : Int32} {X : List Int32} (h : v - 4 = 2) : stp1 val 2 s (v, X) = s + val X := by unfold stp1; rw [if_pos h, if_pos rfl]
section
variable {names ops f : Nat → Int32} {n i k : Nat} {r d e : Int32} {val : List Int32 → Int32}
theorem verb_b {v : Int32} (hv : v = 4 ∨ v = 5 ∨ v = 6) (hr : r = 0 ∨ r = 1) (hd : d = 0 ∨ d = 1) (X : List Int32) (h0 : ops 0 = val X) : f_X2_work names ops (nI (0 + 1)) r d e v = some (ops, nI 0, stp1 val 0 r (v, X), stp1 val 1 d (v, X), stp1 val 2 e (v, X)) := by
  have hp : f_X2_pop ops (nI (0 + 1)) = some (val X, nI 0) := by rw [pop_b (by decide), h0]
  have b0 : isB 0 = true := rfl
  have b1 : isB 1 = true := rfl
  unfold f_X2_work g_X2_work_86 g_X2_work_117 g_X2_work_91 g_X2_work_122 g_X2_work_170
  rw [hp]
  rcases hv with rfl | rfl | rfl
  · rw [show f_X7_isNumber 4 = some 0 by decide +kernel, show f_X7_isName 4 = some 0 by decide +kernel, show stp1 val 1 d (4, X) = d from stp_n (by decide), show stp1 val 2 e (4, X) = e from stp_n (by decide), show stp1 val 0 r (4, X) = if val X = 0 then r else 1 from stp_y (by decide) (by decide)]
    simp only [Option.bind_some]
    rw [if_pos trivial, if_pos trivial, if_neg (by decide), if_pos trivial, if_pos b0, if_pos b1]
    by_cases c : val X = 0
    · rw [if_pos c, if_pos c]
      rcases hr with rfl | rfl
      · rfl
      · rfl
    · rw [if_neg c, if_neg c]
  · rw [show f_X7_isNumber 5 = some 0 by decide +kernel, show f_X7_isName 5 = some 0 by decide +kernel, show stp1 val 0 r (5, X) = r from stp_n (by decide), show stp1 val 2 e (5, X) = e from stp_n (by decide), show stp1 val 1 d (5, X) = if val X = 0 then d else 1 from stp_y (by decide) (by decide)]
    simp only [Option.bind_some]
    rw [if_pos trivial, if_pos trivial, if_neg (by decide), if_neg (by decide), if_pos trivial, if_pos b0, if_pos b1]
    by_cases c : val X = 0
    · rw [if_pos c, if_pos c]
      rcases hd with rfl | rfl
      · rfl
      · rfl
    · rw [if_neg c, if_neg c]
  · rw [show f_X7_isNumber 6 = some 0 by decide +kernel, show f_X7_isName 6 = some 0 by decide +kernel, show stp1 val 0 r (6, X) = r from stp_n (by decide), show stp1 val 1 d (6, X) = d from stp_n (by decide), show stp1 val 2 e (6, X) = e + val X from stp_2 (by decide)]
    simp only [Option.bind_some]
    rw [if_pos trivial, if_pos trivial, if_neg (by decide), if_neg (by decide), if_neg (by decide), if_pos trivial]
theorem rules_b (hn : n ≤ 400) : ∀ (Rs : RL2) (i k : Nat) (ops : Nat → Int32) (r d e : Int32), (∀ q ∈ Rs, (q.1 = 4 ∨ q.1 = 5 ∨ q.1 = 6) ∧ ∃ h, h ≤ 19 ∧ PBk names h q.2 (val q.2)) → AL f i (cdR Rs) → i + (cdR Rs).length ≤ n → (r = 0 ∨ r = 1) → (d = 0 ∨ d = 1) → ∃ ops', lp (g_X2_judge names n f) (k + (cdR Rs).length) (nI i, ops, nI 0, r, d, e) = lp (g_X2_judge names n f) k (nI (i + (cdR Rs).length), ops', nI 0, rfo val 0 r Rs, rfo val 1 d Rs, rfo val 2 e Rs) := by
  intro Rs
  induction Rs with
  | nil => intro i k ops r d e _ _ _ _ _; exact ⟨ops, rfl⟩
  | cons q Rs ih =>
    intro i k ops r d e hg hA hi hr hd
    obtain ⟨hv, h, h1, hb⟩ := hg q (List.mem_cons_self)
    rw [cdR_cons] at hA hi ⊢
    have hl : (q.2 ++ [q.1] ++ cdR Rs).length = q.2.length + 1 + (cdR Rs).length := by rw [List.length_append, List.length_append]; rfl
    rw [hl] at hi ⊢
    obtain ⟨ops1, e1, -, e3⟩ := hb f n i (k + (cdR Rs).length + 1) ops 0 r d e (al_l (al_l hA)) (by omega) hn (by omega)
    have hf := al_1 (al_r (al_l hA))
    have hA2 := al_r hA
    rw [List.length_append] at hA2
    have hA3 : AL f (i + q.2.length + 1) (cdR Rs) := by
      have e : i + (q.2.length + [q.1].length) = i + q.2.length + 1 := by show i + (q.2.length + 1) = _; omega
      rw [e] at hA2
      exact hA2
    obtain ⟨ops2, f1⟩ := ih (i + q.2.length + 1) k ops1 (stp1 val 0 r q) (stp1 val 1 d q) (stp1 val 2 e q) (fun z hz => hg z (List.mem_cons_of_mem _ hz)) hA3 (by omega) (bit_s (Or.inl rfl) hr q) (bit_s (Or.inr rfl) hd q)
    refine ⟨ops2, ?_⟩
    rw [show k + (q.2.length + 1 + (cdR Rs).length) = k + (cdR Rs).length + 1 + q.2.length by omega, e1, jstep (by omega) hn, hf, verb_b hv hr hd q.2 e3]
    simp only [Option.bind_some]
    rw [f1, show i + (q.2.length + 1 + (cdR Rs).length) = i + q.2.length + 1 + (cdR Rs).length by omega]
    rfl
theorem all_b {Rs : RL2} (hn : (cdR Rs).length ≤ 400) {fu : Nat} (hfu : 1000 < fu) (hg : ∀ q ∈ Rs, (q.1 = 4 ∨ q.1 = 5 ∨ q.1 = 6) ∧ ∃ h, h ≤ 19 ∧ PBk names h q.2 (val q.2)) (hA : AL f 0 (cdR Rs)) (ops : Nat → Int32) : ∃ ops', lp (g_X2_judge names (cdR Rs).length f) fu (0, ops, 0, 0, 0, 0) = some (ops', 0, rfo val 0 0 Rs, rfo val 1 0 Rs, rfo val 2 0 Rs) := by
  obtain ⟨kd, rfl⟩ : ∃ kd, fu = kd + 1 + (cdR Rs).length := ⟨fu - (cdR Rs).length - 1, by omega⟩
  obtain ⟨ops', e1⟩ := rules_b (names := names) (f := f) (val := val) hn Rs 0 (kd + 1) ops 0 0 0 hg hA (by omega) (Or.inl rfl) (Or.inl rfl)
  refine ⟨ops', ?_⟩
  have e2 : lp (g_X2_judge names (cdR Rs).length f) (kd + 1 + (cdR Rs).length) (0, ops, 0, 0, 0, 0) = _ := e1
  rw [e2]
  show g_X2_judge names (cdR Rs).length f (lp (g_X2_judge names (cdR Rs).length f) kd) (nI (0 + (cdR Rs).length), ops', nI 0, rfo val 0 0 Rs, rfo val 1 0 Rs, rfo val 2 0 Rs) = _
  unfold g_X2_judge
  simp only []
  have q : Int32.ofNat (cdR Rs).length ≤ nI (0 + (cdR Rs).length) := nI_le (a := (cdR Rs).length) (by omega) (by omega)
  rw [if_pos q]
  rfl
end
section
variable {fu : Nat} {P G : Int32} {fem born died fa mo fg gh ga gf : Nat → Int32} {pp yy : Int32} {row : Nat → Int32} {val : List Int32 → Int32}
theorem told_q (hfu : 1000 < fu) {h : Nat} {X : List Int32} {v : Int32} (hh : h ≤ 19) (hm : PMk fu P G fem born died fa mo fg gh ga gf pp yy h X v) {s : Nat} (hA : AL row s (trl X)) (hl : (trl X).length ≤ 600) (he : s + (trl X).length ≤ 4200) (stk ll mr qm qs : Nat → Int32) : ∃ stk' tp ll' mr' qm' qs', f_X11_told fu P G fem born died fa mo fg gh ga gf row stk ll mr qm qs (nI s) (nI (s + (trl X).length)) pp yy = some (v, stk', tp, ll', mr', qm', qs') := by
  unfold f_X11_told
  obtain ⟨k', stk', ll', mr', qm', qs', hk, e1, -, e3⟩ := hm row (s + (trl X).length) s (fu - (trl X).length) stk 0 ll mr qm qs hA (Nat.le_refl _) he (by omega)
  rw [show fu - (trl X).length + (trl X).length = fu by omega] at e1
  have e2 : f_X11_told_8 fu P G fem born died fa mo fg gh ga gf row fu (nI (s + (trl X).length), pp, yy, nI s, stk, 0, ll, mr, qm, qs) = _ := e1
  rw [e2]
  obtain ⟨kd, rfl⟩ : ∃ kd, k' = kd + 1 := ⟨k' - 1, by omega⟩
  refine ⟨stk', nI (0 + 1), ll', mr', qm', qs', ?_⟩
  show g_X11_told_8 fu P G fem born died fa mo fg gh ga gf row stk' (nI (0 + 1)) ll' mr' qm' qs' (fun a b c d e f g h i j => f_X11_told_8 fu P G fem born died fa mo fg gh ga gf row kd (a, b, c, d, e, f, g, h, i, j)) (nI (s + (trl X).length)) pp yy (nI (s + (trl X).length)) = _
  unfold g_X11_told_8
  rw [if_pos (nI_le (Nat.le_refl _) (by omega)), if_pos (by decide), show Int32.toNatClampNeg 0 = 0 by decide, e3]
theorem split_R {Rs : RL2} {i : Nat} (h : i < Rs.length) : Rs = Rs.take i ++ (Rs.getD i (0, []) :: Rs.drop (i + 1)) := by
  have e : Rs.drop i = Rs.getD i (0, []) :: Rs.drop (i + 1) := by
    rw [List.drop_eq_getElem_cons h]
    simp [List.getD_eq_getElem?_getD, h]
  rw [← e, List.take_append_drop]
theorem take_R {Rs : RL2} {i : Nat} (h : i < Rs.length) : Rs.take (i + 1) = Rs.take i ++ [Rs.getD i (0, [])] := by
  rw [List.take_succ_eq_append_getElem h]
  simp [List.getD_eq_getElem?_getD, h]
theorem cdR_ap (A B : RL2) : cdR (A ++ B) = cdR A ++ cdR B := by simp [cdR]
theorem verb_tr {v : Int32} (h : v = 4 ∨ v = 5 ∨ v = 6) : tr1 v = [] := by rcases h with rfl | rfl | rfl <;> decide +kernel
theorem getD_mem {Rs : RL2} {i : Nat} (h : i < Rs.length) : Rs.getD i (0, []) ∈ Rs := by
  have : Rs.getD i (0, []) = Rs[i] := by simp [List.getD_eq_getElem?_getD, h]
  rw [this]
  exact List.getElem_mem h
theorem rules_m (hfu : 1000 < fu) {T : Nat} (hT : T ≤ 5) {rm rf rk : Nat → Int32} {Rs : RL2} (hlen : Rs.length ≤ 12) (hg : ∀ q ∈ Rs, (q.1 = 4 ∨ q.1 = 5 ∨ q.1 = 6) ∧ ∃ h, h ≤ 19 ∧ PMk fu P G fem born died fa mo fg gh ga gf pp yy h q.2 (val q.2)) (hl : (trl (cdR Rs)).length ≤ 600) (hA : AL row (700 * T) (trl (cdR Rs))) (hK : RKx T rk rf Rs) (hE : rf (13 * T + Rs.length) = nI (trl (cdR Rs)).length) (hM : rm T = nI Rs.length) (w : Int32) : ∀ k i (s : Int32) (stk : Nat → Int32) (tp : Int32) (ll mr qm qs : Nat → Int32), i ≤ Rs.length → Rs.length - i < k → ∃ stk' tp' ll' mr' qm' qs', f_X11_ruled_65 fu P G fem born died fa mo fg gh ga gf rm rf row rk k (w, pp, yy, nI T, s, nI i, stk, tp, ll, mr, qm, qs) = some (rfo val w s (Rs.drop i), stk', tp', ll', mr', qm', qs') := by
  intro k
  induction k with
  | zero => intro i s stk tp ll mr qm qs _ h0; omega
  | succ k ih =>
    intro i s stk tp ll mr qm qs hi hk
    show ∃ stk' tp' ll' mr' qm' qs', g_X11_ruled_65 fu P G fem born died fa mo fg gh ga gf rm rf row rk stk tp ll mr qm qs (fun a b c d e f g h i j k' l => f_X11_ruled_65 fu P G fem born died fa mo fg gh ga gf rm rf row rk k (a, b, c, d, e, f, g, h, i, j, k', l)) w pp yy (nI T) s (nI i) = _
    unfold g_X11_ruled_65 g_X11_ruled_183 g_X11_ruled_175 g_X11_ruled_177
    rw [if_neg (ne_m1 T (by omega)), if_pos (inb_nI (N := 6) (by omega) (by decide)), nI_clamp (by omega), hM]
    rcases Nat.lt_or_ge i Rs.length with c | c
    · rw [if_neg (nI_ge c (by omega)), m12n, nI_add, if_pos (inb_nI (N := 72) (by omega) (by decide)), nI_clamp (by omega), (hK i c).1, nI_1 i]
      obtain ⟨hv, h, h1, hm⟩ := hg _ (getD_mem c)
      have hd : Rs.drop i = Rs.getD i (0, []) :: Rs.drop (i + 1) := by
        rw [List.drop_eq_getElem_cons c]
        simp [List.getD_eq_getElem?_getD, c]
      have hfo : ∀ s, rfo val w s (Rs.drop i) = rfo val w (stp1 val w s (Rs.getD i (0, []))) (Rs.drop (i + 1)) := fun s => by
        rw [hd]
        rfl
      by_cases c1 : (Rs.getD i (0, [])).1 - 4 = w
      · rw [if_pos c1, m13n, nI_add, if_pos (inb_nI (N := 78) (by omega) (by decide)), nI_1, if_pos (inb_nI (N := 78) (by omega) (by decide)), nI_clamp (by omega), nI_clamp (by omega), (hK i c).2]
        have hnx : rf (13 * T + i + 1) = nI ((trl (cdR (Rs.take i))).length + (trl (Rs.getD i (0, [])).2).length) := by
          have e1 : (trl (cdR (Rs.take (i + 1)))).length = (trl (cdR (Rs.take i))).length + (trl (Rs.getD i (0, [])).2).length := by
            rw [take_R c, cdR_ap, trl_app, cdR_cons, trl_app, trl_app, trl_one, verb_tr hv, List.append_nil, List.length_append, List.length_append]
            rfl
          rw [← e1]
          rcases Nat.lt_or_ge (i + 1) Rs.length with q | q
          · exact (hK (i + 1) q).2
          · have e2 : i + 1 = Rs.length := by omega
            rw [Nat.add_assoc, e2, hE, List.take_length]
        have hsp : trl (cdR Rs) = trl (cdR (Rs.take i)) ++ (trl (Rs.getD i (0, [])).2 ++ trl (cdR (Rs.drop (i + 1)))) := by
          have e : trl (cdR Rs) = trl (cdR (Rs.take i ++ (Rs.getD i (0, []) :: Rs.drop (i + 1)))) := by rw [← split_R c]
          rw [e, cdR_ap, trl_app, cdR_cons, trl_app, trl_app, trl_one, verb_tr hv, List.append_nil]
        have hls := congrArg List.length hsp
        rw [List.length_append, List.length_append] at hls
        have hA2 : AL row (700 * T + (trl (cdR (Rs.take i))).length) (trl (Rs.getD i (0, [])).2) := by
          rw [hsp] at hA
          exact al_l (al_r hA)
        obtain ⟨stk1, tp1, ll1, mr1, qm1, qs1, et⟩ := told_q (row := row) hfu h1 hm hA2 (by omega) (by omega) stk ll mr qm qs
        rw [hnx, m700, nI_add, nI_add, ← Nat.add_assoc, et]
        simp only [Option.bind_some]
        obtain ⟨stk2, tp2, ll2, mr2, qm2, qs2, e2⟩ := ih (i + 1) (stp1 val w s (Rs.getD i (0, []))) stk1 tp1 ll1 mr1 qm1 qs1 c (by omega)
        refine ⟨stk2, tp2, ll2, mr2, qm2, qs2, ?_⟩
        rw [hfo]
        unfold stp1 at e2 ⊢
        rw [if_pos c1] at e2 ⊢
        by_cases c2 : w = 2
        · rw [if_pos c2] at e2 ⊢
          rw [if_pos c2]
          exact e2
        · rw [if_neg c2] at e2 ⊢
          rw [if_neg c2]
          by_cases c3 : val (Rs.getD i (0, [])).2 = 0
          · rw [if_pos c3] at e2 ⊢
            rw [if_pos c3]
            exact e2
          · rw [if_neg c3] at e2 ⊢
            rw [if_neg c3]
            exact e2
      · rw [if_neg c1]
        obtain ⟨stk2, tp2, ll2, mr2, qm2, qs2, e2⟩ := ih (i + 1) s stk tp ll mr qm qs c (by omega)
        refine ⟨stk2, tp2, ll2, mr2, qm2, qs2, ?_⟩
        rw [hfo]
        have : stp1 val w s (Rs.getD i (0, [])) = s := by unfold stp1; rw [if_neg c1]
        rw [this]
        exact e2
    · have e : i = Rs.length := by omega
      subst e
      rw [if_pos (nI_le (Nat.le_refl _) (by omega)), List.drop_length]
      exact ⟨_, _, _, _, _, _, rfl⟩
end
