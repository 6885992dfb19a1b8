section
variable {l : Launch} {G : GT} {fr ws : va_W} {kT : Nat} {tA tC tN : Nat → Nat} {tF : Nat → Nat → Int32} {tY : Nat → Int32} {p_female : Nat → Int32} {p_born : Nat → Int32} {p_toldDeath : Nat → Int32} {p_lastYear : Nat → Int32} {p_father : Nat → Int32} {p_mother : Nat → Int32} {p_fatherGrade : Nat → Int32} {p_motherGrade : Nat → Int32} {p_size : Int32} {g_holder : Nat → Int32} {g_arms : Nat → Int32} {g_from : Nat → Int32} {g_size : Int32} {r_marks : Nat → Int32} {r_arms : Int32} {r_root : Int32} {r_steps : Int32} {r_grade : Int32} {r_marksAboveOne : Int32} {q_rows : Nat → Int32} {q_sizes : Nat → Int32} {t_bytes : Nat → Int32} {t_length : Int32} {s_tokens : Nat → Int32} {s_starts : Nat → Int32} {s_size : Int32} {a_code : Nat → Int32} {a_codeSize : Int32} {a_at : Int32} {a_token : Int32} {a_fault : Int32} {a_place : Int32} {o_texts : Nat → Option Nat} {o_names : Nat → Int32} {o_operands : Nat → Int32} {o_size : Int32} {o_open : Int32} {o_refuses : Int32} {o_differs : Int32} {o_fees : Int32} {c_years : Nat → Int32} {c_rows : Nat → Int32} {c_size : Int32} {x_faultPlace : Int32}
theorem j_null {R : Room} {Y : YT} {cells slots pc : Nat} {lv : List (Nat × Value)} {st : List Value} {cc : ByteArray} {nL : Nat} {own : String} (hX : CX l G cc nL own Y) (d : decode cc pc = .ok (.aconst_null, 1)) (pn : Nat) (hp : pc + 1 = pn) (k : J l G R Y cells slots pn lv (.null :: st) ws) : J l G R Y cells slots pc lv st ws :=
  fun H locs ls a b c e => lv_null hX.1 hX.2.1 d (by rw [hp]; exact k H locs ls a b c e)
theorem j_astore_nN {R : Room} {Y : YT} {cells slots pc i : Nat} {z : Fin 4} {lv lv' : List (Nat × Value)} {st : List Value} {cc : ByteArray} {nL : Nat} {own : String} (hX : CX l G cc nL own Y) (d : decode cc pc = .ok (.astore_n z, 1)) (pn : Nat) (hp : pc + 1 = pn) (hz : (z : Nat) = i) (hn : i < nL) (hl : (i, Value.null) :: lv.filter (fun q => !(q.1 == i) && !(q.1 + 1 == i && q.2.category == 2)) = lv') (k : J l G R Y cells slots pn lv' st ws) : J l G R Y cells slots pc lv (.null :: st) ws :=
  fun H locs ls a b c e => lv_astore_nN hX.1 hX.2.1 d hz a (by rw [hX.2.2.1]; exact hn) hl (fun ls' a' => by rw [hp]; exact k H locs ls' a' b c e)
theorem j_astore_n {R : Room} {Y : YT} {cells slots pc i x : Nat} {z : Fin 4} {lv lv' : List (Nat × Value)} {st : List Value} {cc : ByteArray} {nL : Nat} {own : String} (hX : CX l G cc nL own Y) (d : decode cc pc = .ok (.astore_n z, 1)) (pn : Nat) (hp : pc + 1 = pn) (hz : (z : Nat) = i) (hn : i < nL) (hl : (i, Value.ref x) :: lv.filter (fun q => !(q.1 == i) && !(q.1 + 1 == i && q.2.category == 2)) = lv') (k : J l G R Y cells slots pn lv' st ws) : J l G R Y cells slots pc lv (.ref x :: st) ws :=
  fun H locs ls a b c e => lv_astore_n hX.1 hX.2.1 d hz a (by rw [hX.2.2.1]; exact hn) hl (fun ls' a' => by rw [hp]; exact k H locs ls' a' b c e)
theorem j_astore {R : Room} {Y : YT} {cells slots pc i x : Nat} {lv lv' : List (Nat × Value)} {st : List Value} {cc : ByteArray} {nL : Nat} {own : String} (hX : CX l G cc nL own Y) (d : decode cc pc = .ok (.astore i, 2)) (pn : Nat) (hp : pc + 2 = pn) (hn : i < nL) (hl : (i, Value.ref x) :: lv.filter (fun q => !(q.1 == i) && !(q.1 + 1 == i && q.2.category == 2)) = lv') (k : J l G R Y cells slots pn lv' st ws) : J l G R Y cells slots pc lv (.ref x :: st) ws :=
  fun H locs ls a b c e => lv_astore hX.1 hX.2.1 d a (by rw [hX.2.2.1]; exact hn) hl (fun ls' a' => by rw [hp]; exact k H locs ls' a' b c e)
theorem j_aload_nN {R : Room} {Y : YT} {cells slots pc i : Nat} {z : Fin 4} {lv : List (Nat × Value)} {st : List Value} {cc : ByteArray} {nL : Nat} {own : String} (hX : CX l G cc nL own Y) (d : decode cc pc = .ok (.aload_n z, 1)) (pn : Nat) (hp : pc + 1 = pn) (kk : Nat) (hk : lv[kk]? = some (i, .null)) (hz : (z : Nat) = i) (k : J l G R Y cells slots pn lv (.null :: st) ws) : J l G R Y cells slots pc lv st ws :=
  fun H locs ls a b c e => lv_aload_nN hX.1 hX.2.1 d hz (lv_at a kk hk) (by rw [hp]; exact k H locs ls a b c e)
theorem j_ifnull {R : Room} {Y : YT} {cells slots pc x : Nat} {lv : List (Nat × Value)} {st : List Value} {cc : ByteArray} {nL : Nat} {own : String} {off : Int} (hX : CX l G cc nL own Y) (d : decode cc pc = .ok (.ifnull off, 3)) (pn : Nat) (hp : pc + 3 = pn) (k : J l G R Y cells slots pn lv st ws) : J l G R Y cells slots pc lv (.ref x :: st) ws :=
  fun H locs ls a b c e => lv_ifnull hX.1 hX.2.1 d (by rw [hp]; exact k H locs ls a b c e)
theorem j_ifnn {R : Room} {Y : YT} {cells slots pc x : Nat} {lv : List (Nat × Value)} {st : List Value} {cc : ByteArray} {nL : Nat} {own : String} {off : Int} (hX : CX l G cc nL own Y) (d : decode cc pc = .ok (.ifnonnull off, 3)) (tgt : Nat) (ht : (pc : Int) + off = (tgt : Int)) (k : J l G R Y cells slots tgt lv st ws) : J l G R Y cells slots pc lv (.ref x :: st) ws :=
  fun H locs ls a b c e => lv_ifnonnull hX.1 hX.2.1 d ht (k H locs ls a b c e)
theorem j_ifnnN {R : Room} {Y : YT} {cells slots pc : Nat} {lv : List (Nat × Value)} {st : List Value} {cc : ByteArray} {nL : Nat} {own : String} {off : Int} (hX : CX l G cc nL own Y) (d : decode cc pc = .ok (.ifnonnull off, 3)) (pn : Nat) (hp : pc + 3 = pn) (k : J l G R Y cells slots pn lv st ws) : J l G R Y cells slots pc lv (.null :: st) ws :=
  fun H locs ls a b c e => lv_ifnonnullN hX.1 hX.2.1 d (by rw [hp]; exact k H locs ls a b c e)
theorem j_aldT {R : Room} {Y : YT} {cells slots pc : Nat} {lv : List (Nat × Value)} {st : List Value} {cc : ByteArray} {nL : Nat} {own : String} {a n : Nat} {i : Int32} {f : Nat → Option Nat} (hX : CX l G cc nL own Y) (d : decode cc pc = .ok (.aaload, 1)) (pn : Nat) (hp : pc + 1 = pn) (q0 : Nat) (ha : ws[q0]? = some (a, .inl (gct G 4, n, .inr (.inr (.inr (.inr f)))))) (hin : inb i n = true) (kk : J l G R Y cells slots pn lv (va_rf (f i.toNatClampNeg) :: st) ws) : J l G R Y cells slots pc lv (.int i :: .ref a :: st) ws :=
  fun H locs ls x b c e => va_aldq hX.1 hX.2.1 hX.2.2.2.2.2.1 b q0 4 ha rfl (inb_in hin) d (by rw [hp]; exact kk H locs ls x b c e)
def Cq (l : Launch) (G : GT) (d mc ms : Nat) (y : MethodName) (cc : ByteArray) (nL : Nat) (ty : FieldType) (av : List Value) (ws : va_W) (r : Option Nat) (ws' : va_W) : Prop :=
  Met l y (.code y cc nL (some ty) :: TW) (rmD d mc ms) (va_Pc av (PRE l G ws)) (va_Qq (fun (r' : Option Nat) (_ : Unit) => r' = r) (PO G ws') (gA G)) mc ms (gA G)
def EQq (G : GT) (Y : YT) (mc ms : Nat) (ty : FieldType) (r : Option Nat) (ws' : va_W) : Prop := (yt Y).sig.returnType = some ty ∧ yQ Y = MQ (yb Y) (va_Qq (fun (r' : Option Nat) (_ : Unit) => r' = r) (PO G ws') (gA G)) (ya Y) (ys Y) mc ms (gA G)
theorem Cq.of {d mc ms : Nat} {y : MethodName} {cc : ByteArray} {nL : Nat} {ty : FieldType} {av : List Value} {ws ws' : va_W} {r : Option Nat} (hy : plainName y.cls = true) (hlen : (lg_sl av).length ≤ nL) (body : ∀ Y : YT, CX l G cc nL y.cls Y → EQq G Y mc ms ty r ws' → J l G (rmD d mc ms) Y 0 0 0 (lv_args 0 av) [] ws) : Cq l G d mc ms y cc nL ty av ws r ws' := by
  refine Met.ofW (cc := cc) (maxL := nL) (ret := some ty) hy rfl ?_
  intro p e s m args below meth c s₁ B hml hv
  obtain ⟨rfl, hB, hP, hD, hK, hE⟩ := hv
  have hts := atoms_spec (ws := .code y cc nL (some ty) :: TW) B.pre
  have hown : s.vm.findClass y.cls = some m.cls := findClass_of_methodNamed B.named
  have hl := lv_entry av (n := nL) hlen
  rw [lg_entry_eq]
  exact body (p, e, s, m, av.toArray, below, meth, c, _) ⟨B.exec, B.bytes, hml, hown, fun w hw => hts w (List.mem_cons_of_mem _ hw), hK, hB, hE, B.notSynchronized⟩ ⟨B.returns, rfl⟩ s.heap [] _ (by show lv_has _ c.maxLocals _; rw [hml]; exact hl) hP hD va_S.rf
theorem j_aret {R : Room} {Y : YT} {cells slots pc : Nat} {lv : List (Nat × Value)} {cc : ByteArray} {nL : Nat} {own C : String} {r : Option Nat} (hX : CX l G cc nL own Y) (hQ : EQq G Y cells slots (.object C) r ws) (d : decode cc pc = .ok (.areturn, 1)) : J l G R Y cells slots pc lv [va_rf r] ws := by
  intro H locs ls a b c e
  rw [hQ.2]
  have hlk : (yt Y).locks = false := hX.2.2.2.2.2.2.2.2
  exact W.aret (v := va_rf r) hX.1 hX.2.1 hQ.1 (Or.inl ⟨_, rfl⟩) (by cases r with | none => exact Or.inl rfl | some x => exact Or.inr ⟨x, rfl⟩) (fun t ht hW => ⟨⟨r, (), rfl, rfl, by rw [ht]; exact b, c⟩, e.F ht⟩) e.2.2 d hlk
theorem z_q {Y : YT} {cells slots pc : Nat} {lv : List (Nat × Value)} {st rest As : List Value} {ws ws' : va_W} {cc : ByteArray} {nL : Nat} {own : String} {d d' mR sR idx maxL : Nat} {y : MethodName} {bytes : ByteArray} {ty : FieldType} {a q0 ci N : Nat} {T : u_T} {fs : List Value} {r : Option Nat} (hX : CX l G cc nL own Y) (dd : decode cc pc = .ok (.invokevirtual idx, 3)) (pn : Nat) (hp : pc + 3 = pn) (hC : Cq l G d' 0 0 y bytes maxL ty (.ref a :: As) ws r ws') (hm : MC y bytes maxL (some ty) As.length) (hv : MV y) (hl : Cond.methodLink own idx y ∈ TW) (he : ws[q0]? = some (a, .inr (ci, fs))) (hc : vwCl[ci]? = some (y.cls, T, N)) (hd : d' + 1 ≤ d) (hr1 : cells ≤ mR) (hr2 : slots ≤ sR) (hst : st = As.reverse ++ .ref a :: rest) (hW : (rest.map fun v => v.category).sum ≤ 8) (kk : J l G (rmD d mR sR) Y cells slots pn lv (va_rf r :: rest) ws') : J l G (rmD d mR sR) Y cells slots pc lv st ws := by
  intro H locs ls a0 b c e
  subst hst
  refine va_callq (va_runV (As := As) (rest := rest) (b := a) (C := y.cls) (n := As.length) (nL := nL) (g := F0 (ym Y) pc ls (As.reverse ++ .ref a :: rest)) ⟨hX.1, hX.2.1, hX.2.2.1, hX.2.2.2.1, hX.2.2.2.2.1⟩ hC ⟨cB (R := rmD d mR sR) hX hm hl hd, hX.2.2.2.2.1 _ hv.1, hX.2.2.2.2.1 _ hv.2⟩ ⟨PRE.blind, va_recv hX.2.2.2.2.2.1 b hc he, fun U hU hW9 => ⟨rfl, PRE.at hX b c e hU hW9⟩⟩ rfl rfl (a0.1.trans hX.2.2.1) rfl ?_ dd ⟨hr1, hr2⟩) e (fun _ _ h => h) (fun _ h => h) (fun r1 u t H1 locs1 ht hvm hpo hB hz hk hS => ?_)
  · show 2 * 0 + _ ≤ 8
    omega
  · subst hpo
    rw [hp]
    rw [← ht] at hS ⊢
    exact kk t.heap locs1 ls a0 hB.1 hB.2 hS
def TXw (G : GT) (k : Nat) (tA tC tN : Nat → Nat) (tF : Nat → Nat → Int32) (tY : Nat → Int32) : va_W := match k with
  | 0 => []
  | k + 1 => TXw G k tA tC tN tF tY ++ [(tA k, .inr (9, [.ref (tC k), .int (tY k)])), (tC k, .inl (gct G 1, tN k, .inl (tF k)))]
theorem TXw_len (k : Nat) : (TXw G k tA tC tN tF tY).length = 2 * k := by
  induction k with
  | zero => rfl
  | succ k ih => simp [TXw, ih]; omega
theorem TXw_at (k : Nat) : ∀ t, t < k → (TXw G k tA tC tN tF tY)[2 * t]? = some (tA t, .inr (9, [.ref (tC t), .int (tY t)])) ∧ (TXw G k tA tC tN tF tY)[2 * t + 1]? = some (tC t, .inl (gct G 1, tN t, .inl (tF t))) := by
  induction k with
  | zero => intro t ht; omega
  | succ k ih =>
    intro t ht
    have hlen := TXw_len (G := G) (tA := tA) (tC := tC) (tN := tN) (tF := tF) (tY := tY) k
    show (TXw G k tA tC tN tF tY ++ _)[2 * t]? = _ ∧ (TXw G k tA tC tN tF tY ++ _)[2 * t + 1]? = _
    by_cases h : t < k
    · rw [List.getElem?_append_left (by omega), List.getElem?_append_left (by omega)]
      exact ih t h
    · have e : t = k := by omega
      subst e
      rw [List.getElem?_append_right (by omega), List.getElem?_append_right (by omega), hlen, show 2 * t - 2 * t = 0 by omega, show 2 * t + 1 - 2 * t = 1 by omega]
      exact ⟨rfl, rfl⟩
def txf (k : Nat) (tA : Nat → Nat) : Nat → Option Nat := fun t => if t < k then some (tA t) else none
theorem wb_at {ws fr : va_W} {n j : Nat} {v : Nat × va_E} (hl : ws.length = n) (h : fr[j]? = some v) : (ws ++ fr)[n + j]? = some v := by
  rw [List.getElem?_append_right (by omega), hl, show n + j - n = j by omega]
  exact h
theorem tx_in {fr : va_W} {j : Nat} {v : Nat × va_E} (h : (TXw G kT tA tC tN tF tY)[j]? = some v) : (TXw G kT tA tC tN tF tY ++ fr)[j]? = some v := by
  rw [List.getElem?_append_left (List.getElem?_eq_some_iff.mp h).1]
  exact h
def g_X2_inForce (o_size : Int32) (kT : Nat) (tY : Nat → Int32) (x1 : Int32) (k : Option Nat × Int32 × Int32 → Option (Option Nat)) (v : Option Nat × Int32 × Int32) : Option (Option Nat) :=
  if o_size ≤ v.2.2 then some v.1 else if inb v.2.2 6 = true then (if decide (Int32.toNatClampNeg v.2.2 < kT) = true then (if x1 < tY (Int32.toNatClampNeg v.2.2) then k (v.1, v.2.1, v.2.2 + 1) else if tY (Int32.toNatClampNeg v.2.2) < v.2.1 then k (v.1, v.2.1, v.2.2 + 1) else k (some (Int32.toNatClampNeg v.2.2), tY (Int32.toNatClampNeg v.2.2), v.2.2 + 1)) else none) else none
def f_X2_inForce (fu : Nat) (o_size : Int32) (kT : Nat) (tY : Nat → Int32) (x1 : Int32) : Option (Option Nat) := lp (g_X2_inForce o_size kT tY x1) fu (none, 1000, 0)
set_option maxRecDepth 100000 in
set_option maxHeartbeats 4000000 in
theorem s_X2_inForce {Y : YT} {x1 : Int32} {r : Option Nat} (hX : CX l G cX2_inForce 6 RX2 Y) (hQ : EQq G Y 0 0 (.object "ArmsBook$Text") (r.map tA) (WB G p_female p_born p_toldDeath p_lastYear p_father p_mother p_fatherGrade p_motherGrade p_size g_holder g_arms g_from g_size r_marks r_arms r_root r_steps r_grade r_marksAboveOne q_rows q_sizes t_bytes t_length s_tokens s_starts s_size a_code a_codeSize a_at a_token a_fault a_place (txf kT tA) o_names o_operands o_size o_open o_refuses o_differs o_fees c_years c_rows c_size x_faultPlace ++ (TXw G kT tA tC tN tF tY ++ fr))) (k : Option Nat × Int32 × Int32 → Option (Option Nat)) (hk : ∀ v : Option Nat × Int32 × Int32, k v = some r → J l G (rmD 2 0 0) Y 0 0 9 [(0, .ref (gb G 26)), (1, .int x1), (2, va_rf (v.1.map tA)), (3, .int v.2.1), (4, .int v.2.2)] [] (WB G p_female p_born p_toldDeath p_lastYear p_father p_mother p_fatherGrade p_motherGrade p_size g_holder g_arms g_from g_size r_marks r_arms r_root r_steps r_grade r_marksAboveOne q_rows q_sizes t_bytes t_length s_tokens s_starts s_size a_code a_codeSize a_at a_token a_fault a_place (txf kT tA) o_names o_operands o_size o_open o_refuses o_differs o_fees c_years c_rows c_size x_faultPlace ++ (TXw G kT tA tC tN tF tY ++ fr))) (v : Option Nat × Int32 × Int32) (hf : g_X2_inForce o_size kT tY x1 k v = some r) : J l G (rmD 2 0 0) Y 0 0 9 [(0, .ref (gb G 26)), (1, .int x1), (2, va_rf (v.1.map tA)), (3, .int v.2.1), (4, .int v.2.2)] [] (WB G p_female p_born p_toldDeath p_lastYear p_father p_mother p_fatherGrade p_motherGrade p_size g_holder g_arms g_from g_size r_marks r_arms r_root r_steps r_grade r_marksAboveOne q_rows q_sizes t_bytes t_length s_tokens s_starts s_size a_code a_codeSize a_at a_token a_fault a_place (txf kT tA) o_names o_operands o_size o_open o_refuses o_differs o_fees c_years c_rows c_size x_faultPlace ++ (TXw G kT tA tC tN tF tY ++ fr)) := by
  unfold g_X2_inForce at hf
  refine j_iload hX dX2_inForce_9 11 rfl 4 rfl ?_
  refine j_aload_n hX dX2_inForce_11 12 rfl 0 rfl rfl ?_
  refine j_get hX dX2_inForce_12 15 rfl fg_X2_24 26 rfl rfl ?_
  refine j_icmp_ge hX dX2_inForce_15 18 65 rfl rfl (fun h1 => ?_) (fun h1 => ?_)
  · replace hf := itt h1 hf
    replace hf := Option.some.inj hf
    subst hf
    obtain ⟨b, x3, x4⟩ := v
    cases b with
    | none =>
      refine j_aload_nN hX dX2_inForce_65 66 rfl 2 rfl rfl ?_
      exact j_aret hX hQ dX2_inForce_66
    | some t =>
      refine j_aload_n hX dX2_inForce_65 66 rfl 2 rfl rfl ?_
      exact j_aret hX hQ dX2_inForce_66
  · replace hf := itf h1 hf
    obtain ⟨hb, hf⟩ := ign hf
    obtain ⟨ht, hf⟩ := ign hf
    have ht : Int32.toNatClampNeg v.2.2 < kT := of_decide_eq_true ht
    refine j_aload_n hX dX2_inForce_18 19 rfl 0 rfl rfl ?_
    refine j_get hX dX2_inForce_19 22 rfl fg_X2_13 26 rfl rfl ?_
    refine j_iload hX dX2_inForce_22 24 rfl 4 rfl ?_
    refine j_aldT hX dX2_inForce_24 25 rfl 27 rfl hb ?_
    rw [show txf kT tA (Int32.toNatClampNeg v.2.2) = some (tA (Int32.toNatClampNeg v.2.2)) from if_pos ht]
    have hat := wb_at (ws := WB G p_female p_born p_toldDeath p_lastYear p_father p_mother p_fatherGrade p_motherGrade p_size g_holder g_arms g_from g_size r_marks r_arms r_root r_steps r_grade r_marksAboveOne q_rows q_sizes t_bytes t_length s_tokens s_starts s_size a_code a_codeSize a_at a_token a_fault a_place (txf kT tA) o_names o_operands o_size o_open o_refuses o_differs o_fees c_years c_rows c_size x_faultPlace) (fr := TXw G kT tA tC tN tF tY ++ fr) (n := 33) rfl (tx_in (TXw_at kT _ ht).1)
    generalize htt : Int32.toNatClampNeg v.2.2 = t at hf ht hat ⊢
    refine j_astore (x := tA t) (lv' := [(5, .ref (tA t)), (0, .ref (gb G 26)), (1, .int x1), (2, va_rf (v.1.map tA)), (3, .int v.2.1), (4, .int v.2.2)]) hX dX2_inForce_25 27 rfl (by decide) (by cases v.1 <;> rfl) ?_
    refine j_aload hX dX2_inForce_27 29 rfl 0 rfl ?_
    refine j_ifnull hX dX2_inForce_29 32 rfl ?_
    refine j_aload hX dX2_inForce_32 34 rfl 0 rfl ?_
    refine j_getN hX dX2_inForce_34 37 rfl fn_X2_61 _ hat rfl ?_
    refine j_iload_n hX dX2_inForce_37 38 rfl 2 rfl rfl ?_
    refine j_icmp_gt hX dX2_inForce_38 41 59 rfl rfl (fun h2 => ?_) (fun h2 => ?_)
    · replace hf := itt h2 hf
      refine j_sub [1, 2, 3, 4, 5] (lv' := [(0, .ref (gb G 26)), (1, .int x1), (2, va_rf (v.1.map tA)), (3, .int v.2.1), (4, .int v.2.2)]) rfl ?_
      refine j_iinc (v := v.2.2 + 1) (lv' := [(4, .int (v.2.2 + 1)), (0, .ref (gb G 26)), (1, .int x1), (2, va_rf (v.1.map tA)), (3, .int v.2.1)]) hX dX2_inForce_59 62 rfl 4 rfl rfl (by decide) (by cases v.1 <;> rfl) ?_
      refine j_goto hX dX2_inForce_62 9 rfl ?_
      refine j_sub [1, 2, 3, 4, 0] rfl ?_
      exact hk (v.1, v.2.1, v.2.2 + 1) hf
    · replace hf := itf h2 hf
      refine j_aload hX dX2_inForce_41 43 rfl 0 rfl ?_
      refine j_getN hX dX2_inForce_43 46 rfl fn_X2_61 _ hat rfl ?_
      refine j_iload_n hX dX2_inForce_46 47 rfl 4 rfl rfl ?_
      refine j_icmp_lt hX dX2_inForce_47 50 59 rfl rfl (fun h3 => ?_) (fun h3 => ?_)
      · replace hf := itt h3 hf
        refine j_sub [1, 2, 3, 4, 5] (lv' := [(0, .ref (gb G 26)), (1, .int x1), (2, va_rf (v.1.map tA)), (3, .int v.2.1), (4, .int v.2.2)]) rfl ?_
        refine j_iinc (v := v.2.2 + 1) (lv' := [(4, .int (v.2.2 + 1)), (0, .ref (gb G 26)), (1, .int x1), (2, va_rf (v.1.map tA)), (3, .int v.2.1)]) hX dX2_inForce_59 62 rfl 4 rfl rfl (by decide) (by cases v.1 <;> rfl) ?_
        refine j_goto hX dX2_inForce_62 9 rfl ?_
        refine j_sub [1, 2, 3, 4, 0] rfl ?_
        exact hk (v.1, v.2.1, v.2.2 + 1) hf
      · replace hf := itf h3 hf
        refine j_aload hX dX2_inForce_50 52 rfl 0 rfl ?_
        refine j_astore_n (x := tA t) (lv' := [(2, .ref (tA t)), (5, .ref (tA t)), (0, .ref (gb G 26)), (1, .int x1), (3, .int v.2.1), (4, .int v.2.2)]) hX dX2_inForce_52 53 rfl rfl (by decide) (by cases v.1 <;> rfl) ?_
        refine j_aload hX dX2_inForce_53 55 rfl 1 rfl ?_
        refine j_getN hX dX2_inForce_55 58 rfl fn_X2_61 _ hat rfl ?_
        refine j_istore_n (lv' := [(3, .int (tY t)), (2, .ref (tA t)), (5, .ref (tA t)), (0, .ref (gb G 26)), (1, .int x1), (4, .int v.2.2)]) hX dX2_inForce_58 59 rfl rfl (by decide) rfl ?_
        refine j_iinc (v := v.2.2 + 1) (lv' := [(4, .int (v.2.2 + 1)), (3, .int (tY t)), (2, .ref (tA t)), (5, .ref (tA t)), (0, .ref (gb G 26)), (1, .int x1)]) hX dX2_inForce_59 62 rfl 5 rfl rfl (by decide) rfl ?_
        refine j_goto hX dX2_inForce_62 9 rfl ?_
        refine j_sub [4, 5, 2, 1, 0] rfl ?_
        exact hk (some t, tY t, v.2.2 + 1) hf
set_option maxRecDepth 100000 in
set_option maxHeartbeats 4000000 in
theorem t_X2_inForce {fu : Nat} (x1 : Int32) {r : Option Nat} (hf : f_X2_inForce fu o_size kT tY x1 = some r) : Cq l G 2 0 0 yX2_inForce cX2_inForce 6 (.object "ArmsBook$Text") [.ref (gb G 26), .int x1] (WB G p_female p_born p_toldDeath p_lastYear p_father p_mother p_fatherGrade p_motherGrade p_size g_holder g_arms g_from g_size r_marks r_arms r_root r_steps r_grade r_marksAboveOne q_rows q_sizes t_bytes t_length s_tokens s_starts s_size a_code a_codeSize a_at a_token a_fault a_place (txf kT tA) o_names o_operands o_size o_open o_refuses o_differs o_fees c_years c_rows c_size x_faultPlace ++ (TXw G kT tA tC tN tF tY ++ fr)) (r.map tA) (WB G p_female p_born p_toldDeath p_lastYear p_father p_mother p_fatherGrade p_motherGrade p_size g_holder g_arms g_from g_size r_marks r_arms r_root r_steps r_grade r_marksAboveOne q_rows q_sizes t_bytes t_length s_tokens s_starts s_size a_code a_codeSize a_at a_token a_fault a_place (txf kT tA) o_names o_operands o_size o_open o_refuses o_differs o_fees c_years c_rows c_size x_faultPlace ++ (TXw G kT tA tC tN tF tY ++ fr)) := by
  refine Cq.of (by decide) (Nat.le_of_ble_eq_true rfl) (fun Y hX hQ => ?_)
  refine j_lv (lv' := [(0, .ref (gb G 26)), (1, .int x1)]) rfl ?_
  unfold f_X2_inForce at hf
  refine j_null hX dX2_inForce_0 1 rfl ?_
  refine j_astore_nN (lv' := [(2, .null), (0, .ref (gb G 26)), (1, .int x1)]) hX dX2_inForce_1 2 rfl rfl (by decide) rfl ?_
  refine j_sipush (v := 1000) hX dX2_inForce_2 5 rfl (by decide) ?_
  refine j_istore_n (lv' := [(3, .int 1000), (2, .null), (0, .ref (gb G 26)), (1, .int x1)]) hX dX2_inForce_5 6 rfl rfl (by decide) rfl ?_
  refine j_iconst (v := 0) hX dX2_inForce_6 7 rfl (by decide) ?_
  refine j_istore (lv' := [(4, .int 0), (3, .int 1000), (2, .null), (0, .ref (gb G 26)), (1, .int x1)]) hX dX2_inForce_7 9 rfl (by decide) rfl ?_
  refine j_sub [3, 4, 2, 1, 0] rfl ?_
  exact lp_ind (P := fun v : Option Nat × Int32 × Int32 => J l G (rmD 2 0 0) Y 0 0 9 [(0, .ref (gb G 26)), (1, .int x1), (2, va_rf (v.1.map tA)), (3, .int v.2.1), (4, .int v.2.2)] [] (WB G p_female p_born p_toldDeath p_lastYear p_father p_mother p_fatherGrade p_motherGrade p_size g_holder g_arms g_from g_size r_marks r_arms r_root r_steps r_grade r_marksAboveOne q_rows q_sizes t_bytes t_length s_tokens s_starts s_size a_code a_codeSize a_at a_token a_fault a_place (txf kT tA) o_names o_operands o_size o_open o_refuses o_differs o_fees c_years c_rows c_size x_faultPlace ++ (TXw G kT tA tC tN tF tY ++ fr))) (fun k hk v hf => s_X2_inForce hX hQ k hk v hf) fu (none, 1000, 0) hf
end
