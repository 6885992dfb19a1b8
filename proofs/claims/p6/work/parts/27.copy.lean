section
variable {l : Launch} {G : GT} {fr ws : va_W} {kT : Nat} {tA tC tN : Nat → Nat} {tF : Nat → Nat → Int32} {tY : Nat → Int32} {p_female : Nat → Int32} {p_born : Nat → Int32} {p_toldDeath : Nat → Int32} {p_lastYear : Nat → Int32} {p_father : Nat → Int32} {p_mother : Nat → Int32} {p_fatherGrade : Nat → Int32} {p_motherGrade : Nat → Int32} {p_size : Int32} {g_holder : Nat → Int32} {g_arms : Nat → Int32} {g_from : Nat → Int32} {g_size : Int32} {r_marks : Nat → Int32} {r_arms : Int32} {r_root : Int32} {r_steps : Int32} {r_grade : Int32} {r_marksAboveOne : Int32} {q_rows : Nat → Int32} {q_sizes : Nat → Int32} {t_bytes : Nat → Int32} {t_length : Int32} {s_tokens : Nat → Int32} {s_starts : Nat → Int32} {s_size : Int32} {a_code : Nat → Int32} {a_codeSize : Int32} {a_at : Int32} {a_token : Int32} {a_fault : Int32} {a_place : Int32} {o_texts : Nat → Option Nat} {o_names : Nat → Int32} {o_operands : Nat → Int32} {o_size : Int32} {o_open : Int32} {o_refuses : Int32} {o_differs : Int32} {o_fees : Int32} {c_years : Nat → Int32} {c_rows : Nat → Int32} {c_size : Int32} {x_faultPlace : Int32}
def CrA (l : Launch) (G : GT) (d mc ms : Nat) (y : MethodName) (cc : ByteArray) (nL : Nat) (ty : FieldType) (av : List Value) (ws : va_W) (ws' : Nat → va_W) : Prop :=
  Met l y (.code y cc nL (some ty) :: TW) (rmD d mc ms) (va_Pc av (PRE l G ws)) (va_Qr (fun (_ : Unit) => True) (fun _ a t => PO G (ws' a) () t) (gA G)) mc ms (gA G)
def EQr (G : GT) (Y : YT) (mc ms : Nat) (ty : FieldType) (ws' : Nat → va_W) : Prop := (yt Y).sig.returnType = some ty ∧ yQ Y = MQ (yb Y) (va_Qr (fun (_ : Unit) => True) (fun _ a t => PO G (ws' a) () t) (gA G)) (ya Y) (ys Y) mc ms (gA G)
section CR
variable {Y : YT} {cells slots pc : Nat} {lv : List (Nat × Value)} {st rest As : List Value} {cc : ByteArray} {nL : Nat} {own : String} {d d' mc ms mR sR idx maxL : Nat} {y : MethodName} {bytes : ByteArray} {av : List Value} {ty : FieldType} {ws' : Nat → va_W}
theorem CrA.ofF (hy : plainFor y = true) (hlen : (lg_sl av).length ≤ nL) (body : ∀ Y : YT, CX l G cc nL y.cls Y → EQr G Y mc ms ty ws' → J l G (rmD d mc ms) Y 0 0 0 (lv_args 0 av) [] ws) : CrA l G d mc ms y cc nL ty av ws ws' := by
  refine va_MetF (cc := cc) (maxL := nL) (ret := some ty) hy rfl ?_
  intro p e s m args below meth c s₁ B hml hv
  obtain ⟨rfl, hB, hP, hD, hK, hE⟩ := hv
  have hts := atoms_spec (ws := .code y cc nL (some ty) :: TW) B.pre
  have hown : s.vm.findClass y.cls = some m.cls := findClass_of_methodNamed B.named
  have hl := lv_entry av (n := nL) hlen
  rw [lg_entry_eq]
  exact body (p, e, s, m, av.toArray, below, meth, c, _) ⟨B.exec, B.bytes, hml, hown, fun w hw => hts w (List.mem_cons_of_mem _ hw), hK, hB, hE, B.notSynchronized⟩ ⟨B.returns, rfl⟩ s.heap [] _ (by show lv_has _ c.maxLocals _; rw [hml]; exact hl) hP hD va_S.rf
theorem j_aretR {a : Nat} (hX : CX l G cc nL own Y) (hQ : EQr G Y mc ms (.array .int) ws') (hc : cells ≤ mc) (hs : slots ≤ ms) (hw : ws = ws' a) (dd : decode cc pc = .ok (.areturn, 1)) : J l G (rmD d mc ms) Y cells slots pc lv [.ref a] ws := by
  refine j_widen hc hs ?_
  intro H locs ls x b c e
  rw [hQ.2]
  have hlk : (yt Y).locks = false := hX.2.2.2.2.2.2.2.2
  exact W.aret (v := .ref a) hX.1 hX.2.1 hQ.1 (Or.inr ⟨_, rfl⟩) (Or.inr ⟨a, rfl⟩) (fun t ht hW => ⟨⟨(), a, rfl, trivial, by rw [ht, ← hw]; exact b, by rw [← hw]; exact c⟩, e.F ht⟩) e.2.2 dd hlk
theorem jS_r (hX : CX l G cc nL own Y) (dd : decode cc pc = .ok (.invokestatic idx, 3)) (pn : Nat) (hp : pc + 3 = pn) (hC : CrA l G d' mc ms y bytes maxL ty As ws ws') (hm : MC y bytes maxL (some ty) As.length) (hv : Cond.static y ∈ TW) (hl : Cond.methodLink own idx y ∈ TW) (hd : d' + 1 ≤ d) (hr1 : cells + mc ≤ mR) (hr2 : slots + ms ≤ sR) (hst : st = As.reverse ++ rest) (hW : (rest.map fun v => v.category).sum ≤ 8) (kk : ∀ q, J l G (rmD d mR sR) Y (cells + mc) (slots + ms) pn lv (.ref q :: rest) (ws' q)) : J l G (rmD d mR sR) Y cells slots pc lv st ws := by
  intro H locs ls a0 b c e
  subst hst
  refine va_callr (va_runS (As := As) (rest := rest) (n := As.length) (nL := nL) (g := F0 (ym Y) pc ls (As.reverse ++ rest)) ⟨hX.1, hX.2.1, hX.2.2.1, hX.2.2.2.1, hX.2.2.2.2.1⟩ hC ⟨cB (R := rmD d mR sR) hX hm hl hd, hX.2.2.2.2.1 _ hv⟩ ⟨PRE.blind, fun U hU hW9 => ⟨rfl, PRE.at hX b c e hU hW9⟩⟩ rfl rfl (a0.1.trans hX.2.2.1) rfl ?_ dd ⟨hr1, hr2⟩) e (fun _ _ h => h) (fun _ h => h) (fun u ra t H1 locs1 ht hvm hpo hB hz hk hS => ?_)
  · show 2 * 0 + _ ≤ 8
    omega
  · rw [hp]
    rw [← ht] at hS ⊢
    exact kk ra t.heap locs1 ls a0 hB.1 hB.2 hS
theorem jV_r {a q0 ci N : Nat} {T : u_T} {fs : List Value} (hX : CX l G cc nL own Y) (dd : decode cc pc = .ok (.invokevirtual idx, 3)) (pn : Nat) (hp : pc + 3 = pn) (hC : CrA l G d' mc ms y bytes maxL ty (.ref a :: As) ws ws') (hm : MC y bytes maxL (some ty) As.length) (hv : MV y) (hl : Cond.methodLink own idx y ∈ TW) (he : ws[q0]? = some (a, .inr (ci, fs))) (hc : vwCl[ci]? = some (y.cls, T, N)) (hd : d' + 1 ≤ d) (hr1 : cells + mc ≤ mR) (hr2 : slots + ms ≤ sR) (hst : st = As.reverse ++ .ref a :: rest) (hW : (rest.map fun v => v.category).sum ≤ 8) (kk : ∀ q, J l G (rmD d mR sR) Y (cells + mc) (slots + ms) pn lv (.ref q :: rest) (ws' q)) : J l G (rmD d mR sR) Y cells slots pc lv st ws := by
  intro H locs ls a0 b c e
  subst hst
  refine va_callr (va_runV (As := As) (rest := rest) (b := a) (C := y.cls) (n := As.length) (nL := nL) (g := F0 (ym Y) pc ls (As.reverse ++ .ref a :: rest)) ⟨hX.1, hX.2.1, hX.2.2.1, hX.2.2.2.1, hX.2.2.2.2.1⟩ hC ⟨cB (R := rmD d mR sR) hX hm hl hd, hX.2.2.2.2.1 _ hv.1, hX.2.2.2.2.1 _ hv.2⟩ ⟨PRE.blind, va_recv hX.2.2.2.2.2.1 b hc he, fun U hU hW9 => ⟨rfl, PRE.at hX b c e hU hW9⟩⟩ rfl rfl (a0.1.trans hX.2.2.1) rfl ?_ dd ⟨hr1, hr2⟩) e (fun _ _ h => h) (fun _ h => h) (fun u ra t H1 locs1 ht hvm hpo hB hz hk hS => ?_)
  · show 2 * 0 + _ ≤ 8
    omega
  · rw [hp]
    rw [← ht] at hS ⊢
    exact kk ra t.heap locs1 ls a0 hB.1 hB.2 hS
theorem vp_cell_i_congr {cA : ClassId} {n : Nat} {f f' : Nat → Int32} (h : ∀ k, k < n → f k = f' k) : vp_cell cA (n, .inl f) = vp_cell cA (n, .inl f') := by
  rw [vp_cell_i, vp_cell_i]
  unfold arrV
  congr 1
  apply congrArg
  funext j
  show Value.int (f j.1) = Value.int (f' j.1)
  rw [h j.1 j.2]
theorem j_celli {R : Room} {a n q0 : Nat} {cA : ClassId} {f f' : Nat → Int32} {ws2 : va_W} (ha : ws[q0]? = some (a, .inl (cA, n, .inl f))) (h : ∀ k, k < n → f k = f' k) (hw : ws.set q0 (a, .inl (cA, n, .inl f')) = ws2) (kk : J l G R Y cells slots pc lv st ws2) : J l G R Y cells slots pc lv st ws := by
  subst hw
  intro H locs ls x b c e
  refine kk H locs ls x ?_ (c.set ha) e
  refine b.set c ha ?_ (fun _ _ => rfl)
  show H[a]? = some (vp_cell _ _)
  rw [← vp_cell_i_congr h]
  exact b q0 _ ha
end CR
theorem w_316 : Cond.methodLink RJ7 316 ⟨"[I", "clone", "()Ljava/lang/Object;"⟩ ∈ TW := inTW 693 (by decide +kernel) rfl
theorem w_sm : Cond.sameMethod "[I" "java/lang/Object" "clone" "()Ljava/lang/Object;" ∈ TW := inTW 694 (by decide +kernel) rfl
theorem w_nc : Cond.native ⟨"java/lang/Object", "clone", "()Ljava/lang/Object;"⟩ ∈ TW := inTW 695 (by decide +kernel) rfl
theorem w_ic : Cond.instanceMethod ⟨"java/lang/Object", "clone", "()Ljava/lang/Object;"⟩ ∈ TW := inTW 696 (by decide +kernel) rfl
theorem w_sc : Cond.selects "[I" ⟨"[I", "clone", "()Ljava/lang/Object;"⟩ ⟨"java/lang/Object", "clone", "()Ljava/lang/Object;"⟩ ∈ TW := inTW 697 (by decide +kernel) rfl
theorem w_cc : Cond.castable "[I" "java/lang/Cloneable" ∈ EWL := inEW 629 (by decide +kernel) rfl
theorem w_317 : Cond.classLink RJ7 317 "[I" ∈ TW := inTW 699 (by decide +kernel) rfl
theorem w_150 : Cond.methodLink RJ7 150 arraycopyName ∈ TW := inTW 701 (by decide +kernel) rfl
theorem w_na : Cond.native arraycopyName ∈ TW := inTW 703 (by decide +kernel) rfl
theorem w_sa : Cond.static arraycopyName ∈ TW := inTW 702 (by decide +kernel) rfl
theorem w_is : Cond.initialized "java/lang/System" ∈ TW := inTW 92 (by decide +kernel) rfl
theorem fnd_I {cc : ByteArray} {nL : Nat} {own : String} {Y : YT} (hX : CX l G cc nL own Y) : (ys Y).vm.findClass "[I" = some (gct G 1) := (hX.2.2.2.2.2.1.2 1 _ rfl).2
set_option maxRecDepth 100000 in
set_option maxHeartbeats 4000000 in
theorem t_J7_copyOf {a q0 N : Nat} {f : Nat → Int32} {n : Int32} (ha : ws[q0]? = some (a, .inl (gct G 1, N, .inl f))) (h0 : ¬ n < 0) (h1 : n.toNatClampNeg ≤ N) (h2 : n.toNatClampNeg ≤ 400) (h3 : N ≤ 400) : CrA l G 3 1 400 yJ7_copyOf_59c91 cJ7_copyOf_59c91 3 (.array .int) [.ref a, .int n] ws (fun q => (q, .inl (gct G 1, n.toNatClampNeg, .inl f)) :: ws) := by
  refine CrA.ofF (by decide +kernel) (Nat.le_of_ble_eq_true rfl) (fun Y hX hQ => ?_)
  refine j_lv (lv' := [(0, .ref a), (1, .int n)]) rfl ?_
  have hw := hX.2.2.2.2.1
  refine j_iload_n hX dJ7_copyOf_59c91_0 1 rfl 1 rfl rfl ?_
  refine j_aload_n hX dJ7_copyOf_59c91_1 2 rfl 0 rfl rfl ?_
  refine j_alen (n := 0) (v := Int32.ofNat N) hX dJ7_copyOf_59c91_2 3 rfl q0 1 ha rfl rfl ?_
  refine j_icmp_ne hX dJ7_copyOf_59c91_3 6 14 rfl rfl (fun hne => ?_) (fun heq => ?_)
  · refine j_iload_n hX dJ7_copyOf_59c91_14 15 rfl 1 rfl rfl ?_
    refine j_newA n.toNatClampNeg 1 hX dJ7_copyOf_59c91_15 17 rfl ac_I rfl rfl (fun cA => rfl) h0 rfl (by show n.toNatClampNeg * 4 ≤ _; omega) (Nat.le_refl _) (by show 0 + n.toNatClampNeg ≤ 400; omega) (fun q => ?_)
    refine j_astore_n (x := q) (lv' := [(2, .ref q), (0, .ref a), (1, .int n)]) hX dJ7_copyOf_59c91_17 18 rfl rfl (by decide) rfl ?_
    refine j_aload_n hX dJ7_copyOf_59c91_18 19 rfl 1 rfl rfl ?_
    refine j_iconst (v := 0) hX dJ7_copyOf_59c91_19 20 rfl (by decide) ?_
    refine j_aload_n hX dJ7_copyOf_59c91_20 21 rfl 0 rfl rfl ?_
    refine j_iconst (v := 0) hX dJ7_copyOf_59c91_21 22 rfl (by decide) ?_
    refine j_aload_n hX dJ7_copyOf_59c91_22 23 rfl 1 rfl rfl ?_
    have ha' : ((q, .inl (gct G 1, n.toNatClampNeg, .inl (fun _ => 0))) :: ws : va_W)[q0 + 1]? = some (a, .inl (gct G 1, N, .inl f)) := ha
    refine j_alen (n := 0) (v := Int32.ofNat N) hX dJ7_copyOf_59c91_23 24 rfl (q0 + 1) 1 ha' rfl rfl ?_
    refine j_iload_n hX dJ7_copyOf_59c91_24 25 rfl 2 rfl rfl ?_
    refine j_min (rest := [.int 0, .ref q, .int 0, .ref a]) hX dJ7_copyOf_59c91_25 28 rfl mm_J7_304 (by decide) (Nat.le_of_ble_eq_true rfl) (by show 0 + 1 ≤ 1; omega) (by show 0 + n.toNatClampNeg ≤ 400; omega) ?_
    have hnN : n = Int32.ofNat n.toNatClampNeg := by
      obtain ⟨j, hj, rfl⟩ := nI_of h0
      show nI j = nI (nI j).toNatClampNeg
      rw [nI_clamp hj]
    have hmin : min32 (Int32.ofNat N) n = n := by
      unfold min32
      by_cases h : n < Int32.ofNat N
      · rw [if_pos h]
      · rw [if_neg h]
        rw [hnN] at h ⊢
        have hle : ¬ n.toNatClampNeg < N := fun hl => h (nI_lt hl (by omega))
        rw [show n.toNatClampNeg = N by omega]
    rw [hmin]
    intro H locs ls x b c e
    refine va_copyi hX.1 hX.2.1 x.1.symm hX.2.2.2.1 (hw _ w_150) (hw _ w_na) (hw _ w_sa) (hw _ w_is) hX.2.2.2.2.2.1 b c e (q0 + 1) 0 1 1 ha' rfl rfl rfl rfl (by decide) (by decide) h0 (by show 0 + _ ≤ _; omega) (by show 0 + _ ≤ _; omega) (fun i hi => rfl) (by decide) (by decide) dJ7_copyOf_59c91_28 (fun H1 locs1 b1 c1 e1 => ?_)
    have hj : J l G (rmD 3 1 400) Y (0 + 1) (0 + n.toNatClampNeg) 31 [(2, .ref q), (0, .ref a), (1, .int n)] [] ((q, .inl (gct G 1, n.toNatClampNeg, .inl (va_cpy f (fun _ => 0) 0 0 n.toNatClampNeg))) :: ws) := by
      refine j_celli (q0 := 0) (f' := f) rfl (fun k hk => by unfold va_cpy; rw [if_pos ⟨Nat.zero_le _, by omega⟩]; congr 1; omega) (ws2 := (q, .inl (gct G 1, n.toNatClampNeg, .inl f)) :: ws) rfl ?_
      refine j_aload_n hX dJ7_copyOf_59c91_31 32 rfl 0 rfl rfl ?_
      exact j_aretR hX hQ (Nat.le_refl _) (by show 0 + n.toNatClampNeg ≤ 400; omega) rfl dJ7_copyOf_59c91_32
    exact hj H1 locs1 ls x b1 c1 e1
  · refine j_aload_n hX dJ7_copyOf_59c91_6 7 rfl 0 rfl rfl ?_
    have hN : n.toNatClampNeg = N := by rw [heq]; exact nI_clamp (by omega)
    intro H locs ls x b c e
    refine va_clone hX.1 hX.2.1 x.1.symm hX.2.2.2.1 (hw _ w_316) (hw _ w_sm) (hw _ w_nc) (hw _ w_ic) (hw _ w_sc) (hX.2.2.2.2.2.2.2.1.2.1 _ w_cc) hX.2.2.2.2.2.1 b c e (hA_of hX) q0 1 ha rfl (fnd_I hX) (fun i v hv => ?_) (by decide) (by decide) (Nat.le_refl _) (by show 0 + N ≤ 400; omega) dJ7_copyOf_59c91_7 (fun q H1 hK hP hD hS => ?_)
    · have hv : (arrV (gct G 1) N (fun j => .int (f j))).slots[i]? = some v := hv
      have hi : i < N := by
        have := (Array.getElem?_eq_some_iff.mp hv).1
        rwa [arrV_size] at this
      rw [arrV_read _ _ hi] at hv
      cases hv
      rfl
    · have hj : J l G (rmD 3 1 400) Y (0 + 1) (0 + N) 10 [(0, .ref a), (1, .int n)] [.ref q] ((q, .inl (gct G 1, N, .inl f)) :: ws) := by
        intro H2 locs2 ls2 x2 b2 c2 e2
        refine va_castA hX.1 hX.2.1 hX.2.2.2.1 (hw _ w_317) b2 0 rfl (fnd_I hX) dJ7_copyOf_59c91_10 ?_
        have hk : J l G (rmD 3 1 400) Y (0 + 1) (0 + N) 13 [(0, .ref a), (1, .int n)] [.ref q] ((q, .inl (gct G 1, N, .inl f)) :: ws) := j_aretR hX hQ (Nat.le_refl _) (by show 0 + N ≤ 400; omega) (by rw [hN]) dJ7_copyOf_59c91_13
        exact hk H2 locs2 ls2 x2 b2 c2 e2
      exact hj H1 locs ls x (vaP_perm (List.perm_append_singleton _ _) hP) (vaD_perm (List.perm_append_singleton _ _) hD) hS
set_option maxRecDepth 100000 in
set_option maxHeartbeats 4000000 in
theorem t_X3_code (h0 : ¬ a_codeSize < 0) (h2 : a_codeSize.toNatClampNeg ≤ 400) : CrA l G 4 1 400 yX3_code cX3_code 1 (.array .int) [.ref (gb G 21)] (WB G p_female p_born p_toldDeath p_lastYear p_father p_mother p_fatherGrade p_motherGrade p_size g_holder g_arms g_from g_size r_marks r_arms r_root r_steps r_grade r_marksAboveOne q_rows q_sizes t_bytes t_length s_tokens s_starts s_size a_code a_codeSize a_at a_token a_fault a_place (txf kT tA) o_names o_operands o_size o_open o_refuses o_differs o_fees c_years c_rows c_size x_faultPlace ++ (TXw G kT tA tC tN tF tY ++ fr)) (fun q => (q, .inl (gct G 1, a_codeSize.toNatClampNeg, .inl a_code)) :: (WB G p_female p_born p_toldDeath p_lastYear p_father p_mother p_fatherGrade p_motherGrade p_size g_holder g_arms g_from g_size r_marks r_arms r_root r_steps r_grade r_marksAboveOne q_rows q_sizes t_bytes t_length s_tokens s_starts s_size a_code a_codeSize a_at a_token a_fault a_place (txf kT tA) o_names o_operands o_size o_open o_refuses o_differs o_fees c_years c_rows c_size x_faultPlace ++ (TXw G kT tA tC tN tF tY ++ fr))) := by
  refine CrA.ofF (by decide +kernel) (Nat.le_of_ble_eq_true rfl) (fun Y hX hQ => ?_)
  refine j_lv (lv' := [(0, .ref (gb G 21))]) rfl ?_
  refine j_aload_n hX dX3_code_0 1 rfl 0 rfl rfl ?_
  refine j_get hX dX3_code_1 4 rfl fg_X3_20 21 rfl rfl ?_
  refine j_aload_n hX dX3_code_4 5 rfl 0 rfl rfl ?_
  refine j_get hX dX3_code_5 8 rfl fg_X3_24 21 rfl rfl ?_
  refine jS_r (As := [.ref (gb G 25), .int a_codeSize]) (rest := []) hX dX3_code_8 11 rfl (t_J7_copyOf (q0 := 25) rfl h0 h2 h2 (Nat.le_refl _)) mc_J7_copyOf_59c91 ms_J7_copyOf_59c91 ml_X3_51 (Nat.le_refl _) (Nat.le_refl _) (Nat.le_refl _) rfl (Nat.le_of_ble_eq_true rfl) (fun q => ?_)
  exact j_aretR hX hQ (Nat.le_refl _) (Nat.le_refl _) rfl dX3_code_11
theorem Cv.ofN {d mc ms : Nat} {y : MethodName} {cc : ByteArray} {nL : Nat} {av : List Value} {ws ws' : va_W} (hy : plainName y.cls = true) (hlen : (lg_sl av).length ≤ nL) (body : ∀ Y : YT, CX l G cc nL y.cls Y → (yt Y).name = y.name → EQv G Y mc ms ws' → J l G (rmD d mc ms) Y 0 0 0 (lv_args 0 av) [] ws) : Cv l G d mc ms y cc nL av ws ws' := by
  refine Met.ofW (cc := cc) (maxL := nL) (ret := none) hy rfl ?_
  intro p e s m args below meth c s₁ B hml hv
  obtain ⟨rfl, hB, hP, hD, hK, hE⟩ := hv
  have hts := atoms_spec (ws := .code y cc nL none :: TW) B.pre
  have hown : s.vm.findClass y.cls = some m.cls := findClass_of_methodNamed B.named
  have hl := lv_entry av (n := nL) hlen
  rw [lg_entry_eq]
  exact body (p, e, s, m, av.toArray, below, meth, c, _) ⟨B.exec, B.bytes, hml, hown, fun w hw => hts w (List.mem_cons_of_mem _ hw), hK, hB, hE, B.notSynchronized⟩ (name_of_methodNamed B.named B.method).1 ⟨B.returns, rfl⟩ s.heap [] _ (by show lv_has _ c.maxLocals _; rw [hml]; exact hl) hP hD va_S.rf
set_option maxRecDepth 100000 in
theorem t_X9_init {h0 a : Nat} {x2 : Int32} : Cv l G 2 0 0 yX9_init cX9_init 3 [.ref h0, .ref a, .int x2] ((h0, .inr (9, [.null, .int 0])) :: ws) ((h0, .inr (9, [.ref a, .int x2])) :: ws) := by
  refine Cv.ofN (by decide) (Nat.le_of_ble_eq_true rfl) (fun Y hX hnm hQ => ?_)
  refine j_lv (lv' := [(0, .ref h0), (1, .ref a), (2, .int x2)]) rfl ?_
  refine j_aload_n hX dX9_init_0 1 rfl 0 rfl rfl ?_
  refine j_objI hX dX9_init_1 4 rfl ol_X9 oi_i oi_c (by decide) (Nat.le_of_ble_eq_true rfl) ?_
  refine j_aload_n hX dX9_init_4 5 rfl 0 rfl rfl ?_
  refine j_aload_n hX dX9_init_5 6 rfl 1 rfl rfl ?_
  refine j_putF hX hnm dX9_init_6 9 rfl fg_X9_7 ft_X9_0 ⟨_, rfl, rfl⟩ 0 rfl rfl rfl (Nat.le_of_ble_eq_true rfl) (ws' := (h0, .inr (9, [.ref a, .int 0])) :: ws) rfl ?_
  refine j_aload_n hX dX9_init_9 10 rfl 0 rfl rfl ?_
  refine j_iload_n hX dX9_init_10 11 rfl 2 rfl rfl ?_
  refine j_putF hX hnm dX9_init_11 14 rfl fg_X9_13 ft_X9_1 ⟨_, rfl, rfl⟩ 0 rfl rfl rfl (Nat.le_of_ble_eq_true rfl) (ws' := (h0, .inr (9, [.ref a, .int x2])) :: ws) rfl ?_
  exact j_vret hX hQ dX9_init_14
theorem zI_v {Y : YT} {cells slots pc : Nat} {lv : List (Nat × Value)} {st rest As : List Value} {ws ws' : va_W} {cc : ByteArray} {nL : Nat} {own : String} {d d' mR sR idx maxL : Nat} {y : MethodName} {bytes : ByteArray} {a : Nat} (hX : CX l G cc nL own Y) (dd : decode cc pc = .ok (.invokespecial idx, 3)) (pn : Nat) (hp : pc + 3 = pn) (hC : Cv l G d' 0 0 y bytes maxL (.ref a :: As) ws ws') (hm : MC y bytes maxL none As.length) (hv : Cond.instanceMethod y ∈ TW) (hy1 : y.name = "<init>") (hl : Cond.methodLink own idx y ∈ TW) (hd : d' + 1 ≤ d) (hr1 : cells ≤ mR) (hr2 : slots ≤ sR) (hst : st = As.reverse ++ .ref a :: rest) (hW : (rest.map fun v => v.category).sum ≤ 8) (kk : J l G (rmD d mR sR) Y cells slots pn lv rest ws') : J l G (rmD d mR sR) Y cells slots pc lv st ws := by
  intro H locs ls a0 b c e
  subst hst
  have hw := hX.2.2.2.2.1
  refine va_callv (va_runI (As := As) (rest := rest) (b := a) (n := As.length) (nL := nL) (g := F0 (ym Y) pc ls (As.reverse ++ .ref a :: rest)) ⟨hX.1, hX.2.1, hX.2.2.1, hX.2.2.2.1, hw⟩ hC ⟨cB (R := rmD d mR sR) hX hm hl hd, hy1, hw _ hv⟩ ⟨PRE.blind, fun U hU hW9 => ⟨rfl, PRE.at hX b c e hU hW9⟩⟩ rfl rfl (a0.1.trans hX.2.2.1) rfl ?_ dd ⟨hr1, hr2⟩) e (fun _ _ h => h) (fun _ h => h) (fun u t H1 locs1 ht hvm hpo hB hz hk hS => ?_)
  · show 2 * 0 + _ ≤ 8
    omega
  · rw [hp]
    rw [← ht] at hS ⊢
    exact kk t.heap locs1 ls a0 hB.1 hB.2 hS
theorem j_astT {R : Room} {Y : YT} {cells slots pc : Nat} {lv : List (Nat × Value)} {st : List Value} {cc : ByteArray} {nL : Nat} {own : String} {a n v : Nat} {x : Int32} {vs : List Value} {f : Nat → Option Nat} {ws2 : va_W} (hX : CX l G cc nL own Y) (dd : decode cc pc = .ok (.aastore, 1)) (pn : Nat) (hp : pc + 1 = pn) (q0 qk : Nat) (ha : ws[q0]? = some (a, .inl (gct G 4, n, .inr (.inr (.inr (.inr f)))))) (hv : ws[qk]? = some (v, .inr (9, vs))) (hin : inb x n = true) (hw : ws.set q0 (a, .inl (gct G 4, n, .inr (.inr (.inr (.inr (va_up f x.toNatClampNeg (some v))))))) = ws2) (kk : J l G R Y cells slots pn lv st ws2) : J l G R Y cells slots pc lv (.ref v :: .int x :: .ref a :: st) ws := by
  subst hw
  intro H locs ls x0 b c e
  exact va_astq (r := (RX9, TX9, 2)) hX.1 hX.2.1 hX.2.2.2.2.2.1 b c e q0 4 qk 9 ha rfl hv rfl (inb_in hin) dd (fun H1 locs1 b1 c1 e1 => by rw [hp]; exact kk H1 locs1 ls x0 b1 c1 e1)
theorem txf_up {a : Nat} : txf kT (va_up tA kT a) = txf kT tA := by
  funext t
  unfold txf va_up
  by_cases h : t < kT
  · rw [if_pos h, if_pos h, if_neg (by omega)]
  · rw [if_neg h, if_neg h]
theorem txf_succ {a : Nat} : va_up (txf kT tA) kT (some a) = txf (kT + 1) (va_up tA kT a) := by
  funext t
  unfold txf va_up
  by_cases h : t = kT
  · subst h
    rw [if_pos rfl, if_pos (by omega), if_pos rfl]
  · rw [if_neg h]
    show (if t < kT then some (tA t) else none) = _
    by_cases h2 : t < kT
    · rw [if_pos h2, if_pos (by omega), if_neg h]
    · rw [if_neg h2, if_neg (by omega)]
theorem TXw_congr {tA' tC' tN' : Nat → Nat} {tF' : Nat → Nat → Int32} {tY' : Nat → Int32} : ∀ k : Nat, (∀ t, t < k → tA t = tA' t ∧ tC t = tC' t ∧ tN t = tN' t ∧ tF t = tF' t ∧ tY t = tY' t) → TXw G k tA tC tN tF tY = TXw G k tA' tC' tN' tF' tY' := by
  intro k
  induction k with
  | zero => intro _; rfl
  | succ k ih =>
    intro h
    obtain ⟨h1, h2, h3, h4, h5⟩ := h k (Nat.lt_succ_self k)
    show TXw G k tA tC tN tF tY ++ _ = TXw G k tA' tC' tN' tF' tY' ++ _
    rw [ih (fun t ht => h t (Nat.lt_succ_of_lt ht)), h1, h2, h3, h4, h5]
theorem TXw_up {a c n : Nat} {f : Nat → Int32} {y : Int32} : TXw G kT (va_up tA kT a) (va_up tC kT c) (va_up tN kT n) (va_up tF kT f) (va_up tY kT y) = TXw G kT tA tC tN tF tY := by
  refine (TXw_congr kT fun t ht => ?_).symm
  unfold va_up
  simp only [if_neg (show ¬ t = kT by omega), and_self]
theorem TXw_succ {a c n : Nat} {f : Nat → Int32} {y : Int32} : TXw G (kT + 1) (va_up tA kT a) (va_up tC kT c) (va_up tN kT n) (va_up tF kT f) (va_up tY kT y) = TXw G kT tA tC tN tF tY ++ [(a, .inr (9, [.ref c, .int y])), (c, .inl (gct G 1, n, .inl f))] := by
  show TXw G kT (va_up tA kT a) (va_up tC kT c) (va_up tN kT n) (va_up tF kT f) (va_up tY kT y) ++ _ = _
  rw [TXw_up]
  unfold va_up
  simp only [if_true]
theorem perm_tx {A B F X : va_W} : (X ++ (A ++ (B ++ F))).Perm (A ++ ((B ++ X) ++ F)) := by
  have h1 : (X ++ (A ++ (B ++ F))).Perm ((A ++ B ++ F) ++ X) := by
    rw [List.append_assoc A B F]
    exact List.perm_append_comm
  refine h1.trans ?_
  rw [List.append_assoc A B F, List.append_assoc A, List.append_assoc B, List.append_assoc B]
  exact List.Perm.append_left A (List.Perm.append_left B List.perm_append_comm)
def CiT (l : Launch) (G : GT) (d mc ms : Nat) (y : MethodName) (cc : ByteArray) (nL : Nat) (av : List Value) (ws : va_W) (r : Int32) (ws' : Nat × Nat → va_W) : Prop :=
  Met l y (.code y cc nL (some .int) :: TW) (rmD d mc ms) (va_Pc av (PRE l G ws)) (va_Qi (fun (r' : Int32) (_ : Nat × Nat) => r' = r) (fun u t => PO G (ws' u) () t) (gA G)) mc ms (gA G)
def EQT (G : GT) (Y : YT) (mc ms : Nat) (r : Int32) (ws' : Nat × Nat → va_W) : Prop := (yt Y).sig.returnType = some .int ∧ yQ Y = MQ (yb Y) (va_Qi (fun (r' : Int32) (_ : Nat × Nat) => r' = r) (fun u t => PO G (ws' u) () t) (gA G)) (ya Y) (ys Y) mc ms (gA G)
theorem CiT.of {d mc ms : Nat} {y : MethodName} {cc : ByteArray} {nL : Nat} {av : List Value} {ws : va_W} {r : Int32} {ws' : Nat × Nat → va_W} (hy : plainName y.cls = true) (hlen : (lg_sl av).length ≤ nL) (body : ∀ Y : YT, CX l G cc nL y.cls Y → EQT G Y mc ms r ws' → J l G (rmD d mc ms) Y 0 0 0 (lv_args 0 av) [] ws) : CiT l G d mc ms y cc nL av ws r ws' := by
  refine Met.ofW (cc := cc) (maxL := nL) (ret := some .int) hy rfl ?_
  intro p e s m args below meth c s₁ B hml hv
  obtain ⟨rfl, hB, hP, hD, hK, hE⟩ := hv
  have hts := atoms_spec (ws := .code y cc nL (some .int) :: TW) B.pre
  have hown : s.vm.findClass y.cls = some m.cls := findClass_of_methodNamed B.named
  have hl := lv_entry av (n := nL) hlen
  rw [lg_entry_eq]
  exact body (p, e, s, m, av.toArray, below, meth, c, _) ⟨B.exec, B.bytes, hml, hown, fun w hw => hts w (List.mem_cons_of_mem _ hw), hK, hB, hE, B.notSynchronized⟩ ⟨B.returns, rfl⟩ s.heap [] _ (by show lv_has _ c.maxLocals _; rw [hml]; exact hl) hP hD va_S.rf
theorem j_iretT {Y : YT} {cells slots pc d mc ms : Nat} {lv : List (Nat × Value)} {cc : ByteArray} {nL : Nat} {own : String} {r : Int32} {ws' : Nat × Nat → va_W} (u : Nat × Nat) (hX : CX l G cc nL own Y) (hQ : EQT G Y mc ms r ws') (hc : cells ≤ mc) (hs : slots ≤ ms) (hw : ws = ws' u) (dd : decode cc pc = .ok (.ireturn, 1)) : J l G (rmD d mc ms) Y cells slots pc lv [.int r] ws := by
  refine j_widen hc hs ?_
  intro H locs ls a b c e
  rw [hQ.2]
  have hlk : (yt Y).locks = false := hX.2.2.2.2.2.2.2.2
  exact W.iret (v := r) hX.1 hX.2.1 hQ.1 (fun t ht hW => ⟨⟨r, u, rfl, rfl, by rw [ht, ← hw]; exact b, by rw [← hw]; exact c⟩, e.F ht⟩) e.2.2 dd hlk
theorem jV_T {Y : YT} {cells slots pc : Nat} {lv : List (Nat × Value)} {st rest As : List Value} {ws : va_W} {ws' : Nat × Nat → va_W} {cc : ByteArray} {nL : Nat} {own : String} {d d' mc ms mR sR idx maxL : Nat} {y : MethodName} {bytes : ByteArray} {a q0 ci N : Nat} {T : u_T} {fs : List Value} {r : Int32} (hX : CX l G cc nL own Y) (dd : decode cc pc = .ok (.invokevirtual idx, 3)) (pn : Nat) (hp : pc + 3 = pn) (hC : CiT l G d' mc ms y bytes maxL (.ref a :: As) ws r ws') (hm : MC y bytes maxL (some .int) As.length) (hv : MV y) (hl : Cond.methodLink own idx y ∈ TW) (he : ws[q0]? = some (a, .inr (ci, fs))) (hc : vwCl[ci]? = some (y.cls, T, N)) (hd : d' + 1 ≤ d) (hr1 : cells + mc ≤ mR) (hr2 : slots + ms ≤ sR) (hst : st = As.reverse ++ .ref a :: rest) (hW : (rest.map fun v => v.category).sum ≤ 8) (kk : ∀ u, J l G (rmD d mR sR) Y (cells + mc) (slots + ms) pn lv (.int r :: rest) (ws' u)) : J l G (rmD d mR sR) Y cells slots pc lv st ws := by
  intro H locs ls a0 b c e
  subst hst
  refine va_calli (va_runV (As := As) (rest := rest) (b := a) (C := y.cls) (n := As.length) (nL := nL) (g := F0 (ym Y) pc ls (As.reverse ++ .ref a :: rest)) ⟨hX.1, hX.2.1, hX.2.2.1, hX.2.2.2.1, hX.2.2.2.2.1⟩ hC ⟨cB (R := rmD d mR sR) hX hm hl hd, hX.2.2.2.2.1 _ hv.1, hX.2.2.2.2.1 _ hv.2⟩ ⟨PRE.blind, va_recv hX.2.2.2.2.2.1 b hc he, fun U hU hW9 => ⟨rfl, PRE.at hX b c e hU hW9⟩⟩ rfl rfl (a0.1.trans hX.2.2.1) rfl ?_ dd ⟨hr1, hr2⟩) e (fun _ _ h => h) (fun _ h => h) (fun r1 u t H1 locs1 ht hvm hpo hB hz hk hS => ?_)
  · show 2 * 0 + _ ≤ 8
    omega
  · subst hpo
    rw [hp]
    rw [← ht] at hS ⊢
    exact kk u t.heap locs1 ls a0 hB.1 hB.2 hS
theorem perm_tx1 {A B F : va_W} {c : Nat × va_E} : (c :: (A ++ (B ++ F))).Perm (A ++ ((B ++ [c]) ++ F)) := perm_tx (X := [c])
theorem perm_tx2 {A B F : va_W} {q c : Nat × va_E} : (q :: (A ++ ((B ++ [c]) ++ F))).Perm (A ++ ((B ++ [q, c]) ++ F)) := by
  have h : ([q] ++ (A ++ ((B ++ [c]) ++ F))).Perm (A ++ (((B ++ [c]) ++ [q]) ++ F)) := perm_tx
  refine h.trans (List.Perm.append_left A (List.Perm.append_right F ?_))
  rw [List.append_assoc]
  exact List.Perm.append_left B (List.Perm.swap q c [])
set_option maxRecDepth 100000 in
set_option maxHeartbeats 4000000 in
theorem t_X2_add {ca n : Nat} {f : Nat → Int32} (x2 : Int32) (hs : o_size = Int32.ofNat kT) (hk : kT < 6) : CiT l G 3 1 2 yX2_add cX2_add 4 [.ref (gb G 26), .ref ca, .int x2] ((ca, .inl (gct G 1, n, .inl f)) :: (WB G p_female p_born p_toldDeath p_lastYear p_father p_mother p_fatherGrade p_motherGrade p_size g_holder g_arms g_from g_size r_marks r_arms r_root r_steps r_grade r_marksAboveOne q_rows q_sizes t_bytes t_length s_tokens s_starts s_size a_code a_codeSize a_at a_token a_fault a_place (txf kT tA) o_names o_operands o_size o_open o_refuses o_differs o_fees c_years c_rows c_size x_faultPlace ++ (TXw G kT tA tC tN tF tY ++ fr))) o_size (fun u => (WB G p_female p_born p_toldDeath p_lastYear p_father p_mother p_fatherGrade p_motherGrade p_size g_holder g_arms g_from g_size r_marks r_arms r_root r_steps r_grade r_marksAboveOne q_rows q_sizes t_bytes t_length s_tokens s_starts s_size a_code a_codeSize a_at a_token a_fault a_place (txf (kT + 1) (va_up tA kT u.1)) o_names o_operands (o_size + 1) o_open o_refuses o_differs o_fees c_years c_rows c_size x_faultPlace ++ (TXw G (kT + 1) (va_up tA kT u.1) (va_up tC kT ca) (va_up tN kT n) (va_up tF kT f) (va_up tY kT x2) ++ fr))) := by
  refine CiT.of (by decide) (Nat.le_of_ble_eq_true rfl) (fun Y hX hQ => ?_)
  refine j_lv (lv' := [(0, .ref (gb G 26)), (1, .ref ca), (2, .int x2)]) rfl ?_
  have hcl : Int32.toNatClampNeg o_size = kT := by rw [hs]; exact nI_clamp (by omega)
  have hin : inb o_size 6 = true := by
    rw [hs]
    unfold inb
    have h1 : ¬ (Int32.ofNat kT < 0) := nI_pos (by omega)
    have h2 : (Int32.ofNat kT).toNatClampNeg = kT := nI_clamp (by omega)
    rw [decide_eq_false h1, h2, decide_eq_false (by omega)]
    rfl
  have hfull : f_X2_isFull o_size = some 0 := by
    unfold f_X2_isFull
    rw [if_pos (show o_size < 6 by rw [hs]; exact nI_lt (b := 6) hk (by decide))]
    rfl
  refine j_perm (ws' := (WB G p_female p_born p_toldDeath p_lastYear p_father p_mother p_fatherGrade p_motherGrade p_size g_holder g_arms g_from g_size r_marks r_arms r_root r_steps r_grade r_marksAboveOne q_rows q_sizes t_bytes t_length s_tokens s_starts s_size a_code a_codeSize a_at a_token a_fault a_place (txf kT tA) o_names o_operands o_size o_open o_refuses o_differs o_fees c_years c_rows c_size x_faultPlace ++ ((TXw G kT tA tC tN tF tY ++ [(ca, .inl (gct G 1, n, .inl f))]) ++ fr))) perm_tx1 ?_
  refine j_aload_n hX dX2_add_0 1 rfl 0 rfl rfl ?_
  refine z_i (As := []) (rest := []) (q0 := 26) hX dX2_add_1 4 rfl (t_X2_isFull hfull) mc_X2_isFull mv_X2_isFull ml_X2_41 rfl rfl (Nat.le_of_ble_eq_true rfl) (Nat.zero_le _) (Nat.zero_le _) rfl (Nat.le_of_ble_eq_true rfl) ?_
  refine j_if_eq hX dX2_add_4 7 9 rfl rfl (fun _ => ?_) (fun h => absurd rfl h)
  refine j_aload_n hX dX2_add_9 10 rfl 0 rfl rfl ?_
  refine j_get hX dX2_add_10 13 rfl fg_X2_24 26 rfl rfl ?_
  refine j_istore_n (lv' := [(3, .int o_size), (0, .ref (gb G 26)), (1, .ref ca), (2, .int x2)]) hX dX2_add_13 14 rfl rfl (by decide) rfl ?_
  refine j_aload_n hX dX2_add_14 15 rfl 1 rfl rfl ?_
  refine j_get hX dX2_add_15 18 rfl fg_X2_13 26 rfl rfl ?_
  refine j_iload_n hX dX2_add_18 19 rfl 0 rfl rfl ?_
  refine j_new (fs := [.null, .int 0]) hX dX2_add_19 22 rfl nw_X2_11 (by decide) (Nat.le_refl _) (Nat.le_refl _) (fun q => ?_)
  refine j_dup hX dX2_add_22 23 rfl rfl ?_
  refine j_aload_n hX dX2_add_23 24 rfl 2 rfl rfl ?_
  refine j_iload_n hX dX2_add_24 25 rfl 3 rfl rfl ?_
  refine zI_v (As := [.ref ca, .int x2]) (rest := [.ref q, .int o_size, .ref (gb G 27)]) hX dX2_add_25 28 rfl t_X9_init mc_X9_init mi_X9_init rfl ml_X2_45 (Nat.le_of_ble_eq_true rfl) (Nat.le_refl _) (Nat.le_refl _) rfl (Nat.le_of_ble_eq_true rfl) ?_
  refine j_astT hX dX2_add_28 29 rfl 28 0 rfl rfl hin (ws2 := (q, .inr (9, [.ref ca, .int x2])) :: (WB G p_female p_born p_toldDeath p_lastYear p_father p_mother p_fatherGrade p_motherGrade p_size g_holder g_arms g_from g_size r_marks r_arms r_root r_steps r_grade r_marksAboveOne q_rows q_sizes t_bytes t_length s_tokens s_starts s_size a_code a_codeSize a_at a_token a_fault a_place (va_up (txf kT tA) (Int32.toNatClampNeg o_size) (some q)) o_names o_operands o_size o_open o_refuses o_differs o_fees c_years c_rows c_size x_faultPlace ++ ((TXw G kT tA tC tN tF tY ++ [(ca, .inl (gct G 1, n, .inl f))]) ++ fr))) rfl ?_
  refine j_aload_n hX dX2_add_29 30 rfl 1 rfl rfl ?_
  refine j_iload_n hX dX2_add_30 31 rfl 0 rfl rfl ?_
  refine j_iconst (v := 1) hX dX2_add_31 32 rfl (by decide) ?_
  refine j_iadd hX dX2_add_32 33 rfl ?_
  refine j_put hX dX2_add_33 36 rfl fg_X2_24 ft_X2_3 27 rfl rfl rfl (Nat.le_of_ble_eq_true rfl) (ws' := (q, .inr (9, [.ref ca, .int x2])) :: (WB G p_female p_born p_toldDeath p_lastYear p_father p_mother p_fatherGrade p_motherGrade p_size g_holder g_arms g_from g_size r_marks r_arms r_root r_steps r_grade r_marksAboveOne q_rows q_sizes t_bytes t_length s_tokens s_starts s_size a_code a_codeSize a_at a_token a_fault a_place (va_up (txf kT tA) (Int32.toNatClampNeg o_size) (some q)) o_names o_operands (o_size + 1) o_open o_refuses o_differs o_fees c_years c_rows c_size x_faultPlace ++ ((TXw G kT tA tC tN tF tY ++ [(ca, .inl (gct G 1, n, .inl f))]) ++ fr))) rfl ?_
  refine j_iload_n hX dX2_add_36 37 rfl 0 rfl rfl ?_
  refine j_perm perm_tx2 ?_
  refine j_iretT (q, 0) hX hQ (Nat.le_refl _) (Nat.le_refl _) ?_ dX2_add_37
  rw [hcl, txf_succ]
  dsimp only
  rw [TXw_succ]
end
