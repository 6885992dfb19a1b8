section
variable {l : Launch} {G : GT} {fr ws : va_W} {kT : Nat} {tA tC tN : Nat → Nat} {tF : Nat → Nat → Int32} {tY : Nat → Int32} {p_female : Nat → Int32} {p_born : Nat → Int32} {p_toldDeath : Nat → Int32} {p_lastYear : Nat → Int32} {p_father : Nat → Int32} {p_mother : Nat → Int32} {p_fatherGrade : Nat → Int32} {p_motherGrade : Nat → Int32} {p_size : Int32} {g_holder : Nat → Int32} {g_arms : Nat → Int32} {g_from : Nat → Int32} {g_size : Int32} {r_marks : Nat → Int32} {r_arms : Int32} {r_root : Int32} {r_steps : Int32} {r_grade : Int32} {r_marksAboveOne : Int32} {q_rows : Nat → Int32} {q_sizes : Nat → Int32} {t_bytes : Nat → Int32} {t_length : Int32} {s_tokens : Nat → Int32} {s_starts : Nat → Int32} {s_size : Int32} {a_code : Nat → Int32} {a_codeSize : Int32} {a_at : Int32} {a_token : Int32} {a_fault : Int32} {a_place : Int32} {o_texts : Nat → Option Nat} {o_names : Nat → Int32} {o_operands : Nat → Int32} {o_size : Int32} {o_open : Int32} {o_refuses : Int32} {o_differs : Int32} {o_fees : Int32} {c_years : Nat → Int32} {c_rows : Nat → Int32} {c_size : Int32} {x_faultPlace : Int32}
variable {ao : Nat} {fo : Nat → Int64}
theorem perm_o {A B F : va_W} {o : Nat × va_E} : (o :: (A ++ (B ++ F))).Perm (A ++ (B ++ (o :: F))) := by
  have h : (o :: ((A ++ B) ++ F)).Perm ((A ++ B) ++ o :: F) := List.perm_middle.symm
  rw [List.append_assoc, List.append_assoc] at h
  exact h
def Ch (l : Launch) (G : GT) (d mc ms : Nat) (y : MethodName) (cc : ByteArray) (nL : Nat) (hh : List (Nat × Nat × Nat × Nat)) (av : List Value) (ws : va_W) (r : Int32) (ws' : Nat × Nat → va_W) : Prop :=
  Met l y (.codeWith y cc nL (some .int) hh :: TW) (rmD d mc ms) (va_Pc av (PRE l G ws)) (va_Qi (fun (r' : Int32) (_ : Nat × Nat) => r' = r) (fun u t => PO G (ws' u) () t) (gA G)) mc ms (gA G)
theorem Ch.of {d mc ms : Nat} {y : MethodName} {cc : ByteArray} {nL : Nat} {hh : List (Nat × Nat × Nat × Nat)} {av : List Value} {ws : va_W} {r : Int32} {ws' : Nat × Nat → va_W} (hy : plainName y.cls = true) (hlen : (lg_sl av).length ≤ nL) (body : ∀ Y : YT, CX l G cc nL y.cls Y → (yc Y).exceptionTable.toList = tableOf hh → EQT G Y mc ms r ws' → J l G (rmD d mc ms) Y 0 0 0 (lv_args 0 av) [] ws) : Ch l G d mc ms y cc nL hh av ws r ws' := by
  refine va_MetW (cc := cc) (maxL := nL) (ret := some .int) (hh := hh) hy rfl ?_
  intro p e s m args below meth c s₁ B hml hv
  obtain ⟨rfl, hB, hP, hD, hK, hE⟩ := hv
  have hts := atoms_spec (ws := .codeWith y cc nL (some .int) hh :: TW) B.pre
  have htab := vx_table (x := y) B (hts _ List.mem_cons_self)
  have hown : s.vm.findClass y.cls = some m.cls := findClass_of_methodNamed B.named
  have hl := lv_entry av (n := nL) hlen
  rw [lg_entry_eq]
  exact body (p, e, s, m, av.toArray, below, meth, c, _) ⟨B.exec, B.bytes, hml, hown, fun w hw => hts w (List.mem_cons_of_mem _ hw), hK, hB, hE, B.notSynchronized⟩ htab ⟨B.returns, rfl⟩ s.heap [] _ (by show lv_has _ c.maxLocals _; rw [hml]; exact hl) hP hD va_S.rf
theorem jx_caught {Y : YT} {cells slots pc : Nat} {lv : List (Nat × Value)} {st rest As : List Value} {ws ws' : va_W} {cc : ByteArray} {nL : Nat} {own : String} {d d' mR sR idx maxL : Nat} {y : MethodName} {bytes : ByteArray} {ty : FieldType} {a q0 ci N : Nat} {T : u_T} {fs : List Value} {E : String} (x : ExceptionTableEntry) (hX : CX l G cc nL own Y) (htab : (yc Y).exceptionTable.toList = [x]) (dd : decode cc pc = .ok (.invokevirtual idx, 3)) (hC : Xt l G d' 1 6 y bytes maxL (some ty) (.ref a :: As) ws ws' E) (hm : MC y bytes maxL (some ty) As.length) (hv : MV y) (hl : Cond.methodLink own idx y ∈ TW) (he : ws[q0]? = some (a, .inr (ci, fs))) (hc : vwCl[ci]? = some (y.cls, T, N)) (hd : d' + 1 ≤ d) (hr1 : cells + 1 ≤ mR) (hr2 : slots + 6 ≤ sR) (hst : st = As.reverse ++ .ref a :: rest) (hW : (rest.map fun v => v.category).sum ≤ 8) (hcov : covers x pc = true) (h0 : x.catchType ≠ 0) (hlink : Cond.classLink own x.catchType E ∈ TW) (hcast : Cond.castable E E ∈ EWL) (kk : ∀ q, J l G (rmD d mR sR) Y (cells + 1) (slots + 6) x.handlerPc lv [.ref q] ws') : J l G (rmD d mR sR) Y cells slots pc lv st ws := by
  intro H locs ls a0 b c e
  subst hst
  refine vx_calli (vx_runV (As := As) (rest := rest) (b := a) (C := y.cls) (n := As.length) (nL := nL) (g := F0 (ym Y) pc ls (As.reverse ++ .ref a :: rest)) ⟨hX.1, hX.2.1, hX.2.2.1, hX.2.2.2.1, hX.2.2.2.2.1⟩ hC ⟨cB (R := rmD d mR sR) hX hm hl hd, hX.2.2.2.2.1 _ hv.1, hX.2.2.2.2.1 _ hv.2⟩ ⟨PRE.blind, va_recv hX.2.2.2.2.2.1 b hc he, fun U hU hW9 => ⟨rfl, PRE.at hX b c e hU hW9⟩⟩ rfl rfl (a0.1.trans hX.2.2.1) rfl ?_ dd ⟨hr1, hr2⟩) e (fun _ _ h => h) (fun _ h => h) (fun _ _ h => h) (fun E9 ce q9 u t H1 locs1 ht hvm _ hB hz hk hS hce hcv hcl => ?_) (fun r u t H1 locs1 ht hvm hpo => absurd hpo id)
  · show 2 * 0 + _ ≤ 8
    omega
  · obtain ⟨rfl, hP1, hD1⟩ := hB
    rw [ht] at hP1
    exact n_catch hX.2.2.2.1 x htab hcov h0 (hX.2.2.2.2.1 _ hlink) (va_Nw.use rfl (hX.2.2.2.2.2.2.2.1.2.1 _ hcast)) hce hcv hcl (kk q9 H1 locs1 ls a0 hP1 hD1 hS)
theorem w_cNS : Cond.castable xNS xNS ∈ EWL := inEW 336 (by decide +kernel) rfl
theorem w_cIA : Cond.castable xIA xIA ∈ EWL := inEW 444 (by decide +kernel) rfl
theorem w_lNS : Cond.classLink RL 13 xNS ∈ TW := inTW 390 (by decide +kernel) rfl
theorem w_lIA : Cond.classLink RL 23 xIA ∈ TW := inTW 505 (by decide +kernel) rfl
set_option maxRecDepth 100000 in
set_option maxHeartbeats 4000000 in
theorem h_L_parent (x1 : Int32) (x2 : Int32) (x3 : Int32) (x4 : Int32) {r : Int32 × (Nat → Int32) × (Nat → Int32) × (Nat → Int32) × (Nat → Int32)} (hf : f_X10_parent p_female p_born p_lastYear p_size p_father p_mother p_fatherGrade p_motherGrade x1 x2 x3 x4 = some r) : Ch l G 9 2 402 yL_parent cL_parent 7 [(0, 21, 24, 13)] [.ref (gb G 0), .int x1, .int x2, .int x3, .int x4, .ref ao] ((ao, .inl (gct G 3, 1, .inr (.inl fo))) :: (WB G p_female p_born p_toldDeath p_lastYear p_father p_mother p_fatherGrade p_motherGrade p_size g_holder g_arms g_from g_size r_marks r_arms r_root r_steps r_grade r_marksAboveOne q_rows q_sizes t_bytes t_length s_tokens s_starts s_size a_code a_codeSize a_at a_token a_fault a_place (txf kT tA) o_names o_operands o_size o_open o_refuses o_differs o_fees c_years c_rows c_size x_faultPlace ++ (TXw G kT tA tC tN tF tY ++ fr))) 0 (fun u => ((ao, .inl (gct G 3, 1, .inr (.inl (vp_updL fo (Int32.toNatClampNeg 0) ((if r.1 = 0 then 0 else 1)))))) :: (WB G p_female p_born p_toldDeath p_lastYear r.2.1 r.2.2.1 r.2.2.2.1 r.2.2.2.2 p_size g_holder g_arms g_from g_size r_marks r_arms r_root r_steps r_grade r_marksAboveOne q_rows q_sizes t_bytes t_length s_tokens s_starts s_size a_code a_codeSize a_at a_token a_fault a_place (txf kT tA) o_names o_operands o_size o_open o_refuses o_differs o_fees c_years c_rows c_size x_faultPlace ++ (TXw G kT tA tC tN tF tY ++ fr)))) := by
  refine Ch.of (by decide) (Nat.le_of_ble_eq_true rfl) (fun Y hX htab hQ => ?_)
  refine j_lv (lv' := [(0, .ref (gb G 0)), (1, .int x1), (2, .int x2), (3, .int x3), (4, .int x4), (5, .ref ao)]) rfl ?_
  refine j_aload hX dL_parent_0 2 rfl 5 rfl ?_
  refine j_iconst (v := 0) hX dL_parent_2 3 rfl (by decide) ?_
  refine j_aload_n hX dL_parent_3 4 rfl 0 rfl rfl ?_
  refine j_iload_n hX dL_parent_4 5 rfl 1 rfl rfl ?_
  refine j_iload_n hX dL_parent_5 6 rfl 2 rfl rfl ?_
  refine j_iload_n hX dL_parent_6 7 rfl 3 rfl rfl ?_
  refine j_iload hX dL_parent_7 9 rfl 4 rfl ?_
  refine j_perm perm_o ?_
  refine z_i (As := [.int x1, .int x2, .int x3, .int x4]) (rest := [.int 0, .ref ao]) (q0 := 0) hX dL_parent_9 12 rfl (t_X10_parent x1 x2 x3 x4 hf) mc_X10_parent mv_X10_parent ml_L_7 rfl rfl (Nat.le_of_ble_eq_true rfl) (Nat.zero_le _) (Nat.zero_le _) rfl (Nat.le_of_ble_eq_true rfl) ?_
  refine j_perm perm_o.symm ?_
  refine j_if_eq hX dL_parent_12 15 19 rfl rfl (fun h => ?_) (fun h => ?_)
  · refine j_lconst (v := 0) hX dL_parent_19 20 rfl (by decide) ?_
    refine j_last hX dL_parent_20 21 rfl 0 rfl (by decide) rfl ?_
    refine j_goto hX dL_parent_21 28 rfl ?_
    refine j_iconst (v := 0) hX dL_parent_28 29 rfl (by decide) ?_
    exact j_iretT (0, 0) hX hQ (Nat.le_of_ble_eq_true rfl) (Nat.le_of_ble_eq_true rfl) (by rw [if_pos h]; rfl) dL_parent_29
  · refine j_lconst (v := 1) hX dL_parent_15 16 rfl (by decide) ?_
    refine j_goto hX dL_parent_16 20 rfl ?_
    refine j_last hX dL_parent_20 21 rfl 0 rfl (by decide) rfl ?_
    refine j_goto hX dL_parent_21 28 rfl ?_
    refine j_iconst (v := 0) hX dL_parent_28 29 rfl (by decide) ?_
    exact j_iretT (0, 0) hX hQ (Nat.le_of_ble_eq_true rfl) (Nat.le_of_ble_eq_true rfl) (by rw [if_neg h]; rfl) dL_parent_29
set_option maxRecDepth 100000 in
set_option maxHeartbeats 4000000 in
theorem h_L_parent_x (x1 : Int32) (x2 : Int32) (x3 : Int32) (x4 : Int32) {r : (Nat → Int32) × (Nat → Int32) × (Nat → Int32) × (Nat → Int32)} (hf : f_X10_parent_x p_size p_father p_mother p_fatherGrade p_motherGrade x1 x2 x3 = some r) : Ch l G 9 2 402 yL_parent cL_parent 7 [(0, 21, 24, 13)] [.ref (gb G 0), .int x1, .int x2, .int x3, .int x4, .ref ao] ((ao, .inl (gct G 3, 1, .inr (.inl fo))) :: (WB G p_female p_born p_toldDeath p_lastYear p_father p_mother p_fatherGrade p_motherGrade p_size g_holder g_arms g_from g_size r_marks r_arms r_root r_steps r_grade r_marksAboveOne q_rows q_sizes t_bytes t_length s_tokens s_starts s_size a_code a_codeSize a_at a_token a_fault a_place (txf kT tA) o_names o_operands o_size o_open o_refuses o_differs o_fees c_years c_rows c_size x_faultPlace ++ (TXw G kT tA tC tN tF tY ++ fr))) 1 (fun _ => ((ao, .inl (gct G 3, 1, .inr (.inl fo))) :: (WB G p_female p_born p_toldDeath p_lastYear r.1 r.2.1 r.2.2.1 r.2.2.2 p_size g_holder g_arms g_from g_size r_marks r_arms r_root r_steps r_grade r_marksAboveOne q_rows q_sizes t_bytes t_length s_tokens s_starts s_size a_code a_codeSize a_at a_token a_fault a_place (txf kT tA) o_names o_operands o_size o_open o_refuses o_differs o_fees c_years c_rows c_size x_faultPlace ++ (TXw G kT tA tC tN tF tY ++ fr)))) := by
  refine Ch.of (by decide) (Nat.le_of_ble_eq_true rfl) (fun Y hX htab hQ => ?_)
  refine j_lv (lv' := [(0, .ref (gb G 0)), (1, .int x1), (2, .int x2), (3, .int x3), (4, .int x4), (5, .ref ao)]) rfl ?_
  refine j_aload hX dL_parent_0 2 rfl 5 rfl ?_
  refine j_iconst (v := 0) hX dL_parent_2 3 rfl (by decide) ?_
  refine j_aload_n hX dL_parent_3 4 rfl 0 rfl rfl ?_
  refine j_iload_n hX dL_parent_4 5 rfl 1 rfl rfl ?_
  refine j_iload_n hX dL_parent_5 6 rfl 2 rfl rfl ?_
  refine j_iload_n hX dL_parent_6 7 rfl 3 rfl rfl ?_
  refine j_iload hX dL_parent_7 9 rfl 4 rfl ?_
  refine j_perm perm_o ?_
  refine jx_caught (As := [.int x1, .int x2, .int x3, .int x4]) (rest := [.int 0, .ref ao]) (q0 := 0) ⟨0, 21, 24, 13⟩ hX htab dL_parent_9 (t_X10_parent_x x1 x2 x3 x4 hf) mc_X10_parent mv_X10_parent ml_L_7 rfl rfl (Nat.le_of_ble_eq_true rfl) (Nat.le_of_ble_eq_true rfl) (Nat.le_of_ble_eq_true rfl) rfl (Nat.le_of_ble_eq_true rfl) (by decide) (by decide) w_lNS w_cNS (fun q => ?_)
  refine j_perm perm_o.symm ?_
  refine j_astore (x := q) (lv' := [(6, .ref q), (0, .ref (gb G 0)), (1, .int x1), (2, .int x2), (3, .int x3), (4, .int x4), (5, .ref ao)]) hX dL_parent_24 26 rfl (by decide) rfl ?_
  refine j_iconst (v := 1) hX dL_parent_26 27 rfl (by decide) ?_
  exact j_iretT (0, 0) hX hQ (Nat.le_of_ble_eq_true rfl) (Nat.le_of_ble_eq_true rfl) rfl dL_parent_27
set_option maxRecDepth 100000 in
set_option maxHeartbeats 4000000 in
theorem h_L_grant (x1 : Int32) (x2 : Int32) (x3 : Int32) {r : Int32 × (Nat → Int32) × (Nat → Int32) × (Nat → Int32) × Int32} (hf : f_X10_grant p_size g_holder g_arms g_from g_size x1 x2 x3 = some r) : Ch l G 9 2 402 yL_grant cL_grant 6 [(0, 12, 15, 13)] [.ref (gb G 0), .int x1, .int x2, .int x3, .ref ao] ((ao, .inl (gct G 3, 1, .inr (.inl fo))) :: (WB G p_female p_born p_toldDeath p_lastYear p_father p_mother p_fatherGrade p_motherGrade p_size g_holder g_arms g_from g_size r_marks r_arms r_root r_steps r_grade r_marksAboveOne q_rows q_sizes t_bytes t_length s_tokens s_starts s_size a_code a_codeSize a_at a_token a_fault a_place (txf kT tA) o_names o_operands o_size o_open o_refuses o_differs o_fees c_years c_rows c_size x_faultPlace ++ (TXw G kT tA tC tN tF tY ++ fr))) 0 (fun u => ((ao, .inl (gct G 3, 1, .inr (.inl (vp_updL fo (Int32.toNatClampNeg 0) (Int32.toInt64 r.1))))) :: (WB G p_female p_born p_toldDeath p_lastYear p_father p_mother p_fatherGrade p_motherGrade p_size r.2.1 r.2.2.1 r.2.2.2.1 r.2.2.2.2 r_marks r_arms r_root r_steps r_grade r_marksAboveOne q_rows q_sizes t_bytes t_length s_tokens s_starts s_size a_code a_codeSize a_at a_token a_fault a_place (txf kT tA) o_names o_operands o_size o_open o_refuses o_differs o_fees c_years c_rows c_size x_faultPlace ++ (TXw G kT tA tC tN tF tY ++ fr)))) := by
  refine Ch.of (by decide) (Nat.le_of_ble_eq_true rfl) (fun Y hX htab hQ => ?_)
  refine j_lv (lv' := [(0, .ref (gb G 0)), (1, .int x1), (2, .int x2), (3, .int x3), (4, .ref ao)]) rfl ?_
  refine j_aload hX dL_grant_0 2 rfl 4 rfl ?_
  refine j_iconst (v := 0) hX dL_grant_2 3 rfl (by decide) ?_
  refine j_aload_n hX dL_grant_3 4 rfl 0 rfl rfl ?_
  refine j_iload_n hX dL_grant_4 5 rfl 1 rfl rfl ?_
  refine j_iload_n hX dL_grant_5 6 rfl 2 rfl rfl ?_
  refine j_iload_n hX dL_grant_6 7 rfl 3 rfl rfl ?_
  refine j_perm perm_o ?_
  refine z_i (As := [.int x1, .int x2, .int x3]) (rest := [.int 0, .ref ao]) (q0 := 0) hX dL_grant_7 10 rfl (t_X10_grant x1 x2 x3 hf) mc_X10_grant mv_X10_grant ml_L_15 rfl rfl (Nat.le_of_ble_eq_true rfl) (Nat.zero_le _) (Nat.zero_le _) rfl (Nat.le_of_ble_eq_true rfl) ?_
  refine j_perm perm_o.symm ?_
  refine j_i2l hX dL_grant_10 11 rfl ?_
  refine j_last hX dL_grant_11 12 rfl 0 rfl (by decide) rfl ?_
  refine j_goto hX dL_grant_12 19 rfl ?_
  refine j_iconst (v := 0) hX dL_grant_19 20 rfl (by decide) ?_
  exact j_iretT (0, 0) hX hQ (Nat.le_of_ble_eq_true rfl) (Nat.le_of_ble_eq_true rfl) rfl dL_grant_20
set_option maxRecDepth 100000 in
set_option maxHeartbeats 4000000 in
theorem h_L_grant_x (x1 : Int32) (x2 : Int32) (x3 : Int32) {r : (Nat → Int32) × (Nat → Int32) × (Nat → Int32) × Int32} (hf : f_X10_grant_x p_size g_holder g_arms g_from g_size x1 = some r) : Ch l G 9 2 402 yL_grant cL_grant 6 [(0, 12, 15, 13)] [.ref (gb G 0), .int x1, .int x2, .int x3, .ref ao] ((ao, .inl (gct G 3, 1, .inr (.inl fo))) :: (WB G p_female p_born p_toldDeath p_lastYear p_father p_mother p_fatherGrade p_motherGrade p_size g_holder g_arms g_from g_size r_marks r_arms r_root r_steps r_grade r_marksAboveOne q_rows q_sizes t_bytes t_length s_tokens s_starts s_size a_code a_codeSize a_at a_token a_fault a_place (txf kT tA) o_names o_operands o_size o_open o_refuses o_differs o_fees c_years c_rows c_size x_faultPlace ++ (TXw G kT tA tC tN tF tY ++ fr))) 1 (fun _ => ((ao, .inl (gct G 3, 1, .inr (.inl fo))) :: (WB G p_female p_born p_toldDeath p_lastYear p_father p_mother p_fatherGrade p_motherGrade p_size r.1 r.2.1 r.2.2.1 r.2.2.2 r_marks r_arms r_root r_steps r_grade r_marksAboveOne q_rows q_sizes t_bytes t_length s_tokens s_starts s_size a_code a_codeSize a_at a_token a_fault a_place (txf kT tA) o_names o_operands o_size o_open o_refuses o_differs o_fees c_years c_rows c_size x_faultPlace ++ (TXw G kT tA tC tN tF tY ++ fr)))) := by
  refine Ch.of (by decide) (Nat.le_of_ble_eq_true rfl) (fun Y hX htab hQ => ?_)
  refine j_lv (lv' := [(0, .ref (gb G 0)), (1, .int x1), (2, .int x2), (3, .int x3), (4, .ref ao)]) rfl ?_
  refine j_aload hX dL_grant_0 2 rfl 4 rfl ?_
  refine j_iconst (v := 0) hX dL_grant_2 3 rfl (by decide) ?_
  refine j_aload_n hX dL_grant_3 4 rfl 0 rfl rfl ?_
  refine j_iload_n hX dL_grant_4 5 rfl 1 rfl rfl ?_
  refine j_iload_n hX dL_grant_5 6 rfl 2 rfl rfl ?_
  refine j_iload_n hX dL_grant_6 7 rfl 3 rfl rfl ?_
  refine j_perm perm_o ?_
  refine jx_caught (As := [.int x1, .int x2, .int x3]) (rest := [.int 0, .ref ao]) (q0 := 0) ⟨0, 12, 15, 13⟩ hX htab dL_grant_7 (t_X10_grant_x x1 x2 x3 hf) mc_X10_grant mv_X10_grant ml_L_15 rfl rfl (Nat.le_of_ble_eq_true rfl) (Nat.le_of_ble_eq_true rfl) (Nat.le_of_ble_eq_true rfl) rfl (Nat.le_of_ble_eq_true rfl) (by decide) (by decide) w_lNS w_cNS (fun q => ?_)
  refine j_perm perm_o.symm ?_
  refine j_astore (x := q) (lv' := [(5, .ref q), (0, .ref (gb G 0)), (1, .int x1), (2, .int x2), (3, .int x3), (4, .ref ao)]) hX dL_grant_15 17 rfl (by decide) rfl ?_
  refine j_iconst (v := 1) hX dL_grant_17 18 rfl (by decide) ?_
  exact j_iretT (0, 0) hX hQ (Nat.le_of_ble_eq_true rfl) (Nat.le_of_ble_eq_true rfl) rfl dL_grant_18
set_option maxRecDepth 100000 in
set_option maxHeartbeats 4000000 in
theorem h_L_text {fu : Nat} (x1 : Int32) (x2 : Int32) {r : Int32 × Int32 × (Nat → Int32) × (Nat → Int32) × Int32 × (Nat → Int32) × Int32 × Int32 × Int32 × Int32 × Int32 × Int32 × Int32 × Nat} (hf : f_X10_text fu t_bytes kT t_length s_tokens s_starts s_size a_code a_codeSize a_at a_token a_fault a_place o_size x1 x2 = some r) : Ch l G 46 2 402 yL_text cL_text 5 [(0, 10, 13, 23)] [.ref (gb G 0), .int x1, .int x2, .ref ao] ((ao, .inl (gct G 3, 1, .inr (.inl fo))) :: (WB G p_female p_born p_toldDeath p_lastYear p_father p_mother p_fatherGrade p_motherGrade p_size g_holder g_arms g_from g_size r_marks r_arms r_root r_steps r_grade r_marksAboveOne q_rows q_sizes t_bytes t_length s_tokens s_starts s_size a_code a_codeSize a_at a_token a_fault a_place (txf kT tA) o_names o_operands o_size o_open o_refuses o_differs o_fees c_years c_rows c_size x_faultPlace ++ (TXw G kT tA tC tN tF tY ++ fr))) 0 (fun u => ((ao, .inl (gct G 3, 1, .inr (.inl (vp_updL fo (Int32.toNatClampNeg 0) (Int32.toInt64 r.1))))) :: (WB G p_female p_born p_toldDeath p_lastYear p_father p_mother p_fatherGrade p_motherGrade p_size g_holder g_arms g_from g_size r_marks r_arms r_root r_steps r_grade r_marksAboveOne q_rows q_sizes t_bytes r.2.1 r.2.2.1 r.2.2.2.1 r.2.2.2.2.1 r.2.2.2.2.2.1 r.2.2.2.2.2.2.1 r.2.2.2.2.2.2.2.1 r.2.2.2.2.2.2.2.2.1 r.2.2.2.2.2.2.2.2.2.1 r.2.2.2.2.2.2.2.2.2.2.1 (txf r.2.2.2.2.2.2.2.2.2.2.2.2.2 (va_up tA kT u.1)) o_names o_operands r.2.2.2.2.2.2.2.2.2.2.2.1 o_open o_refuses o_differs o_fees c_years c_rows c_size r.2.2.2.2.2.2.2.2.2.2.2.2.1 ++ (TXw G r.2.2.2.2.2.2.2.2.2.2.2.2.2 (va_up tA kT u.1) (va_up tC kT u.2) (va_up tN kT (Int32.toNatClampNeg r.2.2.2.2.2.2.1)) (va_up tF kT r.2.2.2.2.2.1) (va_up tY kT x2) ++ fr)))) := by
  refine Ch.of (by decide) (Nat.le_of_ble_eq_true rfl) (fun Y hX htab hQ => ?_)
  refine j_lv (lv' := [(0, .ref (gb G 0)), (1, .int x1), (2, .int x2), (3, .ref ao)]) rfl ?_
  refine j_aload_n hX dL_text_0 1 rfl 3 rfl rfl ?_
  refine j_iconst (v := 0) hX dL_text_1 2 rfl (by decide) ?_
  refine j_aload_n hX dL_text_2 3 rfl 0 rfl rfl ?_
  refine j_iload_n hX dL_text_3 4 rfl 1 rfl rfl ?_
  refine j_iload_n hX dL_text_4 5 rfl 2 rfl rfl ?_
  refine j_perm perm_o ?_
  refine jV_T (As := [.int x1, .int x2]) (rest := [.int 0, .ref ao]) (q0 := 0) hX dL_text_5 8 rfl (t_X10_text x1 x2 hf) mc_X10_text mv_X10_text ml_L_19 rfl rfl (Nat.le_of_ble_eq_true rfl) (Nat.le_of_ble_eq_true rfl) (Nat.le_of_ble_eq_true rfl) rfl (Nat.le_of_ble_eq_true rfl) (fun u => ?_)
  refine j_perm perm_o.symm ?_
  refine j_i2l hX dL_text_8 9 rfl ?_
  refine j_last hX dL_text_9 10 rfl 0 rfl (by decide) rfl ?_
  refine j_goto hX dL_text_10 17 rfl ?_
  refine j_iconst (v := 0) hX dL_text_17 18 rfl (by decide) ?_
  exact j_iretT u hX hQ (Nat.le_of_ble_eq_true rfl) (Nat.le_of_ble_eq_true rfl) rfl dL_text_18
set_option maxRecDepth 100000 in
set_option maxHeartbeats 4000000 in
theorem h_L_text_x (x1 : Int32) (x2 : Int32) {r : Int32 × (Nat → Int32) × (Nat → Int32) × Int32 × (Nat → Int32) × Int32 × Int32 × Int32 × Int32 × Int32 × Int32 × Int32} (hf : f_X10_text_x t_length s_tokens s_starts s_size a_code a_codeSize a_at a_token a_fault a_place o_size x_faultPlace x1 x2 = some r) : Ch l G 46 2 402 yL_text cL_text 5 [(0, 10, 13, 23)] [.ref (gb G 0), .int x1, .int x2, .ref ao] ((ao, .inl (gct G 3, 1, .inr (.inl fo))) :: (WB G p_female p_born p_toldDeath p_lastYear p_father p_mother p_fatherGrade p_motherGrade p_size g_holder g_arms g_from g_size r_marks r_arms r_root r_steps r_grade r_marksAboveOne q_rows q_sizes t_bytes t_length s_tokens s_starts s_size a_code a_codeSize a_at a_token a_fault a_place (txf kT tA) o_names o_operands o_size o_open o_refuses o_differs o_fees c_years c_rows c_size x_faultPlace ++ (TXw G kT tA tC tN tF tY ++ fr))) 1 (fun _ => ((ao, .inl (gct G 3, 1, .inr (.inl fo))) :: (WB G p_female p_born p_toldDeath p_lastYear p_father p_mother p_fatherGrade p_motherGrade p_size g_holder g_arms g_from g_size r_marks r_arms r_root r_steps r_grade r_marksAboveOne q_rows q_sizes t_bytes r.1 r.2.1 r.2.2.1 r.2.2.2.1 r.2.2.2.2.1 r.2.2.2.2.2.1 r.2.2.2.2.2.2.1 r.2.2.2.2.2.2.2.1 r.2.2.2.2.2.2.2.2.1 r.2.2.2.2.2.2.2.2.2.1 (txf kT tA) o_names o_operands r.2.2.2.2.2.2.2.2.2.2.1 o_open o_refuses o_differs o_fees c_years c_rows c_size r.2.2.2.2.2.2.2.2.2.2.2 ++ (TXw G kT tA tC tN tF tY ++ fr)))) := by
  refine Ch.of (by decide) (Nat.le_of_ble_eq_true rfl) (fun Y hX htab hQ => ?_)
  refine j_lv (lv' := [(0, .ref (gb G 0)), (1, .int x1), (2, .int x2), (3, .ref ao)]) rfl ?_
  refine j_aload_n hX dL_text_0 1 rfl 3 rfl rfl ?_
  refine j_iconst (v := 0) hX dL_text_1 2 rfl (by decide) ?_
  refine j_aload_n hX dL_text_2 3 rfl 0 rfl rfl ?_
  refine j_iload_n hX dL_text_3 4 rfl 1 rfl rfl ?_
  refine j_iload_n hX dL_text_4 5 rfl 2 rfl rfl ?_
  refine j_perm perm_o ?_
  refine jx_caught (As := [.int x1, .int x2]) (rest := [.int 0, .ref ao]) (q0 := 0) ⟨0, 10, 13, 23⟩ hX htab dL_text_5 (t_X10_text_x x1 x2 hf) mc_X10_text mv_X10_text ml_L_19 rfl rfl (Nat.le_of_ble_eq_true rfl) (Nat.le_of_ble_eq_true rfl) (Nat.le_of_ble_eq_true rfl) rfl (Nat.le_of_ble_eq_true rfl) (by decide) (by decide) w_lIA w_cIA (fun q => ?_)
  refine j_perm perm_o.symm ?_
  refine j_astore (x := q) (lv' := [(4, .ref q), (0, .ref (gb G 0)), (1, .int x1), (2, .int x2), (3, .ref ao)]) hX dL_text_13 15 rfl (by decide) rfl ?_
  refine j_iconst (v := 1) hX dL_text_15 16 rfl (by decide) ?_
  exact j_iretT (0, 0) hX hQ (Nat.le_of_ble_eq_true rfl) (Nat.le_of_ble_eq_true rfl) rfl dL_text_16
set_option maxRecDepth 100000 in
set_option maxHeartbeats 4000000 in
theorem h_L_about {fu : Nat} (x1 : Int32) (x2 : Int32) {r : Int32} (hf : f_X10_about fu p_female p_born p_toldDeath p_father p_mother p_fatherGrade p_motherGrade p_size x1 x2 = some r) : Ch l G 9 2 402 yL_about cL_about 5 [(0, 10, 13, 13)] [.ref (gb G 0), .int x1, .int x2, .ref ao] ((ao, .inl (gct G 3, 1, .inr (.inl fo))) :: (WB G p_female p_born p_toldDeath p_lastYear p_father p_mother p_fatherGrade p_motherGrade p_size g_holder g_arms g_from g_size r_marks r_arms r_root r_steps r_grade r_marksAboveOne q_rows q_sizes t_bytes t_length s_tokens s_starts s_size a_code a_codeSize a_at a_token a_fault a_place (txf kT tA) o_names o_operands o_size o_open o_refuses o_differs o_fees c_years c_rows c_size x_faultPlace ++ (TXw G kT tA tC tN tF tY ++ fr))) 0 (fun u => ((ao, .inl (gct G 3, 1, .inr (.inl (vp_updL fo (Int32.toNatClampNeg 0) (Int32.toInt64 r))))) :: (WB G p_female p_born p_toldDeath p_lastYear p_father p_mother p_fatherGrade p_motherGrade p_size g_holder g_arms g_from g_size r_marks r_arms r_root r_steps r_grade r_marksAboveOne q_rows q_sizes t_bytes t_length s_tokens s_starts s_size a_code a_codeSize a_at a_token a_fault a_place (txf kT tA) o_names o_operands o_size o_open o_refuses o_differs o_fees c_years c_rows c_size x_faultPlace ++ (TXw G kT tA tC tN tF tY ++ fr)))) := by
  refine Ch.of (by decide) (Nat.le_of_ble_eq_true rfl) (fun Y hX htab hQ => ?_)
  refine j_lv (lv' := [(0, .ref (gb G 0)), (1, .int x1), (2, .int x2), (3, .ref ao)]) rfl ?_
  refine j_aload_n hX dL_about_0 1 rfl 3 rfl rfl ?_
  refine j_iconst (v := 0) hX dL_about_1 2 rfl (by decide) ?_
  refine j_aload_n hX dL_about_2 3 rfl 0 rfl rfl ?_
  refine j_iload_n hX dL_about_3 4 rfl 1 rfl rfl ?_
  refine j_iload_n hX dL_about_4 5 rfl 2 rfl rfl ?_
  refine j_perm perm_o ?_
  refine z_i (As := [.int x1, .int x2]) (rest := [.int 0, .ref ao]) (q0 := 0) hX dL_about_5 8 rfl (t_X10_about x1 x2 hf) mc_X10_about mv_X10_about ml_L_25 rfl rfl (Nat.le_of_ble_eq_true rfl) (Nat.zero_le _) (Nat.zero_le _) rfl (Nat.le_of_ble_eq_true rfl) ?_
  refine j_perm perm_o.symm ?_
  refine j_i2l hX dL_about_8 9 rfl ?_
  refine j_last hX dL_about_9 10 rfl 0 rfl (by decide) rfl ?_
  refine j_goto hX dL_about_10 17 rfl ?_
  refine j_iconst (v := 0) hX dL_about_17 18 rfl (by decide) ?_
  exact j_iretT (0, 0) hX hQ (Nat.le_of_ble_eq_true rfl) (Nat.le_of_ble_eq_true rfl) rfl dL_about_18
set_option maxRecDepth 100000 in
set_option maxHeartbeats 4000000 in
theorem h_L_about_x (x1 : Int32) (x2 : Int32) {r : Unit} (hf : f_X10_about_x p_size x1 x2 = some r) : Ch l G 9 2 402 yL_about cL_about 5 [(0, 10, 13, 13)] [.ref (gb G 0), .int x1, .int x2, .ref ao] ((ao, .inl (gct G 3, 1, .inr (.inl fo))) :: (WB G p_female p_born p_toldDeath p_lastYear p_father p_mother p_fatherGrade p_motherGrade p_size g_holder g_arms g_from g_size r_marks r_arms r_root r_steps r_grade r_marksAboveOne q_rows q_sizes t_bytes t_length s_tokens s_starts s_size a_code a_codeSize a_at a_token a_fault a_place (txf kT tA) o_names o_operands o_size o_open o_refuses o_differs o_fees c_years c_rows c_size x_faultPlace ++ (TXw G kT tA tC tN tF tY ++ fr))) 1 (fun _ => ((ao, .inl (gct G 3, 1, .inr (.inl fo))) :: (WB G p_female p_born p_toldDeath p_lastYear p_father p_mother p_fatherGrade p_motherGrade p_size g_holder g_arms g_from g_size r_marks r_arms r_root r_steps r_grade r_marksAboveOne q_rows q_sizes t_bytes t_length s_tokens s_starts s_size a_code a_codeSize a_at a_token a_fault a_place (txf kT tA) o_names o_operands o_size o_open o_refuses o_differs o_fees c_years c_rows c_size x_faultPlace ++ (TXw G kT tA tC tN tF tY ++ fr)))) := by
  refine Ch.of (by decide) (Nat.le_of_ble_eq_true rfl) (fun Y hX htab hQ => ?_)
  refine j_lv (lv' := [(0, .ref (gb G 0)), (1, .int x1), (2, .int x2), (3, .ref ao)]) rfl ?_
  refine j_aload_n hX dL_about_0 1 rfl 3 rfl rfl ?_
  refine j_iconst (v := 0) hX dL_about_1 2 rfl (by decide) ?_
  refine j_aload_n hX dL_about_2 3 rfl 0 rfl rfl ?_
  refine j_iload_n hX dL_about_3 4 rfl 1 rfl rfl ?_
  refine j_iload_n hX dL_about_4 5 rfl 2 rfl rfl ?_
  refine j_perm perm_o ?_
  refine jx_caught (As := [.int x1, .int x2]) (rest := [.int 0, .ref ao]) (q0 := 0) ⟨0, 10, 13, 13⟩ hX htab dL_about_5 (t_X10_about_x x1 x2 hf) mc_X10_about mv_X10_about ml_L_25 rfl rfl (Nat.le_of_ble_eq_true rfl) (Nat.le_of_ble_eq_true rfl) (Nat.le_of_ble_eq_true rfl) rfl (Nat.le_of_ble_eq_true rfl) (by decide) (by decide) w_lNS w_cNS (fun q => ?_)
  refine j_perm perm_o.symm ?_
  refine j_astore (x := q) (lv' := [(4, .ref q), (0, .ref (gb G 0)), (1, .int x1), (2, .int x2), (3, .ref ao)]) hX dL_about_13 15 rfl (by decide) rfl ?_
  refine j_iconst (v := 1) hX dL_about_15 16 rfl (by decide) ?_
  exact j_iretT (0, 0) hX hQ (Nat.le_of_ble_eq_true rfl) (Nat.le_of_ble_eq_true rfl) rfl dL_about_16
set_option maxRecDepth 100000 in
set_option maxHeartbeats 4000000 in
theorem h_L_bears {fu : Nat} (x1 : Int32) (x2 : Int32) (x3 : Int32) {r : Int32 × (Nat → Int32) × Int32 × Int32 × Int32 × Int32 × Int32} (hf : f_X10_bears fu p_female p_born p_lastYear p_father p_fatherGrade p_size g_holder g_arms g_from g_size r_marks x1 x2 x3 = some r) : Ch l G 9 2 402 yL_bears cL_bears 6 [(0, 12, 15, 13)] [.ref (gb G 0), .int x1, .int x2, .int x3, .ref ao] ((ao, .inl (gct G 3, 1, .inr (.inl fo))) :: (WB G p_female p_born p_toldDeath p_lastYear p_father p_mother p_fatherGrade p_motherGrade p_size g_holder g_arms g_from g_size r_marks r_arms r_root r_steps r_grade r_marksAboveOne q_rows q_sizes t_bytes t_length s_tokens s_starts s_size a_code a_codeSize a_at a_token a_fault a_place (txf kT tA) o_names o_operands o_size o_open o_refuses o_differs o_fees c_years c_rows c_size x_faultPlace ++ (TXw G kT tA tC tN tF tY ++ fr))) 0 (fun u => ((ao, .inl (gct G 3, 1, .inr (.inl (vp_updL fo (Int32.toNatClampNeg 0) (Int32.toInt64 r.1))))) :: (WB G p_female p_born p_toldDeath p_lastYear p_father p_mother p_fatherGrade p_motherGrade p_size g_holder g_arms g_from g_size r.2.1 r.2.2.1 r.2.2.2.1 r.2.2.2.2.1 r.2.2.2.2.2.1 r.2.2.2.2.2.2 q_rows q_sizes t_bytes t_length s_tokens s_starts s_size a_code a_codeSize a_at a_token a_fault a_place (txf kT tA) o_names o_operands o_size o_open o_refuses o_differs o_fees c_years c_rows c_size x_faultPlace ++ (TXw G kT tA tC tN tF tY ++ fr)))) := by
  refine Ch.of (by decide) (Nat.le_of_ble_eq_true rfl) (fun Y hX htab hQ => ?_)
  refine j_lv (lv' := [(0, .ref (gb G 0)), (1, .int x1), (2, .int x2), (3, .int x3), (4, .ref ao)]) rfl ?_
  refine j_aload hX dL_bears_0 2 rfl 4 rfl ?_
  refine j_iconst (v := 0) hX dL_bears_2 3 rfl (by decide) ?_
  refine j_aload_n hX dL_bears_3 4 rfl 0 rfl rfl ?_
  refine j_iload_n hX dL_bears_4 5 rfl 1 rfl rfl ?_
  refine j_iload_n hX dL_bears_5 6 rfl 2 rfl rfl ?_
  refine j_iload_n hX dL_bears_6 7 rfl 3 rfl rfl ?_
  refine j_perm perm_o ?_
  refine z_i (As := [.int x1, .int x2, .int x3]) (rest := [.int 0, .ref ao]) (q0 := 0) hX dL_bears_7 10 rfl (t_X10_bears x1 x2 x3 hf) mc_X10_bears mv_X10_bears ml_L_28 rfl rfl (Nat.le_of_ble_eq_true rfl) (Nat.zero_le _) (Nat.zero_le _) rfl (Nat.le_of_ble_eq_true rfl) ?_
  refine j_perm perm_o.symm ?_
  refine j_i2l hX dL_bears_10 11 rfl ?_
  refine j_last hX dL_bears_11 12 rfl 0 rfl (by decide) rfl ?_
  refine j_goto hX dL_bears_12 19 rfl ?_
  refine j_iconst (v := 0) hX dL_bears_19 20 rfl (by decide) ?_
  exact j_iretT (0, 0) hX hQ (Nat.le_of_ble_eq_true rfl) (Nat.le_of_ble_eq_true rfl) rfl dL_bears_20
set_option maxRecDepth 100000 in
set_option maxHeartbeats 4000000 in
theorem h_L_bears_x {fu : Nat} (x1 : Int32) (x2 : Int32) (x3 : Int32) {r : (Nat → Int32) × Int32 × Int32 × Int32 × Int32 × Int32} (hf : f_X10_bears_x fu p_female p_born p_lastYear p_father p_fatherGrade p_size g_holder g_arms g_from g_size r_marks r_arms r_root r_steps r_grade r_marksAboveOne x1 x2 x3 = some r) : Ch l G 9 2 402 yL_bears cL_bears 6 [(0, 12, 15, 13)] [.ref (gb G 0), .int x1, .int x2, .int x3, .ref ao] ((ao, .inl (gct G 3, 1, .inr (.inl fo))) :: (WB G p_female p_born p_toldDeath p_lastYear p_father p_mother p_fatherGrade p_motherGrade p_size g_holder g_arms g_from g_size r_marks r_arms r_root r_steps r_grade r_marksAboveOne q_rows q_sizes t_bytes t_length s_tokens s_starts s_size a_code a_codeSize a_at a_token a_fault a_place (txf kT tA) o_names o_operands o_size o_open o_refuses o_differs o_fees c_years c_rows c_size x_faultPlace ++ (TXw G kT tA tC tN tF tY ++ fr))) 1 (fun _ => ((ao, .inl (gct G 3, 1, .inr (.inl fo))) :: (WB G p_female p_born p_toldDeath p_lastYear p_father p_mother p_fatherGrade p_motherGrade p_size g_holder g_arms g_from g_size r.1 r.2.1 r.2.2.1 r.2.2.2.1 r.2.2.2.2.1 r.2.2.2.2.2 q_rows q_sizes t_bytes t_length s_tokens s_starts s_size a_code a_codeSize a_at a_token a_fault a_place (txf kT tA) o_names o_operands o_size o_open o_refuses o_differs o_fees c_years c_rows c_size x_faultPlace ++ (TXw G kT tA tC tN tF tY ++ fr)))) := by
  refine Ch.of (by decide) (Nat.le_of_ble_eq_true rfl) (fun Y hX htab hQ => ?_)
  refine j_lv (lv' := [(0, .ref (gb G 0)), (1, .int x1), (2, .int x2), (3, .int x3), (4, .ref ao)]) rfl ?_
  refine j_aload hX dL_bears_0 2 rfl 4 rfl ?_
  refine j_iconst (v := 0) hX dL_bears_2 3 rfl (by decide) ?_
  refine j_aload_n hX dL_bears_3 4 rfl 0 rfl rfl ?_
  refine j_iload_n hX dL_bears_4 5 rfl 1 rfl rfl ?_
  refine j_iload_n hX dL_bears_5 6 rfl 2 rfl rfl ?_
  refine j_iload_n hX dL_bears_6 7 rfl 3 rfl rfl ?_
  refine j_perm perm_o ?_
  refine jx_caught (As := [.int x1, .int x2, .int x3]) (rest := [.int 0, .ref ao]) (q0 := 0) ⟨0, 12, 15, 13⟩ hX htab dL_bears_7 (t_X10_bears_x x1 x2 x3 hf) mc_X10_bears mv_X10_bears ml_L_28 rfl rfl (Nat.le_of_ble_eq_true rfl) (Nat.le_of_ble_eq_true rfl) (Nat.le_of_ble_eq_true rfl) rfl (Nat.le_of_ble_eq_true rfl) (by decide) (by decide) w_lNS w_cNS (fun q => ?_)
  refine j_perm perm_o.symm ?_
  refine j_astore (x := q) (lv' := [(5, .ref q), (0, .ref (gb G 0)), (1, .int x1), (2, .int x2), (3, .int x3), (4, .ref ao)]) hX dL_bears_15 17 rfl (by decide) rfl ?_
  refine j_iconst (v := 1) hX dL_bears_17 18 rfl (by decide) ?_
  exact j_iretT (0, 0) hX hQ (Nat.le_of_ble_eq_true rfl) (Nat.le_of_ble_eq_true rfl) rfl dL_bears_18
set_option maxRecDepth 100000 in
set_option maxHeartbeats 4000000 in
theorem h_L_mark {fu : Nat} (x1 : Int32) (x2 : Int32) (x3 : Int32) {r : Int32 × (Nat → Int32) × Int32 × Int32 × Int32 × Int32 × Int32} (hf : f_X10_mark fu p_female p_born p_lastYear p_father p_fatherGrade p_size g_holder g_arms g_from g_size r_marks x1 x2 x3 = some r) : Ch l G 9 2 402 yL_mark cL_mark 6 [(0, 12, 15, 13)] [.ref (gb G 0), .int x1, .int x2, .int x3, .ref ao] ((ao, .inl (gct G 3, 1, .inr (.inl fo))) :: (WB G p_female p_born p_toldDeath p_lastYear p_father p_mother p_fatherGrade p_motherGrade p_size g_holder g_arms g_from g_size r_marks r_arms r_root r_steps r_grade r_marksAboveOne q_rows q_sizes t_bytes t_length s_tokens s_starts s_size a_code a_codeSize a_at a_token a_fault a_place (txf kT tA) o_names o_operands o_size o_open o_refuses o_differs o_fees c_years c_rows c_size x_faultPlace ++ (TXw G kT tA tC tN tF tY ++ fr))) 0 (fun u => ((ao, .inl (gct G 3, 1, .inr (.inl (vp_updL fo (Int32.toNatClampNeg 0) (Int32.toInt64 r.1))))) :: (WB G p_female p_born p_toldDeath p_lastYear p_father p_mother p_fatherGrade p_motherGrade p_size g_holder g_arms g_from g_size r.2.1 r.2.2.1 r.2.2.2.1 r.2.2.2.2.1 r.2.2.2.2.2.1 r.2.2.2.2.2.2 q_rows q_sizes t_bytes t_length s_tokens s_starts s_size a_code a_codeSize a_at a_token a_fault a_place (txf kT tA) o_names o_operands o_size o_open o_refuses o_differs o_fees c_years c_rows c_size x_faultPlace ++ (TXw G kT tA tC tN tF tY ++ fr)))) := by
  refine Ch.of (by decide) (Nat.le_of_ble_eq_true rfl) (fun Y hX htab hQ => ?_)
  refine j_lv (lv' := [(0, .ref (gb G 0)), (1, .int x1), (2, .int x2), (3, .int x3), (4, .ref ao)]) rfl ?_
  refine j_aload hX dL_mark_0 2 rfl 4 rfl ?_
  refine j_iconst (v := 0) hX dL_mark_2 3 rfl (by decide) ?_
  refine j_aload_n hX dL_mark_3 4 rfl 0 rfl rfl ?_
  refine j_iload_n hX dL_mark_4 5 rfl 1 rfl rfl ?_
  refine j_iload_n hX dL_mark_5 6 rfl 2 rfl rfl ?_
  refine j_iload_n hX dL_mark_6 7 rfl 3 rfl rfl ?_
  refine j_perm perm_o ?_
  refine z_i (As := [.int x1, .int x2, .int x3]) (rest := [.int 0, .ref ao]) (q0 := 0) hX dL_mark_7 10 rfl (t_X10_mark x1 x2 x3 hf) mc_X10_mark mv_X10_mark ml_L_31 rfl rfl (Nat.le_of_ble_eq_true rfl) (Nat.zero_le _) (Nat.zero_le _) rfl (Nat.le_of_ble_eq_true rfl) ?_
  refine j_perm perm_o.symm ?_
  refine j_i2l hX dL_mark_10 11 rfl ?_
  refine j_last hX dL_mark_11 12 rfl 0 rfl (by decide) rfl ?_
  refine j_goto hX dL_mark_12 19 rfl ?_
  refine j_iconst (v := 0) hX dL_mark_19 20 rfl (by decide) ?_
  exact j_iretT (0, 0) hX hQ (Nat.le_of_ble_eq_true rfl) (Nat.le_of_ble_eq_true rfl) rfl dL_mark_20
set_option maxRecDepth 100000 in
set_option maxHeartbeats 4000000 in
theorem h_L_mark_x {fu : Nat} (x1 : Int32) (x2 : Int32) (x3 : Int32) {r : (Nat → Int32) × Int32 × Int32 × Int32 × Int32 × Int32} (hf : f_X10_mark_x fu p_female p_born p_lastYear p_father p_fatherGrade p_size g_holder g_arms g_from g_size r_marks r_arms r_root r_steps r_grade r_marksAboveOne x1 x2 x3 = some r) : Ch l G 9 2 402 yL_mark cL_mark 6 [(0, 12, 15, 13)] [.ref (gb G 0), .int x1, .int x2, .int x3, .ref ao] ((ao, .inl (gct G 3, 1, .inr (.inl fo))) :: (WB G p_female p_born p_toldDeath p_lastYear p_father p_mother p_fatherGrade p_motherGrade p_size g_holder g_arms g_from g_size r_marks r_arms r_root r_steps r_grade r_marksAboveOne q_rows q_sizes t_bytes t_length s_tokens s_starts s_size a_code a_codeSize a_at a_token a_fault a_place (txf kT tA) o_names o_operands o_size o_open o_refuses o_differs o_fees c_years c_rows c_size x_faultPlace ++ (TXw G kT tA tC tN tF tY ++ fr))) 1 (fun _ => ((ao, .inl (gct G 3, 1, .inr (.inl fo))) :: (WB G p_female p_born p_toldDeath p_lastYear p_father p_mother p_fatherGrade p_motherGrade p_size g_holder g_arms g_from g_size r.1 r.2.1 r.2.2.1 r.2.2.2.1 r.2.2.2.2.1 r.2.2.2.2.2 q_rows q_sizes t_bytes t_length s_tokens s_starts s_size a_code a_codeSize a_at a_token a_fault a_place (txf kT tA) o_names o_operands o_size o_open o_refuses o_differs o_fees c_years c_rows c_size x_faultPlace ++ (TXw G kT tA tC tN tF tY ++ fr)))) := by
  refine Ch.of (by decide) (Nat.le_of_ble_eq_true rfl) (fun Y hX htab hQ => ?_)
  refine j_lv (lv' := [(0, .ref (gb G 0)), (1, .int x1), (2, .int x2), (3, .int x3), (4, .ref ao)]) rfl ?_
  refine j_aload hX dL_mark_0 2 rfl 4 rfl ?_
  refine j_iconst (v := 0) hX dL_mark_2 3 rfl (by decide) ?_
  refine j_aload_n hX dL_mark_3 4 rfl 0 rfl rfl ?_
  refine j_iload_n hX dL_mark_4 5 rfl 1 rfl rfl ?_
  refine j_iload_n hX dL_mark_5 6 rfl 2 rfl rfl ?_
  refine j_iload_n hX dL_mark_6 7 rfl 3 rfl rfl ?_
  refine j_perm perm_o ?_
  refine jx_caught (As := [.int x1, .int x2, .int x3]) (rest := [.int 0, .ref ao]) (q0 := 0) ⟨0, 12, 15, 13⟩ hX htab dL_mark_7 (t_X10_mark_x x1 x2 x3 hf) mc_X10_mark mv_X10_mark ml_L_31 rfl rfl (Nat.le_of_ble_eq_true rfl) (Nat.le_of_ble_eq_true rfl) (Nat.le_of_ble_eq_true rfl) rfl (Nat.le_of_ble_eq_true rfl) (by decide) (by decide) w_lNS w_cNS (fun q => ?_)
  refine j_perm perm_o.symm ?_
  refine j_astore (x := q) (lv' := [(5, .ref q), (0, .ref (gb G 0)), (1, .int x1), (2, .int x2), (3, .int x3), (4, .ref ao)]) hX dL_mark_15 17 rfl (by decide) rfl ?_
  refine j_iconst (v := 1) hX dL_mark_17 18 rfl (by decide) ?_
  exact j_iretT (0, 0) hX hQ (Nat.le_of_ble_eq_true rfl) (Nat.le_of_ble_eq_true rfl) rfl dL_mark_18
set_option maxRecDepth 100000 in
set_option maxHeartbeats 4000000 in
theorem h_L_head {fu : Nat} (x1 : Int32) (x2 : Int32) {r : Int32} (hf : f_X10_head fu p_female p_born p_lastYear p_father p_mother p_size x1 x2 = some r) : Ch l G 9 2 402 yL_head cL_head 5 [(0, 10, 13, 13)] [.ref (gb G 0), .int x1, .int x2, .ref ao] ((ao, .inl (gct G 3, 1, .inr (.inl fo))) :: (WB G p_female p_born p_toldDeath p_lastYear p_father p_mother p_fatherGrade p_motherGrade p_size g_holder g_arms g_from g_size r_marks r_arms r_root r_steps r_grade r_marksAboveOne q_rows q_sizes t_bytes t_length s_tokens s_starts s_size a_code a_codeSize a_at a_token a_fault a_place (txf kT tA) o_names o_operands o_size o_open o_refuses o_differs o_fees c_years c_rows c_size x_faultPlace ++ (TXw G kT tA tC tN tF tY ++ fr))) 0 (fun u => ((ao, .inl (gct G 3, 1, .inr (.inl (vp_updL fo (Int32.toNatClampNeg 0) (Int32.toInt64 r))))) :: (WB G p_female p_born p_toldDeath p_lastYear p_father p_mother p_fatherGrade p_motherGrade p_size g_holder g_arms g_from g_size r_marks r_arms r_root r_steps r_grade r_marksAboveOne q_rows q_sizes t_bytes t_length s_tokens s_starts s_size a_code a_codeSize a_at a_token a_fault a_place (txf kT tA) o_names o_operands o_size o_open o_refuses o_differs o_fees c_years c_rows c_size x_faultPlace ++ (TXw G kT tA tC tN tF tY ++ fr)))) := by
  refine Ch.of (by decide) (Nat.le_of_ble_eq_true rfl) (fun Y hX htab hQ => ?_)
  refine j_lv (lv' := [(0, .ref (gb G 0)), (1, .int x1), (2, .int x2), (3, .ref ao)]) rfl ?_
  refine j_aload_n hX dL_head_0 1 rfl 3 rfl rfl ?_
  refine j_iconst (v := 0) hX dL_head_1 2 rfl (by decide) ?_
  refine j_aload_n hX dL_head_2 3 rfl 0 rfl rfl ?_
  refine j_iload_n hX dL_head_3 4 rfl 1 rfl rfl ?_
  refine j_iload_n hX dL_head_4 5 rfl 2 rfl rfl ?_
  refine j_perm perm_o ?_
  refine z_i (As := [.int x1, .int x2]) (rest := [.int 0, .ref ao]) (q0 := 0) hX dL_head_5 8 rfl (t_X10_head x1 x2 hf) mc_X10_head mv_X10_head ml_L_34 rfl rfl (Nat.le_of_ble_eq_true rfl) (Nat.zero_le _) (Nat.zero_le _) rfl (Nat.le_of_ble_eq_true rfl) ?_
  refine j_perm perm_o.symm ?_
  refine j_i2l hX dL_head_8 9 rfl ?_
  refine j_last hX dL_head_9 10 rfl 0 rfl (by decide) rfl ?_
  refine j_goto hX dL_head_10 17 rfl ?_
  refine j_iconst (v := 0) hX dL_head_17 18 rfl (by decide) ?_
  exact j_iretT (0, 0) hX hQ (Nat.le_of_ble_eq_true rfl) (Nat.le_of_ble_eq_true rfl) rfl dL_head_18
set_option maxRecDepth 100000 in
set_option maxHeartbeats 4000000 in
theorem h_L_head_x (x1 : Int32) (x2 : Int32) {r : Unit} (hf : f_X10_head_x p_size x1 = some r) : Ch l G 9 2 402 yL_head cL_head 5 [(0, 10, 13, 13)] [.ref (gb G 0), .int x1, .int x2, .ref ao] ((ao, .inl (gct G 3, 1, .inr (.inl fo))) :: (WB G p_female p_born p_toldDeath p_lastYear p_father p_mother p_fatherGrade p_motherGrade p_size g_holder g_arms g_from g_size r_marks r_arms r_root r_steps r_grade r_marksAboveOne q_rows q_sizes t_bytes t_length s_tokens s_starts s_size a_code a_codeSize a_at a_token a_fault a_place (txf kT tA) o_names o_operands o_size o_open o_refuses o_differs o_fees c_years c_rows c_size x_faultPlace ++ (TXw G kT tA tC tN tF tY ++ fr))) 1 (fun _ => ((ao, .inl (gct G 3, 1, .inr (.inl fo))) :: (WB G p_female p_born p_toldDeath p_lastYear p_father p_mother p_fatherGrade p_motherGrade p_size g_holder g_arms g_from g_size r_marks r_arms r_root r_steps r_grade r_marksAboveOne q_rows q_sizes t_bytes t_length s_tokens s_starts s_size a_code a_codeSize a_at a_token a_fault a_place (txf kT tA) o_names o_operands o_size o_open o_refuses o_differs o_fees c_years c_rows c_size x_faultPlace ++ (TXw G kT tA tC tN tF tY ++ fr)))) := by
  refine Ch.of (by decide) (Nat.le_of_ble_eq_true rfl) (fun Y hX htab hQ => ?_)
  refine j_lv (lv' := [(0, .ref (gb G 0)), (1, .int x1), (2, .int x2), (3, .ref ao)]) rfl ?_
  refine j_aload_n hX dL_head_0 1 rfl 3 rfl rfl ?_
  refine j_iconst (v := 0) hX dL_head_1 2 rfl (by decide) ?_
  refine j_aload_n hX dL_head_2 3 rfl 0 rfl rfl ?_
  refine j_iload_n hX dL_head_3 4 rfl 1 rfl rfl ?_
  refine j_iload_n hX dL_head_4 5 rfl 2 rfl rfl ?_
  refine j_perm perm_o ?_
  refine jx_caught (As := [.int x1, .int x2]) (rest := [.int 0, .ref ao]) (q0 := 0) ⟨0, 10, 13, 13⟩ hX htab dL_head_5 (t_X10_head_x x1 x2 hf) mc_X10_head mv_X10_head ml_L_34 rfl rfl (Nat.le_of_ble_eq_true rfl) (Nat.le_of_ble_eq_true rfl) (Nat.le_of_ble_eq_true rfl) rfl (Nat.le_of_ble_eq_true rfl) (by decide) (by decide) w_lNS w_cNS (fun q => ?_)
  refine j_perm perm_o.symm ?_
  refine j_astore (x := q) (lv' := [(4, .ref q), (0, .ref (gb G 0)), (1, .int x1), (2, .int x2), (3, .ref ao)]) hX dL_head_13 15 rfl (by decide) rfl ?_
  refine j_iconst (v := 1) hX dL_head_15 16 rfl (by decide) ?_
  exact j_iretT (0, 0) hX hQ (Nat.le_of_ble_eq_true rfl) (Nat.le_of_ble_eq_true rfl) rfl dL_head_16
set_option maxRecDepth 100000 in
set_option maxHeartbeats 4000000 in
theorem h_L_quarter {fu : Nat} (x1 : Int32) (x2 : Int32) (x3 : Int32) {r : Int32 × (Nat → Int32) × (Nat → Int32)} (hf : f_X10_quarter fu p_female p_born p_lastYear p_father p_mother p_size g_holder g_arms g_from g_size q_rows q_sizes x1 x2 x3 = some r) : Ch l G 9 2 402 yL_quarter cL_quarter 6 [(0, 12, 15, 13)] [.ref (gb G 0), .int x1, .int x2, .int x3, .ref ao] ((ao, .inl (gct G 3, 1, .inr (.inl fo))) :: (WB G p_female p_born p_toldDeath p_lastYear p_father p_mother p_fatherGrade p_motherGrade p_size g_holder g_arms g_from g_size r_marks r_arms r_root r_steps r_grade r_marksAboveOne q_rows q_sizes t_bytes t_length s_tokens s_starts s_size a_code a_codeSize a_at a_token a_fault a_place (txf kT tA) o_names o_operands o_size o_open o_refuses o_differs o_fees c_years c_rows c_size x_faultPlace ++ (TXw G kT tA tC tN tF tY ++ fr))) 0 (fun u => ((ao, .inl (gct G 3, 1, .inr (.inl (vp_updL fo (Int32.toNatClampNeg 0) (Int32.toInt64 r.1))))) :: (WB G p_female p_born p_toldDeath p_lastYear p_father p_mother p_fatherGrade p_motherGrade p_size g_holder g_arms g_from g_size r_marks r_arms r_root r_steps r_grade r_marksAboveOne r.2.1 r.2.2 t_bytes t_length s_tokens s_starts s_size a_code a_codeSize a_at a_token a_fault a_place (txf kT tA) o_names o_operands o_size o_open o_refuses o_differs o_fees c_years c_rows c_size x_faultPlace ++ (TXw G kT tA tC tN tF tY ++ fr)))) := by
  refine Ch.of (by decide) (Nat.le_of_ble_eq_true rfl) (fun Y hX htab hQ => ?_)
  refine j_lv (lv' := [(0, .ref (gb G 0)), (1, .int x1), (2, .int x2), (3, .int x3), (4, .ref ao)]) rfl ?_
  refine j_aload hX dL_quarter_0 2 rfl 4 rfl ?_
  refine j_iconst (v := 0) hX dL_quarter_2 3 rfl (by decide) ?_
  refine j_aload_n hX dL_quarter_3 4 rfl 0 rfl rfl ?_
  refine j_iload_n hX dL_quarter_4 5 rfl 1 rfl rfl ?_
  refine j_iload_n hX dL_quarter_5 6 rfl 2 rfl rfl ?_
  refine j_iload_n hX dL_quarter_6 7 rfl 3 rfl rfl ?_
  refine j_perm perm_o ?_
  refine z_i (As := [.int x1, .int x2, .int x3]) (rest := [.int 0, .ref ao]) (q0 := 0) hX dL_quarter_7 10 rfl (t_X10_quarter x1 x2 x3 hf) mc_X10_quarter mv_X10_quarter ml_L_37 rfl rfl (Nat.le_of_ble_eq_true rfl) (Nat.zero_le _) (Nat.zero_le _) rfl (Nat.le_of_ble_eq_true rfl) ?_
  refine j_perm perm_o.symm ?_
  refine j_i2l hX dL_quarter_10 11 rfl ?_
  refine j_last hX dL_quarter_11 12 rfl 0 rfl (by decide) rfl ?_
  refine j_goto hX dL_quarter_12 19 rfl ?_
  refine j_iconst (v := 0) hX dL_quarter_19 20 rfl (by decide) ?_
  exact j_iretT (0, 0) hX hQ (Nat.le_of_ble_eq_true rfl) (Nat.le_of_ble_eq_true rfl) rfl dL_quarter_20
set_option maxRecDepth 100000 in
set_option maxHeartbeats 4000000 in
theorem h_L_quarter_x {fu : Nat} (x1 : Int32) (x2 : Int32) (x3 : Int32) {r : (Nat → Int32) × (Nat → Int32)} (hf : f_X10_quarter_x fu p_female p_born p_lastYear p_father p_mother p_size g_holder g_arms g_from g_size q_rows q_sizes x1 x2 x3 = some r) : Ch l G 9 2 402 yL_quarter cL_quarter 6 [(0, 12, 15, 13)] [.ref (gb G 0), .int x1, .int x2, .int x3, .ref ao] ((ao, .inl (gct G 3, 1, .inr (.inl fo))) :: (WB G p_female p_born p_toldDeath p_lastYear p_father p_mother p_fatherGrade p_motherGrade p_size g_holder g_arms g_from g_size r_marks r_arms r_root r_steps r_grade r_marksAboveOne q_rows q_sizes t_bytes t_length s_tokens s_starts s_size a_code a_codeSize a_at a_token a_fault a_place (txf kT tA) o_names o_operands o_size o_open o_refuses o_differs o_fees c_years c_rows c_size x_faultPlace ++ (TXw G kT tA tC tN tF tY ++ fr))) 1 (fun _ => ((ao, .inl (gct G 3, 1, .inr (.inl fo))) :: (WB G p_female p_born p_toldDeath p_lastYear p_father p_mother p_fatherGrade p_motherGrade p_size g_holder g_arms g_from g_size r_marks r_arms r_root r_steps r_grade r_marksAboveOne r.1 r.2 t_bytes t_length s_tokens s_starts s_size a_code a_codeSize a_at a_token a_fault a_place (txf kT tA) o_names o_operands o_size o_open o_refuses o_differs o_fees c_years c_rows c_size x_faultPlace ++ (TXw G kT tA tC tN tF tY ++ fr)))) := by
  refine Ch.of (by decide) (Nat.le_of_ble_eq_true rfl) (fun Y hX htab hQ => ?_)
  refine j_lv (lv' := [(0, .ref (gb G 0)), (1, .int x1), (2, .int x2), (3, .int x3), (4, .ref ao)]) rfl ?_
  refine j_aload hX dL_quarter_0 2 rfl 4 rfl ?_
  refine j_iconst (v := 0) hX dL_quarter_2 3 rfl (by decide) ?_
  refine j_aload_n hX dL_quarter_3 4 rfl 0 rfl rfl ?_
  refine j_iload_n hX dL_quarter_4 5 rfl 1 rfl rfl ?_
  refine j_iload_n hX dL_quarter_5 6 rfl 2 rfl rfl ?_
  refine j_iload_n hX dL_quarter_6 7 rfl 3 rfl rfl ?_
  refine j_perm perm_o ?_
  refine jx_caught (As := [.int x1, .int x2, .int x3]) (rest := [.int 0, .ref ao]) (q0 := 0) ⟨0, 12, 15, 13⟩ hX htab dL_quarter_7 (t_X10_quarter_x x1 x2 x3 hf) mc_X10_quarter mv_X10_quarter ml_L_37 rfl rfl (Nat.le_of_ble_eq_true rfl) (Nat.le_of_ble_eq_true rfl) (Nat.le_of_ble_eq_true rfl) rfl (Nat.le_of_ble_eq_true rfl) (by decide) (by decide) w_lNS w_cNS (fun q => ?_)
  refine j_perm perm_o.symm ?_
  refine j_astore (x := q) (lv' := [(5, .ref q), (0, .ref (gb G 0)), (1, .int x1), (2, .int x2), (3, .int x3), (4, .ref ao)]) hX dL_quarter_15 17 rfl (by decide) rfl ?_
  refine j_iconst (v := 1) hX dL_quarter_17 18 rfl (by decide) ?_
  exact j_iretT (0, 0) hX hQ (Nat.le_of_ble_eq_true rfl) (Nat.le_of_ble_eq_true rfl) rfl dL_quarter_18
set_option maxRecDepth 100000 in
set_option maxHeartbeats 4000000 in
theorem h_L_claim {fu : Nat} (x1 : Int32) (x2 : Int32) (x3 : Int32) {r : Int32 × (Nat → Int32) × Int32 × Int32 × Int32 × Int32 × Int32 × (Nat → Int32) × (Nat → Int32) × (Nat → Int32) × (Nat → Int32) × Int32 × Int32 × Int32 × Int32} (hf : f_X10_claim fu p_female p_born p_lastYear p_father p_mother p_fatherGrade p_size g_holder g_arms g_from g_size o_size kT tN tF tY r_marks q_rows q_sizes o_names o_operands o_open o_refuses o_differs o_fees x1 x2 x3 = some r) : Ch l G 9 2 402 yL_claim cL_claim 6 [(0, 12, 15, 13)] [.ref (gb G 0), .int x1, .int x2, .int x3, .ref ao] ((ao, .inl (gct G 3, 1, .inr (.inl fo))) :: (WB G p_female p_born p_toldDeath p_lastYear p_father p_mother p_fatherGrade p_motherGrade p_size g_holder g_arms g_from g_size r_marks r_arms r_root r_steps r_grade r_marksAboveOne q_rows q_sizes t_bytes t_length s_tokens s_starts s_size a_code a_codeSize a_at a_token a_fault a_place (txf kT tA) o_names o_operands o_size o_open o_refuses o_differs o_fees c_years c_rows c_size x_faultPlace ++ (TXw G kT tA tC tN tF tY ++ fr))) 0 (fun u => ((ao, .inl (gct G 3, 1, .inr (.inl (vp_updL fo (Int32.toNatClampNeg 0) (Int32.toInt64 r.1))))) :: (WB G p_female p_born p_toldDeath p_lastYear p_father p_mother p_fatherGrade p_motherGrade p_size g_holder g_arms g_from g_size r.2.1 r.2.2.1 r.2.2.2.1 r.2.2.2.2.1 r.2.2.2.2.2.1 r.2.2.2.2.2.2.1 r.2.2.2.2.2.2.2.1 r.2.2.2.2.2.2.2.2.1 t_bytes t_length s_tokens s_starts s_size a_code a_codeSize a_at a_token a_fault a_place (txf kT tA) r.2.2.2.2.2.2.2.2.2.1 r.2.2.2.2.2.2.2.2.2.2.1 o_size r.2.2.2.2.2.2.2.2.2.2.2.1 r.2.2.2.2.2.2.2.2.2.2.2.2.1 r.2.2.2.2.2.2.2.2.2.2.2.2.2.1 r.2.2.2.2.2.2.2.2.2.2.2.2.2.2 c_years c_rows c_size x_faultPlace ++ (TXw G kT tA tC tN tF tY ++ fr)))) := by
  refine Ch.of (by decide) (Nat.le_of_ble_eq_true rfl) (fun Y hX htab hQ => ?_)
  refine j_lv (lv' := [(0, .ref (gb G 0)), (1, .int x1), (2, .int x2), (3, .int x3), (4, .ref ao)]) rfl ?_
  refine j_aload hX dL_claim_0 2 rfl 4 rfl ?_
  refine j_iconst (v := 0) hX dL_claim_2 3 rfl (by decide) ?_
  refine j_aload_n hX dL_claim_3 4 rfl 0 rfl rfl ?_
  refine j_iload_n hX dL_claim_4 5 rfl 1 rfl rfl ?_
  refine j_iload_n hX dL_claim_5 6 rfl 2 rfl rfl ?_
  refine j_iload_n hX dL_claim_6 7 rfl 3 rfl rfl ?_
  refine j_perm perm_o ?_
  refine z_i (As := [.int x1, .int x2, .int x3]) (rest := [.int 0, .ref ao]) (q0 := 0) hX dL_claim_7 10 rfl (t_X10_claim x1 x2 x3 hf) mc_X10_claim mv_X10_claim ml_L_40 rfl rfl (Nat.le_of_ble_eq_true rfl) (Nat.zero_le _) (Nat.zero_le _) rfl (Nat.le_of_ble_eq_true rfl) ?_
  refine j_perm perm_o.symm ?_
  refine j_i2l hX dL_claim_10 11 rfl ?_
  refine j_last hX dL_claim_11 12 rfl 0 rfl (by decide) rfl ?_
  refine j_goto hX dL_claim_12 19 rfl ?_
  refine j_iconst (v := 0) hX dL_claim_19 20 rfl (by decide) ?_
  exact j_iretT (0, 0) hX hQ (Nat.le_of_ble_eq_true rfl) (Nat.le_of_ble_eq_true rfl) rfl dL_claim_20
set_option maxRecDepth 100000 in
set_option maxHeartbeats 4000000 in
theorem h_L_claim_x (x1 : Int32) (x2 : Int32) (x3 : Int32) {r : (Nat → Int32) × Int32 × Int32 × Int32 × Int32 × Int32 × (Nat → Int32) × (Nat → Int32) × (Nat → Int32) × (Nat → Int32) × Int32 × Int32 × Int32 × Int32} (hf : f_X10_claim_x p_size r_marks r_arms r_root r_steps r_grade r_marksAboveOne q_rows q_sizes o_names o_operands o_open o_refuses o_differs o_fees x1 = some r) : Ch l G 9 2 402 yL_claim cL_claim 6 [(0, 12, 15, 13)] [.ref (gb G 0), .int x1, .int x2, .int x3, .ref ao] ((ao, .inl (gct G 3, 1, .inr (.inl fo))) :: (WB G p_female p_born p_toldDeath p_lastYear p_father p_mother p_fatherGrade p_motherGrade p_size g_holder g_arms g_from g_size r_marks r_arms r_root r_steps r_grade r_marksAboveOne q_rows q_sizes t_bytes t_length s_tokens s_starts s_size a_code a_codeSize a_at a_token a_fault a_place (txf kT tA) o_names o_operands o_size o_open o_refuses o_differs o_fees c_years c_rows c_size x_faultPlace ++ (TXw G kT tA tC tN tF tY ++ fr))) 1 (fun _ => ((ao, .inl (gct G 3, 1, .inr (.inl fo))) :: (WB G p_female p_born p_toldDeath p_lastYear p_father p_mother p_fatherGrade p_motherGrade p_size g_holder g_arms g_from g_size r.1 r.2.1 r.2.2.1 r.2.2.2.1 r.2.2.2.2.1 r.2.2.2.2.2.1 r.2.2.2.2.2.2.1 r.2.2.2.2.2.2.2.1 t_bytes t_length s_tokens s_starts s_size a_code a_codeSize a_at a_token a_fault a_place (txf kT tA) r.2.2.2.2.2.2.2.2.1 r.2.2.2.2.2.2.2.2.2.1 o_size r.2.2.2.2.2.2.2.2.2.2.1 r.2.2.2.2.2.2.2.2.2.2.2.1 r.2.2.2.2.2.2.2.2.2.2.2.2.1 r.2.2.2.2.2.2.2.2.2.2.2.2.2 c_years c_rows c_size x_faultPlace ++ (TXw G kT tA tC tN tF tY ++ fr)))) := by
  refine Ch.of (by decide) (Nat.le_of_ble_eq_true rfl) (fun Y hX htab hQ => ?_)
  refine j_lv (lv' := [(0, .ref (gb G 0)), (1, .int x1), (2, .int x2), (3, .int x3), (4, .ref ao)]) rfl ?_
  refine j_aload hX dL_claim_0 2 rfl 4 rfl ?_
  refine j_iconst (v := 0) hX dL_claim_2 3 rfl (by decide) ?_
  refine j_aload_n hX dL_claim_3 4 rfl 0 rfl rfl ?_
  refine j_iload_n hX dL_claim_4 5 rfl 1 rfl rfl ?_
  refine j_iload_n hX dL_claim_5 6 rfl 2 rfl rfl ?_
  refine j_iload_n hX dL_claim_6 7 rfl 3 rfl rfl ?_
  refine j_perm perm_o ?_
  refine jx_caught (As := [.int x1, .int x2, .int x3]) (rest := [.int 0, .ref ao]) (q0 := 0) ⟨0, 12, 15, 13⟩ hX htab dL_claim_7 (t_X10_claim_x x1 x2 x3 hf) mc_X10_claim mv_X10_claim ml_L_40 rfl rfl (Nat.le_of_ble_eq_true rfl) (Nat.le_of_ble_eq_true rfl) (Nat.le_of_ble_eq_true rfl) rfl (Nat.le_of_ble_eq_true rfl) (by decide) (by decide) w_lNS w_cNS (fun q => ?_)
  refine j_perm perm_o.symm ?_
  refine j_astore (x := q) (lv' := [(5, .ref q), (0, .ref (gb G 0)), (1, .int x1), (2, .int x2), (3, .int x3), (4, .ref ao)]) hX dL_claim_15 17 rfl (by decide) rfl ?_
  refine j_iconst (v := 1) hX dL_claim_17 18 rfl (by decide) ?_
  exact j_iretT (0, 0) hX hQ (Nat.le_of_ble_eq_true rfl) (Nat.le_of_ble_eq_true rfl) rfl dL_claim_18
set_option maxRecDepth 100000 in
set_option maxHeartbeats 4000000 in
theorem h_L_fee {fu : Nat} (x1 : Int32) (x2 : Int32) {r : Int32 × (Nat → Int32) × Int32 × Int32 × Int32 × Int32 × Int32 × (Nat → Int32) × (Nat → Int32) × (Nat → Int32) × (Nat → Int32) × Int32 × Int32 × Int32 × Int32} (hf : f_X10_fee fu p_female p_born p_lastYear p_father p_mother p_fatherGrade p_size g_holder g_arms g_from g_size o_size kT tN tF tY r_marks q_rows q_sizes o_names o_operands o_open o_refuses o_differs o_fees x1 x2 = some r) : Ch l G 9 2 402 yL_fee cL_fee 5 [(0, 10, 13, 13)] [.ref (gb G 0), .int x1, .int x2, .ref ao] ((ao, .inl (gct G 3, 1, .inr (.inl fo))) :: (WB G p_female p_born p_toldDeath p_lastYear p_father p_mother p_fatherGrade p_motherGrade p_size g_holder g_arms g_from g_size r_marks r_arms r_root r_steps r_grade r_marksAboveOne q_rows q_sizes t_bytes t_length s_tokens s_starts s_size a_code a_codeSize a_at a_token a_fault a_place (txf kT tA) o_names o_operands o_size o_open o_refuses o_differs o_fees c_years c_rows c_size x_faultPlace ++ (TXw G kT tA tC tN tF tY ++ fr))) 0 (fun u => ((ao, .inl (gct G 3, 1, .inr (.inl (vp_updL fo (Int32.toNatClampNeg 0) (Int32.toInt64 r.1))))) :: (WB G p_female p_born p_toldDeath p_lastYear p_father p_mother p_fatherGrade p_motherGrade p_size g_holder g_arms g_from g_size r.2.1 r.2.2.1 r.2.2.2.1 r.2.2.2.2.1 r.2.2.2.2.2.1 r.2.2.2.2.2.2.1 r.2.2.2.2.2.2.2.1 r.2.2.2.2.2.2.2.2.1 t_bytes t_length s_tokens s_starts s_size a_code a_codeSize a_at a_token a_fault a_place (txf kT tA) r.2.2.2.2.2.2.2.2.2.1 r.2.2.2.2.2.2.2.2.2.2.1 o_size r.2.2.2.2.2.2.2.2.2.2.2.1 r.2.2.2.2.2.2.2.2.2.2.2.2.1 r.2.2.2.2.2.2.2.2.2.2.2.2.2.1 r.2.2.2.2.2.2.2.2.2.2.2.2.2.2 c_years c_rows c_size x_faultPlace ++ (TXw G kT tA tC tN tF tY ++ fr)))) := by
  refine Ch.of (by decide) (Nat.le_of_ble_eq_true rfl) (fun Y hX htab hQ => ?_)
  refine j_lv (lv' := [(0, .ref (gb G 0)), (1, .int x1), (2, .int x2), (3, .ref ao)]) rfl ?_
  refine j_aload_n hX dL_fee_0 1 rfl 3 rfl rfl ?_
  refine j_iconst (v := 0) hX dL_fee_1 2 rfl (by decide) ?_
  refine j_aload_n hX dL_fee_2 3 rfl 0 rfl rfl ?_
  refine j_iload_n hX dL_fee_3 4 rfl 1 rfl rfl ?_
  refine j_iload_n hX dL_fee_4 5 rfl 2 rfl rfl ?_
  refine j_perm perm_o ?_
  refine z_i (As := [.int x1, .int x2]) (rest := [.int 0, .ref ao]) (q0 := 0) hX dL_fee_5 8 rfl (t_X10_fee x1 x2 hf) mc_X10_fee mv_X10_fee ml_L_43 rfl rfl (Nat.le_of_ble_eq_true rfl) (Nat.zero_le _) (Nat.zero_le _) rfl (Nat.le_of_ble_eq_true rfl) ?_
  refine j_perm perm_o.symm ?_
  refine j_i2l hX dL_fee_8 9 rfl ?_
  refine j_last hX dL_fee_9 10 rfl 0 rfl (by decide) rfl ?_
  refine j_goto hX dL_fee_10 17 rfl ?_
  refine j_iconst (v := 0) hX dL_fee_17 18 rfl (by decide) ?_
  exact j_iretT (0, 0) hX hQ (Nat.le_of_ble_eq_true rfl) (Nat.le_of_ble_eq_true rfl) rfl dL_fee_18
set_option maxRecDepth 100000 in
set_option maxHeartbeats 4000000 in
theorem h_L_fee_x (x1 : Int32) (x2 : Int32) {r : (Nat → Int32) × Int32 × Int32 × Int32 × Int32 × Int32 × (Nat → Int32) × (Nat → Int32) × (Nat → Int32) × (Nat → Int32) × Int32 × Int32 × Int32 × Int32} (hf : f_X10_fee_x p_size r_marks r_arms r_root r_steps r_grade r_marksAboveOne q_rows q_sizes o_names o_operands o_open o_refuses o_differs o_fees x1 = some r) : Ch l G 9 2 402 yL_fee cL_fee 5 [(0, 10, 13, 13)] [.ref (gb G 0), .int x1, .int x2, .ref ao] ((ao, .inl (gct G 3, 1, .inr (.inl fo))) :: (WB G p_female p_born p_toldDeath p_lastYear p_father p_mother p_fatherGrade p_motherGrade p_size g_holder g_arms g_from g_size r_marks r_arms r_root r_steps r_grade r_marksAboveOne q_rows q_sizes t_bytes t_length s_tokens s_starts s_size a_code a_codeSize a_at a_token a_fault a_place (txf kT tA) o_names o_operands o_size o_open o_refuses o_differs o_fees c_years c_rows c_size x_faultPlace ++ (TXw G kT tA tC tN tF tY ++ fr))) 1 (fun _ => ((ao, .inl (gct G 3, 1, .inr (.inl fo))) :: (WB G p_female p_born p_toldDeath p_lastYear p_father p_mother p_fatherGrade p_motherGrade p_size g_holder g_arms g_from g_size r.1 r.2.1 r.2.2.1 r.2.2.2.1 r.2.2.2.2.1 r.2.2.2.2.2.1 r.2.2.2.2.2.2.1 r.2.2.2.2.2.2.2.1 t_bytes t_length s_tokens s_starts s_size a_code a_codeSize a_at a_token a_fault a_place (txf kT tA) r.2.2.2.2.2.2.2.2.1 r.2.2.2.2.2.2.2.2.2.1 o_size r.2.2.2.2.2.2.2.2.2.2.1 r.2.2.2.2.2.2.2.2.2.2.2.1 r.2.2.2.2.2.2.2.2.2.2.2.2.1 r.2.2.2.2.2.2.2.2.2.2.2.2.2 c_years c_rows c_size x_faultPlace ++ (TXw G kT tA tC tN tF tY ++ fr)))) := by
  refine Ch.of (by decide) (Nat.le_of_ble_eq_true rfl) (fun Y hX htab hQ => ?_)
  refine j_lv (lv' := [(0, .ref (gb G 0)), (1, .int x1), (2, .int x2), (3, .ref ao)]) rfl ?_
  refine j_aload_n hX dL_fee_0 1 rfl 3 rfl rfl ?_
  refine j_iconst (v := 0) hX dL_fee_1 2 rfl (by decide) ?_
  refine j_aload_n hX dL_fee_2 3 rfl 0 rfl rfl ?_
  refine j_iload_n hX dL_fee_3 4 rfl 1 rfl rfl ?_
  refine j_iload_n hX dL_fee_4 5 rfl 2 rfl rfl ?_
  refine j_perm perm_o ?_
  refine jx_caught (As := [.int x1, .int x2]) (rest := [.int 0, .ref ao]) (q0 := 0) ⟨0, 10, 13, 13⟩ hX htab dL_fee_5 (t_X10_fee_x x1 x2 hf) mc_X10_fee mv_X10_fee ml_L_43 rfl rfl (Nat.le_of_ble_eq_true rfl) (Nat.le_of_ble_eq_true rfl) (Nat.le_of_ble_eq_true rfl) rfl (Nat.le_of_ble_eq_true rfl) (by decide) (by decide) w_lNS w_cNS (fun q => ?_)
  refine j_perm perm_o.symm ?_
  refine j_astore (x := q) (lv' := [(4, .ref q), (0, .ref (gb G 0)), (1, .int x1), (2, .int x2), (3, .ref ao)]) hX dL_fee_13 15 rfl (by decide) rfl ?_
  refine j_iconst (v := 1) hX dL_fee_15 16 rfl (by decide) ?_
  exact j_iretT (0, 0) hX hQ (Nat.le_of_ble_eq_true rfl) (Nat.le_of_ble_eq_true rfl) rfl dL_fee_16
set_option maxRecDepth 100000 in
set_option maxHeartbeats 4000000 in
theorem h_L_rivals {fu : Nat} (x1 : Int32) (x2 : Int32) {r : Int32 × (Nat → Int32) × Int32 × Int32 × Int32 × Int32 × Int32} (hf : f_X10_rivals fu p_female p_born p_lastYear p_father p_fatherGrade p_size g_holder g_arms g_from g_size r_marks x1 x2 = some r) : Ch l G 9 2 402 yL_rivals cL_rivals 5 [(0, 10, 13, 13)] [.ref (gb G 0), .int x1, .int x2, .ref ao] ((ao, .inl (gct G 3, 1, .inr (.inl fo))) :: (WB G p_female p_born p_toldDeath p_lastYear p_father p_mother p_fatherGrade p_motherGrade p_size g_holder g_arms g_from g_size r_marks r_arms r_root r_steps r_grade r_marksAboveOne q_rows q_sizes t_bytes t_length s_tokens s_starts s_size a_code a_codeSize a_at a_token a_fault a_place (txf kT tA) o_names o_operands o_size o_open o_refuses o_differs o_fees c_years c_rows c_size x_faultPlace ++ (TXw G kT tA tC tN tF tY ++ fr))) 0 (fun u => ((ao, .inl (gct G 3, 1, .inr (.inl (vp_updL fo (Int32.toNatClampNeg 0) (Int32.toInt64 r.1))))) :: (WB G p_female p_born p_toldDeath p_lastYear p_father p_mother p_fatherGrade p_motherGrade p_size g_holder g_arms g_from g_size r.2.1 r.2.2.1 r.2.2.2.1 r.2.2.2.2.1 r.2.2.2.2.2.1 r.2.2.2.2.2.2 q_rows q_sizes t_bytes t_length s_tokens s_starts s_size a_code a_codeSize a_at a_token a_fault a_place (txf kT tA) o_names o_operands o_size o_open o_refuses o_differs o_fees c_years c_rows c_size x_faultPlace ++ (TXw G kT tA tC tN tF tY ++ fr)))) := by
  refine Ch.of (by decide) (Nat.le_of_ble_eq_true rfl) (fun Y hX htab hQ => ?_)
  refine j_lv (lv' := [(0, .ref (gb G 0)), (1, .int x1), (2, .int x2), (3, .ref ao)]) rfl ?_
  refine j_aload_n hX dL_rivals_0 1 rfl 3 rfl rfl ?_
  refine j_iconst (v := 0) hX dL_rivals_1 2 rfl (by decide) ?_
  refine j_aload_n hX dL_rivals_2 3 rfl 0 rfl rfl ?_
  refine j_iload_n hX dL_rivals_3 4 rfl 1 rfl rfl ?_
  refine j_iload_n hX dL_rivals_4 5 rfl 2 rfl rfl ?_
  refine j_perm perm_o ?_
  refine z_i (As := [.int x1, .int x2]) (rest := [.int 0, .ref ao]) (q0 := 0) hX dL_rivals_5 8 rfl (t_X10_rivals x1 x2 hf) mc_X10_rivals mv_X10_rivals ml_L_46 rfl rfl (Nat.le_of_ble_eq_true rfl) (Nat.zero_le _) (Nat.zero_le _) rfl (Nat.le_of_ble_eq_true rfl) ?_
  refine j_perm perm_o.symm ?_
  refine j_i2l hX dL_rivals_8 9 rfl ?_
  refine j_last hX dL_rivals_9 10 rfl 0 rfl (by decide) rfl ?_
  refine j_goto hX dL_rivals_10 17 rfl ?_
  refine j_iconst (v := 0) hX dL_rivals_17 18 rfl (by decide) ?_
  exact j_iretT (0, 0) hX hQ (Nat.le_of_ble_eq_true rfl) (Nat.le_of_ble_eq_true rfl) rfl dL_rivals_18
set_option maxRecDepth 100000 in
set_option maxHeartbeats 4000000 in
theorem h_L_rivals_x (x1 : Int32) (x2 : Int32) {r : (Nat → Int32) × Int32 × Int32 × Int32 × Int32 × Int32} (hf : f_X10_rivals_x p_size r_marks r_arms r_root r_steps r_grade r_marksAboveOne x1 = some r) : Ch l G 9 2 402 yL_rivals cL_rivals 5 [(0, 10, 13, 13)] [.ref (gb G 0), .int x1, .int x2, .ref ao] ((ao, .inl (gct G 3, 1, .inr (.inl fo))) :: (WB G p_female p_born p_toldDeath p_lastYear p_father p_mother p_fatherGrade p_motherGrade p_size g_holder g_arms g_from g_size r_marks r_arms r_root r_steps r_grade r_marksAboveOne q_rows q_sizes t_bytes t_length s_tokens s_starts s_size a_code a_codeSize a_at a_token a_fault a_place (txf kT tA) o_names o_operands o_size o_open o_refuses o_differs o_fees c_years c_rows c_size x_faultPlace ++ (TXw G kT tA tC tN tF tY ++ fr))) 1 (fun _ => ((ao, .inl (gct G 3, 1, .inr (.inl fo))) :: (WB G p_female p_born p_toldDeath p_lastYear p_father p_mother p_fatherGrade p_motherGrade p_size g_holder g_arms g_from g_size r.1 r.2.1 r.2.2.1 r.2.2.2.1 r.2.2.2.2.1 r.2.2.2.2.2 q_rows q_sizes t_bytes t_length s_tokens s_starts s_size a_code a_codeSize a_at a_token a_fault a_place (txf kT tA) o_names o_operands o_size o_open o_refuses o_differs o_fees c_years c_rows c_size x_faultPlace ++ (TXw G kT tA tC tN tF tY ++ fr)))) := by
  refine Ch.of (by decide) (Nat.le_of_ble_eq_true rfl) (fun Y hX htab hQ => ?_)
  refine j_lv (lv' := [(0, .ref (gb G 0)), (1, .int x1), (2, .int x2), (3, .ref ao)]) rfl ?_
  refine j_aload_n hX dL_rivals_0 1 rfl 3 rfl rfl ?_
  refine j_iconst (v := 0) hX dL_rivals_1 2 rfl (by decide) ?_
  refine j_aload_n hX dL_rivals_2 3 rfl 0 rfl rfl ?_
  refine j_iload_n hX dL_rivals_3 4 rfl 1 rfl rfl ?_
  refine j_iload_n hX dL_rivals_4 5 rfl 2 rfl rfl ?_
  refine j_perm perm_o ?_
  refine jx_caught (As := [.int x1, .int x2]) (rest := [.int 0, .ref ao]) (q0 := 0) ⟨0, 10, 13, 13⟩ hX htab dL_rivals_5 (t_X10_rivals_x x1 x2 hf) mc_X10_rivals mv_X10_rivals ml_L_46 rfl rfl (Nat.le_of_ble_eq_true rfl) (Nat.le_of_ble_eq_true rfl) (Nat.le_of_ble_eq_true rfl) rfl (Nat.le_of_ble_eq_true rfl) (by decide) (by decide) w_lNS w_cNS (fun q => ?_)
  refine j_perm perm_o.symm ?_
  refine j_astore (x := q) (lv' := [(4, .ref q), (0, .ref (gb G 0)), (1, .int x1), (2, .int x2), (3, .ref ao)]) hX dL_rivals_13 15 rfl (by decide) rfl ?_
  refine j_iconst (v := 1) hX dL_rivals_15 16 rfl (by decide) ?_
  exact j_iretT (0, 0) hX hQ (Nat.le_of_ble_eq_true rfl) (Nat.le_of_ble_eq_true rfl) rfl dL_rivals_16
set_option maxRecDepth 100000 in
set_option maxHeartbeats 4000000 in
theorem h_L_common {fu : Nat} (x1 : Int32) (x2 : Int32) {r : Int32} (hf : f_X10_common fu p_father p_mother p_size x1 x2 = some r) : Ch l G 9 2 402 yL_common cL_common 5 [(0, 10, 13, 13)] [.ref (gb G 0), .int x1, .int x2, .ref ao] ((ao, .inl (gct G 3, 1, .inr (.inl fo))) :: (WB G p_female p_born p_toldDeath p_lastYear p_father p_mother p_fatherGrade p_motherGrade p_size g_holder g_arms g_from g_size r_marks r_arms r_root r_steps r_grade r_marksAboveOne q_rows q_sizes t_bytes t_length s_tokens s_starts s_size a_code a_codeSize a_at a_token a_fault a_place (txf kT tA) o_names o_operands o_size o_open o_refuses o_differs o_fees c_years c_rows c_size x_faultPlace ++ (TXw G kT tA tC tN tF tY ++ fr))) 0 (fun u => ((ao, .inl (gct G 3, 1, .inr (.inl (vp_updL fo (Int32.toNatClampNeg 0) (Int32.toInt64 r))))) :: (WB G p_female p_born p_toldDeath p_lastYear p_father p_mother p_fatherGrade p_motherGrade p_size g_holder g_arms g_from g_size r_marks r_arms r_root r_steps r_grade r_marksAboveOne q_rows q_sizes t_bytes t_length s_tokens s_starts s_size a_code a_codeSize a_at a_token a_fault a_place (txf kT tA) o_names o_operands o_size o_open o_refuses o_differs o_fees c_years c_rows c_size x_faultPlace ++ (TXw G kT tA tC tN tF tY ++ fr)))) := by
  refine Ch.of (by decide) (Nat.le_of_ble_eq_true rfl) (fun Y hX htab hQ => ?_)
  refine j_lv (lv' := [(0, .ref (gb G 0)), (1, .int x1), (2, .int x2), (3, .ref ao)]) rfl ?_
  refine j_aload_n hX dL_common_0 1 rfl 3 rfl rfl ?_
  refine j_iconst (v := 0) hX dL_common_1 2 rfl (by decide) ?_
  refine j_aload_n hX dL_common_2 3 rfl 0 rfl rfl ?_
  refine j_iload_n hX dL_common_3 4 rfl 1 rfl rfl ?_
  refine j_iload_n hX dL_common_4 5 rfl 2 rfl rfl ?_
  refine j_perm perm_o ?_
  refine z_i (As := [.int x1, .int x2]) (rest := [.int 0, .ref ao]) (q0 := 0) hX dL_common_5 8 rfl (t_X10_common x1 x2 hf) mc_X10_common mv_X10_common ml_L_49 rfl rfl (Nat.le_of_ble_eq_true rfl) (Nat.zero_le _) (Nat.zero_le _) rfl (Nat.le_of_ble_eq_true rfl) ?_
  refine j_perm perm_o.symm ?_
  refine j_i2l hX dL_common_8 9 rfl ?_
  refine j_last hX dL_common_9 10 rfl 0 rfl (by decide) rfl ?_
  refine j_goto hX dL_common_10 17 rfl ?_
  refine j_iconst (v := 0) hX dL_common_17 18 rfl (by decide) ?_
  exact j_iretT (0, 0) hX hQ (Nat.le_of_ble_eq_true rfl) (Nat.le_of_ble_eq_true rfl) rfl dL_common_18
set_option maxRecDepth 100000 in
set_option maxHeartbeats 4000000 in
theorem h_L_common_x (x1 : Int32) (x2 : Int32) {r : Unit} (hf : f_X10_common_x p_size x1 x2 = some r) : Ch l G 9 2 402 yL_common cL_common 5 [(0, 10, 13, 13)] [.ref (gb G 0), .int x1, .int x2, .ref ao] ((ao, .inl (gct G 3, 1, .inr (.inl fo))) :: (WB G p_female p_born p_toldDeath p_lastYear p_father p_mother p_fatherGrade p_motherGrade p_size g_holder g_arms g_from g_size r_marks r_arms r_root r_steps r_grade r_marksAboveOne q_rows q_sizes t_bytes t_length s_tokens s_starts s_size a_code a_codeSize a_at a_token a_fault a_place (txf kT tA) o_names o_operands o_size o_open o_refuses o_differs o_fees c_years c_rows c_size x_faultPlace ++ (TXw G kT tA tC tN tF tY ++ fr))) 1 (fun _ => ((ao, .inl (gct G 3, 1, .inr (.inl fo))) :: (WB G p_female p_born p_toldDeath p_lastYear p_father p_mother p_fatherGrade p_motherGrade p_size g_holder g_arms g_from g_size r_marks r_arms r_root r_steps r_grade r_marksAboveOne q_rows q_sizes t_bytes t_length s_tokens s_starts s_size a_code a_codeSize a_at a_token a_fault a_place (txf kT tA) o_names o_operands o_size o_open o_refuses o_differs o_fees c_years c_rows c_size x_faultPlace ++ (TXw G kT tA tC tN tF tY ++ fr)))) := by
  refine Ch.of (by decide) (Nat.le_of_ble_eq_true rfl) (fun Y hX htab hQ => ?_)
  refine j_lv (lv' := [(0, .ref (gb G 0)), (1, .int x1), (2, .int x2), (3, .ref ao)]) rfl ?_
  refine j_aload_n hX dL_common_0 1 rfl 3 rfl rfl ?_
  refine j_iconst (v := 0) hX dL_common_1 2 rfl (by decide) ?_
  refine j_aload_n hX dL_common_2 3 rfl 0 rfl rfl ?_
  refine j_iload_n hX dL_common_3 4 rfl 1 rfl rfl ?_
  refine j_iload_n hX dL_common_4 5 rfl 2 rfl rfl ?_
  refine j_perm perm_o ?_
  refine jx_caught (As := [.int x1, .int x2]) (rest := [.int 0, .ref ao]) (q0 := 0) ⟨0, 10, 13, 13⟩ hX htab dL_common_5 (t_X10_common_x x1 x2 hf) mc_X10_common mv_X10_common ml_L_49 rfl rfl (Nat.le_of_ble_eq_true rfl) (Nat.le_of_ble_eq_true rfl) (Nat.le_of_ble_eq_true rfl) rfl (Nat.le_of_ble_eq_true rfl) (by decide) (by decide) w_lNS w_cNS (fun q => ?_)
  refine j_perm perm_o.symm ?_
  refine j_astore (x := q) (lv' := [(4, .ref q), (0, .ref (gb G 0)), (1, .int x1), (2, .int x2), (3, .ref ao)]) hX dL_common_13 15 rfl (by decide) rfl ?_
  refine j_iconst (v := 1) hX dL_common_15 16 rfl (by decide) ?_
  exact j_iretT (0, 0) hX hQ (Nat.le_of_ble_eq_true rfl) (Nat.le_of_ble_eq_true rfl) rfl dL_common_16
set_option maxRecDepth 100000 in
set_option maxHeartbeats 4000000 in
theorem h_L_of {fu : Nat} (x1 : Int32) (x2 : Int32) {r : Int32} (hf : f_X10_of fu c_years c_rows c_size x1 x2 = some r) : Ch l G 9 2 402 yL_of cL_of 5 [(0, 10, 13, 13)] [.ref (gb G 0), .int x1, .int x2, .ref ao] ((ao, .inl (gct G 3, 1, .inr (.inl fo))) :: (WB G p_female p_born p_toldDeath p_lastYear p_father p_mother p_fatherGrade p_motherGrade p_size g_holder g_arms g_from g_size r_marks r_arms r_root r_steps r_grade r_marksAboveOne q_rows q_sizes t_bytes t_length s_tokens s_starts s_size a_code a_codeSize a_at a_token a_fault a_place (txf kT tA) o_names o_operands o_size o_open o_refuses o_differs o_fees c_years c_rows c_size x_faultPlace ++ (TXw G kT tA tC tN tF tY ++ fr))) 0 (fun u => ((ao, .inl (gct G 3, 1, .inr (.inl (vp_updL fo (Int32.toNatClampNeg 0) (Int32.toInt64 r))))) :: (WB G p_female p_born p_toldDeath p_lastYear p_father p_mother p_fatherGrade p_motherGrade p_size g_holder g_arms g_from g_size r_marks r_arms r_root r_steps r_grade r_marksAboveOne q_rows q_sizes t_bytes t_length s_tokens s_starts s_size a_code a_codeSize a_at a_token a_fault a_place (txf kT tA) o_names o_operands o_size o_open o_refuses o_differs o_fees c_years c_rows c_size x_faultPlace ++ (TXw G kT tA tC tN tF tY ++ fr)))) := by
  refine Ch.of (by decide) (Nat.le_of_ble_eq_true rfl) (fun Y hX htab hQ => ?_)
  refine j_lv (lv' := [(0, .ref (gb G 0)), (1, .int x1), (2, .int x2), (3, .ref ao)]) rfl ?_
  refine j_aload_n hX dL_of_0 1 rfl 3 rfl rfl ?_
  refine j_iconst (v := 0) hX dL_of_1 2 rfl (by decide) ?_
  refine j_aload_n hX dL_of_2 3 rfl 0 rfl rfl ?_
  refine j_iload_n hX dL_of_3 4 rfl 1 rfl rfl ?_
  refine j_iload_n hX dL_of_4 5 rfl 2 rfl rfl ?_
  refine j_perm perm_o ?_
  refine z_i (As := [.int x1, .int x2]) (rest := [.int 0, .ref ao]) (q0 := 0) hX dL_of_5 8 rfl (t_X10_of x1 x2 hf) mc_X10_of mv_X10_of ml_L_52 rfl rfl (Nat.le_of_ble_eq_true rfl) (Nat.zero_le _) (Nat.zero_le _) rfl (Nat.le_of_ble_eq_true rfl) ?_
  refine j_perm perm_o.symm ?_
  refine j_i2l hX dL_of_8 9 rfl ?_
  refine j_last hX dL_of_9 10 rfl 0 rfl (by decide) rfl ?_
  refine j_goto hX dL_of_10 17 rfl ?_
  refine j_iconst (v := 0) hX dL_of_17 18 rfl (by decide) ?_
  exact j_iretT (0, 0) hX hQ (Nat.le_of_ble_eq_true rfl) (Nat.le_of_ble_eq_true rfl) rfl dL_of_18
set_option maxRecDepth 100000 in
set_option maxHeartbeats 4000000 in
theorem h_L_of_x (x1 : Int32) (x2 : Int32) {r : Unit} (hf : f_X10_of_x c_size x1 x2 = some r) : Ch l G 9 2 402 yL_of cL_of 5 [(0, 10, 13, 13)] [.ref (gb G 0), .int x1, .int x2, .ref ao] ((ao, .inl (gct G 3, 1, .inr (.inl fo))) :: (WB G p_female p_born p_toldDeath p_lastYear p_father p_mother p_fatherGrade p_motherGrade p_size g_holder g_arms g_from g_size r_marks r_arms r_root r_steps r_grade r_marksAboveOne q_rows q_sizes t_bytes t_length s_tokens s_starts s_size a_code a_codeSize a_at a_token a_fault a_place (txf kT tA) o_names o_operands o_size o_open o_refuses o_differs o_fees c_years c_rows c_size x_faultPlace ++ (TXw G kT tA tC tN tF tY ++ fr))) 1 (fun _ => ((ao, .inl (gct G 3, 1, .inr (.inl fo))) :: (WB G p_female p_born p_toldDeath p_lastYear p_father p_mother p_fatherGrade p_motherGrade p_size g_holder g_arms g_from g_size r_marks r_arms r_root r_steps r_grade r_marksAboveOne q_rows q_sizes t_bytes t_length s_tokens s_starts s_size a_code a_codeSize a_at a_token a_fault a_place (txf kT tA) o_names o_operands o_size o_open o_refuses o_differs o_fees c_years c_rows c_size x_faultPlace ++ (TXw G kT tA tC tN tF tY ++ fr)))) := by
  refine Ch.of (by decide) (Nat.le_of_ble_eq_true rfl) (fun Y hX htab hQ => ?_)
  refine j_lv (lv' := [(0, .ref (gb G 0)), (1, .int x1), (2, .int x2), (3, .ref ao)]) rfl ?_
  refine j_aload_n hX dL_of_0 1 rfl 3 rfl rfl ?_
  refine j_iconst (v := 0) hX dL_of_1 2 rfl (by decide) ?_
  refine j_aload_n hX dL_of_2 3 rfl 0 rfl rfl ?_
  refine j_iload_n hX dL_of_3 4 rfl 1 rfl rfl ?_
  refine j_iload_n hX dL_of_4 5 rfl 2 rfl rfl ?_
  refine j_perm perm_o ?_
  refine jx_caught (As := [.int x1, .int x2]) (rest := [.int 0, .ref ao]) (q0 := 0) ⟨0, 10, 13, 13⟩ hX htab dL_of_5 (t_X10_of_x x1 x2 hf) mc_X10_of mv_X10_of ml_L_52 rfl rfl (Nat.le_of_ble_eq_true rfl) (Nat.le_of_ble_eq_true rfl) (Nat.le_of_ble_eq_true rfl) rfl (Nat.le_of_ble_eq_true rfl) (by decide) (by decide) w_lNS w_cNS (fun q => ?_)
  refine j_perm perm_o.symm ?_
  refine j_astore (x := q) (lv' := [(4, .ref q), (0, .ref (gb G 0)), (1, .int x1), (2, .int x2), (3, .ref ao)]) hX dL_of_13 15 rfl (by decide) rfl ?_
  refine j_iconst (v := 1) hX dL_of_15 16 rfl (by decide) ?_
  exact j_iretT (0, 0) hX hQ (Nat.le_of_ble_eq_true rfl) (Nat.le_of_ble_eq_true rfl) rfl dL_of_16
set_option maxRecDepth 100000 in
set_option maxHeartbeats 4000000 in
theorem h_L_count (x1 : Int32) {r : Int32} (hf : f_X10_count p_size g_size t_length o_size c_size x1 = some r) : Ch l G 9 2 402 yL_count cL_count 4 [(0, 9, 12, 13)] [.ref (gb G 0), .int x1, .ref ao] ((ao, .inl (gct G 3, 1, .inr (.inl fo))) :: (WB G p_female p_born p_toldDeath p_lastYear p_father p_mother p_fatherGrade p_motherGrade p_size g_holder g_arms g_from g_size r_marks r_arms r_root r_steps r_grade r_marksAboveOne q_rows q_sizes t_bytes t_length s_tokens s_starts s_size a_code a_codeSize a_at a_token a_fault a_place (txf kT tA) o_names o_operands o_size o_open o_refuses o_differs o_fees c_years c_rows c_size x_faultPlace ++ (TXw G kT tA tC tN tF tY ++ fr))) 0 (fun u => ((ao, .inl (gct G 3, 1, .inr (.inl (vp_updL fo (Int32.toNatClampNeg 0) (Int32.toInt64 r))))) :: (WB G p_female p_born p_toldDeath p_lastYear p_father p_mother p_fatherGrade p_motherGrade p_size g_holder g_arms g_from g_size r_marks r_arms r_root r_steps r_grade r_marksAboveOne q_rows q_sizes t_bytes t_length s_tokens s_starts s_size a_code a_codeSize a_at a_token a_fault a_place (txf kT tA) o_names o_operands o_size o_open o_refuses o_differs o_fees c_years c_rows c_size x_faultPlace ++ (TXw G kT tA tC tN tF tY ++ fr)))) := by
  refine Ch.of (by decide) (Nat.le_of_ble_eq_true rfl) (fun Y hX htab hQ => ?_)
  refine j_lv (lv' := [(0, .ref (gb G 0)), (1, .int x1), (2, .ref ao)]) rfl ?_
  refine j_aload_n hX dL_count_0 1 rfl 2 rfl rfl ?_
  refine j_iconst (v := 0) hX dL_count_1 2 rfl (by decide) ?_
  refine j_aload_n hX dL_count_2 3 rfl 0 rfl rfl ?_
  refine j_iload_n hX dL_count_3 4 rfl 1 rfl rfl ?_
  refine j_perm perm_o ?_
  refine z_i (As := [.int x1]) (rest := [.int 0, .ref ao]) (q0 := 0) hX dL_count_4 7 rfl (t_X10_count x1 hf) mc_X10_count mv_X10_count ml_L_55 rfl rfl (Nat.le_of_ble_eq_true rfl) (Nat.zero_le _) (Nat.zero_le _) rfl (Nat.le_of_ble_eq_true rfl) ?_
  refine j_perm perm_o.symm ?_
  refine j_i2l hX dL_count_7 8 rfl ?_
  refine j_last hX dL_count_8 9 rfl 0 rfl (by decide) rfl ?_
  refine j_goto hX dL_count_9 15 rfl ?_
  refine j_iconst (v := 0) hX dL_count_15 16 rfl (by decide) ?_
  exact j_iretT (0, 0) hX hQ (Nat.le_of_ble_eq_true rfl) (Nat.le_of_ble_eq_true rfl) rfl dL_count_16
set_option maxRecDepth 100000 in
set_option maxHeartbeats 4000000 in
theorem h_L_count_x (x1 : Int32) {r : Unit} (hf : f_X10_count_x x1 = some r) : Ch l G 9 2 402 yL_count cL_count 4 [(0, 9, 12, 13)] [.ref (gb G 0), .int x1, .ref ao] ((ao, .inl (gct G 3, 1, .inr (.inl fo))) :: (WB G p_female p_born p_toldDeath p_lastYear p_father p_mother p_fatherGrade p_motherGrade p_size g_holder g_arms g_from g_size r_marks r_arms r_root r_steps r_grade r_marksAboveOne q_rows q_sizes t_bytes t_length s_tokens s_starts s_size a_code a_codeSize a_at a_token a_fault a_place (txf kT tA) o_names o_operands o_size o_open o_refuses o_differs o_fees c_years c_rows c_size x_faultPlace ++ (TXw G kT tA tC tN tF tY ++ fr))) 1 (fun _ => ((ao, .inl (gct G 3, 1, .inr (.inl fo))) :: (WB G p_female p_born p_toldDeath p_lastYear p_father p_mother p_fatherGrade p_motherGrade p_size g_holder g_arms g_from g_size r_marks r_arms r_root r_steps r_grade r_marksAboveOne q_rows q_sizes t_bytes t_length s_tokens s_starts s_size a_code a_codeSize a_at a_token a_fault a_place (txf kT tA) o_names o_operands o_size o_open o_refuses o_differs o_fees c_years c_rows c_size x_faultPlace ++ (TXw G kT tA tC tN tF tY ++ fr)))) := by
  refine Ch.of (by decide) (Nat.le_of_ble_eq_true rfl) (fun Y hX htab hQ => ?_)
  refine j_lv (lv' := [(0, .ref (gb G 0)), (1, .int x1), (2, .ref ao)]) rfl ?_
  refine j_aload_n hX dL_count_0 1 rfl 2 rfl rfl ?_
  refine j_iconst (v := 0) hX dL_count_1 2 rfl (by decide) ?_
  refine j_aload_n hX dL_count_2 3 rfl 0 rfl rfl ?_
  refine j_iload_n hX dL_count_3 4 rfl 1 rfl rfl ?_
  refine j_perm perm_o ?_
  refine jx_caught (As := [.int x1]) (rest := [.int 0, .ref ao]) (q0 := 0) ⟨0, 9, 12, 13⟩ hX htab dL_count_4 (t_X10_count_x x1 hf) mc_X10_count mv_X10_count ml_L_55 rfl rfl (Nat.le_of_ble_eq_true rfl) (Nat.le_of_ble_eq_true rfl) (Nat.le_of_ble_eq_true rfl) rfl (Nat.le_of_ble_eq_true rfl) (by decide) (by decide) w_lNS w_cNS (fun q => ?_)
  refine j_perm perm_o.symm ?_
  refine j_astore_n (x := q) (lv' := [(3, .ref q), (0, .ref (gb G 0)), (1, .int x1), (2, .ref ao)]) hX dL_count_12 13 rfl rfl (by decide) rfl ?_
  refine j_iconst (v := 1) hX dL_count_13 14 rfl (by decide) ?_
  exact j_iretT (0, 0) hX hQ (Nat.le_of_ble_eq_true rfl) (Nat.le_of_ble_eq_true rfl) rfl dL_count_14
end
