section
variable {l : Launch} {G : GT} {fr ws : va_W} {kT : Nat} {tA tC tN : Nat → Nat} {tF : Nat → Nat → Int32} {tY : Nat → Int32} {p_female : Nat → Int32} {p_born : Nat → Int32} {p_toldDeath : Nat → Int32} {p_lastYear : Nat → Int32} {p_father : Nat → Int32} {p_mother : Nat → Int32} {p_fatherGrade : Nat → Int32} {p_motherGrade : Nat → Int32} {p_size : Int32} {g_holder : Nat → Int32} {g_arms : Nat → Int32} {g_from : Nat → Int32} {g_size : Int32} {r_marks : Nat → Int32} {r_arms : Int32} {r_root : Int32} {r_steps : Int32} {r_grade : Int32} {r_marksAboveOne : Int32} {q_rows : Nat → Int32} {q_sizes : Nat → Int32} {t_bytes : Nat → Int32} {t_length : Int32} {s_tokens : Nat → Int32} {s_starts : Nat → Int32} {s_size : Int32} {a_code : Nat → Int32} {a_codeSize : Int32} {a_at : Int32} {a_token : Int32} {a_fault : Int32} {a_place : Int32} {o_texts : Nat → Option Nat} {o_names : Nat → Int32} {o_operands : Nat → Int32} {o_size : Int32} {o_open : Int32} {o_refuses : Int32} {o_differs : Int32} {o_fees : Int32} {c_years : Nat → Int32} {c_rows : Nat → Int32} {c_size : Int32} {x_faultPlace : Int32}
def g_X2_judge (o_names : Nat → Int32) (n : Nat) (f : Nat → Int32) (k : Int32 × ((Nat → Int32) × Int32 × Int32 × Int32 × Int32) → Option ((Nat → Int32) × Int32 × Int32 × Int32 × Int32)) (v : Int32 × ((Nat → Int32) × Int32 × Int32 × Int32 × Int32)) : Option ((Nat → Int32) × Int32 × Int32 × Int32 × Int32) :=
  if Int32.ofNat n ≤ v.1 then some v.2 else if inb v.1 n = true then (f_X2_work o_names v.2.1 v.2.2.1 v.2.2.2.1 v.2.2.2.2.1 v.2.2.2.2.2 (f (Int32.toNatClampNeg v.1))).bind fun w => k (v.1 + 1, w) else none
def f_X2_judge (fu : Nat) (o_names : Nat → Int32) (o_size : Int32) (kT : Nat) (tN : Nat → Nat) (tF : Nat → Nat → Int32) (tY : Nat → Int32) (o_operands : Nat → Int32) (x1 : Int32) : Option ((Nat → Int32) × Int32 × Int32 × Int32 × Int32) :=
  (f_X2_inForce fu o_size kT tY x1).bind fun b => match b with
    | none => some (o_operands, 0, 0, 0, 0)
    | some t => if decide (t < kT) = true then lp (g_X2_judge o_names (tN t) (tF t)) fu (0, o_operands, 0, 0, 0, 0) else none
set_option maxRecDepth 100000 in
set_option maxHeartbeats 4000000 in
theorem s_X2_judge {Y : YT} {t : Nat} (ht : t < kT) {r : ((Nat → Int32) × Int32 × Int32 × Int32 × Int32)} (hX : CX l G cX2_judge 4 RX2 Y) (hQ : EQv G Y 0 0 (WB G p_female p_born p_toldDeath p_lastYear p_father p_mother p_fatherGrade p_motherGrade p_size g_holder g_arms g_from g_size r_marks r_arms r_root r_steps r_grade r_marksAboveOne q_rows q_sizes t_bytes t_length s_tokens s_starts s_size a_code a_codeSize a_at a_token a_fault a_place (txf kT tA) o_names r.1 o_size r.2.1 r.2.2.1 r.2.2.2.1 r.2.2.2.2 c_years c_rows c_size x_faultPlace ++ (TXw G kT tA tC tN tF tY ++ fr))) (k : Int32 × ((Nat → Int32) × Int32 × Int32 × Int32 × Int32) → Option ((Nat → Int32) × Int32 × Int32 × Int32 × Int32)) (hk : ∀ v : Int32 × ((Nat → Int32) × Int32 × Int32 × Int32 × Int32), k v = some r → J l G (rmD 4 0 0) Y 0 0 33 [(0, .ref (gb G 26)), (2, .ref (tA t)), (3, .int v.1)] [] (WB G p_female p_born p_toldDeath p_lastYear p_father p_mother p_fatherGrade p_motherGrade p_size g_holder g_arms g_from g_size r_marks r_arms r_root r_steps r_grade r_marksAboveOne q_rows q_sizes t_bytes t_length s_tokens s_starts s_size a_code a_codeSize a_at a_token a_fault a_place (txf kT tA) o_names v.2.1 o_size v.2.2.1 v.2.2.2.1 v.2.2.2.2.1 v.2.2.2.2.2 c_years c_rows c_size x_faultPlace ++ (TXw G kT tA tC tN tF tY ++ fr))) (v : Int32 × ((Nat → Int32) × Int32 × Int32 × Int32 × Int32)) (hf : g_X2_judge o_names (tN t) (tF t) k v = some r) : J l G (rmD 4 0 0) Y 0 0 33 [(0, .ref (gb G 26)), (2, .ref (tA t)), (3, .int v.1)] [] (WB G p_female p_born p_toldDeath p_lastYear p_father p_mother p_fatherGrade p_motherGrade p_size g_holder g_arms g_from g_size r_marks r_arms r_root r_steps r_grade r_marksAboveOne q_rows q_sizes t_bytes t_length s_tokens s_starts s_size a_code a_codeSize a_at a_token a_fault a_place (txf kT tA) o_names v.2.1 o_size v.2.2.1 v.2.2.2.1 v.2.2.2.2.1 v.2.2.2.2.2 c_years c_rows c_size x_faultPlace ++ (TXw G kT tA tC tN tF tY ++ fr)) := by
  unfold g_X2_judge at hf
  have hat1 := wb_at (ws := WB G p_female p_born p_toldDeath p_lastYear p_father p_mother p_fatherGrade p_motherGrade p_size g_holder g_arms g_from g_size r_marks r_arms r_root r_steps r_grade r_marksAboveOne q_rows q_sizes t_bytes t_length s_tokens s_starts s_size a_code a_codeSize a_at a_token a_fault a_place (txf kT tA) o_names v.2.1 o_size v.2.2.1 v.2.2.2.1 v.2.2.2.2.1 v.2.2.2.2.2 c_years c_rows c_size x_faultPlace) (fr := TXw G kT tA tC tN tF tY ++ fr) (n := 33) rfl (tx_in (TXw_at kT _ ht).1)
  have hat2 := wb_at (ws := WB G p_female p_born p_toldDeath p_lastYear p_father p_mother p_fatherGrade p_motherGrade p_size g_holder g_arms g_from g_size r_marks r_arms r_root r_steps r_grade r_marksAboveOne q_rows q_sizes t_bytes t_length s_tokens s_starts s_size a_code a_codeSize a_at a_token a_fault a_place (txf kT tA) o_names v.2.1 o_size v.2.2.1 v.2.2.2.1 v.2.2.2.2.1 v.2.2.2.2.2 c_years c_rows c_size x_faultPlace) (fr := TXw G kT tA tC tN tF tY ++ fr) (n := 33) rfl (tx_in (TXw_at kT _ ht).2)
  refine j_iload_n hX dX2_judge_33 34 rfl 2 rfl rfl ?_
  refine j_aload_n hX dX2_judge_34 35 rfl 1 rfl rfl ?_
  refine j_getN hX dX2_judge_35 38 rfl fn_X2_54 _ hat1 rfl ?_
  refine j_alen (n := 0) (v := Int32.ofNat (tN t)) hX dX2_judge_38 39 rfl _ 1 hat2 rfl rfl ?_
  refine j_icmp_ge hX dX2_judge_39 42 58 rfl rfl (fun h1 => ?_) (fun h1 => ?_)
  · replace hf := itt h1 hf
    replace hf := Option.some.inj hf
    subst hf
    exact j_vret hX hQ dX2_judge_58
  · replace hf := itf h1 hf
    obtain ⟨hb, hf⟩ := ign hf
    obtain ⟨w, hw, hf⟩ := ibd hf
    refine j_aload_n hX dX2_judge_42 43 rfl 0 rfl rfl ?_
    refine j_aload_n hX dX2_judge_43 44 rfl 1 rfl rfl ?_
    refine j_getN hX dX2_judge_44 47 rfl fn_X2_54 _ hat1 rfl ?_
    refine j_iload_n hX dX2_judge_47 48 rfl 2 rfl rfl ?_
    refine j_iald hX dX2_judge_48 49 rfl _ hat2 hb ?_
    refine z_v (As := [.int (tF t (Int32.toNatClampNeg v.1))]) (rest := []) (q0 := 26) hX dX2_judge_49 52 rfl (t_X2_work (tF t (Int32.toNatClampNeg v.1)) hw) mc_X2_work mv_X2_work ml_X2_57 rfl rfl (Nat.le_of_ble_eq_true rfl) (Nat.le_refl _) (Nat.le_refl _) rfl (Nat.le_of_ble_eq_true rfl) ?_
    refine j_iinc (v := v.1 + 1) (lv' := [(3, .int (v.1 + 1)), (0, .ref (gb G 26)), (2, .ref (tA t))]) hX dX2_judge_52 55 rfl 2 rfl rfl (by decide) rfl ?_
    refine j_goto hX dX2_judge_55 33 rfl ?_
    refine j_sub [1, 2, 0] rfl ?_
    exact hk (v.1 + 1, w) hf
set_option maxRecDepth 100000 in
set_option maxHeartbeats 4000000 in
theorem t_X2_judge {fu : Nat} (x1 : Int32) {r : ((Nat → Int32) × Int32 × Int32 × Int32 × Int32)} (hf : f_X2_judge fu o_names o_size kT tN tF tY o_operands x1 = some r) : Cv l G 4 0 0 yX2_judge cX2_judge 4 [.ref (gb G 26), .int x1] (WB G p_female p_born p_toldDeath p_lastYear p_father p_mother p_fatherGrade p_motherGrade p_size g_holder g_arms g_from g_size r_marks r_arms r_root r_steps r_grade r_marksAboveOne q_rows q_sizes t_bytes t_length s_tokens s_starts s_size a_code a_codeSize a_at a_token a_fault a_place (txf kT tA) o_names o_operands o_size o_open o_refuses o_differs o_fees c_years c_rows c_size x_faultPlace ++ (TXw G kT tA tC tN tF tY ++ fr)) (WB G p_female p_born p_toldDeath p_lastYear p_father p_mother p_fatherGrade p_motherGrade p_size g_holder g_arms g_from g_size r_marks r_arms r_root r_steps r_grade r_marksAboveOne q_rows q_sizes t_bytes t_length s_tokens s_starts s_size a_code a_codeSize a_at a_token a_fault a_place (txf kT tA) o_names r.1 o_size r.2.1 r.2.2.1 r.2.2.2.1 r.2.2.2.2 c_years c_rows c_size x_faultPlace ++ (TXw G kT tA tC tN tF tY ++ fr)) := by
  refine Cv.of (by decide) (Nat.le_of_ble_eq_true rfl) (fun Y hX hQ => ?_)
  refine j_lv (lv' := [(0, .ref (gb G 26)), (1, .int x1)]) rfl ?_
  unfold f_X2_judge at hf
  obtain ⟨b, hb, hf⟩ := ibd hf
  refine j_aload_n hX dX2_judge_0 1 rfl 0 rfl rfl ?_
  refine j_iconst (v := 0) hX dX2_judge_1 2 rfl (by decide) ?_
  refine j_put hX dX2_judge_2 5 rfl fg_X2_31 ft_X2_5 26 rfl rfl rfl (Nat.le_of_ble_eq_true rfl) (ws' := (WB G p_female p_born p_toldDeath p_lastYear p_father p_mother p_fatherGrade p_motherGrade p_size g_holder g_arms g_from g_size r_marks r_arms r_root r_steps r_grade r_marksAboveOne q_rows q_sizes t_bytes t_length s_tokens s_starts s_size a_code a_codeSize a_at a_token a_fault a_place (txf kT tA) o_names o_operands o_size o_open 0 o_differs o_fees c_years c_rows c_size x_faultPlace ++ (TXw G kT tA tC tN tF tY ++ fr))) rfl ?_
  refine j_aload_n hX dX2_judge_5 6 rfl 0 rfl rfl ?_
  refine j_iconst (v := 0) hX dX2_judge_6 7 rfl (by decide) ?_
  refine j_put hX dX2_judge_7 10 rfl fg_X2_35 ft_X2_6 26 rfl rfl rfl (Nat.le_of_ble_eq_true rfl) (ws' := (WB G p_female p_born p_toldDeath p_lastYear p_father p_mother p_fatherGrade p_motherGrade p_size g_holder g_arms g_from g_size r_marks r_arms r_root r_steps r_grade r_marksAboveOne q_rows q_sizes t_bytes t_length s_tokens s_starts s_size a_code a_codeSize a_at a_token a_fault a_place (txf kT tA) o_names o_operands o_size o_open 0 0 o_fees c_years c_rows c_size x_faultPlace ++ (TXw G kT tA tC tN tF tY ++ fr))) rfl ?_
  refine j_aload_n hX dX2_judge_10 11 rfl 0 rfl rfl ?_
  refine j_iconst (v := 0) hX dX2_judge_11 12 rfl (by decide) ?_
  refine j_put hX dX2_judge_12 15 rfl fg_X2_38 ft_X2_7 26 rfl rfl rfl (Nat.le_of_ble_eq_true rfl) (ws' := (WB G p_female p_born p_toldDeath p_lastYear p_father p_mother p_fatherGrade p_motherGrade p_size g_holder g_arms g_from g_size r_marks r_arms r_root r_steps r_grade r_marksAboveOne q_rows q_sizes t_bytes t_length s_tokens s_starts s_size a_code a_codeSize a_at a_token a_fault a_place (txf kT tA) o_names o_operands o_size o_open 0 0 0 c_years c_rows c_size x_faultPlace ++ (TXw G kT tA tC tN tF tY ++ fr))) rfl ?_
  refine j_aload_n hX dX2_judge_15 16 rfl 0 rfl rfl ?_
  refine j_iconst (v := 0) hX dX2_judge_16 17 rfl (by decide) ?_
  refine j_put hX dX2_judge_17 20 rfl fg_X2_28 ft_X2_4 26 rfl rfl rfl (Nat.le_of_ble_eq_true rfl) (ws' := (WB G p_female p_born p_toldDeath p_lastYear p_father p_mother p_fatherGrade p_motherGrade p_size g_holder g_arms g_from g_size r_marks r_arms r_root r_steps r_grade r_marksAboveOne q_rows q_sizes t_bytes t_length s_tokens s_starts s_size a_code a_codeSize a_at a_token a_fault a_place (txf kT tA) o_names o_operands o_size 0 0 0 0 c_years c_rows c_size x_faultPlace ++ (TXw G kT tA tC tN tF tY ++ fr))) rfl ?_
  refine j_aload_n hX dX2_judge_20 21 rfl 0 rfl rfl ?_
  refine j_iload_n hX dX2_judge_21 22 rfl 1 rfl rfl ?_
  refine z_q (As := [.int x1]) (rest := []) (q0 := 26) hX dX2_judge_22 25 rfl (t_X2_inForce x1 hb) mc_X2_inForce mv_X2_inForce ml_X2_50 rfl rfl (Nat.le_of_ble_eq_true rfl) (Nat.le_refl _) (Nat.le_refl _) rfl (Nat.le_of_ble_eq_true rfl) ?_
  cases b with
  | none =>
    replace hf := Option.some.inj hf
    subst hf
    refine j_astore_nN (lv' := [(2, .null), (0, .ref (gb G 26)), (1, .int x1)]) hX dX2_judge_25 26 rfl rfl (by decide) rfl ?_
    refine j_aload_nN hX dX2_judge_26 27 rfl 0 rfl rfl ?_
    refine j_ifnnN hX dX2_judge_27 30 rfl ?_
    exact j_vret hX hQ dX2_judge_30
  | some t =>
    obtain ⟨ht, hf⟩ := ign hf
    have ht : t < kT := of_decide_eq_true ht
    refine j_astore_n (x := tA t) (lv' := [(2, .ref (tA t)), (0, .ref (gb G 26)), (1, .int x1)]) hX dX2_judge_25 26 rfl rfl (by decide) rfl ?_
    refine j_aload_n hX dX2_judge_26 27 rfl 0 rfl rfl ?_
    refine j_ifnn hX dX2_judge_27 31 rfl ?_
    refine j_iconst (v := 0) hX dX2_judge_31 32 rfl (by decide) ?_
    refine j_istore_n (lv' := [(3, .int 0), (2, .ref (tA t)), (0, .ref (gb G 26)), (1, .int x1)]) hX dX2_judge_32 33 rfl rfl (by decide) rfl ?_
    refine j_sub [2, 1, 0] rfl ?_
    exact lp_ind (P := fun v : Int32 × ((Nat → Int32) × Int32 × Int32 × Int32 × Int32) => J l G (rmD 4 0 0) Y 0 0 33 [(0, .ref (gb G 26)), (2, .ref (tA t)), (3, .int v.1)] [] (WB G p_female p_born p_toldDeath p_lastYear p_father p_mother p_fatherGrade p_motherGrade p_size g_holder g_arms g_from g_size r_marks r_arms r_root r_steps r_grade r_marksAboveOne q_rows q_sizes t_bytes t_length s_tokens s_starts s_size a_code a_codeSize a_at a_token a_fault a_place (txf kT tA) o_names v.2.1 o_size v.2.2.1 v.2.2.2.1 v.2.2.2.2.1 v.2.2.2.2.2 c_years c_rows c_size x_faultPlace ++ (TXw G kT tA tC tN tF tY ++ fr))) (fun k hk v hf => s_X2_judge ht hX hQ k hk v hf) fu (0, o_operands, 0, 0, 0, 0) hf
end
