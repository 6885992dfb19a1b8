section
variable {l : Launch} {G : GT} {fr ws : va_W} {kT : Nat} {tA tC tN : Nat → Nat} {tF : Nat → Nat → Int32} {tY : Nat → Int32} {p_female : Nat → Int32} {p_born : Nat → Int32} {p_toldDeath : Nat → Int32} {p_lastYear : Nat → Int32} {p_father : Nat → Int32} {p_mother : Nat → Int32} {p_fatherGrade : Nat → Int32} {p_motherGrade : Nat → Int32} {p_size : Int32} {g_holder : Nat → Int32} {g_arms : Nat → Int32} {g_from : Nat → Int32} {g_size : Int32} {r_marks : Nat → Int32} {r_arms : Int32} {r_root : Int32} {r_steps : Int32} {r_grade : Int32} {r_marksAboveOne : Int32} {q_rows : Nat → Int32} {q_sizes : Nat → Int32} {t_bytes : Nat → Int32} {t_length : Int32} {s_tokens : Nat → Int32} {s_starts : Nat → Int32} {s_size : Int32} {a_code : Nat → Int32} {a_codeSize : Int32} {a_at : Int32} {a_token : Int32} {a_fault : Int32} {a_place : Int32} {o_texts : Nat → Option Nat} {o_names : Nat → Int32} {o_operands : Nat → Int32} {o_size : Int32} {o_open : Int32} {o_refuses : Int32} {o_differs : Int32} {o_fees : Int32} {c_years : Nat → Int32} {c_rows : Nat → Int32} {c_size : Int32} {x_faultPlace : Int32}
def f_X10_person (p_female : Nat → Int32) (p_born : Nat → Int32) (p_toldDeath : Nat → Int32) (p_lastYear : Nat → Int32) (p_father : Nat → Int32) (p_mother : Nat → Int32) (p_size : Int32) (x1 : Int32) (x2 : Int32) (x3 : Int32) : Option (Int32 × (Nat → Int32) × (Nat → Int32) × (Nat → Int32) × (Nat → Int32) × (Nat → Int32) × (Nat → Int32) × Int32) :=
  (f_X4_add p_female p_born p_toldDeath p_lastYear p_father p_mother p_size x1 x2 x3).bind fun v1 => some (v1.1, v1.2.1, v1.2.2.1, v1.2.2.2.1, v1.2.2.2.2.1, v1.2.2.2.2.2.1, v1.2.2.2.2.2.2.1, v1.2.2.2.2.2.2.2)
set_option maxRecDepth 100000 in
set_option maxHeartbeats 4000000 in
theorem t_X10_person  (x1 : Int32) (x2 : Int32) (x3 : Int32) {r : Int32 × (Nat → Int32) × (Nat → Int32) × (Nat → Int32) × (Nat → Int32) × (Nat → Int32) × (Nat → Int32) × Int32} (hf : f_X10_person p_female p_born p_toldDeath p_lastYear p_father p_mother p_size x1 x2 x3 = some r) : Ci l G 4 0 0 yX10_person cX10_person 4 .int [.ref (gb G 0), .int x1, .int x2, .int x3] (WB G p_female p_born p_toldDeath p_lastYear p_father p_mother p_fatherGrade p_motherGrade p_size g_holder g_arms g_from g_size r_marks r_arms r_root r_steps r_grade r_marksAboveOne q_rows q_sizes t_bytes t_length s_tokens s_starts s_size a_code a_codeSize a_at a_token a_fault a_place o_texts o_names o_operands o_size o_open o_refuses o_differs o_fees c_years c_rows c_size x_faultPlace ++ fr) r.1 (WB G r.2.1 r.2.2.1 r.2.2.2.1 r.2.2.2.2.1 r.2.2.2.2.2.1 r.2.2.2.2.2.2.1 p_fatherGrade p_motherGrade r.2.2.2.2.2.2.2 g_holder g_arms g_from g_size r_marks r_arms r_root r_steps r_grade r_marksAboveOne q_rows q_sizes t_bytes t_length s_tokens s_starts s_size a_code a_codeSize a_at a_token a_fault a_place o_texts o_names o_operands o_size o_open o_refuses o_differs o_fees c_years c_rows c_size x_faultPlace ++ fr) := by
  refine Ci.of (by decide) (Nat.le_of_ble_eq_true rfl) (fun Y hX hQ => ?_)
  refine j_lv (lv' := [(0, .ref (gb G 0)), (1, .int x1), (2, .int x2), (3, .int x3)]) rfl ?_
  unfold f_X10_person at hf
  refine j_aload_n hX dX10_person_0 1 rfl 0 rfl rfl ?_
  refine j_get hX dX10_person_1 4 rfl fg_X10_10 0 rfl rfl ?_
  refine j_iload_n hX dX10_person_4 5 rfl 1 rfl rfl ?_
  refine j_iload_n hX dX10_person_5 6 rfl 2 rfl rfl ?_
  refine j_iload_n hX dX10_person_6 7 rfl 3 rfl rfl ?_
  obtain ⟨v1, hv1, hf⟩ := ibd hf
  refine z_i (As := [.int x1, .int x2, .int x3]) (rest := []) (q0 := 1) hX dX10_person_7 10 rfl (t_X4_add x1 x2 x3 hv1) mc_X4_add mv_X4_add ml_X10_69 rfl rfl (Nat.le_of_ble_eq_true rfl) (Nat.le_refl _) (Nat.le_refl _) rfl (Nat.le_of_ble_eq_true rfl) ?_
  replace hf := Option.some.inj hf
  subst hf
  exact j_iret hX hQ dX10_person_10
def f_X10_requirePerson_x (p_size : Int32) (x1 : Int32) : Option (Unit) :=
  (f_X4_has p_size x1).bind fun v1 => if v1 = 0 then some () else none
set_option maxRecDepth 100000 in
set_option maxHeartbeats 4000000 in
theorem t_X10_requirePerson_x  (x1 : Int32) {r : Unit} (hf : f_X10_requirePerson_x p_size x1 = some r) : Xt l G 7 1 6 yX10_requirePerson cX10_requirePerson 2 none [.ref (gb G 0), .int x1] (WB G p_female p_born p_toldDeath p_lastYear p_father p_mother p_fatherGrade p_motherGrade p_size g_holder g_arms g_from g_size r_marks r_arms r_root r_steps r_grade r_marksAboveOne q_rows q_sizes t_bytes t_length s_tokens s_starts s_size a_code a_codeSize a_at a_token a_fault a_place o_texts o_names o_operands o_size o_open o_refuses o_differs o_fees c_years c_rows c_size x_faultPlace ++ fr) (WB G p_female p_born p_toldDeath p_lastYear p_father p_mother p_fatherGrade p_motherGrade p_size g_holder g_arms g_from g_size r_marks r_arms r_root r_steps r_grade r_marksAboveOne q_rows q_sizes t_bytes t_length s_tokens s_starts s_size a_code a_codeSize a_at a_token a_fault a_place o_texts o_names o_operands o_size o_open o_refuses o_differs o_fees c_years c_rows c_size x_faultPlace ++ fr) xNS := by
  refine Xt.of (by decide) (Nat.le_of_ble_eq_true rfl) (fun Y hX hQ => ?_)
  refine j_lv (lv' := [(0, .ref (gb G 0)), (1, .int x1)]) rfl ?_
  unfold f_X10_requirePerson_x at hf
  refine j_aload_n hX dX10_requirePerson_0 1 rfl 0 rfl rfl ?_
  refine j_get hX dX10_requirePerson_1 4 rfl fg_X10_10 0 rfl rfl ?_
  refine j_iload_n hX dX10_requirePerson_4 5 rfl 1 rfl rfl ?_
  obtain ⟨v1, hv1, hf⟩ := ibd hf
  refine z_i (As := [.int x1]) (rest := []) (q0 := 1) hX dX10_requirePerson_5 8 rfl (t_X4_has x1 hv1) mc_X4_has mv_X4_has ml_X10_277 rfl rfl (Nat.le_of_ble_eq_true rfl) (Nat.zero_le _) (Nat.zero_le _) rfl (Nat.le_of_ble_eq_true rfl) ?_
  refine j_if_ne hX dX10_requirePerson_8 11 22 rfl rfl (fun h2 => ?_) (fun h2 => ?_)
  · replace hf := itf h2 hf
    exact (Option.some_ne_none _ hf.symm).elim
  · replace hf := itt h2 hf
    replace hf := Option.some.inj hf
    subst hf
    exact jx_throwW (tx := "no such person") (si := 0) hX hQ th_NS (by decide +kernel) dX10_requirePerson_11 dX10_requirePerson_14 dX10_requirePerson_15 dX10_requirePerson_18 dX10_requirePerson_21 (by decide) (Nat.le_of_ble_eq_true rfl)
def f_X10_requirePerson (p_size : Int32) (x1 : Int32) : Option (Unit) :=
  (f_X4_has p_size x1).bind fun v1 => if v1 = 0 then none else some ()
set_option maxRecDepth 100000 in
set_option maxHeartbeats 4000000 in
theorem t_X10_requirePerson  (x1 : Int32) {r : Unit} (hf : f_X10_requirePerson p_size x1 = some r) : Cv l G 7 0 0 yX10_requirePerson cX10_requirePerson 2 [.ref (gb G 0), .int x1] (WB G p_female p_born p_toldDeath p_lastYear p_father p_mother p_fatherGrade p_motherGrade p_size g_holder g_arms g_from g_size r_marks r_arms r_root r_steps r_grade r_marksAboveOne q_rows q_sizes t_bytes t_length s_tokens s_starts s_size a_code a_codeSize a_at a_token a_fault a_place o_texts o_names o_operands o_size o_open o_refuses o_differs o_fees c_years c_rows c_size x_faultPlace ++ fr) (WB G p_female p_born p_toldDeath p_lastYear p_father p_mother p_fatherGrade p_motherGrade p_size g_holder g_arms g_from g_size r_marks r_arms r_root r_steps r_grade r_marksAboveOne q_rows q_sizes t_bytes t_length s_tokens s_starts s_size a_code a_codeSize a_at a_token a_fault a_place o_texts o_names o_operands o_size o_open o_refuses o_differs o_fees c_years c_rows c_size x_faultPlace ++ fr) := by
  refine Cv.of (by decide) (Nat.le_of_ble_eq_true rfl) (fun Y hX hQ => ?_)
  refine j_lv (lv' := [(0, .ref (gb G 0)), (1, .int x1)]) rfl ?_
  unfold f_X10_requirePerson at hf
  refine j_aload_n hX dX10_requirePerson_0 1 rfl 0 rfl rfl ?_
  refine j_get hX dX10_requirePerson_1 4 rfl fg_X10_10 0 rfl rfl ?_
  refine j_iload_n hX dX10_requirePerson_4 5 rfl 1 rfl rfl ?_
  obtain ⟨v1, hv1, hf⟩ := ibd hf
  refine z_i (As := [.int x1]) (rest := []) (q0 := 1) hX dX10_requirePerson_5 8 rfl (t_X4_has x1 hv1) mc_X4_has mv_X4_has ml_X10_277 rfl rfl (Nat.le_of_ble_eq_true rfl) (Nat.le_refl _) (Nat.le_refl _) rfl (Nat.le_of_ble_eq_true rfl) ?_
  refine j_if_ne hX dX10_requirePerson_8 11 22 rfl rfl (fun h2 => ?_) (fun h2 => ?_)
  · replace hf := itf h2 hf
    replace hf := Option.some.inj hf
    subst hf
    exact j_vret hX hQ dX10_requirePerson_22
  · replace hf := itt h2 hf
    exact (Option.some_ne_none _ hf.symm).elim
def f_X10_parent_x (p_size : Int32) (p_father : Nat → Int32) (p_mother : Nat → Int32) (p_fatherGrade : Nat → Int32) (p_motherGrade : Nat → Int32) (x1 : Int32) (x2 : Int32) (x3 : Int32) : Option ((Nat → Int32) × (Nat → Int32) × (Nat → Int32) × (Nat → Int32)) :=
  orx (f_X10_requirePerson_x p_size x1) (fun _ => some (p_father, p_mother, p_fatherGrade, p_motherGrade)) ((f_X10_requirePerson p_size x1).bind fun v2 => orx (f_X10_requirePerson_x p_size x3) (fun _ => some (p_father, p_mother, p_fatherGrade, p_motherGrade)) ((f_X10_requirePerson p_size x3).bind fun v4 => if x2 = 0 then none else if x2 = 1 then none else some (p_father, p_mother, p_fatherGrade, p_motherGrade)))
set_option maxRecDepth 100000 in
set_option maxHeartbeats 4000000 in
theorem t_X10_parent_x  (x1 : Int32) (x2 : Int32) (x3 : Int32) (x4 : Int32) {r : (Nat → Int32) × (Nat → Int32) × (Nat → Int32) × (Nat → Int32)} (hf : f_X10_parent_x p_size p_father p_mother p_fatherGrade p_motherGrade x1 x2 x3 = some r) : Xt l G 8 1 6 yX10_parent cX10_parent 5 (some .boolean) [.ref (gb G 0), .int x1, .int x2, .int x3, .int x4] (WB G p_female p_born p_toldDeath p_lastYear p_father p_mother p_fatherGrade p_motherGrade p_size g_holder g_arms g_from g_size r_marks r_arms r_root r_steps r_grade r_marksAboveOne q_rows q_sizes t_bytes t_length s_tokens s_starts s_size a_code a_codeSize a_at a_token a_fault a_place o_texts o_names o_operands o_size o_open o_refuses o_differs o_fees c_years c_rows c_size x_faultPlace ++ fr) (WB G p_female p_born p_toldDeath p_lastYear r.1 r.2.1 r.2.2.1 r.2.2.2 p_size g_holder g_arms g_from g_size r_marks r_arms r_root r_steps r_grade r_marksAboveOne q_rows q_sizes t_bytes t_length s_tokens s_starts s_size a_code a_codeSize a_at a_token a_fault a_place o_texts o_names o_operands o_size o_open o_refuses o_differs o_fees c_years c_rows c_size x_faultPlace ++ fr) xNS := by
  refine Xt.of (by decide) (Nat.le_of_ble_eq_true rfl) (fun Y hX hQ => ?_)
  refine j_lv (lv' := [(0, .ref (gb G 0)), (1, .int x1), (2, .int x2), (3, .int x3), (4, .int x4)]) rfl ?_
  unfold f_X10_parent_x at hf
  refine j_aload_n hX dX10_parent_0 1 rfl 0 rfl rfl ?_
  refine j_iload_n hX dX10_parent_1 2 rfl 1 rfl rfl ?_
  rcases orx_c hf with ⟨v1, hv1, hf⟩ | hf
  · replace hf := Option.some.inj hf
    subst hf
    exact jx_prop (As := [.int x1]) (rest := []) (q0 := 0) hX hQ dX10_parent_2 (t_X10_requirePerson_x x1 hv1) mc_X10_requirePerson mv_X10_requirePerson ml_X10_73 rfl rfl (Nat.le_of_ble_eq_true rfl) rfl (Nat.le_of_ble_eq_true rfl)
  obtain ⟨v2, hv2, hf⟩ := ibd hf
  refine z_v (As := [.int x1]) (rest := []) (q0 := 0) hX dX10_parent_2 5 rfl (t_X10_requirePerson x1 hv2) mc_X10_requirePerson mv_X10_requirePerson ml_X10_73 rfl rfl (Nat.le_of_ble_eq_true rfl) (Nat.zero_le _) (Nat.zero_le _) rfl (Nat.le_of_ble_eq_true rfl) ?_
  refine j_aload_n hX dX10_parent_5 6 rfl 0 rfl rfl ?_
  refine j_iload_n hX dX10_parent_6 7 rfl 3 rfl rfl ?_
  rcases orx_c hf with ⟨v3, hv3, hf⟩ | hf
  · replace hf := Option.some.inj hf
    subst hf
    exact jx_prop (As := [.int x3]) (rest := []) (q0 := 0) hX hQ dX10_parent_7 (t_X10_requirePerson_x x3 hv3) mc_X10_requirePerson mv_X10_requirePerson ml_X10_73 rfl rfl (Nat.le_of_ble_eq_true rfl) rfl (Nat.le_of_ble_eq_true rfl)
  obtain ⟨v4, hv4, hf⟩ := ibd hf
  refine z_v (As := [.int x3]) (rest := []) (q0 := 0) hX dX10_parent_7 10 rfl (t_X10_requirePerson x3 hv4) mc_X10_requirePerson mv_X10_requirePerson ml_X10_73 rfl rfl (Nat.le_of_ble_eq_true rfl) (Nat.zero_le _) (Nat.zero_le _) rfl (Nat.le_of_ble_eq_true rfl) ?_
  refine j_iload_n hX dX10_parent_10 11 rfl 2 rfl rfl ?_
  by_cases h5 : x2 = 0
  · replace hf := itt h5 hf
    refine j_look hX dX10_parent_11 rfl 36 (by rw [h5]; rfl) ?_
    exact (Option.some_ne_none _ hf.symm).elim
  replace hf := itf h5 hf
  by_cases h6 : x2 = 1
  · replace hf := itt h6 hf
    refine j_look hX dX10_parent_11 rfl 48 (by rw [h6]; rfl) ?_
    exact (Option.some_ne_none _ hf.symm).elim
  replace hf := itf h6 hf
  replace h5 := ne_ti (m := 0) h5 rfl
  replace h6 := ne_ti (m := 1) h6 rfl
  refine j_look hX dX10_parent_11 rfl 60 (by show ((11 : Nat) : Int) + Op.lookupswitch.offset [(0, 25), (1, 37)] 49 (Int32.toInt x2) = _; rw [Op.lookupswitch.offset_cons, if_neg (fun e => h5 e.symm), Op.lookupswitch.offset_cons, if_neg (fun e => h6 e.symm), Op.lookupswitch.offset_nil]; rfl) ?_
  replace hf := Option.some.inj hf
  subst hf
  exact jx_throw (tx := "neither father nor mother") (si := 1) hX hQ th_NS (by decide +kernel) dX10_parent_60 dX10_parent_63 dX10_parent_64 dX10_parent_66 dX10_parent_69 (by decide) (Nat.le_of_ble_eq_true rfl)
def f_X10_parent (p_female : Nat → Int32) (p_born : Nat → Int32) (p_lastYear : Nat → Int32) (p_size : Int32) (p_father : Nat → Int32) (p_mother : Nat → Int32) (p_fatherGrade : Nat → Int32) (p_motherGrade : Nat → Int32) (x1 : Int32) (x2 : Int32) (x3 : Int32) (x4 : Int32) : Option (Int32 × (Nat → Int32) × (Nat → Int32) × (Nat → Int32) × (Nat → Int32)) :=
  (f_X10_requirePerson p_size x1).bind fun v1 => (f_X10_requirePerson p_size x3).bind fun v2 => if x2 = 0 then (f_X4_tellFather p_female p_born p_lastYear p_size p_father p_fatherGrade x1 x3 x4).bind fun v4 => if isB v4.1 = true then some (v4.1, v4.2.1, p_mother, v4.2.2, p_motherGrade) else none else if x2 = 1 then (f_X4_tellMother p_female p_born p_lastYear p_size p_mother p_motherGrade x1 x3 x4).bind fun v7 => if isB v7.1 = true then some (v7.1, p_father, v7.2.1, p_fatherGrade, v7.2.2) else none else none
set_option maxRecDepth 100000 in
set_option maxHeartbeats 4000000 in
theorem t_X10_parent  (x1 : Int32) (x2 : Int32) (x3 : Int32) (x4 : Int32) {r : Int32 × (Nat → Int32) × (Nat → Int32) × (Nat → Int32) × (Nat → Int32)} (hf : f_X10_parent p_female p_born p_lastYear p_size p_father p_mother p_fatherGrade p_motherGrade x1 x2 x3 x4 = some r) : Ci l G 8 0 0 yX10_parent cX10_parent 5 .boolean [.ref (gb G 0), .int x1, .int x2, .int x3, .int x4] (WB G p_female p_born p_toldDeath p_lastYear p_father p_mother p_fatherGrade p_motherGrade p_size g_holder g_arms g_from g_size r_marks r_arms r_root r_steps r_grade r_marksAboveOne q_rows q_sizes t_bytes t_length s_tokens s_starts s_size a_code a_codeSize a_at a_token a_fault a_place o_texts o_names o_operands o_size o_open o_refuses o_differs o_fees c_years c_rows c_size x_faultPlace ++ fr) r.1 (WB G p_female p_born p_toldDeath p_lastYear r.2.1 r.2.2.1 r.2.2.2.1 r.2.2.2.2 p_size g_holder g_arms g_from g_size r_marks r_arms r_root r_steps r_grade r_marksAboveOne q_rows q_sizes t_bytes t_length s_tokens s_starts s_size a_code a_codeSize a_at a_token a_fault a_place o_texts o_names o_operands o_size o_open o_refuses o_differs o_fees c_years c_rows c_size x_faultPlace ++ fr) := by
  refine Ci.of (by decide) (Nat.le_of_ble_eq_true rfl) (fun Y hX hQ => ?_)
  refine j_lv (lv' := [(0, .ref (gb G 0)), (1, .int x1), (2, .int x2), (3, .int x3), (4, .int x4)]) rfl ?_
  unfold f_X10_parent at hf
  refine j_aload_n hX dX10_parent_0 1 rfl 0 rfl rfl ?_
  refine j_iload_n hX dX10_parent_1 2 rfl 1 rfl rfl ?_
  obtain ⟨v1, hv1, hf⟩ := ibd hf
  refine z_v (As := [.int x1]) (rest := []) (q0 := 0) hX dX10_parent_2 5 rfl (t_X10_requirePerson x1 hv1) mc_X10_requirePerson mv_X10_requirePerson ml_X10_73 rfl rfl (Nat.le_of_ble_eq_true rfl) (Nat.le_refl _) (Nat.le_refl _) rfl (Nat.le_of_ble_eq_true rfl) ?_
  refine j_aload_n hX dX10_parent_5 6 rfl 0 rfl rfl ?_
  refine j_iload_n hX dX10_parent_6 7 rfl 3 rfl rfl ?_
  obtain ⟨v2, hv2, hf⟩ := ibd hf
  refine z_v (As := [.int x3]) (rest := []) (q0 := 0) hX dX10_parent_7 10 rfl (t_X10_requirePerson x3 hv2) mc_X10_requirePerson mv_X10_requirePerson ml_X10_73 rfl rfl (Nat.le_of_ble_eq_true rfl) (Nat.le_refl _) (Nat.le_refl _) rfl (Nat.le_of_ble_eq_true rfl) ?_
  refine j_iload_n hX dX10_parent_10 11 rfl 2 rfl rfl ?_
  by_cases h3 : x2 = 0
  · replace hf := itt h3 hf
    refine j_look hX dX10_parent_11 rfl 36 (by rw [h3]; rfl) ?_
    refine j_aload_n hX dX10_parent_36 37 rfl 0 rfl rfl ?_
    refine j_get hX dX10_parent_37 40 rfl fg_X10_10 0 rfl rfl ?_
    refine j_iload_n hX dX10_parent_40 41 rfl 1 rfl rfl ?_
    refine j_iload_n hX dX10_parent_41 42 rfl 3 rfl rfl ?_
    refine j_iload hX dX10_parent_42 44 rfl 4 rfl ?_
    obtain ⟨v4, hv4, hf⟩ := ibd hf
    refine z_i (As := [.int x1, .int x3, .int x4]) (rest := []) (q0 := 1) hX dX10_parent_44 47 rfl (t_X4_tellFather x1 x3 x4 hv4) mc_X4_tellFather mv_X4_tellFather ml_X10_77 rfl rfl (Nat.le_of_ble_eq_true rfl) (Nat.le_refl _) (Nat.le_refl _) rfl (Nat.le_of_ble_eq_true rfl) ?_
    obtain ⟨hb5, hf⟩ := ign hf
    replace hf := Option.some.inj hf
    subst hf
    exact j_zret hX hQ hb5 dX10_parent_47
  replace hf := itf h3 hf
  by_cases h6 : x2 = 1
  · replace hf := itt h6 hf
    refine j_look hX dX10_parent_11 rfl 48 (by rw [h6]; rfl) ?_
    refine j_aload_n hX dX10_parent_48 49 rfl 0 rfl rfl ?_
    refine j_get hX dX10_parent_49 52 rfl fg_X10_10 0 rfl rfl ?_
    refine j_iload_n hX dX10_parent_52 53 rfl 1 rfl rfl ?_
    refine j_iload_n hX dX10_parent_53 54 rfl 3 rfl rfl ?_
    refine j_iload hX dX10_parent_54 56 rfl 4 rfl ?_
    obtain ⟨v7, hv7, hf⟩ := ibd hf
    refine z_i (As := [.int x1, .int x3, .int x4]) (rest := []) (q0 := 1) hX dX10_parent_56 59 rfl (t_X4_tellMother x1 x3 x4 hv7) mc_X4_tellMother mv_X4_tellMother ml_X10_81 rfl rfl (Nat.le_of_ble_eq_true rfl) (Nat.le_refl _) (Nat.le_refl _) rfl (Nat.le_of_ble_eq_true rfl) ?_
    obtain ⟨hb8, hf⟩ := ign hf
    replace hf := Option.some.inj hf
    subst hf
    exact j_zret hX hQ hb8 dX10_parent_59
  replace hf := itf h6 hf
  replace h3 := ne_ti (m := 0) h3 rfl
  replace h6 := ne_ti (m := 1) h6 rfl
  refine j_look hX dX10_parent_11 rfl 60 (by show ((11 : Nat) : Int) + Op.lookupswitch.offset [(0, 25), (1, 37)] 49 (Int32.toInt x2) = _; rw [Op.lookupswitch.offset_cons, if_neg (fun e => h3 e.symm), Op.lookupswitch.offset_cons, if_neg (fun e => h6 e.symm), Op.lookupswitch.offset_nil]; rfl) ?_
  exact (Option.some_ne_none _ hf.symm).elim
def f_X10_grant_x (p_size : Int32) (g_holder : Nat → Int32) (g_arms : Nat → Int32) (g_from : Nat → Int32) (g_size : Int32) (x1 : Int32) : Option ((Nat → Int32) × (Nat → Int32) × (Nat → Int32) × Int32) :=
  orx (f_X10_requirePerson_x p_size x1) (fun _ => some (g_holder, g_arms, g_from, g_size)) ((f_X10_requirePerson p_size x1).bind fun v2 => none)
set_option maxRecDepth 100000 in
set_option maxHeartbeats 4000000 in
theorem t_X10_grant_x  (x1 : Int32) (x2 : Int32) (x3 : Int32) {r : (Nat → Int32) × (Nat → Int32) × (Nat → Int32) × Int32} (hf : f_X10_grant_x p_size g_holder g_arms g_from g_size x1 = some r) : Xt l G 8 1 6 yX10_grant cX10_grant 4 (some .int) [.ref (gb G 0), .int x1, .int x2, .int x3] (WB G p_female p_born p_toldDeath p_lastYear p_father p_mother p_fatherGrade p_motherGrade p_size g_holder g_arms g_from g_size r_marks r_arms r_root r_steps r_grade r_marksAboveOne q_rows q_sizes t_bytes t_length s_tokens s_starts s_size a_code a_codeSize a_at a_token a_fault a_place o_texts o_names o_operands o_size o_open o_refuses o_differs o_fees c_years c_rows c_size x_faultPlace ++ fr) (WB G p_female p_born p_toldDeath p_lastYear p_father p_mother p_fatherGrade p_motherGrade p_size r.1 r.2.1 r.2.2.1 r.2.2.2 r_marks r_arms r_root r_steps r_grade r_marksAboveOne q_rows q_sizes t_bytes t_length s_tokens s_starts s_size a_code a_codeSize a_at a_token a_fault a_place o_texts o_names o_operands o_size o_open o_refuses o_differs o_fees c_years c_rows c_size x_faultPlace ++ fr) xNS := by
  refine Xt.of (by decide) (Nat.le_of_ble_eq_true rfl) (fun Y hX hQ => ?_)
  refine j_lv (lv' := [(0, .ref (gb G 0)), (1, .int x1), (2, .int x2), (3, .int x3)]) rfl ?_
  unfold f_X10_grant_x at hf
  refine j_aload_n hX dX10_grant_0 1 rfl 0 rfl rfl ?_
  refine j_iload_n hX dX10_grant_1 2 rfl 1 rfl rfl ?_
  rcases orx_c hf with ⟨v1, hv1, hf⟩ | hf
  · replace hf := Option.some.inj hf
    subst hf
    exact jx_prop (As := [.int x1]) (rest := []) (q0 := 0) hX hQ dX10_grant_2 (t_X10_requirePerson_x x1 hv1) mc_X10_requirePerson mv_X10_requirePerson ml_X10_73 rfl rfl (Nat.le_of_ble_eq_true rfl) rfl (Nat.le_of_ble_eq_true rfl)
  obtain ⟨v2, hv2, hf⟩ := ibd hf
  refine z_v (As := [.int x1]) (rest := []) (q0 := 0) hX dX10_grant_2 5 rfl (t_X10_requirePerson x1 hv2) mc_X10_requirePerson mv_X10_requirePerson ml_X10_73 rfl rfl (Nat.le_of_ble_eq_true rfl) (Nat.zero_le _) (Nat.zero_le _) rfl (Nat.le_of_ble_eq_true rfl) ?_
  exact (Option.some_ne_none _ hf.symm).elim
def f_X10_grant (p_size : Int32) (g_holder : Nat → Int32) (g_arms : Nat → Int32) (g_from : Nat → Int32) (g_size : Int32) (x1 : Int32) (x2 : Int32) (x3 : Int32) : Option (Int32 × (Nat → Int32) × (Nat → Int32) × (Nat → Int32) × Int32) :=
  (f_X10_requirePerson p_size x1).bind fun v1 => (f_X1_add g_holder g_arms g_from g_size x1 x2 x3).bind fun v2 => some (v2.1, v2.2.1, v2.2.2.1, v2.2.2.2.1, v2.2.2.2.2)
set_option maxRecDepth 100000 in
set_option maxHeartbeats 4000000 in
theorem t_X10_grant  (x1 : Int32) (x2 : Int32) (x3 : Int32) {r : Int32 × (Nat → Int32) × (Nat → Int32) × (Nat → Int32) × Int32} (hf : f_X10_grant p_size g_holder g_arms g_from g_size x1 x2 x3 = some r) : Ci l G 8 0 0 yX10_grant cX10_grant 4 .int [.ref (gb G 0), .int x1, .int x2, .int x3] (WB G p_female p_born p_toldDeath p_lastYear p_father p_mother p_fatherGrade p_motherGrade p_size g_holder g_arms g_from g_size r_marks r_arms r_root r_steps r_grade r_marksAboveOne q_rows q_sizes t_bytes t_length s_tokens s_starts s_size a_code a_codeSize a_at a_token a_fault a_place o_texts o_names o_operands o_size o_open o_refuses o_differs o_fees c_years c_rows c_size x_faultPlace ++ fr) r.1 (WB G p_female p_born p_toldDeath p_lastYear p_father p_mother p_fatherGrade p_motherGrade p_size r.2.1 r.2.2.1 r.2.2.2.1 r.2.2.2.2 r_marks r_arms r_root r_steps r_grade r_marksAboveOne q_rows q_sizes t_bytes t_length s_tokens s_starts s_size a_code a_codeSize a_at a_token a_fault a_place o_texts o_names o_operands o_size o_open o_refuses o_differs o_fees c_years c_rows c_size x_faultPlace ++ fr) := by
  refine Ci.of (by decide) (Nat.le_of_ble_eq_true rfl) (fun Y hX hQ => ?_)
  refine j_lv (lv' := [(0, .ref (gb G 0)), (1, .int x1), (2, .int x2), (3, .int x3)]) rfl ?_
  unfold f_X10_grant at hf
  refine j_aload_n hX dX10_grant_0 1 rfl 0 rfl rfl ?_
  refine j_iload_n hX dX10_grant_1 2 rfl 1 rfl rfl ?_
  obtain ⟨v1, hv1, hf⟩ := ibd hf
  refine z_v (As := [.int x1]) (rest := []) (q0 := 0) hX dX10_grant_2 5 rfl (t_X10_requirePerson x1 hv1) mc_X10_requirePerson mv_X10_requirePerson ml_X10_73 rfl rfl (Nat.le_of_ble_eq_true rfl) (Nat.le_refl _) (Nat.le_refl _) rfl (Nat.le_of_ble_eq_true rfl) ?_
  refine j_aload_n hX dX10_grant_5 6 rfl 0 rfl rfl ?_
  refine j_get hX dX10_grant_6 9 rfl fg_X10_19 0 rfl rfl ?_
  refine j_iload_n hX dX10_grant_9 10 rfl 1 rfl rfl ?_
  refine j_iload_n hX dX10_grant_10 11 rfl 2 rfl rfl ?_
  refine j_iload_n hX dX10_grant_11 12 rfl 3 rfl rfl ?_
  obtain ⟨v2, hv2, hf⟩ := ibd hf
  refine z_i (As := [.int x1, .int x2, .int x3]) (rest := []) (q0 := 10) hX dX10_grant_12 15 rfl (t_X1_add x1 x2 x3 hv2) mc_X1_add mv_X1_add ml_X10_91 rfl rfl (Nat.le_of_ble_eq_true rfl) (Nat.le_refl _) (Nat.le_refl _) rfl (Nat.le_of_ble_eq_true rfl) ?_
  replace hf := Option.some.inj hf
  subst hf
  exact j_iret hX hQ dX10_grant_15
def f_X10_feed (fu : Nat) (t_bytes : Nat → Int32) (t_length : Int32) (x1 : Int32) (x2 : Int32) (x3 : Int32) (x4 : Int32) (x5 : Int32) : Option (Int32 × (Nat → Int32) × Int32) :=
  (f_X8_hasRoom t_length).bind fun v1 => if v1 = 0 then some ((-1), t_bytes, t_length) else (f_X8_put fu t_bytes t_length x1).bind fun v3 => (f_X8_put fu v3.1 v3.2 x2).bind fun v4 => (f_X8_put fu v4.1 v4.2 x3).bind fun v5 => (f_X8_put fu v5.1 v5.2 x4).bind fun v6 => (f_X8_put fu v6.1 v6.2 x5).bind fun v7 => some (v7.2, v7.1, v7.2)
set_option maxRecDepth 100000 in
set_option maxHeartbeats 4000000 in
theorem t_X10_feed {fu : Nat}  (x1 : Int32) (x2 : Int32) (x3 : Int32) (x4 : Int32) (x5 : Int32) {r : Int32 × (Nat → Int32) × Int32} (hf : f_X10_feed fu t_bytes t_length x1 x2 x3 x4 x5 = some r) : Ci l G 2 0 0 yX10_feed cX10_feed 6 .int [.ref (gb G 0), .int x1, .int x2, .int x3, .int x4, .int x5] (WB G p_female p_born p_toldDeath p_lastYear p_father p_mother p_fatherGrade p_motherGrade p_size g_holder g_arms g_from g_size r_marks r_arms r_root r_steps r_grade r_marksAboveOne q_rows q_sizes t_bytes t_length s_tokens s_starts s_size a_code a_codeSize a_at a_token a_fault a_place o_texts o_names o_operands o_size o_open o_refuses o_differs o_fees c_years c_rows c_size x_faultPlace ++ fr) r.1 (WB G p_female p_born p_toldDeath p_lastYear p_father p_mother p_fatherGrade p_motherGrade p_size g_holder g_arms g_from g_size r_marks r_arms r_root r_steps r_grade r_marksAboveOne q_rows q_sizes r.2.1 r.2.2 s_tokens s_starts s_size a_code a_codeSize a_at a_token a_fault a_place o_texts o_names o_operands o_size o_open o_refuses o_differs o_fees c_years c_rows c_size x_faultPlace ++ fr) := by
  refine Ci.of (by decide) (Nat.le_of_ble_eq_true rfl) (fun Y hX hQ => ?_)
  refine j_lv (lv' := [(0, .ref (gb G 0)), (1, .int x1), (2, .int x2), (3, .int x3), (4, .int x4), (5, .int x5)]) rfl ?_
  unfold f_X10_feed at hf
  refine j_aload_n hX dX10_feed_0 1 rfl 0 rfl rfl ?_
  refine j_get hX dX10_feed_1 4 rfl fg_X10_40 0 rfl rfl ?_
  obtain ⟨v1, hv1, hf⟩ := ibd hf
  refine z_i (As := []) (rest := []) (q0 := 19) hX dX10_feed_4 7 rfl (t_X8_hasRoom  hv1) mc_X8_hasRoom mv_X8_hasRoom ml_X10_94 rfl rfl (Nat.le_of_ble_eq_true rfl) (Nat.le_refl _) (Nat.le_refl _) rfl (Nat.le_of_ble_eq_true rfl) ?_
  refine j_if_ne hX dX10_feed_7 10 12 rfl rfl (fun h2 => ?_) (fun h2 => ?_)
  · replace hf := itf h2 hf
    refine j_aload_n hX dX10_feed_12 13 rfl 0 rfl rfl ?_
    refine j_get hX dX10_feed_13 16 rfl fg_X10_40 0 rfl rfl ?_
    refine j_iload_n hX dX10_feed_16 17 rfl 1 rfl rfl ?_
    obtain ⟨v3, hv3, hf⟩ := ibd hf
    refine z_v (As := [.int x1]) (rest := []) (q0 := 19) hX dX10_feed_17 20 rfl (t_X8_put x1 hv3) mc_X8_put mv_X8_put ml_X10_98 rfl rfl (Nat.le_of_ble_eq_true rfl) (Nat.le_refl _) (Nat.le_refl _) rfl (Nat.le_of_ble_eq_true rfl) ?_
    refine j_aload_n hX dX10_feed_20 21 rfl 0 rfl rfl ?_
    refine j_get hX dX10_feed_21 24 rfl fg_X10_40 0 rfl rfl ?_
    refine j_iload_n hX dX10_feed_24 25 rfl 2 rfl rfl ?_
    obtain ⟨v4, hv4, hf⟩ := ibd hf
    refine z_v (As := [.int x2]) (rest := []) (q0 := 19) hX dX10_feed_25 28 rfl (t_X8_put x2 hv4) mc_X8_put mv_X8_put ml_X10_98 rfl rfl (Nat.le_of_ble_eq_true rfl) (Nat.le_refl _) (Nat.le_refl _) rfl (Nat.le_of_ble_eq_true rfl) ?_
    refine j_aload_n hX dX10_feed_28 29 rfl 0 rfl rfl ?_
    refine j_get hX dX10_feed_29 32 rfl fg_X10_40 0 rfl rfl ?_
    refine j_iload_n hX dX10_feed_32 33 rfl 3 rfl rfl ?_
    obtain ⟨v5, hv5, hf⟩ := ibd hf
    refine z_v (As := [.int x3]) (rest := []) (q0 := 19) hX dX10_feed_33 36 rfl (t_X8_put x3 hv5) mc_X8_put mv_X8_put ml_X10_98 rfl rfl (Nat.le_of_ble_eq_true rfl) (Nat.le_refl _) (Nat.le_refl _) rfl (Nat.le_of_ble_eq_true rfl) ?_
    refine j_aload_n hX dX10_feed_36 37 rfl 0 rfl rfl ?_
    refine j_get hX dX10_feed_37 40 rfl fg_X10_40 0 rfl rfl ?_
    refine j_iload hX dX10_feed_40 42 rfl 4 rfl ?_
    obtain ⟨v6, hv6, hf⟩ := ibd hf
    refine z_v (As := [.int x4]) (rest := []) (q0 := 19) hX dX10_feed_42 45 rfl (t_X8_put x4 hv6) mc_X8_put mv_X8_put ml_X10_98 rfl rfl (Nat.le_of_ble_eq_true rfl) (Nat.le_refl _) (Nat.le_refl _) rfl (Nat.le_of_ble_eq_true rfl) ?_
    refine j_aload_n hX dX10_feed_45 46 rfl 0 rfl rfl ?_
    refine j_get hX dX10_feed_46 49 rfl fg_X10_40 0 rfl rfl ?_
    refine j_iload hX dX10_feed_49 51 rfl 5 rfl ?_
    obtain ⟨v7, hv7, hf⟩ := ibd hf
    refine z_v (As := [.int x5]) (rest := []) (q0 := 19) hX dX10_feed_51 54 rfl (t_X8_put x5 hv7) mc_X8_put mv_X8_put ml_X10_98 rfl rfl (Nat.le_of_ble_eq_true rfl) (Nat.le_refl _) (Nat.le_refl _) rfl (Nat.le_of_ble_eq_true rfl) ?_
    refine j_aload_n hX dX10_feed_54 55 rfl 0 rfl rfl ?_
    refine j_get hX dX10_feed_55 58 rfl fg_X10_40 0 rfl rfl ?_
    refine j_getN hX dX10_feed_58 61 rfl fn_X10_101 19 rfl rfl ?_
    replace hf := Option.some.inj hf
    subst hf
    exact j_iret hX hQ dX10_feed_61
  · replace hf := itt h2 hf
    refine j_iconst (v := (-1)) hX dX10_feed_10 11 rfl (by decide) ?_
    replace hf := Option.some.inj hf
    subst hf
    exact j_iret hX hQ dX10_feed_11
def f_X10_fault (x_faultPlace : Int32) : Option (Int32) :=
  some x_faultPlace
set_option maxRecDepth 100000 in
set_option maxHeartbeats 4000000 in
theorem t_X10_fault   {r : Int32} (hf : f_X10_fault x_faultPlace = some r) : Ci l G 1 0 0 yX10_fault cX10_fault 1 .int [.ref (gb G 0)] (WB G p_female p_born p_toldDeath p_lastYear p_father p_mother p_fatherGrade p_motherGrade p_size g_holder g_arms g_from g_size r_marks r_arms r_root r_steps r_grade r_marksAboveOne q_rows q_sizes t_bytes t_length s_tokens s_starts s_size a_code a_codeSize a_at a_token a_fault a_place o_texts o_names o_operands o_size o_open o_refuses o_differs o_fees c_years c_rows c_size x_faultPlace ++ fr) r (WB G p_female p_born p_toldDeath p_lastYear p_father p_mother p_fatherGrade p_motherGrade p_size g_holder g_arms g_from g_size r_marks r_arms r_root r_steps r_grade r_marksAboveOne q_rows q_sizes t_bytes t_length s_tokens s_starts s_size a_code a_codeSize a_at a_token a_fault a_place o_texts o_names o_operands o_size o_open o_refuses o_differs o_fees c_years c_rows c_size x_faultPlace ++ fr) := by
  refine Ci.of (by decide) (Nat.le_of_ble_eq_true rfl) (fun Y hX hQ => ?_)
  refine j_lv (lv' := [(0, .ref (gb G 0))]) rfl ?_
  unfold f_X10_fault at hf
  refine j_aload_n hX dX10_fault_0 1 rfl 0 rfl rfl ?_
  refine j_get hX dX10_fault_1 4 rfl fg_X10_65 0 rfl rfl ?_
  replace hf := Option.some.inj hf
  subst hf
  exact j_iret hX hQ dX10_fault_4
def f_X10_about_x (p_size : Int32) (x1 : Int32) (x2 : Int32) : Option (Unit) :=
  orx (f_X10_requirePerson_x p_size x1) (fun _ => some ()) ((f_X10_requirePerson p_size x1).bind fun v2 => if x2 = 0 then none else if x2 = 1 then none else if x2 = 2 then none else if x2 = 3 then none else if x2 = 4 then none else if x2 = 5 then none else if x2 = 6 then none else if x2 = 7 then none else some ())
set_option maxRecDepth 100000 in
set_option maxHeartbeats 4000000 in
theorem t_X10_about_x  (x1 : Int32) (x2 : Int32) {r : Unit} (hf : f_X10_about_x p_size x1 x2 = some r) : Xt l G 8 1 6 yX10_about cX10_about 3 (some .int) [.ref (gb G 0), .int x1, .int x2] (WB G p_female p_born p_toldDeath p_lastYear p_father p_mother p_fatherGrade p_motherGrade p_size g_holder g_arms g_from g_size r_marks r_arms r_root r_steps r_grade r_marksAboveOne q_rows q_sizes t_bytes t_length s_tokens s_starts s_size a_code a_codeSize a_at a_token a_fault a_place o_texts o_names o_operands o_size o_open o_refuses o_differs o_fees c_years c_rows c_size x_faultPlace ++ fr) (WB G p_female p_born p_toldDeath p_lastYear p_father p_mother p_fatherGrade p_motherGrade p_size g_holder g_arms g_from g_size r_marks r_arms r_root r_steps r_grade r_marksAboveOne q_rows q_sizes t_bytes t_length s_tokens s_starts s_size a_code a_codeSize a_at a_token a_fault a_place o_texts o_names o_operands o_size o_open o_refuses o_differs o_fees c_years c_rows c_size x_faultPlace ++ fr) xNS := by
  refine Xt.of (by decide) (Nat.le_of_ble_eq_true rfl) (fun Y hX hQ => ?_)
  refine j_lv (lv' := [(0, .ref (gb G 0)), (1, .int x1), (2, .int x2)]) rfl ?_
  unfold f_X10_about_x at hf
  refine j_aload_n hX dX10_about_0 1 rfl 0 rfl rfl ?_
  refine j_iload_n hX dX10_about_1 2 rfl 1 rfl rfl ?_
  rcases orx_c hf with ⟨v1, hv1, hf⟩ | hf
  · replace hf := Option.some.inj hf
    subst hf
    exact jx_prop (As := [.int x1]) (rest := []) (q0 := 0) hX hQ dX10_about_2 (t_X10_requirePerson_x x1 hv1) mc_X10_requirePerson mv_X10_requirePerson ml_X10_73 rfl rfl (Nat.le_of_ble_eq_true rfl) rfl (Nat.le_of_ble_eq_true rfl)
  obtain ⟨v2, hv2, hf⟩ := ibd hf
  refine z_v (As := [.int x1]) (rest := []) (q0 := 0) hX dX10_about_2 5 rfl (t_X10_requirePerson x1 hv2) mc_X10_requirePerson mv_X10_requirePerson ml_X10_73 rfl rfl (Nat.le_of_ble_eq_true rfl) (Nat.zero_le _) (Nat.zero_le _) rfl (Nat.le_of_ble_eq_true rfl) ?_
  refine j_iload_n hX dX10_about_5 6 rfl 2 rfl rfl ?_
  by_cases h3 : x2 = 0
  · replace hf := itt h3 hf
    refine j_tab hX dX10_about_6 (by decide) 52 (by rw [h3]; rfl) ?_
    exact (Option.some_ne_none _ hf.symm).elim
  replace hf := itf h3 hf
  by_cases h4 : x2 = 1
  · replace hf := itt h4 hf
    refine j_tab hX dX10_about_6 (by decide) 61 (by rw [h4]; rfl) ?_
    exact (Option.some_ne_none _ hf.symm).elim
  replace hf := itf h4 hf
  by_cases h5 : x2 = 2
  · replace hf := itt h5 hf
    refine j_tab hX dX10_about_6 (by decide) 70 (by rw [h5]; rfl) ?_
    exact (Option.some_ne_none _ hf.symm).elim
  replace hf := itf h5 hf
  by_cases h6 : x2 = 3
  · replace hf := itt h6 hf
    refine j_tab hX dX10_about_6 (by decide) 79 (by rw [h6]; rfl) ?_
    exact (Option.some_ne_none _ hf.symm).elim
  replace hf := itf h6 hf
  by_cases h7 : x2 = 4
  · replace hf := itt h7 hf
    refine j_tab hX dX10_about_6 (by decide) 88 (by rw [h7]; rfl) ?_
    exact (Option.some_ne_none _ hf.symm).elim
  replace hf := itf h7 hf
  by_cases h8 : x2 = 5
  · replace hf := itt h8 hf
    refine j_tab hX dX10_about_6 (by decide) 97 (by rw [h8]; rfl) ?_
    exact (Option.some_ne_none _ hf.symm).elim
  replace hf := itf h8 hf
  by_cases h9 : x2 = 6
  · replace hf := itt h9 hf
    refine j_tab hX dX10_about_6 (by decide) 106 (by rw [h9]; rfl) ?_
    exact (Option.some_ne_none _ hf.symm).elim
  replace hf := itf h9 hf
  by_cases h10 : x2 = 7
  · replace hf := itt h10 hf
    refine j_tab hX dX10_about_6 (by decide) 118 (by rw [h10]; rfl) ?_
    exact (Option.some_ne_none _ hf.symm).elim
  replace hf := itf h10 hf
  replace h3 := ne_ti (m := 0) h3 rfl
  replace h4 := ne_ti (m := 1) h4 rfl
  replace h5 := ne_ti (m := 2) h5 rfl
  replace h6 := ne_ti (m := 3) h6 rfl
  replace h7 := ne_ti (m := 4) h7 rfl
  replace h8 := ne_ti (m := 5) h8 rfl
  replace h9 := ne_ti (m := 6) h9 rfl
  replace h10 := ne_ti (m := 7) h10 rfl
  refine j_tab hX dX10_about_6 (by decide) 127 (by unfold tsel; rw [if_pos (by omega)]; rfl) ?_
  replace hf := Option.some.inj hf
  subst hf
  exact jx_throw (tx := "nothing of that number is told of people") (si := 17) hX hQ th_NS (by decide +kernel) dX10_about_127 dX10_about_130 dX10_about_131 dX10_about_133 dX10_about_136 (by decide) (Nat.le_of_ble_eq_true rfl)
def f_X10_about (fu : Nat) (p_female : Nat → Int32) (p_born : Nat → Int32) (p_toldDeath : Nat → Int32) (p_father : Nat → Int32) (p_mother : Nat → Int32) (p_fatherGrade : Nat → Int32) (p_motherGrade : Nat → Int32) (p_size : Int32) (x1 : Int32) (x2 : Int32) : Option (Int32) :=
  (f_X10_requirePerson p_size x1).bind fun v1 => if x2 = 0 then (f_X4_bornOf p_born p_size x1).bind fun v3 => some v3 else if x2 = 1 then (f_X4_toldDeathOf p_toldDeath p_size x1).bind fun v5 => some v5 else if x2 = 2 then (f_X4_fatherOf p_father p_size x1).bind fun v7 => some v7 else if x2 = 3 then (f_X4_motherOf p_mother p_size x1).bind fun v9 => some v9 else if x2 = 4 then (f_X4_fatherGradeOf p_fatherGrade p_size x1).bind fun v11 => some v11 else if x2 = 5 then (f_X4_motherGradeOf p_motherGrade p_size x1).bind fun v13 => some v13 else if x2 = 6 then (f_X4_isFemale p_female p_size x1).bind fun v15 => (f_X10_asInt v15).bind fun v16 => some v16 else if x2 = 7 then (f_X4_childrenOf fu p_father p_mother p_size x1).bind fun v18 => some v18 else none
set_option maxRecDepth 100000 in
set_option maxHeartbeats 4000000 in
theorem t_X10_about {fu : Nat}  (x1 : Int32) (x2 : Int32) {r : Int32} (hf : f_X10_about fu p_female p_born p_toldDeath p_father p_mother p_fatherGrade p_motherGrade p_size x1 x2 = some r) : Ci l G 8 0 0 yX10_about cX10_about 3 .int [.ref (gb G 0), .int x1, .int x2] (WB G p_female p_born p_toldDeath p_lastYear p_father p_mother p_fatherGrade p_motherGrade p_size g_holder g_arms g_from g_size r_marks r_arms r_root r_steps r_grade r_marksAboveOne q_rows q_sizes t_bytes t_length s_tokens s_starts s_size a_code a_codeSize a_at a_token a_fault a_place o_texts o_names o_operands o_size o_open o_refuses o_differs o_fees c_years c_rows c_size x_faultPlace ++ fr) r (WB G p_female p_born p_toldDeath p_lastYear p_father p_mother p_fatherGrade p_motherGrade p_size g_holder g_arms g_from g_size r_marks r_arms r_root r_steps r_grade r_marksAboveOne q_rows q_sizes t_bytes t_length s_tokens s_starts s_size a_code a_codeSize a_at a_token a_fault a_place o_texts o_names o_operands o_size o_open o_refuses o_differs o_fees c_years c_rows c_size x_faultPlace ++ fr) := by
  refine Ci.of (by decide) (Nat.le_of_ble_eq_true rfl) (fun Y hX hQ => ?_)
  refine j_lv (lv' := [(0, .ref (gb G 0)), (1, .int x1), (2, .int x2)]) rfl ?_
  unfold f_X10_about at hf
  refine j_aload_n hX dX10_about_0 1 rfl 0 rfl rfl ?_
  refine j_iload_n hX dX10_about_1 2 rfl 1 rfl rfl ?_
  obtain ⟨v1, hv1, hf⟩ := ibd hf
  refine z_v (As := [.int x1]) (rest := []) (q0 := 0) hX dX10_about_2 5 rfl (t_X10_requirePerson x1 hv1) mc_X10_requirePerson mv_X10_requirePerson ml_X10_73 rfl rfl (Nat.le_of_ble_eq_true rfl) (Nat.le_refl _) (Nat.le_refl _) rfl (Nat.le_of_ble_eq_true rfl) ?_
  refine j_iload_n hX dX10_about_5 6 rfl 2 rfl rfl ?_
  by_cases h2 : x2 = 0
  · replace hf := itt h2 hf
    refine j_tab hX dX10_about_6 (by decide) 52 (by rw [h2]; rfl) ?_
    refine j_aload_n hX dX10_about_52 53 rfl 0 rfl rfl ?_
    refine j_get hX dX10_about_53 56 rfl fg_X10_10 0 rfl rfl ?_
    refine j_iload_n hX dX10_about_56 57 rfl 1 rfl rfl ?_
    obtain ⟨v3, hv3, hf⟩ := ibd hf
    refine z_i (As := [.int x1]) (rest := []) (q0 := 1) hX dX10_about_57 60 rfl (t_X4_bornOf x1 hv3) mc_X4_bornOf mv_X4_bornOf ml_X10_137 rfl rfl (Nat.le_of_ble_eq_true rfl) (Nat.le_refl _) (Nat.le_refl _) rfl (Nat.le_of_ble_eq_true rfl) ?_
    replace hf := Option.some.inj hf
    subst hf
    exact j_iret hX hQ dX10_about_60
  replace hf := itf h2 hf
  by_cases h4 : x2 = 1
  · replace hf := itt h4 hf
    refine j_tab hX dX10_about_6 (by decide) 61 (by rw [h4]; rfl) ?_
    refine j_aload_n hX dX10_about_61 62 rfl 0 rfl rfl ?_
    refine j_get hX dX10_about_62 65 rfl fg_X10_10 0 rfl rfl ?_
    refine j_iload_n hX dX10_about_65 66 rfl 1 rfl rfl ?_
    obtain ⟨v5, hv5, hf⟩ := ibd hf
    refine z_i (As := [.int x1]) (rest := []) (q0 := 1) hX dX10_about_66 69 rfl (t_X4_toldDeathOf x1 hv5) mc_X4_toldDeathOf mv_X4_toldDeathOf ml_X10_141 rfl rfl (Nat.le_of_ble_eq_true rfl) (Nat.le_refl _) (Nat.le_refl _) rfl (Nat.le_of_ble_eq_true rfl) ?_
    replace hf := Option.some.inj hf
    subst hf
    exact j_iret hX hQ dX10_about_69
  replace hf := itf h4 hf
  by_cases h6 : x2 = 2
  · replace hf := itt h6 hf
    refine j_tab hX dX10_about_6 (by decide) 70 (by rw [h6]; rfl) ?_
    refine j_aload_n hX dX10_about_70 71 rfl 0 rfl rfl ?_
    refine j_get hX dX10_about_71 74 rfl fg_X10_10 0 rfl rfl ?_
    refine j_iload_n hX dX10_about_74 75 rfl 1 rfl rfl ?_
    obtain ⟨v7, hv7, hf⟩ := ibd hf
    refine z_i (As := [.int x1]) (rest := []) (q0 := 1) hX dX10_about_75 78 rfl (t_X4_fatherOf x1 hv7) mc_X4_fatherOf mv_X4_fatherOf ml_X10_144 rfl rfl (Nat.le_of_ble_eq_true rfl) (Nat.le_refl _) (Nat.le_refl _) rfl (Nat.le_of_ble_eq_true rfl) ?_
    replace hf := Option.some.inj hf
    subst hf
    exact j_iret hX hQ dX10_about_78
  replace hf := itf h6 hf
  by_cases h8 : x2 = 3
  · replace hf := itt h8 hf
    refine j_tab hX dX10_about_6 (by decide) 79 (by rw [h8]; rfl) ?_
    refine j_aload_n hX dX10_about_79 80 rfl 0 rfl rfl ?_
    refine j_get hX dX10_about_80 83 rfl fg_X10_10 0 rfl rfl ?_
    refine j_iload_n hX dX10_about_83 84 rfl 1 rfl rfl ?_
    obtain ⟨v9, hv9, hf⟩ := ibd hf
    refine z_i (As := [.int x1]) (rest := []) (q0 := 1) hX dX10_about_84 87 rfl (t_X4_motherOf x1 hv9) mc_X4_motherOf mv_X4_motherOf ml_X10_147 rfl rfl (Nat.le_of_ble_eq_true rfl) (Nat.le_refl _) (Nat.le_refl _) rfl (Nat.le_of_ble_eq_true rfl) ?_
    replace hf := Option.some.inj hf
    subst hf
    exact j_iret hX hQ dX10_about_87
  replace hf := itf h8 hf
  by_cases h10 : x2 = 4
  · replace hf := itt h10 hf
    refine j_tab hX dX10_about_6 (by decide) 88 (by rw [h10]; rfl) ?_
    refine j_aload_n hX dX10_about_88 89 rfl 0 rfl rfl ?_
    refine j_get hX dX10_about_89 92 rfl fg_X10_10 0 rfl rfl ?_
    refine j_iload_n hX dX10_about_92 93 rfl 1 rfl rfl ?_
    obtain ⟨v11, hv11, hf⟩ := ibd hf
    refine z_i (As := [.int x1]) (rest := []) (q0 := 1) hX dX10_about_93 96 rfl (t_X4_fatherGradeOf x1 hv11) mc_X4_fatherGradeOf mv_X4_fatherGradeOf ml_X10_150 rfl rfl (Nat.le_of_ble_eq_true rfl) (Nat.le_refl _) (Nat.le_refl _) rfl (Nat.le_of_ble_eq_true rfl) ?_
    replace hf := Option.some.inj hf
    subst hf
    exact j_iret hX hQ dX10_about_96
  replace hf := itf h10 hf
  by_cases h12 : x2 = 5
  · replace hf := itt h12 hf
    refine j_tab hX dX10_about_6 (by decide) 97 (by rw [h12]; rfl) ?_
    refine j_aload_n hX dX10_about_97 98 rfl 0 rfl rfl ?_
    refine j_get hX dX10_about_98 101 rfl fg_X10_10 0 rfl rfl ?_
    refine j_iload_n hX dX10_about_101 102 rfl 1 rfl rfl ?_
    obtain ⟨v13, hv13, hf⟩ := ibd hf
    refine z_i (As := [.int x1]) (rest := []) (q0 := 1) hX dX10_about_102 105 rfl (t_X4_motherGradeOf x1 hv13) mc_X4_motherGradeOf mv_X4_motherGradeOf ml_X10_153 rfl rfl (Nat.le_of_ble_eq_true rfl) (Nat.le_refl _) (Nat.le_refl _) rfl (Nat.le_of_ble_eq_true rfl) ?_
    replace hf := Option.some.inj hf
    subst hf
    exact j_iret hX hQ dX10_about_105
  replace hf := itf h12 hf
  by_cases h14 : x2 = 6
  · replace hf := itt h14 hf
    refine j_tab hX dX10_about_6 (by decide) 106 (by rw [h14]; rfl) ?_
    refine j_aload_n hX dX10_about_106 107 rfl 0 rfl rfl ?_
    refine j_get hX dX10_about_107 110 rfl fg_X10_10 0 rfl rfl ?_
    refine j_iload_n hX dX10_about_110 111 rfl 1 rfl rfl ?_
    obtain ⟨v15, hv15, hf⟩ := ibd hf
    refine z_i (As := [.int x1]) (rest := []) (q0 := 1) hX dX10_about_111 114 rfl (t_X4_isFemale x1 hv15) mc_X4_isFemale mv_X4_isFemale ml_X10_156 rfl rfl (Nat.le_of_ble_eq_true rfl) (Nat.le_refl _) (Nat.le_refl _) rfl (Nat.le_of_ble_eq_true rfl) ?_
    obtain ⟨v16, hv16, hf⟩ := ibd hf
    refine z_si (As := [.int v15]) (rest := []) hX dX10_about_114 117 rfl (t_X10_asInt v15 hv16) mc_X10_asInt ms_X10_asInt ml_X10_159 (Nat.le_of_ble_eq_true rfl) (Nat.le_refl _) (Nat.le_refl _) rfl (Nat.le_of_ble_eq_true rfl) ?_
    replace hf := Option.some.inj hf
    subst hf
    exact j_iret hX hQ dX10_about_117
  replace hf := itf h14 hf
  by_cases h17 : x2 = 7
  · replace hf := itt h17 hf
    refine j_tab hX dX10_about_6 (by decide) 118 (by rw [h17]; rfl) ?_
    refine j_aload_n hX dX10_about_118 119 rfl 0 rfl rfl ?_
    refine j_get hX dX10_about_119 122 rfl fg_X10_10 0 rfl rfl ?_
    refine j_iload_n hX dX10_about_122 123 rfl 1 rfl rfl ?_
    obtain ⟨v18, hv18, hf⟩ := ibd hf
    refine z_i (As := [.int x1]) (rest := []) (q0 := 1) hX dX10_about_123 126 rfl (t_X4_childrenOf x1 hv18) mc_X4_childrenOf mv_X4_childrenOf ml_X10_163 rfl rfl (Nat.le_of_ble_eq_true rfl) (Nat.le_refl _) (Nat.le_refl _) rfl (Nat.le_of_ble_eq_true rfl) ?_
    replace hf := Option.some.inj hf
    subst hf
    exact j_iret hX hQ dX10_about_126
  replace hf := itf h17 hf
  replace h2 := ne_ti (m := 0) h2 rfl
  replace h4 := ne_ti (m := 1) h4 rfl
  replace h6 := ne_ti (m := 2) h6 rfl
  replace h8 := ne_ti (m := 3) h8 rfl
  replace h10 := ne_ti (m := 4) h10 rfl
  replace h12 := ne_ti (m := 5) h12 rfl
  replace h14 := ne_ti (m := 6) h14 rfl
  replace h17 := ne_ti (m := 7) h17 rfl
  refine j_tab hX dX10_about_6 (by decide) 127 (by unfold tsel; rw [if_pos (by omega)]; rfl) ?_
  exact (Option.some_ne_none _ hf.symm).elim
def f_X10_bears_x (fu : Nat) (p_female : Nat → Int32) (p_born : Nat → Int32) (p_lastYear : Nat → Int32) (p_father : Nat → Int32) (p_fatherGrade : Nat → Int32) (p_size : Int32) (g_holder : Nat → Int32) (g_arms : Nat → Int32) (g_from : Nat → Int32) (g_size : Int32) (r_marks : Nat → Int32) (r_arms : Int32) (r_root : Int32) (r_steps : Int32) (r_grade : Int32) (r_marksAboveOne : Int32) (x1 : Int32) (x2 : Int32) (x3 : Int32) : Option ((Nat → Int32) × Int32 × Int32 × Int32 × Int32 × Int32) :=
  orx (f_X10_requirePerson_x p_size x1) (fun _ => some (r_marks, r_arms, r_root, r_steps, r_grade, r_marksAboveOne)) ((f_X10_requirePerson p_size x1).bind fun v2 => (f_X5_find fu p_female p_born p_lastYear p_father p_fatherGrade p_size g_holder g_arms g_from g_size r_marks x1 x2).bind fun v3 => if x3 = 0 then none else if x3 = 1 then none else if x3 = 2 then none else if x3 = 3 then none else if x3 = 4 then none else if x3 = 5 then none else if x3 = 6 then none else if x3 = 7 then none else some (v3.1, v3.2.1, v3.2.2.1, v3.2.2.2.1, v3.2.2.2.2.1, v3.2.2.2.2.2))
set_option maxRecDepth 100000 in
set_option maxHeartbeats 4000000 in
theorem t_X10_bears_x {fu : Nat}  (x1 : Int32) (x2 : Int32) (x3 : Int32) {r : (Nat → Int32) × Int32 × Int32 × Int32 × Int32 × Int32} (hf : f_X10_bears_x fu p_female p_born p_lastYear p_father p_fatherGrade p_size g_holder g_arms g_from g_size r_marks r_arms r_root r_steps r_grade r_marksAboveOne x1 x2 x3 = some r) : Xt l G 8 1 6 yX10_bears cX10_bears 4 (some .int) [.ref (gb G 0), .int x1, .int x2, .int x3] (WB G p_female p_born p_toldDeath p_lastYear p_father p_mother p_fatherGrade p_motherGrade p_size g_holder g_arms g_from g_size r_marks r_arms r_root r_steps r_grade r_marksAboveOne q_rows q_sizes t_bytes t_length s_tokens s_starts s_size a_code a_codeSize a_at a_token a_fault a_place o_texts o_names o_operands o_size o_open o_refuses o_differs o_fees c_years c_rows c_size x_faultPlace ++ fr) (WB G p_female p_born p_toldDeath p_lastYear p_father p_mother p_fatherGrade p_motherGrade p_size g_holder g_arms g_from g_size r.1 r.2.1 r.2.2.1 r.2.2.2.1 r.2.2.2.2.1 r.2.2.2.2.2 q_rows q_sizes t_bytes t_length s_tokens s_starts s_size a_code a_codeSize a_at a_token a_fault a_place o_texts o_names o_operands o_size o_open o_refuses o_differs o_fees c_years c_rows c_size x_faultPlace ++ fr) xNS := by
  refine Xt.of (by decide) (Nat.le_of_ble_eq_true rfl) (fun Y hX hQ => ?_)
  refine j_lv (lv' := [(0, .ref (gb G 0)), (1, .int x1), (2, .int x2), (3, .int x3)]) rfl ?_
  unfold f_X10_bears_x at hf
  refine j_aload_n hX dX10_bears_0 1 rfl 0 rfl rfl ?_
  refine j_iload_n hX dX10_bears_1 2 rfl 1 rfl rfl ?_
  rcases orx_c hf with ⟨v1, hv1, hf⟩ | hf
  · replace hf := Option.some.inj hf
    subst hf
    exact jx_prop (As := [.int x1]) (rest := []) (q0 := 0) hX hQ dX10_bears_2 (t_X10_requirePerson_x x1 hv1) mc_X10_requirePerson mv_X10_requirePerson ml_X10_73 rfl rfl (Nat.le_of_ble_eq_true rfl) rfl (Nat.le_of_ble_eq_true rfl)
  obtain ⟨v2, hv2, hf⟩ := ibd hf
  refine z_v (As := [.int x1]) (rest := []) (q0 := 0) hX dX10_bears_2 5 rfl (t_X10_requirePerson x1 hv2) mc_X10_requirePerson mv_X10_requirePerson ml_X10_73 rfl rfl (Nat.le_of_ble_eq_true rfl) (Nat.zero_le _) (Nat.zero_le _) rfl (Nat.le_of_ble_eq_true rfl) ?_
  refine j_aload_n hX dX10_bears_5 6 rfl 0 rfl rfl ?_
  refine j_get hX dX10_bears_6 9 rfl fg_X10_26 0 rfl rfl ?_
  refine j_aload_n hX dX10_bears_9 10 rfl 0 rfl rfl ?_
  refine j_get hX dX10_bears_10 13 rfl fg_X10_10 0 rfl rfl ?_
  refine j_aload_n hX dX10_bears_13 14 rfl 0 rfl rfl ?_
  refine j_get hX dX10_bears_14 17 rfl fg_X10_19 0 rfl rfl ?_
  refine j_iload_n hX dX10_bears_17 18 rfl 1 rfl rfl ?_
  refine j_iload_n hX dX10_bears_18 19 rfl 2 rfl rfl ?_
  obtain ⟨v3, hv3, hf⟩ := ibd hf
  refine z_v (As := [.ref (gb G 1), .ref (gb G 10), .int x1, .int x2]) (rest := []) (q0 := 14) hX dX10_bears_19 22 rfl (t_X5_find x1 x2 hv3) mc_X5_find mv_X5_find ml_X10_168 rfl rfl (Nat.le_of_ble_eq_true rfl) (Nat.zero_le _) (Nat.zero_le _) rfl (Nat.le_of_ble_eq_true rfl) ?_
  refine j_iload_n hX dX10_bears_22 23 rfl 3 rfl rfl ?_
  by_cases h4 : x3 = 0
  · replace hf := itt h4 hf
    refine j_tab hX dX10_bears_23 (by decide) 68 (by rw [h4]; rfl) ?_
    exact (Option.some_ne_none _ hf.symm).elim
  replace hf := itf h4 hf
  by_cases h5 : x3 = 1
  · replace hf := itt h5 hf
    refine j_tab hX dX10_bears_23 (by decide) 76 (by rw [h5]; rfl) ?_
    exact (Option.some_ne_none _ hf.symm).elim
  replace hf := itf h5 hf
  by_cases h6 : x3 = 2
  · replace hf := itt h6 hf
    refine j_tab hX dX10_bears_23 (by decide) 84 (by rw [h6]; rfl) ?_
    exact (Option.some_ne_none _ hf.symm).elim
  replace hf := itf h6 hf
  by_cases h7 : x3 = 3
  · replace hf := itt h7 hf
    refine j_tab hX dX10_bears_23 (by decide) 92 (by rw [h7]; rfl) ?_
    exact (Option.some_ne_none _ hf.symm).elim
  replace hf := itf h7 hf
  by_cases h8 : x3 = 4
  · replace hf := itt h8 hf
    refine j_tab hX dX10_bears_23 (by decide) 100 (by rw [h8]; rfl) ?_
    exact (Option.some_ne_none _ hf.symm).elim
  replace hf := itf h8 hf
  by_cases h9 : x3 = 5
  · replace hf := itt h9 hf
    refine j_tab hX dX10_bears_23 (by decide) 113 (by rw [h9]; rfl) ?_
    exact (Option.some_ne_none _ hf.symm).elim
  replace hf := itf h9 hf
  by_cases h10 : x3 = 6
  · replace hf := itt h10 hf
    refine j_tab hX dX10_bears_23 (by decide) 129 (by rw [h10]; rfl) ?_
    exact (Option.some_ne_none _ hf.symm).elim
  replace hf := itf h10 hf
  by_cases h11 : x3 = 7
  · replace hf := itt h11 hf
    refine j_tab hX dX10_bears_23 (by decide) 150 (by rw [h11]; rfl) ?_
    exact (Option.some_ne_none _ hf.symm).elim
  replace hf := itf h11 hf
  replace h4 := ne_ti (m := 0) h4 rfl
  replace h5 := ne_ti (m := 1) h5 rfl
  replace h6 := ne_ti (m := 2) h6 rfl
  replace h7 := ne_ti (m := 3) h7 rfl
  replace h8 := ne_ti (m := 4) h8 rfl
  replace h9 := ne_ti (m := 5) h9 rfl
  replace h10 := ne_ti (m := 6) h10 rfl
  replace h11 := ne_ti (m := 7) h11 rfl
  refine j_tab hX dX10_bears_23 (by decide) 161 (by unfold tsel; rw [if_pos (by omega)]; rfl) ?_
  replace hf := Option.some.inj hf
  subst hf
  exact jx_throw (tx := "nothing of that number is told of bearers") (si := 18) hX hQ th_NS (by decide +kernel) dX10_bears_161 dX10_bears_164 dX10_bears_165 dX10_bears_167 dX10_bears_170 (by decide) (Nat.le_of_ble_eq_true rfl)
def f_X10_bears (fu : Nat) (p_female : Nat → Int32) (p_born : Nat → Int32) (p_lastYear : Nat → Int32) (p_father : Nat → Int32) (p_fatherGrade : Nat → Int32) (p_size : Int32) (g_holder : Nat → Int32) (g_arms : Nat → Int32) (g_from : Nat → Int32) (g_size : Int32) (r_marks : Nat → Int32) (x1 : Int32) (x2 : Int32) (x3 : Int32) : Option (Int32 × (Nat → Int32) × Int32 × Int32 × Int32 × Int32 × Int32) :=
  (f_X10_requirePerson p_size x1).bind fun v1 => (f_X5_find fu p_female p_born p_lastYear p_father p_fatherGrade p_size g_holder g_arms g_from g_size r_marks x1 x2).bind fun v2 => if x3 = 0 then some (v2.2.1, v2.1, v2.2.1, v2.2.2.1, v2.2.2.2.1, v2.2.2.2.2.1, v2.2.2.2.2.2) else if x3 = 1 then some (v2.2.2.1, v2.1, v2.2.1, v2.2.2.1, v2.2.2.2.1, v2.2.2.2.2.1, v2.2.2.2.2.2) else if x3 = 2 then some (v2.2.2.2.1, v2.1, v2.2.1, v2.2.2.1, v2.2.2.2.1, v2.2.2.2.2.1, v2.2.2.2.2.2) else if x3 = 3 then some (v2.2.2.2.2.1, v2.1, v2.2.1, v2.2.2.1, v2.2.2.2.1, v2.2.2.2.2.1, v2.2.2.2.2.2) else if x3 = 4 then (f_X4_isLiving p_born p_lastYear p_size x1 x2).bind fun v8 => (f_X10_asInt v8).bind fun v9 => some (v9, v2.1, v2.2.1, v2.2.2.1, v2.2.2.2.1, v2.2.2.2.2.1, v2.2.2.2.2.2) else if x3 = 5 then (f_X4_livingLines fu p_female p_born p_lastYear p_father p_size x2).bind fun v11 => (f_X4_isIn v11 x1).bind fun v12 => (f_X10_asInt v12).bind fun v13 => some (v13, v2.1, v2.2.1, v2.2.2.1, v2.2.2.2.1, v2.2.2.2.2.1, v2.2.2.2.2.2) else if x3 = 6 then (f_X4_livingLines fu p_female p_born p_lastYear p_father p_size x2).bind fun v15 => (f_X4_isHeiress fu p_female p_lastYear p_father p_size x1 x2 v15).bind fun v16 => (f_X10_asInt v16).bind fun v17 => some (v17, v2.1, v2.2.1, v2.2.2.1, v2.2.2.2.1, v2.2.2.2.2.1, v2.2.2.2.2.2) else if x3 = 7 then (f_X5_isPlain v2.2.1 v2.2.2.2.2.2).bind fun v19 => (f_X10_asInt v19).bind fun v20 => some (v20, v2.1, v2.2.1, v2.2.2.1, v2.2.2.2.1, v2.2.2.2.2.1, v2.2.2.2.2.2) else none
set_option maxRecDepth 100000 in
set_option maxHeartbeats 4000000 in
theorem t_X10_bears {fu : Nat}  (x1 : Int32) (x2 : Int32) (x3 : Int32) {r : Int32 × (Nat → Int32) × Int32 × Int32 × Int32 × Int32 × Int32} (hf : f_X10_bears fu p_female p_born p_lastYear p_father p_fatherGrade p_size g_holder g_arms g_from g_size r_marks x1 x2 x3 = some r) : Ci l G 8 0 0 yX10_bears cX10_bears 4 .int [.ref (gb G 0), .int x1, .int x2, .int x3] (WB G p_female p_born p_toldDeath p_lastYear p_father p_mother p_fatherGrade p_motherGrade p_size g_holder g_arms g_from g_size r_marks r_arms r_root r_steps r_grade r_marksAboveOne q_rows q_sizes t_bytes t_length s_tokens s_starts s_size a_code a_codeSize a_at a_token a_fault a_place o_texts o_names o_operands o_size o_open o_refuses o_differs o_fees c_years c_rows c_size x_faultPlace ++ fr) r.1 (WB G p_female p_born p_toldDeath p_lastYear p_father p_mother p_fatherGrade p_motherGrade p_size g_holder g_arms g_from g_size r.2.1 r.2.2.1 r.2.2.2.1 r.2.2.2.2.1 r.2.2.2.2.2.1 r.2.2.2.2.2.2 q_rows q_sizes t_bytes t_length s_tokens s_starts s_size a_code a_codeSize a_at a_token a_fault a_place o_texts o_names o_operands o_size o_open o_refuses o_differs o_fees c_years c_rows c_size x_faultPlace ++ fr) := by
  refine Ci.of (by decide) (Nat.le_of_ble_eq_true rfl) (fun Y hX hQ => ?_)
  refine j_lv (lv' := [(0, .ref (gb G 0)), (1, .int x1), (2, .int x2), (3, .int x3)]) rfl ?_
  unfold f_X10_bears at hf
  refine j_aload_n hX dX10_bears_0 1 rfl 0 rfl rfl ?_
  refine j_iload_n hX dX10_bears_1 2 rfl 1 rfl rfl ?_
  obtain ⟨v1, hv1, hf⟩ := ibd hf
  refine z_v (As := [.int x1]) (rest := []) (q0 := 0) hX dX10_bears_2 5 rfl (t_X10_requirePerson x1 hv1) mc_X10_requirePerson mv_X10_requirePerson ml_X10_73 rfl rfl (Nat.le_of_ble_eq_true rfl) (Nat.le_refl _) (Nat.le_refl _) rfl (Nat.le_of_ble_eq_true rfl) ?_
  refine j_aload_n hX dX10_bears_5 6 rfl 0 rfl rfl ?_
  refine j_get hX dX10_bears_6 9 rfl fg_X10_26 0 rfl rfl ?_
  refine j_aload_n hX dX10_bears_9 10 rfl 0 rfl rfl ?_
  refine j_get hX dX10_bears_10 13 rfl fg_X10_10 0 rfl rfl ?_
  refine j_aload_n hX dX10_bears_13 14 rfl 0 rfl rfl ?_
  refine j_get hX dX10_bears_14 17 rfl fg_X10_19 0 rfl rfl ?_
  refine j_iload_n hX dX10_bears_17 18 rfl 1 rfl rfl ?_
  refine j_iload_n hX dX10_bears_18 19 rfl 2 rfl rfl ?_
  obtain ⟨v2, hv2, hf⟩ := ibd hf
  refine z_v (As := [.ref (gb G 1), .ref (gb G 10), .int x1, .int x2]) (rest := []) (q0 := 14) hX dX10_bears_19 22 rfl (t_X5_find x1 x2 hv2) mc_X5_find mv_X5_find ml_X10_168 rfl rfl (Nat.le_of_ble_eq_true rfl) (Nat.le_refl _) (Nat.le_refl _) rfl (Nat.le_of_ble_eq_true rfl) ?_
  refine j_iload_n hX dX10_bears_22 23 rfl 3 rfl rfl ?_
  by_cases h3 : x3 = 0
  · replace hf := itt h3 hf
    refine j_tab hX dX10_bears_23 (by decide) 68 (by rw [h3]; rfl) ?_
    refine j_aload_n hX dX10_bears_68 69 rfl 0 rfl rfl ?_
    refine j_get hX dX10_bears_69 72 rfl fg_X10_26 0 rfl rfl ?_
    refine j_getN hX dX10_bears_72 75 rfl fn_X10_172 14 rfl rfl ?_
    replace hf := Option.some.inj hf
    subst hf
    exact j_iret hX hQ dX10_bears_75
  replace hf := itf h3 hf
  by_cases h4 : x3 = 1
  · replace hf := itt h4 hf
    refine j_tab hX dX10_bears_23 (by decide) 76 (by rw [h4]; rfl) ?_
    refine j_aload_n hX dX10_bears_76 77 rfl 0 rfl rfl ?_
    refine j_get hX dX10_bears_77 80 rfl fg_X10_26 0 rfl rfl ?_
    refine j_getN hX dX10_bears_80 83 rfl fn_X10_175 14 rfl rfl ?_
    replace hf := Option.some.inj hf
    subst hf
    exact j_iret hX hQ dX10_bears_83
  replace hf := itf h4 hf
  by_cases h5 : x3 = 2
  · replace hf := itt h5 hf
    refine j_tab hX dX10_bears_23 (by decide) 84 (by rw [h5]; rfl) ?_
    refine j_aload_n hX dX10_bears_84 85 rfl 0 rfl rfl ?_
    refine j_get hX dX10_bears_85 88 rfl fg_X10_26 0 rfl rfl ?_
    refine j_getN hX dX10_bears_88 91 rfl fn_X10_178 14 rfl rfl ?_
    replace hf := Option.some.inj hf
    subst hf
    exact j_iret hX hQ dX10_bears_91
  replace hf := itf h5 hf
  by_cases h6 : x3 = 3
  · replace hf := itt h6 hf
    refine j_tab hX dX10_bears_23 (by decide) 92 (by rw [h6]; rfl) ?_
    refine j_aload_n hX dX10_bears_92 93 rfl 0 rfl rfl ?_
    refine j_get hX dX10_bears_93 96 rfl fg_X10_26 0 rfl rfl ?_
    refine j_getN hX dX10_bears_96 99 rfl fn_X10_181 14 rfl rfl ?_
    replace hf := Option.some.inj hf
    subst hf
    exact j_iret hX hQ dX10_bears_99
  replace hf := itf h6 hf
  by_cases h7 : x3 = 4
  · replace hf := itt h7 hf
    refine j_tab hX dX10_bears_23 (by decide) 100 (by rw [h7]; rfl) ?_
    refine j_aload_n hX dX10_bears_100 101 rfl 0 rfl rfl ?_
    refine j_get hX dX10_bears_101 104 rfl fg_X10_10 0 rfl rfl ?_
    refine j_iload_n hX dX10_bears_104 105 rfl 1 rfl rfl ?_
    refine j_iload_n hX dX10_bears_105 106 rfl 2 rfl rfl ?_
    obtain ⟨v8, hv8, hf⟩ := ibd hf
    refine z_i (As := [.int x1, .int x2]) (rest := []) (q0 := 1) hX dX10_bears_106 109 rfl (t_X4_isLiving x1 x2 hv8) mc_X4_isLiving mv_X4_isLiving ml_X10_184 rfl rfl (Nat.le_of_ble_eq_true rfl) (Nat.le_refl _) (Nat.le_refl _) rfl (Nat.le_of_ble_eq_true rfl) ?_
    obtain ⟨v9, hv9, hf⟩ := ibd hf
    refine z_si (As := [.int v8]) (rest := []) hX dX10_bears_109 112 rfl (t_X10_asInt v8 hv9) mc_X10_asInt ms_X10_asInt ml_X10_159 (Nat.le_of_ble_eq_true rfl) (Nat.le_refl _) (Nat.le_refl _) rfl (Nat.le_of_ble_eq_true rfl) ?_
    replace hf := Option.some.inj hf
    subst hf
    exact j_iret hX hQ dX10_bears_112
  replace hf := itf h7 hf
  by_cases h10 : x3 = 5
  · replace hf := itt h10 hf
    refine j_tab hX dX10_bears_23 (by decide) 113 (by rw [h10]; rfl) ?_
    refine j_aload_n hX dX10_bears_113 114 rfl 0 rfl rfl ?_
    refine j_get hX dX10_bears_114 117 rfl fg_X10_10 0 rfl rfl ?_
    refine j_iload_n hX dX10_bears_117 118 rfl 2 rfl rfl ?_
    obtain ⟨v11, hv11, hf⟩ := ibd hf
    refine z_l (As := [.int x2]) (rest := []) (q0 := 1) hX dX10_bears_118 121 rfl (t_X4_livingLines x2 hv11) mc_X4_livingLines mv_X4_livingLines ml_X10_188 rfl rfl (Nat.le_of_ble_eq_true rfl) (Nat.le_refl _) (Nat.le_refl _) rfl (Nat.le_of_ble_eq_true rfl) ?_
    refine j_iload_n hX dX10_bears_121 122 rfl 1 rfl rfl ?_
    obtain ⟨v12, hv12, hf⟩ := ibd hf
    refine z_si (As := [.long v11, .int x1]) (rest := []) hX dX10_bears_122 125 rfl (t_X4_isIn v11 x1 hv12) mc_X4_isIn ms_X4_isIn ml_X10_192 (Nat.le_of_ble_eq_true rfl) (Nat.le_refl _) (Nat.le_refl _) rfl (Nat.le_of_ble_eq_true rfl) ?_
    obtain ⟨v13, hv13, hf⟩ := ibd hf
    refine z_si (As := [.int v12]) (rest := []) hX dX10_bears_125 128 rfl (t_X10_asInt v12 hv13) mc_X10_asInt ms_X10_asInt ml_X10_159 (Nat.le_of_ble_eq_true rfl) (Nat.le_refl _) (Nat.le_refl _) rfl (Nat.le_of_ble_eq_true rfl) ?_
    replace hf := Option.some.inj hf
    subst hf
    exact j_iret hX hQ dX10_bears_128
  replace hf := itf h10 hf
  by_cases h14 : x3 = 6
  · replace hf := itt h14 hf
    refine j_tab hX dX10_bears_23 (by decide) 129 (by rw [h14]; rfl) ?_
    refine j_aload_n hX dX10_bears_129 130 rfl 0 rfl rfl ?_
    refine j_get hX dX10_bears_130 133 rfl fg_X10_10 0 rfl rfl ?_
    refine j_iload_n hX dX10_bears_133 134 rfl 1 rfl rfl ?_
    refine j_iload_n hX dX10_bears_134 135 rfl 2 rfl rfl ?_
    refine j_aload_n hX dX10_bears_135 136 rfl 0 rfl rfl ?_
    refine j_get hX dX10_bears_136 139 rfl fg_X10_10 0 rfl rfl ?_
    refine j_iload_n hX dX10_bears_139 140 rfl 2 rfl rfl ?_
    obtain ⟨v15, hv15, hf⟩ := ibd hf
    refine z_l (As := [.int x2]) (rest := [.int x2, .int x1, .ref (gb G 1)]) (q0 := 1) hX dX10_bears_140 143 rfl (t_X4_livingLines x2 hv15) mc_X4_livingLines mv_X4_livingLines ml_X10_188 rfl rfl (Nat.le_of_ble_eq_true rfl) (Nat.le_refl _) (Nat.le_refl _) rfl (Nat.le_of_ble_eq_true rfl) ?_
    obtain ⟨v16, hv16, hf⟩ := ibd hf
    refine z_i (As := [.int x1, .int x2, .long v15]) (rest := []) (q0 := 1) hX dX10_bears_143 146 rfl (t_X4_isHeiress x1 x2 v15 hv16) mc_X4_isHeiress mv_X4_isHeiress ml_X10_196 rfl rfl (Nat.le_of_ble_eq_true rfl) (Nat.le_refl _) (Nat.le_refl _) rfl (Nat.le_of_ble_eq_true rfl) ?_
    obtain ⟨v17, hv17, hf⟩ := ibd hf
    refine z_si (As := [.int v16]) (rest := []) hX dX10_bears_146 149 rfl (t_X10_asInt v16 hv17) mc_X10_asInt ms_X10_asInt ml_X10_159 (Nat.le_of_ble_eq_true rfl) (Nat.le_refl _) (Nat.le_refl _) rfl (Nat.le_of_ble_eq_true rfl) ?_
    replace hf := Option.some.inj hf
    subst hf
    exact j_iret hX hQ dX10_bears_149
  replace hf := itf h14 hf
  by_cases h18 : x3 = 7
  · replace hf := itt h18 hf
    refine j_tab hX dX10_bears_23 (by decide) 150 (by rw [h18]; rfl) ?_
    refine j_aload_n hX dX10_bears_150 151 rfl 0 rfl rfl ?_
    refine j_get hX dX10_bears_151 154 rfl fg_X10_26 0 rfl rfl ?_
    obtain ⟨v19, hv19, hf⟩ := ibd hf
    refine z_i (As := []) (rest := []) (q0 := 14) hX dX10_bears_154 157 rfl (t_X5_isPlain  hv19) mc_X5_isPlain mv_X5_isPlain ml_X10_200 rfl rfl (Nat.le_of_ble_eq_true rfl) (Nat.le_refl _) (Nat.le_refl _) rfl (Nat.le_of_ble_eq_true rfl) ?_
    obtain ⟨v20, hv20, hf⟩ := ibd hf
    refine z_si (As := [.int v19]) (rest := []) hX dX10_bears_157 160 rfl (t_X10_asInt v19 hv20) mc_X10_asInt ms_X10_asInt ml_X10_159 (Nat.le_of_ble_eq_true rfl) (Nat.le_refl _) (Nat.le_refl _) rfl (Nat.le_of_ble_eq_true rfl) ?_
    replace hf := Option.some.inj hf
    subst hf
    exact j_iret hX hQ dX10_bears_160
  replace hf := itf h18 hf
  replace h3 := ne_ti (m := 0) h3 rfl
  replace h4 := ne_ti (m := 1) h4 rfl
  replace h5 := ne_ti (m := 2) h5 rfl
  replace h6 := ne_ti (m := 3) h6 rfl
  replace h7 := ne_ti (m := 4) h7 rfl
  replace h10 := ne_ti (m := 5) h10 rfl
  replace h14 := ne_ti (m := 6) h14 rfl
  replace h18 := ne_ti (m := 7) h18 rfl
  refine j_tab hX dX10_bears_23 (by decide) 161 (by unfold tsel; rw [if_pos (by omega)]; rfl) ?_
  exact (Option.some_ne_none _ hf.symm).elim
def g_X10_mark_x_37 (r_marks : Nat → Int32) (r_arms : Int32) (r_root : Int32) (r_steps : Int32) (r_grade : Int32) (r_marksAboveOne : Int32) : Option ((Nat → Int32) × Int32 × Int32 × Int32 × Int32 × Int32) :=
  some (r_marks, r_arms, r_root, r_steps, r_grade, r_marksAboveOne)
set_option maxRecDepth 100000 in
set_option maxHeartbeats 4000000 in
theorem t_X10_mark_x_37 {Y : YT} {r : (Nat → Int32) × Int32 × Int32 × Int32 × Int32 × Int32}  (hX : CX l G cX10_mark 4 RX10 Y) (hQ : EQx G Y 1 6 (WB G p_female p_born p_toldDeath p_lastYear p_father p_mother p_fatherGrade p_motherGrade p_size g_holder g_arms g_from g_size r.1 r.2.1 r.2.2.1 r.2.2.2.1 r.2.2.2.2.1 r.2.2.2.2.2 q_rows q_sizes t_bytes t_length s_tokens s_starts s_size a_code a_codeSize a_at a_token a_fault a_place o_texts o_names o_operands o_size o_open o_refuses o_differs o_fees c_years c_rows c_size x_faultPlace ++ fr) xNS)   (hf : g_X10_mark_x_37 r_marks r_arms r_root r_steps r_grade r_marksAboveOne = some r) : J l G (rmD 8 1 6) Y 0 0 37 [] [] (WB G p_female p_born p_toldDeath p_lastYear p_father p_mother p_fatherGrade p_motherGrade p_size g_holder g_arms g_from g_size r_marks r_arms r_root r_steps r_grade r_marksAboveOne q_rows q_sizes t_bytes t_length s_tokens s_starts s_size a_code a_codeSize a_at a_token a_fault a_place o_texts o_names o_operands o_size o_open o_refuses o_differs o_fees c_years c_rows c_size x_faultPlace ++ fr) := by
  unfold g_X10_mark_x_37 at hf
  replace hf := Option.some.inj hf
  subst hf
  exact jx_throw (tx := "no such mark") (si := 19) hX hQ th_NS (by decide +kernel) dX10_mark_37 dX10_mark_40 dX10_mark_41 dX10_mark_43 dX10_mark_46 (by decide) (Nat.le_of_ble_eq_true rfl)
def f_X10_mark_x (fu : Nat) (p_female : Nat → Int32) (p_born : Nat → Int32) (p_lastYear : Nat → Int32) (p_father : Nat → Int32) (p_fatherGrade : Nat → Int32) (p_size : Int32) (g_holder : Nat → Int32) (g_arms : Nat → Int32) (g_from : Nat → Int32) (g_size : Int32) (r_marks : Nat → Int32) (r_arms : Int32) (r_root : Int32) (r_steps : Int32) (r_grade : Int32) (r_marksAboveOne : Int32) (x1 : Int32) (x2 : Int32) (x3 : Int32) : Option ((Nat → Int32) × Int32 × Int32 × Int32 × Int32 × Int32) :=
  orx (f_X10_requirePerson_x p_size x1) (fun _ => some (r_marks, r_arms, r_root, r_steps, r_grade, r_marksAboveOne)) ((f_X10_requirePerson p_size x1).bind fun v2 => (f_X5_find fu p_female p_born p_lastYear p_father p_fatherGrade p_size g_holder g_arms g_from g_size r_marks x1 x2).bind fun v3 => if x3 < 0 then g_X10_mark_x_37 v3.1 v3.2.1 v3.2.2.1 v3.2.2.2.1 v3.2.2.2.2.1 v3.2.2.2.2.2 else if x3 < v3.2.2.2.1 then none else g_X10_mark_x_37 v3.1 v3.2.1 v3.2.2.1 v3.2.2.2.1 v3.2.2.2.2.1 v3.2.2.2.2.2)
set_option maxRecDepth 100000 in
set_option maxHeartbeats 4000000 in
theorem t_X10_mark_x {fu : Nat}  (x1 : Int32) (x2 : Int32) (x3 : Int32) {r : (Nat → Int32) × Int32 × Int32 × Int32 × Int32 × Int32} (hf : f_X10_mark_x fu p_female p_born p_lastYear p_father p_fatherGrade p_size g_holder g_arms g_from g_size r_marks r_arms r_root r_steps r_grade r_marksAboveOne x1 x2 x3 = some r) : Xt l G 8 1 6 yX10_mark cX10_mark 4 (some .int) [.ref (gb G 0), .int x1, .int x2, .int x3] (WB G p_female p_born p_toldDeath p_lastYear p_father p_mother p_fatherGrade p_motherGrade p_size g_holder g_arms g_from g_size r_marks r_arms r_root r_steps r_grade r_marksAboveOne q_rows q_sizes t_bytes t_length s_tokens s_starts s_size a_code a_codeSize a_at a_token a_fault a_place o_texts o_names o_operands o_size o_open o_refuses o_differs o_fees c_years c_rows c_size x_faultPlace ++ fr) (WB G p_female p_born p_toldDeath p_lastYear p_father p_mother p_fatherGrade p_motherGrade p_size g_holder g_arms g_from g_size r.1 r.2.1 r.2.2.1 r.2.2.2.1 r.2.2.2.2.1 r.2.2.2.2.2 q_rows q_sizes t_bytes t_length s_tokens s_starts s_size a_code a_codeSize a_at a_token a_fault a_place o_texts o_names o_operands o_size o_open o_refuses o_differs o_fees c_years c_rows c_size x_faultPlace ++ fr) xNS := by
  refine Xt.of (by decide) (Nat.le_of_ble_eq_true rfl) (fun Y hX hQ => ?_)
  refine j_lv (lv' := [(0, .ref (gb G 0)), (1, .int x1), (2, .int x2), (3, .int x3)]) rfl ?_
  unfold f_X10_mark_x at hf
  refine j_aload_n hX dX10_mark_0 1 rfl 0 rfl rfl ?_
  refine j_iload_n hX dX10_mark_1 2 rfl 1 rfl rfl ?_
  rcases orx_c hf with ⟨v1, hv1, hf⟩ | hf
  · replace hf := Option.some.inj hf
    subst hf
    exact jx_prop (As := [.int x1]) (rest := []) (q0 := 0) hX hQ dX10_mark_2 (t_X10_requirePerson_x x1 hv1) mc_X10_requirePerson mv_X10_requirePerson ml_X10_73 rfl rfl (Nat.le_of_ble_eq_true rfl) rfl (Nat.le_of_ble_eq_true rfl)
  obtain ⟨v2, hv2, hf⟩ := ibd hf
  refine z_v (As := [.int x1]) (rest := []) (q0 := 0) hX dX10_mark_2 5 rfl (t_X10_requirePerson x1 hv2) mc_X10_requirePerson mv_X10_requirePerson ml_X10_73 rfl rfl (Nat.le_of_ble_eq_true rfl) (Nat.zero_le _) (Nat.zero_le _) rfl (Nat.le_of_ble_eq_true rfl) ?_
  refine j_aload_n hX dX10_mark_5 6 rfl 0 rfl rfl ?_
  refine j_get hX dX10_mark_6 9 rfl fg_X10_26 0 rfl rfl ?_
  refine j_aload_n hX dX10_mark_9 10 rfl 0 rfl rfl ?_
  refine j_get hX dX10_mark_10 13 rfl fg_X10_10 0 rfl rfl ?_
  refine j_aload_n hX dX10_mark_13 14 rfl 0 rfl rfl ?_
  refine j_get hX dX10_mark_14 17 rfl fg_X10_19 0 rfl rfl ?_
  refine j_iload_n hX dX10_mark_17 18 rfl 1 rfl rfl ?_
  refine j_iload_n hX dX10_mark_18 19 rfl 2 rfl rfl ?_
  obtain ⟨v3, hv3, hf⟩ := ibd hf
  refine z_v (As := [.ref (gb G 1), .ref (gb G 10), .int x1, .int x2]) (rest := []) (q0 := 14) hX dX10_mark_19 22 rfl (t_X5_find x1 x2 hv3) mc_X5_find mv_X5_find ml_X10_168 rfl rfl (Nat.le_of_ble_eq_true rfl) (Nat.zero_le _) (Nat.zero_le _) rfl (Nat.le_of_ble_eq_true rfl) ?_
  refine j_iload_n hX dX10_mark_22 23 rfl 3 rfl rfl ?_
  refine j_if_lt hX dX10_mark_23 26 37 rfl rfl (fun h4 => ?_) (fun h4 => ?_)
  · replace hf := itt h4 hf
    refine j_sub [] rfl ?_
    exact t_X10_mark_x_37 hX hQ    hf
  · replace hf := itf h4 hf
    refine j_iload_n hX dX10_mark_26 27 rfl 3 rfl rfl ?_
    refine j_aload_n hX dX10_mark_27 28 rfl 0 rfl rfl ?_
    refine j_get hX dX10_mark_28 31 rfl fg_X10_26 0 rfl rfl ?_
    refine j_getN hX dX10_mark_31 34 rfl fn_X10_178 14 rfl rfl ?_
    refine j_icmp_lt hX dX10_mark_34 37 47 rfl rfl (fun h5 => ?_) (fun h5 => ?_)
    · replace hf := itt h5 hf
      exact (Option.some_ne_none _ hf.symm).elim
    · replace hf := itf h5 hf
      refine j_sub [] rfl ?_
      exact t_X10_mark_x_37 hX hQ    hf
def f_X10_mark (fu : Nat) (p_female : Nat → Int32) (p_born : Nat → Int32) (p_lastYear : Nat → Int32) (p_father : Nat → Int32) (p_fatherGrade : Nat → Int32) (p_size : Int32) (g_holder : Nat → Int32) (g_arms : Nat → Int32) (g_from : Nat → Int32) (g_size : Int32) (r_marks : Nat → Int32) (x1 : Int32) (x2 : Int32) (x3 : Int32) : Option (Int32 × (Nat → Int32) × Int32 × Int32 × Int32 × Int32 × Int32) :=
  (f_X10_requirePerson p_size x1).bind fun v1 => (f_X5_find fu p_female p_born p_lastYear p_father p_fatherGrade p_size g_holder g_arms g_from g_size r_marks x1 x2).bind fun v2 => if x3 < 0 then none else if x3 < v2.2.2.2.1 then (f_X5_markAt v2.1 x3).bind fun v5 => some (v5, v2.1, v2.2.1, v2.2.2.1, v2.2.2.2.1, v2.2.2.2.2.1, v2.2.2.2.2.2) else none
set_option maxRecDepth 100000 in
set_option maxHeartbeats 4000000 in
theorem t_X10_mark {fu : Nat}  (x1 : Int32) (x2 : Int32) (x3 : Int32) {r : Int32 × (Nat → Int32) × Int32 × Int32 × Int32 × Int32 × Int32} (hf : f_X10_mark fu p_female p_born p_lastYear p_father p_fatherGrade p_size g_holder g_arms g_from g_size r_marks x1 x2 x3 = some r) : Ci l G 8 0 0 yX10_mark cX10_mark 4 .int [.ref (gb G 0), .int x1, .int x2, .int x3] (WB G p_female p_born p_toldDeath p_lastYear p_father p_mother p_fatherGrade p_motherGrade p_size g_holder g_arms g_from g_size r_marks r_arms r_root r_steps r_grade r_marksAboveOne q_rows q_sizes t_bytes t_length s_tokens s_starts s_size a_code a_codeSize a_at a_token a_fault a_place o_texts o_names o_operands o_size o_open o_refuses o_differs o_fees c_years c_rows c_size x_faultPlace ++ fr) r.1 (WB G p_female p_born p_toldDeath p_lastYear p_father p_mother p_fatherGrade p_motherGrade p_size g_holder g_arms g_from g_size r.2.1 r.2.2.1 r.2.2.2.1 r.2.2.2.2.1 r.2.2.2.2.2.1 r.2.2.2.2.2.2 q_rows q_sizes t_bytes t_length s_tokens s_starts s_size a_code a_codeSize a_at a_token a_fault a_place o_texts o_names o_operands o_size o_open o_refuses o_differs o_fees c_years c_rows c_size x_faultPlace ++ fr) := by
  refine Ci.of (by decide) (Nat.le_of_ble_eq_true rfl) (fun Y hX hQ => ?_)
  refine j_lv (lv' := [(0, .ref (gb G 0)), (1, .int x1), (2, .int x2), (3, .int x3)]) rfl ?_
  unfold f_X10_mark at hf
  refine j_aload_n hX dX10_mark_0 1 rfl 0 rfl rfl ?_
  refine j_iload_n hX dX10_mark_1 2 rfl 1 rfl rfl ?_
  obtain ⟨v1, hv1, hf⟩ := ibd hf
  refine z_v (As := [.int x1]) (rest := []) (q0 := 0) hX dX10_mark_2 5 rfl (t_X10_requirePerson x1 hv1) mc_X10_requirePerson mv_X10_requirePerson ml_X10_73 rfl rfl (Nat.le_of_ble_eq_true rfl) (Nat.le_refl _) (Nat.le_refl _) rfl (Nat.le_of_ble_eq_true rfl) ?_
  refine j_aload_n hX dX10_mark_5 6 rfl 0 rfl rfl ?_
  refine j_get hX dX10_mark_6 9 rfl fg_X10_26 0 rfl rfl ?_
  refine j_aload_n hX dX10_mark_9 10 rfl 0 rfl rfl ?_
  refine j_get hX dX10_mark_10 13 rfl fg_X10_10 0 rfl rfl ?_
  refine j_aload_n hX dX10_mark_13 14 rfl 0 rfl rfl ?_
  refine j_get hX dX10_mark_14 17 rfl fg_X10_19 0 rfl rfl ?_
  refine j_iload_n hX dX10_mark_17 18 rfl 1 rfl rfl ?_
  refine j_iload_n hX dX10_mark_18 19 rfl 2 rfl rfl ?_
  obtain ⟨v2, hv2, hf⟩ := ibd hf
  refine z_v (As := [.ref (gb G 1), .ref (gb G 10), .int x1, .int x2]) (rest := []) (q0 := 14) hX dX10_mark_19 22 rfl (t_X5_find x1 x2 hv2) mc_X5_find mv_X5_find ml_X10_168 rfl rfl (Nat.le_of_ble_eq_true rfl) (Nat.le_refl _) (Nat.le_refl _) rfl (Nat.le_of_ble_eq_true rfl) ?_
  refine j_iload_n hX dX10_mark_22 23 rfl 3 rfl rfl ?_
  refine j_if_lt hX dX10_mark_23 26 37 rfl rfl (fun h3 => ?_) (fun h3 => ?_)
  · replace hf := itt h3 hf
    exact (Option.some_ne_none _ hf.symm).elim
  · replace hf := itf h3 hf
    refine j_iload_n hX dX10_mark_26 27 rfl 3 rfl rfl ?_
    refine j_aload_n hX dX10_mark_27 28 rfl 0 rfl rfl ?_
    refine j_get hX dX10_mark_28 31 rfl fg_X10_26 0 rfl rfl ?_
    refine j_getN hX dX10_mark_31 34 rfl fn_X10_178 14 rfl rfl ?_
    refine j_icmp_lt hX dX10_mark_34 37 47 rfl rfl (fun h4 => ?_) (fun h4 => ?_)
    · replace hf := itt h4 hf
      refine j_aload_n hX dX10_mark_47 48 rfl 0 rfl rfl ?_
      refine j_get hX dX10_mark_48 51 rfl fg_X10_26 0 rfl rfl ?_
      refine j_iload_n hX dX10_mark_51 52 rfl 3 rfl rfl ?_
      obtain ⟨v5, hv5, hf⟩ := ibd hf
      refine z_i (As := [.int x3]) (rest := []) (q0 := 14) hX dX10_mark_52 55 rfl (t_X5_markAt x3 hv5) mc_X5_markAt mv_X5_markAt ml_X10_207 rfl rfl (Nat.le_of_ble_eq_true rfl) (Nat.le_refl _) (Nat.le_refl _) rfl (Nat.le_of_ble_eq_true rfl) ?_
      replace hf := Option.some.inj hf
      subst hf
      exact j_iret hX hQ dX10_mark_55
    · replace hf := itf h4 hf
      exact (Option.some_ne_none _ hf.symm).elim
def f_X10_head_x (p_size : Int32) (x1 : Int32) : Option (Unit) :=
  orx (f_X10_requirePerson_x p_size x1) (fun _ => some ()) ((f_X10_requirePerson p_size x1).bind fun v2 => none)
set_option maxRecDepth 100000 in
set_option maxHeartbeats 4000000 in
theorem t_X10_head_x  (x1 : Int32) (x2 : Int32) {r : Unit} (hf : f_X10_head_x p_size x1 = some r) : Xt l G 8 1 6 yX10_head cX10_head 3 (some .int) [.ref (gb G 0), .int x1, .int x2] (WB G p_female p_born p_toldDeath p_lastYear p_father p_mother p_fatherGrade p_motherGrade p_size g_holder g_arms g_from g_size r_marks r_arms r_root r_steps r_grade r_marksAboveOne q_rows q_sizes t_bytes t_length s_tokens s_starts s_size a_code a_codeSize a_at a_token a_fault a_place o_texts o_names o_operands o_size o_open o_refuses o_differs o_fees c_years c_rows c_size x_faultPlace ++ fr) (WB G p_female p_born p_toldDeath p_lastYear p_father p_mother p_fatherGrade p_motherGrade p_size g_holder g_arms g_from g_size r_marks r_arms r_root r_steps r_grade r_marksAboveOne q_rows q_sizes t_bytes t_length s_tokens s_starts s_size a_code a_codeSize a_at a_token a_fault a_place o_texts o_names o_operands o_size o_open o_refuses o_differs o_fees c_years c_rows c_size x_faultPlace ++ fr) xNS := by
  refine Xt.of (by decide) (Nat.le_of_ble_eq_true rfl) (fun Y hX hQ => ?_)
  refine j_lv (lv' := [(0, .ref (gb G 0)), (1, .int x1), (2, .int x2)]) rfl ?_
  unfold f_X10_head_x at hf
  refine j_aload_n hX dX10_head_0 1 rfl 0 rfl rfl ?_
  refine j_iload_n hX dX10_head_1 2 rfl 1 rfl rfl ?_
  rcases orx_c hf with ⟨v1, hv1, hf⟩ | hf
  · replace hf := Option.some.inj hf
    subst hf
    exact jx_prop (As := [.int x1]) (rest := []) (q0 := 0) hX hQ dX10_head_2 (t_X10_requirePerson_x x1 hv1) mc_X10_requirePerson mv_X10_requirePerson ml_X10_73 rfl rfl (Nat.le_of_ble_eq_true rfl) rfl (Nat.le_of_ble_eq_true rfl)
  obtain ⟨v2, hv2, hf⟩ := ibd hf
  refine z_v (As := [.int x1]) (rest := []) (q0 := 0) hX dX10_head_2 5 rfl (t_X10_requirePerson x1 hv2) mc_X10_requirePerson mv_X10_requirePerson ml_X10_73 rfl rfl (Nat.le_of_ble_eq_true rfl) (Nat.zero_le _) (Nat.zero_le _) rfl (Nat.le_of_ble_eq_true rfl) ?_
  exact (Option.some_ne_none _ hf.symm).elim
def f_X10_head (fu : Nat) (p_female : Nat → Int32) (p_born : Nat → Int32) (p_lastYear : Nat → Int32) (p_father : Nat → Int32) (p_mother : Nat → Int32) (p_size : Int32) (x1 : Int32) (x2 : Int32) : Option (Int32) :=
  (f_X10_requirePerson p_size x1).bind fun v1 => (f_X4_headOf fu p_female p_born p_lastYear p_father p_mother p_size x1 x2).bind fun v2 => some v2
set_option maxRecDepth 100000 in
set_option maxHeartbeats 4000000 in
theorem t_X10_head {fu : Nat}  (x1 : Int32) (x2 : Int32) {r : Int32} (hf : f_X10_head fu p_female p_born p_lastYear p_father p_mother p_size x1 x2 = some r) : Ci l G 8 0 0 yX10_head cX10_head 3 .int [.ref (gb G 0), .int x1, .int x2] (WB G p_female p_born p_toldDeath p_lastYear p_father p_mother p_fatherGrade p_motherGrade p_size g_holder g_arms g_from g_size r_marks r_arms r_root r_steps r_grade r_marksAboveOne q_rows q_sizes t_bytes t_length s_tokens s_starts s_size a_code a_codeSize a_at a_token a_fault a_place o_texts o_names o_operands o_size o_open o_refuses o_differs o_fees c_years c_rows c_size x_faultPlace ++ fr) r (WB G p_female p_born p_toldDeath p_lastYear p_father p_mother p_fatherGrade p_motherGrade p_size g_holder g_arms g_from g_size r_marks r_arms r_root r_steps r_grade r_marksAboveOne q_rows q_sizes t_bytes t_length s_tokens s_starts s_size a_code a_codeSize a_at a_token a_fault a_place o_texts o_names o_operands o_size o_open o_refuses o_differs o_fees c_years c_rows c_size x_faultPlace ++ fr) := by
  refine Ci.of (by decide) (Nat.le_of_ble_eq_true rfl) (fun Y hX hQ => ?_)
  refine j_lv (lv' := [(0, .ref (gb G 0)), (1, .int x1), (2, .int x2)]) rfl ?_
  unfold f_X10_head at hf
  refine j_aload_n hX dX10_head_0 1 rfl 0 rfl rfl ?_
  refine j_iload_n hX dX10_head_1 2 rfl 1 rfl rfl ?_
  obtain ⟨v1, hv1, hf⟩ := ibd hf
  refine z_v (As := [.int x1]) (rest := []) (q0 := 0) hX dX10_head_2 5 rfl (t_X10_requirePerson x1 hv1) mc_X10_requirePerson mv_X10_requirePerson ml_X10_73 rfl rfl (Nat.le_of_ble_eq_true rfl) (Nat.le_refl _) (Nat.le_refl _) rfl (Nat.le_of_ble_eq_true rfl) ?_
  refine j_aload_n hX dX10_head_5 6 rfl 0 rfl rfl ?_
  refine j_get hX dX10_head_6 9 rfl fg_X10_10 0 rfl rfl ?_
  refine j_iload_n hX dX10_head_9 10 rfl 1 rfl rfl ?_
  refine j_iload_n hX dX10_head_10 11 rfl 2 rfl rfl ?_
  obtain ⟨v2, hv2, hf⟩ := ibd hf
  refine z_i (As := [.int x1, .int x2]) (rest := []) (q0 := 1) hX dX10_head_11 14 rfl (t_X4_headOf x1 x2 hv2) mc_X4_headOf mv_X4_headOf ml_X10_210 rfl rfl (Nat.le_of_ble_eq_true rfl) (Nat.le_refl _) (Nat.le_refl _) rfl (Nat.le_of_ble_eq_true rfl) ?_
  replace hf := Option.some.inj hf
  subst hf
  exact j_iret hX hQ dX10_head_14
def g_X10_quarter_x_50 (q_rows : Nat → Int32) (q_sizes : Nat → Int32) : Option ((Nat → Int32) × (Nat → Int32)) :=
  some (q_rows, q_sizes)
set_option maxRecDepth 100000 in
set_option maxHeartbeats 4000000 in
theorem t_X10_quarter_x_50 {Y : YT} {r : (Nat → Int32) × (Nat → Int32)}  (hX : CX l G cX10_quarter 5 RX10 Y) (hQ : EQx G Y 1 6 (WB G p_female p_born p_toldDeath p_lastYear p_father p_mother p_fatherGrade p_motherGrade p_size g_holder g_arms g_from g_size r_marks r_arms r_root r_steps r_grade r_marksAboveOne r.1 r.2 t_bytes t_length s_tokens s_starts s_size a_code a_codeSize a_at a_token a_fault a_place o_texts o_names o_operands o_size o_open o_refuses o_differs o_fees c_years c_rows c_size x_faultPlace ++ fr) xNS)   (hf : g_X10_quarter_x_50 q_rows q_sizes = some r) : J l G (rmD 8 1 6) Y 0 0 50 [] [] (WB G p_female p_born p_toldDeath p_lastYear p_father p_mother p_fatherGrade p_motherGrade p_size g_holder g_arms g_from g_size r_marks r_arms r_root r_steps r_grade r_marksAboveOne q_rows q_sizes t_bytes t_length s_tokens s_starts s_size a_code a_codeSize a_at a_token a_fault a_place o_texts o_names o_operands o_size o_open o_refuses o_differs o_fees c_years c_rows c_size x_faultPlace ++ fr) := by
  unfold g_X10_quarter_x_50 at hf
  replace hf := Option.some.inj hf
  subst hf
  exact jx_throw (tx := "no such quarter") (si := 20) hX hQ th_NS (by decide +kernel) dX10_quarter_50 dX10_quarter_53 dX10_quarter_54 dX10_quarter_56 dX10_quarter_59 (by decide) (Nat.le_of_ble_eq_true rfl)
def f_X10_quarter_x (fu : Nat) (p_female : Nat → Int32) (p_born : Nat → Int32) (p_lastYear : Nat → Int32) (p_father : Nat → Int32) (p_mother : Nat → Int32) (p_size : Int32) (g_holder : Nat → Int32) (g_arms : Nat → Int32) (g_from : Nat → Int32) (g_size : Int32) (q_rows : Nat → Int32) (q_sizes : Nat → Int32) (x1 : Int32) (x2 : Int32) (x3 : Int32) : Option ((Nat → Int32) × (Nat → Int32)) :=
  orx (f_X10_requirePerson_x p_size x1) (fun _ => some (q_rows, q_sizes)) ((f_X10_requirePerson p_size x1).bind fun v2 => (f_X6_fill fu p_female p_born p_lastYear p_father p_mother p_size g_holder g_arms g_from g_size q_rows q_sizes x1 x2).bind fun v3 => (f_X6_sizeOf v3.2 x1).bind fun v4 => if x3 = ((-1)) then none else if x3 < 0 then g_X10_quarter_x_50 v3.1 v3.2 else if x3 < v4 then none else g_X10_quarter_x_50 v3.1 v3.2)
set_option maxRecDepth 100000 in
set_option maxHeartbeats 4000000 in
theorem t_X10_quarter_x {fu : Nat}  (x1 : Int32) (x2 : Int32) (x3 : Int32) {r : (Nat → Int32) × (Nat → Int32)} (hf : f_X10_quarter_x fu p_female p_born p_lastYear p_father p_mother p_size g_holder g_arms g_from g_size q_rows q_sizes x1 x2 x3 = some r) : Xt l G 8 1 6 yX10_quarter cX10_quarter 5 (some .int) [.ref (gb G 0), .int x1, .int x2, .int x3] (WB G p_female p_born p_toldDeath p_lastYear p_father p_mother p_fatherGrade p_motherGrade p_size g_holder g_arms g_from g_size r_marks r_arms r_root r_steps r_grade r_marksAboveOne q_rows q_sizes t_bytes t_length s_tokens s_starts s_size a_code a_codeSize a_at a_token a_fault a_place o_texts o_names o_operands o_size o_open o_refuses o_differs o_fees c_years c_rows c_size x_faultPlace ++ fr) (WB G p_female p_born p_toldDeath p_lastYear p_father p_mother p_fatherGrade p_motherGrade p_size g_holder g_arms g_from g_size r_marks r_arms r_root r_steps r_grade r_marksAboveOne r.1 r.2 t_bytes t_length s_tokens s_starts s_size a_code a_codeSize a_at a_token a_fault a_place o_texts o_names o_operands o_size o_open o_refuses o_differs o_fees c_years c_rows c_size x_faultPlace ++ fr) xNS := by
  refine Xt.of (by decide) (Nat.le_of_ble_eq_true rfl) (fun Y hX hQ => ?_)
  refine j_lv (lv' := [(0, .ref (gb G 0)), (1, .int x1), (2, .int x2), (3, .int x3)]) rfl ?_
  unfold f_X10_quarter_x at hf
  refine j_aload_n hX dX10_quarter_0 1 rfl 0 rfl rfl ?_
  refine j_iload_n hX dX10_quarter_1 2 rfl 1 rfl rfl ?_
  rcases orx_c hf with ⟨v1, hv1, hf⟩ | hf
  · replace hf := Option.some.inj hf
    subst hf
    exact jx_prop (As := [.int x1]) (rest := []) (q0 := 0) hX hQ dX10_quarter_2 (t_X10_requirePerson_x x1 hv1) mc_X10_requirePerson mv_X10_requirePerson ml_X10_73 rfl rfl (Nat.le_of_ble_eq_true rfl) rfl (Nat.le_of_ble_eq_true rfl)
  obtain ⟨v2, hv2, hf⟩ := ibd hf
  refine z_v (As := [.int x1]) (rest := []) (q0 := 0) hX dX10_quarter_2 5 rfl (t_X10_requirePerson x1 hv2) mc_X10_requirePerson mv_X10_requirePerson ml_X10_73 rfl rfl (Nat.le_of_ble_eq_true rfl) (Nat.zero_le _) (Nat.zero_le _) rfl (Nat.le_of_ble_eq_true rfl) ?_
  refine j_aload_n hX dX10_quarter_5 6 rfl 0 rfl rfl ?_
  refine j_get hX dX10_quarter_6 9 rfl fg_X10_33 0 rfl rfl ?_
  refine j_aload_n hX dX10_quarter_9 10 rfl 0 rfl rfl ?_
  refine j_get hX dX10_quarter_10 13 rfl fg_X10_10 0 rfl rfl ?_
  refine j_aload_n hX dX10_quarter_13 14 rfl 0 rfl rfl ?_
  refine j_get hX dX10_quarter_14 17 rfl fg_X10_19 0 rfl rfl ?_
  refine j_iload_n hX dX10_quarter_17 18 rfl 1 rfl rfl ?_
  refine j_iload_n hX dX10_quarter_18 19 rfl 2 rfl rfl ?_
  obtain ⟨v3, hv3, hf⟩ := ibd hf
  refine z_v (As := [.ref (gb G 1), .ref (gb G 10), .int x1, .int x2]) (rest := []) (q0 := 16) hX dX10_quarter_19 22 rfl (t_X6_fill x1 x2 hv3) mc_X6_fill mv_X6_fill ml_X10_214 rfl rfl (Nat.le_of_ble_eq_true rfl) (Nat.zero_le _) (Nat.zero_le _) rfl (Nat.le_of_ble_eq_true rfl) ?_
  refine j_aload_n hX dX10_quarter_22 23 rfl 0 rfl rfl ?_
  refine j_get hX dX10_quarter_23 26 rfl fg_X10_33 0 rfl rfl ?_
  refine j_iload_n hX dX10_quarter_26 27 rfl 1 rfl rfl ?_
  obtain ⟨v4, hv4, hf⟩ := ibd hf
  refine z_i (As := [.int x1]) (rest := []) (q0 := 16) hX dX10_quarter_27 30 rfl (t_X6_sizeOf x1 hv4) mc_X6_sizeOf mv_X6_sizeOf ml_X10_217 rfl rfl (Nat.le_of_ble_eq_true rfl) (Nat.zero_le _) (Nat.zero_le _) rfl (Nat.le_of_ble_eq_true rfl) ?_
  refine j_istore hX dX10_quarter_30 32 rfl (by decide) (lv' := [(4, .int v4), (0, .ref (gb G 0)), (1, .int x1), (2, .int x2), (3, .int x3)]) rfl ?_
  refine j_iload_n hX dX10_quarter_32 33 rfl 4 rfl rfl ?_
  refine j_iconst (v := (-1)) hX dX10_quarter_33 34 rfl (by decide) ?_
  refine j_icmp_ne hX dX10_quarter_34 37 40 rfl rfl (fun h5 => ?_) (fun h5 => ?_)
  · replace hf := itf h5 hf
    refine j_iload_n hX dX10_quarter_40 41 rfl 4 rfl rfl ?_
    refine j_if_lt hX dX10_quarter_41 44 50 rfl rfl (fun h6 => ?_) (fun h6 => ?_)
    · replace hf := itt h6 hf
      refine j_sub [] rfl ?_
      exact t_X10_quarter_x_50 hX hQ    hf
    · replace hf := itf h6 hf
      refine j_iload_n hX dX10_quarter_44 45 rfl 4 rfl rfl ?_
      refine j_iload hX dX10_quarter_45 47 rfl 0 rfl ?_
      refine j_icmp_lt hX dX10_quarter_47 50 60 rfl rfl (fun h7 => ?_) (fun h7 => ?_)
      · replace hf := itt h7 hf
        exact (Option.some_ne_none _ hf.symm).elim
      · replace hf := itf h7 hf
        refine j_sub [] rfl ?_
        exact t_X10_quarter_x_50 hX hQ    hf
  · replace hf := itt h5 hf
    exact (Option.some_ne_none _ hf.symm).elim
def f_X10_quarter (fu : Nat) (p_female : Nat → Int32) (p_born : Nat → Int32) (p_lastYear : Nat → Int32) (p_father : Nat → Int32) (p_mother : Nat → Int32) (p_size : Int32) (g_holder : Nat → Int32) (g_arms : Nat → Int32) (g_from : Nat → Int32) (g_size : Int32) (q_rows : Nat → Int32) (q_sizes : Nat → Int32) (x1 : Int32) (x2 : Int32) (x3 : Int32) : Option (Int32 × (Nat → Int32) × (Nat → Int32)) :=
  (f_X10_requirePerson p_size x1).bind fun v1 => (f_X6_fill fu p_female p_born p_lastYear p_father p_mother p_size g_holder g_arms g_from g_size q_rows q_sizes x1 x2).bind fun v2 => (f_X6_sizeOf v2.2 x1).bind fun v3 => if x3 = ((-1)) then some (v3, v2.1, v2.2) else if x3 < 0 then none else if x3 < v3 then (f_X6_armsAt v2.1 x1 x3).bind fun v7 => some (v7, v2.1, v2.2) else none
set_option maxRecDepth 100000 in
set_option maxHeartbeats 4000000 in
theorem t_X10_quarter {fu : Nat}  (x1 : Int32) (x2 : Int32) (x3 : Int32) {r : Int32 × (Nat → Int32) × (Nat → Int32)} (hf : f_X10_quarter fu p_female p_born p_lastYear p_father p_mother p_size g_holder g_arms g_from g_size q_rows q_sizes x1 x2 x3 = some r) : Ci l G 8 0 0 yX10_quarter cX10_quarter 5 .int [.ref (gb G 0), .int x1, .int x2, .int x3] (WB G p_female p_born p_toldDeath p_lastYear p_father p_mother p_fatherGrade p_motherGrade p_size g_holder g_arms g_from g_size r_marks r_arms r_root r_steps r_grade r_marksAboveOne q_rows q_sizes t_bytes t_length s_tokens s_starts s_size a_code a_codeSize a_at a_token a_fault a_place o_texts o_names o_operands o_size o_open o_refuses o_differs o_fees c_years c_rows c_size x_faultPlace ++ fr) r.1 (WB G p_female p_born p_toldDeath p_lastYear p_father p_mother p_fatherGrade p_motherGrade p_size g_holder g_arms g_from g_size r_marks r_arms r_root r_steps r_grade r_marksAboveOne r.2.1 r.2.2 t_bytes t_length s_tokens s_starts s_size a_code a_codeSize a_at a_token a_fault a_place o_texts o_names o_operands o_size o_open o_refuses o_differs o_fees c_years c_rows c_size x_faultPlace ++ fr) := by
  refine Ci.of (by decide) (Nat.le_of_ble_eq_true rfl) (fun Y hX hQ => ?_)
  refine j_lv (lv' := [(0, .ref (gb G 0)), (1, .int x1), (2, .int x2), (3, .int x3)]) rfl ?_
  unfold f_X10_quarter at hf
  refine j_aload_n hX dX10_quarter_0 1 rfl 0 rfl rfl ?_
  refine j_iload_n hX dX10_quarter_1 2 rfl 1 rfl rfl ?_
  obtain ⟨v1, hv1, hf⟩ := ibd hf
  refine z_v (As := [.int x1]) (rest := []) (q0 := 0) hX dX10_quarter_2 5 rfl (t_X10_requirePerson x1 hv1) mc_X10_requirePerson mv_X10_requirePerson ml_X10_73 rfl rfl (Nat.le_of_ble_eq_true rfl) (Nat.le_refl _) (Nat.le_refl _) rfl (Nat.le_of_ble_eq_true rfl) ?_
  refine j_aload_n hX dX10_quarter_5 6 rfl 0 rfl rfl ?_
  refine j_get hX dX10_quarter_6 9 rfl fg_X10_33 0 rfl rfl ?_
  refine j_aload_n hX dX10_quarter_9 10 rfl 0 rfl rfl ?_
  refine j_get hX dX10_quarter_10 13 rfl fg_X10_10 0 rfl rfl ?_
  refine j_aload_n hX dX10_quarter_13 14 rfl 0 rfl rfl ?_
  refine j_get hX dX10_quarter_14 17 rfl fg_X10_19 0 rfl rfl ?_
  refine j_iload_n hX dX10_quarter_17 18 rfl 1 rfl rfl ?_
  refine j_iload_n hX dX10_quarter_18 19 rfl 2 rfl rfl ?_
  obtain ⟨v2, hv2, hf⟩ := ibd hf
  refine z_v (As := [.ref (gb G 1), .ref (gb G 10), .int x1, .int x2]) (rest := []) (q0 := 16) hX dX10_quarter_19 22 rfl (t_X6_fill x1 x2 hv2) mc_X6_fill mv_X6_fill ml_X10_214 rfl rfl (Nat.le_of_ble_eq_true rfl) (Nat.le_refl _) (Nat.le_refl _) rfl (Nat.le_of_ble_eq_true rfl) ?_
  refine j_aload_n hX dX10_quarter_22 23 rfl 0 rfl rfl ?_
  refine j_get hX dX10_quarter_23 26 rfl fg_X10_33 0 rfl rfl ?_
  refine j_iload_n hX dX10_quarter_26 27 rfl 1 rfl rfl ?_
  obtain ⟨v3, hv3, hf⟩ := ibd hf
  refine z_i (As := [.int x1]) (rest := []) (q0 := 16) hX dX10_quarter_27 30 rfl (t_X6_sizeOf x1 hv3) mc_X6_sizeOf mv_X6_sizeOf ml_X10_217 rfl rfl (Nat.le_of_ble_eq_true rfl) (Nat.le_refl _) (Nat.le_refl _) rfl (Nat.le_of_ble_eq_true rfl) ?_
  refine j_istore hX dX10_quarter_30 32 rfl (by decide) (lv' := [(4, .int v3), (0, .ref (gb G 0)), (1, .int x1), (2, .int x2), (3, .int x3)]) rfl ?_
  refine j_iload_n hX dX10_quarter_32 33 rfl 4 rfl rfl ?_
  refine j_iconst (v := (-1)) hX dX10_quarter_33 34 rfl (by decide) ?_
  refine j_icmp_ne hX dX10_quarter_34 37 40 rfl rfl (fun h4 => ?_) (fun h4 => ?_)
  · replace hf := itf h4 hf
    refine j_iload_n hX dX10_quarter_40 41 rfl 4 rfl rfl ?_
    refine j_if_lt hX dX10_quarter_41 44 50 rfl rfl (fun h5 => ?_) (fun h5 => ?_)
    · replace hf := itt h5 hf
      exact (Option.some_ne_none _ hf.symm).elim
    · replace hf := itf h5 hf
      refine j_iload_n hX dX10_quarter_44 45 rfl 4 rfl rfl ?_
      refine j_iload hX dX10_quarter_45 47 rfl 0 rfl ?_
      refine j_icmp_lt hX dX10_quarter_47 50 60 rfl rfl (fun h6 => ?_) (fun h6 => ?_)
      · replace hf := itt h6 hf
        refine j_aload_n hX dX10_quarter_60 61 rfl 1 rfl rfl ?_
        refine j_get hX dX10_quarter_61 64 rfl fg_X10_33 0 rfl rfl ?_
        refine j_iload_n hX dX10_quarter_64 65 rfl 2 rfl rfl ?_
        refine j_iload_n hX dX10_quarter_65 66 rfl 4 rfl rfl ?_
        obtain ⟨v7, hv7, hf⟩ := ibd hf
        refine z_i (As := [.int x1, .int x3]) (rest := []) (q0 := 16) hX dX10_quarter_66 69 rfl (t_X6_armsAt x1 x3 hv7) mc_X6_armsAt mv_X6_armsAt ml_X10_222 rfl rfl (Nat.le_of_ble_eq_true rfl) (Nat.le_refl _) (Nat.le_refl _) rfl (Nat.le_of_ble_eq_true rfl) ?_
        replace hf := Option.some.inj hf
        subst hf
        exact j_iret hX hQ dX10_quarter_69
      · replace hf := itf h6 hf
        exact (Option.some_ne_none _ hf.symm).elim
  · replace hf := itt h4 hf
    refine j_iload hX dX10_quarter_37 39 rfl 0 rfl ?_
    replace hf := Option.some.inj hf
    subst hf
    exact j_iret hX hQ dX10_quarter_39
def g_X10_countRivals_61 (k17 : Int32 → Int32 → Int32 → Option (Int32)) (x1 : Int32) (x2 : Int32) (x3 : Int32) : Option (Int32) :=
  k17 x1 x2 (x3 + 1)
set_option maxRecDepth 100000 in
set_option maxHeartbeats 4000000 in
theorem t_X10_countRivals_61 {Y : YT} {r : Int32} {k17 : Int32 → Int32 → Int32 → Option (Int32)} (hX : CX l G cX10_countRivals 4 RX10 Y) (hQ : EQi G Y 0 0 .int r (WB G p_female p_born p_toldDeath p_lastYear p_father p_mother p_fatherGrade p_motherGrade p_size g_holder g_arms g_from g_size r_marks r_arms r_root r_steps r_grade r_marksAboveOne q_rows q_sizes t_bytes t_length s_tokens s_starts s_size a_code a_codeSize a_at a_token a_fault a_place o_texts o_names o_operands o_size o_open o_refuses o_differs o_fees c_years c_rows c_size x_faultPlace ++ fr)) (hk17 : ∀ (x1 : Int32) (x2 : Int32) (x3 : Int32), k17 x1 x2 x3  = some r → J l G (rmD 2 0 0) Y 0 0 17 [(0, .ref (gb G 0)), (1, .int x1), (2, .int x2), (3, .int x3)] [] (WB G p_female p_born p_toldDeath p_lastYear p_father p_mother p_fatherGrade p_motherGrade p_size g_holder g_arms g_from g_size r_marks r_arms r_root r_steps r_grade r_marksAboveOne q_rows q_sizes t_bytes t_length s_tokens s_starts s_size a_code a_codeSize a_at a_token a_fault a_place o_texts o_names o_operands o_size o_open o_refuses o_differs o_fees c_years c_rows c_size x_faultPlace ++ fr)) (x1 : Int32) (x2 : Int32) (x3 : Int32) (hf : g_X10_countRivals_61 k17 x1 x2 x3 = some r) : J l G (rmD 2 0 0) Y 0 0 61 [(0, .ref (gb G 0)), (1, .int x1), (2, .int x2), (3, .int x3)] [] (WB G p_female p_born p_toldDeath p_lastYear p_father p_mother p_fatherGrade p_motherGrade p_size g_holder g_arms g_from g_size r_marks r_arms r_root r_steps r_grade r_marksAboveOne q_rows q_sizes t_bytes t_length s_tokens s_starts s_size a_code a_codeSize a_at a_token a_fault a_place o_texts o_names o_operands o_size o_open o_refuses o_differs o_fees c_years c_rows c_size x_faultPlace ++ fr) := by
  unfold g_X10_countRivals_61 at hf
  refine j_iinc (v := x3 + 1) hX dX10_countRivals_61 64 rfl 3 rfl rfl (by decide) (lv' := [(3, .int (x3 + 1)), (0, .ref (gb G 0)), (1, .int x1), (2, .int x2)]) rfl ?_
  refine j_goto hX dX10_countRivals_64 17 rfl ?_
  refine j_sub [1, 2, 3, 0] rfl ?_
  exact hk17 x1 x2 (x3 + 1) hf
def g_X10_countRivals_17 (fu : Nat) (p_size : Int32) (g_holder : Nat → Int32) (g_arms : Nat → Int32) (g_from : Nat → Int32) (g_size : Int32) (r_arms : Int32) (r_root : Int32) (k17 : Int32 → Int32 → Int32 → Option (Int32)) (x1 : Int32) (x2 : Int32) (x3 : Int32) : Option (Int32) :=
  if p_size ≤ x3 then some x2 else if x3 = r_root then g_X10_countRivals_61 k17 x1 x2 x3 else (f_X1_ownArms fu g_holder g_arms g_from g_size x3 x1).bind fun v4 => if v4 = r_arms then g_X10_countRivals_61 k17 x1 (x2 + 1) x3 else g_X10_countRivals_61 k17 x1 x2 x3
set_option maxRecDepth 100000 in
set_option maxHeartbeats 4000000 in
theorem t_X10_countRivals_17 {fu : Nat} {Y : YT} {r : Int32} {k17 : Int32 → Int32 → Int32 → Option (Int32)} (hX : CX l G cX10_countRivals 4 RX10 Y) (hQ : EQi G Y 0 0 .int r (WB G p_female p_born p_toldDeath p_lastYear p_father p_mother p_fatherGrade p_motherGrade p_size g_holder g_arms g_from g_size r_marks r_arms r_root r_steps r_grade r_marksAboveOne q_rows q_sizes t_bytes t_length s_tokens s_starts s_size a_code a_codeSize a_at a_token a_fault a_place o_texts o_names o_operands o_size o_open o_refuses o_differs o_fees c_years c_rows c_size x_faultPlace ++ fr)) (hk17 : ∀ (x1 : Int32) (x2 : Int32) (x3 : Int32), k17 x1 x2 x3  = some r → J l G (rmD 2 0 0) Y 0 0 17 [(0, .ref (gb G 0)), (1, .int x1), (2, .int x2), (3, .int x3)] [] (WB G p_female p_born p_toldDeath p_lastYear p_father p_mother p_fatherGrade p_motherGrade p_size g_holder g_arms g_from g_size r_marks r_arms r_root r_steps r_grade r_marksAboveOne q_rows q_sizes t_bytes t_length s_tokens s_starts s_size a_code a_codeSize a_at a_token a_fault a_place o_texts o_names o_operands o_size o_open o_refuses o_differs o_fees c_years c_rows c_size x_faultPlace ++ fr)) (x1 : Int32) (x2 : Int32) (x3 : Int32) (hf : g_X10_countRivals_17 fu p_size g_holder g_arms g_from g_size r_arms r_root k17 x1 x2 x3 = some r) : J l G (rmD 2 0 0) Y 0 0 17 [(0, .ref (gb G 0)), (1, .int x1), (2, .int x2), (3, .int x3)] [] (WB G p_female p_born p_toldDeath p_lastYear p_father p_mother p_fatherGrade p_motherGrade p_size g_holder g_arms g_from g_size r_marks r_arms r_root r_steps r_grade r_marksAboveOne q_rows q_sizes t_bytes t_length s_tokens s_starts s_size a_code a_codeSize a_at a_token a_fault a_place o_texts o_names o_operands o_size o_open o_refuses o_differs o_fees c_years c_rows c_size x_faultPlace ++ fr) := by
  unfold g_X10_countRivals_17 at hf
  refine j_iload_n hX dX10_countRivals_17 18 rfl 3 rfl rfl ?_
  refine j_aload_n hX dX10_countRivals_18 19 rfl 0 rfl rfl ?_
  refine j_get hX dX10_countRivals_19 22 rfl fg_X10_10 0 rfl rfl ?_
  refine j_getN hX dX10_countRivals_22 25 rfl fn_X10_245 1 rfl rfl ?_
  refine j_icmp_ge hX dX10_countRivals_25 28 67 rfl rfl (fun h2 => ?_) (fun h2 => ?_)
  · replace hf := itt h2 hf
    refine j_iload_n hX dX10_countRivals_67 68 rfl 2 rfl rfl ?_
    replace hf := Option.some.inj hf
    subst hf
    exact j_iret hX hQ dX10_countRivals_68
  · replace hf := itf h2 hf
    refine j_iload_n hX dX10_countRivals_28 29 rfl 3 rfl rfl ?_
    refine j_aload_n hX dX10_countRivals_29 30 rfl 0 rfl rfl ?_
    refine j_get hX dX10_countRivals_30 33 rfl fg_X10_26 0 rfl rfl ?_
    refine j_getN hX dX10_countRivals_33 36 rfl fn_X10_175 14 rfl rfl ?_
    refine j_icmp_eq hX dX10_countRivals_36 39 61 rfl rfl (fun h3 => ?_) (fun h3 => ?_)
    · replace hf := itt h3 hf
      exact t_X10_countRivals_61 hX hQ  hk17 x1 x2 x3 hf
    · replace hf := itf h3 hf
      refine j_aload_n hX dX10_countRivals_39 40 rfl 0 rfl rfl ?_
      refine j_get hX dX10_countRivals_40 43 rfl fg_X10_19 0 rfl rfl ?_
      refine j_iload_n hX dX10_countRivals_43 44 rfl 3 rfl rfl ?_
      refine j_iload_n hX dX10_countRivals_44 45 rfl 1 rfl rfl ?_
      obtain ⟨v4, hv4, hf⟩ := ibd hf
      refine z_i (As := [.int x3, .int x1]) (rest := []) (q0 := 10) hX dX10_countRivals_45 48 rfl (t_X1_ownArms x3 x1 hv4) mc_X1_ownArms mv_X1_ownArms ml_X10_290 rfl rfl (Nat.le_of_ble_eq_true rfl) (Nat.le_refl _) (Nat.le_refl _) rfl (Nat.le_of_ble_eq_true rfl) ?_
      refine j_aload_n hX dX10_countRivals_48 49 rfl 0 rfl rfl ?_
      refine j_get hX dX10_countRivals_49 52 rfl fg_X10_26 0 rfl rfl ?_
      refine j_getN hX dX10_countRivals_52 55 rfl fn_X10_172 14 rfl rfl ?_
      refine j_icmp_ne hX dX10_countRivals_55 58 61 rfl rfl (fun h5 => ?_) (fun h5 => ?_)
      · replace hf := itf h5 hf
        exact t_X10_countRivals_61 hX hQ  hk17 x1 x2 x3 hf
      · replace hf := itt h5 hf
        refine j_iinc (v := x2 + 1) hX dX10_countRivals_58 61 rfl 2 rfl rfl (by decide) (lv' := [(2, .int (x2 + 1)), (0, .ref (gb G 0)), (1, .int x1), (3, .int x3)]) rfl ?_
        refine j_sub [1, 2, 0, 3] rfl ?_
        exact t_X10_countRivals_61 hX hQ  hk17 x1 (x2 + 1) x3 hf
def f_X10_countRivals_17 (fu : Nat) (p_size : Int32) (g_holder : Nat → Int32) (g_arms : Nat → Int32) (g_from : Nat → Int32) (g_size : Int32) (r_arms : Int32) (r_root : Int32) : Nat → (Int32 × Int32 × Int32) → Option (Int32) :=
  lp (fun k v => g_X10_countRivals_17 fu p_size g_holder g_arms g_from g_size r_arms r_root (fun x1 x2 x3 => k (x1, x2, x3)) v.1 v.2.1 v.2.2)
set_option maxRecDepth 100000 in
set_option maxHeartbeats 4000000 in
theorem u_X10_countRivals_17 {fu : Nat} {Y : YT} {r : Int32}  (hX : CX l G cX10_countRivals 4 RX10 Y) (hQ : EQi G Y 0 0 .int r (WB G p_female p_born p_toldDeath p_lastYear p_father p_mother p_fatherGrade p_motherGrade p_size g_holder g_arms g_from g_size r_marks r_arms r_root r_steps r_grade r_marksAboveOne q_rows q_sizes t_bytes t_length s_tokens s_starts s_size a_code a_codeSize a_at a_token a_fault a_place o_texts o_names o_operands o_size o_open o_refuses o_differs o_fees c_years c_rows c_size x_faultPlace ++ fr))  (n : Nat) (v : Int32 × Int32 × Int32) (hf : f_X10_countRivals_17 fu p_size g_holder g_arms g_from g_size r_arms r_root n v = some r) : J l G (rmD 2 0 0) Y 0 0 17 [(0, .ref (gb G 0)), (1, .int v.1), (2, .int v.2.1), (3, .int v.2.2)] [] (WB G p_female p_born p_toldDeath p_lastYear p_father p_mother p_fatherGrade p_motherGrade p_size g_holder g_arms g_from g_size r_marks r_arms r_root r_steps r_grade r_marksAboveOne q_rows q_sizes t_bytes t_length s_tokens s_starts s_size a_code a_codeSize a_at a_token a_fault a_place o_texts o_names o_operands o_size o_open o_refuses o_differs o_fees c_years c_rows c_size x_faultPlace ++ fr) :=
  lp_ind (P := fun v : Int32 × Int32 × Int32 => J l G (rmD 2 0 0) Y 0 0 17 [(0, .ref (gb G 0)), (1, .int v.1), (2, .int v.2.1), (3, .int v.2.2)] [] (WB G p_female p_born p_toldDeath p_lastYear p_father p_mother p_fatherGrade p_motherGrade p_size g_holder g_arms g_from g_size r_marks r_arms r_root r_steps r_grade r_marksAboveOne q_rows q_sizes t_bytes t_length s_tokens s_starts s_size a_code a_codeSize a_at a_token a_fault a_place o_texts o_names o_operands o_size o_open o_refuses o_differs o_fees c_years c_rows c_size x_faultPlace ++ fr)) (fun k hk v hf => t_X10_countRivals_17 hX hQ   (fun x1 x2 x3 h => hk (x1, x2, x3) h) v.1 v.2.1 v.2.2 hf) n v hf
def f_X10_countRivals (fu : Nat) (p_size : Int32) (g_holder : Nat → Int32) (g_arms : Nat → Int32) (g_from : Nat → Int32) (g_size : Int32) (r_arms : Int32) (r_root : Int32) (x1 : Int32) : Option (Int32) :=
  if r_arms = ((-1)) then some 0 else f_X10_countRivals_17 fu p_size g_holder g_arms g_from g_size r_arms r_root fu (x1, 0, 0)
set_option maxRecDepth 100000 in
set_option maxHeartbeats 4000000 in
theorem t_X10_countRivals {fu : Nat}  (x1 : Int32) {r : Int32} (hf : f_X10_countRivals fu p_size g_holder g_arms g_from g_size r_arms r_root x1 = some r) : Ci l G 2 0 0 yX10_countRivals cX10_countRivals 4 .int [.ref (gb G 0), .int x1] (WB G p_female p_born p_toldDeath p_lastYear p_father p_mother p_fatherGrade p_motherGrade p_size g_holder g_arms g_from g_size r_marks r_arms r_root r_steps r_grade r_marksAboveOne q_rows q_sizes t_bytes t_length s_tokens s_starts s_size a_code a_codeSize a_at a_token a_fault a_place o_texts o_names o_operands o_size o_open o_refuses o_differs o_fees c_years c_rows c_size x_faultPlace ++ fr) r (WB G p_female p_born p_toldDeath p_lastYear p_father p_mother p_fatherGrade p_motherGrade p_size g_holder g_arms g_from g_size r_marks r_arms r_root r_steps r_grade r_marksAboveOne q_rows q_sizes t_bytes t_length s_tokens s_starts s_size a_code a_codeSize a_at a_token a_fault a_place o_texts o_names o_operands o_size o_open o_refuses o_differs o_fees c_years c_rows c_size x_faultPlace ++ fr) := by
  refine Ci.of (by decide) (Nat.le_of_ble_eq_true rfl) (fun Y hX hQ => ?_)
  refine j_lv (lv' := [(0, .ref (gb G 0)), (1, .int x1)]) rfl ?_
  unfold f_X10_countRivals at hf
  refine j_aload_n hX dX10_countRivals_0 1 rfl 0 rfl rfl ?_
  refine j_get hX dX10_countRivals_1 4 rfl fg_X10_26 0 rfl rfl ?_
  refine j_getN hX dX10_countRivals_4 7 rfl fn_X10_172 14 rfl rfl ?_
  refine j_iconst (v := (-1)) hX dX10_countRivals_7 8 rfl (by decide) ?_
  refine j_icmp_ne hX dX10_countRivals_8 11 13 rfl rfl (fun h1 => ?_) (fun h1 => ?_)
  · replace hf := itf h1 hf
    refine j_iconst (v := 0) hX dX10_countRivals_13 14 rfl (by decide) ?_
    refine j_istore_n hX dX10_countRivals_14 15 rfl rfl (by decide) (lv' := [(2, .int 0), (0, .ref (gb G 0)), (1, .int x1)]) rfl ?_
    refine j_iconst (v := 0) hX dX10_countRivals_15 16 rfl (by decide) ?_
    refine j_istore_n hX dX10_countRivals_16 17 rfl rfl (by decide) (lv' := [(3, .int 0), (2, .int 0), (0, .ref (gb G 0)), (1, .int x1)]) rfl ?_
    refine j_sub [2, 3, 1, 0] rfl ?_
    exact u_X10_countRivals_17 hX hQ   fu (x1, 0, 0) hf
  · replace hf := itt h1 hf
    refine j_iconst (v := 0) hX dX10_countRivals_11 12 rfl (by decide) ?_
    replace hf := Option.some.inj hf
    subst hf
    exact j_iret hX hQ dX10_countRivals_12
def f_X10_judge (fu : Nat) (p_female : Nat → Int32) (p_born : Nat → Int32) (p_lastYear : Nat → Int32) (p_father : Nat → Int32) (p_mother : Nat → Int32) (p_size : Int32) (g_holder : Nat → Int32) (g_arms : Nat → Int32) (g_from : Nat → Int32) (g_size : Int32) (r_arms : Int32) (r_root : Int32) (r_steps : Int32) (r_grade : Int32) (r_marksAboveOne : Int32) (o_size : Int32) (kT : Nat) (tN : Nat → Nat) (tF : Nat → Nat → Int32) (tY : Nat → Int32) (q_rows : Nat → Int32) (q_sizes : Nat → Int32) (o_names : Nat → Int32) (o_operands : Nat → Int32) (x1 : Int32) (x2 : Int32) : Option ((Nat → Int32) × (Nat → Int32) × (Nat → Int32) × (Nat → Int32) × Int32 × Int32 × Int32 × Int32) :=
  (f_X6_fill fu p_female p_born p_lastYear p_father p_mother p_size g_holder g_arms g_from g_size q_rows q_sizes x1 x2).bind fun v1 => (f_X2_setName o_names 100 r_grade).bind fun v2 => (f_X2_setName v2 101 r_steps).bind fun v3 => (f_X2_setName v3 102 x2).bind fun v4 => (f_X4_bornOf p_born p_size x1).bind fun v5 => (f_X2_setName v4 103 v5).bind fun v6 => (f_X4_isFemale p_female p_size x1).bind fun v7 => (f_X10_asInt v7).bind fun v8 => (f_X2_setName v6 104 v8).bind fun v9 => (f_X2_setName v9 105 r_marksAboveOne).bind fun v10 => (f_X10_countRivals fu p_size g_holder g_arms g_from g_size r_arms r_root x2).bind fun v11 => (f_X2_setName v10 106 v11).bind fun v12 => (f_X6_sizeOf v1.2 x1).bind fun v13 => (f_X2_setName v12 107 v13).bind fun v14 => (f_X2_judge fu v14 o_size kT tN tF tY o_operands x2).bind fun v15 => some (v1.1, v1.2, v14, v15.1, v15.2.1, v15.2.2.1, v15.2.2.2.1, v15.2.2.2.2)
set_option maxRecDepth 100000 in
set_option maxHeartbeats 4000000 in
theorem t_X10_judge {fu : Nat}  (x1 : Int32) (x2 : Int32) {r : (Nat → Int32) × (Nat → Int32) × (Nat → Int32) × (Nat → Int32) × Int32 × Int32 × Int32 × Int32} (hf : f_X10_judge fu p_female p_born p_lastYear p_father p_mother p_size g_holder g_arms g_from g_size r_arms r_root r_steps r_grade r_marksAboveOne o_size kT tN tF tY q_rows q_sizes o_names o_operands x1 x2 = some r) : Cv l G 6 0 0 yX10_judge cX10_judge 3 [.ref (gb G 0), .int x1, .int x2] (WB G p_female p_born p_toldDeath p_lastYear p_father p_mother p_fatherGrade p_motherGrade p_size g_holder g_arms g_from g_size r_marks r_arms r_root r_steps r_grade r_marksAboveOne q_rows q_sizes t_bytes t_length s_tokens s_starts s_size a_code a_codeSize a_at a_token a_fault a_place (txf kT tA) o_names o_operands o_size o_open o_refuses o_differs o_fees c_years c_rows c_size x_faultPlace ++ (TXw G kT tA tC tN tF tY ++ fr)) (WB G p_female p_born p_toldDeath p_lastYear p_father p_mother p_fatherGrade p_motherGrade p_size g_holder g_arms g_from g_size r_marks r_arms r_root r_steps r_grade r_marksAboveOne r.1 r.2.1 t_bytes t_length s_tokens s_starts s_size a_code a_codeSize a_at a_token a_fault a_place (txf kT tA) r.2.2.1 r.2.2.2.1 o_size r.2.2.2.2.1 r.2.2.2.2.2.1 r.2.2.2.2.2.2.1 r.2.2.2.2.2.2.2 c_years c_rows c_size x_faultPlace ++ (TXw G kT tA tC tN tF tY ++ fr)) := by
  refine Cv.of (by decide) (Nat.le_of_ble_eq_true rfl) (fun Y hX hQ => ?_)
  refine j_lv (lv' := [(0, .ref (gb G 0)), (1, .int x1), (2, .int x2)]) rfl ?_
  unfold f_X10_judge at hf
  refine j_aload_n hX dX10_judge_0 1 rfl 0 rfl rfl ?_
  refine j_get hX dX10_judge_1 4 rfl fg_X10_33 0 rfl rfl ?_
  refine j_aload_n hX dX10_judge_4 5 rfl 0 rfl rfl ?_
  refine j_get hX dX10_judge_5 8 rfl fg_X10_10 0 rfl rfl ?_
  refine j_aload_n hX dX10_judge_8 9 rfl 0 rfl rfl ?_
  refine j_get hX dX10_judge_9 12 rfl fg_X10_19 0 rfl rfl ?_
  refine j_iload_n hX dX10_judge_12 13 rfl 1 rfl rfl ?_
  refine j_iload_n hX dX10_judge_13 14 rfl 2 rfl rfl ?_
  obtain ⟨v1, hv1, hf⟩ := ibd hf
  refine z_v (As := [.ref (gb G 1), .ref (gb G 10), .int x1, .int x2]) (rest := []) (q0 := 16) hX dX10_judge_14 17 rfl (t_X6_fill x1 x2 hv1) mc_X6_fill mv_X6_fill ml_X10_214 rfl rfl (Nat.le_of_ble_eq_true rfl) (Nat.le_refl _) (Nat.le_refl _) rfl (Nat.le_of_ble_eq_true rfl) ?_
  refine j_aload_n hX dX10_judge_17 18 rfl 0 rfl rfl ?_
  refine j_get hX dX10_judge_18 21 rfl fg_X10_54 0 rfl rfl ?_
  refine j_bipush (v := 100) hX dX10_judge_21 23 rfl (by decide) ?_
  refine j_aload_n hX dX10_judge_23 24 rfl 0 rfl rfl ?_
  refine j_get hX dX10_judge_24 27 rfl fg_X10_26 0 rfl rfl ?_
  refine j_getN hX dX10_judge_27 30 rfl fn_X10_181 14 rfl rfl ?_
  obtain ⟨v2, hv2, hf⟩ := ibd hf
  refine z_v (As := [.int 100, .int r_grade]) (rest := []) (q0 := 26) hX dX10_judge_30 33 rfl (t_X2_setName 100 r_grade hv2) mc_X2_setName mv_X2_setName ml_X10_282 rfl rfl (Nat.le_of_ble_eq_true rfl) (Nat.le_refl _) (Nat.le_refl _) rfl (Nat.le_of_ble_eq_true rfl) ?_
  refine j_aload_n hX dX10_judge_33 34 rfl 0 rfl rfl ?_
  refine j_get hX dX10_judge_34 37 rfl fg_X10_54 0 rfl rfl ?_
  refine j_bipush (v := 101) hX dX10_judge_37 39 rfl (by decide) ?_
  refine j_aload_n hX dX10_judge_39 40 rfl 0 rfl rfl ?_
  refine j_get hX dX10_judge_40 43 rfl fg_X10_26 0 rfl rfl ?_
  refine j_getN hX dX10_judge_43 46 rfl fn_X10_178 14 rfl rfl ?_
  obtain ⟨v3, hv3, hf⟩ := ibd hf
  refine z_v (As := [.int 101, .int r_steps]) (rest := []) (q0 := 26) hX dX10_judge_46 49 rfl (t_X2_setName 101 r_steps hv3) mc_X2_setName mv_X2_setName ml_X10_282 rfl rfl (Nat.le_of_ble_eq_true rfl) (Nat.le_refl _) (Nat.le_refl _) rfl (Nat.le_of_ble_eq_true rfl) ?_
  refine j_aload_n hX dX10_judge_49 50 rfl 0 rfl rfl ?_
  refine j_get hX dX10_judge_50 53 rfl fg_X10_54 0 rfl rfl ?_
  refine j_bipush (v := 102) hX dX10_judge_53 55 rfl (by decide) ?_
  refine j_iload_n hX dX10_judge_55 56 rfl 2 rfl rfl ?_
  obtain ⟨v4, hv4, hf⟩ := ibd hf
  refine z_v (As := [.int 102, .int x2]) (rest := []) (q0 := 26) hX dX10_judge_56 59 rfl (t_X2_setName 102 x2 hv4) mc_X2_setName mv_X2_setName ml_X10_282 rfl rfl (Nat.le_of_ble_eq_true rfl) (Nat.le_refl _) (Nat.le_refl _) rfl (Nat.le_of_ble_eq_true rfl) ?_
  refine j_aload_n hX dX10_judge_59 60 rfl 0 rfl rfl ?_
  refine j_get hX dX10_judge_60 63 rfl fg_X10_54 0 rfl rfl ?_
  refine j_bipush (v := 103) hX dX10_judge_63 65 rfl (by decide) ?_
  refine j_aload_n hX dX10_judge_65 66 rfl 0 rfl rfl ?_
  refine j_get hX dX10_judge_66 69 rfl fg_X10_10 0 rfl rfl ?_
  refine j_iload_n hX dX10_judge_69 70 rfl 1 rfl rfl ?_
  obtain ⟨v5, hv5, hf⟩ := ibd hf
  refine z_i (As := [.int x1]) (rest := [.int 103, .ref (gb G 26)]) (q0 := 1) hX dX10_judge_70 73 rfl (t_X4_bornOf x1 hv5) mc_X4_bornOf mv_X4_bornOf ml_X10_137 rfl rfl (Nat.le_of_ble_eq_true rfl) (Nat.le_refl _) (Nat.le_refl _) rfl (Nat.le_of_ble_eq_true rfl) ?_
  obtain ⟨v6, hv6, hf⟩ := ibd hf
  refine z_v (As := [.int 103, .int v5]) (rest := []) (q0 := 26) hX dX10_judge_73 76 rfl (t_X2_setName 103 v5 hv6) mc_X2_setName mv_X2_setName ml_X10_282 rfl rfl (Nat.le_of_ble_eq_true rfl) (Nat.le_refl _) (Nat.le_refl _) rfl (Nat.le_of_ble_eq_true rfl) ?_
  refine j_aload_n hX dX10_judge_76 77 rfl 0 rfl rfl ?_
  refine j_get hX dX10_judge_77 80 rfl fg_X10_54 0 rfl rfl ?_
  refine j_bipush (v := 104) hX dX10_judge_80 82 rfl (by decide) ?_
  refine j_aload_n hX dX10_judge_82 83 rfl 0 rfl rfl ?_
  refine j_get hX dX10_judge_83 86 rfl fg_X10_10 0 rfl rfl ?_
  refine j_iload_n hX dX10_judge_86 87 rfl 1 rfl rfl ?_
  obtain ⟨v7, hv7, hf⟩ := ibd hf
  refine z_i (As := [.int x1]) (rest := [.int 104, .ref (gb G 26)]) (q0 := 1) hX dX10_judge_87 90 rfl (t_X4_isFemale x1 hv7) mc_X4_isFemale mv_X4_isFemale ml_X10_156 rfl rfl (Nat.le_of_ble_eq_true rfl) (Nat.le_refl _) (Nat.le_refl _) rfl (Nat.le_of_ble_eq_true rfl) ?_
  obtain ⟨v8, hv8, hf⟩ := ibd hf
  refine z_si (As := [.int v7]) (rest := [.int 104, .ref (gb G 26)]) hX dX10_judge_90 93 rfl (t_X10_asInt v7 hv8) mc_X10_asInt ms_X10_asInt ml_X10_159 (Nat.le_of_ble_eq_true rfl) (Nat.le_refl _) (Nat.le_refl _) rfl (Nat.le_of_ble_eq_true rfl) ?_
  obtain ⟨v9, hv9, hf⟩ := ibd hf
  refine z_v (As := [.int 104, .int v8]) (rest := []) (q0 := 26) hX dX10_judge_93 96 rfl (t_X2_setName 104 v8 hv9) mc_X2_setName mv_X2_setName ml_X10_282 rfl rfl (Nat.le_of_ble_eq_true rfl) (Nat.le_refl _) (Nat.le_refl _) rfl (Nat.le_of_ble_eq_true rfl) ?_
  refine j_aload_n hX dX10_judge_96 97 rfl 0 rfl rfl ?_
  refine j_get hX dX10_judge_97 100 rfl fg_X10_54 0 rfl rfl ?_
  refine j_bipush (v := 105) hX dX10_judge_100 102 rfl (by decide) ?_
  refine j_aload_n hX dX10_judge_102 103 rfl 0 rfl rfl ?_
  refine j_get hX dX10_judge_103 106 rfl fg_X10_26 0 rfl rfl ?_
  refine j_getN hX dX10_judge_106 109 rfl fn_X10_285 14 rfl rfl ?_
  obtain ⟨v10, hv10, hf⟩ := ibd hf
  refine z_v (As := [.int 105, .int r_marksAboveOne]) (rest := []) (q0 := 26) hX dX10_judge_109 112 rfl (t_X2_setName 105 r_marksAboveOne hv10) mc_X2_setName mv_X2_setName ml_X10_282 rfl rfl (Nat.le_of_ble_eq_true rfl) (Nat.le_refl _) (Nat.le_refl _) rfl (Nat.le_of_ble_eq_true rfl) ?_
  refine j_aload_n hX dX10_judge_112 113 rfl 0 rfl rfl ?_
  refine j_get hX dX10_judge_113 116 rfl fg_X10_54 0 rfl rfl ?_
  refine j_bipush (v := 106) hX dX10_judge_116 118 rfl (by decide) ?_
  refine j_aload_n hX dX10_judge_118 119 rfl 0 rfl rfl ?_
  refine j_iload_n hX dX10_judge_119 120 rfl 2 rfl rfl ?_
  obtain ⟨v11, hv11, hf⟩ := ibd hf
  refine z_i (As := [.int x2]) (rest := [.int 106, .ref (gb G 26)]) (q0 := 0) hX dX10_judge_120 123 rfl (t_X10_countRivals x2 hv11) mc_X10_countRivals mv_X10_countRivals ml_X10_239 rfl rfl (Nat.le_of_ble_eq_true rfl) (Nat.le_refl _) (Nat.le_refl _) rfl (Nat.le_of_ble_eq_true rfl) ?_
  obtain ⟨v12, hv12, hf⟩ := ibd hf
  refine z_v (As := [.int 106, .int v11]) (rest := []) (q0 := 26) hX dX10_judge_123 126 rfl (t_X2_setName 106 v11 hv12) mc_X2_setName mv_X2_setName ml_X10_282 rfl rfl (Nat.le_of_ble_eq_true rfl) (Nat.le_refl _) (Nat.le_refl _) rfl (Nat.le_of_ble_eq_true rfl) ?_
  refine j_aload_n hX dX10_judge_126 127 rfl 0 rfl rfl ?_
  refine j_get hX dX10_judge_127 130 rfl fg_X10_54 0 rfl rfl ?_
  refine j_bipush (v := 107) hX dX10_judge_130 132 rfl (by decide) ?_
  refine j_aload_n hX dX10_judge_132 133 rfl 0 rfl rfl ?_
  refine j_get hX dX10_judge_133 136 rfl fg_X10_33 0 rfl rfl ?_
  refine j_iload_n hX dX10_judge_136 137 rfl 1 rfl rfl ?_
  obtain ⟨v13, hv13, hf⟩ := ibd hf
  refine z_i (As := [.int x1]) (rest := [.int 107, .ref (gb G 26)]) (q0 := 16) hX dX10_judge_137 140 rfl (t_X6_sizeOf x1 hv13) mc_X6_sizeOf mv_X6_sizeOf ml_X10_217 rfl rfl (Nat.le_of_ble_eq_true rfl) (Nat.le_refl _) (Nat.le_refl _) rfl (Nat.le_of_ble_eq_true rfl) ?_
  obtain ⟨v14, hv14, hf⟩ := ibd hf
  refine z_v (As := [.int 107, .int v13]) (rest := []) (q0 := 26) hX dX10_judge_140 143 rfl (t_X2_setName 107 v13 hv14) mc_X2_setName mv_X2_setName ml_X10_282 rfl rfl (Nat.le_of_ble_eq_true rfl) (Nat.le_refl _) (Nat.le_refl _) rfl (Nat.le_of_ble_eq_true rfl) ?_
  refine j_aload_n hX dX10_judge_143 144 rfl 0 rfl rfl ?_
  refine j_get hX dX10_judge_144 147 rfl fg_X10_54 0 rfl rfl ?_
  refine j_iload_n hX dX10_judge_147 148 rfl 2 rfl rfl ?_
  obtain ⟨v15, hv15, hf⟩ := ibd hf
  refine z_v (As := [.int x2]) (rest := []) (q0 := 26) hX dX10_judge_148 151 rfl (t_X2_judge x2 hv15) mc_X2_judge mv_X2_judge ml_X10_288 rfl rfl (Nat.le_of_ble_eq_true rfl) (Nat.le_refl _) (Nat.le_refl _) rfl (Nat.le_of_ble_eq_true rfl) ?_
  replace hf := Option.some.inj hf
  subst hf
  exact j_vret hX hQ dX10_judge_151
def f_X10_claim_x (p_size : Int32) (r_marks : Nat → Int32) (r_arms : Int32) (r_root : Int32) (r_steps : Int32) (r_grade : Int32) (r_marksAboveOne : Int32) (q_rows : Nat → Int32) (q_sizes : Nat → Int32) (o_names : Nat → Int32) (o_operands : Nat → Int32) (o_open : Int32) (o_refuses : Int32) (o_differs : Int32) (o_fees : Int32) (x1 : Int32) : Option ((Nat → Int32) × Int32 × Int32 × Int32 × Int32 × Int32 × (Nat → Int32) × (Nat → Int32) × (Nat → Int32) × (Nat → Int32) × Int32 × Int32 × Int32 × Int32) :=
  orx (f_X10_requirePerson_x p_size x1) (fun _ => some (r_marks, r_arms, r_root, r_steps, r_grade, r_marksAboveOne, q_rows, q_sizes, o_names, o_operands, o_open, o_refuses, o_differs, o_fees)) ((f_X10_requirePerson p_size x1).bind fun v2 => none)
set_option maxRecDepth 100000 in
set_option maxHeartbeats 4000000 in
theorem t_X10_claim_x  (x1 : Int32) (x2 : Int32) (x3 : Int32) {r : (Nat → Int32) × Int32 × Int32 × Int32 × Int32 × Int32 × (Nat → Int32) × (Nat → Int32) × (Nat → Int32) × (Nat → Int32) × Int32 × Int32 × Int32 × Int32} (hf : f_X10_claim_x p_size r_marks r_arms r_root r_steps r_grade r_marksAboveOne q_rows q_sizes o_names o_operands o_open o_refuses o_differs o_fees x1 = some r) : Xt l G 8 1 6 yX10_claim cX10_claim 4 (some .int) [.ref (gb G 0), .int x1, .int x2, .int x3] (WB G p_female p_born p_toldDeath p_lastYear p_father p_mother p_fatherGrade p_motherGrade p_size g_holder g_arms g_from g_size r_marks r_arms r_root r_steps r_grade r_marksAboveOne q_rows q_sizes t_bytes t_length s_tokens s_starts s_size a_code a_codeSize a_at a_token a_fault a_place (txf kT tA) o_names o_operands o_size o_open o_refuses o_differs o_fees c_years c_rows c_size x_faultPlace ++ (TXw G kT tA tC tN tF tY ++ fr)) (WB G p_female p_born p_toldDeath p_lastYear p_father p_mother p_fatherGrade p_motherGrade p_size g_holder g_arms g_from g_size r.1 r.2.1 r.2.2.1 r.2.2.2.1 r.2.2.2.2.1 r.2.2.2.2.2.1 r.2.2.2.2.2.2.1 r.2.2.2.2.2.2.2.1 t_bytes t_length s_tokens s_starts s_size a_code a_codeSize a_at a_token a_fault a_place (txf kT tA) r.2.2.2.2.2.2.2.2.1 r.2.2.2.2.2.2.2.2.2.1 o_size r.2.2.2.2.2.2.2.2.2.2.1 r.2.2.2.2.2.2.2.2.2.2.2.1 r.2.2.2.2.2.2.2.2.2.2.2.2.1 r.2.2.2.2.2.2.2.2.2.2.2.2.2 c_years c_rows c_size x_faultPlace ++ (TXw G kT tA tC tN tF tY ++ fr)) xNS := by
  refine Xt.of (by decide) (Nat.le_of_ble_eq_true rfl) (fun Y hX hQ => ?_)
  refine j_lv (lv' := [(0, .ref (gb G 0)), (1, .int x1), (2, .int x2), (3, .int x3)]) rfl ?_
  unfold f_X10_claim_x at hf
  refine j_aload_n hX dX10_claim_0 1 rfl 0 rfl rfl ?_
  refine j_iload_n hX dX10_claim_1 2 rfl 1 rfl rfl ?_
  rcases orx_c hf with ⟨v1, hv1, hf⟩ | hf
  · replace hf := Option.some.inj hf
    subst hf
    exact jx_prop (As := [.int x1]) (rest := []) (q0 := 0) hX hQ dX10_claim_2 (t_X10_requirePerson_x x1 hv1) mc_X10_requirePerson mv_X10_requirePerson ml_X10_73 rfl rfl (Nat.le_of_ble_eq_true rfl) rfl (Nat.le_of_ble_eq_true rfl)
  obtain ⟨v2, hv2, hf⟩ := ibd hf
  refine z_v (As := [.int x1]) (rest := []) (q0 := 0) hX dX10_claim_2 5 rfl (t_X10_requirePerson x1 hv2) mc_X10_requirePerson mv_X10_requirePerson ml_X10_73 rfl rfl (Nat.le_of_ble_eq_true rfl) (Nat.zero_le _) (Nat.zero_le _) rfl (Nat.le_of_ble_eq_true rfl) ?_
  exact (Option.some_ne_none _ hf.symm).elim
def g_X10_claim_44 (r_marks : Nat → Int32) (r_arms : Int32) (r_root : Int32) (r_steps : Int32) (r_grade : Int32) (r_marksAboveOne : Int32) (q_rows : Nat → Int32) (q_sizes : Nat → Int32) (o_names : Nat → Int32) (o_operands : Nat → Int32) (o_open : Int32) (o_refuses : Int32) (o_differs : Int32) (o_fees : Int32) : Option (Int32 × (Nat → Int32) × Int32 × Int32 × Int32 × Int32 × Int32 × (Nat → Int32) × (Nat → Int32) × (Nat → Int32) × (Nat → Int32) × Int32 × Int32 × Int32 × Int32) :=
  some (1, r_marks, r_arms, r_root, r_steps, r_grade, r_marksAboveOne, q_rows, q_sizes, o_names, o_operands, o_open, o_refuses, o_differs, o_fees)
set_option maxRecDepth 100000 in
set_option maxHeartbeats 4000000 in
theorem t_X10_claim_44 {Y : YT} {r : Int32 × (Nat → Int32) × Int32 × Int32 × Int32 × Int32 × Int32 × (Nat → Int32) × (Nat → Int32) × (Nat → Int32) × (Nat → Int32) × Int32 × Int32 × Int32 × Int32}  (hX : CX l G cX10_claim 4 RX10 Y) (hQ : EQi G Y 0 0 .int r.1 (WB G p_female p_born p_toldDeath p_lastYear p_father p_mother p_fatherGrade p_motherGrade p_size g_holder g_arms g_from g_size r.2.1 r.2.2.1 r.2.2.2.1 r.2.2.2.2.1 r.2.2.2.2.2.1 r.2.2.2.2.2.2.1 r.2.2.2.2.2.2.2.1 r.2.2.2.2.2.2.2.2.1 t_bytes t_length s_tokens s_starts s_size a_code a_codeSize a_at a_token a_fault a_place (txf kT tA) r.2.2.2.2.2.2.2.2.2.1 r.2.2.2.2.2.2.2.2.2.2.1 o_size r.2.2.2.2.2.2.2.2.2.2.2.1 r.2.2.2.2.2.2.2.2.2.2.2.2.1 r.2.2.2.2.2.2.2.2.2.2.2.2.2.1 r.2.2.2.2.2.2.2.2.2.2.2.2.2.2 c_years c_rows c_size x_faultPlace ++ (TXw G kT tA tC tN tF tY ++ fr)))   (hf : g_X10_claim_44 r_marks r_arms r_root r_steps r_grade r_marksAboveOne q_rows q_sizes o_names o_operands o_open o_refuses o_differs o_fees = some r) : J l G (rmD 8 0 0) Y 0 0 44 [] [] (WB G p_female p_born p_toldDeath p_lastYear p_father p_mother p_fatherGrade p_motherGrade p_size g_holder g_arms g_from g_size r_marks r_arms r_root r_steps r_grade r_marksAboveOne q_rows q_sizes t_bytes t_length s_tokens s_starts s_size a_code a_codeSize a_at a_token a_fault a_place (txf kT tA) o_names o_operands o_size o_open o_refuses o_differs o_fees c_years c_rows c_size x_faultPlace ++ (TXw G kT tA tC tN tF tY ++ fr)) := by
  unfold g_X10_claim_44 at hf
  refine j_iconst (v := 1) hX dX10_claim_44 45 rfl (by decide) ?_
  replace hf := Option.some.inj hf
  subst hf
  exact j_iret hX hQ dX10_claim_45
def g_X10_claim_103 (r_marks : Nat → Int32) (r_arms : Int32) (r_root : Int32) (r_steps : Int32) (r_grade : Int32) (r_marksAboveOne : Int32) (q_rows : Nat → Int32) (q_sizes : Nat → Int32) (o_names : Nat → Int32) (o_operands : Nat → Int32) (o_open : Int32) (o_refuses : Int32) (o_differs : Int32) (o_fees : Int32) (s0 : Int32) : Option (Int32 × (Nat → Int32) × Int32 × Int32 × Int32 × Int32 × Int32 × (Nat → Int32) × (Nat → Int32) × (Nat → Int32) × (Nat → Int32) × Int32 × Int32 × Int32 × Int32) :=
  some (s0, r_marks, r_arms, r_root, r_steps, r_grade, r_marksAboveOne, q_rows, q_sizes, o_names, o_operands, o_open, o_refuses, o_differs, o_fees)
set_option maxRecDepth 100000 in
set_option maxHeartbeats 4000000 in
theorem t_X10_claim_103 {Y : YT} {r : Int32 × (Nat → Int32) × Int32 × Int32 × Int32 × Int32 × Int32 × (Nat → Int32) × (Nat → Int32) × (Nat → Int32) × (Nat → Int32) × Int32 × Int32 × Int32 × Int32}  (hX : CX l G cX10_claim 4 RX10 Y) (hQ : EQi G Y 0 0 .int r.1 (WB G p_female p_born p_toldDeath p_lastYear p_father p_mother p_fatherGrade p_motherGrade p_size g_holder g_arms g_from g_size r.2.1 r.2.2.1 r.2.2.2.1 r.2.2.2.2.1 r.2.2.2.2.2.1 r.2.2.2.2.2.2.1 r.2.2.2.2.2.2.2.1 r.2.2.2.2.2.2.2.2.1 t_bytes t_length s_tokens s_starts s_size a_code a_codeSize a_at a_token a_fault a_place (txf kT tA) r.2.2.2.2.2.2.2.2.2.1 r.2.2.2.2.2.2.2.2.2.2.1 o_size r.2.2.2.2.2.2.2.2.2.2.2.1 r.2.2.2.2.2.2.2.2.2.2.2.2.1 r.2.2.2.2.2.2.2.2.2.2.2.2.2.1 r.2.2.2.2.2.2.2.2.2.2.2.2.2.2 c_years c_rows c_size x_faultPlace ++ (TXw G kT tA tC tN tF tY ++ fr)))  (s0 : Int32) (hf : g_X10_claim_103 r_marks r_arms r_root r_steps r_grade r_marksAboveOne q_rows q_sizes o_names o_operands o_open o_refuses o_differs o_fees s0 = some r) : J l G (rmD 8 0 0) Y 0 0 103 [] [.int s0] (WB G p_female p_born p_toldDeath p_lastYear p_father p_mother p_fatherGrade p_motherGrade p_size g_holder g_arms g_from g_size r_marks r_arms r_root r_steps r_grade r_marksAboveOne q_rows q_sizes t_bytes t_length s_tokens s_starts s_size a_code a_codeSize a_at a_token a_fault a_place (txf kT tA) o_names o_operands o_size o_open o_refuses o_differs o_fees c_years c_rows c_size x_faultPlace ++ (TXw G kT tA tC tN tF tY ++ fr)) := by
  unfold g_X10_claim_103 at hf
  replace hf := Option.some.inj hf
  subst hf
  exact j_iret hX hQ dX10_claim_103
def g_X10_claim_102 (r_marks : Nat → Int32) (r_arms : Int32) (r_root : Int32) (r_steps : Int32) (r_grade : Int32) (r_marksAboveOne : Int32) (q_rows : Nat → Int32) (q_sizes : Nat → Int32) (o_names : Nat → Int32) (o_operands : Nat → Int32) (o_open : Int32) (o_refuses : Int32) (o_differs : Int32) (o_fees : Int32) : Option (Int32 × (Nat → Int32) × Int32 × Int32 × Int32 × Int32 × Int32 × (Nat → Int32) × (Nat → Int32) × (Nat → Int32) × (Nat → Int32) × Int32 × Int32 × Int32 × Int32) :=
  g_X10_claim_103 r_marks r_arms r_root r_steps r_grade r_marksAboveOne q_rows q_sizes o_names o_operands o_open o_refuses o_differs o_fees 0
set_option maxRecDepth 100000 in
set_option maxHeartbeats 4000000 in
theorem t_X10_claim_102 {Y : YT} {r : Int32 × (Nat → Int32) × Int32 × Int32 × Int32 × Int32 × Int32 × (Nat → Int32) × (Nat → Int32) × (Nat → Int32) × (Nat → Int32) × Int32 × Int32 × Int32 × Int32}  (hX : CX l G cX10_claim 4 RX10 Y) (hQ : EQi G Y 0 0 .int r.1 (WB G p_female p_born p_toldDeath p_lastYear p_father p_mother p_fatherGrade p_motherGrade p_size g_holder g_arms g_from g_size r.2.1 r.2.2.1 r.2.2.2.1 r.2.2.2.2.1 r.2.2.2.2.2.1 r.2.2.2.2.2.2.1 r.2.2.2.2.2.2.2.1 r.2.2.2.2.2.2.2.2.1 t_bytes t_length s_tokens s_starts s_size a_code a_codeSize a_at a_token a_fault a_place (txf kT tA) r.2.2.2.2.2.2.2.2.2.1 r.2.2.2.2.2.2.2.2.2.2.1 o_size r.2.2.2.2.2.2.2.2.2.2.2.1 r.2.2.2.2.2.2.2.2.2.2.2.2.1 r.2.2.2.2.2.2.2.2.2.2.2.2.2.1 r.2.2.2.2.2.2.2.2.2.2.2.2.2.2 c_years c_rows c_size x_faultPlace ++ (TXw G kT tA tC tN tF tY ++ fr)))   (hf : g_X10_claim_102 r_marks r_arms r_root r_steps r_grade r_marksAboveOne q_rows q_sizes o_names o_operands o_open o_refuses o_differs o_fees = some r) : J l G (rmD 8 0 0) Y 0 0 102 [] [] (WB G p_female p_born p_toldDeath p_lastYear p_father p_mother p_fatherGrade p_motherGrade p_size g_holder g_arms g_from g_size r_marks r_arms r_root r_steps r_grade r_marksAboveOne q_rows q_sizes t_bytes t_length s_tokens s_starts s_size a_code a_codeSize a_at a_token a_fault a_place (txf kT tA) o_names o_operands o_size o_open o_refuses o_differs o_fees c_years c_rows c_size x_faultPlace ++ (TXw G kT tA tC tN tF tY ++ fr)) := by
  unfold g_X10_claim_102 at hf
  refine j_iconst (v := 0) hX dX10_claim_102 103 rfl (by decide) ?_
  exact t_X10_claim_103 hX hQ   0 hf
def f_X10_claim (fu : Nat) (p_female : Nat → Int32) (p_born : Nat → Int32) (p_lastYear : Nat → Int32) (p_father : Nat → Int32) (p_mother : Nat → Int32) (p_fatherGrade : Nat → Int32) (p_size : Int32) (g_holder : Nat → Int32) (g_arms : Nat → Int32) (g_from : Nat → Int32) (g_size : Int32) (o_size : Int32) (kT : Nat) (tN : Nat → Nat) (tF : Nat → Nat → Int32) (tY : Nat → Int32) (r_marks : Nat → Int32) (q_rows : Nat → Int32) (q_sizes : Nat → Int32) (o_names : Nat → Int32) (o_operands : Nat → Int32) (o_open : Int32) (o_refuses : Int32) (o_differs : Int32) (o_fees : Int32) (x1 : Int32) (x2 : Int32) (x3 : Int32) : Option (Int32 × (Nat → Int32) × Int32 × Int32 × Int32 × Int32 × Int32 × (Nat → Int32) × (Nat → Int32) × (Nat → Int32) × (Nat → Int32) × Int32 × Int32 × Int32 × Int32) :=
  (f_X10_requirePerson p_size x1).bind fun v1 => (f_X5_find fu p_female p_born p_lastYear p_father p_fatherGrade p_size g_holder g_arms g_from g_size r_marks x1 x3).bind fun v2 => if v2.2.1 = ((-1)) then g_X10_claim_44 v2.1 v2.2.1 v2.2.2.1 v2.2.2.2.1 v2.2.2.2.2.1 v2.2.2.2.2.2 q_rows q_sizes o_names o_operands o_open o_refuses o_differs o_fees else if v2.2.1 = x2 then (f_X4_isLiving p_born p_lastYear p_size x1 x3).bind fun v5 => if v5 = 0 then some (2, v2.1, v2.2.1, v2.2.2.1, v2.2.2.2.1, v2.2.2.2.2.1, v2.2.2.2.2.2, q_rows, q_sizes, o_names, o_operands, o_open, o_refuses, o_differs, o_fees) else (f_X10_judge fu p_female p_born p_lastYear p_father p_mother p_size g_holder g_arms g_from g_size v2.2.1 v2.2.2.1 v2.2.2.2.1 v2.2.2.2.2.1 v2.2.2.2.2.2 o_size kT tN tF tY q_rows q_sizes o_names o_operands x1 x3).bind fun v7 => if v7.2.2.2.2.2.1 = 0 then if v7.2.2.2.2.2.2.1 = 0 then g_X10_claim_102 v2.1 v2.2.1 v2.2.2.1 v2.2.2.2.1 v2.2.2.2.2.1 v2.2.2.2.2.2 v7.1 v7.2.1 v7.2.2.1 v7.2.2.2.1 v7.2.2.2.2.1 v7.2.2.2.2.2.1 v7.2.2.2.2.2.2.1 v7.2.2.2.2.2.2.2 else (f_X5_isPlain v2.2.1 v2.2.2.2.2.2).bind fun v10 => if v10 = 0 then g_X10_claim_103 v2.1 v2.2.1 v2.2.2.1 v2.2.2.2.1 v2.2.2.2.2.1 v2.2.2.2.2.2 v7.1 v7.2.1 v7.2.2.1 v7.2.2.2.1 v7.2.2.2.2.1 v7.2.2.2.2.2.1 v7.2.2.2.2.2.2.1 v7.2.2.2.2.2.2.2 4 else g_X10_claim_102 v2.1 v2.2.1 v2.2.2.1 v2.2.2.2.1 v2.2.2.2.2.1 v2.2.2.2.2.2 v7.1 v7.2.1 v7.2.2.1 v7.2.2.2.1 v7.2.2.2.2.1 v7.2.2.2.2.2.1 v7.2.2.2.2.2.2.1 v7.2.2.2.2.2.2.2 else some (3, v2.1, v2.2.1, v2.2.2.1, v2.2.2.2.1, v2.2.2.2.2.1, v2.2.2.2.2.2, v7.1, v7.2.1, v7.2.2.1, v7.2.2.2.1, v7.2.2.2.2.1, v7.2.2.2.2.2.1, v7.2.2.2.2.2.2.1, v7.2.2.2.2.2.2.2) else g_X10_claim_44 v2.1 v2.2.1 v2.2.2.1 v2.2.2.2.1 v2.2.2.2.2.1 v2.2.2.2.2.2 q_rows q_sizes o_names o_operands o_open o_refuses o_differs o_fees
set_option maxRecDepth 100000 in
set_option maxHeartbeats 4000000 in
theorem t_X10_claim {fu : Nat}  (x1 : Int32) (x2 : Int32) (x3 : Int32) {r : Int32 × (Nat → Int32) × Int32 × Int32 × Int32 × Int32 × Int32 × (Nat → Int32) × (Nat → Int32) × (Nat → Int32) × (Nat → Int32) × Int32 × Int32 × Int32 × Int32} (hf : f_X10_claim fu p_female p_born p_lastYear p_father p_mother p_fatherGrade p_size g_holder g_arms g_from g_size o_size kT tN tF tY r_marks q_rows q_sizes o_names o_operands o_open o_refuses o_differs o_fees x1 x2 x3 = some r) : Ci l G 8 0 0 yX10_claim cX10_claim 4 .int [.ref (gb G 0), .int x1, .int x2, .int x3] (WB G p_female p_born p_toldDeath p_lastYear p_father p_mother p_fatherGrade p_motherGrade p_size g_holder g_arms g_from g_size r_marks r_arms r_root r_steps r_grade r_marksAboveOne q_rows q_sizes t_bytes t_length s_tokens s_starts s_size a_code a_codeSize a_at a_token a_fault a_place (txf kT tA) o_names o_operands o_size o_open o_refuses o_differs o_fees c_years c_rows c_size x_faultPlace ++ (TXw G kT tA tC tN tF tY ++ fr)) r.1 (WB G p_female p_born p_toldDeath p_lastYear p_father p_mother p_fatherGrade p_motherGrade p_size g_holder g_arms g_from g_size r.2.1 r.2.2.1 r.2.2.2.1 r.2.2.2.2.1 r.2.2.2.2.2.1 r.2.2.2.2.2.2.1 r.2.2.2.2.2.2.2.1 r.2.2.2.2.2.2.2.2.1 t_bytes t_length s_tokens s_starts s_size a_code a_codeSize a_at a_token a_fault a_place (txf kT tA) r.2.2.2.2.2.2.2.2.2.1 r.2.2.2.2.2.2.2.2.2.2.1 o_size r.2.2.2.2.2.2.2.2.2.2.2.1 r.2.2.2.2.2.2.2.2.2.2.2.2.1 r.2.2.2.2.2.2.2.2.2.2.2.2.2.1 r.2.2.2.2.2.2.2.2.2.2.2.2.2.2 c_years c_rows c_size x_faultPlace ++ (TXw G kT tA tC tN tF tY ++ fr)) := by
  refine Ci.of (by decide) (Nat.le_of_ble_eq_true rfl) (fun Y hX hQ => ?_)
  refine j_lv (lv' := [(0, .ref (gb G 0)), (1, .int x1), (2, .int x2), (3, .int x3)]) rfl ?_
  unfold f_X10_claim at hf
  refine j_aload_n hX dX10_claim_0 1 rfl 0 rfl rfl ?_
  refine j_iload_n hX dX10_claim_1 2 rfl 1 rfl rfl ?_
  obtain ⟨v1, hv1, hf⟩ := ibd hf
  refine z_v (As := [.int x1]) (rest := []) (q0 := 0) hX dX10_claim_2 5 rfl (t_X10_requirePerson x1 hv1) mc_X10_requirePerson mv_X10_requirePerson ml_X10_73 rfl rfl (Nat.le_of_ble_eq_true rfl) (Nat.le_refl _) (Nat.le_refl _) rfl (Nat.le_of_ble_eq_true rfl) ?_
  refine j_aload_n hX dX10_claim_5 6 rfl 0 rfl rfl ?_
  refine j_get hX dX10_claim_6 9 rfl fg_X10_26 0 rfl rfl ?_
  refine j_aload_n hX dX10_claim_9 10 rfl 0 rfl rfl ?_
  refine j_get hX dX10_claim_10 13 rfl fg_X10_10 0 rfl rfl ?_
  refine j_aload_n hX dX10_claim_13 14 rfl 0 rfl rfl ?_
  refine j_get hX dX10_claim_14 17 rfl fg_X10_19 0 rfl rfl ?_
  refine j_iload_n hX dX10_claim_17 18 rfl 1 rfl rfl ?_
  refine j_iload_n hX dX10_claim_18 19 rfl 3 rfl rfl ?_
  obtain ⟨v2, hv2, hf⟩ := ibd hf
  refine z_v (As := [.ref (gb G 1), .ref (gb G 10), .int x1, .int x3]) (rest := []) (q0 := 14) hX dX10_claim_19 22 rfl (t_X5_find x1 x3 hv2) mc_X5_find mv_X5_find ml_X10_168 rfl rfl (Nat.le_of_ble_eq_true rfl) (Nat.le_refl _) (Nat.le_refl _) rfl (Nat.le_of_ble_eq_true rfl) ?_
  refine j_aload_n hX dX10_claim_22 23 rfl 0 rfl rfl ?_
  refine j_get hX dX10_claim_23 26 rfl fg_X10_26 0 rfl rfl ?_
  refine j_getN hX dX10_claim_26 29 rfl fn_X10_172 14 rfl rfl ?_
  refine j_iconst (v := (-1)) hX dX10_claim_29 30 rfl (by decide) ?_
  refine j_icmp_eq hX dX10_claim_30 33 44 rfl rfl (fun h3 => ?_) (fun h3 => ?_)
  · replace hf := itt h3 hf
    refine j_sub [] rfl ?_
    exact t_X10_claim_44 hX hQ    hf
  · replace hf := itf h3 hf
    refine j_aload_n hX dX10_claim_33 34 rfl 0 rfl rfl ?_
    refine j_get hX dX10_claim_34 37 rfl fg_X10_26 0 rfl rfl ?_
    refine j_getN hX dX10_claim_37 40 rfl fn_X10_172 14 rfl rfl ?_
    refine j_iload_n hX dX10_claim_40 41 rfl 2 rfl rfl ?_
    refine j_icmp_eq hX dX10_claim_41 44 46 rfl rfl (fun h4 => ?_) (fun h4 => ?_)
    · replace hf := itt h4 hf
      refine j_aload_n hX dX10_claim_46 47 rfl 0 rfl rfl ?_
      refine j_get hX dX10_claim_47 50 rfl fg_X10_10 0 rfl rfl ?_
      refine j_iload_n hX dX10_claim_50 51 rfl 1 rfl rfl ?_
      refine j_iload_n hX dX10_claim_51 52 rfl 3 rfl rfl ?_
      obtain ⟨v5, hv5, hf⟩ := ibd hf
      refine z_i (As := [.int x1, .int x3]) (rest := []) (q0 := 1) hX dX10_claim_52 55 rfl (t_X4_isLiving x1 x3 hv5) mc_X4_isLiving mv_X4_isLiving ml_X10_184 rfl rfl (Nat.le_of_ble_eq_true rfl) (Nat.le_refl _) (Nat.le_refl _) rfl (Nat.le_of_ble_eq_true rfl) ?_
      refine j_if_ne hX dX10_claim_55 58 60 rfl rfl (fun h6 => ?_) (fun h6 => ?_)
      · replace hf := itf h6 hf
        refine j_aload_n hX dX10_claim_60 61 rfl 0 rfl rfl ?_
        refine j_iload_n hX dX10_claim_61 62 rfl 1 rfl rfl ?_
        refine j_iload_n hX dX10_claim_62 63 rfl 3 rfl rfl ?_
        obtain ⟨v7, hv7, hf⟩ := ibd hf
        refine z_v (As := [.int x1, .int x3]) (rest := []) (q0 := 0) hX dX10_claim_63 66 rfl (t_X10_judge x1 x3 hv7) mc_X10_judge mv_X10_judge ml_X10_225 rfl rfl (Nat.le_of_ble_eq_true rfl) (Nat.le_refl _) (Nat.le_refl _) rfl (Nat.le_of_ble_eq_true rfl) ?_
        refine j_aload_n hX dX10_claim_66 67 rfl 0 rfl rfl ?_
        refine j_get hX dX10_claim_67 70 rfl fg_X10_54 0 rfl rfl ?_
        refine j_getN hX dX10_claim_70 73 rfl fn_X10_229 26 rfl rfl ?_
        refine j_if_eq hX dX10_claim_73 76 78 rfl rfl (fun h8 => ?_) (fun h8 => ?_)
        · replace hf := itt h8 hf
          refine j_aload_n hX dX10_claim_78 79 rfl 0 rfl rfl ?_
          refine j_get hX dX10_claim_79 82 rfl fg_X10_54 0 rfl rfl ?_
          refine j_getN hX dX10_claim_82 85 rfl fn_X10_233 26 rfl rfl ?_
          refine j_if_eq hX dX10_claim_85 88 102 rfl rfl (fun h9 => ?_) (fun h9 => ?_)
          · replace hf := itt h9 hf
            refine j_sub [] rfl ?_
            exact t_X10_claim_102 hX hQ    hf
          · replace hf := itf h9 hf
            refine j_aload_n hX dX10_claim_88 89 rfl 0 rfl rfl ?_
            refine j_get hX dX10_claim_89 92 rfl fg_X10_26 0 rfl rfl ?_
            obtain ⟨v10, hv10, hf⟩ := ibd hf
            refine z_i (As := []) (rest := []) (q0 := 14) hX dX10_claim_92 95 rfl (t_X5_isPlain  hv10) mc_X5_isPlain mv_X5_isPlain ml_X10_200 rfl rfl (Nat.le_of_ble_eq_true rfl) (Nat.le_refl _) (Nat.le_refl _) rfl (Nat.le_of_ble_eq_true rfl) ?_
            refine j_if_ne hX dX10_claim_95 98 102 rfl rfl (fun h11 => ?_) (fun h11 => ?_)
            · replace hf := itf h11 hf
              refine j_sub [] rfl ?_
              exact t_X10_claim_102 hX hQ    hf
            · replace hf := itt h11 hf
              refine j_iconst (v := 4) hX dX10_claim_98 99 rfl (by decide) ?_
              refine j_goto hX dX10_claim_99 103 rfl ?_
              refine j_sub [] rfl ?_
              exact t_X10_claim_103 hX hQ   4 hf
        · replace hf := itf h8 hf
          refine j_iconst (v := 3) hX dX10_claim_76 77 rfl (by decide) ?_
          replace hf := Option.some.inj hf
          subst hf
          exact j_iret hX hQ dX10_claim_77
      · replace hf := itt h6 hf
        refine j_iconst (v := 2) hX dX10_claim_58 59 rfl (by decide) ?_
        replace hf := Option.some.inj hf
        subst hf
        exact j_iret hX hQ dX10_claim_59
    · replace hf := itf h4 hf
      refine j_sub [] rfl ?_
      exact t_X10_claim_44 hX hQ    hf
def f_X10_fee_x (p_size : Int32) (r_marks : Nat → Int32) (r_arms : Int32) (r_root : Int32) (r_steps : Int32) (r_grade : Int32) (r_marksAboveOne : Int32) (q_rows : Nat → Int32) (q_sizes : Nat → Int32) (o_names : Nat → Int32) (o_operands : Nat → Int32) (o_open : Int32) (o_refuses : Int32) (o_differs : Int32) (o_fees : Int32) (x1 : Int32) : Option ((Nat → Int32) × Int32 × Int32 × Int32 × Int32 × Int32 × (Nat → Int32) × (Nat → Int32) × (Nat → Int32) × (Nat → Int32) × Int32 × Int32 × Int32 × Int32) :=
  orx (f_X10_requirePerson_x p_size x1) (fun _ => some (r_marks, r_arms, r_root, r_steps, r_grade, r_marksAboveOne, q_rows, q_sizes, o_names, o_operands, o_open, o_refuses, o_differs, o_fees)) ((f_X10_requirePerson p_size x1).bind fun v2 => none)
set_option maxRecDepth 100000 in
set_option maxHeartbeats 4000000 in
theorem t_X10_fee_x  (x1 : Int32) (x2 : Int32) {r : (Nat → Int32) × Int32 × Int32 × Int32 × Int32 × Int32 × (Nat → Int32) × (Nat → Int32) × (Nat → Int32) × (Nat → Int32) × Int32 × Int32 × Int32 × Int32} (hf : f_X10_fee_x p_size r_marks r_arms r_root r_steps r_grade r_marksAboveOne q_rows q_sizes o_names o_operands o_open o_refuses o_differs o_fees x1 = some r) : Xt l G 8 1 6 yX10_fee cX10_fee 3 (some .int) [.ref (gb G 0), .int x1, .int x2] (WB G p_female p_born p_toldDeath p_lastYear p_father p_mother p_fatherGrade p_motherGrade p_size g_holder g_arms g_from g_size r_marks r_arms r_root r_steps r_grade r_marksAboveOne q_rows q_sizes t_bytes t_length s_tokens s_starts s_size a_code a_codeSize a_at a_token a_fault a_place (txf kT tA) o_names o_operands o_size o_open o_refuses o_differs o_fees c_years c_rows c_size x_faultPlace ++ (TXw G kT tA tC tN tF tY ++ fr)) (WB G p_female p_born p_toldDeath p_lastYear p_father p_mother p_fatherGrade p_motherGrade p_size g_holder g_arms g_from g_size r.1 r.2.1 r.2.2.1 r.2.2.2.1 r.2.2.2.2.1 r.2.2.2.2.2.1 r.2.2.2.2.2.2.1 r.2.2.2.2.2.2.2.1 t_bytes t_length s_tokens s_starts s_size a_code a_codeSize a_at a_token a_fault a_place (txf kT tA) r.2.2.2.2.2.2.2.2.1 r.2.2.2.2.2.2.2.2.2.1 o_size r.2.2.2.2.2.2.2.2.2.2.1 r.2.2.2.2.2.2.2.2.2.2.2.1 r.2.2.2.2.2.2.2.2.2.2.2.2.1 r.2.2.2.2.2.2.2.2.2.2.2.2.2 c_years c_rows c_size x_faultPlace ++ (TXw G kT tA tC tN tF tY ++ fr)) xNS := by
  refine Xt.of (by decide) (Nat.le_of_ble_eq_true rfl) (fun Y hX hQ => ?_)
  refine j_lv (lv' := [(0, .ref (gb G 0)), (1, .int x1), (2, .int x2)]) rfl ?_
  unfold f_X10_fee_x at hf
  refine j_aload_n hX dX10_fee_0 1 rfl 0 rfl rfl ?_
  refine j_iload_n hX dX10_fee_1 2 rfl 1 rfl rfl ?_
  rcases orx_c hf with ⟨v1, hv1, hf⟩ | hf
  · replace hf := Option.some.inj hf
    subst hf
    exact jx_prop (As := [.int x1]) (rest := []) (q0 := 0) hX hQ dX10_fee_2 (t_X10_requirePerson_x x1 hv1) mc_X10_requirePerson mv_X10_requirePerson ml_X10_73 rfl rfl (Nat.le_of_ble_eq_true rfl) rfl (Nat.le_of_ble_eq_true rfl)
  obtain ⟨v2, hv2, hf⟩ := ibd hf
  refine z_v (As := [.int x1]) (rest := []) (q0 := 0) hX dX10_fee_2 5 rfl (t_X10_requirePerson x1 hv2) mc_X10_requirePerson mv_X10_requirePerson ml_X10_73 rfl rfl (Nat.le_of_ble_eq_true rfl) (Nat.zero_le _) (Nat.zero_le _) rfl (Nat.le_of_ble_eq_true rfl) ?_
  exact (Option.some_ne_none _ hf.symm).elim
def f_X10_fee (fu : Nat) (p_female : Nat → Int32) (p_born : Nat → Int32) (p_lastYear : Nat → Int32) (p_father : Nat → Int32) (p_mother : Nat → Int32) (p_fatherGrade : Nat → Int32) (p_size : Int32) (g_holder : Nat → Int32) (g_arms : Nat → Int32) (g_from : Nat → Int32) (g_size : Int32) (o_size : Int32) (kT : Nat) (tN : Nat → Nat) (tF : Nat → Nat → Int32) (tY : Nat → Int32) (r_marks : Nat → Int32) (q_rows : Nat → Int32) (q_sizes : Nat → Int32) (o_names : Nat → Int32) (o_operands : Nat → Int32) (o_open : Int32) (o_refuses : Int32) (o_differs : Int32) (o_fees : Int32) (x1 : Int32) (x2 : Int32) : Option (Int32 × (Nat → Int32) × Int32 × Int32 × Int32 × Int32 × Int32 × (Nat → Int32) × (Nat → Int32) × (Nat → Int32) × (Nat → Int32) × Int32 × Int32 × Int32 × Int32) :=
  (f_X10_requirePerson p_size x1).bind fun v1 => (f_X5_find fu p_female p_born p_lastYear p_father p_fatherGrade p_size g_holder g_arms g_from g_size r_marks x1 x2).bind fun v2 => if v2.2.1 = ((-1)) then some (0, v2.1, v2.2.1, v2.2.2.1, v2.2.2.2.1, v2.2.2.2.2.1, v2.2.2.2.2.2, q_rows, q_sizes, o_names, o_operands, o_open, o_refuses, o_differs, o_fees) else (f_X10_judge fu p_female p_born p_lastYear p_father p_mother p_size g_holder g_arms g_from g_size v2.2.1 v2.2.2.1 v2.2.2.2.1 v2.2.2.2.2.1 v2.2.2.2.2.2 o_size kT tN tF tY q_rows q_sizes o_names o_operands x1 x2).bind fun v4 => some (v4.2.2.2.2.2.2.2, v2.1, v2.2.1, v2.2.2.1, v2.2.2.2.1, v2.2.2.2.2.1, v2.2.2.2.2.2, v4.1, v4.2.1, v4.2.2.1, v4.2.2.2.1, v4.2.2.2.2.1, v4.2.2.2.2.2.1, v4.2.2.2.2.2.2.1, v4.2.2.2.2.2.2.2)
set_option maxRecDepth 100000 in
set_option maxHeartbeats 4000000 in
theorem t_X10_fee {fu : Nat}  (x1 : Int32) (x2 : Int32) {r : Int32 × (Nat → Int32) × Int32 × Int32 × Int32 × Int32 × Int32 × (Nat → Int32) × (Nat → Int32) × (Nat → Int32) × (Nat → Int32) × Int32 × Int32 × Int32 × Int32} (hf : f_X10_fee fu p_female p_born p_lastYear p_father p_mother p_fatherGrade p_size g_holder g_arms g_from g_size o_size kT tN tF tY r_marks q_rows q_sizes o_names o_operands o_open o_refuses o_differs o_fees x1 x2 = some r) : Ci l G 8 0 0 yX10_fee cX10_fee 3 .int [.ref (gb G 0), .int x1, .int x2] (WB G p_female p_born p_toldDeath p_lastYear p_father p_mother p_fatherGrade p_motherGrade p_size g_holder g_arms g_from g_size r_marks r_arms r_root r_steps r_grade r_marksAboveOne q_rows q_sizes t_bytes t_length s_tokens s_starts s_size a_code a_codeSize a_at a_token a_fault a_place (txf kT tA) o_names o_operands o_size o_open o_refuses o_differs o_fees c_years c_rows c_size x_faultPlace ++ (TXw G kT tA tC tN tF tY ++ fr)) r.1 (WB G p_female p_born p_toldDeath p_lastYear p_father p_mother p_fatherGrade p_motherGrade p_size g_holder g_arms g_from g_size r.2.1 r.2.2.1 r.2.2.2.1 r.2.2.2.2.1 r.2.2.2.2.2.1 r.2.2.2.2.2.2.1 r.2.2.2.2.2.2.2.1 r.2.2.2.2.2.2.2.2.1 t_bytes t_length s_tokens s_starts s_size a_code a_codeSize a_at a_token a_fault a_place (txf kT tA) r.2.2.2.2.2.2.2.2.2.1 r.2.2.2.2.2.2.2.2.2.2.1 o_size r.2.2.2.2.2.2.2.2.2.2.2.1 r.2.2.2.2.2.2.2.2.2.2.2.2.1 r.2.2.2.2.2.2.2.2.2.2.2.2.2.1 r.2.2.2.2.2.2.2.2.2.2.2.2.2.2 c_years c_rows c_size x_faultPlace ++ (TXw G kT tA tC tN tF tY ++ fr)) := by
  refine Ci.of (by decide) (Nat.le_of_ble_eq_true rfl) (fun Y hX hQ => ?_)
  refine j_lv (lv' := [(0, .ref (gb G 0)), (1, .int x1), (2, .int x2)]) rfl ?_
  unfold f_X10_fee at hf
  refine j_aload_n hX dX10_fee_0 1 rfl 0 rfl rfl ?_
  refine j_iload_n hX dX10_fee_1 2 rfl 1 rfl rfl ?_
  obtain ⟨v1, hv1, hf⟩ := ibd hf
  refine z_v (As := [.int x1]) (rest := []) (q0 := 0) hX dX10_fee_2 5 rfl (t_X10_requirePerson x1 hv1) mc_X10_requirePerson mv_X10_requirePerson ml_X10_73 rfl rfl (Nat.le_of_ble_eq_true rfl) (Nat.le_refl _) (Nat.le_refl _) rfl (Nat.le_of_ble_eq_true rfl) ?_
  refine j_aload_n hX dX10_fee_5 6 rfl 0 rfl rfl ?_
  refine j_get hX dX10_fee_6 9 rfl fg_X10_26 0 rfl rfl ?_
  refine j_aload_n hX dX10_fee_9 10 rfl 0 rfl rfl ?_
  refine j_get hX dX10_fee_10 13 rfl fg_X10_10 0 rfl rfl ?_
  refine j_aload_n hX dX10_fee_13 14 rfl 0 rfl rfl ?_
  refine j_get hX dX10_fee_14 17 rfl fg_X10_19 0 rfl rfl ?_
  refine j_iload_n hX dX10_fee_17 18 rfl 1 rfl rfl ?_
  refine j_iload_n hX dX10_fee_18 19 rfl 2 rfl rfl ?_
  obtain ⟨v2, hv2, hf⟩ := ibd hf
  refine z_v (As := [.ref (gb G 1), .ref (gb G 10), .int x1, .int x2]) (rest := []) (q0 := 14) hX dX10_fee_19 22 rfl (t_X5_find x1 x2 hv2) mc_X5_find mv_X5_find ml_X10_168 rfl rfl (Nat.le_of_ble_eq_true rfl) (Nat.le_refl _) (Nat.le_refl _) rfl (Nat.le_of_ble_eq_true rfl) ?_
  refine j_aload_n hX dX10_fee_22 23 rfl 0 rfl rfl ?_
  refine j_get hX dX10_fee_23 26 rfl fg_X10_26 0 rfl rfl ?_
  refine j_getN hX dX10_fee_26 29 rfl fn_X10_172 14 rfl rfl ?_
  refine j_iconst (v := (-1)) hX dX10_fee_29 30 rfl (by decide) ?_
  refine j_icmp_ne hX dX10_fee_30 33 35 rfl rfl (fun h3 => ?_) (fun h3 => ?_)
  · replace hf := itf h3 hf
    refine j_aload_n hX dX10_fee_35 36 rfl 0 rfl rfl ?_
    refine j_iload_n hX dX10_fee_36 37 rfl 1 rfl rfl ?_
    refine j_iload_n hX dX10_fee_37 38 rfl 2 rfl rfl ?_
    obtain ⟨v4, hv4, hf⟩ := ibd hf
    refine z_v (As := [.int x1, .int x2]) (rest := []) (q0 := 0) hX dX10_fee_38 41 rfl (t_X10_judge x1 x2 hv4) mc_X10_judge mv_X10_judge ml_X10_225 rfl rfl (Nat.le_of_ble_eq_true rfl) (Nat.le_refl _) (Nat.le_refl _) rfl (Nat.le_of_ble_eq_true rfl) ?_
    refine j_aload_n hX dX10_fee_41 42 rfl 0 rfl rfl ?_
    refine j_get hX dX10_fee_42 45 rfl fg_X10_54 0 rfl rfl ?_
    refine j_getN hX dX10_fee_45 48 rfl fn_X10_236 26 rfl rfl ?_
    replace hf := Option.some.inj hf
    subst hf
    exact j_iret hX hQ dX10_fee_48
  · replace hf := itt h3 hf
    refine j_iconst (v := 0) hX dX10_fee_33 34 rfl (by decide) ?_
    replace hf := Option.some.inj hf
    subst hf
    exact j_iret hX hQ dX10_fee_34
def f_X10_rivals_x (p_size : Int32) (r_marks : Nat → Int32) (r_arms : Int32) (r_root : Int32) (r_steps : Int32) (r_grade : Int32) (r_marksAboveOne : Int32) (x1 : Int32) : Option ((Nat → Int32) × Int32 × Int32 × Int32 × Int32 × Int32) :=
  orx (f_X10_requirePerson_x p_size x1) (fun _ => some (r_marks, r_arms, r_root, r_steps, r_grade, r_marksAboveOne)) ((f_X10_requirePerson p_size x1).bind fun v2 => none)
set_option maxRecDepth 100000 in
set_option maxHeartbeats 4000000 in
theorem t_X10_rivals_x  (x1 : Int32) (x2 : Int32) {r : (Nat → Int32) × Int32 × Int32 × Int32 × Int32 × Int32} (hf : f_X10_rivals_x p_size r_marks r_arms r_root r_steps r_grade r_marksAboveOne x1 = some r) : Xt l G 8 1 6 yX10_rivals cX10_rivals 3 (some .int) [.ref (gb G 0), .int x1, .int x2] (WB G p_female p_born p_toldDeath p_lastYear p_father p_mother p_fatherGrade p_motherGrade p_size g_holder g_arms g_from g_size r_marks r_arms r_root r_steps r_grade r_marksAboveOne q_rows q_sizes t_bytes t_length s_tokens s_starts s_size a_code a_codeSize a_at a_token a_fault a_place o_texts o_names o_operands o_size o_open o_refuses o_differs o_fees c_years c_rows c_size x_faultPlace ++ fr) (WB G p_female p_born p_toldDeath p_lastYear p_father p_mother p_fatherGrade p_motherGrade p_size g_holder g_arms g_from g_size r.1 r.2.1 r.2.2.1 r.2.2.2.1 r.2.2.2.2.1 r.2.2.2.2.2 q_rows q_sizes t_bytes t_length s_tokens s_starts s_size a_code a_codeSize a_at a_token a_fault a_place o_texts o_names o_operands o_size o_open o_refuses o_differs o_fees c_years c_rows c_size x_faultPlace ++ fr) xNS := by
  refine Xt.of (by decide) (Nat.le_of_ble_eq_true rfl) (fun Y hX hQ => ?_)
  refine j_lv (lv' := [(0, .ref (gb G 0)), (1, .int x1), (2, .int x2)]) rfl ?_
  unfold f_X10_rivals_x at hf
  refine j_aload_n hX dX10_rivals_0 1 rfl 0 rfl rfl ?_
  refine j_iload_n hX dX10_rivals_1 2 rfl 1 rfl rfl ?_
  rcases orx_c hf with ⟨v1, hv1, hf⟩ | hf
  · replace hf := Option.some.inj hf
    subst hf
    exact jx_prop (As := [.int x1]) (rest := []) (q0 := 0) hX hQ dX10_rivals_2 (t_X10_requirePerson_x x1 hv1) mc_X10_requirePerson mv_X10_requirePerson ml_X10_73 rfl rfl (Nat.le_of_ble_eq_true rfl) rfl (Nat.le_of_ble_eq_true rfl)
  obtain ⟨v2, hv2, hf⟩ := ibd hf
  refine z_v (As := [.int x1]) (rest := []) (q0 := 0) hX dX10_rivals_2 5 rfl (t_X10_requirePerson x1 hv2) mc_X10_requirePerson mv_X10_requirePerson ml_X10_73 rfl rfl (Nat.le_of_ble_eq_true rfl) (Nat.zero_le _) (Nat.zero_le _) rfl (Nat.le_of_ble_eq_true rfl) ?_
  exact (Option.some_ne_none _ hf.symm).elim
def f_X10_rivals (fu : Nat) (p_female : Nat → Int32) (p_born : Nat → Int32) (p_lastYear : Nat → Int32) (p_father : Nat → Int32) (p_fatherGrade : Nat → Int32) (p_size : Int32) (g_holder : Nat → Int32) (g_arms : Nat → Int32) (g_from : Nat → Int32) (g_size : Int32) (r_marks : Nat → Int32) (x1 : Int32) (x2 : Int32) : Option (Int32 × (Nat → Int32) × Int32 × Int32 × Int32 × Int32 × Int32) :=
  (f_X10_requirePerson p_size x1).bind fun v1 => (f_X5_find fu p_female p_born p_lastYear p_father p_fatherGrade p_size g_holder g_arms g_from g_size r_marks x1 x2).bind fun v2 => (f_X10_countRivals fu p_size g_holder g_arms g_from g_size v2.2.1 v2.2.2.1 x2).bind fun v3 => some (v3, v2.1, v2.2.1, v2.2.2.1, v2.2.2.2.1, v2.2.2.2.2.1, v2.2.2.2.2.2)
set_option maxRecDepth 100000 in
set_option maxHeartbeats 4000000 in
theorem t_X10_rivals {fu : Nat}  (x1 : Int32) (x2 : Int32) {r : Int32 × (Nat → Int32) × Int32 × Int32 × Int32 × Int32 × Int32} (hf : f_X10_rivals fu p_female p_born p_lastYear p_father p_fatherGrade p_size g_holder g_arms g_from g_size r_marks x1 x2 = some r) : Ci l G 8 0 0 yX10_rivals cX10_rivals 3 .int [.ref (gb G 0), .int x1, .int x2] (WB G p_female p_born p_toldDeath p_lastYear p_father p_mother p_fatherGrade p_motherGrade p_size g_holder g_arms g_from g_size r_marks r_arms r_root r_steps r_grade r_marksAboveOne q_rows q_sizes t_bytes t_length s_tokens s_starts s_size a_code a_codeSize a_at a_token a_fault a_place o_texts o_names o_operands o_size o_open o_refuses o_differs o_fees c_years c_rows c_size x_faultPlace ++ fr) r.1 (WB G p_female p_born p_toldDeath p_lastYear p_father p_mother p_fatherGrade p_motherGrade p_size g_holder g_arms g_from g_size r.2.1 r.2.2.1 r.2.2.2.1 r.2.2.2.2.1 r.2.2.2.2.2.1 r.2.2.2.2.2.2 q_rows q_sizes t_bytes t_length s_tokens s_starts s_size a_code a_codeSize a_at a_token a_fault a_place o_texts o_names o_operands o_size o_open o_refuses o_differs o_fees c_years c_rows c_size x_faultPlace ++ fr) := by
  refine Ci.of (by decide) (Nat.le_of_ble_eq_true rfl) (fun Y hX hQ => ?_)
  refine j_lv (lv' := [(0, .ref (gb G 0)), (1, .int x1), (2, .int x2)]) rfl ?_
  unfold f_X10_rivals at hf
  refine j_aload_n hX dX10_rivals_0 1 rfl 0 rfl rfl ?_
  refine j_iload_n hX dX10_rivals_1 2 rfl 1 rfl rfl ?_
  obtain ⟨v1, hv1, hf⟩ := ibd hf
  refine z_v (As := [.int x1]) (rest := []) (q0 := 0) hX dX10_rivals_2 5 rfl (t_X10_requirePerson x1 hv1) mc_X10_requirePerson mv_X10_requirePerson ml_X10_73 rfl rfl (Nat.le_of_ble_eq_true rfl) (Nat.le_refl _) (Nat.le_refl _) rfl (Nat.le_of_ble_eq_true rfl) ?_
  refine j_aload_n hX dX10_rivals_5 6 rfl 0 rfl rfl ?_
  refine j_get hX dX10_rivals_6 9 rfl fg_X10_26 0 rfl rfl ?_
  refine j_aload_n hX dX10_rivals_9 10 rfl 0 rfl rfl ?_
  refine j_get hX dX10_rivals_10 13 rfl fg_X10_10 0 rfl rfl ?_
  refine j_aload_n hX dX10_rivals_13 14 rfl 0 rfl rfl ?_
  refine j_get hX dX10_rivals_14 17 rfl fg_X10_19 0 rfl rfl ?_
  refine j_iload_n hX dX10_rivals_17 18 rfl 1 rfl rfl ?_
  refine j_iload_n hX dX10_rivals_18 19 rfl 2 rfl rfl ?_
  obtain ⟨v2, hv2, hf⟩ := ibd hf
  refine z_v (As := [.ref (gb G 1), .ref (gb G 10), .int x1, .int x2]) (rest := []) (q0 := 14) hX dX10_rivals_19 22 rfl (t_X5_find x1 x2 hv2) mc_X5_find mv_X5_find ml_X10_168 rfl rfl (Nat.le_of_ble_eq_true rfl) (Nat.le_refl _) (Nat.le_refl _) rfl (Nat.le_of_ble_eq_true rfl) ?_
  refine j_aload_n hX dX10_rivals_22 23 rfl 0 rfl rfl ?_
  refine j_iload_n hX dX10_rivals_23 24 rfl 2 rfl rfl ?_
  obtain ⟨v3, hv3, hf⟩ := ibd hf
  refine z_i (As := [.int x2]) (rest := []) (q0 := 0) hX dX10_rivals_24 27 rfl (t_X10_countRivals x2 hv3) mc_X10_countRivals mv_X10_countRivals ml_X10_239 rfl rfl (Nat.le_of_ble_eq_true rfl) (Nat.le_refl _) (Nat.le_refl _) rfl (Nat.le_of_ble_eq_true rfl) ?_
  replace hf := Option.some.inj hf
  subst hf
  exact j_iret hX hQ dX10_rivals_27
def f_X10_common_x (p_size : Int32) (x1 : Int32) (x2 : Int32) : Option (Unit) :=
  orx (f_X10_requirePerson_x p_size x1) (fun _ => some ()) ((f_X10_requirePerson p_size x1).bind fun v2 => orx (f_X10_requirePerson_x p_size x2) (fun _ => some ()) ((f_X10_requirePerson p_size x2).bind fun v4 => none))
set_option maxRecDepth 100000 in
set_option maxHeartbeats 4000000 in
theorem t_X10_common_x  (x1 : Int32) (x2 : Int32) {r : Unit} (hf : f_X10_common_x p_size x1 x2 = some r) : Xt l G 8 1 6 yX10_common cX10_common 6 (some .int) [.ref (gb G 0), .int x1, .int x2] (WB G p_female p_born p_toldDeath p_lastYear p_father p_mother p_fatherGrade p_motherGrade p_size g_holder g_arms g_from g_size r_marks r_arms r_root r_steps r_grade r_marksAboveOne q_rows q_sizes t_bytes t_length s_tokens s_starts s_size a_code a_codeSize a_at a_token a_fault a_place o_texts o_names o_operands o_size o_open o_refuses o_differs o_fees c_years c_rows c_size x_faultPlace ++ fr) (WB G p_female p_born p_toldDeath p_lastYear p_father p_mother p_fatherGrade p_motherGrade p_size g_holder g_arms g_from g_size r_marks r_arms r_root r_steps r_grade r_marksAboveOne q_rows q_sizes t_bytes t_length s_tokens s_starts s_size a_code a_codeSize a_at a_token a_fault a_place o_texts o_names o_operands o_size o_open o_refuses o_differs o_fees c_years c_rows c_size x_faultPlace ++ fr) xNS := by
  refine Xt.of (by decide) (Nat.le_of_ble_eq_true rfl) (fun Y hX hQ => ?_)
  refine j_lv (lv' := [(0, .ref (gb G 0)), (1, .int x1), (2, .int x2)]) rfl ?_
  unfold f_X10_common_x at hf
  refine j_aload_n hX dX10_common_0 1 rfl 0 rfl rfl ?_
  refine j_iload_n hX dX10_common_1 2 rfl 1 rfl rfl ?_
  rcases orx_c hf with ⟨v1, hv1, hf⟩ | hf
  · replace hf := Option.some.inj hf
    subst hf
    exact jx_prop (As := [.int x1]) (rest := []) (q0 := 0) hX hQ dX10_common_2 (t_X10_requirePerson_x x1 hv1) mc_X10_requirePerson mv_X10_requirePerson ml_X10_73 rfl rfl (Nat.le_of_ble_eq_true rfl) rfl (Nat.le_of_ble_eq_true rfl)
  obtain ⟨v2, hv2, hf⟩ := ibd hf
  refine z_v (As := [.int x1]) (rest := []) (q0 := 0) hX dX10_common_2 5 rfl (t_X10_requirePerson x1 hv2) mc_X10_requirePerson mv_X10_requirePerson ml_X10_73 rfl rfl (Nat.le_of_ble_eq_true rfl) (Nat.zero_le _) (Nat.zero_le _) rfl (Nat.le_of_ble_eq_true rfl) ?_
  refine j_aload_n hX dX10_common_5 6 rfl 0 rfl rfl ?_
  refine j_iload_n hX dX10_common_6 7 rfl 2 rfl rfl ?_
  rcases orx_c hf with ⟨v3, hv3, hf⟩ | hf
  · replace hf := Option.some.inj hf
    subst hf
    exact jx_prop (As := [.int x2]) (rest := []) (q0 := 0) hX hQ dX10_common_7 (t_X10_requirePerson_x x2 hv3) mc_X10_requirePerson mv_X10_requirePerson ml_X10_73 rfl rfl (Nat.le_of_ble_eq_true rfl) rfl (Nat.le_of_ble_eq_true rfl)
  obtain ⟨v4, hv4, hf⟩ := ibd hf
  refine z_v (As := [.int x2]) (rest := []) (q0 := 0) hX dX10_common_7 10 rfl (t_X10_requirePerson x2 hv4) mc_X10_requirePerson mv_X10_requirePerson ml_X10_73 rfl rfl (Nat.le_of_ble_eq_true rfl) (Nat.zero_le _) (Nat.zero_le _) rfl (Nat.le_of_ble_eq_true rfl) ?_
  exact (Option.some_ne_none _ hf.symm).elim
def g_X10_common_39 (k39 : Int64 → Int32 → Option (Int32)) (x3 : Int64) (x5 : Int32) : Option (Int32) :=
  if x5 < 0 then some ((-1)) else (f_X4_isIn x3 x5).bind fun v6 => if v6 = 0 then k39 x3 (x5 + (-1)) else some x5
set_option maxRecDepth 100000 in
set_option maxHeartbeats 4000000 in
theorem t_X10_common_39 {Y : YT} {r : Int32} {k39 : Int64 → Int32 → Option (Int32)} (hX : CX l G cX10_common 6 RX10 Y) (hQ : EQi G Y 0 0 .int r (WB G p_female p_born p_toldDeath p_lastYear p_father p_mother p_fatherGrade p_motherGrade p_size g_holder g_arms g_from g_size r_marks r_arms r_root r_steps r_grade r_marksAboveOne q_rows q_sizes t_bytes t_length s_tokens s_starts s_size a_code a_codeSize a_at a_token a_fault a_place o_texts o_names o_operands o_size o_open o_refuses o_differs o_fees c_years c_rows c_size x_faultPlace ++ fr)) (hk39 : ∀ (x3 : Int64) (x5 : Int32), k39 x3 x5  = some r → J l G (rmD 8 0 0) Y 0 0 39 [(3, .long x3), (5, .int x5)] [] (WB G p_female p_born p_toldDeath p_lastYear p_father p_mother p_fatherGrade p_motherGrade p_size g_holder g_arms g_from g_size r_marks r_arms r_root r_steps r_grade r_marksAboveOne q_rows q_sizes t_bytes t_length s_tokens s_starts s_size a_code a_codeSize a_at a_token a_fault a_place o_texts o_names o_operands o_size o_open o_refuses o_differs o_fees c_years c_rows c_size x_faultPlace ++ fr)) (x3 : Int64) (x5 : Int32) (hf : g_X10_common_39 k39 x3 x5 = some r) : J l G (rmD 8 0 0) Y 0 0 39 [(3, .long x3), (5, .int x5)] [] (WB G p_female p_born p_toldDeath p_lastYear p_father p_mother p_fatherGrade p_motherGrade p_size g_holder g_arms g_from g_size r_marks r_arms r_root r_steps r_grade r_marksAboveOne q_rows q_sizes t_bytes t_length s_tokens s_starts s_size a_code a_codeSize a_at a_token a_fault a_place o_texts o_names o_operands o_size o_open o_refuses o_differs o_fees c_years c_rows c_size x_faultPlace ++ fr) := by
  unfold g_X10_common_39 at hf
  refine j_iload hX dX10_common_39 41 rfl 1 rfl ?_
  refine j_if_lt hX dX10_common_41 44 62 rfl rfl (fun h5 => ?_) (fun h5 => ?_)
  · replace hf := itt h5 hf
    refine j_iconst (v := (-1)) hX dX10_common_62 63 rfl (by decide) ?_
    replace hf := Option.some.inj hf
    subst hf
    exact j_iret hX hQ dX10_common_63
  · replace hf := itf h5 hf
    refine j_lload_n hX dX10_common_44 45 rfl 0 rfl rfl ?_
    refine j_iload hX dX10_common_45 47 rfl 1 rfl ?_
    obtain ⟨v6, hv6, hf⟩ := ibd hf
    refine z_si (As := [.long x3, .int x5]) (rest := []) hX dX10_common_47 50 rfl (t_X4_isIn x3 x5 hv6) mc_X4_isIn ms_X4_isIn ml_X10_192 (Nat.le_of_ble_eq_true rfl) (Nat.le_refl _) (Nat.le_refl _) rfl (Nat.le_of_ble_eq_true rfl) ?_
    refine j_if_eq hX dX10_common_50 53 56 rfl rfl (fun h7 => ?_) (fun h7 => ?_)
    · replace hf := itt h7 hf
      refine j_iinc (v := x5 + (-1)) hX dX10_common_56 59 rfl 1 rfl rfl (by decide) (lv' := [(5, .int (x5 + (-1))), (3, .long x3)]) rfl ?_
      refine j_goto hX dX10_common_59 39 rfl ?_
      refine j_sub [1, 0] rfl ?_
      exact hk39 x3 (x5 + (-1)) hf
    · replace hf := itf h7 hf
      refine j_iload hX dX10_common_53 55 rfl 1 rfl ?_
      replace hf := Option.some.inj hf
      subst hf
      exact j_iret hX hQ dX10_common_55
def f_X10_common_39  : Nat → (Int64 × Int32) → Option (Int32) :=
  lp (fun k v => g_X10_common_39 (fun x3 x5 => k (x3, x5)) v.1 v.2)
set_option maxRecDepth 100000 in
set_option maxHeartbeats 4000000 in
theorem u_X10_common_39 {Y : YT} {r : Int32}  (hX : CX l G cX10_common 6 RX10 Y) (hQ : EQi G Y 0 0 .int r (WB G p_female p_born p_toldDeath p_lastYear p_father p_mother p_fatherGrade p_motherGrade p_size g_holder g_arms g_from g_size r_marks r_arms r_root r_steps r_grade r_marksAboveOne q_rows q_sizes t_bytes t_length s_tokens s_starts s_size a_code a_codeSize a_at a_token a_fault a_place o_texts o_names o_operands o_size o_open o_refuses o_differs o_fees c_years c_rows c_size x_faultPlace ++ fr))  (n : Nat) (v : Int64 × Int32) (hf : f_X10_common_39  n v = some r) : J l G (rmD 8 0 0) Y 0 0 39 [(3, .long v.1), (5, .int v.2)] [] (WB G p_female p_born p_toldDeath p_lastYear p_father p_mother p_fatherGrade p_motherGrade p_size g_holder g_arms g_from g_size r_marks r_arms r_root r_steps r_grade r_marksAboveOne q_rows q_sizes t_bytes t_length s_tokens s_starts s_size a_code a_codeSize a_at a_token a_fault a_place o_texts o_names o_operands o_size o_open o_refuses o_differs o_fees c_years c_rows c_size x_faultPlace ++ fr) :=
  lp_ind (P := fun v : Int64 × Int32 => J l G (rmD 8 0 0) Y 0 0 39 [(3, .long v.1), (5, .int v.2)] [] (WB G p_female p_born p_toldDeath p_lastYear p_father p_mother p_fatherGrade p_motherGrade p_size g_holder g_arms g_from g_size r_marks r_arms r_root r_steps r_grade r_marksAboveOne q_rows q_sizes t_bytes t_length s_tokens s_starts s_size a_code a_codeSize a_at a_token a_fault a_place o_texts o_names o_operands o_size o_open o_refuses o_differs o_fees c_years c_rows c_size x_faultPlace ++ fr)) (fun k hk v hf => t_X10_common_39 hX hQ   (fun x3 x5 h => hk (x3, x5) h) v.1 v.2 hf) n v hf
def f_X10_common (fu : Nat) (p_father : Nat → Int32) (p_mother : Nat → Int32) (p_size : Int32) (x1 : Int32) (x2 : Int32) : Option (Int32) :=
  (f_X10_requirePerson p_size x1).bind fun v1 => (f_X10_requirePerson p_size x2).bind fun v2 => (f_X4_forebears fu p_father p_mother p_size x1).bind fun v3 => (f_X4_forebears fu p_father p_mother p_size x2).bind fun v4 => f_X10_common_39  fu (v3 &&& v4, p_size - 1)
set_option maxRecDepth 100000 in
set_option maxHeartbeats 4000000 in
theorem t_X10_common {fu : Nat}  (x1 : Int32) (x2 : Int32) {r : Int32} (hf : f_X10_common fu p_father p_mother p_size x1 x2 = some r) : Ci l G 8 0 0 yX10_common cX10_common 6 .int [.ref (gb G 0), .int x1, .int x2] (WB G p_female p_born p_toldDeath p_lastYear p_father p_mother p_fatherGrade p_motherGrade p_size g_holder g_arms g_from g_size r_marks r_arms r_root r_steps r_grade r_marksAboveOne q_rows q_sizes t_bytes t_length s_tokens s_starts s_size a_code a_codeSize a_at a_token a_fault a_place o_texts o_names o_operands o_size o_open o_refuses o_differs o_fees c_years c_rows c_size x_faultPlace ++ fr) r (WB G p_female p_born p_toldDeath p_lastYear p_father p_mother p_fatherGrade p_motherGrade p_size g_holder g_arms g_from g_size r_marks r_arms r_root r_steps r_grade r_marksAboveOne q_rows q_sizes t_bytes t_length s_tokens s_starts s_size a_code a_codeSize a_at a_token a_fault a_place o_texts o_names o_operands o_size o_open o_refuses o_differs o_fees c_years c_rows c_size x_faultPlace ++ fr) := by
  refine Ci.of (by decide) (Nat.le_of_ble_eq_true rfl) (fun Y hX hQ => ?_)
  refine j_lv (lv' := [(0, .ref (gb G 0)), (1, .int x1), (2, .int x2)]) rfl ?_
  unfold f_X10_common at hf
  refine j_aload_n hX dX10_common_0 1 rfl 0 rfl rfl ?_
  refine j_iload_n hX dX10_common_1 2 rfl 1 rfl rfl ?_
  obtain ⟨v1, hv1, hf⟩ := ibd hf
  refine z_v (As := [.int x1]) (rest := []) (q0 := 0) hX dX10_common_2 5 rfl (t_X10_requirePerson x1 hv1) mc_X10_requirePerson mv_X10_requirePerson ml_X10_73 rfl rfl (Nat.le_of_ble_eq_true rfl) (Nat.le_refl _) (Nat.le_refl _) rfl (Nat.le_of_ble_eq_true rfl) ?_
  refine j_aload_n hX dX10_common_5 6 rfl 0 rfl rfl ?_
  refine j_iload_n hX dX10_common_6 7 rfl 2 rfl rfl ?_
  obtain ⟨v2, hv2, hf⟩ := ibd hf
  refine z_v (As := [.int x2]) (rest := []) (q0 := 0) hX dX10_common_7 10 rfl (t_X10_requirePerson x2 hv2) mc_X10_requirePerson mv_X10_requirePerson ml_X10_73 rfl rfl (Nat.le_of_ble_eq_true rfl) (Nat.le_refl _) (Nat.le_refl _) rfl (Nat.le_of_ble_eq_true rfl) ?_
  refine j_aload_n hX dX10_common_10 11 rfl 0 rfl rfl ?_
  refine j_get hX dX10_common_11 14 rfl fg_X10_10 0 rfl rfl ?_
  refine j_iload_n hX dX10_common_14 15 rfl 1 rfl rfl ?_
  obtain ⟨v3, hv3, hf⟩ := ibd hf
  refine z_l (As := [.int x1]) (rest := []) (q0 := 1) hX dX10_common_15 18 rfl (t_X4_forebears x1 hv3) mc_X4_forebears mv_X4_forebears ml_X10_242 rfl rfl (Nat.le_of_ble_eq_true rfl) (Nat.le_refl _) (Nat.le_refl _) rfl (Nat.le_of_ble_eq_true rfl) ?_
  refine j_aload_n hX dX10_common_18 19 rfl 0 rfl rfl ?_
  refine j_get hX dX10_common_19 22 rfl fg_X10_10 0 rfl rfl ?_
  refine j_iload_n hX dX10_common_22 23 rfl 2 rfl rfl ?_
  obtain ⟨v4, hv4, hf⟩ := ibd hf
  refine z_l (As := [.int x2]) (rest := [.long v3]) (q0 := 1) hX dX10_common_23 26 rfl (t_X4_forebears x2 hv4) mc_X4_forebears mv_X4_forebears ml_X10_242 rfl rfl (Nat.le_of_ble_eq_true rfl) (Nat.le_refl _) (Nat.le_refl _) rfl (Nat.le_of_ble_eq_true rfl) ?_
  refine j_land hX dX10_common_26 27 rfl ?_
  refine j_lstore_n hX dX10_common_27 28 rfl rfl (by decide) (lv' := [(3, .long (v3 &&& v4)), (0, .ref (gb G 0)), (1, .int x1), (2, .int x2)]) rfl ?_
  refine j_aload_n hX dX10_common_28 29 rfl 1 rfl rfl ?_
  refine j_get hX dX10_common_29 32 rfl fg_X10_10 0 rfl rfl ?_
  refine j_getN hX dX10_common_32 35 rfl fn_X10_245 1 rfl rfl ?_
  refine j_iconst (v := 1) hX dX10_common_35 36 rfl (by decide) ?_
  refine j_isub hX dX10_common_36 37 rfl ?_
  refine j_istore hX dX10_common_37 39 rfl (by decide) (lv' := [(5, .int (p_size - 1)), (3, .long (v3 &&& v4)), (0, .ref (gb G 0)), (1, .int x1), (2, .int x2)]) rfl ?_
  refine j_sub [1, 0] rfl ?_
  exact u_X10_common_39 hX hQ   fu (v3 &&& v4, p_size - 1) hf
def f_X10_copy (c_years : Nat → Int32) (c_rows : Nat → Int32) (c_size : Int32) (x1 : Int32) (x2 : Int32) : Option (Int32 × (Nat → Int32) × (Nat → Int32) × Int32) :=
  (f_X0_add c_years c_rows c_size x1 x2).bind fun v1 => some (v1.1, v1.2.1, v1.2.2.1, v1.2.2.2)
set_option maxRecDepth 100000 in
set_option maxHeartbeats 4000000 in
theorem t_X10_copy  (x1 : Int32) (x2 : Int32) {r : Int32 × (Nat → Int32) × (Nat → Int32) × Int32} (hf : f_X10_copy c_years c_rows c_size x1 x2 = some r) : Ci l G 3 0 0 yX10_copy cX10_copy 3 .int [.ref (gb G 0), .int x1, .int x2] (WB G p_female p_born p_toldDeath p_lastYear p_father p_mother p_fatherGrade p_motherGrade p_size g_holder g_arms g_from g_size r_marks r_arms r_root r_steps r_grade r_marksAboveOne q_rows q_sizes t_bytes t_length s_tokens s_starts s_size a_code a_codeSize a_at a_token a_fault a_place o_texts o_names o_operands o_size o_open o_refuses o_differs o_fees c_years c_rows c_size x_faultPlace ++ fr) r.1 (WB G p_female p_born p_toldDeath p_lastYear p_father p_mother p_fatherGrade p_motherGrade p_size g_holder g_arms g_from g_size r_marks r_arms r_root r_steps r_grade r_marksAboveOne q_rows q_sizes t_bytes t_length s_tokens s_starts s_size a_code a_codeSize a_at a_token a_fault a_place o_texts o_names o_operands o_size o_open o_refuses o_differs o_fees r.2.1 r.2.2.1 r.2.2.2 x_faultPlace ++ fr) := by
  refine Ci.of (by decide) (Nat.le_of_ble_eq_true rfl) (fun Y hX hQ => ?_)
  refine j_lv (lv' := [(0, .ref (gb G 0)), (1, .int x1), (2, .int x2)]) rfl ?_
  unfold f_X10_copy at hf
  refine j_aload_n hX dX10_copy_0 1 rfl 0 rfl rfl ?_
  refine j_get hX dX10_copy_1 4 rfl fg_X10_61 0 rfl rfl ?_
  refine j_iload_n hX dX10_copy_4 5 rfl 1 rfl rfl ?_
  refine j_iload_n hX dX10_copy_5 6 rfl 2 rfl rfl ?_
  obtain ⟨v1, hv1, hf⟩ := ibd hf
  refine z_i (As := [.int x1, .int x2]) (rest := []) (q0 := 30) hX dX10_copy_6 9 rfl (t_X0_add x1 x2 hv1) mc_X0_add mv_X0_add ml_X10_248 rfl rfl (Nat.le_of_ble_eq_true rfl) (Nat.le_refl _) (Nat.le_refl _) rfl (Nat.le_of_ble_eq_true rfl) ?_
  replace hf := Option.some.inj hf
  subst hf
  exact j_iret hX hQ dX10_copy_9
def f_X10_of_x (c_size : Int32) (x1 : Int32) (x2 : Int32) : Option (Unit) :=
  (f_X0_has c_size x1).bind fun v1 => if v1 = 0 then some () else if x2 = 0 then none else if x2 = 1 then none else if x2 = 2 then none else if x2 = 3 then none else if x2 = 4 then none else some ()
set_option maxRecDepth 100000 in
set_option maxHeartbeats 4000000 in
theorem t_X10_of_x  (x1 : Int32) (x2 : Int32) {r : Unit} (hf : f_X10_of_x c_size x1 x2 = some r) : Xt l G 8 1 6 yX10_of cX10_of 3 (some .int) [.ref (gb G 0), .int x1, .int x2] (WB G p_female p_born p_toldDeath p_lastYear p_father p_mother p_fatherGrade p_motherGrade p_size g_holder g_arms g_from g_size r_marks r_arms r_root r_steps r_grade r_marksAboveOne q_rows q_sizes t_bytes t_length s_tokens s_starts s_size a_code a_codeSize a_at a_token a_fault a_place o_texts o_names o_operands o_size o_open o_refuses o_differs o_fees c_years c_rows c_size x_faultPlace ++ fr) (WB G p_female p_born p_toldDeath p_lastYear p_father p_mother p_fatherGrade p_motherGrade p_size g_holder g_arms g_from g_size r_marks r_arms r_root r_steps r_grade r_marksAboveOne q_rows q_sizes t_bytes t_length s_tokens s_starts s_size a_code a_codeSize a_at a_token a_fault a_place o_texts o_names o_operands o_size o_open o_refuses o_differs o_fees c_years c_rows c_size x_faultPlace ++ fr) xNS := by
  refine Xt.of (by decide) (Nat.le_of_ble_eq_true rfl) (fun Y hX hQ => ?_)
  refine j_lv (lv' := [(0, .ref (gb G 0)), (1, .int x1), (2, .int x2)]) rfl ?_
  unfold f_X10_of_x at hf
  refine j_aload_n hX dX10_of_0 1 rfl 0 rfl rfl ?_
  refine j_get hX dX10_of_1 4 rfl fg_X10_61 0 rfl rfl ?_
  refine j_iload_n hX dX10_of_4 5 rfl 1 rfl rfl ?_
  obtain ⟨v1, hv1, hf⟩ := ibd hf
  refine z_i (As := [.int x1]) (rest := []) (q0 := 30) hX dX10_of_5 8 rfl (t_X0_has x1 hv1) mc_X0_has mv_X0_has ml_X10_250 rfl rfl (Nat.le_of_ble_eq_true rfl) (Nat.zero_le _) (Nat.zero_le _) rfl (Nat.le_of_ble_eq_true rfl) ?_
  refine j_if_ne hX dX10_of_8 11 21 rfl rfl (fun h2 => ?_) (fun h2 => ?_)
  · replace hf := itf h2 hf
    refine j_iload_n hX dX10_of_21 22 rfl 2 rfl rfl ?_
    by_cases h3 : x2 = 0
    · replace hf := itt h3 hf
      refine j_tab hX dX10_of_22 (by decide) 56 (by rw [h3]; rfl) ?_
      exact (Option.some_ne_none _ hf.symm).elim
    replace hf := itf h3 hf
    by_cases h4 : x2 = 1
    · replace hf := itt h4 hf
      refine j_tab hX dX10_of_22 (by decide) 65 (by rw [h4]; rfl) ?_
      exact (Option.some_ne_none _ hf.symm).elim
    replace hf := itf h4 hf
    by_cases h5 : x2 = 2
    · replace hf := itt h5 hf
      refine j_tab hX dX10_of_22 (by decide) 74 (by rw [h5]; rfl) ?_
      exact (Option.some_ne_none _ hf.symm).elim
    replace hf := itf h5 hf
    by_cases h6 : x2 = 3
    · replace hf := itt h6 hf
      refine j_tab hX dX10_of_22 (by decide) 83 (by rw [h6]; rfl) ?_
      exact (Option.some_ne_none _ hf.symm).elim
    replace hf := itf h6 hf
    by_cases h7 : x2 = 4
    · replace hf := itt h7 hf
      refine j_tab hX dX10_of_22 (by decide) 92 (by rw [h7]; rfl) ?_
      exact (Option.some_ne_none _ hf.symm).elim
    replace hf := itf h7 hf
    replace h3 := ne_ti (m := 0) h3 rfl
    replace h4 := ne_ti (m := 1) h4 rfl
    replace h5 := ne_ti (m := 2) h5 rfl
    replace h6 := ne_ti (m := 3) h6 rfl
    replace h7 := ne_ti (m := 4) h7 rfl
    refine j_tab hX dX10_of_22 (by decide) 101 (by unfold tsel; rw [if_pos (by omega)]; rfl) ?_
    replace hf := Option.some.inj hf
    subst hf
    exact jx_throwW (tx := "nothing of that number is told of copies") (si := 22) hX hQ th_NS (by decide +kernel) dX10_of_101 dX10_of_104 dX10_of_105 dX10_of_108 dX10_of_111 (by decide) (Nat.le_of_ble_eq_true rfl)
  · replace hf := itt h2 hf
    replace hf := Option.some.inj hf
    subst hf
    exact jx_throw (tx := "no such copy") (si := 21) hX hQ th_NS (by decide +kernel) dX10_of_11 dX10_of_14 dX10_of_15 dX10_of_17 dX10_of_20 (by decide) (Nat.le_of_ble_eq_true rfl)
def f_X10_of (fu : Nat) (c_years : Nat → Int32) (c_rows : Nat → Int32) (c_size : Int32) (x1 : Int32) (x2 : Int32) : Option (Int32) :=
  (f_X0_has c_size x1).bind fun v1 => if v1 = 0 then none else if x2 = 0 then (f_X0_sourceOf fu c_years c_rows c_size x1).bind fun v4 => some v4 else if x2 = 1 then (f_X0_changesOf fu c_years c_rows c_size x1).bind fun v6 => some v6 else if x2 = 2 then (f_X0_driftOf fu c_years c_rows c_size x1).bind fun v8 => some v8 else if x2 = 3 then (f_X0_originalOf fu c_years c_rows c_size x1).bind fun v10 => some v10 else if x2 = 4 then (f_X0_takenFrom fu c_years c_rows c_size x1).bind fun v12 => some v12 else none
set_option maxRecDepth 100000 in
set_option maxHeartbeats 4000000 in
theorem t_X10_of {fu : Nat}  (x1 : Int32) (x2 : Int32) {r : Int32} (hf : f_X10_of fu c_years c_rows c_size x1 x2 = some r) : Ci l G 8 0 0 yX10_of cX10_of 3 .int [.ref (gb G 0), .int x1, .int x2] (WB G p_female p_born p_toldDeath p_lastYear p_father p_mother p_fatherGrade p_motherGrade p_size g_holder g_arms g_from g_size r_marks r_arms r_root r_steps r_grade r_marksAboveOne q_rows q_sizes t_bytes t_length s_tokens s_starts s_size a_code a_codeSize a_at a_token a_fault a_place o_texts o_names o_operands o_size o_open o_refuses o_differs o_fees c_years c_rows c_size x_faultPlace ++ fr) r (WB G p_female p_born p_toldDeath p_lastYear p_father p_mother p_fatherGrade p_motherGrade p_size g_holder g_arms g_from g_size r_marks r_arms r_root r_steps r_grade r_marksAboveOne q_rows q_sizes t_bytes t_length s_tokens s_starts s_size a_code a_codeSize a_at a_token a_fault a_place o_texts o_names o_operands o_size o_open o_refuses o_differs o_fees c_years c_rows c_size x_faultPlace ++ fr) := by
  refine Ci.of (by decide) (Nat.le_of_ble_eq_true rfl) (fun Y hX hQ => ?_)
  refine j_lv (lv' := [(0, .ref (gb G 0)), (1, .int x1), (2, .int x2)]) rfl ?_
  unfold f_X10_of at hf
  refine j_aload_n hX dX10_of_0 1 rfl 0 rfl rfl ?_
  refine j_get hX dX10_of_1 4 rfl fg_X10_61 0 rfl rfl ?_
  refine j_iload_n hX dX10_of_4 5 rfl 1 rfl rfl ?_
  obtain ⟨v1, hv1, hf⟩ := ibd hf
  refine z_i (As := [.int x1]) (rest := []) (q0 := 30) hX dX10_of_5 8 rfl (t_X0_has x1 hv1) mc_X0_has mv_X0_has ml_X10_250 rfl rfl (Nat.le_of_ble_eq_true rfl) (Nat.le_refl _) (Nat.le_refl _) rfl (Nat.le_of_ble_eq_true rfl) ?_
  refine j_if_ne hX dX10_of_8 11 21 rfl rfl (fun h2 => ?_) (fun h2 => ?_)
  · replace hf := itf h2 hf
    refine j_iload_n hX dX10_of_21 22 rfl 2 rfl rfl ?_
    by_cases h3 : x2 = 0
    · replace hf := itt h3 hf
      refine j_tab hX dX10_of_22 (by decide) 56 (by rw [h3]; rfl) ?_
      refine j_aload_n hX dX10_of_56 57 rfl 0 rfl rfl ?_
      refine j_get hX dX10_of_57 60 rfl fg_X10_61 0 rfl rfl ?_
      refine j_iload_n hX dX10_of_60 61 rfl 1 rfl rfl ?_
      obtain ⟨v4, hv4, hf⟩ := ibd hf
      refine z_i (As := [.int x1]) (rest := []) (q0 := 30) hX dX10_of_61 64 rfl (t_X0_sourceOf x1 hv4) mc_X0_sourceOf mv_X0_sourceOf ml_X10_255 rfl rfl (Nat.le_of_ble_eq_true rfl) (Nat.le_refl _) (Nat.le_refl _) rfl (Nat.le_of_ble_eq_true rfl) ?_
      replace hf := Option.some.inj hf
      subst hf
      exact j_iret hX hQ dX10_of_64
    replace hf := itf h3 hf
    by_cases h5 : x2 = 1
    · replace hf := itt h5 hf
      refine j_tab hX dX10_of_22 (by decide) 65 (by rw [h5]; rfl) ?_
      refine j_aload_n hX dX10_of_65 66 rfl 0 rfl rfl ?_
      refine j_get hX dX10_of_66 69 rfl fg_X10_61 0 rfl rfl ?_
      refine j_iload_n hX dX10_of_69 70 rfl 1 rfl rfl ?_
      obtain ⟨v6, hv6, hf⟩ := ibd hf
      refine z_i (As := [.int x1]) (rest := []) (q0 := 30) hX dX10_of_70 73 rfl (t_X0_changesOf x1 hv6) mc_X0_changesOf mv_X0_changesOf ml_X10_258 rfl rfl (Nat.le_of_ble_eq_true rfl) (Nat.le_refl _) (Nat.le_refl _) rfl (Nat.le_of_ble_eq_true rfl) ?_
      replace hf := Option.some.inj hf
      subst hf
      exact j_iret hX hQ dX10_of_73
    replace hf := itf h5 hf
    by_cases h7 : x2 = 2
    · replace hf := itt h7 hf
      refine j_tab hX dX10_of_22 (by decide) 74 (by rw [h7]; rfl) ?_
      refine j_aload_n hX dX10_of_74 75 rfl 0 rfl rfl ?_
      refine j_get hX dX10_of_75 78 rfl fg_X10_61 0 rfl rfl ?_
      refine j_iload_n hX dX10_of_78 79 rfl 1 rfl rfl ?_
      obtain ⟨v8, hv8, hf⟩ := ibd hf
      refine z_i (As := [.int x1]) (rest := []) (q0 := 30) hX dX10_of_79 82 rfl (t_X0_driftOf x1 hv8) mc_X0_driftOf mv_X0_driftOf ml_X10_261 rfl rfl (Nat.le_of_ble_eq_true rfl) (Nat.le_refl _) (Nat.le_refl _) rfl (Nat.le_of_ble_eq_true rfl) ?_
      replace hf := Option.some.inj hf
      subst hf
      exact j_iret hX hQ dX10_of_82
    replace hf := itf h7 hf
    by_cases h9 : x2 = 3
    · replace hf := itt h9 hf
      refine j_tab hX dX10_of_22 (by decide) 83 (by rw [h9]; rfl) ?_
      refine j_aload_n hX dX10_of_83 84 rfl 0 rfl rfl ?_
      refine j_get hX dX10_of_84 87 rfl fg_X10_61 0 rfl rfl ?_
      refine j_iload_n hX dX10_of_87 88 rfl 1 rfl rfl ?_
      obtain ⟨v10, hv10, hf⟩ := ibd hf
      refine z_i (As := [.int x1]) (rest := []) (q0 := 30) hX dX10_of_88 91 rfl (t_X0_originalOf x1 hv10) mc_X0_originalOf mv_X0_originalOf ml_X10_264 rfl rfl (Nat.le_of_ble_eq_true rfl) (Nat.le_refl _) (Nat.le_refl _) rfl (Nat.le_of_ble_eq_true rfl) ?_
      replace hf := Option.some.inj hf
      subst hf
      exact j_iret hX hQ dX10_of_91
    replace hf := itf h9 hf
    by_cases h11 : x2 = 4
    · replace hf := itt h11 hf
      refine j_tab hX dX10_of_22 (by decide) 92 (by rw [h11]; rfl) ?_
      refine j_aload_n hX dX10_of_92 93 rfl 0 rfl rfl ?_
      refine j_get hX dX10_of_93 96 rfl fg_X10_61 0 rfl rfl ?_
      refine j_iload_n hX dX10_of_96 97 rfl 1 rfl rfl ?_
      obtain ⟨v12, hv12, hf⟩ := ibd hf
      refine z_i (As := [.int x1]) (rest := []) (q0 := 30) hX dX10_of_97 100 rfl (t_X0_takenFrom x1 hv12) mc_X0_takenFrom mv_X0_takenFrom ml_X10_267 rfl rfl (Nat.le_of_ble_eq_true rfl) (Nat.le_refl _) (Nat.le_refl _) rfl (Nat.le_of_ble_eq_true rfl) ?_
      replace hf := Option.some.inj hf
      subst hf
      exact j_iret hX hQ dX10_of_100
    replace hf := itf h11 hf
    replace h3 := ne_ti (m := 0) h3 rfl
    replace h5 := ne_ti (m := 1) h5 rfl
    replace h7 := ne_ti (m := 2) h7 rfl
    replace h9 := ne_ti (m := 3) h9 rfl
    replace h11 := ne_ti (m := 4) h11 rfl
    refine j_tab hX dX10_of_22 (by decide) 101 (by unfold tsel; rw [if_pos (by omega)]; rfl) ?_
    exact (Option.some_ne_none _ hf.symm).elim
  · replace hf := itt h2 hf
    exact (Option.some_ne_none _ hf.symm).elim
def f_X10_count_x (x1 : Int32) : Option (Unit) :=
  if x1 = 0 then none else if x1 = 1 then none else if x1 = 2 then none else if x1 = 3 then none else if x1 = 4 then none else some ()
set_option maxRecDepth 100000 in
set_option maxHeartbeats 4000000 in
theorem t_X10_count_x  (x1 : Int32) {r : Unit} (hf : f_X10_count_x x1 = some r) : Xt l G 8 1 6 yX10_count cX10_count 2 (some .int) [.ref (gb G 0), .int x1] (WB G p_female p_born p_toldDeath p_lastYear p_father p_mother p_fatherGrade p_motherGrade p_size g_holder g_arms g_from g_size r_marks r_arms r_root r_steps r_grade r_marksAboveOne q_rows q_sizes t_bytes t_length s_tokens s_starts s_size a_code a_codeSize a_at a_token a_fault a_place o_texts o_names o_operands o_size o_open o_refuses o_differs o_fees c_years c_rows c_size x_faultPlace ++ fr) (WB G p_female p_born p_toldDeath p_lastYear p_father p_mother p_fatherGrade p_motherGrade p_size g_holder g_arms g_from g_size r_marks r_arms r_root r_steps r_grade r_marksAboveOne q_rows q_sizes t_bytes t_length s_tokens s_starts s_size a_code a_codeSize a_at a_token a_fault a_place o_texts o_names o_operands o_size o_open o_refuses o_differs o_fees c_years c_rows c_size x_faultPlace ++ fr) xNS := by
  refine Xt.of (by decide) (Nat.le_of_ble_eq_true rfl) (fun Y hX hQ => ?_)
  refine j_lv (lv' := [(0, .ref (gb G 0)), (1, .int x1)]) rfl ?_
  unfold f_X10_count_x at hf
  refine j_iload_n hX dX10_count_0 1 rfl 1 rfl rfl ?_
  by_cases h1 : x1 = 0
  · replace hf := itt h1 hf
    refine j_tab hX dX10_count_1 (by decide) 36 (by rw [h1]; rfl) ?_
    exact (Option.some_ne_none _ hf.symm).elim
  replace hf := itf h1 hf
  by_cases h2 : x1 = 1
  · replace hf := itt h2 hf
    refine j_tab hX dX10_count_1 (by decide) 44 (by rw [h2]; rfl) ?_
    exact (Option.some_ne_none _ hf.symm).elim
  replace hf := itf h2 hf
  by_cases h3 : x1 = 2
  · replace hf := itt h3 hf
    refine j_tab hX dX10_count_1 (by decide) 52 (by rw [h3]; rfl) ?_
    exact (Option.some_ne_none _ hf.symm).elim
  replace hf := itf h3 hf
  by_cases h4 : x1 = 3
  · replace hf := itt h4 hf
    refine j_tab hX dX10_count_1 (by decide) 60 (by rw [h4]; rfl) ?_
    exact (Option.some_ne_none _ hf.symm).elim
  replace hf := itf h4 hf
  by_cases h5 : x1 = 4
  · replace hf := itt h5 hf
    refine j_tab hX dX10_count_1 (by decide) 68 (by rw [h5]; rfl) ?_
    exact (Option.some_ne_none _ hf.symm).elim
  replace hf := itf h5 hf
  replace h1 := ne_ti (m := 0) h1 rfl
  replace h2 := ne_ti (m := 1) h2 rfl
  replace h3 := ne_ti (m := 2) h3 rfl
  replace h4 := ne_ti (m := 3) h4 rfl
  replace h5 := ne_ti (m := 4) h5 rfl
  refine j_tab hX dX10_count_1 (by decide) 76 (by unfold tsel; rw [if_pos (by omega)]; rfl) ?_
  replace hf := Option.some.inj hf
  subst hf
  exact jx_throwW (tx := "nothing of that number is counted") (si := 23) hX hQ th_NS (by decide +kernel) dX10_count_76 dX10_count_79 dX10_count_80 dX10_count_83 dX10_count_86 (by decide) (Nat.le_of_ble_eq_true rfl)
def f_X10_count (p_size : Int32) (g_size : Int32) (t_length : Int32) (o_size : Int32) (c_size : Int32) (x1 : Int32) : Option (Int32) :=
  if x1 = 0 then some p_size else if x1 = 1 then some g_size else if x1 = 2 then some o_size else if x1 = 3 then some c_size else if x1 = 4 then some t_length else none
set_option maxRecDepth 100000 in
set_option maxHeartbeats 4000000 in
theorem t_X10_count  (x1 : Int32) {r : Int32} (hf : f_X10_count p_size g_size t_length o_size c_size x1 = some r) : Ci l G 8 0 0 yX10_count cX10_count 2 .int [.ref (gb G 0), .int x1] (WB G p_female p_born p_toldDeath p_lastYear p_father p_mother p_fatherGrade p_motherGrade p_size g_holder g_arms g_from g_size r_marks r_arms r_root r_steps r_grade r_marksAboveOne q_rows q_sizes t_bytes t_length s_tokens s_starts s_size a_code a_codeSize a_at a_token a_fault a_place o_texts o_names o_operands o_size o_open o_refuses o_differs o_fees c_years c_rows c_size x_faultPlace ++ fr) r (WB G p_female p_born p_toldDeath p_lastYear p_father p_mother p_fatherGrade p_motherGrade p_size g_holder g_arms g_from g_size r_marks r_arms r_root r_steps r_grade r_marksAboveOne q_rows q_sizes t_bytes t_length s_tokens s_starts s_size a_code a_codeSize a_at a_token a_fault a_place o_texts o_names o_operands o_size o_open o_refuses o_differs o_fees c_years c_rows c_size x_faultPlace ++ fr) := by
  refine Ci.of (by decide) (Nat.le_of_ble_eq_true rfl) (fun Y hX hQ => ?_)
  refine j_lv (lv' := [(0, .ref (gb G 0)), (1, .int x1)]) rfl ?_
  unfold f_X10_count at hf
  refine j_iload_n hX dX10_count_0 1 rfl 1 rfl rfl ?_
  by_cases h1 : x1 = 0
  · replace hf := itt h1 hf
    refine j_tab hX dX10_count_1 (by decide) 36 (by rw [h1]; rfl) ?_
    refine j_aload_n hX dX10_count_36 37 rfl 0 rfl rfl ?_
    refine j_get hX dX10_count_37 40 rfl fg_X10_10 0 rfl rfl ?_
    refine j_getN hX dX10_count_40 43 rfl fn_X10_245 1 rfl rfl ?_
    replace hf := Option.some.inj hf
    subst hf
    exact j_iret hX hQ dX10_count_43
  replace hf := itf h1 hf
  by_cases h2 : x1 = 1
  · replace hf := itt h2 hf
    refine j_tab hX dX10_count_1 (by decide) 44 (by rw [h2]; rfl) ?_
    refine j_aload_n hX dX10_count_44 45 rfl 0 rfl rfl ?_
    refine j_get hX dX10_count_45 48 rfl fg_X10_19 0 rfl rfl ?_
    refine j_getN hX dX10_count_48 51 rfl fn_X10_272 10 rfl rfl ?_
    replace hf := Option.some.inj hf
    subst hf
    exact j_iret hX hQ dX10_count_51
  replace hf := itf h2 hf
  by_cases h3 : x1 = 2
  · replace hf := itt h3 hf
    refine j_tab hX dX10_count_1 (by decide) 52 (by rw [h3]; rfl) ?_
    refine j_aload_n hX dX10_count_52 53 rfl 0 rfl rfl ?_
    refine j_get hX dX10_count_53 56 rfl fg_X10_54 0 rfl rfl ?_
    refine j_getN hX dX10_count_56 59 rfl fn_X10_273 26 rfl rfl ?_
    replace hf := Option.some.inj hf
    subst hf
    exact j_iret hX hQ dX10_count_59
  replace hf := itf h3 hf
  by_cases h4 : x1 = 3
  · replace hf := itt h4 hf
    refine j_tab hX dX10_count_1 (by decide) 60 (by rw [h4]; rfl) ?_
    refine j_aload_n hX dX10_count_60 61 rfl 0 rfl rfl ?_
    refine j_get hX dX10_count_61 64 rfl fg_X10_61 0 rfl rfl ?_
    refine j_getN hX dX10_count_64 67 rfl fn_X10_274 30 rfl rfl ?_
    replace hf := Option.some.inj hf
    subst hf
    exact j_iret hX hQ dX10_count_67
  replace hf := itf h4 hf
  by_cases h5 : x1 = 4
  · replace hf := itt h5 hf
    refine j_tab hX dX10_count_1 (by decide) 68 (by rw [h5]; rfl) ?_
    refine j_aload_n hX dX10_count_68 69 rfl 0 rfl rfl ?_
    refine j_get hX dX10_count_69 72 rfl fg_X10_40 0 rfl rfl ?_
    refine j_getN hX dX10_count_72 75 rfl fn_X10_101 19 rfl rfl ?_
    replace hf := Option.some.inj hf
    subst hf
    exact j_iret hX hQ dX10_count_75
  replace hf := itf h5 hf
  replace h1 := ne_ti (m := 0) h1 rfl
  replace h2 := ne_ti (m := 1) h2 rfl
  replace h3 := ne_ti (m := 2) h3 rfl
  replace h4 := ne_ti (m := 3) h4 rfl
  replace h5 := ne_ti (m := 4) h5 rfl
  refine j_tab hX dX10_count_1 (by decide) 76 (by unfold tsel; rw [if_pos (by omega)]; rfl) ?_
  exact (Option.some_ne_none _ hf.symm).elim
end
