section
variable {l : Launch} {G : GT} {fr ws : va_W} {kT : Nat} {tA tC tN : Nat → Nat} {tF : Nat → Nat → Int32} {tY : Nat → Int32} {p_female : Nat → Int32} {p_born : Nat → Int32} {p_toldDeath : Nat → Int32} {p_lastYear : Nat → Int32} {p_father : Nat → Int32} {p_mother : Nat → Int32} {p_fatherGrade : Nat → Int32} {p_motherGrade : Nat → Int32} {p_size : Int32} {g_holder : Nat → Int32} {g_arms : Nat → Int32} {g_from : Nat → Int32} {g_size : Int32} {r_marks : Nat → Int32} {r_arms : Int32} {r_root : Int32} {r_steps : Int32} {r_grade : Int32} {r_marksAboveOne : Int32} {q_rows : Nat → Int32} {q_sizes : Nat → Int32} {t_bytes : Nat → Int32} {t_length : Int32} {s_tokens : Nat → Int32} {s_starts : Nat → Int32} {s_size : Int32} {a_code : Nat → Int32} {a_codeSize : Int32} {a_at : Int32} {a_token : Int32} {a_fault : Int32} {a_place : Int32} {o_texts : Nat → Option Nat} {o_names : Nat → Int32} {o_operands : Nat → Int32} {o_size : Int32} {o_open : Int32} {o_refuses : Int32} {o_differs : Int32} {o_fees : Int32} {c_years : Nat → Int32} {c_rows : Nat → Int32} {c_size : Int32} {x_faultPlace : Int32}
def g_X5_climb_91 (r_arms : Int32) (r_root : Int32) (r_steps : Int32) (r_grade : Int32) : Option (Int32 × Int32 × Int32 × Int32) :=
  some (r_arms, r_root, r_steps, r_grade)
set_option maxRecDepth 100000 in
set_option maxHeartbeats 4000000 in
theorem t_X5_climb_91 {Y : YT} {r : Int32 × Int32 × Int32 × Int32}  (hX : CX l G cX5_climb 9 RX5 Y) (hQ : EQv G Y 0 0 (WB G p_female p_born p_toldDeath p_lastYear p_father p_mother p_fatherGrade p_motherGrade p_size g_holder g_arms g_from g_size r_marks r.1 r.2.1 r.2.2.1 r.2.2.2 r_marksAboveOne q_rows q_sizes t_bytes t_length s_tokens s_starts s_size a_code a_codeSize a_at a_token a_fault a_place o_texts o_names o_operands o_size o_open o_refuses o_differs o_fees c_years c_rows c_size x_faultPlace ++ fr))   (hf : g_X5_climb_91 r_arms r_root r_steps r_grade = some r) : J l G (rmD 3 0 0) Y 0 0 91 [] [] (WB G p_female p_born p_toldDeath p_lastYear p_father p_mother p_fatherGrade p_motherGrade p_size g_holder g_arms g_from g_size r_marks r_arms r_root r_steps r_grade r_marksAboveOne q_rows q_sizes t_bytes t_length s_tokens s_starts s_size a_code a_codeSize a_at a_token a_fault a_place o_texts o_names o_operands o_size o_open o_refuses o_differs o_fees c_years c_rows c_size x_faultPlace ++ fr) := by
  unfold g_X5_climb_91 at hf
  replace hf := Option.some.inj hf
  subst hf
  exact j_vret hX hQ dX5_climb_91
def g_X5_climb_10 (fu : Nat) (p_father : Nat → Int32) (p_fatherGrade : Nat → Int32) (p_size : Int32) (g_holder : Nat → Int32) (g_arms : Nat → Int32) (g_from : Nat → Int32) (g_size : Int32) (r_arms : Int32) (r_root : Int32) (r_steps : Int32) (r_grade : Int32) (k10 : Int32 → Int32 → Int32 → Int32 → Int32 → Int32 → Int32 → Int32 → Option (Int32 × Int32 × Int32 × Int32)) (x4 : Int32) (x5 : Int32) (x6 : Int32) (x7 : Int32) : Option (Int32 × Int32 × Int32 × Int32) :=
  if 60 ≤ x7 then g_X5_climb_91 r_arms r_root r_steps r_grade else if x6 = ((-1)) then g_X5_climb_91 r_arms r_root r_steps r_grade else (f_X1_ownArms fu g_holder g_arms g_from g_size x6 x4).bind fun v3 => if v3 = ((-1)) then (f_X4_fatherGradeOf p_fatherGrade p_size x6).bind fun v5 => (f_X4_fatherOf p_father p_size x6).bind fun v6 => k10 x4 (min32 x5 v5) v6 (x7 + 1) r_arms r_root r_steps r_grade else some (v3, x6, x7, x5)
set_option maxRecDepth 100000 in
set_option maxHeartbeats 4000000 in
theorem t_X5_climb_10 {fu : Nat} {Y : YT} {r : Int32 × Int32 × Int32 × Int32} {k10 : Int32 → Int32 → Int32 → Int32 → Int32 → Int32 → Int32 → Int32 → Option (Int32 × Int32 × Int32 × Int32)} (hX : CX l G cX5_climb 9 RX5 Y) (hQ : EQv G Y 0 0 (WB G p_female p_born p_toldDeath p_lastYear p_father p_mother p_fatherGrade p_motherGrade p_size g_holder g_arms g_from g_size r_marks r.1 r.2.1 r.2.2.1 r.2.2.2 r_marksAboveOne q_rows q_sizes t_bytes t_length s_tokens s_starts s_size a_code a_codeSize a_at a_token a_fault a_place o_texts o_names o_operands o_size o_open o_refuses o_differs o_fees c_years c_rows c_size x_faultPlace ++ fr)) (hk10 : ∀ (x4 : Int32) (x5 : Int32) (x6 : Int32) (x7 : Int32) (r_arms : Int32) (r_root : Int32) (r_steps : Int32) (r_grade : Int32), k10 x4 x5 x6 x7 r_arms r_root r_steps r_grade = some r → J l G (rmD 3 0 0) Y 0 0 10 [(0, .ref (gb G 14)), (1, .ref (gb G 1)), (2, .ref (gb G 10)), (4, .int x4), (5, .int x5), (6, .int x6), (7, .int x7)] [] (WB G p_female p_born p_toldDeath p_lastYear p_father p_mother p_fatherGrade p_motherGrade p_size g_holder g_arms g_from g_size r_marks r_arms r_root r_steps r_grade r_marksAboveOne q_rows q_sizes t_bytes t_length s_tokens s_starts s_size a_code a_codeSize a_at a_token a_fault a_place o_texts o_names o_operands o_size o_open o_refuses o_differs o_fees c_years c_rows c_size x_faultPlace ++ fr)) (x4 : Int32) (x5 : Int32) (x6 : Int32) (x7 : Int32) (hf : g_X5_climb_10 fu p_father p_fatherGrade p_size g_holder g_arms g_from g_size r_arms r_root r_steps r_grade k10 x4 x5 x6 x7 = some r) : J l G (rmD 3 0 0) Y 0 0 10 [(0, .ref (gb G 14)), (1, .ref (gb G 1)), (2, .ref (gb G 10)), (4, .int x4), (5, .int x5), (6, .int x6), (7, .int x7)] [] (WB G p_female p_born p_toldDeath p_lastYear p_father p_mother p_fatherGrade p_motherGrade p_size g_holder g_arms g_from g_size r_marks r_arms r_root r_steps r_grade r_marksAboveOne q_rows q_sizes t_bytes t_length s_tokens s_starts s_size a_code a_codeSize a_at a_token a_fault a_place o_texts o_names o_operands o_size o_open o_refuses o_differs o_fees c_years c_rows c_size x_faultPlace ++ fr) := by
  unfold g_X5_climb_10 at hf
  refine j_iload hX dX5_climb_10 12 rfl 6 rfl ?_
  refine j_bipush (v := 60) hX dX5_climb_12 14 rfl (by decide) ?_
  refine j_icmp_ge hX dX5_climb_14 17 91 rfl rfl (fun h1 => ?_) (fun h1 => ?_)
  · replace hf := itt h1 hf
    refine j_sub [] rfl ?_
    exact t_X5_climb_91 hX hQ    hf
  · replace hf := itf h1 hf
    refine j_iload hX dX5_climb_17 19 rfl 5 rfl ?_
    refine j_iconst (v := (-1)) hX dX5_climb_19 20 rfl (by decide) ?_
    refine j_icmp_eq hX dX5_climb_20 23 91 rfl rfl (fun h2 => ?_) (fun h2 => ?_)
    · replace hf := itt h2 hf
      refine j_sub [] rfl ?_
      exact t_X5_climb_91 hX hQ    hf
    · replace hf := itf h2 hf
      refine j_aload_n hX dX5_climb_23 24 rfl 2 rfl rfl ?_
      refine j_iload hX dX5_climb_24 26 rfl 5 rfl ?_
      refine j_iload hX dX5_climb_26 28 rfl 3 rfl ?_
      obtain ⟨v3, hv3, hf⟩ := ibd hf
      refine z_i (As := [.int x6, .int x4]) (rest := []) (q0 := 10) hX dX5_climb_28 31 rfl (t_X1_ownArms x6 x4 hv3) mc_X1_ownArms mv_X1_ownArms ml_X5_45 rfl rfl (Nat.le_of_ble_eq_true rfl) (Nat.le_refl _) (Nat.le_refl _) rfl (Nat.le_of_ble_eq_true rfl) ?_
      refine j_istore hX dX5_climb_31 33 rfl (by decide) (lv' := [(8, .int v3), (0, .ref (gb G 14)), (1, .ref (gb G 1)), (2, .ref (gb G 10)), (4, .int x4), (5, .int x5), (6, .int x6), (7, .int x7)]) rfl ?_
      refine j_iload hX dX5_climb_33 35 rfl 0 rfl ?_
      refine j_iconst (v := (-1)) hX dX5_climb_35 36 rfl (by decide) ?_
      refine j_icmp_eq hX dX5_climb_36 39 64 rfl rfl (fun h4 => ?_) (fun h4 => ?_)
      · replace hf := itt h4 hf
        refine j_iload hX dX5_climb_64 66 rfl 5 rfl ?_
        refine j_aload_n hX dX5_climb_66 67 rfl 2 rfl rfl ?_
        refine j_iload hX dX5_climb_67 69 rfl 6 rfl ?_
        obtain ⟨v5, hv5, hf⟩ := ibd hf
        refine z_i (As := [.int x6]) (rest := [.int x5]) (q0 := 1) hX dX5_climb_69 72 rfl (t_X4_fatherGradeOf x6 hv5) mc_X4_fatherGradeOf mv_X4_fatherGradeOf ml_X5_51 rfl rfl (Nat.le_of_ble_eq_true rfl) (Nat.le_refl _) (Nat.le_refl _) rfl (Nat.le_of_ble_eq_true rfl) ?_
        refine j_min (rest := []) hX dX5_climb_72 75 rfl mm_X5_55 (Nat.le_of_ble_eq_true rfl) (Nat.le_of_ble_eq_true rfl) (Nat.le_refl _) (Nat.le_refl _) ?_
        refine j_istore hX dX5_climb_75 77 rfl (by decide) (lv' := [(5, .int (min32 x5 v5)), (8, .int v3), (0, .ref (gb G 14)), (1, .ref (gb G 1)), (2, .ref (gb G 10)), (4, .int x4), (6, .int x6), (7, .int x7)]) rfl ?_
        refine j_aload_n hX dX5_climb_77 78 rfl 3 rfl rfl ?_
        refine j_iload hX dX5_climb_78 80 rfl 6 rfl ?_
        obtain ⟨v6, hv6, hf⟩ := ibd hf
        refine z_i (As := [.int x6]) (rest := []) (q0 := 1) hX dX5_climb_80 83 rfl (t_X4_fatherOf x6 hv6) mc_X4_fatherOf mv_X4_fatherOf ml_X5_60 rfl rfl (Nat.le_of_ble_eq_true rfl) (Nat.le_refl _) (Nat.le_refl _) rfl (Nat.le_of_ble_eq_true rfl) ?_
        refine j_istore hX dX5_climb_83 85 rfl (by decide) (lv' := [(6, .int v6), (5, .int (min32 x5 v5)), (8, .int v3), (0, .ref (gb G 14)), (1, .ref (gb G 1)), (2, .ref (gb G 10)), (4, .int x4), (7, .int x7)]) rfl ?_
        refine j_iinc (v := x7 + 1) hX dX5_climb_85 88 rfl 7 rfl rfl (by decide) (lv' := [(7, .int (x7 + 1)), (6, .int v6), (5, .int (min32 x5 v5)), (8, .int v3), (0, .ref (gb G 14)), (1, .ref (gb G 1)), (2, .ref (gb G 10)), (4, .int x4)]) rfl ?_
        refine j_goto hX dX5_climb_88 10 rfl ?_
        refine j_sub [4, 5, 6, 7, 2, 1, 0] rfl ?_
        exact hk10 x4 (min32 x5 v5) v6 (x7 + 1) r_arms r_root r_steps r_grade hf
      · replace hf := itf h4 hf
        refine j_aload_n hX dX5_climb_39 40 rfl 1 rfl rfl ?_
        refine j_iload hX dX5_climb_40 42 rfl 0 rfl ?_
        refine j_put hX dX5_climb_42 45 rfl fg_X5_17 ft_X5_1 14 rfl rfl rfl (Nat.le_of_ble_eq_true rfl) (ws' := (WB G p_female p_born p_toldDeath p_lastYear p_father p_mother p_fatherGrade p_motherGrade p_size g_holder g_arms g_from g_size r_marks v3 r_root r_steps r_grade r_marksAboveOne q_rows q_sizes t_bytes t_length s_tokens s_starts s_size a_code a_codeSize a_at a_token a_fault a_place o_texts o_names o_operands o_size o_open o_refuses o_differs o_fees c_years c_rows c_size x_faultPlace ++ fr)) rfl ?_
        refine j_aload_n hX dX5_climb_45 46 rfl 1 rfl rfl ?_
        refine j_iload hX dX5_climb_46 48 rfl 6 rfl ?_
        refine j_put hX dX5_climb_48 51 rfl fg_X5_21 ft_X5_2 14 rfl rfl rfl (Nat.le_of_ble_eq_true rfl) (ws' := (WB G p_female p_born p_toldDeath p_lastYear p_father p_mother p_fatherGrade p_motherGrade p_size g_holder g_arms g_from g_size r_marks v3 x6 r_steps r_grade r_marksAboveOne q_rows q_sizes t_bytes t_length s_tokens s_starts s_size a_code a_codeSize a_at a_token a_fault a_place o_texts o_names o_operands o_size o_open o_refuses o_differs o_fees c_years c_rows c_size x_faultPlace ++ fr)) rfl ?_
        refine j_aload_n hX dX5_climb_51 52 rfl 1 rfl rfl ?_
        refine j_iload hX dX5_climb_52 54 rfl 7 rfl ?_
        refine j_put hX dX5_climb_54 57 rfl fg_X5_24 ft_X5_3 14 rfl rfl rfl (Nat.le_of_ble_eq_true rfl) (ws' := (WB G p_female p_born p_toldDeath p_lastYear p_father p_mother p_fatherGrade p_motherGrade p_size g_holder g_arms g_from g_size r_marks v3 x6 x7 r_grade r_marksAboveOne q_rows q_sizes t_bytes t_length s_tokens s_starts s_size a_code a_codeSize a_at a_token a_fault a_place o_texts o_names o_operands o_size o_open o_refuses o_differs o_fees c_years c_rows c_size x_faultPlace ++ fr)) rfl ?_
        refine j_aload_n hX dX5_climb_57 58 rfl 1 rfl rfl ?_
        refine j_iload hX dX5_climb_58 60 rfl 5 rfl ?_
        refine j_put hX dX5_climb_60 63 rfl fg_X5_27 ft_X5_4 14 rfl rfl rfl (Nat.le_of_ble_eq_true rfl) (ws' := (WB G p_female p_born p_toldDeath p_lastYear p_father p_mother p_fatherGrade p_motherGrade p_size g_holder g_arms g_from g_size r_marks v3 x6 x7 x5 r_marksAboveOne q_rows q_sizes t_bytes t_length s_tokens s_starts s_size a_code a_codeSize a_at a_token a_fault a_place o_texts o_names o_operands o_size o_open o_refuses o_differs o_fees c_years c_rows c_size x_faultPlace ++ fr)) rfl ?_
        replace hf := Option.some.inj hf
        subst hf
        exact j_vret hX hQ dX5_climb_63
def f_X5_climb_10 (fu : Nat) (p_father : Nat → Int32) (p_fatherGrade : Nat → Int32) (p_size : Int32) (g_holder : Nat → Int32) (g_arms : Nat → Int32) (g_from : Nat → Int32) (g_size : Int32) : Nat → (Int32 × Int32 × Int32 × Int32 × Int32 × Int32 × Int32 × Int32) → Option (Int32 × Int32 × Int32 × Int32) :=
  lp (fun k v => g_X5_climb_10 fu p_father p_fatherGrade p_size g_holder g_arms g_from g_size v.2.2.2.2.1 v.2.2.2.2.2.1 v.2.2.2.2.2.2.1 v.2.2.2.2.2.2.2 (fun x4 x5 x6 x7 r_arms r_root r_steps r_grade => k (x4, x5, x6, x7, r_arms, r_root, r_steps, r_grade)) v.1 v.2.1 v.2.2.1 v.2.2.2.1)
set_option maxRecDepth 100000 in
set_option maxHeartbeats 4000000 in
theorem u_X5_climb_10 {fu : Nat} {Y : YT} {r : Int32 × Int32 × Int32 × Int32}  (hX : CX l G cX5_climb 9 RX5 Y) (hQ : EQv G Y 0 0 (WB G p_female p_born p_toldDeath p_lastYear p_father p_mother p_fatherGrade p_motherGrade p_size g_holder g_arms g_from g_size r_marks r.1 r.2.1 r.2.2.1 r.2.2.2 r_marksAboveOne q_rows q_sizes t_bytes t_length s_tokens s_starts s_size a_code a_codeSize a_at a_token a_fault a_place o_texts o_names o_operands o_size o_open o_refuses o_differs o_fees c_years c_rows c_size x_faultPlace ++ fr))  (n : Nat) (v : Int32 × Int32 × Int32 × Int32 × Int32 × Int32 × Int32 × Int32) (hf : f_X5_climb_10 fu p_father p_fatherGrade p_size g_holder g_arms g_from g_size n v = some r) : J l G (rmD 3 0 0) Y 0 0 10 [(0, .ref (gb G 14)), (1, .ref (gb G 1)), (2, .ref (gb G 10)), (4, .int v.1), (5, .int v.2.1), (6, .int v.2.2.1), (7, .int v.2.2.2.1)] [] (WB G p_female p_born p_toldDeath p_lastYear p_father p_mother p_fatherGrade p_motherGrade p_size g_holder g_arms g_from g_size r_marks v.2.2.2.2.1 v.2.2.2.2.2.1 v.2.2.2.2.2.2.1 v.2.2.2.2.2.2.2 r_marksAboveOne q_rows q_sizes t_bytes t_length s_tokens s_starts s_size a_code a_codeSize a_at a_token a_fault a_place o_texts o_names o_operands o_size o_open o_refuses o_differs o_fees c_years c_rows c_size x_faultPlace ++ fr) :=
  lp_ind (P := fun v : Int32 × Int32 × Int32 × Int32 × Int32 × Int32 × Int32 × Int32 => J l G (rmD 3 0 0) Y 0 0 10 [(0, .ref (gb G 14)), (1, .ref (gb G 1)), (2, .ref (gb G 10)), (4, .int v.1), (5, .int v.2.1), (6, .int v.2.2.1), (7, .int v.2.2.2.1)] [] (WB G p_female p_born p_toldDeath p_lastYear p_father p_mother p_fatherGrade p_motherGrade p_size g_holder g_arms g_from g_size r_marks v.2.2.2.2.1 v.2.2.2.2.2.1 v.2.2.2.2.2.2.1 v.2.2.2.2.2.2.2 r_marksAboveOne q_rows q_sizes t_bytes t_length s_tokens s_starts s_size a_code a_codeSize a_at a_token a_fault a_place o_texts o_names o_operands o_size o_open o_refuses o_differs o_fees c_years c_rows c_size x_faultPlace ++ fr)) (fun k hk v hf => t_X5_climb_10 hX hQ   (fun x4 x5 x6 x7 r_arms r_root r_steps r_grade h => hk (x4, x5, x6, x7, r_arms, r_root, r_steps, r_grade) h) v.1 v.2.1 v.2.2.1 v.2.2.2.1 hf) n v hf
def f_X5_climb (fu : Nat) (p_father : Nat → Int32) (p_fatherGrade : Nat → Int32) (p_size : Int32) (g_holder : Nat → Int32) (g_arms : Nat → Int32) (g_from : Nat → Int32) (g_size : Int32) (r_arms : Int32) (r_root : Int32) (r_steps : Int32) (r_grade : Int32) (x3 : Int32) (x4 : Int32) : Option (Int32 × Int32 × Int32 × Int32) :=
  f_X5_climb_10 fu p_father p_fatherGrade p_size g_holder g_arms g_from g_size fu (x4, 9, x3, 0, r_arms, r_root, r_steps, r_grade)
set_option maxRecDepth 100000 in
set_option maxHeartbeats 4000000 in
theorem t_X5_climb {fu : Nat}  (x3 : Int32) (x4 : Int32) {r : Int32 × Int32 × Int32 × Int32} (hf : f_X5_climb fu p_father p_fatherGrade p_size g_holder g_arms g_from g_size r_arms r_root r_steps r_grade x3 x4 = some r) : Cv l G 3 0 0 yX5_climb cX5_climb 9 [.ref (gb G 14), .ref (gb G 1), .ref (gb G 10), .int x3, .int x4] (WB G p_female p_born p_toldDeath p_lastYear p_father p_mother p_fatherGrade p_motherGrade p_size g_holder g_arms g_from g_size r_marks r_arms r_root r_steps r_grade r_marksAboveOne q_rows q_sizes t_bytes t_length s_tokens s_starts s_size a_code a_codeSize a_at a_token a_fault a_place o_texts o_names o_operands o_size o_open o_refuses o_differs o_fees c_years c_rows c_size x_faultPlace ++ fr) (WB G p_female p_born p_toldDeath p_lastYear p_father p_mother p_fatherGrade p_motherGrade p_size g_holder g_arms g_from g_size r_marks r.1 r.2.1 r.2.2.1 r.2.2.2 r_marksAboveOne q_rows q_sizes t_bytes t_length s_tokens s_starts s_size a_code a_codeSize a_at a_token a_fault a_place o_texts o_names o_operands o_size o_open o_refuses o_differs o_fees c_years c_rows c_size x_faultPlace ++ fr) := by
  refine Cv.of (by decide) (Nat.le_of_ble_eq_true rfl) (fun Y hX hQ => ?_)
  refine j_lv (lv' := [(0, .ref (gb G 14)), (1, .ref (gb G 1)), (2, .ref (gb G 10)), (3, .int x3), (4, .int x4)]) rfl ?_
  unfold f_X5_climb at hf
  refine j_bipush (v := 9) hX dX5_climb_0 2 rfl (by decide) ?_
  refine j_istore hX dX5_climb_2 4 rfl (by decide) (lv' := [(5, .int 9), (0, .ref (gb G 14)), (1, .ref (gb G 1)), (2, .ref (gb G 10)), (3, .int x3), (4, .int x4)]) rfl ?_
  refine j_iload_n hX dX5_climb_4 5 rfl 4 rfl rfl ?_
  refine j_istore hX dX5_climb_5 7 rfl (by decide) (lv' := [(6, .int x3), (5, .int 9), (0, .ref (gb G 14)), (1, .ref (gb G 1)), (2, .ref (gb G 10)), (3, .int x3), (4, .int x4)]) rfl ?_
  refine j_iconst (v := 0) hX dX5_climb_7 8 rfl (by decide) ?_
  refine j_istore hX dX5_climb_8 10 rfl (by decide) (lv' := [(7, .int 0), (6, .int x3), (5, .int 9), (0, .ref (gb G 14)), (1, .ref (gb G 1)), (2, .ref (gb G 10)), (3, .int x3), (4, .int x4)]) rfl ?_
  refine j_sub [3, 4, 5, 7, 2, 1, 0] rfl ?_
  exact u_X5_climb_10 hX hQ   fu (x4, 9, x3, 0, r_arms, r_root, r_steps, r_grade) hf
def g_X5_setMarks_56 (p_father : Nat → Int32) (p_size : Int32) (r_marks : Nat → Int32) (r_marksAboveOne : Int32) (k16 : Int64 → Int32 → Int32 → (Nat → Int32) → Int32 → Option ((Nat → Int32) × Int32)) (x3 : Int64) (x5 : Int32) (x6 : Int32) : Option ((Nat → Int32) × Int32) :=
  (f_X4_fatherOf p_father p_size x5).bind fun v6 => k16 x3 v6 (x6 + (-1)) r_marks r_marksAboveOne
set_option maxRecDepth 100000 in
set_option maxHeartbeats 4000000 in
theorem t_X5_setMarks_56 {Y : YT} {r : (Nat → Int32) × Int32} {k16 : Int64 → Int32 → Int32 → (Nat → Int32) → Int32 → Option ((Nat → Int32) × Int32)} (hX : CX l G cX5_setMarks 7 RX5 Y) (hQ : EQv G Y 0 0 (WB G p_female p_born p_toldDeath p_lastYear p_father p_mother p_fatherGrade p_motherGrade p_size g_holder g_arms g_from g_size r.1 r_arms r_root r_steps r_grade r.2 q_rows q_sizes t_bytes t_length s_tokens s_starts s_size a_code a_codeSize a_at a_token a_fault a_place o_texts o_names o_operands o_size o_open o_refuses o_differs o_fees c_years c_rows c_size x_faultPlace ++ fr)) (hk16 : ∀ (x3 : Int64) (x5 : Int32) (x6 : Int32) (r_marks : Nat → Int32) (r_marksAboveOne : Int32), k16 x3 x5 x6 r_marks r_marksAboveOne = some r → J l G (rmD 5 0 0) Y 0 0 16 [(0, .ref (gb G 14)), (1, .ref (gb G 1)), (3, .long x3), (5, .int x5), (6, .int x6)] [] (WB G p_female p_born p_toldDeath p_lastYear p_father p_mother p_fatherGrade p_motherGrade p_size g_holder g_arms g_from g_size r_marks r_arms r_root r_steps r_grade r_marksAboveOne q_rows q_sizes t_bytes t_length s_tokens s_starts s_size a_code a_codeSize a_at a_token a_fault a_place o_texts o_names o_operands o_size o_open o_refuses o_differs o_fees c_years c_rows c_size x_faultPlace ++ fr)) (x3 : Int64) (x5 : Int32) (x6 : Int32) (hf : g_X5_setMarks_56 p_father p_size r_marks r_marksAboveOne k16 x3 x5 x6 = some r) : J l G (rmD 5 0 0) Y 0 0 56 [(0, .ref (gb G 14)), (1, .ref (gb G 1)), (3, .long x3), (5, .int x5), (6, .int x6)] [] (WB G p_female p_born p_toldDeath p_lastYear p_father p_mother p_fatherGrade p_motherGrade p_size g_holder g_arms g_from g_size r_marks r_arms r_root r_steps r_grade r_marksAboveOne q_rows q_sizes t_bytes t_length s_tokens s_starts s_size a_code a_codeSize a_at a_token a_fault a_place o_texts o_names o_operands o_size o_open o_refuses o_differs o_fees c_years c_rows c_size x_faultPlace ++ fr) := by
  unfold g_X5_setMarks_56 at hf
  refine j_aload_n hX dX5_setMarks_56 57 rfl 1 rfl rfl ?_
  refine j_iload hX dX5_setMarks_57 59 rfl 3 rfl ?_
  obtain ⟨v6, hv6, hf⟩ := ibd hf
  refine z_i (As := [.int x5]) (rest := []) (q0 := 1) hX dX5_setMarks_59 62 rfl (t_X4_fatherOf x5 hv6) mc_X4_fatherOf mv_X4_fatherOf ml_X5_60 rfl rfl (Nat.le_of_ble_eq_true rfl) (Nat.le_refl _) (Nat.le_refl _) rfl (Nat.le_of_ble_eq_true rfl) ?_
  refine j_istore hX dX5_setMarks_62 64 rfl (by decide) (lv' := [(5, .int v6), (0, .ref (gb G 14)), (1, .ref (gb G 1)), (3, .long x3), (6, .int x6)]) rfl ?_
  refine j_iinc (v := x6 + (-1)) hX dX5_setMarks_64 67 rfl 4 rfl rfl (by decide) (lv' := [(6, .int (x6 + (-1))), (5, .int v6), (0, .ref (gb G 14)), (1, .ref (gb G 1)), (3, .long x3)]) rfl ?_
  refine j_goto hX dX5_setMarks_67 16 rfl ?_
  refine j_sub [2, 3, 4, 1, 0] rfl ?_
  exact hk16 x3 v6 (x6 + (-1)) r_marks r_marksAboveOne hf
def g_X5_setMarks_16 (fu : Nat) (p_born : Nat → Int32) (p_father : Nat → Int32) (p_size : Int32) (r_marks : Nat → Int32) (r_marksAboveOne : Int32) (k16 : Int64 → Int32 → Int32 → (Nat → Int32) → Int32 → Option ((Nat → Int32) × Int32)) (x3 : Int64) (x5 : Int32) (x6 : Int32) : Option ((Nat → Int32) × Int32) :=
  if x6 < 0 then some (r_marks, r_marksAboveOne) else (f_X4_placeOf fu p_born p_father p_size x5 x3).bind fun v2 => if inb x6 60 = true then if inb x6 60 = true then if ((upd r_marks (Int32.toNatClampNeg x6) v2) (Int32.toNatClampNeg x6)) ≤ 1 then g_X5_setMarks_56 p_father p_size (upd r_marks (Int32.toNatClampNeg x6) v2) r_marksAboveOne k16 x3 x5 x6 else g_X5_setMarks_56 p_father p_size (upd r_marks (Int32.toNatClampNeg x6) v2) (r_marksAboveOne + 1) k16 x3 x5 x6 else none else none
set_option maxRecDepth 100000 in
set_option maxHeartbeats 4000000 in
theorem t_X5_setMarks_16 {fu : Nat} {Y : YT} {r : (Nat → Int32) × Int32} {k16 : Int64 → Int32 → Int32 → (Nat → Int32) → Int32 → Option ((Nat → Int32) × Int32)} (hX : CX l G cX5_setMarks 7 RX5 Y) (hQ : EQv G Y 0 0 (WB G p_female p_born p_toldDeath p_lastYear p_father p_mother p_fatherGrade p_motherGrade p_size g_holder g_arms g_from g_size r.1 r_arms r_root r_steps r_grade r.2 q_rows q_sizes t_bytes t_length s_tokens s_starts s_size a_code a_codeSize a_at a_token a_fault a_place o_texts o_names o_operands o_size o_open o_refuses o_differs o_fees c_years c_rows c_size x_faultPlace ++ fr)) (hk16 : ∀ (x3 : Int64) (x5 : Int32) (x6 : Int32) (r_marks : Nat → Int32) (r_marksAboveOne : Int32), k16 x3 x5 x6 r_marks r_marksAboveOne = some r → J l G (rmD 5 0 0) Y 0 0 16 [(0, .ref (gb G 14)), (1, .ref (gb G 1)), (3, .long x3), (5, .int x5), (6, .int x6)] [] (WB G p_female p_born p_toldDeath p_lastYear p_father p_mother p_fatherGrade p_motherGrade p_size g_holder g_arms g_from g_size r_marks r_arms r_root r_steps r_grade r_marksAboveOne q_rows q_sizes t_bytes t_length s_tokens s_starts s_size a_code a_codeSize a_at a_token a_fault a_place o_texts o_names o_operands o_size o_open o_refuses o_differs o_fees c_years c_rows c_size x_faultPlace ++ fr)) (x3 : Int64) (x5 : Int32) (x6 : Int32) (hf : g_X5_setMarks_16 fu p_born p_father p_size r_marks r_marksAboveOne k16 x3 x5 x6 = some r) : J l G (rmD 5 0 0) Y 0 0 16 [(0, .ref (gb G 14)), (1, .ref (gb G 1)), (3, .long x3), (5, .int x5), (6, .int x6)] [] (WB G p_female p_born p_toldDeath p_lastYear p_father p_mother p_fatherGrade p_motherGrade p_size g_holder g_arms g_from g_size r_marks r_arms r_root r_steps r_grade r_marksAboveOne q_rows q_sizes t_bytes t_length s_tokens s_starts s_size a_code a_codeSize a_at a_token a_fault a_place o_texts o_names o_operands o_size o_open o_refuses o_differs o_fees c_years c_rows c_size x_faultPlace ++ fr) := by
  unfold g_X5_setMarks_16 at hf
  refine j_iload hX dX5_setMarks_16 18 rfl 4 rfl ?_
  refine j_if_lt hX dX5_setMarks_18 21 70 rfl rfl (fun h1 => ?_) (fun h1 => ?_)
  · replace hf := itt h1 hf
    replace hf := Option.some.inj hf
    subst hf
    exact j_vret hX hQ dX5_setMarks_70
  · replace hf := itf h1 hf
    refine j_aload_n hX dX5_setMarks_21 22 rfl 0 rfl rfl ?_
    refine j_get hX dX5_setMarks_22 25 rfl fg_X5_11 14 rfl rfl ?_
    refine j_iload hX dX5_setMarks_25 27 rfl 4 rfl ?_
    refine j_aload_n hX dX5_setMarks_27 28 rfl 1 rfl rfl ?_
    refine j_iload hX dX5_setMarks_28 30 rfl 3 rfl ?_
    refine j_lload_n hX dX5_setMarks_30 31 rfl 2 rfl rfl ?_
    obtain ⟨v2, hv2, hf⟩ := ibd hf
    refine z_i (As := [.int x5, .long x3]) (rest := [.int x6, .ref (gb G 15)]) (q0 := 1) hX dX5_setMarks_31 34 rfl (t_X4_placeOf x5 x3 hv2) mc_X4_placeOf mv_X4_placeOf ml_X5_63 rfl rfl (Nat.le_of_ble_eq_true rfl) (Nat.le_refl _) (Nat.le_refl _) rfl (Nat.le_of_ble_eq_true rfl) ?_
    obtain ⟨hb3, hf⟩ := ign hf
    refine j_iast hX dX5_setMarks_34 35 rfl 15 rfl hb3 (ws' := (WB G p_female p_born p_toldDeath p_lastYear p_father p_mother p_fatherGrade p_motherGrade p_size g_holder g_arms g_from g_size (upd r_marks (Int32.toNatClampNeg x6) v2) r_arms r_root r_steps r_grade r_marksAboveOne q_rows q_sizes t_bytes t_length s_tokens s_starts s_size a_code a_codeSize a_at a_token a_fault a_place o_texts o_names o_operands o_size o_open o_refuses o_differs o_fees c_years c_rows c_size x_faultPlace ++ fr)) rfl ?_
    refine j_aload_n hX dX5_setMarks_35 36 rfl 0 rfl rfl ?_
    refine j_get hX dX5_setMarks_36 39 rfl fg_X5_11 14 rfl rfl ?_
    refine j_iload hX dX5_setMarks_39 41 rfl 4 rfl ?_
    obtain ⟨hb4, hf⟩ := ign hf
    refine j_iald hX dX5_setMarks_41 42 rfl 15 rfl hb4 ?_
    refine j_iconst (v := 1) hX dX5_setMarks_42 43 rfl (by decide) ?_
    refine j_icmp_le hX dX5_setMarks_43 46 56 rfl rfl (fun h5 => ?_) (fun h5 => ?_)
    · replace hf := itt h5 hf
      exact t_X5_setMarks_56 hX hQ  hk16 x3 x5 x6 hf
    · replace hf := itf h5 hf
      refine j_aload_n hX dX5_setMarks_46 47 rfl 0 rfl rfl ?_
      refine j_dup hX dX5_setMarks_47 48 rfl rfl ?_
      refine j_get hX dX5_setMarks_48 51 rfl fg_X5_30 14 rfl rfl ?_
      refine j_iconst (v := 1) hX dX5_setMarks_51 52 rfl (by decide) ?_
      refine j_iadd hX dX5_setMarks_52 53 rfl ?_
      refine j_put hX dX5_setMarks_53 56 rfl fg_X5_30 ft_X5_5 14 rfl rfl rfl (Nat.le_of_ble_eq_true rfl) (ws' := (WB G p_female p_born p_toldDeath p_lastYear p_father p_mother p_fatherGrade p_motherGrade p_size g_holder g_arms g_from g_size (upd r_marks (Int32.toNatClampNeg x6) v2) r_arms r_root r_steps r_grade (r_marksAboveOne + 1) q_rows q_sizes t_bytes t_length s_tokens s_starts s_size a_code a_codeSize a_at a_token a_fault a_place o_texts o_names o_operands o_size o_open o_refuses o_differs o_fees c_years c_rows c_size x_faultPlace ++ fr)) rfl ?_
      exact t_X5_setMarks_56 hX hQ  hk16 x3 x5 x6 hf
def f_X5_setMarks_16 (fu : Nat) (p_born : Nat → Int32) (p_father : Nat → Int32) (p_size : Int32) : Nat → (Int64 × Int32 × Int32 × (Nat → Int32) × Int32) → Option ((Nat → Int32) × Int32) :=
  lp (fun k v => g_X5_setMarks_16 fu p_born p_father p_size v.2.2.2.1 v.2.2.2.2 (fun x3 x5 x6 r_marks r_marksAboveOne => k (x3, x5, x6, r_marks, r_marksAboveOne)) v.1 v.2.1 v.2.2.1)
set_option maxRecDepth 100000 in
set_option maxHeartbeats 4000000 in
theorem u_X5_setMarks_16 {fu : Nat} {Y : YT} {r : (Nat → Int32) × Int32}  (hX : CX l G cX5_setMarks 7 RX5 Y) (hQ : EQv G Y 0 0 (WB G p_female p_born p_toldDeath p_lastYear p_father p_mother p_fatherGrade p_motherGrade p_size g_holder g_arms g_from g_size r.1 r_arms r_root r_steps r_grade r.2 q_rows q_sizes t_bytes t_length s_tokens s_starts s_size a_code a_codeSize a_at a_token a_fault a_place o_texts o_names o_operands o_size o_open o_refuses o_differs o_fees c_years c_rows c_size x_faultPlace ++ fr))  (n : Nat) (v : Int64 × Int32 × Int32 × (Nat → Int32) × Int32) (hf : f_X5_setMarks_16 fu p_born p_father p_size n v = some r) : J l G (rmD 5 0 0) Y 0 0 16 [(0, .ref (gb G 14)), (1, .ref (gb G 1)), (3, .long v.1), (5, .int v.2.1), (6, .int v.2.2.1)] [] (WB G p_female p_born p_toldDeath p_lastYear p_father p_mother p_fatherGrade p_motherGrade p_size g_holder g_arms g_from g_size v.2.2.2.1 r_arms r_root r_steps r_grade v.2.2.2.2 q_rows q_sizes t_bytes t_length s_tokens s_starts s_size a_code a_codeSize a_at a_token a_fault a_place o_texts o_names o_operands o_size o_open o_refuses o_differs o_fees c_years c_rows c_size x_faultPlace ++ fr) :=
  lp_ind (P := fun v : Int64 × Int32 × Int32 × (Nat → Int32) × Int32 => J l G (rmD 5 0 0) Y 0 0 16 [(0, .ref (gb G 14)), (1, .ref (gb G 1)), (3, .long v.1), (5, .int v.2.1), (6, .int v.2.2.1)] [] (WB G p_female p_born p_toldDeath p_lastYear p_father p_mother p_fatherGrade p_motherGrade p_size g_holder g_arms g_from g_size v.2.2.2.1 r_arms r_root r_steps r_grade v.2.2.2.2 q_rows q_sizes t_bytes t_length s_tokens s_starts s_size a_code a_codeSize a_at a_token a_fault a_place o_texts o_names o_operands o_size o_open o_refuses o_differs o_fees c_years c_rows c_size x_faultPlace ++ fr)) (fun k hk v hf => t_X5_setMarks_16 hX hQ   (fun x3 x5 x6 r_marks r_marksAboveOne h => hk (x3, x5, x6, r_marks, r_marksAboveOne) h) v.1 v.2.1 v.2.2.1 hf) n v hf
def f_X5_setMarks (fu : Nat) (p_born : Nat → Int32) (p_father : Nat → Int32) (p_size : Int32) (r_steps : Int32) (r_marks : Nat → Int32) (r_marksAboveOne : Int32) (x2 : Int32) (x3 : Int64) : Option ((Nat → Int32) × Int32) :=
  f_X5_setMarks_16 fu p_born p_father p_size fu (x3, x2, (min32 r_steps 60) - 1, r_marks, r_marksAboveOne)
set_option maxRecDepth 100000 in
set_option maxHeartbeats 4000000 in
theorem t_X5_setMarks {fu : Nat}  (x2 : Int32) (x3 : Int64) {r : (Nat → Int32) × Int32} (hf : f_X5_setMarks fu p_born p_father p_size r_steps r_marks r_marksAboveOne x2 x3 = some r) : Cv l G 5 0 0 yX5_setMarks cX5_setMarks 7 [.ref (gb G 14), .ref (gb G 1), .int x2, .long x3] (WB G p_female p_born p_toldDeath p_lastYear p_father p_mother p_fatherGrade p_motherGrade p_size g_holder g_arms g_from g_size r_marks r_arms r_root r_steps r_grade r_marksAboveOne q_rows q_sizes t_bytes t_length s_tokens s_starts s_size a_code a_codeSize a_at a_token a_fault a_place o_texts o_names o_operands o_size o_open o_refuses o_differs o_fees c_years c_rows c_size x_faultPlace ++ fr) (WB G p_female p_born p_toldDeath p_lastYear p_father p_mother p_fatherGrade p_motherGrade p_size g_holder g_arms g_from g_size r.1 r_arms r_root r_steps r_grade r.2 q_rows q_sizes t_bytes t_length s_tokens s_starts s_size a_code a_codeSize a_at a_token a_fault a_place o_texts o_names o_operands o_size o_open o_refuses o_differs o_fees c_years c_rows c_size x_faultPlace ++ fr) := by
  refine Cv.of (by decide) (Nat.le_of_ble_eq_true rfl) (fun Y hX hQ => ?_)
  refine j_lv (lv' := [(0, .ref (gb G 14)), (1, .ref (gb G 1)), (2, .int x2), (3, .long x3)]) rfl ?_
  unfold f_X5_setMarks at hf
  refine j_iload_n hX dX5_setMarks_0 1 rfl 2 rfl rfl ?_
  refine j_istore hX dX5_setMarks_1 3 rfl (by decide) (lv' := [(5, .int x2), (0, .ref (gb G 14)), (1, .ref (gb G 1)), (2, .int x2), (3, .long x3)]) rfl ?_
  refine j_aload_n hX dX5_setMarks_3 4 rfl 1 rfl rfl ?_
  refine j_get hX dX5_setMarks_4 7 rfl fg_X5_24 14 rfl rfl ?_
  refine j_bipush (v := 60) hX dX5_setMarks_7 9 rfl (by decide) ?_
  refine j_min (rest := []) hX dX5_setMarks_9 12 rfl mm_X5_55 (Nat.le_of_ble_eq_true rfl) (Nat.le_of_ble_eq_true rfl) (Nat.le_refl _) (Nat.le_refl _) ?_
  refine j_iconst (v := 1) hX dX5_setMarks_12 13 rfl (by decide) ?_
  refine j_isub hX dX5_setMarks_13 14 rfl ?_
  refine j_istore hX dX5_setMarks_14 16 rfl (by decide) (lv' := [(6, .int ((min32 r_steps 60) - 1)), (5, .int x2), (0, .ref (gb G 14)), (1, .ref (gb G 1)), (2, .int x2), (3, .long x3)]) rfl ?_
  refine j_sub [2, 3, 5, 1, 0] rfl ?_
  exact u_X5_setMarks_16 hX hQ   fu (x3, x2, (min32 r_steps 60) - 1, r_marks, r_marksAboveOne) hf
def g_X5_find_54 (r_marks : Nat → Int32) (r_arms : Int32) (r_root : Int32) (r_steps : Int32) (r_grade : Int32) (r_marksAboveOne : Int32) : Option ((Nat → Int32) × Int32 × Int32 × Int32 × Int32 × Int32) :=
  some (r_marks, r_arms, r_root, r_steps, r_grade, r_marksAboveOne)
set_option maxRecDepth 100000 in
set_option maxHeartbeats 4000000 in
theorem t_X5_find_54 {Y : YT} {r : (Nat → Int32) × Int32 × Int32 × Int32 × Int32 × Int32}  (hX : CX l G cX5_find 5 RX5 Y) (hQ : EQv G Y 0 0 (WB G p_female p_born p_toldDeath p_lastYear p_father p_mother p_fatherGrade p_motherGrade p_size g_holder g_arms g_from g_size r.1 r.2.1 r.2.2.1 r.2.2.2.1 r.2.2.2.2.1 r.2.2.2.2.2 q_rows q_sizes t_bytes t_length s_tokens s_starts s_size a_code a_codeSize a_at a_token a_fault a_place o_texts o_names o_operands o_size o_open o_refuses o_differs o_fees c_years c_rows c_size x_faultPlace ++ fr))   (hf : g_X5_find_54 r_marks r_arms r_root r_steps r_grade r_marksAboveOne = some r) : J l G (rmD 6 0 0) Y 0 0 54 [] [] (WB G p_female p_born p_toldDeath p_lastYear p_father p_mother p_fatherGrade p_motherGrade p_size g_holder g_arms g_from g_size r_marks r_arms r_root r_steps r_grade r_marksAboveOne q_rows q_sizes t_bytes t_length s_tokens s_starts s_size a_code a_codeSize a_at a_token a_fault a_place o_texts o_names o_operands o_size o_open o_refuses o_differs o_fees c_years c_rows c_size x_faultPlace ++ fr) := by
  unfold g_X5_find_54 at hf
  replace hf := Option.some.inj hf
  subst hf
  exact j_vret hX hQ dX5_find_54
def f_X5_find (fu : Nat) (p_female : Nat → Int32) (p_born : Nat → Int32) (p_lastYear : Nat → Int32) (p_father : Nat → Int32) (p_fatherGrade : Nat → Int32) (p_size : Int32) (g_holder : Nat → Int32) (g_arms : Nat → Int32) (g_from : Nat → Int32) (g_size : Int32) (r_marks : Nat → Int32) (x3 : Int32) (x4 : Int32) : Option ((Nat → Int32) × Int32 × Int32 × Int32 × Int32 × Int32) :=
  (f_X5_climb fu p_father p_fatherGrade p_size g_holder g_arms g_from g_size ((-1)) ((-1)) ((-1)) ((-1)) x3 x4).bind fun v1 => if v1.2.1 = ((-1)) then g_X5_find_54 r_marks v1.1 v1.2.1 v1.2.2.1 v1.2.2.2 0 else (f_X4_livingLines fu p_female p_born p_lastYear p_father p_size x4).bind fun v3 => (f_X5_setMarks fu p_born p_father p_size v1.2.2.1 r_marks 0 x3 v3).bind fun v4 => g_X5_find_54 v4.1 v1.1 v1.2.1 v1.2.2.1 v1.2.2.2 v4.2
set_option maxRecDepth 100000 in
set_option maxHeartbeats 4000000 in
theorem t_X5_find {fu : Nat}  (x3 : Int32) (x4 : Int32) {r : (Nat → Int32) × Int32 × Int32 × Int32 × Int32 × Int32} (hf : f_X5_find fu p_female p_born p_lastYear p_father p_fatherGrade p_size g_holder g_arms g_from g_size r_marks x3 x4 = some r) : Cv l G 6 0 0 yX5_find cX5_find 5 [.ref (gb G 14), .ref (gb G 1), .ref (gb G 10), .int x3, .int x4] (WB G p_female p_born p_toldDeath p_lastYear p_father p_mother p_fatherGrade p_motherGrade p_size g_holder g_arms g_from g_size r_marks r_arms r_root r_steps r_grade r_marksAboveOne q_rows q_sizes t_bytes t_length s_tokens s_starts s_size a_code a_codeSize a_at a_token a_fault a_place o_texts o_names o_operands o_size o_open o_refuses o_differs o_fees c_years c_rows c_size x_faultPlace ++ fr) (WB G p_female p_born p_toldDeath p_lastYear p_father p_mother p_fatherGrade p_motherGrade p_size g_holder g_arms g_from g_size r.1 r.2.1 r.2.2.1 r.2.2.2.1 r.2.2.2.2.1 r.2.2.2.2.2 q_rows q_sizes t_bytes t_length s_tokens s_starts s_size a_code a_codeSize a_at a_token a_fault a_place o_texts o_names o_operands o_size o_open o_refuses o_differs o_fees c_years c_rows c_size x_faultPlace ++ fr) := by
  refine Cv.of (by decide) (Nat.le_of_ble_eq_true rfl) (fun Y hX hQ => ?_)
  refine j_lv (lv' := [(0, .ref (gb G 14)), (1, .ref (gb G 1)), (2, .ref (gb G 10)), (3, .int x3), (4, .int x4)]) rfl ?_
  unfold f_X5_find at hf
  refine j_aload_n hX dX5_find_0 1 rfl 0 rfl rfl ?_
  refine j_iconst (v := (-1)) hX dX5_find_1 2 rfl (by decide) ?_
  refine j_put hX dX5_find_2 5 rfl fg_X5_17 ft_X5_1 14 rfl rfl rfl (Nat.le_of_ble_eq_true rfl) (ws' := (WB G p_female p_born p_toldDeath p_lastYear p_father p_mother p_fatherGrade p_motherGrade p_size g_holder g_arms g_from g_size r_marks ((-1)) r_root r_steps r_grade r_marksAboveOne q_rows q_sizes t_bytes t_length s_tokens s_starts s_size a_code a_codeSize a_at a_token a_fault a_place o_texts o_names o_operands o_size o_open o_refuses o_differs o_fees c_years c_rows c_size x_faultPlace ++ fr)) rfl ?_
  refine j_aload_n hX dX5_find_5 6 rfl 0 rfl rfl ?_
  refine j_iconst (v := (-1)) hX dX5_find_6 7 rfl (by decide) ?_
  refine j_put hX dX5_find_7 10 rfl fg_X5_21 ft_X5_2 14 rfl rfl rfl (Nat.le_of_ble_eq_true rfl) (ws' := (WB G p_female p_born p_toldDeath p_lastYear p_father p_mother p_fatherGrade p_motherGrade p_size g_holder g_arms g_from g_size r_marks ((-1)) ((-1)) r_steps r_grade r_marksAboveOne q_rows q_sizes t_bytes t_length s_tokens s_starts s_size a_code a_codeSize a_at a_token a_fault a_place o_texts o_names o_operands o_size o_open o_refuses o_differs o_fees c_years c_rows c_size x_faultPlace ++ fr)) rfl ?_
  refine j_aload_n hX dX5_find_10 11 rfl 0 rfl rfl ?_
  refine j_iconst (v := (-1)) hX dX5_find_11 12 rfl (by decide) ?_
  refine j_put hX dX5_find_12 15 rfl fg_X5_24 ft_X5_3 14 rfl rfl rfl (Nat.le_of_ble_eq_true rfl) (ws' := (WB G p_female p_born p_toldDeath p_lastYear p_father p_mother p_fatherGrade p_motherGrade p_size g_holder g_arms g_from g_size r_marks ((-1)) ((-1)) ((-1)) r_grade r_marksAboveOne q_rows q_sizes t_bytes t_length s_tokens s_starts s_size a_code a_codeSize a_at a_token a_fault a_place o_texts o_names o_operands o_size o_open o_refuses o_differs o_fees c_years c_rows c_size x_faultPlace ++ fr)) rfl ?_
  refine j_aload_n hX dX5_find_15 16 rfl 0 rfl rfl ?_
  refine j_iconst (v := (-1)) hX dX5_find_16 17 rfl (by decide) ?_
  refine j_put hX dX5_find_17 20 rfl fg_X5_27 ft_X5_4 14 rfl rfl rfl (Nat.le_of_ble_eq_true rfl) (ws' := (WB G p_female p_born p_toldDeath p_lastYear p_father p_mother p_fatherGrade p_motherGrade p_size g_holder g_arms g_from g_size r_marks ((-1)) ((-1)) ((-1)) ((-1)) r_marksAboveOne q_rows q_sizes t_bytes t_length s_tokens s_starts s_size a_code a_codeSize a_at a_token a_fault a_place o_texts o_names o_operands o_size o_open o_refuses o_differs o_fees c_years c_rows c_size x_faultPlace ++ fr)) rfl ?_
  refine j_aload_n hX dX5_find_20 21 rfl 0 rfl rfl ?_
  refine j_iconst (v := 0) hX dX5_find_21 22 rfl (by decide) ?_
  refine j_put hX dX5_find_22 25 rfl fg_X5_30 ft_X5_5 14 rfl rfl rfl (Nat.le_of_ble_eq_true rfl) (ws' := (WB G p_female p_born p_toldDeath p_lastYear p_father p_mother p_fatherGrade p_motherGrade p_size g_holder g_arms g_from g_size r_marks ((-1)) ((-1)) ((-1)) ((-1)) 0 q_rows q_sizes t_bytes t_length s_tokens s_starts s_size a_code a_codeSize a_at a_token a_fault a_place o_texts o_names o_operands o_size o_open o_refuses o_differs o_fees c_years c_rows c_size x_faultPlace ++ fr)) rfl ?_
  refine j_aload_n hX dX5_find_25 26 rfl 0 rfl rfl ?_
  refine j_aload_n hX dX5_find_26 27 rfl 1 rfl rfl ?_
  refine j_aload_n hX dX5_find_27 28 rfl 2 rfl rfl ?_
  refine j_iload_n hX dX5_find_28 29 rfl 3 rfl rfl ?_
  refine j_iload hX dX5_find_29 31 rfl 4 rfl ?_
  obtain ⟨v1, hv1, hf⟩ := ibd hf
  refine z_v (As := [.ref (gb G 1), .ref (gb G 10), .int x3, .int x4]) (rest := []) (q0 := 14) hX dX5_find_31 34 rfl (t_X5_climb x3 x4 hv1) mc_X5_climb mv_X5_climb ml_X5_33 rfl rfl (Nat.le_of_ble_eq_true rfl) (Nat.le_refl _) (Nat.le_refl _) rfl (Nat.le_of_ble_eq_true rfl) ?_
  refine j_aload_n hX dX5_find_34 35 rfl 0 rfl rfl ?_
  refine j_get hX dX5_find_35 38 rfl fg_X5_21 14 rfl rfl ?_
  refine j_iconst (v := (-1)) hX dX5_find_38 39 rfl (by decide) ?_
  refine j_icmp_eq hX dX5_find_39 42 54 rfl rfl (fun h2 => ?_) (fun h2 => ?_)
  · replace hf := itt h2 hf
    refine j_sub [] rfl ?_
    exact t_X5_find_54 hX hQ    hf
  · replace hf := itf h2 hf
    refine j_aload_n hX dX5_find_42 43 rfl 0 rfl rfl ?_
    refine j_aload_n hX dX5_find_43 44 rfl 1 rfl rfl ?_
    refine j_iload_n hX dX5_find_44 45 rfl 3 rfl rfl ?_
    refine j_aload_n hX dX5_find_45 46 rfl 1 rfl rfl ?_
    refine j_iload hX dX5_find_46 48 rfl 4 rfl ?_
    obtain ⟨v3, hv3, hf⟩ := ibd hf
    refine z_l (As := [.int x4]) (rest := [.int x3, .ref (gb G 1), .ref (gb G 14)]) (q0 := 1) hX dX5_find_48 51 rfl (t_X4_livingLines x4 hv3) mc_X4_livingLines mv_X4_livingLines ml_X5_37 rfl rfl (Nat.le_of_ble_eq_true rfl) (Nat.le_refl _) (Nat.le_refl _) rfl (Nat.le_of_ble_eq_true rfl) ?_
    obtain ⟨v4, hv4, hf⟩ := ibd hf
    refine z_v (As := [.ref (gb G 1), .int x3, .long v3]) (rest := []) (q0 := 14) hX dX5_find_51 54 rfl (t_X5_setMarks x3 v3 hv4) mc_X5_setMarks mv_X5_setMarks ml_X5_41 rfl rfl (Nat.le_of_ble_eq_true rfl) (Nat.le_refl _) (Nat.le_refl _) rfl (Nat.le_of_ble_eq_true rfl) ?_
    refine j_sub [] rfl ?_
    exact t_X5_find_54 hX hQ    hf
def g_X5_markAt_20 (s0 : Int32) : Option (Int32) :=
  some s0
set_option maxRecDepth 100000 in
set_option maxHeartbeats 4000000 in
theorem t_X5_markAt_20 {Y : YT} {r : Int32}  (hX : CX l G cX5_markAt 2 RX5 Y) (hQ : EQi G Y 0 0 .int r (WB G p_female p_born p_toldDeath p_lastYear p_father p_mother p_fatherGrade p_motherGrade p_size g_holder g_arms g_from g_size r_marks r_arms r_root r_steps r_grade r_marksAboveOne q_rows q_sizes t_bytes t_length s_tokens s_starts s_size a_code a_codeSize a_at a_token a_fault a_place o_texts o_names o_operands o_size o_open o_refuses o_differs o_fees c_years c_rows c_size x_faultPlace ++ fr))  (s0 : Int32) (hf : g_X5_markAt_20 s0 = some r) : J l G (rmD 1 0 0) Y 0 0 20 [] [.int s0] (WB G p_female p_born p_toldDeath p_lastYear p_father p_mother p_fatherGrade p_motherGrade p_size g_holder g_arms g_from g_size r_marks r_arms r_root r_steps r_grade r_marksAboveOne q_rows q_sizes t_bytes t_length s_tokens s_starts s_size a_code a_codeSize a_at a_token a_fault a_place o_texts o_names o_operands o_size o_open o_refuses o_differs o_fees c_years c_rows c_size x_faultPlace ++ fr) := by
  unfold g_X5_markAt_20 at hf
  replace hf := Option.some.inj hf
  subst hf
  exact j_iret hX hQ dX5_markAt_20
def g_X5_markAt_19  : Option (Int32) :=
  g_X5_markAt_20 ((-1))
set_option maxRecDepth 100000 in
set_option maxHeartbeats 4000000 in
theorem t_X5_markAt_19 {Y : YT} {r : Int32}  (hX : CX l G cX5_markAt 2 RX5 Y) (hQ : EQi G Y 0 0 .int r (WB G p_female p_born p_toldDeath p_lastYear p_father p_mother p_fatherGrade p_motherGrade p_size g_holder g_arms g_from g_size r_marks r_arms r_root r_steps r_grade r_marksAboveOne q_rows q_sizes t_bytes t_length s_tokens s_starts s_size a_code a_codeSize a_at a_token a_fault a_place o_texts o_names o_operands o_size o_open o_refuses o_differs o_fees c_years c_rows c_size x_faultPlace ++ fr))   (hf : g_X5_markAt_19  = some r) : J l G (rmD 1 0 0) Y 0 0 19 [] [] (WB G p_female p_born p_toldDeath p_lastYear p_father p_mother p_fatherGrade p_motherGrade p_size g_holder g_arms g_from g_size r_marks r_arms r_root r_steps r_grade r_marksAboveOne q_rows q_sizes t_bytes t_length s_tokens s_starts s_size a_code a_codeSize a_at a_token a_fault a_place o_texts o_names o_operands o_size o_open o_refuses o_differs o_fees c_years c_rows c_size x_faultPlace ++ fr) := by
  unfold g_X5_markAt_19 at hf
  refine j_iconst (v := (-1)) hX dX5_markAt_19 20 rfl (by decide) ?_
  exact t_X5_markAt_20 hX hQ   ((-1)) hf
def f_X5_markAt (r_marks : Nat → Int32) (x1 : Int32) : Option (Int32) :=
  if x1 < 0 then g_X5_markAt_19  else if 60 ≤ x1 then g_X5_markAt_19  else if inb x1 60 = true then g_X5_markAt_20 (r_marks (Int32.toNatClampNeg x1)) else none
set_option maxRecDepth 100000 in
set_option maxHeartbeats 4000000 in
theorem t_X5_markAt  (x1 : Int32) {r : Int32} (hf : f_X5_markAt r_marks x1 = some r) : Ci l G 1 0 0 yX5_markAt cX5_markAt 2 .int [.ref (gb G 14), .int x1] (WB G p_female p_born p_toldDeath p_lastYear p_father p_mother p_fatherGrade p_motherGrade p_size g_holder g_arms g_from g_size r_marks r_arms r_root r_steps r_grade r_marksAboveOne q_rows q_sizes t_bytes t_length s_tokens s_starts s_size a_code a_codeSize a_at a_token a_fault a_place o_texts o_names o_operands o_size o_open o_refuses o_differs o_fees c_years c_rows c_size x_faultPlace ++ fr) r (WB G p_female p_born p_toldDeath p_lastYear p_father p_mother p_fatherGrade p_motherGrade p_size g_holder g_arms g_from g_size r_marks r_arms r_root r_steps r_grade r_marksAboveOne q_rows q_sizes t_bytes t_length s_tokens s_starts s_size a_code a_codeSize a_at a_token a_fault a_place o_texts o_names o_operands o_size o_open o_refuses o_differs o_fees c_years c_rows c_size x_faultPlace ++ fr) := by
  refine Ci.of (by decide) (Nat.le_of_ble_eq_true rfl) (fun Y hX hQ => ?_)
  refine j_lv (lv' := [(0, .ref (gb G 14)), (1, .int x1)]) rfl ?_
  unfold f_X5_markAt at hf
  refine j_iload_n hX dX5_markAt_0 1 rfl 1 rfl rfl ?_
  refine j_if_lt hX dX5_markAt_1 4 19 rfl rfl (fun h1 => ?_) (fun h1 => ?_)
  · replace hf := itt h1 hf
    refine j_sub [] rfl ?_
    exact t_X5_markAt_19 hX hQ    hf
  · replace hf := itf h1 hf
    refine j_iload_n hX dX5_markAt_4 5 rfl 1 rfl rfl ?_
    refine j_bipush (v := 60) hX dX5_markAt_5 7 rfl (by decide) ?_
    refine j_icmp_ge hX dX5_markAt_7 10 19 rfl rfl (fun h2 => ?_) (fun h2 => ?_)
    · replace hf := itt h2 hf
      refine j_sub [] rfl ?_
      exact t_X5_markAt_19 hX hQ    hf
    · replace hf := itf h2 hf
      refine j_aload_n hX dX5_markAt_10 11 rfl 0 rfl rfl ?_
      refine j_get hX dX5_markAt_11 14 rfl fg_X5_11 14 rfl rfl ?_
      refine j_iload_n hX dX5_markAt_14 15 rfl 1 rfl rfl ?_
      obtain ⟨hb3, hf⟩ := ign hf
      refine j_iald hX dX5_markAt_15 16 rfl 15 rfl hb3 ?_
      refine j_goto hX dX5_markAt_16 20 rfl ?_
      refine j_sub [] rfl ?_
      exact t_X5_markAt_20 hX hQ   (r_marks (Int32.toNatClampNeg x1)) hf
def g_X5_isPlain_20 (s0 : Int32) : Option (Int32) :=
  if isB s0 = true then some s0 else none
set_option maxRecDepth 100000 in
set_option maxHeartbeats 4000000 in
theorem t_X5_isPlain_20 {Y : YT} {r : Int32}  (hX : CX l G cX5_isPlain 1 RX5 Y) (hQ : EQi G Y 0 0 .boolean r (WB G p_female p_born p_toldDeath p_lastYear p_father p_mother p_fatherGrade p_motherGrade p_size g_holder g_arms g_from g_size r_marks r_arms r_root r_steps r_grade r_marksAboveOne q_rows q_sizes t_bytes t_length s_tokens s_starts s_size a_code a_codeSize a_at a_token a_fault a_place o_texts o_names o_operands o_size o_open o_refuses o_differs o_fees c_years c_rows c_size x_faultPlace ++ fr))  (s0 : Int32) (hf : g_X5_isPlain_20 s0 = some r) : J l G (rmD 1 0 0) Y 0 0 20 [] [.int s0] (WB G p_female p_born p_toldDeath p_lastYear p_father p_mother p_fatherGrade p_motherGrade p_size g_holder g_arms g_from g_size r_marks r_arms r_root r_steps r_grade r_marksAboveOne q_rows q_sizes t_bytes t_length s_tokens s_starts s_size a_code a_codeSize a_at a_token a_fault a_place o_texts o_names o_operands o_size o_open o_refuses o_differs o_fees c_years c_rows c_size x_faultPlace ++ fr) := by
  unfold g_X5_isPlain_20 at hf
  obtain ⟨hb2, hf⟩ := ign hf
  replace hf := Option.some.inj hf
  subst hf
  exact j_zret hX hQ hb2 dX5_isPlain_20
def g_X5_isPlain_19  : Option (Int32) :=
  g_X5_isPlain_20 0
set_option maxRecDepth 100000 in
set_option maxHeartbeats 4000000 in
theorem t_X5_isPlain_19 {Y : YT} {r : Int32}  (hX : CX l G cX5_isPlain 1 RX5 Y) (hQ : EQi G Y 0 0 .boolean r (WB G p_female p_born p_toldDeath p_lastYear p_father p_mother p_fatherGrade p_motherGrade p_size g_holder g_arms g_from g_size r_marks r_arms r_root r_steps r_grade r_marksAboveOne q_rows q_sizes t_bytes t_length s_tokens s_starts s_size a_code a_codeSize a_at a_token a_fault a_place o_texts o_names o_operands o_size o_open o_refuses o_differs o_fees c_years c_rows c_size x_faultPlace ++ fr))   (hf : g_X5_isPlain_19  = some r) : J l G (rmD 1 0 0) Y 0 0 19 [] [] (WB G p_female p_born p_toldDeath p_lastYear p_father p_mother p_fatherGrade p_motherGrade p_size g_holder g_arms g_from g_size r_marks r_arms r_root r_steps r_grade r_marksAboveOne q_rows q_sizes t_bytes t_length s_tokens s_starts s_size a_code a_codeSize a_at a_token a_fault a_place o_texts o_names o_operands o_size o_open o_refuses o_differs o_fees c_years c_rows c_size x_faultPlace ++ fr) := by
  unfold g_X5_isPlain_19 at hf
  refine j_iconst (v := 0) hX dX5_isPlain_19 20 rfl (by decide) ?_
  exact t_X5_isPlain_20 hX hQ   0 hf
def f_X5_isPlain (r_arms : Int32) (r_marksAboveOne : Int32) : Option (Int32) :=
  if r_arms = ((-1)) then g_X5_isPlain_19  else if r_marksAboveOne = 0 then g_X5_isPlain_20 1 else g_X5_isPlain_19 
set_option maxRecDepth 100000 in
set_option maxHeartbeats 4000000 in
theorem t_X5_isPlain   {r : Int32} (hf : f_X5_isPlain r_arms r_marksAboveOne = some r) : Ci l G 1 0 0 yX5_isPlain cX5_isPlain 1 .boolean [.ref (gb G 14)] (WB G p_female p_born p_toldDeath p_lastYear p_father p_mother p_fatherGrade p_motherGrade p_size g_holder g_arms g_from g_size r_marks r_arms r_root r_steps r_grade r_marksAboveOne q_rows q_sizes t_bytes t_length s_tokens s_starts s_size a_code a_codeSize a_at a_token a_fault a_place o_texts o_names o_operands o_size o_open o_refuses o_differs o_fees c_years c_rows c_size x_faultPlace ++ fr) r (WB G p_female p_born p_toldDeath p_lastYear p_father p_mother p_fatherGrade p_motherGrade p_size g_holder g_arms g_from g_size r_marks r_arms r_root r_steps r_grade r_marksAboveOne q_rows q_sizes t_bytes t_length s_tokens s_starts s_size a_code a_codeSize a_at a_token a_fault a_place o_texts o_names o_operands o_size o_open o_refuses o_differs o_fees c_years c_rows c_size x_faultPlace ++ fr) := by
  refine Ci.of (by decide) (Nat.le_of_ble_eq_true rfl) (fun Y hX hQ => ?_)
  refine j_lv (lv' := [(0, .ref (gb G 14))]) rfl ?_
  unfold f_X5_isPlain at hf
  refine j_aload_n hX dX5_isPlain_0 1 rfl 0 rfl rfl ?_
  refine j_get hX dX5_isPlain_1 4 rfl fg_X5_17 14 rfl rfl ?_
  refine j_iconst (v := (-1)) hX dX5_isPlain_4 5 rfl (by decide) ?_
  refine j_icmp_eq hX dX5_isPlain_5 8 19 rfl rfl (fun h1 => ?_) (fun h1 => ?_)
  · replace hf := itt h1 hf
    refine j_sub [] rfl ?_
    exact t_X5_isPlain_19 hX hQ    hf
  · replace hf := itf h1 hf
    refine j_aload_n hX dX5_isPlain_8 9 rfl 0 rfl rfl ?_
    refine j_get hX dX5_isPlain_9 12 rfl fg_X5_30 14 rfl rfl ?_
    refine j_if_ne hX dX5_isPlain_12 15 19 rfl rfl (fun h3 => ?_) (fun h3 => ?_)
    · replace hf := itf h3 hf
      refine j_sub [] rfl ?_
      exact t_X5_isPlain_19 hX hQ    hf
    · replace hf := itt h3 hf
      refine j_iconst (v := 1) hX dX5_isPlain_15 16 rfl (by decide) ?_
      refine j_goto hX dX5_isPlain_16 20 rfl ?_
      refine j_sub [] rfl ?_
      exact t_X5_isPlain_20 hX hQ   1 hf
end
