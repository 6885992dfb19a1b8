section
variable {l : Launch} {G : GT} {fr ws : va_W} {kT : Nat} {tA tC tN : Nat → Nat} {tF : Nat → Nat → Int32} {tY : Nat → Int32} {p_female : Nat → Int32} {p_born : Nat → Int32} {p_toldDeath : Nat → Int32} {p_lastYear : Nat → Int32} {p_father : Nat → Int32} {p_mother : Nat → Int32} {p_fatherGrade : Nat → Int32} {p_motherGrade : Nat → Int32} {p_size : Int32} {g_holder : Nat → Int32} {g_arms : Nat → Int32} {g_from : Nat → Int32} {g_size : Int32} {r_marks : Nat → Int32} {r_arms : Int32} {r_root : Int32} {r_steps : Int32} {r_grade : Int32} {r_marksAboveOne : Int32} {q_rows : Nat → Int32} {q_sizes : Nat → Int32} {t_bytes : Nat → Int32} {t_length : Int32} {s_tokens : Nat → Int32} {s_starts : Nat → Int32} {s_size : Int32} {a_code : Nat → Int32} {a_codeSize : Int32} {a_at : Int32} {a_token : Int32} {a_fault : Int32} {a_place : Int32} {o_texts : Nat → Option Nat} {o_names : Nat → Int32} {o_operands : Nat → Int32} {o_size : Int32} {o_open : Int32} {o_refuses : Int32} {o_differs : Int32} {o_fees : Int32} {c_years : Nat → Int32} {c_rows : Nat → Int32} {c_size : Int32} {x_faultPlace : Int32}
def g_X10_text_x_22 (t_length : Int32) (s_tokens : Nat → Int32) (s_starts : Nat → Int32) (s_size : Int32) (a_code : Nat → Int32) (a_codeSize : Int32) (a_at : Int32) (a_token : Int32) (a_fault : Int32) (a_place : Int32) (o_size : Int32) (x_faultPlace : Int32) : Option (Int32 × (Nat → Int32) × (Nat → Int32) × Int32 × (Nat → Int32) × Int32 × Int32 × Int32 × Int32 × Int32 × Int32 × Int32) :=
  some (t_length, s_tokens, s_starts, s_size, a_code, a_codeSize, a_at, a_token, a_fault, a_place, o_size, x_faultPlace)
set_option maxRecDepth 100000 in
set_option maxHeartbeats 4000000 in
theorem t_X10_text_x_22 {Y : YT} {r : Int32 × (Nat → Int32) × (Nat → Int32) × Int32 × (Nat → Int32) × Int32 × Int32 × Int32 × Int32 × Int32 × Int32 × Int32}  (hX : CX l G cX10_text 3 RX10 Y) (hQ : EQx G Y 1 6 (WB G p_female p_born p_toldDeath p_lastYear p_father p_mother p_fatherGrade p_motherGrade p_size g_holder g_arms g_from g_size r_marks r_arms r_root r_steps r_grade r_marksAboveOne q_rows q_sizes t_bytes r.1 r.2.1 r.2.2.1 r.2.2.2.1 r.2.2.2.2.1 r.2.2.2.2.2.1 r.2.2.2.2.2.2.1 r.2.2.2.2.2.2.2.1 r.2.2.2.2.2.2.2.2.1 r.2.2.2.2.2.2.2.2.2.1 o_texts o_names o_operands r.2.2.2.2.2.2.2.2.2.2.1 o_open o_refuses o_differs o_fees c_years c_rows c_size r.2.2.2.2.2.2.2.2.2.2.2 ++ fr) xIA)   (hf : g_X10_text_x_22 t_length s_tokens s_starts s_size a_code a_codeSize a_at a_token a_fault a_place o_size x_faultPlace = some r) : J l G (rmD 45 1 6) Y 0 0 22 [] [] (WB G p_female p_born p_toldDeath p_lastYear p_father p_mother p_fatherGrade p_motherGrade p_size g_holder g_arms g_from g_size r_marks r_arms r_root r_steps r_grade r_marksAboveOne q_rows q_sizes t_bytes t_length s_tokens s_starts s_size a_code a_codeSize a_at a_token a_fault a_place o_texts o_names o_operands o_size o_open o_refuses o_differs o_fees c_years c_rows c_size x_faultPlace ++ fr) := by
  unfold g_X10_text_x_22 at hf
  replace hf := Option.some.inj hf
  subst hf
  exact jx_throw (tx := "no such bytes or year") (si := 2) hX hQ th_IA (by decide +kernel) dX10_text_22 dX10_text_25 dX10_text_26 dX10_text_28 dX10_text_31 (by decide) (Nat.le_of_ble_eq_true rfl)
def f_X10_text_x (t_length : Int32) (s_tokens : Nat → Int32) (s_starts : Nat → Int32) (s_size : Int32) (a_code : Nat → Int32) (a_codeSize : Int32) (a_at : Int32) (a_token : Int32) (a_fault : Int32) (a_place : Int32) (o_size : Int32) (x_faultPlace : Int32) (x1 : Int32) (x2 : Int32) : Option (Int32 × (Nat → Int32) × (Nat → Int32) × Int32 × (Nat → Int32) × Int32 × Int32 × Int32 × Int32 × Int32 × Int32 × Int32) :=
  if x1 < 0 then g_X10_text_x_22 t_length s_tokens s_starts s_size a_code a_codeSize a_at a_token a_fault a_place o_size x_faultPlace else if t_length < x1 then g_X10_text_x_22 t_length s_tokens s_starts s_size a_code a_codeSize a_at a_token a_fault a_place o_size x_faultPlace else (f_X10_isYear x2).bind fun v3 => if v3 = 0 then g_X10_text_x_22 t_length s_tokens s_starts s_size a_code a_codeSize a_at a_token a_fault a_place o_size x_faultPlace else none
set_option maxRecDepth 100000 in
set_option maxHeartbeats 4000000 in
theorem t_X10_text_x  (x1 : Int32) (x2 : Int32) {r : Int32 × (Nat → Int32) × (Nat → Int32) × Int32 × (Nat → Int32) × Int32 × Int32 × Int32 × Int32 × Int32 × Int32 × Int32} (hf : f_X10_text_x t_length s_tokens s_starts s_size a_code a_codeSize a_at a_token a_fault a_place o_size x_faultPlace x1 x2 = some r) : Xt l G 45 1 6 yX10_text cX10_text 3 (some .int) [.ref (gb G 0), .int x1, .int x2] (WB G p_female p_born p_toldDeath p_lastYear p_father p_mother p_fatherGrade p_motherGrade p_size g_holder g_arms g_from g_size r_marks r_arms r_root r_steps r_grade r_marksAboveOne q_rows q_sizes t_bytes t_length s_tokens s_starts s_size a_code a_codeSize a_at a_token a_fault a_place o_texts o_names o_operands o_size o_open o_refuses o_differs o_fees c_years c_rows c_size x_faultPlace ++ fr) (WB G p_female p_born p_toldDeath p_lastYear p_father p_mother p_fatherGrade p_motherGrade p_size g_holder g_arms g_from g_size r_marks r_arms r_root r_steps r_grade r_marksAboveOne q_rows q_sizes t_bytes r.1 r.2.1 r.2.2.1 r.2.2.2.1 r.2.2.2.2.1 r.2.2.2.2.2.1 r.2.2.2.2.2.2.1 r.2.2.2.2.2.2.2.1 r.2.2.2.2.2.2.2.2.1 r.2.2.2.2.2.2.2.2.2.1 o_texts o_names o_operands r.2.2.2.2.2.2.2.2.2.2.1 o_open o_refuses o_differs o_fees c_years c_rows c_size r.2.2.2.2.2.2.2.2.2.2.2 ++ fr) xIA := by
  refine Xt.of (by decide) (Nat.le_of_ble_eq_true rfl) (fun Y hX hQ => ?_)
  refine j_lv (lv' := [(0, .ref (gb G 0)), (1, .int x1), (2, .int x2)]) rfl ?_
  unfold f_X10_text_x at hf
  refine j_iload_n hX dX10_text_0 1 rfl 1 rfl rfl ?_
  refine j_if_lt hX dX10_text_1 4 22 rfl rfl (fun h1 => ?_) (fun h1 => ?_)
  · replace hf := itt h1 hf
    refine j_sub [] rfl ?_
    exact t_X10_text_x_22 hX hQ    hf
  · replace hf := itf h1 hf
    refine j_iload_n hX dX10_text_4 5 rfl 1 rfl rfl ?_
    refine j_aload_n hX dX10_text_5 6 rfl 0 rfl rfl ?_
    refine j_get hX dX10_text_6 9 rfl fg_X10_40 0 rfl rfl ?_
    refine j_getN hX dX10_text_9 12 rfl fn_X10_101 19 rfl rfl ?_
    refine j_icmp_gt hX dX10_text_12 15 22 rfl rfl (fun h2 => ?_) (fun h2 => ?_)
    · replace hf := itt h2 hf
      refine j_sub [] rfl ?_
      exact t_X10_text_x_22 hX hQ    hf
    · replace hf := itf h2 hf
      refine j_iload_n hX dX10_text_15 16 rfl 2 rfl rfl ?_
      obtain ⟨v3, hv3, hf⟩ := ibd hf
      refine z_si (As := [.int x2]) (rest := []) hX dX10_text_16 19 rfl (t_X10_isYear x2 hv3) mc_X10_isYear ms_X10_isYear ml_X10_104 (Nat.le_of_ble_eq_true rfl) (Nat.zero_le _) (Nat.zero_le _) rfl (Nat.le_of_ble_eq_true rfl) ?_
      refine j_if_ne hX dX10_text_19 22 32 rfl rfl (fun h4 => ?_) (fun h4 => ?_)
      · replace hf := itf h4 hf
        exact (Option.some_ne_none _ hf.symm).elim
      · replace hf := itt h4 hf
        refine j_sub [] rfl ?_
        exact t_X10_text_x_22 hX hQ    hf
def f_X10_text (fu : Nat) (t_bytes : Nat → Int32) (kT : Nat) (t_length : Int32) (s_tokens : Nat → Int32) (s_starts : Nat → Int32) (s_size : Int32) (a_code : Nat → Int32) (a_codeSize : Int32) (a_at : Int32) (a_token : Int32) (a_fault : Int32) (a_place : Int32) (o_size : Int32) (x1 : Int32) (x2 : Int32) : Option (Int32 × Int32 × (Nat → Int32) × (Nat → Int32) × Int32 × (Nat → Int32) × Int32 × Int32 × Int32 × Int32 × Int32 × Int32 × Int32 × Nat) :=
  if x1 < 0 then none else if t_length < x1 then none else (f_X10_isYear x2).bind fun v3 => if v3 = 0 then none else (f_X2_isFull o_size).bind fun v5 => if v5 = 0 then (f_X3_parse fu t_bytes s_tokens s_starts a_code x1).bind fun v7 => if v7.2.2.2.2.2.2.2.1 = 0 then if decide (o_size = Int32.ofNat kT) = true then if decide (kT < 6) = true then if inb v7.2.2.2.2.1 401 = true then some (o_size, 0, v7.1, v7.2.1, v7.2.2.1, v7.2.2.2.1, v7.2.2.2.2.1, v7.2.2.2.2.2.1, v7.2.2.2.2.2.2.1, v7.2.2.2.2.2.2.2.1, v7.2.2.2.2.2.2.2.2, o_size + 1, (-1), kT + 1) else none else none else none else some (((-1)) - v7.2.2.2.2.2.2.2.1, 0, v7.1, v7.2.1, v7.2.2.1, v7.2.2.2.1, v7.2.2.2.2.1, v7.2.2.2.2.2.1, v7.2.2.2.2.2.2.1, v7.2.2.2.2.2.2.2.1, v7.2.2.2.2.2.2.2.2, o_size, v7.2.2.2.2.2.2.2.2, kT) else some ((-9), 0, s_tokens, s_starts, s_size, a_code, a_codeSize, a_at, a_token, a_fault, a_place, o_size, (-1), kT)
set_option maxRecDepth 100000 in
set_option maxHeartbeats 4000000 in
theorem t_X10_text {fu : Nat}  (x1 : Int32) (x2 : Int32) {r : Int32 × Int32 × (Nat → Int32) × (Nat → Int32) × Int32 × (Nat → Int32) × Int32 × Int32 × Int32 × Int32 × Int32 × Int32 × Int32 × Nat} (hf : f_X10_text fu t_bytes kT t_length s_tokens s_starts s_size a_code a_codeSize a_at a_token a_fault a_place o_size x1 x2 = some r) : CiT l G 45 2 402 yX10_text cX10_text 3 [.ref (gb G 0), .int x1, .int x2] (WB G p_female p_born p_toldDeath p_lastYear p_father p_mother p_fatherGrade p_motherGrade p_size g_holder g_arms g_from g_size r_marks r_arms r_root r_steps r_grade r_marksAboveOne q_rows q_sizes t_bytes t_length s_tokens s_starts s_size a_code a_codeSize a_at a_token a_fault a_place (txf kT tA) o_names o_operands o_size o_open o_refuses o_differs o_fees c_years c_rows c_size x_faultPlace ++ (TXw G kT tA tC tN tF tY ++ fr)) r.1 (fun u => (WB G p_female p_born p_toldDeath p_lastYear p_father p_mother p_fatherGrade p_motherGrade p_size g_holder g_arms g_from g_size r_marks r_arms r_root r_steps r_grade r_marksAboveOne q_rows q_sizes t_bytes r.2.1 r.2.2.1 r.2.2.2.1 r.2.2.2.2.1 r.2.2.2.2.2.1 r.2.2.2.2.2.2.1 r.2.2.2.2.2.2.2.1 r.2.2.2.2.2.2.2.2.1 r.2.2.2.2.2.2.2.2.2.1 r.2.2.2.2.2.2.2.2.2.2.1 (txf r.2.2.2.2.2.2.2.2.2.2.2.2.2 (va_up tA kT u.1)) o_names o_operands r.2.2.2.2.2.2.2.2.2.2.2.1 o_open o_refuses o_differs o_fees c_years c_rows c_size r.2.2.2.2.2.2.2.2.2.2.2.2.1 ++ (TXw G r.2.2.2.2.2.2.2.2.2.2.2.2.2 (va_up tA kT u.1) (va_up tC kT u.2) (va_up tN kT (Int32.toNatClampNeg r.2.2.2.2.2.2.1)) (va_up tF kT r.2.2.2.2.2.1) (va_up tY kT x2) ++ fr))) := by
  refine CiT.of (by decide) (Nat.le_of_ble_eq_true rfl) (fun Y hX hQ => ?_)
  refine j_lv (lv' := [(0, .ref (gb G 0)), (1, .int x1), (2, .int x2)]) rfl ?_
  unfold f_X10_text at hf
  refine j_iload_n hX dX10_text_0 1 rfl 1 rfl rfl ?_
  refine j_if_lt hX dX10_text_1 4 22 rfl rfl (fun h1 => ?_) (fun h1 => ?_)
  · replace hf := itt h1 hf
    exact (Option.some_ne_none _ hf.symm).elim
  · replace hf := itf h1 hf
    refine j_iload_n hX dX10_text_4 5 rfl 1 rfl rfl ?_
    refine j_aload_n hX dX10_text_5 6 rfl 0 rfl rfl ?_
    refine j_get hX dX10_text_6 9 rfl fg_X10_40 0 rfl rfl ?_
    refine j_getN hX dX10_text_9 12 rfl fn_X10_101 19 rfl rfl ?_
    refine j_icmp_gt hX dX10_text_12 15 22 rfl rfl (fun h2 => ?_) (fun h2 => ?_)
    · replace hf := itt h2 hf
      exact (Option.some_ne_none _ hf.symm).elim
    · replace hf := itf h2 hf
      refine j_iload_n hX dX10_text_15 16 rfl 2 rfl rfl ?_
      obtain ⟨v3, hv3, hf⟩ := ibd hf
      refine z_si (As := [.int x2]) (rest := []) hX dX10_text_16 19 rfl (t_X10_isYear x2 hv3) mc_X10_isYear ms_X10_isYear ml_X10_104 (Nat.le_of_ble_eq_true rfl) (Nat.zero_le _) (Nat.zero_le _) rfl (Nat.le_of_ble_eq_true rfl) ?_
      refine j_if_ne hX dX10_text_19 22 32 rfl rfl (fun h4 => ?_) (fun h4 => ?_)
      · replace hf := itf h4 hf
        refine j_aload_n hX dX10_text_32 33 rfl 0 rfl rfl ?_
        refine j_get hX dX10_text_33 36 rfl fg_X10_40 0 rfl rfl ?_
        refine j_iconst (v := 0) hX dX10_text_36 37 rfl (by decide) ?_
        refine j_putN hX dX10_text_37 40 rfl fn_X10_101 ft_X8_1 19 rfl rfl rfl (Nat.le_of_ble_eq_true rfl) (ws' := (WB G p_female p_born p_toldDeath p_lastYear p_father p_mother p_fatherGrade p_motherGrade p_size g_holder g_arms g_from g_size r_marks r_arms r_root r_steps r_grade r_marksAboveOne q_rows q_sizes t_bytes 0 s_tokens s_starts s_size a_code a_codeSize a_at a_token a_fault a_place (txf kT tA) o_names o_operands o_size o_open o_refuses o_differs o_fees c_years c_rows c_size x_faultPlace ++ (TXw G kT tA tC tN tF tY ++ fr))) rfl ?_
        refine j_aload_n hX dX10_text_40 41 rfl 0 rfl rfl ?_
        refine j_iconst (v := (-1)) hX dX10_text_41 42 rfl (by decide) ?_
        refine j_put hX dX10_text_42 45 rfl fg_X10_65 ft_X10_8 0 rfl rfl rfl (Nat.le_of_ble_eq_true rfl) (ws' := (WB G p_female p_born p_toldDeath p_lastYear p_father p_mother p_fatherGrade p_motherGrade p_size g_holder g_arms g_from g_size r_marks r_arms r_root r_steps r_grade r_marksAboveOne q_rows q_sizes t_bytes 0 s_tokens s_starts s_size a_code a_codeSize a_at a_token a_fault a_place (txf kT tA) o_names o_operands o_size o_open o_refuses o_differs o_fees c_years c_rows c_size ((-1)) ++ (TXw G kT tA tC tN tF tY ++ fr))) rfl ?_
        refine j_aload_n hX dX10_text_45 46 rfl 0 rfl rfl ?_
        refine j_get hX dX10_text_46 49 rfl fg_X10_54 0 rfl rfl ?_
        obtain ⟨v5, hv5, hf⟩ := ibd hf
        refine z_i (As := []) (rest := []) (q0 := 26) hX dX10_text_49 52 rfl (t_X2_isFull  hv5) mc_X2_isFull mv_X2_isFull ml_X10_113 rfl rfl (Nat.le_of_ble_eq_true rfl) (Nat.zero_le _) (Nat.zero_le _) rfl (Nat.le_of_ble_eq_true rfl) ?_
        refine j_if_eq hX dX10_text_52 55 58 rfl rfl (fun h6 => ?_) (fun h6 => ?_)
        · replace hf := itt h6 hf
          refine j_aload_n hX dX10_text_58 59 rfl 0 rfl rfl ?_
          refine j_get hX dX10_text_59 62 rfl fg_X10_47 0 rfl rfl ?_
          refine j_aload_n hX dX10_text_62 63 rfl 0 rfl rfl ?_
          refine j_get hX dX10_text_63 66 rfl fg_X10_40 0 rfl rfl ?_
          refine j_getN hX dX10_text_66 69 rfl fn_X10_116 19 rfl rfl ?_
          refine j_iload_n hX dX10_text_69 70 rfl 1 rfl rfl ?_
          obtain ⟨v7, hv7, hf⟩ := ibd hf
          refine z_v (As := [.ref (gb G 20), .int x1]) (rest := []) (q0 := 21) hX dX10_text_70 73 rfl (t_X3_parse x1 hv7) mc_X3_parse mv_X3_parse ml_X10_120 rfl rfl (Nat.le_of_ble_eq_true rfl) (Nat.zero_le _) (Nat.zero_le _) rfl (Nat.le_of_ble_eq_true rfl) ?_
          refine j_aload_n hX dX10_text_73 74 rfl 0 rfl rfl ?_
          refine j_get hX dX10_text_74 77 rfl fg_X10_47 0 rfl rfl ?_
          refine j_getN hX dX10_text_77 80 rfl fn_X10_124 21 rfl rfl ?_
          refine j_if_eq hX dX10_text_80 83 104 rfl rfl (fun h8 => ?_) (fun h8 => ?_)
          · replace hf := itt h8 hf
            obtain ⟨hb9, hf⟩ := ign hf
            obtain ⟨hb10, hf⟩ := ign hf
            obtain ⟨hb11, hf⟩ := ign hf
            have hz := inb_lt (n := 401) (by decide) hb11
            replace hf := Option.some.inj hf
            subst hf
            refine j_aload_n hX dX10_text_104 105 rfl 0 rfl rfl ?_
            refine j_get hX dX10_text_105 108 rfl fg_X10_54 0 rfl rfl ?_
            refine j_aload_n hX dX10_text_108 109 rfl 0 rfl rfl ?_
            refine j_get hX dX10_text_109 112 rfl fg_X10_47 0 rfl rfl ?_
            refine jV_r (As := []) (rest := [.ref (gb G 26)]) (q0 := 21) hX dX10_text_112 115 rfl (t_X3_code hz.1 (Nat.le_of_lt_succ hz.2.2)) mc_X3_code mv_X3_code ml_X10_130 rfl rfl (Nat.le_of_ble_eq_true rfl) (Nat.le_of_ble_eq_true rfl) (Nat.le_of_ble_eq_true rfl) rfl (Nat.le_of_ble_eq_true rfl) (fun q => ?_)
            refine j_iload_n hX dX10_text_115 116 rfl 2 rfl rfl ?_
            refine jV_T (As := [.ref q, .int x2]) (rest := []) (q0 := 27) hX dX10_text_116 119 rfl (t_X2_add x2 (of_decide_eq_true hb9) (of_decide_eq_true hb10)) mc_X2_add mv_X2_add ml_X10_134 rfl rfl (Nat.le_of_ble_eq_true rfl) (Nat.le_of_ble_eq_true rfl) (Nat.le_of_ble_eq_true rfl) rfl (Nat.le_of_ble_eq_true rfl) (fun u => ?_)
            exact j_iretT (u.1, q) hX hQ (Nat.le_of_ble_eq_true rfl) (Nat.le_of_ble_eq_true rfl) rfl dX10_text_119
          · replace hf := itf h8 hf
            refine j_aload_n hX dX10_text_83 84 rfl 0 rfl rfl ?_
            refine j_aload_n hX dX10_text_84 85 rfl 0 rfl rfl ?_
            refine j_get hX dX10_text_85 88 rfl fg_X10_47 0 rfl rfl ?_
            refine j_getN hX dX10_text_88 91 rfl fn_X10_127 21 rfl rfl ?_
            refine j_put hX dX10_text_91 94 rfl fg_X10_65 ft_X10_8 0 rfl rfl rfl (Nat.le_of_ble_eq_true rfl) (ws' := (WB G p_female p_born p_toldDeath p_lastYear p_father p_mother p_fatherGrade p_motherGrade p_size g_holder g_arms g_from g_size r_marks r_arms r_root r_steps r_grade r_marksAboveOne q_rows q_sizes t_bytes 0 v7.1 v7.2.1 v7.2.2.1 v7.2.2.2.1 v7.2.2.2.2.1 v7.2.2.2.2.2.1 v7.2.2.2.2.2.2.1 v7.2.2.2.2.2.2.2.1 v7.2.2.2.2.2.2.2.2 (txf kT tA) o_names o_operands o_size o_open o_refuses o_differs o_fees c_years c_rows c_size v7.2.2.2.2.2.2.2.2 ++ (TXw G kT tA tC tN tF tY ++ fr))) rfl ?_
            refine j_iconst (v := (-1)) hX dX10_text_94 95 rfl (by decide) ?_
            refine j_aload_n hX dX10_text_95 96 rfl 0 rfl rfl ?_
            refine j_get hX dX10_text_96 99 rfl fg_X10_47 0 rfl rfl ?_
            refine j_getN hX dX10_text_99 102 rfl fn_X10_124 21 rfl rfl ?_
            refine j_isub hX dX10_text_102 103 rfl ?_
            replace hf := Option.some.inj hf
            subst hf
            exact j_iretT (0, 0) hX hQ (Nat.zero_le _) (Nat.zero_le _) (by dsimp only; rw [txf_up, TXw_up]) dX10_text_103
        · replace hf := itf h6 hf
          refine j_bipush (v := (-9)) hX dX10_text_55 57 rfl (by decide) ?_
          replace hf := Option.some.inj hf
          subst hf
          exact j_iretT (0, 0) hX hQ (Nat.zero_le _) (Nat.zero_le _) (by dsimp only; rw [txf_up, TXw_up]) dX10_text_57
      · replace hf := itt h4 hf
        exact (Option.some_ne_none _ hf.symm).elim
end
