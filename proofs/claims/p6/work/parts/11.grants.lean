section
variable {l : Launch} {G : GT} {fr ws : va_W} {kT : Nat} {tA tC tN : Nat → Nat} {tF : Nat → Nat → Int32} {tY : Nat → Int32} {p_female : Nat → Int32} {p_born : Nat → Int32} {p_toldDeath : Nat → Int32} {p_lastYear : Nat → Int32} {p_father : Nat → Int32} {p_mother : Nat → Int32} {p_fatherGrade : Nat → Int32} {p_motherGrade : Nat → Int32} {p_size : Int32} {g_holder : Nat → Int32} {g_arms : Nat → Int32} {g_from : Nat → Int32} {g_size : Int32} {r_marks : Nat → Int32} {r_arms : Int32} {r_root : Int32} {r_steps : Int32} {r_grade : Int32} {r_marksAboveOne : Int32} {q_rows : Nat → Int32} {q_sizes : Nat → Int32} {t_bytes : Nat → Int32} {t_length : Int32} {s_tokens : Nat → Int32} {s_starts : Nat → Int32} {s_size : Int32} {a_code : Nat → Int32} {a_codeSize : Int32} {a_at : Int32} {a_token : Int32} {a_fault : Int32} {a_place : Int32} {o_texts : Nat → Option Nat} {o_names : Nat → Int32} {o_operands : Nat → Int32} {o_size : Int32} {o_open : Int32} {o_refuses : Int32} {o_differs : Int32} {o_fees : Int32} {c_years : Nat → Int32} {c_rows : Nat → Int32} {c_size : Int32} {x_faultPlace : Int32}
def g_X1_add_27 (g_holder : Nat → Int32) (g_arms : Nat → Int32) (g_from : Nat → Int32) (g_size : Int32) : Option (Int32 × (Nat → Int32) × (Nat → Int32) × (Nat → Int32) × Int32) :=
  some ((-1), g_holder, g_arms, g_from, g_size)
set_option maxRecDepth 100000 in
set_option maxHeartbeats 4000000 in
theorem t_X1_add_27 {Y : YT} {r : Int32 × (Nat → Int32) × (Nat → Int32) × (Nat → Int32) × Int32}  (hX : CX l G cX1_add 5 RX1 Y) (hQ : EQi G Y 0 0 .int r.1 (WB G p_female p_born p_toldDeath p_lastYear p_father p_mother p_fatherGrade p_motherGrade p_size r.2.1 r.2.2.1 r.2.2.2.1 r.2.2.2.2 r_marks r_arms r_root r_steps r_grade r_marksAboveOne q_rows q_sizes t_bytes t_length s_tokens s_starts s_size a_code a_codeSize a_at a_token a_fault a_place o_texts o_names o_operands o_size o_open o_refuses o_differs o_fees c_years c_rows c_size x_faultPlace ++ fr))   (hf : g_X1_add_27 g_holder g_arms g_from g_size = some r) : J l G (rmD 2 0 0) Y 0 0 27 [] [] (WB G p_female p_born p_toldDeath p_lastYear p_father p_mother p_fatherGrade p_motherGrade p_size g_holder g_arms g_from g_size r_marks r_arms r_root r_steps r_grade r_marksAboveOne q_rows q_sizes t_bytes t_length s_tokens s_starts s_size a_code a_codeSize a_at a_token a_fault a_place o_texts o_names o_operands o_size o_open o_refuses o_differs o_fees c_years c_rows c_size x_faultPlace ++ fr) := by
  unfold g_X1_add_27 at hf
  refine j_iconst (v := (-1)) hX dX1_add_27 28 rfl (by decide) ?_
  replace hf := Option.some.inj hf
  subst hf
  exact j_iret hX hQ dX1_add_28
def f_X1_add (g_holder : Nat → Int32) (g_arms : Nat → Int32) (g_from : Nat → Int32) (g_size : Int32) (x1 : Int32) (x2 : Int32) (x3 : Int32) : Option (Int32 × (Nat → Int32) × (Nat → Int32) × (Nat → Int32) × Int32) :=
  if 40 ≤ g_size then g_X1_add_27 g_holder g_arms g_from g_size else if x2 < 1 then g_X1_add_27 g_holder g_arms g_from g_size else if 99 < x2 then g_X1_add_27 g_holder g_arms g_from g_size else (f_X10_isYear x3).bind fun v4 => if v4 = 0 then g_X1_add_27 g_holder g_arms g_from g_size else if inb g_size 40 = true then if inb g_size 40 = true then if inb g_size 40 = true then some (g_size, upd g_holder (Int32.toNatClampNeg g_size) x1, upd g_arms (Int32.toNatClampNeg g_size) x2, upd g_from (Int32.toNatClampNeg g_size) x3, g_size + 1) else none else none else none
set_option maxRecDepth 100000 in
set_option maxHeartbeats 4000000 in
theorem t_X1_add  (x1 : Int32) (x2 : Int32) (x3 : Int32) {r : Int32 × (Nat → Int32) × (Nat → Int32) × (Nat → Int32) × Int32} (hf : f_X1_add g_holder g_arms g_from g_size x1 x2 x3 = some r) : Ci l G 2 0 0 yX1_add cX1_add 5 .int [.ref (gb G 10), .int x1, .int x2, .int x3] (WB G p_female p_born p_toldDeath p_lastYear p_father p_mother p_fatherGrade p_motherGrade p_size g_holder g_arms g_from g_size r_marks r_arms r_root r_steps r_grade r_marksAboveOne q_rows q_sizes t_bytes t_length s_tokens s_starts s_size a_code a_codeSize a_at a_token a_fault a_place o_texts o_names o_operands o_size o_open o_refuses o_differs o_fees c_years c_rows c_size x_faultPlace ++ fr) r.1 (WB G p_female p_born p_toldDeath p_lastYear p_father p_mother p_fatherGrade p_motherGrade p_size r.2.1 r.2.2.1 r.2.2.2.1 r.2.2.2.2 r_marks r_arms r_root r_steps r_grade r_marksAboveOne q_rows q_sizes t_bytes t_length s_tokens s_starts s_size a_code a_codeSize a_at a_token a_fault a_place o_texts o_names o_operands o_size o_open o_refuses o_differs o_fees c_years c_rows c_size x_faultPlace ++ fr) := by
  refine Ci.of (by decide) (Nat.le_of_ble_eq_true rfl) (fun Y hX hQ => ?_)
  refine j_lv (lv' := [(0, .ref (gb G 10)), (1, .int x1), (2, .int x2), (3, .int x3)]) rfl ?_
  unfold f_X1_add at hf
  refine j_aload_n hX dX1_add_0 1 rfl 0 rfl rfl ?_
  refine j_get hX dX1_add_1 4 rfl fg_X1_21 10 rfl rfl ?_
  refine j_bipush (v := 40) hX dX1_add_4 6 rfl (by decide) ?_
  refine j_icmp_ge hX dX1_add_6 9 27 rfl rfl (fun h1 => ?_) (fun h1 => ?_)
  · replace hf := itt h1 hf
    refine j_sub [] rfl ?_
    exact t_X1_add_27 hX hQ    hf
  · replace hf := itf h1 hf
    refine j_iload_n hX dX1_add_9 10 rfl 2 rfl rfl ?_
    refine j_iconst (v := 1) hX dX1_add_10 11 rfl (by decide) ?_
    refine j_icmp_lt hX dX1_add_11 14 27 rfl rfl (fun h2 => ?_) (fun h2 => ?_)
    · replace hf := itt h2 hf
      refine j_sub [] rfl ?_
      exact t_X1_add_27 hX hQ    hf
    · replace hf := itf h2 hf
      refine j_iload_n hX dX1_add_14 15 rfl 2 rfl rfl ?_
      refine j_bipush (v := 99) hX dX1_add_15 17 rfl (by decide) ?_
      refine j_icmp_gt hX dX1_add_17 20 27 rfl rfl (fun h3 => ?_) (fun h3 => ?_)
      · replace hf := itt h3 hf
        refine j_sub [] rfl ?_
        exact t_X1_add_27 hX hQ    hf
      · replace hf := itf h3 hf
        refine j_iload_n hX dX1_add_20 21 rfl 3 rfl rfl ?_
        obtain ⟨v4, hv4, hf⟩ := ibd hf
        refine z_ni (As := [.int x3]) (rest := []) hX dX1_add_21 24 rfl (t_X10_isYear x3 hv4) mc_X10_isYear ms_X10_isYear mn_X1_25 (Nat.le_of_ble_eq_true rfl) (Nat.le_refl _) (Nat.le_refl _) rfl (Nat.le_of_ble_eq_true rfl) ?_
        refine j_if_ne hX dX1_add_24 27 29 rfl rfl (fun h5 => ?_) (fun h5 => ?_)
        · replace hf := itf h5 hf
          refine j_aload_n hX dX1_add_29 30 rfl 0 rfl rfl ?_
          refine j_get hX dX1_add_30 33 rfl fg_X1_21 10 rfl rfl ?_
          refine j_istore hX dX1_add_33 35 rfl (by decide) (lv' := [(4, .int g_size), (0, .ref (gb G 10)), (1, .int x1), (2, .int x2), (3, .int x3)]) rfl ?_
          refine j_aload_n hX dX1_add_35 36 rfl 1 rfl rfl ?_
          refine j_get hX dX1_add_36 39 rfl fg_X1_11 10 rfl rfl ?_
          refine j_iload hX dX1_add_39 41 rfl 0 rfl ?_
          refine j_iload_n hX dX1_add_41 42 rfl 2 rfl rfl ?_
          obtain ⟨hb6, hf⟩ := ign hf
          refine j_iast hX dX1_add_42 43 rfl 11 rfl hb6 (ws' := (WB G p_female p_born p_toldDeath p_lastYear p_father p_mother p_fatherGrade p_motherGrade p_size (upd g_holder (Int32.toNatClampNeg g_size) x1) g_arms g_from g_size r_marks r_arms r_root r_steps r_grade r_marksAboveOne q_rows q_sizes t_bytes t_length s_tokens s_starts s_size a_code a_codeSize a_at a_token a_fault a_place o_texts o_names o_operands o_size o_open o_refuses o_differs o_fees c_years c_rows c_size x_faultPlace ++ fr)) rfl ?_
          refine j_aload_n hX dX1_add_43 44 rfl 1 rfl rfl ?_
          refine j_get hX dX1_add_44 47 rfl fg_X1_15 10 rfl rfl ?_
          refine j_iload hX dX1_add_47 49 rfl 0 rfl ?_
          refine j_iload_n hX dX1_add_49 50 rfl 3 rfl rfl ?_
          obtain ⟨hb7, hf⟩ := ign hf
          refine j_iast hX dX1_add_50 51 rfl 12 rfl hb7 (ws' := (WB G p_female p_born p_toldDeath p_lastYear p_father p_mother p_fatherGrade p_motherGrade p_size (upd g_holder (Int32.toNatClampNeg g_size) x1) (upd g_arms (Int32.toNatClampNeg g_size) x2) g_from g_size r_marks r_arms r_root r_steps r_grade r_marksAboveOne q_rows q_sizes t_bytes t_length s_tokens s_starts s_size a_code a_codeSize a_at a_token a_fault a_place o_texts o_names o_operands o_size o_open o_refuses o_differs o_fees c_years c_rows c_size x_faultPlace ++ fr)) rfl ?_
          refine j_aload_n hX dX1_add_51 52 rfl 1 rfl rfl ?_
          refine j_get hX dX1_add_52 55 rfl fg_X1_18 10 rfl rfl ?_
          refine j_iload hX dX1_add_55 57 rfl 0 rfl ?_
          refine j_iload_n hX dX1_add_57 58 rfl 4 rfl rfl ?_
          obtain ⟨hb8, hf⟩ := ign hf
          refine j_iast hX dX1_add_58 59 rfl 13 rfl hb8 (ws' := (WB G p_female p_born p_toldDeath p_lastYear p_father p_mother p_fatherGrade p_motherGrade p_size (upd g_holder (Int32.toNatClampNeg g_size) x1) (upd g_arms (Int32.toNatClampNeg g_size) x2) (upd g_from (Int32.toNatClampNeg g_size) x3) g_size r_marks r_arms r_root r_steps r_grade r_marksAboveOne q_rows q_sizes t_bytes t_length s_tokens s_starts s_size a_code a_codeSize a_at a_token a_fault a_place o_texts o_names o_operands o_size o_open o_refuses o_differs o_fees c_years c_rows c_size x_faultPlace ++ fr)) rfl ?_
          refine j_aload_n hX dX1_add_59 60 rfl 1 rfl rfl ?_
          refine j_iload hX dX1_add_60 62 rfl 0 rfl ?_
          refine j_iconst (v := 1) hX dX1_add_62 63 rfl (by decide) ?_
          refine j_iadd hX dX1_add_63 64 rfl ?_
          refine j_put hX dX1_add_64 67 rfl fg_X1_21 ft_X1_3 10 rfl rfl rfl (Nat.le_of_ble_eq_true rfl) (ws' := (WB G p_female p_born p_toldDeath p_lastYear p_father p_mother p_fatherGrade p_motherGrade p_size (upd g_holder (Int32.toNatClampNeg g_size) x1) (upd g_arms (Int32.toNatClampNeg g_size) x2) (upd g_from (Int32.toNatClampNeg g_size) x3) (g_size + 1) r_marks r_arms r_root r_steps r_grade r_marksAboveOne q_rows q_sizes t_bytes t_length s_tokens s_starts s_size a_code a_codeSize a_at a_token a_fault a_place o_texts o_names o_operands o_size o_open o_refuses o_differs o_fees c_years c_rows c_size x_faultPlace ++ fr)) rfl ?_
          refine j_iload hX dX1_add_67 69 rfl 0 rfl ?_
          replace hf := Option.some.inj hf
          subst hf
          exact j_iret hX hQ dX1_add_69
        · replace hf := itt h5 hf
          refine j_sub [] rfl ?_
          exact t_X1_add_27 hX hQ    hf
def g_X1_ownArms_70 (k10 : Int32 → Int32 → Int32 → Int32 → Int32 → Option (Int32)) (x1 : Int32) (x2 : Int32) (x3 : Int32) (x4 : Int32) (x5 : Int32) : Option (Int32) :=
  k10 x1 x2 x3 x4 (x5 + 1)
set_option maxRecDepth 100000 in
set_option maxHeartbeats 4000000 in
theorem t_X1_ownArms_70 {Y : YT} {r : Int32} {k10 : Int32 → Int32 → Int32 → Int32 → Int32 → Option (Int32)} (hX : CX l G cX1_ownArms 6 RX1 Y) (hQ : EQi G Y 0 0 .int r (WB G p_female p_born p_toldDeath p_lastYear p_father p_mother p_fatherGrade p_motherGrade p_size g_holder g_arms g_from g_size r_marks r_arms r_root r_steps r_grade r_marksAboveOne q_rows q_sizes t_bytes t_length s_tokens s_starts s_size a_code a_codeSize a_at a_token a_fault a_place o_texts o_names o_operands o_size o_open o_refuses o_differs o_fees c_years c_rows c_size x_faultPlace ++ fr)) (hk10 : ∀ (x1 : Int32) (x2 : Int32) (x3 : Int32) (x4 : Int32) (x5 : Int32), k10 x1 x2 x3 x4 x5  = some r → J l G (rmD 1 0 0) Y 0 0 10 [(0, .ref (gb G 10)), (1, .int x1), (2, .int x2), (3, .int x3), (4, .int x4), (5, .int x5)] [] (WB G p_female p_born p_toldDeath p_lastYear p_father p_mother p_fatherGrade p_motherGrade p_size g_holder g_arms g_from g_size r_marks r_arms r_root r_steps r_grade r_marksAboveOne q_rows q_sizes t_bytes t_length s_tokens s_starts s_size a_code a_codeSize a_at a_token a_fault a_place o_texts o_names o_operands o_size o_open o_refuses o_differs o_fees c_years c_rows c_size x_faultPlace ++ fr)) (x1 : Int32) (x2 : Int32) (x3 : Int32) (x4 : Int32) (x5 : Int32) (hf : g_X1_ownArms_70 k10 x1 x2 x3 x4 x5 = some r) : J l G (rmD 1 0 0) Y 0 0 70 [(0, .ref (gb G 10)), (1, .int x1), (2, .int x2), (3, .int x3), (4, .int x4), (5, .int x5)] [] (WB G p_female p_born p_toldDeath p_lastYear p_father p_mother p_fatherGrade p_motherGrade p_size g_holder g_arms g_from g_size r_marks r_arms r_root r_steps r_grade r_marksAboveOne q_rows q_sizes t_bytes t_length s_tokens s_starts s_size a_code a_codeSize a_at a_token a_fault a_place o_texts o_names o_operands o_size o_open o_refuses o_differs o_fees c_years c_rows c_size x_faultPlace ++ fr) := by
  unfold g_X1_ownArms_70 at hf
  refine j_iinc (v := x5 + 1) hX dX1_ownArms_70 73 rfl 5 rfl rfl (by decide) (lv' := [(5, .int (x5 + 1)), (0, .ref (gb G 10)), (1, .int x1), (2, .int x2), (3, .int x3), (4, .int x4)]) rfl ?_
  refine j_goto hX dX1_ownArms_73 10 rfl ?_
  refine j_sub [1, 2, 3, 4, 5, 0] rfl ?_
  exact hk10 x1 x2 x3 x4 (x5 + 1) hf
def g_X1_ownArms_10 (g_holder : Nat → Int32) (g_arms : Nat → Int32) (g_from : Nat → Int32) (g_size : Int32) (k10 : Int32 → Int32 → Int32 → Int32 → Int32 → Option (Int32)) (x1 : Int32) (x2 : Int32) (x3 : Int32) (x4 : Int32) (x5 : Int32) : Option (Int32) :=
  if g_size ≤ x5 then some x3 else if inb x5 40 = true then if (g_holder (Int32.toNatClampNeg x5)) = x1 then if inb x5 40 = true then if x2 < (g_from (Int32.toNatClampNeg x5)) then g_X1_ownArms_70 k10 x1 x2 x3 x4 x5 else if inb x5 40 = true then if (g_from (Int32.toNatClampNeg x5)) < x4 then g_X1_ownArms_70 k10 x1 x2 x3 x4 x5 else if inb x5 40 = true then if inb x5 40 = true then g_X1_ownArms_70 k10 x1 x2 (g_arms (Int32.toNatClampNeg x5)) (g_from (Int32.toNatClampNeg x5)) x5 else none else none else none else none else g_X1_ownArms_70 k10 x1 x2 x3 x4 x5 else none
set_option maxRecDepth 100000 in
set_option maxHeartbeats 4000000 in
theorem t_X1_ownArms_10 {Y : YT} {r : Int32} {k10 : Int32 → Int32 → Int32 → Int32 → Int32 → Option (Int32)} (hX : CX l G cX1_ownArms 6 RX1 Y) (hQ : EQi G Y 0 0 .int r (WB G p_female p_born p_toldDeath p_lastYear p_father p_mother p_fatherGrade p_motherGrade p_size g_holder g_arms g_from g_size r_marks r_arms r_root r_steps r_grade r_marksAboveOne q_rows q_sizes t_bytes t_length s_tokens s_starts s_size a_code a_codeSize a_at a_token a_fault a_place o_texts o_names o_operands o_size o_open o_refuses o_differs o_fees c_years c_rows c_size x_faultPlace ++ fr)) (hk10 : ∀ (x1 : Int32) (x2 : Int32) (x3 : Int32) (x4 : Int32) (x5 : Int32), k10 x1 x2 x3 x4 x5  = some r → J l G (rmD 1 0 0) Y 0 0 10 [(0, .ref (gb G 10)), (1, .int x1), (2, .int x2), (3, .int x3), (4, .int x4), (5, .int x5)] [] (WB G p_female p_born p_toldDeath p_lastYear p_father p_mother p_fatherGrade p_motherGrade p_size g_holder g_arms g_from g_size r_marks r_arms r_root r_steps r_grade r_marksAboveOne q_rows q_sizes t_bytes t_length s_tokens s_starts s_size a_code a_codeSize a_at a_token a_fault a_place o_texts o_names o_operands o_size o_open o_refuses o_differs o_fees c_years c_rows c_size x_faultPlace ++ fr)) (x1 : Int32) (x2 : Int32) (x3 : Int32) (x4 : Int32) (x5 : Int32) (hf : g_X1_ownArms_10 g_holder g_arms g_from g_size k10 x1 x2 x3 x4 x5 = some r) : J l G (rmD 1 0 0) Y 0 0 10 [(0, .ref (gb G 10)), (1, .int x1), (2, .int x2), (3, .int x3), (4, .int x4), (5, .int x5)] [] (WB G p_female p_born p_toldDeath p_lastYear p_father p_mother p_fatherGrade p_motherGrade p_size g_holder g_arms g_from g_size r_marks r_arms r_root r_steps r_grade r_marksAboveOne q_rows q_sizes t_bytes t_length s_tokens s_starts s_size a_code a_codeSize a_at a_token a_fault a_place o_texts o_names o_operands o_size o_open o_refuses o_differs o_fees c_years c_rows c_size x_faultPlace ++ fr) := by
  unfold g_X1_ownArms_10 at hf
  refine j_iload hX dX1_ownArms_10 12 rfl 5 rfl ?_
  refine j_aload_n hX dX1_ownArms_12 13 rfl 0 rfl rfl ?_
  refine j_get hX dX1_ownArms_13 16 rfl fg_X1_21 10 rfl rfl ?_
  refine j_icmp_ge hX dX1_ownArms_16 19 76 rfl rfl (fun h1 => ?_) (fun h1 => ?_)
  · replace hf := itt h1 hf
    refine j_iload_n hX dX1_ownArms_76 77 rfl 3 rfl rfl ?_
    replace hf := Option.some.inj hf
    subst hf
    exact j_iret hX hQ dX1_ownArms_77
  · replace hf := itf h1 hf
    refine j_aload_n hX dX1_ownArms_19 20 rfl 0 rfl rfl ?_
    refine j_get hX dX1_ownArms_20 23 rfl fg_X1_11 10 rfl rfl ?_
    refine j_iload hX dX1_ownArms_23 25 rfl 5 rfl ?_
    obtain ⟨hb2, hf⟩ := ign hf
    refine j_iald hX dX1_ownArms_25 26 rfl 11 rfl hb2 ?_
    refine j_iload_n hX dX1_ownArms_26 27 rfl 1 rfl rfl ?_
    refine j_icmp_ne hX dX1_ownArms_27 30 70 rfl rfl (fun h3 => ?_) (fun h3 => ?_)
    · replace hf := itf h3 hf
      exact t_X1_ownArms_70 hX hQ  hk10 x1 x2 x3 x4 x5 hf
    · replace hf := itt h3 hf
      refine j_aload_n hX dX1_ownArms_30 31 rfl 0 rfl rfl ?_
      refine j_get hX dX1_ownArms_31 34 rfl fg_X1_18 10 rfl rfl ?_
      refine j_iload hX dX1_ownArms_34 36 rfl 5 rfl ?_
      obtain ⟨hb4, hf⟩ := ign hf
      refine j_iald hX dX1_ownArms_36 37 rfl 13 rfl hb4 ?_
      refine j_iload_n hX dX1_ownArms_37 38 rfl 2 rfl rfl ?_
      refine j_icmp_gt hX dX1_ownArms_38 41 70 rfl rfl (fun h5 => ?_) (fun h5 => ?_)
      · replace hf := itt h5 hf
        exact t_X1_ownArms_70 hX hQ  hk10 x1 x2 x3 x4 x5 hf
      · replace hf := itf h5 hf
        refine j_aload_n hX dX1_ownArms_41 42 rfl 0 rfl rfl ?_
        refine j_get hX dX1_ownArms_42 45 rfl fg_X1_18 10 rfl rfl ?_
        refine j_iload hX dX1_ownArms_45 47 rfl 5 rfl ?_
        obtain ⟨hb6, hf⟩ := ign hf
        refine j_iald hX dX1_ownArms_47 48 rfl 13 rfl hb6 ?_
        refine j_iload hX dX1_ownArms_48 50 rfl 4 rfl ?_
        refine j_icmp_lt hX dX1_ownArms_50 53 70 rfl rfl (fun h7 => ?_) (fun h7 => ?_)
        · replace hf := itt h7 hf
          exact t_X1_ownArms_70 hX hQ  hk10 x1 x2 x3 x4 x5 hf
        · replace hf := itf h7 hf
          refine j_aload_n hX dX1_ownArms_53 54 rfl 0 rfl rfl ?_
          refine j_get hX dX1_ownArms_54 57 rfl fg_X1_15 10 rfl rfl ?_
          refine j_iload hX dX1_ownArms_57 59 rfl 5 rfl ?_
          obtain ⟨hb8, hf⟩ := ign hf
          refine j_iald hX dX1_ownArms_59 60 rfl 12 rfl hb8 ?_
          refine j_istore_n hX dX1_ownArms_60 61 rfl rfl (by decide) (lv' := [(3, .int (g_arms (Int32.toNatClampNeg x5))), (0, .ref (gb G 10)), (1, .int x1), (2, .int x2), (4, .int x4), (5, .int x5)]) rfl ?_
          refine j_aload_n hX dX1_ownArms_61 62 rfl 1 rfl rfl ?_
          refine j_get hX dX1_ownArms_62 65 rfl fg_X1_18 10 rfl rfl ?_
          refine j_iload hX dX1_ownArms_65 67 rfl 5 rfl ?_
          obtain ⟨hb9, hf⟩ := ign hf
          refine j_iald hX dX1_ownArms_67 68 rfl 13 rfl hb9 ?_
          refine j_istore hX dX1_ownArms_68 70 rfl (by decide) (lv' := [(4, .int (g_from (Int32.toNatClampNeg x5))), (3, .int (g_arms (Int32.toNatClampNeg x5))), (0, .ref (gb G 10)), (1, .int x1), (2, .int x2), (5, .int x5)]) rfl ?_
          refine j_sub [2, 3, 4, 1, 0, 5] rfl ?_
          exact t_X1_ownArms_70 hX hQ  hk10 x1 x2 (g_arms (Int32.toNatClampNeg x5)) (g_from (Int32.toNatClampNeg x5)) x5 hf
def f_X1_ownArms_10 (g_holder : Nat → Int32) (g_arms : Nat → Int32) (g_from : Nat → Int32) (g_size : Int32) : Nat → (Int32 × Int32 × Int32 × Int32 × Int32) → Option (Int32) :=
  lp (fun k v => g_X1_ownArms_10 g_holder g_arms g_from g_size (fun x1 x2 x3 x4 x5 => k (x1, x2, x3, x4, x5)) v.1 v.2.1 v.2.2.1 v.2.2.2.1 v.2.2.2.2)
set_option maxRecDepth 100000 in
set_option maxHeartbeats 4000000 in
theorem u_X1_ownArms_10 {Y : YT} {r : Int32}  (hX : CX l G cX1_ownArms 6 RX1 Y) (hQ : EQi G Y 0 0 .int r (WB G p_female p_born p_toldDeath p_lastYear p_father p_mother p_fatherGrade p_motherGrade p_size g_holder g_arms g_from g_size r_marks r_arms r_root r_steps r_grade r_marksAboveOne q_rows q_sizes t_bytes t_length s_tokens s_starts s_size a_code a_codeSize a_at a_token a_fault a_place o_texts o_names o_operands o_size o_open o_refuses o_differs o_fees c_years c_rows c_size x_faultPlace ++ fr))  (n : Nat) (v : Int32 × Int32 × Int32 × Int32 × Int32) (hf : f_X1_ownArms_10 g_holder g_arms g_from g_size n v = some r) : J l G (rmD 1 0 0) Y 0 0 10 [(0, .ref (gb G 10)), (1, .int v.1), (2, .int v.2.1), (3, .int v.2.2.1), (4, .int v.2.2.2.1), (5, .int v.2.2.2.2)] [] (WB G p_female p_born p_toldDeath p_lastYear p_father p_mother p_fatherGrade p_motherGrade p_size g_holder g_arms g_from g_size r_marks r_arms r_root r_steps r_grade r_marksAboveOne q_rows q_sizes t_bytes t_length s_tokens s_starts s_size a_code a_codeSize a_at a_token a_fault a_place o_texts o_names o_operands o_size o_open o_refuses o_differs o_fees c_years c_rows c_size x_faultPlace ++ fr) :=
  lp_ind (P := fun v : Int32 × Int32 × Int32 × Int32 × Int32 => J l G (rmD 1 0 0) Y 0 0 10 [(0, .ref (gb G 10)), (1, .int v.1), (2, .int v.2.1), (3, .int v.2.2.1), (4, .int v.2.2.2.1), (5, .int v.2.2.2.2)] [] (WB G p_female p_born p_toldDeath p_lastYear p_father p_mother p_fatherGrade p_motherGrade p_size g_holder g_arms g_from g_size r_marks r_arms r_root r_steps r_grade r_marksAboveOne q_rows q_sizes t_bytes t_length s_tokens s_starts s_size a_code a_codeSize a_at a_token a_fault a_place o_texts o_names o_operands o_size o_open o_refuses o_differs o_fees c_years c_rows c_size x_faultPlace ++ fr)) (fun k hk v hf => t_X1_ownArms_10 hX hQ   (fun x1 x2 x3 x4 x5 h => hk (x1, x2, x3, x4, x5) h) v.1 v.2.1 v.2.2.1 v.2.2.2.1 v.2.2.2.2 hf) n v hf
def f_X1_ownArms (fu : Nat) (g_holder : Nat → Int32) (g_arms : Nat → Int32) (g_from : Nat → Int32) (g_size : Int32) (x1 : Int32) (x2 : Int32) : Option (Int32) :=
  f_X1_ownArms_10 g_holder g_arms g_from g_size fu (x1, x2, (-1), 1000, 0)
set_option maxRecDepth 100000 in
set_option maxHeartbeats 4000000 in
theorem t_X1_ownArms {fu : Nat}  (x1 : Int32) (x2 : Int32) {r : Int32} (hf : f_X1_ownArms fu g_holder g_arms g_from g_size x1 x2 = some r) : Ci l G 1 0 0 yX1_ownArms cX1_ownArms 6 .int [.ref (gb G 10), .int x1, .int x2] (WB G p_female p_born p_toldDeath p_lastYear p_father p_mother p_fatherGrade p_motherGrade p_size g_holder g_arms g_from g_size r_marks r_arms r_root r_steps r_grade r_marksAboveOne q_rows q_sizes t_bytes t_length s_tokens s_starts s_size a_code a_codeSize a_at a_token a_fault a_place o_texts o_names o_operands o_size o_open o_refuses o_differs o_fees c_years c_rows c_size x_faultPlace ++ fr) r (WB G p_female p_born p_toldDeath p_lastYear p_father p_mother p_fatherGrade p_motherGrade p_size g_holder g_arms g_from g_size r_marks r_arms r_root r_steps r_grade r_marksAboveOne q_rows q_sizes t_bytes t_length s_tokens s_starts s_size a_code a_codeSize a_at a_token a_fault a_place o_texts o_names o_operands o_size o_open o_refuses o_differs o_fees c_years c_rows c_size x_faultPlace ++ fr) := by
  refine Ci.of (by decide) (Nat.le_of_ble_eq_true rfl) (fun Y hX hQ => ?_)
  refine j_lv (lv' := [(0, .ref (gb G 10)), (1, .int x1), (2, .int x2)]) rfl ?_
  unfold f_X1_ownArms at hf
  refine j_iconst (v := (-1)) hX dX1_ownArms_0 1 rfl (by decide) ?_
  refine j_istore_n hX dX1_ownArms_1 2 rfl rfl (by decide) (lv' := [(3, .int ((-1))), (0, .ref (gb G 10)), (1, .int x1), (2, .int x2)]) rfl ?_
  refine j_sipush (v := 1000) hX dX1_ownArms_2 5 rfl (by decide) ?_
  refine j_istore hX dX1_ownArms_5 7 rfl (by decide) (lv' := [(4, .int 1000), (3, .int ((-1))), (0, .ref (gb G 10)), (1, .int x1), (2, .int x2)]) rfl ?_
  refine j_iconst (v := 0) hX dX1_ownArms_7 8 rfl (by decide) ?_
  refine j_istore hX dX1_ownArms_8 10 rfl (by decide) (lv' := [(5, .int 0), (4, .int 1000), (3, .int ((-1))), (0, .ref (gb G 10)), (1, .int x1), (2, .int x2)]) rfl ?_
  refine j_sub [3, 4, 5, 2, 1, 0] rfl ?_
  exact u_X1_ownArms_10 hX hQ   fu (x1, x2, (-1), 1000, 0) hf
end
