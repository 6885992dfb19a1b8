section
variable {l : Launch} {G : GT} {fr ws : va_W} {kT : Nat} {tA tC tN : Nat → Nat} {tF : Nat → Nat → Int32} {tY : Nat → Int32} {p_female : Nat → Int32} {p_born : Nat → Int32} {p_toldDeath : Nat → Int32} {p_lastYear : Nat → Int32} {p_father : Nat → Int32} {p_mother : Nat → Int32} {p_fatherGrade : Nat → Int32} {p_motherGrade : Nat → Int32} {p_size : Int32} {g_holder : Nat → Int32} {g_arms : Nat → Int32} {g_from : Nat → Int32} {g_size : Int32} {r_marks : Nat → Int32} {r_arms : Int32} {r_root : Int32} {r_steps : Int32} {r_grade : Int32} {r_marksAboveOne : Int32} {q_rows : Nat → Int32} {q_sizes : Nat → Int32} {t_bytes : Nat → Int32} {t_length : Int32} {s_tokens : Nat → Int32} {s_starts : Nat → Int32} {s_size : Int32} {a_code : Nat → Int32} {a_codeSize : Int32} {a_at : Int32} {a_token : Int32} {a_fault : Int32} {a_place : Int32} {o_texts : Nat → Option Nat} {o_names : Nat → Int32} {o_operands : Nat → Int32} {o_size : Int32} {o_open : Int32} {o_refuses : Int32} {o_differs : Int32} {o_fees : Int32} {c_years : Nat → Int32} {c_rows : Nat → Int32} {c_size : Int32} {x_faultPlace : Int32}
def g_X0_has_17 (s0 : Int32) : Option (Int32) :=
  if isB s0 = true then some s0 else none
set_option maxRecDepth 100000 in
set_option maxHeartbeats 4000000 in
theorem t_X0_has_17 {Y : YT} {r : Int32}  (hX : CX l G cX0_has 2 RX0 Y) (hQ : EQi G Y 0 0 .boolean r (WB G p_female p_born p_toldDeath p_lastYear p_father p_mother p_fatherGrade p_motherGrade p_size g_holder g_arms g_from g_size r_marks r_arms r_root r_steps r_grade r_marksAboveOne q_rows q_sizes t_bytes t_length s_tokens s_starts s_size a_code a_codeSize a_at a_token a_fault a_place o_texts o_names o_operands o_size o_open o_refuses o_differs o_fees c_years c_rows c_size x_faultPlace ++ fr))  (s0 : Int32) (hf : g_X0_has_17 s0 = some r) : J l G (rmD 1 0 0) Y 0 0 17 [] [.int s0] (WB G p_female p_born p_toldDeath p_lastYear p_father p_mother p_fatherGrade p_motherGrade p_size g_holder g_arms g_from g_size r_marks r_arms r_root r_steps r_grade r_marksAboveOne q_rows q_sizes t_bytes t_length s_tokens s_starts s_size a_code a_codeSize a_at a_token a_fault a_place o_texts o_names o_operands o_size o_open o_refuses o_differs o_fees c_years c_rows c_size x_faultPlace ++ fr) := by
  unfold g_X0_has_17 at hf
  obtain ⟨hb2, hf⟩ := ign hf
  replace hf := Option.some.inj hf
  subst hf
  exact j_zret hX hQ hb2 dX0_has_17
def g_X0_has_16  : Option (Int32) :=
  g_X0_has_17 0
set_option maxRecDepth 100000 in
set_option maxHeartbeats 4000000 in
theorem t_X0_has_16 {Y : YT} {r : Int32}  (hX : CX l G cX0_has 2 RX0 Y) (hQ : EQi G Y 0 0 .boolean r (WB G p_female p_born p_toldDeath p_lastYear p_father p_mother p_fatherGrade p_motherGrade p_size g_holder g_arms g_from g_size r_marks r_arms r_root r_steps r_grade r_marksAboveOne q_rows q_sizes t_bytes t_length s_tokens s_starts s_size a_code a_codeSize a_at a_token a_fault a_place o_texts o_names o_operands o_size o_open o_refuses o_differs o_fees c_years c_rows c_size x_faultPlace ++ fr))   (hf : g_X0_has_16  = some r) : J l G (rmD 1 0 0) Y 0 0 16 [] [] (WB G p_female p_born p_toldDeath p_lastYear p_father p_mother p_fatherGrade p_motherGrade p_size g_holder g_arms g_from g_size r_marks r_arms r_root r_steps r_grade r_marksAboveOne q_rows q_sizes t_bytes t_length s_tokens s_starts s_size a_code a_codeSize a_at a_token a_fault a_place o_texts o_names o_operands o_size o_open o_refuses o_differs o_fees c_years c_rows c_size x_faultPlace ++ fr) := by
  unfold g_X0_has_16 at hf
  refine j_iconst (v := 0) hX dX0_has_16 17 rfl (by decide) ?_
  exact t_X0_has_17 hX hQ   0 hf
def f_X0_has (c_size : Int32) (x1 : Int32) : Option (Int32) :=
  if x1 < 0 then g_X0_has_16  else if c_size ≤ x1 then g_X0_has_16  else g_X0_has_17 1
set_option maxRecDepth 100000 in
set_option maxHeartbeats 4000000 in
theorem t_X0_has  (x1 : Int32) {r : Int32} (hf : f_X0_has c_size x1 = some r) : Ci l G 1 0 0 yX0_has cX0_has 2 .boolean [.ref (gb G 30), .int x1] (WB G p_female p_born p_toldDeath p_lastYear p_father p_mother p_fatherGrade p_motherGrade p_size g_holder g_arms g_from g_size r_marks r_arms r_root r_steps r_grade r_marksAboveOne q_rows q_sizes t_bytes t_length s_tokens s_starts s_size a_code a_codeSize a_at a_token a_fault a_place o_texts o_names o_operands o_size o_open o_refuses o_differs o_fees c_years c_rows c_size x_faultPlace ++ fr) r (WB G p_female p_born p_toldDeath p_lastYear p_father p_mother p_fatherGrade p_motherGrade p_size g_holder g_arms g_from g_size r_marks r_arms r_root r_steps r_grade r_marksAboveOne q_rows q_sizes t_bytes t_length s_tokens s_starts s_size a_code a_codeSize a_at a_token a_fault a_place o_texts o_names o_operands o_size o_open o_refuses o_differs o_fees c_years c_rows c_size x_faultPlace ++ fr) := by
  refine Ci.of (by decide) (Nat.le_of_ble_eq_true rfl) (fun Y hX hQ => ?_)
  refine j_lv (lv' := [(0, .ref (gb G 30)), (1, .int x1)]) rfl ?_
  unfold f_X0_has at hf
  refine j_iload_n hX dX0_has_0 1 rfl 1 rfl rfl ?_
  refine j_if_lt hX dX0_has_1 4 16 rfl rfl (fun h1 => ?_) (fun h1 => ?_)
  · replace hf := itt h1 hf
    refine j_sub [] rfl ?_
    exact t_X0_has_16 hX hQ    hf
  · replace hf := itf h1 hf
    refine j_iload_n hX dX0_has_4 5 rfl 1 rfl rfl ?_
    refine j_aload_n hX dX0_has_5 6 rfl 0 rfl rfl ?_
    refine j_get hX dX0_has_6 9 rfl fg_X0_18 30 rfl rfl ?_
    refine j_icmp_ge hX dX0_has_9 12 16 rfl rfl (fun h3 => ?_) (fun h3 => ?_)
    · replace hf := itt h3 hf
      refine j_sub [] rfl ?_
      exact t_X0_has_16 hX hQ    hf
    · replace hf := itf h3 hf
      refine j_iconst (v := 1) hX dX0_has_12 13 rfl (by decide) ?_
      refine j_goto hX dX0_has_13 17 rfl ?_
      refine j_sub [] rfl ?_
      exact t_X0_has_17 hX hQ   1 hf
def g_X0_add_16 (c_years : Nat → Int32) (c_rows : Nat → Int32) (c_size : Int32) : Option (Int32 × (Nat → Int32) × (Nat → Int32) × Int32) :=
  some ((-1), c_years, c_rows, c_size)
set_option maxRecDepth 100000 in
set_option maxHeartbeats 4000000 in
theorem t_X0_add_16 {Y : YT} {r : Int32 × (Nat → Int32) × (Nat → Int32) × Int32}  (hX : CX l G cX0_add 4 RX0 Y) (hQ : EQi G Y 0 0 .int r.1 (WB G p_female p_born p_toldDeath p_lastYear p_father p_mother p_fatherGrade p_motherGrade p_size g_holder g_arms g_from g_size r_marks r_arms r_root r_steps r_grade r_marksAboveOne q_rows q_sizes t_bytes t_length s_tokens s_starts s_size a_code a_codeSize a_at a_token a_fault a_place o_texts o_names o_operands o_size o_open o_refuses o_differs o_fees r.2.1 r.2.2.1 r.2.2.2 x_faultPlace ++ fr))   (hf : g_X0_add_16 c_years c_rows c_size = some r) : J l G (rmD 2 0 0) Y 0 0 16 [] [] (WB G p_female p_born p_toldDeath p_lastYear p_father p_mother p_fatherGrade p_motherGrade p_size g_holder g_arms g_from g_size r_marks r_arms r_root r_steps r_grade r_marksAboveOne q_rows q_sizes t_bytes t_length s_tokens s_starts s_size a_code a_codeSize a_at a_token a_fault a_place o_texts o_names o_operands o_size o_open o_refuses o_differs o_fees c_years c_rows c_size x_faultPlace ++ fr) := by
  unfold g_X0_add_16 at hf
  refine j_iconst (v := (-1)) hX dX0_add_16 17 rfl (by decide) ?_
  replace hf := Option.some.inj hf
  subst hf
  exact j_iret hX hQ dX0_add_17
def f_X0_add (c_years : Nat → Int32) (c_rows : Nat → Int32) (c_size : Int32) (x1 : Int32) (x2 : Int32) : Option (Int32 × (Nat → Int32) × (Nat → Int32) × Int32) :=
  if 40 ≤ c_size then g_X0_add_16 c_years c_rows c_size else (f_X10_isYear x1).bind fun v2 => if v2 = 0 then g_X0_add_16 c_years c_rows c_size else if inb c_size 40 = true then if inb c_size 40 = true then some (c_size, upd c_years (Int32.toNatClampNeg c_size) x1, upd c_rows (Int32.toNatClampNeg c_size) x2, c_size + 1) else none else none
set_option maxRecDepth 100000 in
set_option maxHeartbeats 4000000 in
theorem t_X0_add  (x1 : Int32) (x2 : Int32) {r : Int32 × (Nat → Int32) × (Nat → Int32) × Int32} (hf : f_X0_add c_years c_rows c_size x1 x2 = some r) : Ci l G 2 0 0 yX0_add cX0_add 4 .int [.ref (gb G 30), .int x1, .int x2] (WB G p_female p_born p_toldDeath p_lastYear p_father p_mother p_fatherGrade p_motherGrade p_size g_holder g_arms g_from g_size r_marks r_arms r_root r_steps r_grade r_marksAboveOne q_rows q_sizes t_bytes t_length s_tokens s_starts s_size a_code a_codeSize a_at a_token a_fault a_place o_texts o_names o_operands o_size o_open o_refuses o_differs o_fees c_years c_rows c_size x_faultPlace ++ fr) r.1 (WB G p_female p_born p_toldDeath p_lastYear p_father p_mother p_fatherGrade p_motherGrade p_size g_holder g_arms g_from g_size r_marks r_arms r_root r_steps r_grade r_marksAboveOne q_rows q_sizes t_bytes t_length s_tokens s_starts s_size a_code a_codeSize a_at a_token a_fault a_place o_texts o_names o_operands o_size o_open o_refuses o_differs o_fees r.2.1 r.2.2.1 r.2.2.2 x_faultPlace ++ fr) := by
  refine Ci.of (by decide) (Nat.le_of_ble_eq_true rfl) (fun Y hX hQ => ?_)
  refine j_lv (lv' := [(0, .ref (gb G 30)), (1, .int x1), (2, .int x2)]) rfl ?_
  unfold f_X0_add at hf
  refine j_aload_n hX dX0_add_0 1 rfl 0 rfl rfl ?_
  refine j_get hX dX0_add_1 4 rfl fg_X0_18 30 rfl rfl ?_
  refine j_bipush (v := 40) hX dX0_add_4 6 rfl (by decide) ?_
  refine j_icmp_ge hX dX0_add_6 9 16 rfl rfl (fun h1 => ?_) (fun h1 => ?_)
  · replace hf := itt h1 hf
    refine j_sub [] rfl ?_
    exact t_X0_add_16 hX hQ    hf
  · replace hf := itf h1 hf
    refine j_iload_n hX dX0_add_9 10 rfl 1 rfl rfl ?_
    obtain ⟨v2, hv2, hf⟩ := ibd hf
    refine z_ni (As := [.int x1]) (rest := []) hX dX0_add_10 13 rfl (t_X10_isYear x1 hv2) mc_X10_isYear ms_X10_isYear mn_X0_22 (Nat.le_of_ble_eq_true rfl) (Nat.le_refl _) (Nat.le_refl _) rfl (Nat.le_of_ble_eq_true rfl) ?_
    refine j_if_ne hX dX0_add_13 16 18 rfl rfl (fun h3 => ?_) (fun h3 => ?_)
    · replace hf := itf h3 hf
      refine j_aload_n hX dX0_add_18 19 rfl 0 rfl rfl ?_
      refine j_get hX dX0_add_19 22 rfl fg_X0_18 30 rfl rfl ?_
      refine j_istore_n hX dX0_add_22 23 rfl rfl (by decide) (lv' := [(3, .int c_size), (0, .ref (gb G 30)), (1, .int x1), (2, .int x2)]) rfl ?_
      refine j_aload_n hX dX0_add_23 24 rfl 1 rfl rfl ?_
      refine j_get hX dX0_add_24 27 rfl fg_X0_11 30 rfl rfl ?_
      refine j_iload_n hX dX0_add_27 28 rfl 0 rfl rfl ?_
      refine j_iload_n hX dX0_add_28 29 rfl 2 rfl rfl ?_
      obtain ⟨hb4, hf⟩ := ign hf
      refine j_iast hX dX0_add_29 30 rfl 31 rfl hb4 (ws' := (WB G p_female p_born p_toldDeath p_lastYear p_father p_mother p_fatherGrade p_motherGrade p_size g_holder g_arms g_from g_size r_marks r_arms r_root r_steps r_grade r_marksAboveOne q_rows q_sizes t_bytes t_length s_tokens s_starts s_size a_code a_codeSize a_at a_token a_fault a_place o_texts o_names o_operands o_size o_open o_refuses o_differs o_fees (upd c_years (Int32.toNatClampNeg c_size) x1) c_rows c_size x_faultPlace ++ fr)) rfl ?_
      refine j_aload_n hX dX0_add_30 31 rfl 1 rfl rfl ?_
      refine j_get hX dX0_add_31 34 rfl fg_X0_15 30 rfl rfl ?_
      refine j_iload_n hX dX0_add_34 35 rfl 0 rfl rfl ?_
      refine j_iload_n hX dX0_add_35 36 rfl 3 rfl rfl ?_
      obtain ⟨hb5, hf⟩ := ign hf
      refine j_iast hX dX0_add_36 37 rfl 32 rfl hb5 (ws' := (WB G p_female p_born p_toldDeath p_lastYear p_father p_mother p_fatherGrade p_motherGrade p_size g_holder g_arms g_from g_size r_marks r_arms r_root r_steps r_grade r_marksAboveOne q_rows q_sizes t_bytes t_length s_tokens s_starts s_size a_code a_codeSize a_at a_token a_fault a_place o_texts o_names o_operands o_size o_open o_refuses o_differs o_fees (upd c_years (Int32.toNatClampNeg c_size) x1) (upd c_rows (Int32.toNatClampNeg c_size) x2) c_size x_faultPlace ++ fr)) rfl ?_
      refine j_aload_n hX dX0_add_37 38 rfl 1 rfl rfl ?_
      refine j_iload_n hX dX0_add_38 39 rfl 0 rfl rfl ?_
      refine j_iconst (v := 1) hX dX0_add_39 40 rfl (by decide) ?_
      refine j_iadd hX dX0_add_40 41 rfl ?_
      refine j_put hX dX0_add_41 44 rfl fg_X0_18 ft_X0_2 30 rfl rfl rfl (Nat.le_of_ble_eq_true rfl) (ws' := (WB G p_female p_born p_toldDeath p_lastYear p_father p_mother p_fatherGrade p_motherGrade p_size g_holder g_arms g_from g_size r_marks r_arms r_root r_steps r_grade r_marksAboveOne q_rows q_sizes t_bytes t_length s_tokens s_starts s_size a_code a_codeSize a_at a_token a_fault a_place o_texts o_names o_operands o_size o_open o_refuses o_differs o_fees (upd c_years (Int32.toNatClampNeg c_size) x1) (upd c_rows (Int32.toNatClampNeg c_size) x2) (c_size + 1) x_faultPlace ++ fr)) rfl ?_
      refine j_iload_n hX dX0_add_44 45 rfl 0 rfl rfl ?_
      replace hf := Option.some.inj hf
      subst hf
      exact j_iret hX hQ dX0_add_45
    · replace hf := itt h3 hf
      refine j_sub [] rfl ?_
      exact t_X0_add_16 hX hQ    hf
def g_X0_yearOf_18 (s0 : Int32) : Option (Int32) :=
  some s0
set_option maxRecDepth 100000 in
set_option maxHeartbeats 4000000 in
theorem t_X0_yearOf_18 {Y : YT} {r : Int32}  (hX : CX l G cX0_yearOf 2 RX0 Y) (hQ : EQi G Y 0 0 .int r (WB G p_female p_born p_toldDeath p_lastYear p_father p_mother p_fatherGrade p_motherGrade p_size g_holder g_arms g_from g_size r_marks r_arms r_root r_steps r_grade r_marksAboveOne q_rows q_sizes t_bytes t_length s_tokens s_starts s_size a_code a_codeSize a_at a_token a_fault a_place o_texts o_names o_operands o_size o_open o_refuses o_differs o_fees c_years c_rows c_size x_faultPlace ++ fr))  (s0 : Int32) (hf : g_X0_yearOf_18 s0 = some r) : J l G (rmD 2 0 0) Y 0 0 18 [] [.int s0] (WB G p_female p_born p_toldDeath p_lastYear p_father p_mother p_fatherGrade p_motherGrade p_size g_holder g_arms g_from g_size r_marks r_arms r_root r_steps r_grade r_marksAboveOne q_rows q_sizes t_bytes t_length s_tokens s_starts s_size a_code a_codeSize a_at a_token a_fault a_place o_texts o_names o_operands o_size o_open o_refuses o_differs o_fees c_years c_rows c_size x_faultPlace ++ fr) := by
  unfold g_X0_yearOf_18 at hf
  replace hf := Option.some.inj hf
  subst hf
  exact j_iret hX hQ dX0_yearOf_18
def f_X0_yearOf (c_years : Nat → Int32) (c_size : Int32) (x1 : Int32) : Option (Int32) :=
  (f_X0_has c_size x1).bind fun v1 => if v1 = 0 then g_X0_yearOf_18 ((-1)) else if inb x1 40 = true then g_X0_yearOf_18 (c_years (Int32.toNatClampNeg x1)) else none
set_option maxRecDepth 100000 in
set_option maxHeartbeats 4000000 in
theorem t_X0_yearOf  (x1 : Int32) {r : Int32} (hf : f_X0_yearOf c_years c_size x1 = some r) : Ci l G 2 0 0 yX0_yearOf cX0_yearOf 2 .int [.ref (gb G 30), .int x1] (WB G p_female p_born p_toldDeath p_lastYear p_father p_mother p_fatherGrade p_motherGrade p_size g_holder g_arms g_from g_size r_marks r_arms r_root r_steps r_grade r_marksAboveOne q_rows q_sizes t_bytes t_length s_tokens s_starts s_size a_code a_codeSize a_at a_token a_fault a_place o_texts o_names o_operands o_size o_open o_refuses o_differs o_fees c_years c_rows c_size x_faultPlace ++ fr) r (WB G p_female p_born p_toldDeath p_lastYear p_father p_mother p_fatherGrade p_motherGrade p_size g_holder g_arms g_from g_size r_marks r_arms r_root r_steps r_grade r_marksAboveOne q_rows q_sizes t_bytes t_length s_tokens s_starts s_size a_code a_codeSize a_at a_token a_fault a_place o_texts o_names o_operands o_size o_open o_refuses o_differs o_fees c_years c_rows c_size x_faultPlace ++ fr) := by
  refine Ci.of (by decide) (Nat.le_of_ble_eq_true rfl) (fun Y hX hQ => ?_)
  refine j_lv (lv' := [(0, .ref (gb G 30)), (1, .int x1)]) rfl ?_
  unfold f_X0_yearOf at hf
  refine j_aload_n hX dX0_yearOf_0 1 rfl 0 rfl rfl ?_
  refine j_iload_n hX dX0_yearOf_1 2 rfl 1 rfl rfl ?_
  obtain ⟨v1, hv1, hf⟩ := ibd hf
  refine z_i (As := [.int x1]) (rest := []) (q0 := 30) hX dX0_yearOf_2 5 rfl (t_X0_has x1 hv1) mc_X0_has mv_X0_has ml_X0_26 rfl rfl (Nat.le_of_ble_eq_true rfl) (Nat.le_refl _) (Nat.le_refl _) rfl (Nat.le_of_ble_eq_true rfl) ?_
  refine j_if_eq hX dX0_yearOf_5 8 17 rfl rfl (fun h2 => ?_) (fun h2 => ?_)
  · replace hf := itt h2 hf
    refine j_iconst (v := (-1)) hX dX0_yearOf_17 18 rfl (by decide) ?_
    refine j_sub [] rfl ?_
    exact t_X0_yearOf_18 hX hQ   ((-1)) hf
  · replace hf := itf h2 hf
    refine j_aload_n hX dX0_yearOf_8 9 rfl 0 rfl rfl ?_
    refine j_get hX dX0_yearOf_9 12 rfl fg_X0_11 30 rfl rfl ?_
    refine j_iload_n hX dX0_yearOf_12 13 rfl 1 rfl rfl ?_
    obtain ⟨hb3, hf⟩ := ign hf
    refine j_iald hX dX0_yearOf_13 14 rfl 31 rfl hb3 ?_
    refine j_goto hX dX0_yearOf_14 18 rfl ?_
    refine j_sub [] rfl ?_
    exact t_X0_yearOf_18 hX hQ   (c_years (Int32.toNatClampNeg x1)) hf
def g_X0_rowOf_18 (s0 : Int32) : Option (Int32) :=
  some s0
set_option maxRecDepth 100000 in
set_option maxHeartbeats 4000000 in
theorem t_X0_rowOf_18 {Y : YT} {r : Int32}  (hX : CX l G cX0_rowOf 2 RX0 Y) (hQ : EQi G Y 0 0 .int r (WB G p_female p_born p_toldDeath p_lastYear p_father p_mother p_fatherGrade p_motherGrade p_size g_holder g_arms g_from g_size r_marks r_arms r_root r_steps r_grade r_marksAboveOne q_rows q_sizes t_bytes t_length s_tokens s_starts s_size a_code a_codeSize a_at a_token a_fault a_place o_texts o_names o_operands o_size o_open o_refuses o_differs o_fees c_years c_rows c_size x_faultPlace ++ fr))  (s0 : Int32) (hf : g_X0_rowOf_18 s0 = some r) : J l G (rmD 2 0 0) Y 0 0 18 [] [.int s0] (WB G p_female p_born p_toldDeath p_lastYear p_father p_mother p_fatherGrade p_motherGrade p_size g_holder g_arms g_from g_size r_marks r_arms r_root r_steps r_grade r_marksAboveOne q_rows q_sizes t_bytes t_length s_tokens s_starts s_size a_code a_codeSize a_at a_token a_fault a_place o_texts o_names o_operands o_size o_open o_refuses o_differs o_fees c_years c_rows c_size x_faultPlace ++ fr) := by
  unfold g_X0_rowOf_18 at hf
  replace hf := Option.some.inj hf
  subst hf
  exact j_iret hX hQ dX0_rowOf_18
def f_X0_rowOf (c_rows : Nat → Int32) (c_size : Int32) (x1 : Int32) : Option (Int32) :=
  (f_X0_has c_size x1).bind fun v1 => if v1 = 0 then g_X0_rowOf_18 0 else if inb x1 40 = true then g_X0_rowOf_18 (c_rows (Int32.toNatClampNeg x1)) else none
set_option maxRecDepth 100000 in
set_option maxHeartbeats 4000000 in
theorem t_X0_rowOf  (x1 : Int32) {r : Int32} (hf : f_X0_rowOf c_rows c_size x1 = some r) : Ci l G 2 0 0 yX0_rowOf cX0_rowOf 2 .int [.ref (gb G 30), .int x1] (WB G p_female p_born p_toldDeath p_lastYear p_father p_mother p_fatherGrade p_motherGrade p_size g_holder g_arms g_from g_size r_marks r_arms r_root r_steps r_grade r_marksAboveOne q_rows q_sizes t_bytes t_length s_tokens s_starts s_size a_code a_codeSize a_at a_token a_fault a_place o_texts o_names o_operands o_size o_open o_refuses o_differs o_fees c_years c_rows c_size x_faultPlace ++ fr) r (WB G p_female p_born p_toldDeath p_lastYear p_father p_mother p_fatherGrade p_motherGrade p_size g_holder g_arms g_from g_size r_marks r_arms r_root r_steps r_grade r_marksAboveOne q_rows q_sizes t_bytes t_length s_tokens s_starts s_size a_code a_codeSize a_at a_token a_fault a_place o_texts o_names o_operands o_size o_open o_refuses o_differs o_fees c_years c_rows c_size x_faultPlace ++ fr) := by
  refine Ci.of (by decide) (Nat.le_of_ble_eq_true rfl) (fun Y hX hQ => ?_)
  refine j_lv (lv' := [(0, .ref (gb G 30)), (1, .int x1)]) rfl ?_
  unfold f_X0_rowOf at hf
  refine j_aload_n hX dX0_rowOf_0 1 rfl 0 rfl rfl ?_
  refine j_iload_n hX dX0_rowOf_1 2 rfl 1 rfl rfl ?_
  obtain ⟨v1, hv1, hf⟩ := ibd hf
  refine z_i (As := [.int x1]) (rest := []) (q0 := 30) hX dX0_rowOf_2 5 rfl (t_X0_has x1 hv1) mc_X0_has mv_X0_has ml_X0_26 rfl rfl (Nat.le_of_ble_eq_true rfl) (Nat.le_refl _) (Nat.le_refl _) rfl (Nat.le_of_ble_eq_true rfl) ?_
  refine j_if_eq hX dX0_rowOf_5 8 17 rfl rfl (fun h2 => ?_) (fun h2 => ?_)
  · replace hf := itt h2 hf
    refine j_iconst (v := 0) hX dX0_rowOf_17 18 rfl (by decide) ?_
    refine j_sub [] rfl ?_
    exact t_X0_rowOf_18 hX hQ   0 hf
  · replace hf := itf h2 hf
    refine j_aload_n hX dX0_rowOf_8 9 rfl 0 rfl rfl ?_
    refine j_get hX dX0_rowOf_9 12 rfl fg_X0_15 30 rfl rfl ?_
    refine j_iload_n hX dX0_rowOf_12 13 rfl 1 rfl rfl ?_
    obtain ⟨hb3, hf⟩ := ign hf
    refine j_iald hX dX0_rowOf_13 14 rfl 32 rfl hb3 ?_
    refine j_goto hX dX0_rowOf_14 18 rfl ?_
    refine j_sub [] rfl ?_
    exact t_X0_rowOf_18 hX hQ   (c_rows (Int32.toNatClampNeg x1)) hf
def g_X0_changes_40 (k18 : Int32 → Int32 → Int32 → Option (Int32)) (x3 : Int32) (x4 : Int32) (x5 : Int32) : Option (Int32) :=
  k18 x3 x4 (x5 + 1)
set_option maxRecDepth 100000 in
set_option maxHeartbeats 4000000 in
theorem t_X0_changes_40 {Y : YT} {r : Int32} {k18 : Int32 → Int32 → Int32 → Option (Int32)} (hX : CX l G cX0_changes 6 RX0 Y) (hQ : EQi G Y 0 0 .int r (WB G p_female p_born p_toldDeath p_lastYear p_father p_mother p_fatherGrade p_motherGrade p_size g_holder g_arms g_from g_size r_marks r_arms r_root r_steps r_grade r_marksAboveOne q_rows q_sizes t_bytes t_length s_tokens s_starts s_size a_code a_codeSize a_at a_token a_fault a_place o_texts o_names o_operands o_size o_open o_refuses o_differs o_fees c_years c_rows c_size x_faultPlace ++ fr)) (hk18 : ∀ (x3 : Int32) (x4 : Int32) (x5 : Int32), k18 x3 x4 x5  = some r → J l G (rmD 3 0 0) Y 0 0 18 [(3, .int x3), (4, .int x4), (5, .int x5)] [] (WB G p_female p_born p_toldDeath p_lastYear p_father p_mother p_fatherGrade p_motherGrade p_size g_holder g_arms g_from g_size r_marks r_arms r_root r_steps r_grade r_marksAboveOne q_rows q_sizes t_bytes t_length s_tokens s_starts s_size a_code a_codeSize a_at a_token a_fault a_place o_texts o_names o_operands o_size o_open o_refuses o_differs o_fees c_years c_rows c_size x_faultPlace ++ fr)) (x3 : Int32) (x4 : Int32) (x5 : Int32) (hf : g_X0_changes_40 k18 x3 x4 x5 = some r) : J l G (rmD 3 0 0) Y 0 0 40 [(3, .int x3), (4, .int x4), (5, .int x5)] [] (WB G p_female p_born p_toldDeath p_lastYear p_father p_mother p_fatherGrade p_motherGrade p_size g_holder g_arms g_from g_size r_marks r_arms r_root r_steps r_grade r_marksAboveOne q_rows q_sizes t_bytes t_length s_tokens s_starts s_size a_code a_codeSize a_at a_token a_fault a_place o_texts o_names o_operands o_size o_open o_refuses o_differs o_fees c_years c_rows c_size x_faultPlace ++ fr) := by
  unfold g_X0_changes_40 at hf
  refine j_iinc (v := x5 + 1) hX dX0_changes_40 43 rfl 2 rfl rfl (by decide) (lv' := [(5, .int (x5 + 1)), (3, .int x3), (4, .int x4)]) rfl ?_
  refine j_goto hX dX0_changes_43 18 rfl ?_
  refine j_sub [1, 2, 0] rfl ?_
  exact hk18 x3 x4 (x5 + 1) hf
def g_X0_changes_18 (k18 : Int32 → Int32 → Int32 → Option (Int32)) (x3 : Int32) (x4 : Int32) (x5 : Int32) : Option (Int32) :=
  if 8 ≤ x5 then some x4 else if ((ushr32 x3 (x5 * 4)) &&& 15) = 0 then g_X0_changes_40 k18 x3 x4 x5 else g_X0_changes_40 k18 x3 (x4 + 1) x5
set_option maxRecDepth 100000 in
set_option maxHeartbeats 4000000 in
theorem t_X0_changes_18 {Y : YT} {r : Int32} {k18 : Int32 → Int32 → Int32 → Option (Int32)} (hX : CX l G cX0_changes 6 RX0 Y) (hQ : EQi G Y 0 0 .int r (WB G p_female p_born p_toldDeath p_lastYear p_father p_mother p_fatherGrade p_motherGrade p_size g_holder g_arms g_from g_size r_marks r_arms r_root r_steps r_grade r_marksAboveOne q_rows q_sizes t_bytes t_length s_tokens s_starts s_size a_code a_codeSize a_at a_token a_fault a_place o_texts o_names o_operands o_size o_open o_refuses o_differs o_fees c_years c_rows c_size x_faultPlace ++ fr)) (hk18 : ∀ (x3 : Int32) (x4 : Int32) (x5 : Int32), k18 x3 x4 x5  = some r → J l G (rmD 3 0 0) Y 0 0 18 [(3, .int x3), (4, .int x4), (5, .int x5)] [] (WB G p_female p_born p_toldDeath p_lastYear p_father p_mother p_fatherGrade p_motherGrade p_size g_holder g_arms g_from g_size r_marks r_arms r_root r_steps r_grade r_marksAboveOne q_rows q_sizes t_bytes t_length s_tokens s_starts s_size a_code a_codeSize a_at a_token a_fault a_place o_texts o_names o_operands o_size o_open o_refuses o_differs o_fees c_years c_rows c_size x_faultPlace ++ fr)) (x3 : Int32) (x4 : Int32) (x5 : Int32) (hf : g_X0_changes_18 k18 x3 x4 x5 = some r) : J l G (rmD 3 0 0) Y 0 0 18 [(3, .int x3), (4, .int x4), (5, .int x5)] [] (WB G p_female p_born p_toldDeath p_lastYear p_father p_mother p_fatherGrade p_motherGrade p_size g_holder g_arms g_from g_size r_marks r_arms r_root r_steps r_grade r_marksAboveOne q_rows q_sizes t_bytes t_length s_tokens s_starts s_size a_code a_codeSize a_at a_token a_fault a_place o_texts o_names o_operands o_size o_open o_refuses o_differs o_fees c_years c_rows c_size x_faultPlace ++ fr) := by
  unfold g_X0_changes_18 at hf
  refine j_iload hX dX0_changes_18 20 rfl 2 rfl ?_
  refine j_bipush (v := 8) hX dX0_changes_20 22 rfl (by decide) ?_
  refine j_icmp_ge hX dX0_changes_22 25 46 rfl rfl (fun h3 => ?_) (fun h3 => ?_)
  · replace hf := itt h3 hf
    refine j_iload hX dX0_changes_46 48 rfl 1 rfl ?_
    replace hf := Option.some.inj hf
    subst hf
    exact j_iret hX hQ dX0_changes_48
  · replace hf := itf h3 hf
    refine j_iload_n hX dX0_changes_25 26 rfl 0 rfl rfl ?_
    refine j_iload hX dX0_changes_26 28 rfl 2 rfl ?_
    refine j_iconst (v := 4) hX dX0_changes_28 29 rfl (by decide) ?_
    refine j_imul hX dX0_changes_29 30 rfl ?_
    refine j_iushr hX dX0_changes_30 31 rfl ?_
    refine j_bipush (v := 15) hX dX0_changes_31 33 rfl (by decide) ?_
    refine j_iand hX dX0_changes_33 34 rfl ?_
    refine j_if_eq hX dX0_changes_34 37 40 rfl rfl (fun h4 => ?_) (fun h4 => ?_)
    · replace hf := itt h4 hf
      exact t_X0_changes_40 hX hQ  hk18 x3 x4 x5 hf
    · replace hf := itf h4 hf
      refine j_iinc (v := x4 + 1) hX dX0_changes_37 40 rfl 1 rfl rfl (by decide) (lv' := [(4, .int (x4 + 1)), (3, .int x3), (5, .int x5)]) rfl ?_
      refine j_sub [1, 0, 2] rfl ?_
      exact t_X0_changes_40 hX hQ  hk18 x3 (x4 + 1) x5 hf
def f_X0_changes_18  : Nat → (Int32 × Int32 × Int32) → Option (Int32) :=
  lp (fun k v => g_X0_changes_18 (fun x3 x4 x5 => k (x3, x4, x5)) v.1 v.2.1 v.2.2)
set_option maxRecDepth 100000 in
set_option maxHeartbeats 4000000 in
theorem u_X0_changes_18 {Y : YT} {r : Int32}  (hX : CX l G cX0_changes 6 RX0 Y) (hQ : EQi G Y 0 0 .int r (WB G p_female p_born p_toldDeath p_lastYear p_father p_mother p_fatherGrade p_motherGrade p_size g_holder g_arms g_from g_size r_marks r_arms r_root r_steps r_grade r_marksAboveOne q_rows q_sizes t_bytes t_length s_tokens s_starts s_size a_code a_codeSize a_at a_token a_fault a_place o_texts o_names o_operands o_size o_open o_refuses o_differs o_fees c_years c_rows c_size x_faultPlace ++ fr))  (n : Nat) (v : Int32 × Int32 × Int32) (hf : f_X0_changes_18  n v = some r) : J l G (rmD 3 0 0) Y 0 0 18 [(3, .int v.1), (4, .int v.2.1), (5, .int v.2.2)] [] (WB G p_female p_born p_toldDeath p_lastYear p_father p_mother p_fatherGrade p_motherGrade p_size g_holder g_arms g_from g_size r_marks r_arms r_root r_steps r_grade r_marksAboveOne q_rows q_sizes t_bytes t_length s_tokens s_starts s_size a_code a_codeSize a_at a_token a_fault a_place o_texts o_names o_operands o_size o_open o_refuses o_differs o_fees c_years c_rows c_size x_faultPlace ++ fr) :=
  lp_ind (P := fun v : Int32 × Int32 × Int32 => J l G (rmD 3 0 0) Y 0 0 18 [(3, .int v.1), (4, .int v.2.1), (5, .int v.2.2)] [] (WB G p_female p_born p_toldDeath p_lastYear p_father p_mother p_fatherGrade p_motherGrade p_size g_holder g_arms g_from g_size r_marks r_arms r_root r_steps r_grade r_marksAboveOne q_rows q_sizes t_bytes t_length s_tokens s_starts s_size a_code a_codeSize a_at a_token a_fault a_place o_texts o_names o_operands o_size o_open o_refuses o_differs o_fees c_years c_rows c_size x_faultPlace ++ fr)) (fun k hk v hf => t_X0_changes_18 hX hQ   (fun x3 x4 x5 h => hk (x3, x4, x5) h) v.1 v.2.1 v.2.2 hf) n v hf
def f_X0_changes (fu : Nat) (c_rows : Nat → Int32) (c_size : Int32) (x1 : Int32) (x2 : Int32) : Option (Int32) :=
  (f_X0_rowOf c_rows c_size x1).bind fun v1 => (f_X0_rowOf c_rows c_size x2).bind fun v2 => f_X0_changes_18  fu (v1 ^^^ v2, 0, 0)
set_option maxRecDepth 100000 in
set_option maxHeartbeats 4000000 in
theorem t_X0_changes {fu : Nat}  (x1 : Int32) (x2 : Int32) {r : Int32} (hf : f_X0_changes fu c_rows c_size x1 x2 = some r) : Ci l G 3 0 0 yX0_changes cX0_changes 6 .int [.ref (gb G 30), .int x1, .int x2] (WB G p_female p_born p_toldDeath p_lastYear p_father p_mother p_fatherGrade p_motherGrade p_size g_holder g_arms g_from g_size r_marks r_arms r_root r_steps r_grade r_marksAboveOne q_rows q_sizes t_bytes t_length s_tokens s_starts s_size a_code a_codeSize a_at a_token a_fault a_place o_texts o_names o_operands o_size o_open o_refuses o_differs o_fees c_years c_rows c_size x_faultPlace ++ fr) r (WB G p_female p_born p_toldDeath p_lastYear p_father p_mother p_fatherGrade p_motherGrade p_size g_holder g_arms g_from g_size r_marks r_arms r_root r_steps r_grade r_marksAboveOne q_rows q_sizes t_bytes t_length s_tokens s_starts s_size a_code a_codeSize a_at a_token a_fault a_place o_texts o_names o_operands o_size o_open o_refuses o_differs o_fees c_years c_rows c_size x_faultPlace ++ fr) := by
  refine Ci.of (by decide) (Nat.le_of_ble_eq_true rfl) (fun Y hX hQ => ?_)
  refine j_lv (lv' := [(0, .ref (gb G 30)), (1, .int x1), (2, .int x2)]) rfl ?_
  unfold f_X0_changes at hf
  refine j_aload_n hX dX0_changes_0 1 rfl 0 rfl rfl ?_
  refine j_iload_n hX dX0_changes_1 2 rfl 1 rfl rfl ?_
  obtain ⟨v1, hv1, hf⟩ := ibd hf
  refine z_i (As := [.int x1]) (rest := []) (q0 := 30) hX dX0_changes_2 5 rfl (t_X0_rowOf x1 hv1) mc_X0_rowOf mv_X0_rowOf ml_X0_29 rfl rfl (Nat.le_of_ble_eq_true rfl) (Nat.le_refl _) (Nat.le_refl _) rfl (Nat.le_of_ble_eq_true rfl) ?_
  refine j_aload_n hX dX0_changes_5 6 rfl 0 rfl rfl ?_
  refine j_iload_n hX dX0_changes_6 7 rfl 2 rfl rfl ?_
  obtain ⟨v2, hv2, hf⟩ := ibd hf
  refine z_i (As := [.int x2]) (rest := [.int v1]) (q0 := 30) hX dX0_changes_7 10 rfl (t_X0_rowOf x2 hv2) mc_X0_rowOf mv_X0_rowOf ml_X0_29 rfl rfl (Nat.le_of_ble_eq_true rfl) (Nat.le_refl _) (Nat.le_refl _) rfl (Nat.le_of_ble_eq_true rfl) ?_
  refine j_ixor hX dX0_changes_10 11 rfl ?_
  refine j_istore_n hX dX0_changes_11 12 rfl rfl (by decide) (lv' := [(3, .int (v1 ^^^ v2)), (0, .ref (gb G 30)), (1, .int x1), (2, .int x2)]) rfl ?_
  refine j_iconst (v := 0) hX dX0_changes_12 13 rfl (by decide) ?_
  refine j_istore hX dX0_changes_13 15 rfl (by decide) (lv' := [(4, .int 0), (3, .int (v1 ^^^ v2)), (0, .ref (gb G 30)), (1, .int x1), (2, .int x2)]) rfl ?_
  refine j_iconst (v := 0) hX dX0_changes_15 16 rfl (by decide) ?_
  refine j_istore hX dX0_changes_16 18 rfl (by decide) (lv' := [(5, .int 0), (4, .int 0), (3, .int (v1 ^^^ v2)), (0, .ref (gb G 30)), (1, .int x1), (2, .int x2)]) rfl ?_
  refine j_sub [2, 1, 0] rfl ?_
  exact u_X0_changes_18 hX hQ   fu (v1 ^^^ v2, 0, 0) hf
def g_X0_sourceOf_83 (k7 : Int32 → Int32 → Int32 → Int32 → Option (Int32)) (x1 : Int32) (x2 : Int32) (x3 : Int32) (x4 : Int32) : Option (Int32) :=
  k7 x1 x2 x3 (x4 + 1)
set_option maxRecDepth 100000 in
set_option maxHeartbeats 4000000 in
theorem t_X0_sourceOf_83 {Y : YT} {r : Int32} {k7 : Int32 → Int32 → Int32 → Int32 → Option (Int32)} (hX : CX l G cX0_sourceOf 7 RX0 Y) (hQ : EQi G Y 0 0 .int r (WB G p_female p_born p_toldDeath p_lastYear p_father p_mother p_fatherGrade p_motherGrade p_size g_holder g_arms g_from g_size r_marks r_arms r_root r_steps r_grade r_marksAboveOne q_rows q_sizes t_bytes t_length s_tokens s_starts s_size a_code a_codeSize a_at a_token a_fault a_place o_texts o_names o_operands o_size o_open o_refuses o_differs o_fees c_years c_rows c_size x_faultPlace ++ fr)) (hk7 : ∀ (x1 : Int32) (x2 : Int32) (x3 : Int32) (x4 : Int32), k7 x1 x2 x3 x4  = some r → J l G (rmD 4 0 0) Y 0 0 7 [(0, .ref (gb G 30)), (1, .int x1), (2, .int x2), (3, .int x3), (4, .int x4)] [] (WB G p_female p_born p_toldDeath p_lastYear p_father p_mother p_fatherGrade p_motherGrade p_size g_holder g_arms g_from g_size r_marks r_arms r_root r_steps r_grade r_marksAboveOne q_rows q_sizes t_bytes t_length s_tokens s_starts s_size a_code a_codeSize a_at a_token a_fault a_place o_texts o_names o_operands o_size o_open o_refuses o_differs o_fees c_years c_rows c_size x_faultPlace ++ fr)) (x1 : Int32) (x2 : Int32) (x3 : Int32) (x4 : Int32) (hf : g_X0_sourceOf_83 k7 x1 x2 x3 x4 = some r) : J l G (rmD 4 0 0) Y 0 0 83 [(0, .ref (gb G 30)), (1, .int x1), (2, .int x2), (3, .int x3), (4, .int x4)] [] (WB G p_female p_born p_toldDeath p_lastYear p_father p_mother p_fatherGrade p_motherGrade p_size g_holder g_arms g_from g_size r_marks r_arms r_root r_steps r_grade r_marksAboveOne q_rows q_sizes t_bytes t_length s_tokens s_starts s_size a_code a_codeSize a_at a_token a_fault a_place o_texts o_names o_operands o_size o_open o_refuses o_differs o_fees c_years c_rows c_size x_faultPlace ++ fr) := by
  unfold g_X0_sourceOf_83 at hf
  refine j_iinc (v := x4 + 1) hX dX0_sourceOf_83 86 rfl 4 rfl rfl (by decide) (lv' := [(4, .int (x4 + 1)), (0, .ref (gb G 30)), (1, .int x1), (2, .int x2), (3, .int x3)]) rfl ?_
  refine j_goto hX dX0_sourceOf_86 7 rfl ?_
  refine j_sub [1, 2, 3, 4, 0] rfl ?_
  exact hk7 x1 x2 x3 (x4 + 1) hf
def g_X0_sourceOf_56 (c_years : Nat → Int32) (c_size : Int32) (k7 : Int32 → Int32 → Int32 → Int32 → Option (Int32)) (x1 : Int32) (x2 : Int32) (x3 : Int32) (x4 : Int32) (x5 : Int32) (s0 : Int32) : Option (Int32) :=
  (f_X0_yearOf c_years c_size x4).bind fun v4 => (f_X0_yearOf c_years c_size x1).bind fun v5 => if v5 ≤ v4 then g_X0_sourceOf_83 k7 x1 x2 x3 x4 else if s0 = 0 then g_X0_sourceOf_83 k7 x1 x2 x3 x4 else g_X0_sourceOf_83 k7 x1 x4 x5 x4
set_option maxRecDepth 100000 in
set_option maxHeartbeats 4000000 in
theorem t_X0_sourceOf_56 {Y : YT} {r : Int32} {k7 : Int32 → Int32 → Int32 → Int32 → Option (Int32)} (hX : CX l G cX0_sourceOf 7 RX0 Y) (hQ : EQi G Y 0 0 .int r (WB G p_female p_born p_toldDeath p_lastYear p_father p_mother p_fatherGrade p_motherGrade p_size g_holder g_arms g_from g_size r_marks r_arms r_root r_steps r_grade r_marksAboveOne q_rows q_sizes t_bytes t_length s_tokens s_starts s_size a_code a_codeSize a_at a_token a_fault a_place o_texts o_names o_operands o_size o_open o_refuses o_differs o_fees c_years c_rows c_size x_faultPlace ++ fr)) (hk7 : ∀ (x1 : Int32) (x2 : Int32) (x3 : Int32) (x4 : Int32), k7 x1 x2 x3 x4  = some r → J l G (rmD 4 0 0) Y 0 0 7 [(0, .ref (gb G 30)), (1, .int x1), (2, .int x2), (3, .int x3), (4, .int x4)] [] (WB G p_female p_born p_toldDeath p_lastYear p_father p_mother p_fatherGrade p_motherGrade p_size g_holder g_arms g_from g_size r_marks r_arms r_root r_steps r_grade r_marksAboveOne q_rows q_sizes t_bytes t_length s_tokens s_starts s_size a_code a_codeSize a_at a_token a_fault a_place o_texts o_names o_operands o_size o_open o_refuses o_differs o_fees c_years c_rows c_size x_faultPlace ++ fr)) (x1 : Int32) (x2 : Int32) (x3 : Int32) (x4 : Int32) (x5 : Int32) (s0 : Int32) (hf : g_X0_sourceOf_56 c_years c_size k7 x1 x2 x3 x4 x5 s0 = some r) : J l G (rmD 4 0 0) Y 0 0 56 [(0, .ref (gb G 30)), (1, .int x1), (2, .int x2), (3, .int x3), (4, .int x4), (5, .int x5)] [.int s0] (WB G p_female p_born p_toldDeath p_lastYear p_father p_mother p_fatherGrade p_motherGrade p_size g_holder g_arms g_from g_size r_marks r_arms r_root r_steps r_grade r_marksAboveOne q_rows q_sizes t_bytes t_length s_tokens s_starts s_size a_code a_codeSize a_at a_token a_fault a_place o_texts o_names o_operands o_size o_open o_refuses o_differs o_fees c_years c_rows c_size x_faultPlace ++ fr) := by
  unfold g_X0_sourceOf_56 at hf
  refine j_istore hX dX0_sourceOf_56 58 rfl (by decide) (lv' := [(6, .int s0), (0, .ref (gb G 30)), (1, .int x1), (2, .int x2), (3, .int x3), (4, .int x4), (5, .int x5)]) rfl ?_
  refine j_aload_n hX dX0_sourceOf_58 59 rfl 1 rfl rfl ?_
  refine j_iload hX dX0_sourceOf_59 61 rfl 5 rfl ?_
  obtain ⟨v4, hv4, hf⟩ := ibd hf
  refine z_i (As := [.int x4]) (rest := []) (q0 := 30) hX dX0_sourceOf_61 64 rfl (t_X0_yearOf x4 hv4) mc_X0_yearOf mv_X0_yearOf ml_X0_37 rfl rfl (Nat.le_of_ble_eq_true rfl) (Nat.le_refl _) (Nat.le_refl _) rfl (Nat.le_of_ble_eq_true rfl) ?_
  refine j_aload_n hX dX0_sourceOf_64 65 rfl 1 rfl rfl ?_
  refine j_iload_n hX dX0_sourceOf_65 66 rfl 2 rfl rfl ?_
  obtain ⟨v5, hv5, hf⟩ := ibd hf
  refine z_i (As := [.int x1]) (rest := [.int v4]) (q0 := 30) hX dX0_sourceOf_66 69 rfl (t_X0_yearOf x1 hv5) mc_X0_yearOf mv_X0_yearOf ml_X0_37 rfl rfl (Nat.le_of_ble_eq_true rfl) (Nat.le_refl _) (Nat.le_refl _) rfl (Nat.le_of_ble_eq_true rfl) ?_
  refine j_icmp_ge hX dX0_sourceOf_69 72 83 rfl rfl (fun h6 => ?_) (fun h6 => ?_)
  · replace hf := itt h6 hf
    refine j_sub [1, 2, 3, 4, 5] rfl ?_
    exact t_X0_sourceOf_83 hX hQ  hk7 x1 x2 x3 x4 hf
  · replace hf := itf h6 hf
    refine j_iload hX dX0_sourceOf_72 74 rfl 0 rfl ?_
    refine j_if_eq hX dX0_sourceOf_74 77 83 rfl rfl (fun h7 => ?_) (fun h7 => ?_)
    · replace hf := itt h7 hf
      refine j_sub [1, 2, 3, 4, 5] rfl ?_
      exact t_X0_sourceOf_83 hX hQ  hk7 x1 x2 x3 x4 hf
    · replace hf := itf h7 hf
      refine j_iload hX dX0_sourceOf_77 79 rfl 5 rfl ?_
      refine j_istore_n hX dX0_sourceOf_79 80 rfl rfl (by decide) (lv' := [(2, .int x4), (6, .int s0), (0, .ref (gb G 30)), (1, .int x1), (3, .int x3), (4, .int x4), (5, .int x5)]) rfl ?_
      refine j_iload hX dX0_sourceOf_80 82 rfl 6 rfl ?_
      refine j_istore_n hX dX0_sourceOf_82 83 rfl rfl (by decide) (lv' := [(3, .int x5), (2, .int x4), (6, .int s0), (0, .ref (gb G 30)), (1, .int x1), (4, .int x4), (5, .int x5)]) rfl ?_
      refine j_sub [3, 4, 1, 0, 5] rfl ?_
      exact t_X0_sourceOf_83 hX hQ  hk7 x1 x4 x5 x4 hf
def g_X0_sourceOf_51 (c_years : Nat → Int32) (c_size : Int32) (k7 : Int32 → Int32 → Int32 → Int32 → Option (Int32)) (x1 : Int32) (x2 : Int32) (x3 : Int32) (x4 : Int32) (x5 : Int32) : Option (Int32) :=
  g_X0_sourceOf_56 c_years c_size k7 x1 x2 x3 x4 x5 1
set_option maxRecDepth 100000 in
set_option maxHeartbeats 4000000 in
theorem t_X0_sourceOf_51 {Y : YT} {r : Int32} {k7 : Int32 → Int32 → Int32 → Int32 → Option (Int32)} (hX : CX l G cX0_sourceOf 7 RX0 Y) (hQ : EQi G Y 0 0 .int r (WB G p_female p_born p_toldDeath p_lastYear p_father p_mother p_fatherGrade p_motherGrade p_size g_holder g_arms g_from g_size r_marks r_arms r_root r_steps r_grade r_marksAboveOne q_rows q_sizes t_bytes t_length s_tokens s_starts s_size a_code a_codeSize a_at a_token a_fault a_place o_texts o_names o_operands o_size o_open o_refuses o_differs o_fees c_years c_rows c_size x_faultPlace ++ fr)) (hk7 : ∀ (x1 : Int32) (x2 : Int32) (x3 : Int32) (x4 : Int32), k7 x1 x2 x3 x4  = some r → J l G (rmD 4 0 0) Y 0 0 7 [(0, .ref (gb G 30)), (1, .int x1), (2, .int x2), (3, .int x3), (4, .int x4)] [] (WB G p_female p_born p_toldDeath p_lastYear p_father p_mother p_fatherGrade p_motherGrade p_size g_holder g_arms g_from g_size r_marks r_arms r_root r_steps r_grade r_marksAboveOne q_rows q_sizes t_bytes t_length s_tokens s_starts s_size a_code a_codeSize a_at a_token a_fault a_place o_texts o_names o_operands o_size o_open o_refuses o_differs o_fees c_years c_rows c_size x_faultPlace ++ fr)) (x1 : Int32) (x2 : Int32) (x3 : Int32) (x4 : Int32) (x5 : Int32) (hf : g_X0_sourceOf_51 c_years c_size k7 x1 x2 x3 x4 x5 = some r) : J l G (rmD 4 0 0) Y 0 0 51 [(0, .ref (gb G 30)), (1, .int x1), (2, .int x2), (3, .int x3), (4, .int x4), (5, .int x5)] [] (WB G p_female p_born p_toldDeath p_lastYear p_father p_mother p_fatherGrade p_motherGrade p_size g_holder g_arms g_from g_size r_marks r_arms r_root r_steps r_grade r_marksAboveOne q_rows q_sizes t_bytes t_length s_tokens s_starts s_size a_code a_codeSize a_at a_token a_fault a_place o_texts o_names o_operands o_size o_open o_refuses o_differs o_fees c_years c_rows c_size x_faultPlace ++ fr) := by
  unfold g_X0_sourceOf_51 at hf
  refine j_iconst (v := 1) hX dX0_sourceOf_51 52 rfl (by decide) ?_
  refine j_goto hX dX0_sourceOf_52 56 rfl ?_
  exact t_X0_sourceOf_56 hX hQ  hk7 x1 x2 x3 x4 x5 1 hf
def g_X0_sourceOf_55 (c_years : Nat → Int32) (c_size : Int32) (k7 : Int32 → Int32 → Int32 → Int32 → Option (Int32)) (x1 : Int32) (x2 : Int32) (x3 : Int32) (x4 : Int32) (x5 : Int32) : Option (Int32) :=
  g_X0_sourceOf_56 c_years c_size k7 x1 x2 x3 x4 x5 0
set_option maxRecDepth 100000 in
set_option maxHeartbeats 4000000 in
theorem t_X0_sourceOf_55 {Y : YT} {r : Int32} {k7 : Int32 → Int32 → Int32 → Int32 → Option (Int32)} (hX : CX l G cX0_sourceOf 7 RX0 Y) (hQ : EQi G Y 0 0 .int r (WB G p_female p_born p_toldDeath p_lastYear p_father p_mother p_fatherGrade p_motherGrade p_size g_holder g_arms g_from g_size r_marks r_arms r_root r_steps r_grade r_marksAboveOne q_rows q_sizes t_bytes t_length s_tokens s_starts s_size a_code a_codeSize a_at a_token a_fault a_place o_texts o_names o_operands o_size o_open o_refuses o_differs o_fees c_years c_rows c_size x_faultPlace ++ fr)) (hk7 : ∀ (x1 : Int32) (x2 : Int32) (x3 : Int32) (x4 : Int32), k7 x1 x2 x3 x4  = some r → J l G (rmD 4 0 0) Y 0 0 7 [(0, .ref (gb G 30)), (1, .int x1), (2, .int x2), (3, .int x3), (4, .int x4)] [] (WB G p_female p_born p_toldDeath p_lastYear p_father p_mother p_fatherGrade p_motherGrade p_size g_holder g_arms g_from g_size r_marks r_arms r_root r_steps r_grade r_marksAboveOne q_rows q_sizes t_bytes t_length s_tokens s_starts s_size a_code a_codeSize a_at a_token a_fault a_place o_texts o_names o_operands o_size o_open o_refuses o_differs o_fees c_years c_rows c_size x_faultPlace ++ fr)) (x1 : Int32) (x2 : Int32) (x3 : Int32) (x4 : Int32) (x5 : Int32) (hf : g_X0_sourceOf_55 c_years c_size k7 x1 x2 x3 x4 x5 = some r) : J l G (rmD 4 0 0) Y 0 0 55 [(0, .ref (gb G 30)), (1, .int x1), (2, .int x2), (3, .int x3), (4, .int x4), (5, .int x5)] [] (WB G p_female p_born p_toldDeath p_lastYear p_father p_mother p_fatherGrade p_motherGrade p_size g_holder g_arms g_from g_size r_marks r_arms r_root r_steps r_grade r_marksAboveOne q_rows q_sizes t_bytes t_length s_tokens s_starts s_size a_code a_codeSize a_at a_token a_fault a_place o_texts o_names o_operands o_size o_open o_refuses o_differs o_fees c_years c_rows c_size x_faultPlace ++ fr) := by
  unfold g_X0_sourceOf_55 at hf
  refine j_iconst (v := 0) hX dX0_sourceOf_55 56 rfl (by decide) ?_
  exact t_X0_sourceOf_56 hX hQ  hk7 x1 x2 x3 x4 x5 0 hf
def g_X0_sourceOf_7 (fu : Nat) (c_years : Nat → Int32) (c_rows : Nat → Int32) (c_size : Int32) (k7 : Int32 → Int32 → Int32 → Int32 → Option (Int32)) (x1 : Int32) (x2 : Int32) (x3 : Int32) (x4 : Int32) : Option (Int32) :=
  if c_size ≤ x4 then some x2 else (f_X0_changes fu c_rows c_size x1 x4).bind fun v2 => if v2 < x3 then g_X0_sourceOf_51 c_years c_size k7 x1 x2 x3 x4 v2 else if v2 = x3 then (f_X0_yearOf c_years c_size x4).bind fun v9 => (f_X0_yearOf c_years c_size x2).bind fun v10 => if v9 ≤ v10 then g_X0_sourceOf_55 c_years c_size k7 x1 x2 x3 x4 v2 else g_X0_sourceOf_51 c_years c_size k7 x1 x2 x3 x4 v2 else g_X0_sourceOf_55 c_years c_size k7 x1 x2 x3 x4 v2
set_option maxRecDepth 100000 in
set_option maxHeartbeats 4000000 in
theorem t_X0_sourceOf_7 {fu : Nat} {Y : YT} {r : Int32} {k7 : Int32 → Int32 → Int32 → Int32 → Option (Int32)} (hX : CX l G cX0_sourceOf 7 RX0 Y) (hQ : EQi G Y 0 0 .int r (WB G p_female p_born p_toldDeath p_lastYear p_father p_mother p_fatherGrade p_motherGrade p_size g_holder g_arms g_from g_size r_marks r_arms r_root r_steps r_grade r_marksAboveOne q_rows q_sizes t_bytes t_length s_tokens s_starts s_size a_code a_codeSize a_at a_token a_fault a_place o_texts o_names o_operands o_size o_open o_refuses o_differs o_fees c_years c_rows c_size x_faultPlace ++ fr)) (hk7 : ∀ (x1 : Int32) (x2 : Int32) (x3 : Int32) (x4 : Int32), k7 x1 x2 x3 x4  = some r → J l G (rmD 4 0 0) Y 0 0 7 [(0, .ref (gb G 30)), (1, .int x1), (2, .int x2), (3, .int x3), (4, .int x4)] [] (WB G p_female p_born p_toldDeath p_lastYear p_father p_mother p_fatherGrade p_motherGrade p_size g_holder g_arms g_from g_size r_marks r_arms r_root r_steps r_grade r_marksAboveOne q_rows q_sizes t_bytes t_length s_tokens s_starts s_size a_code a_codeSize a_at a_token a_fault a_place o_texts o_names o_operands o_size o_open o_refuses o_differs o_fees c_years c_rows c_size x_faultPlace ++ fr)) (x1 : Int32) (x2 : Int32) (x3 : Int32) (x4 : Int32) (hf : g_X0_sourceOf_7 fu c_years c_rows c_size k7 x1 x2 x3 x4 = some r) : J l G (rmD 4 0 0) Y 0 0 7 [(0, .ref (gb G 30)), (1, .int x1), (2, .int x2), (3, .int x3), (4, .int x4)] [] (WB G p_female p_born p_toldDeath p_lastYear p_father p_mother p_fatherGrade p_motherGrade p_size g_holder g_arms g_from g_size r_marks r_arms r_root r_steps r_grade r_marksAboveOne q_rows q_sizes t_bytes t_length s_tokens s_starts s_size a_code a_codeSize a_at a_token a_fault a_place o_texts o_names o_operands o_size o_open o_refuses o_differs o_fees c_years c_rows c_size x_faultPlace ++ fr) := by
  unfold g_X0_sourceOf_7 at hf
  refine j_iload hX dX0_sourceOf_7 9 rfl 4 rfl ?_
  refine j_aload_n hX dX0_sourceOf_9 10 rfl 0 rfl rfl ?_
  refine j_get hX dX0_sourceOf_10 13 rfl fg_X0_18 30 rfl rfl ?_
  refine j_icmp_ge hX dX0_sourceOf_13 16 89 rfl rfl (fun h1 => ?_) (fun h1 => ?_)
  · replace hf := itt h1 hf
    refine j_iload_n hX dX0_sourceOf_89 90 rfl 2 rfl rfl ?_
    replace hf := Option.some.inj hf
    subst hf
    exact j_iret hX hQ dX0_sourceOf_90
  · replace hf := itf h1 hf
    refine j_aload_n hX dX0_sourceOf_16 17 rfl 0 rfl rfl ?_
    refine j_iload_n hX dX0_sourceOf_17 18 rfl 1 rfl rfl ?_
    refine j_iload hX dX0_sourceOf_18 20 rfl 4 rfl ?_
    obtain ⟨v2, hv2, hf⟩ := ibd hf
    refine z_i (As := [.int x1, .int x4]) (rest := []) (q0 := 30) hX dX0_sourceOf_20 23 rfl (t_X0_changes x1 x4 hv2) mc_X0_changes mv_X0_changes ml_X0_33 rfl rfl (Nat.le_of_ble_eq_true rfl) (Nat.le_refl _) (Nat.le_refl _) rfl (Nat.le_of_ble_eq_true rfl) ?_
    refine j_istore hX dX0_sourceOf_23 25 rfl (by decide) (lv' := [(5, .int v2), (0, .ref (gb G 30)), (1, .int x1), (2, .int x2), (3, .int x3), (4, .int x4)]) rfl ?_
    refine j_iload hX dX0_sourceOf_25 27 rfl 0 rfl ?_
    refine j_iload_n hX dX0_sourceOf_27 28 rfl 4 rfl rfl ?_
    refine j_icmp_lt hX dX0_sourceOf_28 31 51 rfl rfl (fun h3 => ?_) (fun h3 => ?_)
    · replace hf := itt h3 hf
      refine j_sub [1, 2, 3, 4, 5, 0] rfl ?_
      exact t_X0_sourceOf_51 hX hQ  hk7 x1 x2 x3 x4 v2 hf
    · replace hf := itf h3 hf
      refine j_iload hX dX0_sourceOf_31 33 rfl 0 rfl ?_
      refine j_iload_n hX dX0_sourceOf_33 34 rfl 4 rfl rfl ?_
      refine j_icmp_ne hX dX0_sourceOf_34 37 55 rfl rfl (fun h8 => ?_) (fun h8 => ?_)
      · replace hf := itf h8 hf
        refine j_sub [1, 2, 3, 4, 5, 0] rfl ?_
        exact t_X0_sourceOf_55 hX hQ  hk7 x1 x2 x3 x4 v2 hf
      · replace hf := itt h8 hf
        refine j_aload_n hX dX0_sourceOf_37 38 rfl 1 rfl rfl ?_
        refine j_iload hX dX0_sourceOf_38 40 rfl 5 rfl ?_
        obtain ⟨v9, hv9, hf⟩ := ibd hf
        refine z_i (As := [.int x4]) (rest := []) (q0 := 30) hX dX0_sourceOf_40 43 rfl (t_X0_yearOf x4 hv9) mc_X0_yearOf mv_X0_yearOf ml_X0_37 rfl rfl (Nat.le_of_ble_eq_true rfl) (Nat.le_refl _) (Nat.le_refl _) rfl (Nat.le_of_ble_eq_true rfl) ?_
        refine j_aload_n hX dX0_sourceOf_43 44 rfl 1 rfl rfl ?_
        refine j_iload_n hX dX0_sourceOf_44 45 rfl 3 rfl rfl ?_
        obtain ⟨v10, hv10, hf⟩ := ibd hf
        refine z_i (As := [.int x2]) (rest := [.int v9]) (q0 := 30) hX dX0_sourceOf_45 48 rfl (t_X0_yearOf x2 hv10) mc_X0_yearOf mv_X0_yearOf ml_X0_37 rfl rfl (Nat.le_of_ble_eq_true rfl) (Nat.le_refl _) (Nat.le_refl _) rfl (Nat.le_of_ble_eq_true rfl) ?_
        refine j_icmp_le hX dX0_sourceOf_48 51 55 rfl rfl (fun h11 => ?_) (fun h11 => ?_)
        · replace hf := itt h11 hf
          refine j_sub [1, 2, 3, 4, 5, 0] rfl ?_
          exact t_X0_sourceOf_55 hX hQ  hk7 x1 x2 x3 x4 v2 hf
        · replace hf := itf h11 hf
          refine j_sub [1, 2, 3, 4, 5, 0] rfl ?_
          exact t_X0_sourceOf_51 hX hQ  hk7 x1 x2 x3 x4 v2 hf
def f_X0_sourceOf_7 (fu : Nat) (c_years : Nat → Int32) (c_rows : Nat → Int32) (c_size : Int32) : Nat → (Int32 × Int32 × Int32 × Int32) → Option (Int32) :=
  lp (fun k v => g_X0_sourceOf_7 fu c_years c_rows c_size (fun x1 x2 x3 x4 => k (x1, x2, x3, x4)) v.1 v.2.1 v.2.2.1 v.2.2.2)
set_option maxRecDepth 100000 in
set_option maxHeartbeats 4000000 in
theorem u_X0_sourceOf_7 {fu : Nat} {Y : YT} {r : Int32}  (hX : CX l G cX0_sourceOf 7 RX0 Y) (hQ : EQi G Y 0 0 .int r (WB G p_female p_born p_toldDeath p_lastYear p_father p_mother p_fatherGrade p_motherGrade p_size g_holder g_arms g_from g_size r_marks r_arms r_root r_steps r_grade r_marksAboveOne q_rows q_sizes t_bytes t_length s_tokens s_starts s_size a_code a_codeSize a_at a_token a_fault a_place o_texts o_names o_operands o_size o_open o_refuses o_differs o_fees c_years c_rows c_size x_faultPlace ++ fr))  (n : Nat) (v : Int32 × Int32 × Int32 × Int32) (hf : f_X0_sourceOf_7 fu c_years c_rows c_size n v = some r) : J l G (rmD 4 0 0) Y 0 0 7 [(0, .ref (gb G 30)), (1, .int v.1), (2, .int v.2.1), (3, .int v.2.2.1), (4, .int v.2.2.2)] [] (WB G p_female p_born p_toldDeath p_lastYear p_father p_mother p_fatherGrade p_motherGrade p_size g_holder g_arms g_from g_size r_marks r_arms r_root r_steps r_grade r_marksAboveOne q_rows q_sizes t_bytes t_length s_tokens s_starts s_size a_code a_codeSize a_at a_token a_fault a_place o_texts o_names o_operands o_size o_open o_refuses o_differs o_fees c_years c_rows c_size x_faultPlace ++ fr) :=
  lp_ind (P := fun v : Int32 × Int32 × Int32 × Int32 => J l G (rmD 4 0 0) Y 0 0 7 [(0, .ref (gb G 30)), (1, .int v.1), (2, .int v.2.1), (3, .int v.2.2.1), (4, .int v.2.2.2)] [] (WB G p_female p_born p_toldDeath p_lastYear p_father p_mother p_fatherGrade p_motherGrade p_size g_holder g_arms g_from g_size r_marks r_arms r_root r_steps r_grade r_marksAboveOne q_rows q_sizes t_bytes t_length s_tokens s_starts s_size a_code a_codeSize a_at a_token a_fault a_place o_texts o_names o_operands o_size o_open o_refuses o_differs o_fees c_years c_rows c_size x_faultPlace ++ fr)) (fun k hk v hf => t_X0_sourceOf_7 hX hQ   (fun x1 x2 x3 x4 h => hk (x1, x2, x3, x4) h) v.1 v.2.1 v.2.2.1 v.2.2.2 hf) n v hf
def f_X0_sourceOf (fu : Nat) (c_years : Nat → Int32) (c_rows : Nat → Int32) (c_size : Int32) (x1 : Int32) : Option (Int32) :=
  f_X0_sourceOf_7 fu c_years c_rows c_size fu (x1, (-1), 4, 0)
set_option maxRecDepth 100000 in
set_option maxHeartbeats 4000000 in
theorem t_X0_sourceOf {fu : Nat}  (x1 : Int32) {r : Int32} (hf : f_X0_sourceOf fu c_years c_rows c_size x1 = some r) : Ci l G 4 0 0 yX0_sourceOf cX0_sourceOf 7 .int [.ref (gb G 30), .int x1] (WB G p_female p_born p_toldDeath p_lastYear p_father p_mother p_fatherGrade p_motherGrade p_size g_holder g_arms g_from g_size r_marks r_arms r_root r_steps r_grade r_marksAboveOne q_rows q_sizes t_bytes t_length s_tokens s_starts s_size a_code a_codeSize a_at a_token a_fault a_place o_texts o_names o_operands o_size o_open o_refuses o_differs o_fees c_years c_rows c_size x_faultPlace ++ fr) r (WB G p_female p_born p_toldDeath p_lastYear p_father p_mother p_fatherGrade p_motherGrade p_size g_holder g_arms g_from g_size r_marks r_arms r_root r_steps r_grade r_marksAboveOne q_rows q_sizes t_bytes t_length s_tokens s_starts s_size a_code a_codeSize a_at a_token a_fault a_place o_texts o_names o_operands o_size o_open o_refuses o_differs o_fees c_years c_rows c_size x_faultPlace ++ fr) := by
  refine Ci.of (by decide) (Nat.le_of_ble_eq_true rfl) (fun Y hX hQ => ?_)
  refine j_lv (lv' := [(0, .ref (gb G 30)), (1, .int x1)]) rfl ?_
  unfold f_X0_sourceOf at hf
  refine j_iconst (v := (-1)) hX dX0_sourceOf_0 1 rfl (by decide) ?_
  refine j_istore_n hX dX0_sourceOf_1 2 rfl rfl (by decide) (lv' := [(2, .int ((-1))), (0, .ref (gb G 30)), (1, .int x1)]) rfl ?_
  refine j_iconst (v := 4) hX dX0_sourceOf_2 3 rfl (by decide) ?_
  refine j_istore_n hX dX0_sourceOf_3 4 rfl rfl (by decide) (lv' := [(3, .int 4), (2, .int ((-1))), (0, .ref (gb G 30)), (1, .int x1)]) rfl ?_
  refine j_iconst (v := 0) hX dX0_sourceOf_4 5 rfl (by decide) ?_
  refine j_istore hX dX0_sourceOf_5 7 rfl (by decide) (lv' := [(4, .int 0), (3, .int 4), (2, .int ((-1))), (0, .ref (gb G 30)), (1, .int x1)]) rfl ?_
  refine j_sub [3, 4, 2, 1, 0] rfl ?_
  exact u_X0_sourceOf_7 hX hQ   fu (x1, (-1), 4, 0) hf
def g_X0_changesOf_21 (s0 : Int32) : Option (Int32) :=
  some s0
set_option maxRecDepth 100000 in
set_option maxHeartbeats 4000000 in
theorem t_X0_changesOf_21 {Y : YT} {r : Int32}  (hX : CX l G cX0_changesOf 3 RX0 Y) (hQ : EQi G Y 0 0 .int r (WB G p_female p_born p_toldDeath p_lastYear p_father p_mother p_fatherGrade p_motherGrade p_size g_holder g_arms g_from g_size r_marks r_arms r_root r_steps r_grade r_marksAboveOne q_rows q_sizes t_bytes t_length s_tokens s_starts s_size a_code a_codeSize a_at a_token a_fault a_place o_texts o_names o_operands o_size o_open o_refuses o_differs o_fees c_years c_rows c_size x_faultPlace ++ fr))  (s0 : Int32) (hf : g_X0_changesOf_21 s0 = some r) : J l G (rmD 5 0 0) Y 0 0 21 [] [.int s0] (WB G p_female p_born p_toldDeath p_lastYear p_father p_mother p_fatherGrade p_motherGrade p_size g_holder g_arms g_from g_size r_marks r_arms r_root r_steps r_grade r_marksAboveOne q_rows q_sizes t_bytes t_length s_tokens s_starts s_size a_code a_codeSize a_at a_token a_fault a_place o_texts o_names o_operands o_size o_open o_refuses o_differs o_fees c_years c_rows c_size x_faultPlace ++ fr) := by
  unfold g_X0_changesOf_21 at hf
  replace hf := Option.some.inj hf
  subst hf
  exact j_iret hX hQ dX0_changesOf_21
def f_X0_changesOf (fu : Nat) (c_years : Nat → Int32) (c_rows : Nat → Int32) (c_size : Int32) (x1 : Int32) : Option (Int32) :=
  (f_X0_sourceOf fu c_years c_rows c_size x1).bind fun v1 => if v1 = ((-1)) then g_X0_changesOf_21 0 else (f_X0_changes fu c_rows c_size x1 v1).bind fun v3 => g_X0_changesOf_21 v3
set_option maxRecDepth 100000 in
set_option maxHeartbeats 4000000 in
theorem t_X0_changesOf {fu : Nat}  (x1 : Int32) {r : Int32} (hf : f_X0_changesOf fu c_years c_rows c_size x1 = some r) : Ci l G 5 0 0 yX0_changesOf cX0_changesOf 3 .int [.ref (gb G 30), .int x1] (WB G p_female p_born p_toldDeath p_lastYear p_father p_mother p_fatherGrade p_motherGrade p_size g_holder g_arms g_from g_size r_marks r_arms r_root r_steps r_grade r_marksAboveOne q_rows q_sizes t_bytes t_length s_tokens s_starts s_size a_code a_codeSize a_at a_token a_fault a_place o_texts o_names o_operands o_size o_open o_refuses o_differs o_fees c_years c_rows c_size x_faultPlace ++ fr) r (WB G p_female p_born p_toldDeath p_lastYear p_father p_mother p_fatherGrade p_motherGrade p_size g_holder g_arms g_from g_size r_marks r_arms r_root r_steps r_grade r_marksAboveOne q_rows q_sizes t_bytes t_length s_tokens s_starts s_size a_code a_codeSize a_at a_token a_fault a_place o_texts o_names o_operands o_size o_open o_refuses o_differs o_fees c_years c_rows c_size x_faultPlace ++ fr) := by
  refine Ci.of (by decide) (Nat.le_of_ble_eq_true rfl) (fun Y hX hQ => ?_)
  refine j_lv (lv' := [(0, .ref (gb G 30)), (1, .int x1)]) rfl ?_
  unfold f_X0_changesOf at hf
  refine j_aload_n hX dX0_changesOf_0 1 rfl 0 rfl rfl ?_
  refine j_iload_n hX dX0_changesOf_1 2 rfl 1 rfl rfl ?_
  obtain ⟨v1, hv1, hf⟩ := ibd hf
  refine z_i (As := [.int x1]) (rest := []) (q0 := 30) hX dX0_changesOf_2 5 rfl (t_X0_sourceOf x1 hv1) mc_X0_sourceOf mv_X0_sourceOf ml_X0_40 rfl rfl (Nat.le_of_ble_eq_true rfl) (Nat.le_refl _) (Nat.le_refl _) rfl (Nat.le_of_ble_eq_true rfl) ?_
  refine j_istore_n hX dX0_changesOf_5 6 rfl rfl (by decide) (lv' := [(2, .int v1), (0, .ref (gb G 30)), (1, .int x1)]) rfl ?_
  refine j_iload_n hX dX0_changesOf_6 7 rfl 0 rfl rfl ?_
  refine j_iconst (v := (-1)) hX dX0_changesOf_7 8 rfl (by decide) ?_
  refine j_icmp_ne hX dX0_changesOf_8 11 15 rfl rfl (fun h2 => ?_) (fun h2 => ?_)
  · replace hf := itf h2 hf
    refine j_aload_n hX dX0_changesOf_15 16 rfl 1 rfl rfl ?_
    refine j_iload_n hX dX0_changesOf_16 17 rfl 2 rfl rfl ?_
    refine j_iload_n hX dX0_changesOf_17 18 rfl 0 rfl rfl ?_
    obtain ⟨v3, hv3, hf⟩ := ibd hf
    refine z_i (As := [.int x1, .int v1]) (rest := []) (q0 := 30) hX dX0_changesOf_18 21 rfl (t_X0_changes x1 v1 hv3) mc_X0_changes mv_X0_changes ml_X0_33 rfl rfl (Nat.le_of_ble_eq_true rfl) (Nat.le_refl _) (Nat.le_refl _) rfl (Nat.le_of_ble_eq_true rfl) ?_
    refine j_sub [] rfl ?_
    exact t_X0_changesOf_21 hX hQ   v3 hf
  · replace hf := itt h2 hf
    refine j_iconst (v := 0) hX dX0_changesOf_11 12 rfl (by decide) ?_
    refine j_goto hX dX0_changesOf_12 21 rfl ?_
    refine j_sub [] rfl ?_
    exact t_X0_changesOf_21 hX hQ   0 hf
def g_X0_driftOf_53 (x2 : Int32) : Option (Int32) :=
  some x2
set_option maxRecDepth 100000 in
set_option maxHeartbeats 4000000 in
theorem t_X0_driftOf_53 {Y : YT} {r : Int32}  (hX : CX l G cX0_driftOf 6 RX0 Y) (hQ : EQi G Y 0 0 .int r (WB G p_female p_born p_toldDeath p_lastYear p_father p_mother p_fatherGrade p_motherGrade p_size g_holder g_arms g_from g_size r_marks r_arms r_root r_steps r_grade r_marksAboveOne q_rows q_sizes t_bytes t_length s_tokens s_starts s_size a_code a_codeSize a_at a_token a_fault a_place o_texts o_names o_operands o_size o_open o_refuses o_differs o_fees c_years c_rows c_size x_faultPlace ++ fr))  (x2 : Int32) (hf : g_X0_driftOf_53 x2 = some r) : J l G (rmD 5 0 0) Y 0 0 53 [(2, .int x2)] [] (WB G p_female p_born p_toldDeath p_lastYear p_father p_mother p_fatherGrade p_motherGrade p_size g_holder g_arms g_from g_size r_marks r_arms r_root r_steps r_grade r_marksAboveOne q_rows q_sizes t_bytes t_length s_tokens s_starts s_size a_code a_codeSize a_at a_token a_fault a_place o_texts o_names o_operands o_size o_open o_refuses o_differs o_fees c_years c_rows c_size x_faultPlace ++ fr) := by
  unfold g_X0_driftOf_53 at hf
  refine j_iload_n hX dX0_driftOf_53 54 rfl 0 rfl rfl ?_
  replace hf := Option.some.inj hf
  subst hf
  exact j_iret hX hQ dX0_driftOf_54
def g_X0_driftOf_14 (fu : Nat) (c_years : Nat → Int32) (c_rows : Nat → Int32) (c_size : Int32) (k14 : Int32 → Int32 → Int32 → Int32 → Option (Int32)) (x2 : Int32) (x3 : Int32) (x4 : Int32) (x5 : Int32) : Option (Int32) :=
  if 40 ≤ x5 then g_X0_driftOf_53 x2 else if x4 = ((-1)) then g_X0_driftOf_53 x2 else (f_X0_changes fu c_rows c_size x3 x4).bind fun v4 => (f_X0_sourceOf fu c_years c_rows c_size x4).bind fun v5 => k14 (x2 + v4) x4 v5 (x5 + 1)
set_option maxRecDepth 100000 in
set_option maxHeartbeats 4000000 in
theorem t_X0_driftOf_14 {fu : Nat} {Y : YT} {r : Int32} {k14 : Int32 → Int32 → Int32 → Int32 → Option (Int32)} (hX : CX l G cX0_driftOf 6 RX0 Y) (hQ : EQi G Y 0 0 .int r (WB G p_female p_born p_toldDeath p_lastYear p_father p_mother p_fatherGrade p_motherGrade p_size g_holder g_arms g_from g_size r_marks r_arms r_root r_steps r_grade r_marksAboveOne q_rows q_sizes t_bytes t_length s_tokens s_starts s_size a_code a_codeSize a_at a_token a_fault a_place o_texts o_names o_operands o_size o_open o_refuses o_differs o_fees c_years c_rows c_size x_faultPlace ++ fr)) (hk14 : ∀ (x2 : Int32) (x3 : Int32) (x4 : Int32) (x5 : Int32), k14 x2 x3 x4 x5  = some r → J l G (rmD 5 0 0) Y 0 0 14 [(0, .ref (gb G 30)), (2, .int x2), (3, .int x3), (4, .int x4), (5, .int x5)] [] (WB G p_female p_born p_toldDeath p_lastYear p_father p_mother p_fatherGrade p_motherGrade p_size g_holder g_arms g_from g_size r_marks r_arms r_root r_steps r_grade r_marksAboveOne q_rows q_sizes t_bytes t_length s_tokens s_starts s_size a_code a_codeSize a_at a_token a_fault a_place o_texts o_names o_operands o_size o_open o_refuses o_differs o_fees c_years c_rows c_size x_faultPlace ++ fr)) (x2 : Int32) (x3 : Int32) (x4 : Int32) (x5 : Int32) (hf : g_X0_driftOf_14 fu c_years c_rows c_size k14 x2 x3 x4 x5 = some r) : J l G (rmD 5 0 0) Y 0 0 14 [(0, .ref (gb G 30)), (2, .int x2), (3, .int x3), (4, .int x4), (5, .int x5)] [] (WB G p_female p_born p_toldDeath p_lastYear p_father p_mother p_fatherGrade p_motherGrade p_size g_holder g_arms g_from g_size r_marks r_arms r_root r_steps r_grade r_marksAboveOne q_rows q_sizes t_bytes t_length s_tokens s_starts s_size a_code a_codeSize a_at a_token a_fault a_place o_texts o_names o_operands o_size o_open o_refuses o_differs o_fees c_years c_rows c_size x_faultPlace ++ fr) := by
  unfold g_X0_driftOf_14 at hf
  refine j_iload hX dX0_driftOf_14 16 rfl 4 rfl ?_
  refine j_bipush (v := 40) hX dX0_driftOf_16 18 rfl (by decide) ?_
  refine j_icmp_ge hX dX0_driftOf_18 21 53 rfl rfl (fun h2 => ?_) (fun h2 => ?_)
  · replace hf := itt h2 hf
    refine j_sub [1] rfl ?_
    exact t_X0_driftOf_53 hX hQ   x2 hf
  · replace hf := itf h2 hf
    refine j_iload hX dX0_driftOf_21 23 rfl 3 rfl ?_
    refine j_iconst (v := (-1)) hX dX0_driftOf_23 24 rfl (by decide) ?_
    refine j_icmp_eq hX dX0_driftOf_24 27 53 rfl rfl (fun h3 => ?_) (fun h3 => ?_)
    · replace hf := itt h3 hf
      refine j_sub [1] rfl ?_
      exact t_X0_driftOf_53 hX hQ   x2 hf
    · replace hf := itf h3 hf
      refine j_iload_n hX dX0_driftOf_27 28 rfl 1 rfl rfl ?_
      refine j_aload_n hX dX0_driftOf_28 29 rfl 0 rfl rfl ?_
      refine j_iload_n hX dX0_driftOf_29 30 rfl 2 rfl rfl ?_
      refine j_iload hX dX0_driftOf_30 32 rfl 3 rfl ?_
      obtain ⟨v4, hv4, hf⟩ := ibd hf
      refine z_i (As := [.int x3, .int x4]) (rest := [.int x2]) (q0 := 30) hX dX0_driftOf_32 35 rfl (t_X0_changes x3 x4 hv4) mc_X0_changes mv_X0_changes ml_X0_33 rfl rfl (Nat.le_of_ble_eq_true rfl) (Nat.le_refl _) (Nat.le_refl _) rfl (Nat.le_of_ble_eq_true rfl) ?_
      refine j_iadd hX dX0_driftOf_35 36 rfl ?_
      refine j_istore_n hX dX0_driftOf_36 37 rfl rfl (by decide) (lv' := [(2, .int (x2 + v4)), (0, .ref (gb G 30)), (3, .int x3), (4, .int x4), (5, .int x5)]) rfl ?_
      refine j_iload hX dX0_driftOf_37 39 rfl 3 rfl ?_
      refine j_istore_n hX dX0_driftOf_39 40 rfl rfl (by decide) (lv' := [(3, .int x4), (2, .int (x2 + v4)), (0, .ref (gb G 30)), (4, .int x4), (5, .int x5)]) rfl ?_
      refine j_aload_n hX dX0_driftOf_40 41 rfl 2 rfl rfl ?_
      refine j_iload_n hX dX0_driftOf_41 42 rfl 0 rfl rfl ?_
      obtain ⟨v5, hv5, hf⟩ := ibd hf
      refine z_i (As := [.int x4]) (rest := []) (q0 := 30) hX dX0_driftOf_42 45 rfl (t_X0_sourceOf x4 hv5) mc_X0_sourceOf mv_X0_sourceOf ml_X0_40 rfl rfl (Nat.le_of_ble_eq_true rfl) (Nat.le_refl _) (Nat.le_refl _) rfl (Nat.le_of_ble_eq_true rfl) ?_
      refine j_istore hX dX0_driftOf_45 47 rfl (by decide) (lv' := [(4, .int v5), (3, .int x4), (2, .int (x2 + v4)), (0, .ref (gb G 30)), (5, .int x5)]) rfl ?_
      refine j_iinc (v := x5 + 1) hX dX0_driftOf_47 50 rfl 4 rfl rfl (by decide) (lv' := [(5, .int (x5 + 1)), (4, .int v5), (3, .int x4), (2, .int (x2 + v4)), (0, .ref (gb G 30))]) rfl ?_
      refine j_goto hX dX0_driftOf_50 14 rfl ?_
      refine j_sub [4, 3, 2, 1, 0] rfl ?_
      exact hk14 (x2 + v4) x4 v5 (x5 + 1) hf
def f_X0_driftOf_14 (fu : Nat) (c_years : Nat → Int32) (c_rows : Nat → Int32) (c_size : Int32) : Nat → (Int32 × Int32 × Int32 × Int32) → Option (Int32) :=
  lp (fun k v => g_X0_driftOf_14 fu c_years c_rows c_size (fun x2 x3 x4 x5 => k (x2, x3, x4, x5)) v.1 v.2.1 v.2.2.1 v.2.2.2)
set_option maxRecDepth 100000 in
set_option maxHeartbeats 4000000 in
theorem u_X0_driftOf_14 {fu : Nat} {Y : YT} {r : Int32}  (hX : CX l G cX0_driftOf 6 RX0 Y) (hQ : EQi G Y 0 0 .int r (WB G p_female p_born p_toldDeath p_lastYear p_father p_mother p_fatherGrade p_motherGrade p_size g_holder g_arms g_from g_size r_marks r_arms r_root r_steps r_grade r_marksAboveOne q_rows q_sizes t_bytes t_length s_tokens s_starts s_size a_code a_codeSize a_at a_token a_fault a_place o_texts o_names o_operands o_size o_open o_refuses o_differs o_fees c_years c_rows c_size x_faultPlace ++ fr))  (n : Nat) (v : Int32 × Int32 × Int32 × Int32) (hf : f_X0_driftOf_14 fu c_years c_rows c_size n v = some r) : J l G (rmD 5 0 0) Y 0 0 14 [(0, .ref (gb G 30)), (2, .int v.1), (3, .int v.2.1), (4, .int v.2.2.1), (5, .int v.2.2.2)] [] (WB G p_female p_born p_toldDeath p_lastYear p_father p_mother p_fatherGrade p_motherGrade p_size g_holder g_arms g_from g_size r_marks r_arms r_root r_steps r_grade r_marksAboveOne q_rows q_sizes t_bytes t_length s_tokens s_starts s_size a_code a_codeSize a_at a_token a_fault a_place o_texts o_names o_operands o_size o_open o_refuses o_differs o_fees c_years c_rows c_size x_faultPlace ++ fr) :=
  lp_ind (P := fun v : Int32 × Int32 × Int32 × Int32 => J l G (rmD 5 0 0) Y 0 0 14 [(0, .ref (gb G 30)), (2, .int v.1), (3, .int v.2.1), (4, .int v.2.2.1), (5, .int v.2.2.2)] [] (WB G p_female p_born p_toldDeath p_lastYear p_father p_mother p_fatherGrade p_motherGrade p_size g_holder g_arms g_from g_size r_marks r_arms r_root r_steps r_grade r_marksAboveOne q_rows q_sizes t_bytes t_length s_tokens s_starts s_size a_code a_codeSize a_at a_token a_fault a_place o_texts o_names o_operands o_size o_open o_refuses o_differs o_fees c_years c_rows c_size x_faultPlace ++ fr)) (fun k hk v hf => t_X0_driftOf_14 hX hQ   (fun x2 x3 x4 x5 h => hk (x2, x3, x4, x5) h) v.1 v.2.1 v.2.2.1 v.2.2.2 hf) n v hf
def f_X0_driftOf (fu : Nat) (c_years : Nat → Int32) (c_rows : Nat → Int32) (c_size : Int32) (x1 : Int32) : Option (Int32) :=
  (f_X0_sourceOf fu c_years c_rows c_size x1).bind fun v1 => f_X0_driftOf_14 fu c_years c_rows c_size fu (0, x1, v1, 0)
set_option maxRecDepth 100000 in
set_option maxHeartbeats 4000000 in
theorem t_X0_driftOf {fu : Nat}  (x1 : Int32) {r : Int32} (hf : f_X0_driftOf fu c_years c_rows c_size x1 = some r) : Ci l G 5 0 0 yX0_driftOf cX0_driftOf 6 .int [.ref (gb G 30), .int x1] (WB G p_female p_born p_toldDeath p_lastYear p_father p_mother p_fatherGrade p_motherGrade p_size g_holder g_arms g_from g_size r_marks r_arms r_root r_steps r_grade r_marksAboveOne q_rows q_sizes t_bytes t_length s_tokens s_starts s_size a_code a_codeSize a_at a_token a_fault a_place o_texts o_names o_operands o_size o_open o_refuses o_differs o_fees c_years c_rows c_size x_faultPlace ++ fr) r (WB G p_female p_born p_toldDeath p_lastYear p_father p_mother p_fatherGrade p_motherGrade p_size g_holder g_arms g_from g_size r_marks r_arms r_root r_steps r_grade r_marksAboveOne q_rows q_sizes t_bytes t_length s_tokens s_starts s_size a_code a_codeSize a_at a_token a_fault a_place o_texts o_names o_operands o_size o_open o_refuses o_differs o_fees c_years c_rows c_size x_faultPlace ++ fr) := by
  refine Ci.of (by decide) (Nat.le_of_ble_eq_true rfl) (fun Y hX hQ => ?_)
  refine j_lv (lv' := [(0, .ref (gb G 30)), (1, .int x1)]) rfl ?_
  unfold f_X0_driftOf at hf
  refine j_iconst (v := 0) hX dX0_driftOf_0 1 rfl (by decide) ?_
  refine j_istore_n hX dX0_driftOf_1 2 rfl rfl (by decide) (lv' := [(2, .int 0), (0, .ref (gb G 30)), (1, .int x1)]) rfl ?_
  refine j_iload_n hX dX0_driftOf_2 3 rfl 2 rfl rfl ?_
  refine j_istore_n hX dX0_driftOf_3 4 rfl rfl (by decide) (lv' := [(3, .int x1), (2, .int 0), (0, .ref (gb G 30)), (1, .int x1)]) rfl ?_
  refine j_aload_n hX dX0_driftOf_4 5 rfl 2 rfl rfl ?_
  refine j_iload_n hX dX0_driftOf_5 6 rfl 0 rfl rfl ?_
  obtain ⟨v1, hv1, hf⟩ := ibd hf
  refine z_i (As := [.int x1]) (rest := []) (q0 := 30) hX dX0_driftOf_6 9 rfl (t_X0_sourceOf x1 hv1) mc_X0_sourceOf mv_X0_sourceOf ml_X0_40 rfl rfl (Nat.le_of_ble_eq_true rfl) (Nat.le_refl _) (Nat.le_refl _) rfl (Nat.le_of_ble_eq_true rfl) ?_
  refine j_istore hX dX0_driftOf_9 11 rfl (by decide) (lv' := [(4, .int v1), (3, .int x1), (2, .int 0), (0, .ref (gb G 30)), (1, .int x1)]) rfl ?_
  refine j_iconst (v := 0) hX dX0_driftOf_11 12 rfl (by decide) ?_
  refine j_istore hX dX0_driftOf_12 14 rfl (by decide) (lv' := [(5, .int 0), (4, .int v1), (3, .int x1), (2, .int 0), (0, .ref (gb G 30)), (1, .int x1)]) rfl ?_
  refine j_sub [4, 3, 2, 1, 0] rfl ?_
  exact u_X0_driftOf_14 hX hQ   fu (0, x1, v1, 0) hf
def g_X0_originalOf_37 (x2 : Int32) : Option (Int32) :=
  some x2
set_option maxRecDepth 100000 in
set_option maxHeartbeats 4000000 in
theorem t_X0_originalOf_37 {Y : YT} {r : Int32}  (hX : CX l G cX0_originalOf 5 RX0 Y) (hQ : EQi G Y 0 0 .int r (WB G p_female p_born p_toldDeath p_lastYear p_father p_mother p_fatherGrade p_motherGrade p_size g_holder g_arms g_from g_size r_marks r_arms r_root r_steps r_grade r_marksAboveOne q_rows q_sizes t_bytes t_length s_tokens s_starts s_size a_code a_codeSize a_at a_token a_fault a_place o_texts o_names o_operands o_size o_open o_refuses o_differs o_fees c_years c_rows c_size x_faultPlace ++ fr))  (x2 : Int32) (hf : g_X0_originalOf_37 x2 = some r) : J l G (rmD 5 0 0) Y 0 0 37 [(2, .int x2)] [] (WB G p_female p_born p_toldDeath p_lastYear p_father p_mother p_fatherGrade p_motherGrade p_size g_holder g_arms g_from g_size r_marks r_arms r_root r_steps r_grade r_marksAboveOne q_rows q_sizes t_bytes t_length s_tokens s_starts s_size a_code a_codeSize a_at a_token a_fault a_place o_texts o_names o_operands o_size o_open o_refuses o_differs o_fees c_years c_rows c_size x_faultPlace ++ fr) := by
  unfold g_X0_originalOf_37 at hf
  refine j_iload_n hX dX0_originalOf_37 38 rfl 0 rfl rfl ?_
  replace hf := Option.some.inj hf
  subst hf
  exact j_iret hX hQ dX0_originalOf_38
def g_X0_originalOf_11 (fu : Nat) (c_years : Nat → Int32) (c_rows : Nat → Int32) (c_size : Int32) (k11 : Int32 → Int32 → Int32 → Option (Int32)) (x2 : Int32) (x3 : Int32) (x4 : Int32) : Option (Int32) :=
  if 40 ≤ x4 then g_X0_originalOf_37 x2 else if x3 = ((-1)) then g_X0_originalOf_37 x2 else (f_X0_sourceOf fu c_years c_rows c_size x3).bind fun v4 => k11 x3 v4 (x4 + 1)
set_option maxRecDepth 100000 in
set_option maxHeartbeats 4000000 in
theorem t_X0_originalOf_11 {fu : Nat} {Y : YT} {r : Int32} {k11 : Int32 → Int32 → Int32 → Option (Int32)} (hX : CX l G cX0_originalOf 5 RX0 Y) (hQ : EQi G Y 0 0 .int r (WB G p_female p_born p_toldDeath p_lastYear p_father p_mother p_fatherGrade p_motherGrade p_size g_holder g_arms g_from g_size r_marks r_arms r_root r_steps r_grade r_marksAboveOne q_rows q_sizes t_bytes t_length s_tokens s_starts s_size a_code a_codeSize a_at a_token a_fault a_place o_texts o_names o_operands o_size o_open o_refuses o_differs o_fees c_years c_rows c_size x_faultPlace ++ fr)) (hk11 : ∀ (x2 : Int32) (x3 : Int32) (x4 : Int32), k11 x2 x3 x4  = some r → J l G (rmD 5 0 0) Y 0 0 11 [(0, .ref (gb G 30)), (2, .int x2), (3, .int x3), (4, .int x4)] [] (WB G p_female p_born p_toldDeath p_lastYear p_father p_mother p_fatherGrade p_motherGrade p_size g_holder g_arms g_from g_size r_marks r_arms r_root r_steps r_grade r_marksAboveOne q_rows q_sizes t_bytes t_length s_tokens s_starts s_size a_code a_codeSize a_at a_token a_fault a_place o_texts o_names o_operands o_size o_open o_refuses o_differs o_fees c_years c_rows c_size x_faultPlace ++ fr)) (x2 : Int32) (x3 : Int32) (x4 : Int32) (hf : g_X0_originalOf_11 fu c_years c_rows c_size k11 x2 x3 x4 = some r) : J l G (rmD 5 0 0) Y 0 0 11 [(0, .ref (gb G 30)), (2, .int x2), (3, .int x3), (4, .int x4)] [] (WB G p_female p_born p_toldDeath p_lastYear p_father p_mother p_fatherGrade p_motherGrade p_size g_holder g_arms g_from g_size r_marks r_arms r_root r_steps r_grade r_marksAboveOne q_rows q_sizes t_bytes t_length s_tokens s_starts s_size a_code a_codeSize a_at a_token a_fault a_place o_texts o_names o_operands o_size o_open o_refuses o_differs o_fees c_years c_rows c_size x_faultPlace ++ fr) := by
  unfold g_X0_originalOf_11 at hf
  refine j_iload hX dX0_originalOf_11 13 rfl 3 rfl ?_
  refine j_bipush (v := 40) hX dX0_originalOf_13 15 rfl (by decide) ?_
  refine j_icmp_ge hX dX0_originalOf_15 18 37 rfl rfl (fun h2 => ?_) (fun h2 => ?_)
  · replace hf := itt h2 hf
    refine j_sub [1] rfl ?_
    exact t_X0_originalOf_37 hX hQ   x2 hf
  · replace hf := itf h2 hf
    refine j_iload_n hX dX0_originalOf_18 19 rfl 2 rfl rfl ?_
    refine j_iconst (v := (-1)) hX dX0_originalOf_19 20 rfl (by decide) ?_
    refine j_icmp_eq hX dX0_originalOf_20 23 37 rfl rfl (fun h3 => ?_) (fun h3 => ?_)
    · replace hf := itt h3 hf
      refine j_sub [1] rfl ?_
      exact t_X0_originalOf_37 hX hQ   x2 hf
    · replace hf := itf h3 hf
      refine j_iload_n hX dX0_originalOf_23 24 rfl 2 rfl rfl ?_
      refine j_istore_n hX dX0_originalOf_24 25 rfl rfl (by decide) (lv' := [(2, .int x3), (0, .ref (gb G 30)), (3, .int x3), (4, .int x4)]) rfl ?_
      refine j_aload_n hX dX0_originalOf_25 26 rfl 1 rfl rfl ?_
      refine j_iload_n hX dX0_originalOf_26 27 rfl 0 rfl rfl ?_
      obtain ⟨v4, hv4, hf⟩ := ibd hf
      refine z_i (As := [.int x3]) (rest := []) (q0 := 30) hX dX0_originalOf_27 30 rfl (t_X0_sourceOf x3 hv4) mc_X0_sourceOf mv_X0_sourceOf ml_X0_40 rfl rfl (Nat.le_of_ble_eq_true rfl) (Nat.le_refl _) (Nat.le_refl _) rfl (Nat.le_of_ble_eq_true rfl) ?_
      refine j_istore_n hX dX0_originalOf_30 31 rfl rfl (by decide) (lv' := [(3, .int v4), (2, .int x3), (0, .ref (gb G 30)), (4, .int x4)]) rfl ?_
      refine j_iinc (v := x4 + 1) hX dX0_originalOf_31 34 rfl 3 rfl rfl (by decide) (lv' := [(4, .int (x4 + 1)), (3, .int v4), (2, .int x3), (0, .ref (gb G 30))]) rfl ?_
      refine j_goto hX dX0_originalOf_34 11 rfl ?_
      refine j_sub [3, 2, 1, 0] rfl ?_
      exact hk11 x3 v4 (x4 + 1) hf
def f_X0_originalOf_11 (fu : Nat) (c_years : Nat → Int32) (c_rows : Nat → Int32) (c_size : Int32) : Nat → (Int32 × Int32 × Int32) → Option (Int32) :=
  lp (fun k v => g_X0_originalOf_11 fu c_years c_rows c_size (fun x2 x3 x4 => k (x2, x3, x4)) v.1 v.2.1 v.2.2)
set_option maxRecDepth 100000 in
set_option maxHeartbeats 4000000 in
theorem u_X0_originalOf_11 {fu : Nat} {Y : YT} {r : Int32}  (hX : CX l G cX0_originalOf 5 RX0 Y) (hQ : EQi G Y 0 0 .int r (WB G p_female p_born p_toldDeath p_lastYear p_father p_mother p_fatherGrade p_motherGrade p_size g_holder g_arms g_from g_size r_marks r_arms r_root r_steps r_grade r_marksAboveOne q_rows q_sizes t_bytes t_length s_tokens s_starts s_size a_code a_codeSize a_at a_token a_fault a_place o_texts o_names o_operands o_size o_open o_refuses o_differs o_fees c_years c_rows c_size x_faultPlace ++ fr))  (n : Nat) (v : Int32 × Int32 × Int32) (hf : f_X0_originalOf_11 fu c_years c_rows c_size n v = some r) : J l G (rmD 5 0 0) Y 0 0 11 [(0, .ref (gb G 30)), (2, .int v.1), (3, .int v.2.1), (4, .int v.2.2)] [] (WB G p_female p_born p_toldDeath p_lastYear p_father p_mother p_fatherGrade p_motherGrade p_size g_holder g_arms g_from g_size r_marks r_arms r_root r_steps r_grade r_marksAboveOne q_rows q_sizes t_bytes t_length s_tokens s_starts s_size a_code a_codeSize a_at a_token a_fault a_place o_texts o_names o_operands o_size o_open o_refuses o_differs o_fees c_years c_rows c_size x_faultPlace ++ fr) :=
  lp_ind (P := fun v : Int32 × Int32 × Int32 => J l G (rmD 5 0 0) Y 0 0 11 [(0, .ref (gb G 30)), (2, .int v.1), (3, .int v.2.1), (4, .int v.2.2)] [] (WB G p_female p_born p_toldDeath p_lastYear p_father p_mother p_fatherGrade p_motherGrade p_size g_holder g_arms g_from g_size r_marks r_arms r_root r_steps r_grade r_marksAboveOne q_rows q_sizes t_bytes t_length s_tokens s_starts s_size a_code a_codeSize a_at a_token a_fault a_place o_texts o_names o_operands o_size o_open o_refuses o_differs o_fees c_years c_rows c_size x_faultPlace ++ fr)) (fun k hk v hf => t_X0_originalOf_11 hX hQ   (fun x2 x3 x4 h => hk (x2, x3, x4) h) v.1 v.2.1 v.2.2 hf) n v hf
def f_X0_originalOf (fu : Nat) (c_years : Nat → Int32) (c_rows : Nat → Int32) (c_size : Int32) (x1 : Int32) : Option (Int32) :=
  (f_X0_sourceOf fu c_years c_rows c_size x1).bind fun v1 => f_X0_originalOf_11 fu c_years c_rows c_size fu (x1, v1, 0)
set_option maxRecDepth 100000 in
set_option maxHeartbeats 4000000 in
theorem t_X0_originalOf {fu : Nat}  (x1 : Int32) {r : Int32} (hf : f_X0_originalOf fu c_years c_rows c_size x1 = some r) : Ci l G 5 0 0 yX0_originalOf cX0_originalOf 5 .int [.ref (gb G 30), .int x1] (WB G p_female p_born p_toldDeath p_lastYear p_father p_mother p_fatherGrade p_motherGrade p_size g_holder g_arms g_from g_size r_marks r_arms r_root r_steps r_grade r_marksAboveOne q_rows q_sizes t_bytes t_length s_tokens s_starts s_size a_code a_codeSize a_at a_token a_fault a_place o_texts o_names o_operands o_size o_open o_refuses o_differs o_fees c_years c_rows c_size x_faultPlace ++ fr) r (WB G p_female p_born p_toldDeath p_lastYear p_father p_mother p_fatherGrade p_motherGrade p_size g_holder g_arms g_from g_size r_marks r_arms r_root r_steps r_grade r_marksAboveOne q_rows q_sizes t_bytes t_length s_tokens s_starts s_size a_code a_codeSize a_at a_token a_fault a_place o_texts o_names o_operands o_size o_open o_refuses o_differs o_fees c_years c_rows c_size x_faultPlace ++ fr) := by
  refine Ci.of (by decide) (Nat.le_of_ble_eq_true rfl) (fun Y hX hQ => ?_)
  refine j_lv (lv' := [(0, .ref (gb G 30)), (1, .int x1)]) rfl ?_
  unfold f_X0_originalOf at hf
  refine j_iload_n hX dX0_originalOf_0 1 rfl 1 rfl rfl ?_
  refine j_istore_n hX dX0_originalOf_1 2 rfl rfl (by decide) (lv' := [(2, .int x1), (0, .ref (gb G 30)), (1, .int x1)]) rfl ?_
  refine j_aload_n hX dX0_originalOf_2 3 rfl 1 rfl rfl ?_
  refine j_iload_n hX dX0_originalOf_3 4 rfl 0 rfl rfl ?_
  obtain ⟨v1, hv1, hf⟩ := ibd hf
  refine z_i (As := [.int x1]) (rest := []) (q0 := 30) hX dX0_originalOf_4 7 rfl (t_X0_sourceOf x1 hv1) mc_X0_sourceOf mv_X0_sourceOf ml_X0_40 rfl rfl (Nat.le_of_ble_eq_true rfl) (Nat.le_refl _) (Nat.le_refl _) rfl (Nat.le_of_ble_eq_true rfl) ?_
  refine j_istore_n hX dX0_originalOf_7 8 rfl rfl (by decide) (lv' := [(3, .int v1), (2, .int x1), (0, .ref (gb G 30)), (1, .int x1)]) rfl ?_
  refine j_iconst (v := 0) hX dX0_originalOf_8 9 rfl (by decide) ?_
  refine j_istore hX dX0_originalOf_9 11 rfl (by decide) (lv' := [(4, .int 0), (3, .int v1), (2, .int x1), (0, .ref (gb G 30)), (1, .int x1)]) rfl ?_
  refine j_sub [3, 2, 1, 0] rfl ?_
  exact u_X0_originalOf_11 hX hQ   fu (x1, v1, 0) hf
def g_X0_takenFrom_24 (k4 : Int32 → Int32 → Int32 → Option (Int32)) (x1 : Int32) (x2 : Int32) (x3 : Int32) : Option (Int32) :=
  k4 x1 x2 (x3 + 1)
set_option maxRecDepth 100000 in
set_option maxHeartbeats 4000000 in
theorem t_X0_takenFrom_24 {Y : YT} {r : Int32} {k4 : Int32 → Int32 → Int32 → Option (Int32)} (hX : CX l G cX0_takenFrom 4 RX0 Y) (hQ : EQi G Y 0 0 .int r (WB G p_female p_born p_toldDeath p_lastYear p_father p_mother p_fatherGrade p_motherGrade p_size g_holder g_arms g_from g_size r_marks r_arms r_root r_steps r_grade r_marksAboveOne q_rows q_sizes t_bytes t_length s_tokens s_starts s_size a_code a_codeSize a_at a_token a_fault a_place o_texts o_names o_operands o_size o_open o_refuses o_differs o_fees c_years c_rows c_size x_faultPlace ++ fr)) (hk4 : ∀ (x1 : Int32) (x2 : Int32) (x3 : Int32), k4 x1 x2 x3  = some r → J l G (rmD 5 0 0) Y 0 0 4 [(0, .ref (gb G 30)), (1, .int x1), (2, .int x2), (3, .int x3)] [] (WB G p_female p_born p_toldDeath p_lastYear p_father p_mother p_fatherGrade p_motherGrade p_size g_holder g_arms g_from g_size r_marks r_arms r_root r_steps r_grade r_marksAboveOne q_rows q_sizes t_bytes t_length s_tokens s_starts s_size a_code a_codeSize a_at a_token a_fault a_place o_texts o_names o_operands o_size o_open o_refuses o_differs o_fees c_years c_rows c_size x_faultPlace ++ fr)) (x1 : Int32) (x2 : Int32) (x3 : Int32) (hf : g_X0_takenFrom_24 k4 x1 x2 x3 = some r) : J l G (rmD 5 0 0) Y 0 0 24 [(0, .ref (gb G 30)), (1, .int x1), (2, .int x2), (3, .int x3)] [] (WB G p_female p_born p_toldDeath p_lastYear p_father p_mother p_fatherGrade p_motherGrade p_size g_holder g_arms g_from g_size r_marks r_arms r_root r_steps r_grade r_marksAboveOne q_rows q_sizes t_bytes t_length s_tokens s_starts s_size a_code a_codeSize a_at a_token a_fault a_place o_texts o_names o_operands o_size o_open o_refuses o_differs o_fees c_years c_rows c_size x_faultPlace ++ fr) := by
  unfold g_X0_takenFrom_24 at hf
  refine j_iinc (v := x3 + 1) hX dX0_takenFrom_24 27 rfl 3 rfl rfl (by decide) (lv' := [(3, .int (x3 + 1)), (0, .ref (gb G 30)), (1, .int x1), (2, .int x2)]) rfl ?_
  refine j_goto hX dX0_takenFrom_27 4 rfl ?_
  refine j_sub [1, 2, 3, 0] rfl ?_
  exact hk4 x1 x2 (x3 + 1) hf
def g_X0_takenFrom_4 (fu : Nat) (c_years : Nat → Int32) (c_rows : Nat → Int32) (c_size : Int32) (k4 : Int32 → Int32 → Int32 → Option (Int32)) (x1 : Int32) (x2 : Int32) (x3 : Int32) : Option (Int32) :=
  if c_size ≤ x3 then some x2 else (f_X0_sourceOf fu c_years c_rows c_size x3).bind fun v2 => if v2 = x1 then g_X0_takenFrom_24 k4 x1 (x2 + 1) x3 else g_X0_takenFrom_24 k4 x1 x2 x3
set_option maxRecDepth 100000 in
set_option maxHeartbeats 4000000 in
theorem t_X0_takenFrom_4 {fu : Nat} {Y : YT} {r : Int32} {k4 : Int32 → Int32 → Int32 → Option (Int32)} (hX : CX l G cX0_takenFrom 4 RX0 Y) (hQ : EQi G Y 0 0 .int r (WB G p_female p_born p_toldDeath p_lastYear p_father p_mother p_fatherGrade p_motherGrade p_size g_holder g_arms g_from g_size r_marks r_arms r_root r_steps r_grade r_marksAboveOne q_rows q_sizes t_bytes t_length s_tokens s_starts s_size a_code a_codeSize a_at a_token a_fault a_place o_texts o_names o_operands o_size o_open o_refuses o_differs o_fees c_years c_rows c_size x_faultPlace ++ fr)) (hk4 : ∀ (x1 : Int32) (x2 : Int32) (x3 : Int32), k4 x1 x2 x3  = some r → J l G (rmD 5 0 0) Y 0 0 4 [(0, .ref (gb G 30)), (1, .int x1), (2, .int x2), (3, .int x3)] [] (WB G p_female p_born p_toldDeath p_lastYear p_father p_mother p_fatherGrade p_motherGrade p_size g_holder g_arms g_from g_size r_marks r_arms r_root r_steps r_grade r_marksAboveOne q_rows q_sizes t_bytes t_length s_tokens s_starts s_size a_code a_codeSize a_at a_token a_fault a_place o_texts o_names o_operands o_size o_open o_refuses o_differs o_fees c_years c_rows c_size x_faultPlace ++ fr)) (x1 : Int32) (x2 : Int32) (x3 : Int32) (hf : g_X0_takenFrom_4 fu c_years c_rows c_size k4 x1 x2 x3 = some r) : J l G (rmD 5 0 0) Y 0 0 4 [(0, .ref (gb G 30)), (1, .int x1), (2, .int x2), (3, .int x3)] [] (WB G p_female p_born p_toldDeath p_lastYear p_father p_mother p_fatherGrade p_motherGrade p_size g_holder g_arms g_from g_size r_marks r_arms r_root r_steps r_grade r_marksAboveOne q_rows q_sizes t_bytes t_length s_tokens s_starts s_size a_code a_codeSize a_at a_token a_fault a_place o_texts o_names o_operands o_size o_open o_refuses o_differs o_fees c_years c_rows c_size x_faultPlace ++ fr) := by
  unfold g_X0_takenFrom_4 at hf
  refine j_iload_n hX dX0_takenFrom_4 5 rfl 3 rfl rfl ?_
  refine j_aload_n hX dX0_takenFrom_5 6 rfl 0 rfl rfl ?_
  refine j_get hX dX0_takenFrom_6 9 rfl fg_X0_18 30 rfl rfl ?_
  refine j_icmp_ge hX dX0_takenFrom_9 12 30 rfl rfl (fun h1 => ?_) (fun h1 => ?_)
  · replace hf := itt h1 hf
    refine j_iload_n hX dX0_takenFrom_30 31 rfl 2 rfl rfl ?_
    replace hf := Option.some.inj hf
    subst hf
    exact j_iret hX hQ dX0_takenFrom_31
  · replace hf := itf h1 hf
    refine j_aload_n hX dX0_takenFrom_12 13 rfl 0 rfl rfl ?_
    refine j_iload_n hX dX0_takenFrom_13 14 rfl 3 rfl rfl ?_
    obtain ⟨v2, hv2, hf⟩ := ibd hf
    refine z_i (As := [.int x3]) (rest := []) (q0 := 30) hX dX0_takenFrom_14 17 rfl (t_X0_sourceOf x3 hv2) mc_X0_sourceOf mv_X0_sourceOf ml_X0_40 rfl rfl (Nat.le_of_ble_eq_true rfl) (Nat.le_refl _) (Nat.le_refl _) rfl (Nat.le_of_ble_eq_true rfl) ?_
    refine j_iload_n hX dX0_takenFrom_17 18 rfl 1 rfl rfl ?_
    refine j_icmp_ne hX dX0_takenFrom_18 21 24 rfl rfl (fun h3 => ?_) (fun h3 => ?_)
    · replace hf := itf h3 hf
      exact t_X0_takenFrom_24 hX hQ  hk4 x1 x2 x3 hf
    · replace hf := itt h3 hf
      refine j_iinc (v := x2 + 1) hX dX0_takenFrom_21 24 rfl 2 rfl rfl (by decide) (lv' := [(2, .int (x2 + 1)), (0, .ref (gb G 30)), (1, .int x1), (3, .int x3)]) rfl ?_
      refine j_sub [1, 2, 0, 3] rfl ?_
      exact t_X0_takenFrom_24 hX hQ  hk4 x1 (x2 + 1) x3 hf
def f_X0_takenFrom_4 (fu : Nat) (c_years : Nat → Int32) (c_rows : Nat → Int32) (c_size : Int32) : Nat → (Int32 × Int32 × Int32) → Option (Int32) :=
  lp (fun k v => g_X0_takenFrom_4 fu c_years c_rows c_size (fun x1 x2 x3 => k (x1, x2, x3)) v.1 v.2.1 v.2.2)
set_option maxRecDepth 100000 in
set_option maxHeartbeats 4000000 in
theorem u_X0_takenFrom_4 {fu : Nat} {Y : YT} {r : Int32}  (hX : CX l G cX0_takenFrom 4 RX0 Y) (hQ : EQi G Y 0 0 .int r (WB G p_female p_born p_toldDeath p_lastYear p_father p_mother p_fatherGrade p_motherGrade p_size g_holder g_arms g_from g_size r_marks r_arms r_root r_steps r_grade r_marksAboveOne q_rows q_sizes t_bytes t_length s_tokens s_starts s_size a_code a_codeSize a_at a_token a_fault a_place o_texts o_names o_operands o_size o_open o_refuses o_differs o_fees c_years c_rows c_size x_faultPlace ++ fr))  (n : Nat) (v : Int32 × Int32 × Int32) (hf : f_X0_takenFrom_4 fu c_years c_rows c_size n v = some r) : J l G (rmD 5 0 0) Y 0 0 4 [(0, .ref (gb G 30)), (1, .int v.1), (2, .int v.2.1), (3, .int v.2.2)] [] (WB G p_female p_born p_toldDeath p_lastYear p_father p_mother p_fatherGrade p_motherGrade p_size g_holder g_arms g_from g_size r_marks r_arms r_root r_steps r_grade r_marksAboveOne q_rows q_sizes t_bytes t_length s_tokens s_starts s_size a_code a_codeSize a_at a_token a_fault a_place o_texts o_names o_operands o_size o_open o_refuses o_differs o_fees c_years c_rows c_size x_faultPlace ++ fr) :=
  lp_ind (P := fun v : Int32 × Int32 × Int32 => J l G (rmD 5 0 0) Y 0 0 4 [(0, .ref (gb G 30)), (1, .int v.1), (2, .int v.2.1), (3, .int v.2.2)] [] (WB G p_female p_born p_toldDeath p_lastYear p_father p_mother p_fatherGrade p_motherGrade p_size g_holder g_arms g_from g_size r_marks r_arms r_root r_steps r_grade r_marksAboveOne q_rows q_sizes t_bytes t_length s_tokens s_starts s_size a_code a_codeSize a_at a_token a_fault a_place o_texts o_names o_operands o_size o_open o_refuses o_differs o_fees c_years c_rows c_size x_faultPlace ++ fr)) (fun k hk v hf => t_X0_takenFrom_4 hX hQ   (fun x1 x2 x3 h => hk (x1, x2, x3) h) v.1 v.2.1 v.2.2 hf) n v hf
def f_X0_takenFrom (fu : Nat) (c_years : Nat → Int32) (c_rows : Nat → Int32) (c_size : Int32) (x1 : Int32) : Option (Int32) :=
  f_X0_takenFrom_4 fu c_years c_rows c_size fu (x1, 0, 0)
set_option maxRecDepth 100000 in
set_option maxHeartbeats 4000000 in
theorem t_X0_takenFrom {fu : Nat}  (x1 : Int32) {r : Int32} (hf : f_X0_takenFrom fu c_years c_rows c_size x1 = some r) : Ci l G 5 0 0 yX0_takenFrom cX0_takenFrom 4 .int [.ref (gb G 30), .int x1] (WB G p_female p_born p_toldDeath p_lastYear p_father p_mother p_fatherGrade p_motherGrade p_size g_holder g_arms g_from g_size r_marks r_arms r_root r_steps r_grade r_marksAboveOne q_rows q_sizes t_bytes t_length s_tokens s_starts s_size a_code a_codeSize a_at a_token a_fault a_place o_texts o_names o_operands o_size o_open o_refuses o_differs o_fees c_years c_rows c_size x_faultPlace ++ fr) r (WB G p_female p_born p_toldDeath p_lastYear p_father p_mother p_fatherGrade p_motherGrade p_size g_holder g_arms g_from g_size r_marks r_arms r_root r_steps r_grade r_marksAboveOne q_rows q_sizes t_bytes t_length s_tokens s_starts s_size a_code a_codeSize a_at a_token a_fault a_place o_texts o_names o_operands o_size o_open o_refuses o_differs o_fees c_years c_rows c_size x_faultPlace ++ fr) := by
  refine Ci.of (by decide) (Nat.le_of_ble_eq_true rfl) (fun Y hX hQ => ?_)
  refine j_lv (lv' := [(0, .ref (gb G 30)), (1, .int x1)]) rfl ?_
  unfold f_X0_takenFrom at hf
  refine j_iconst (v := 0) hX dX0_takenFrom_0 1 rfl (by decide) ?_
  refine j_istore_n hX dX0_takenFrom_1 2 rfl rfl (by decide) (lv' := [(2, .int 0), (0, .ref (gb G 30)), (1, .int x1)]) rfl ?_
  refine j_iconst (v := 0) hX dX0_takenFrom_2 3 rfl (by decide) ?_
  refine j_istore_n hX dX0_takenFrom_3 4 rfl rfl (by decide) (lv' := [(3, .int 0), (2, .int 0), (0, .ref (gb G 30)), (1, .int x1)]) rfl ?_
  refine j_sub [2, 3, 1, 0] rfl ?_
  exact u_X0_takenFrom_4 hX hQ   fu (x1, 0, 0) hf
end
