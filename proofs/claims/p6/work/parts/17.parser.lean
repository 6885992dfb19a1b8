section
variable {l : Launch} {G : GT} {fr ws : va_W} {kT : Nat} {tA tC tN : Nat → Nat} {tF : Nat → Nat → Int32} {tY : Nat → Int32} {p_female : Nat → Int32} {p_born : Nat → Int32} {p_toldDeath : Nat → Int32} {p_lastYear : Nat → Int32} {p_father : Nat → Int32} {p_mother : Nat → Int32} {p_fatherGrade : Nat → Int32} {p_motherGrade : Nat → Int32} {p_size : Int32} {g_holder : Nat → Int32} {g_arms : Nat → Int32} {g_from : Nat → Int32} {g_size : Int32} {r_marks : Nat → Int32} {r_arms : Int32} {r_root : Int32} {r_steps : Int32} {r_grade : Int32} {r_marksAboveOne : Int32} {q_rows : Nat → Int32} {q_sizes : Nat → Int32} {t_bytes : Nat → Int32} {t_length : Int32} {s_tokens : Nat → Int32} {s_starts : Nat → Int32} {s_size : Int32} {a_code : Nat → Int32} {a_codeSize : Int32} {a_at : Int32} {a_token : Int32} {a_fault : Int32} {a_place : Int32} {o_texts : Nat → Option Nat} {o_names : Nat → Int32} {o_operands : Nat → Int32} {o_size : Int32} {o_open : Int32} {o_refuses : Int32} {o_differs : Int32} {o_fees : Int32} {c_years : Nat → Int32} {c_rows : Nat → Int32} {c_size : Int32} {x_faultPlace : Int32}
def f_X3_advance (s_tokens : Nat → Int32) (a_at : Int32) : Option (Int32 × Int32) :=
  if inb (min32 (a_at + 1) 400) 401 = true then some (min32 (a_at + 1) 400, s_tokens (Int32.toNatClampNeg (min32 (a_at + 1) 400))) else none
set_option maxRecDepth 100000 in
set_option maxHeartbeats 4000000 in
theorem t_X3_advance   {r : Int32 × Int32} (hf : f_X3_advance s_tokens a_at = some r) : Cv l G 2 0 0 yX3_advance cX3_advance 1 [.ref (gb G 21)] (WB G p_female p_born p_toldDeath p_lastYear p_father p_mother p_fatherGrade p_motherGrade p_size g_holder g_arms g_from g_size r_marks r_arms r_root r_steps r_grade r_marksAboveOne q_rows q_sizes t_bytes t_length s_tokens s_starts s_size a_code a_codeSize a_at a_token a_fault a_place o_texts o_names o_operands o_size o_open o_refuses o_differs o_fees c_years c_rows c_size x_faultPlace ++ fr) (WB G p_female p_born p_toldDeath p_lastYear p_father p_mother p_fatherGrade p_motherGrade p_size g_holder g_arms g_from g_size r_marks r_arms r_root r_steps r_grade r_marksAboveOne q_rows q_sizes t_bytes t_length s_tokens s_starts s_size a_code a_codeSize r.1 r.2 a_fault a_place o_texts o_names o_operands o_size o_open o_refuses o_differs o_fees c_years c_rows c_size x_faultPlace ++ fr) := by
  refine Cv.of (by decide) (Nat.le_of_ble_eq_true rfl) (fun Y hX hQ => ?_)
  refine j_lv (lv' := [(0, .ref (gb G 21))]) rfl ?_
  unfold f_X3_advance at hf
  refine j_aload_n hX dX3_advance_0 1 rfl 0 rfl rfl ?_
  refine j_aload_n hX dX3_advance_1 2 rfl 0 rfl rfl ?_
  refine j_get hX dX3_advance_2 5 rfl fg_X3_28 21 rfl rfl ?_
  refine j_iconst (v := 1) hX dX3_advance_5 6 rfl (by decide) ?_
  refine j_iadd hX dX3_advance_6 7 rfl ?_
  refine j_sipush (v := 400) hX dX3_advance_7 10 rfl (by decide) ?_
  refine j_min (rest := [.ref (gb G 21)]) hX dX3_advance_10 13 rfl mm_X3_57 (Nat.le_of_ble_eq_true rfl) (Nat.le_of_ble_eq_true rfl) (Nat.le_refl _) (Nat.le_refl _) ?_
  refine j_put hX dX3_advance_13 16 rfl fg_X3_28 ft_X3_3 21 rfl rfl rfl (Nat.le_of_ble_eq_true rfl) (ws' := (WB G p_female p_born p_toldDeath p_lastYear p_father p_mother p_fatherGrade p_motherGrade p_size g_holder g_arms g_from g_size r_marks r_arms r_root r_steps r_grade r_marksAboveOne q_rows q_sizes t_bytes t_length s_tokens s_starts s_size a_code a_codeSize (min32 (a_at + 1) 400) a_token a_fault a_place o_texts o_names o_operands o_size o_open o_refuses o_differs o_fees c_years c_rows c_size x_faultPlace ++ fr)) rfl ?_
  refine j_aload_n hX dX3_advance_16 17 rfl 0 rfl rfl ?_
  refine j_aload_n hX dX3_advance_17 18 rfl 0 rfl rfl ?_
  refine j_get hX dX3_advance_18 21 rfl fg_X3_12 21 rfl rfl ?_
  refine j_getN hX dX3_advance_21 24 rfl fn_X3_44 22 rfl rfl ?_
  refine j_aload_n hX dX3_advance_24 25 rfl 0 rfl rfl ?_
  refine j_get hX dX3_advance_25 28 rfl fg_X3_28 21 rfl rfl ?_
  obtain ⟨hb1, hf⟩ := ign hf
  refine j_iald hX dX3_advance_28 29 rfl 23 rfl hb1 ?_
  refine j_put hX dX3_advance_29 32 rfl fg_X3_31 ft_X3_4 21 rfl rfl rfl (Nat.le_of_ble_eq_true rfl) (ws' := (WB G p_female p_born p_toldDeath p_lastYear p_father p_mother p_fatherGrade p_motherGrade p_size g_holder g_arms g_from g_size r_marks r_arms r_root r_steps r_grade r_marksAboveOne q_rows q_sizes t_bytes t_length s_tokens s_starts s_size a_code a_codeSize (min32 (a_at + 1) 400) (s_tokens (Int32.toNatClampNeg (min32 (a_at + 1) 400))) a_fault a_place o_texts o_names o_operands o_size o_open o_refuses o_differs o_fees c_years c_rows c_size x_faultPlace ++ fr)) rfl ?_
  replace hf := Option.some.inj hf
  subst hf
  exact j_vret hX hQ dX3_advance_32
def g_X3_emit_30 (a_code : Nat → Int32) (a_codeSize : Int32) : Option ((Nat → Int32) × Int32) :=
  some (a_code, a_codeSize)
set_option maxRecDepth 100000 in
set_option maxHeartbeats 4000000 in
theorem t_X3_emit_30 {Y : YT} {r : (Nat → Int32) × Int32}  (hX : CX l G cX3_emit 2 RX3 Y) (hQ : EQv G Y 0 0 (WB G p_female p_born p_toldDeath p_lastYear p_father p_mother p_fatherGrade p_motherGrade p_size g_holder g_arms g_from g_size r_marks r_arms r_root r_steps r_grade r_marksAboveOne q_rows q_sizes t_bytes t_length s_tokens s_starts s_size r.1 r.2 a_at a_token a_fault a_place o_texts o_names o_operands o_size o_open o_refuses o_differs o_fees c_years c_rows c_size x_faultPlace ++ fr))   (hf : g_X3_emit_30 a_code a_codeSize = some r) : J l G (rmD 1 0 0) Y 0 0 30 [] [] (WB G p_female p_born p_toldDeath p_lastYear p_father p_mother p_fatherGrade p_motherGrade p_size g_holder g_arms g_from g_size r_marks r_arms r_root r_steps r_grade r_marksAboveOne q_rows q_sizes t_bytes t_length s_tokens s_starts s_size a_code a_codeSize a_at a_token a_fault a_place o_texts o_names o_operands o_size o_open o_refuses o_differs o_fees c_years c_rows c_size x_faultPlace ++ fr) := by
  unfold g_X3_emit_30 at hf
  replace hf := Option.some.inj hf
  subst hf
  exact j_vret hX hQ dX3_emit_30
def f_X3_emit (a_code : Nat → Int32) (a_codeSize : Int32) (x1 : Int32) : Option ((Nat → Int32) × Int32) :=
  if 400 ≤ a_codeSize then g_X3_emit_30 a_code a_codeSize else if inb a_codeSize 400 = true then g_X3_emit_30 (upd a_code (Int32.toNatClampNeg a_codeSize) x1) (a_codeSize + 1) else none
set_option maxRecDepth 100000 in
set_option maxHeartbeats 4000000 in
theorem t_X3_emit  (x1 : Int32) {r : (Nat → Int32) × Int32} (hf : f_X3_emit a_code a_codeSize x1 = some r) : Cv l G 1 0 0 yX3_emit cX3_emit 2 [.ref (gb G 21), .int x1] (WB G p_female p_born p_toldDeath p_lastYear p_father p_mother p_fatherGrade p_motherGrade p_size g_holder g_arms g_from g_size r_marks r_arms r_root r_steps r_grade r_marksAboveOne q_rows q_sizes t_bytes t_length s_tokens s_starts s_size a_code a_codeSize a_at a_token a_fault a_place o_texts o_names o_operands o_size o_open o_refuses o_differs o_fees c_years c_rows c_size x_faultPlace ++ fr) (WB G p_female p_born p_toldDeath p_lastYear p_father p_mother p_fatherGrade p_motherGrade p_size g_holder g_arms g_from g_size r_marks r_arms r_root r_steps r_grade r_marksAboveOne q_rows q_sizes t_bytes t_length s_tokens s_starts s_size r.1 r.2 a_at a_token a_fault a_place o_texts o_names o_operands o_size o_open o_refuses o_differs o_fees c_years c_rows c_size x_faultPlace ++ fr) := by
  refine Cv.of (by decide) (Nat.le_of_ble_eq_true rfl) (fun Y hX hQ => ?_)
  refine j_lv (lv' := [(0, .ref (gb G 21)), (1, .int x1)]) rfl ?_
  unfold f_X3_emit at hf
  refine j_aload_n hX dX3_emit_0 1 rfl 0 rfl rfl ?_
  refine j_get hX dX3_emit_1 4 rfl fg_X3_24 21 rfl rfl ?_
  refine j_sipush (v := 400) hX dX3_emit_4 7 rfl (by decide) ?_
  refine j_icmp_ge hX dX3_emit_7 10 30 rfl rfl (fun h1 => ?_) (fun h1 => ?_)
  · replace hf := itt h1 hf
    refine j_sub [] rfl ?_
    exact t_X3_emit_30 hX hQ    hf
  · replace hf := itf h1 hf
    refine j_aload_n hX dX3_emit_10 11 rfl 0 rfl rfl ?_
    refine j_get hX dX3_emit_11 14 rfl fg_X3_20 21 rfl rfl ?_
    refine j_aload_n hX dX3_emit_14 15 rfl 0 rfl rfl ?_
    refine j_get hX dX3_emit_15 18 rfl fg_X3_24 21 rfl rfl ?_
    refine j_iload_n hX dX3_emit_18 19 rfl 1 rfl rfl ?_
    obtain ⟨hb2, hf⟩ := ign hf
    refine j_iast hX dX3_emit_19 20 rfl 25 rfl hb2 (ws' := (WB G p_female p_born p_toldDeath p_lastYear p_father p_mother p_fatherGrade p_motherGrade p_size g_holder g_arms g_from g_size r_marks r_arms r_root r_steps r_grade r_marksAboveOne q_rows q_sizes t_bytes t_length s_tokens s_starts s_size (upd a_code (Int32.toNatClampNeg a_codeSize) x1) a_codeSize a_at a_token a_fault a_place o_texts o_names o_operands o_size o_open o_refuses o_differs o_fees c_years c_rows c_size x_faultPlace ++ fr)) rfl ?_
    refine j_aload_n hX dX3_emit_20 21 rfl 0 rfl rfl ?_
    refine j_dup hX dX3_emit_21 22 rfl rfl ?_
    refine j_get hX dX3_emit_22 25 rfl fg_X3_24 21 rfl rfl ?_
    refine j_iconst (v := 1) hX dX3_emit_25 26 rfl (by decide) ?_
    refine j_iadd hX dX3_emit_26 27 rfl ?_
    refine j_put hX dX3_emit_27 30 rfl fg_X3_24 ft_X3_2 21 rfl rfl rfl (Nat.le_of_ble_eq_true rfl) (ws' := (WB G p_female p_born p_toldDeath p_lastYear p_father p_mother p_fatherGrade p_motherGrade p_size g_holder g_arms g_from g_size r_marks r_arms r_root r_steps r_grade r_marksAboveOne q_rows q_sizes t_bytes t_length s_tokens s_starts s_size (upd a_code (Int32.toNatClampNeg a_codeSize) x1) (a_codeSize + 1) a_at a_token a_fault a_place o_texts o_names o_operands o_size o_open o_refuses o_differs o_fees c_years c_rows c_size x_faultPlace ++ fr)) rfl ?_
    refine j_sub [] rfl ?_
    exact t_X3_emit_30 hX hQ    hf
def g_X3_faultWithoutPart_42 (s0 : Int32) : Option (Int32) :=
  some s0
set_option maxRecDepth 100000 in
set_option maxHeartbeats 4000000 in
theorem t_X3_faultWithoutPart_42 {Y : YT} {r : Int32}  (hX : CX l G cX3_faultWithoutPart 2 RX3 Y) (hQ : EQi G Y 0 0 .int r (WB G p_female p_born p_toldDeath p_lastYear p_father p_mother p_fatherGrade p_motherGrade p_size g_holder g_arms g_from g_size r_marks r_arms r_root r_steps r_grade r_marksAboveOne q_rows q_sizes t_bytes t_length s_tokens s_starts s_size a_code a_codeSize a_at a_token a_fault a_place o_texts o_names o_operands o_size o_open o_refuses o_differs o_fees c_years c_rows c_size x_faultPlace ++ fr))  (s0 : Int32) (hf : g_X3_faultWithoutPart_42 s0 = some r) : J l G (rmD 1 0 0) Y 0 0 42 [] [.int s0] (WB G p_female p_born p_toldDeath p_lastYear p_father p_mother p_fatherGrade p_motherGrade p_size g_holder g_arms g_from g_size r_marks r_arms r_root r_steps r_grade r_marksAboveOne q_rows q_sizes t_bytes t_length s_tokens s_starts s_size a_code a_codeSize a_at a_token a_fault a_place o_texts o_names o_operands o_size o_open o_refuses o_differs o_fees c_years c_rows c_size x_faultPlace ++ fr) := by
  unfold g_X3_faultWithoutPart_42 at hf
  replace hf := Option.some.inj hf
  subst hf
  exact j_iret hX hQ dX3_faultWithoutPart_42
def g_X3_faultWithoutPart_32 (s0 : Int32) : Option (Int32) :=
  if s0 = 0 then g_X3_faultWithoutPart_42 1 else g_X3_faultWithoutPart_42 3
set_option maxRecDepth 100000 in
set_option maxHeartbeats 4000000 in
theorem t_X3_faultWithoutPart_32 {Y : YT} {r : Int32}  (hX : CX l G cX3_faultWithoutPart 2 RX3 Y) (hQ : EQi G Y 0 0 .int r (WB G p_female p_born p_toldDeath p_lastYear p_father p_mother p_fatherGrade p_motherGrade p_size g_holder g_arms g_from g_size r_marks r_arms r_root r_steps r_grade r_marksAboveOne q_rows q_sizes t_bytes t_length s_tokens s_starts s_size a_code a_codeSize a_at a_token a_fault a_place o_texts o_names o_operands o_size o_open o_refuses o_differs o_fees c_years c_rows c_size x_faultPlace ++ fr))  (s0 : Int32) (hf : g_X3_faultWithoutPart_32 s0 = some r) : J l G (rmD 1 0 0) Y 0 0 32 [] [.int s0] (WB G p_female p_born p_toldDeath p_lastYear p_father p_mother p_fatherGrade p_motherGrade p_size g_holder g_arms g_from g_size r_marks r_arms r_root r_steps r_grade r_marksAboveOne q_rows q_sizes t_bytes t_length s_tokens s_starts s_size a_code a_codeSize a_at a_token a_fault a_place o_texts o_names o_operands o_size o_open o_refuses o_differs o_fees c_years c_rows c_size x_faultPlace ++ fr) := by
  unfold g_X3_faultWithoutPart_32 at hf
  refine j_istore_n hX dX3_faultWithoutPart_32 33 rfl rfl (by decide) (lv' := [(1, .int s0)]) rfl ?_
  refine j_iload_n hX dX3_faultWithoutPart_33 34 rfl 0 rfl rfl ?_
  refine j_if_eq hX dX3_faultWithoutPart_34 37 41 rfl rfl (fun h3 => ?_) (fun h3 => ?_)
  · replace hf := itt h3 hf
    refine j_iconst (v := 1) hX dX3_faultWithoutPart_41 42 rfl (by decide) ?_
    refine j_sub [] rfl ?_
    exact t_X3_faultWithoutPart_42 hX hQ   1 hf
  · replace hf := itf h3 hf
    refine j_iconst (v := 3) hX dX3_faultWithoutPart_37 38 rfl (by decide) ?_
    refine j_goto hX dX3_faultWithoutPart_38 42 rfl ?_
    refine j_sub [] rfl ?_
    exact t_X3_faultWithoutPart_42 hX hQ   3 hf
def g_X3_faultWithoutPart_31  : Option (Int32) :=
  g_X3_faultWithoutPart_32 0
set_option maxRecDepth 100000 in
set_option maxHeartbeats 4000000 in
theorem t_X3_faultWithoutPart_31 {Y : YT} {r : Int32}  (hX : CX l G cX3_faultWithoutPart 2 RX3 Y) (hQ : EQi G Y 0 0 .int r (WB G p_female p_born p_toldDeath p_lastYear p_father p_mother p_fatherGrade p_motherGrade p_size g_holder g_arms g_from g_size r_marks r_arms r_root r_steps r_grade r_marksAboveOne q_rows q_sizes t_bytes t_length s_tokens s_starts s_size a_code a_codeSize a_at a_token a_fault a_place o_texts o_names o_operands o_size o_open o_refuses o_differs o_fees c_years c_rows c_size x_faultPlace ++ fr))   (hf : g_X3_faultWithoutPart_31  = some r) : J l G (rmD 1 0 0) Y 0 0 31 [] [] (WB G p_female p_born p_toldDeath p_lastYear p_father p_mother p_fatherGrade p_motherGrade p_size g_holder g_arms g_from g_size r_marks r_arms r_root r_steps r_grade r_marksAboveOne q_rows q_sizes t_bytes t_length s_tokens s_starts s_size a_code a_codeSize a_at a_token a_fault a_place o_texts o_names o_operands o_size o_open o_refuses o_differs o_fees c_years c_rows c_size x_faultPlace ++ fr) := by
  unfold g_X3_faultWithoutPart_31 at hf
  refine j_iconst (v := 0) hX dX3_faultWithoutPart_31 32 rfl (by decide) ?_
  exact t_X3_faultWithoutPart_32 hX hQ   0 hf
def f_X3_faultWithoutPart (a_token : Int32) : Option (Int32) :=
  if a_token = 2 then some 2 else if a_token < 3 then g_X3_faultWithoutPart_31  else if 9 < a_token then g_X3_faultWithoutPart_31  else g_X3_faultWithoutPart_32 1
set_option maxRecDepth 100000 in
set_option maxHeartbeats 4000000 in
theorem t_X3_faultWithoutPart   {r : Int32} (hf : f_X3_faultWithoutPart a_token = some r) : Ci l G 1 0 0 yX3_faultWithoutPart cX3_faultWithoutPart 2 .int [.ref (gb G 21)] (WB G p_female p_born p_toldDeath p_lastYear p_father p_mother p_fatherGrade p_motherGrade p_size g_holder g_arms g_from g_size r_marks r_arms r_root r_steps r_grade r_marksAboveOne q_rows q_sizes t_bytes t_length s_tokens s_starts s_size a_code a_codeSize a_at a_token a_fault a_place o_texts o_names o_operands o_size o_open o_refuses o_differs o_fees c_years c_rows c_size x_faultPlace ++ fr) r (WB G p_female p_born p_toldDeath p_lastYear p_father p_mother p_fatherGrade p_motherGrade p_size g_holder g_arms g_from g_size r_marks r_arms r_root r_steps r_grade r_marksAboveOne q_rows q_sizes t_bytes t_length s_tokens s_starts s_size a_code a_codeSize a_at a_token a_fault a_place o_texts o_names o_operands o_size o_open o_refuses o_differs o_fees c_years c_rows c_size x_faultPlace ++ fr) := by
  refine Ci.of (by decide) (Nat.le_of_ble_eq_true rfl) (fun Y hX hQ => ?_)
  refine j_lv (lv' := [(0, .ref (gb G 21))]) rfl ?_
  unfold f_X3_faultWithoutPart at hf
  refine j_aload_n hX dX3_faultWithoutPart_0 1 rfl 0 rfl rfl ?_
  refine j_get hX dX3_faultWithoutPart_1 4 rfl fg_X3_31 21 rfl rfl ?_
  refine j_iconst (v := 2) hX dX3_faultWithoutPart_4 5 rfl (by decide) ?_
  refine j_icmp_ne hX dX3_faultWithoutPart_5 8 10 rfl rfl (fun h1 => ?_) (fun h1 => ?_)
  · replace hf := itf h1 hf
    refine j_aload_n hX dX3_faultWithoutPart_10 11 rfl 0 rfl rfl ?_
    refine j_get hX dX3_faultWithoutPart_11 14 rfl fg_X3_31 21 rfl rfl ?_
    refine j_iconst (v := 3) hX dX3_faultWithoutPart_14 15 rfl (by decide) ?_
    refine j_icmp_lt hX dX3_faultWithoutPart_15 18 31 rfl rfl (fun h2 => ?_) (fun h2 => ?_)
    · replace hf := itt h2 hf
      refine j_sub [] rfl ?_
      exact t_X3_faultWithoutPart_31 hX hQ    hf
    · replace hf := itf h2 hf
      refine j_aload_n hX dX3_faultWithoutPart_18 19 rfl 0 rfl rfl ?_
      refine j_get hX dX3_faultWithoutPart_19 22 rfl fg_X3_31 21 rfl rfl ?_
      refine j_bipush (v := 9) hX dX3_faultWithoutPart_22 24 rfl (by decide) ?_
      refine j_icmp_gt hX dX3_faultWithoutPart_24 27 31 rfl rfl (fun h4 => ?_) (fun h4 => ?_)
      · replace hf := itt h4 hf
        refine j_sub [] rfl ?_
        exact t_X3_faultWithoutPart_31 hX hQ    hf
      · replace hf := itf h4 hf
        refine j_iconst (v := 1) hX dX3_faultWithoutPart_27 28 rfl (by decide) ?_
        refine j_goto hX dX3_faultWithoutPart_28 32 rfl ?_
        refine j_sub [] rfl ?_
        exact t_X3_faultWithoutPart_32 hX hQ   1 hf
  · replace hf := itt h1 hf
    refine j_iconst (v := 2) hX dX3_faultWithoutPart_8 9 rfl (by decide) ?_
    replace hf := Option.some.inj hf
    subst hf
    exact j_iret hX hQ dX3_faultWithoutPart_9
def g_X3_blame_33 (a_token : Int32) (a_fault : Int32) (a_place : Int32) : Option (Int32 × Int32 × Int32) :=
  some (a_token, a_fault, a_place)
set_option maxRecDepth 100000 in
set_option maxHeartbeats 4000000 in
theorem t_X3_blame_33 {Y : YT} {r : Int32 × Int32 × Int32}  (hX : CX l G cX3_blame 2 RX3 Y) (hQ : EQv G Y 0 0 (WB G p_female p_born p_toldDeath p_lastYear p_father p_mother p_fatherGrade p_motherGrade p_size g_holder g_arms g_from g_size r_marks r_arms r_root r_steps r_grade r_marksAboveOne q_rows q_sizes t_bytes t_length s_tokens s_starts s_size a_code a_codeSize a_at r.1 r.2.1 r.2.2 o_texts o_names o_operands o_size o_open o_refuses o_differs o_fees c_years c_rows c_size x_faultPlace ++ fr))   (hf : g_X3_blame_33 a_token a_fault a_place = some r) : J l G (rmD 1 0 0) Y 0 0 33 [] [] (WB G p_female p_born p_toldDeath p_lastYear p_father p_mother p_fatherGrade p_motherGrade p_size g_holder g_arms g_from g_size r_marks r_arms r_root r_steps r_grade r_marksAboveOne q_rows q_sizes t_bytes t_length s_tokens s_starts s_size a_code a_codeSize a_at a_token a_fault a_place o_texts o_names o_operands o_size o_open o_refuses o_differs o_fees c_years c_rows c_size x_faultPlace ++ fr) := by
  unfold g_X3_blame_33 at hf
  replace hf := Option.some.inj hf
  subst hf
  exact j_vret hX hQ dX3_blame_33
def f_X3_blame (s_starts : Nat → Int32) (a_at : Int32) (a_token : Int32) (a_fault : Int32) (a_place : Int32) (x1 : Int32) : Option (Int32 × Int32 × Int32) :=
  if a_fault = 0 then if inb a_at 401 = true then g_X3_blame_33 ((-1)) x1 (s_starts (Int32.toNatClampNeg a_at)) else none else g_X3_blame_33 a_token a_fault a_place
set_option maxRecDepth 100000 in
set_option maxHeartbeats 4000000 in
theorem t_X3_blame  (x1 : Int32) {r : Int32 × Int32 × Int32} (hf : f_X3_blame s_starts a_at a_token a_fault a_place x1 = some r) : Cv l G 1 0 0 yX3_blame cX3_blame 2 [.ref (gb G 21), .int x1] (WB G p_female p_born p_toldDeath p_lastYear p_father p_mother p_fatherGrade p_motherGrade p_size g_holder g_arms g_from g_size r_marks r_arms r_root r_steps r_grade r_marksAboveOne q_rows q_sizes t_bytes t_length s_tokens s_starts s_size a_code a_codeSize a_at a_token a_fault a_place o_texts o_names o_operands o_size o_open o_refuses o_differs o_fees c_years c_rows c_size x_faultPlace ++ fr) (WB G p_female p_born p_toldDeath p_lastYear p_father p_mother p_fatherGrade p_motherGrade p_size g_holder g_arms g_from g_size r_marks r_arms r_root r_steps r_grade r_marksAboveOne q_rows q_sizes t_bytes t_length s_tokens s_starts s_size a_code a_codeSize a_at r.1 r.2.1 r.2.2 o_texts o_names o_operands o_size o_open o_refuses o_differs o_fees c_years c_rows c_size x_faultPlace ++ fr) := by
  refine Cv.of (by decide) (Nat.le_of_ble_eq_true rfl) (fun Y hX hQ => ?_)
  refine j_lv (lv' := [(0, .ref (gb G 21)), (1, .int x1)]) rfl ?_
  unfold f_X3_blame at hf
  refine j_aload_n hX dX3_blame_0 1 rfl 0 rfl rfl ?_
  refine j_get hX dX3_blame_1 4 rfl fg_X3_34 21 rfl rfl ?_
  refine j_if_ne hX dX3_blame_4 7 33 rfl rfl (fun h1 => ?_) (fun h1 => ?_)
  · replace hf := itf h1 hf
    refine j_sub [] rfl ?_
    exact t_X3_blame_33 hX hQ    hf
  · replace hf := itt h1 hf
    refine j_aload_n hX dX3_blame_7 8 rfl 0 rfl rfl ?_
    refine j_iload_n hX dX3_blame_8 9 rfl 1 rfl rfl ?_
    refine j_put hX dX3_blame_9 12 rfl fg_X3_34 ft_X3_5 21 rfl rfl rfl (Nat.le_of_ble_eq_true rfl) (ws' := (WB G p_female p_born p_toldDeath p_lastYear p_father p_mother p_fatherGrade p_motherGrade p_size g_holder g_arms g_from g_size r_marks r_arms r_root r_steps r_grade r_marksAboveOne q_rows q_sizes t_bytes t_length s_tokens s_starts s_size a_code a_codeSize a_at a_token x1 a_place o_texts o_names o_operands o_size o_open o_refuses o_differs o_fees c_years c_rows c_size x_faultPlace ++ fr)) rfl ?_
    refine j_aload_n hX dX3_blame_12 13 rfl 0 rfl rfl ?_
    refine j_aload_n hX dX3_blame_13 14 rfl 0 rfl rfl ?_
    refine j_get hX dX3_blame_14 17 rfl fg_X3_12 21 rfl rfl ?_
    refine j_getN hX dX3_blame_17 20 rfl fn_X3_63 22 rfl rfl ?_
    refine j_aload_n hX dX3_blame_20 21 rfl 0 rfl rfl ?_
    refine j_get hX dX3_blame_21 24 rfl fg_X3_28 21 rfl rfl ?_
    obtain ⟨hb2, hf⟩ := ign hf
    refine j_iald hX dX3_blame_24 25 rfl 24 rfl hb2 ?_
    refine j_put hX dX3_blame_25 28 rfl fg_X3_37 ft_X3_6 21 rfl rfl rfl (Nat.le_of_ble_eq_true rfl) (ws' := (WB G p_female p_born p_toldDeath p_lastYear p_father p_mother p_fatherGrade p_motherGrade p_size g_holder g_arms g_from g_size r_marks r_arms r_root r_steps r_grade r_marksAboveOne q_rows q_sizes t_bytes t_length s_tokens s_starts s_size a_code a_codeSize a_at a_token x1 (s_starts (Int32.toNatClampNeg a_at)) o_texts o_names o_operands o_size o_open o_refuses o_differs o_fees c_years c_rows c_size x_faultPlace ++ fr)) rfl ?_
    refine j_aload_n hX dX3_blame_28 29 rfl 0 rfl rfl ?_
    refine j_iconst (v := (-1)) hX dX3_blame_29 30 rfl (by decide) ?_
    refine j_put hX dX3_blame_30 33 rfl fg_X3_31 ft_X3_4 21 rfl rfl rfl (Nat.le_of_ble_eq_true rfl) (ws' := (WB G p_female p_born p_toldDeath p_lastYear p_father p_mother p_fatherGrade p_motherGrade p_size g_holder g_arms g_from g_size r_marks r_arms r_root r_steps r_grade r_marksAboveOne q_rows q_sizes t_bytes t_length s_tokens s_starts s_size a_code a_codeSize a_at ((-1)) x1 (s_starts (Int32.toNatClampNeg a_at)) o_texts o_names o_operands o_size o_open o_refuses o_differs o_fees c_years c_rows c_size x_faultPlace ++ fr)) rfl ?_
    refine j_sub [] rfl ?_
    exact t_X3_blame_33 hX hQ    hf
def g_X3_readPart_87 (a_code : Nat → Int32) (a_codeSize : Int32) (a_at : Int32) (a_token : Int32) (a_fault : Int32) (a_place : Int32) : Option ((Nat → Int32) × Int32 × Int32 × Int32 × Int32 × Int32) :=
  some (a_code, a_codeSize, a_at, a_token, a_fault, a_place)
set_option maxRecDepth 100000 in
set_option maxHeartbeats 4000000 in
theorem t_X3_readPart_87 {Y : YT} {r : (Nat → Int32) × Int32 × Int32 × Int32 × Int32 × Int32}  (hX : CX l G cX3_readPart 2 RX3 Y) (hQ : EQv G Y 0 0 (WB G p_female p_born p_toldDeath p_lastYear p_father p_mother p_fatherGrade p_motherGrade p_size g_holder g_arms g_from g_size r_marks r_arms r_root r_steps r_grade r_marksAboveOne q_rows q_sizes t_bytes t_length s_tokens s_starts s_size r.1 r.2.1 r.2.2.1 r.2.2.2.1 r.2.2.2.2.1 r.2.2.2.2.2 o_texts o_names o_operands o_size o_open o_refuses o_differs o_fees c_years c_rows c_size x_faultPlace ++ fr)) {dk : Nat} {ke : Int32 → (Nat → Int32) → Int32 → Int32 → Int32 → Int32 → Int32 → Option ((Nat → Int32) × Int32 × Int32 × Int32 × Int32 × Int32)} (hke : ∀ (x1 : Int32) (a_code : Nat → Int32) (a_codeSize : Int32) (a_at : Int32) (a_token : Int32) (a_fault : Int32) (a_place : Int32) (r : (Nat → Int32) × Int32 × Int32 × Int32 × Int32 × Int32), ke x1 a_code a_codeSize a_at a_token a_fault a_place = some r → Cv l G dk 0 0 yX3_readExpression cX3_readExpression 4 [.ref (gb G 21), .int x1] (WB G p_female p_born p_toldDeath p_lastYear p_father p_mother p_fatherGrade p_motherGrade p_size g_holder g_arms g_from g_size r_marks r_arms r_root r_steps r_grade r_marksAboveOne q_rows q_sizes t_bytes t_length s_tokens s_starts s_size a_code a_codeSize a_at a_token a_fault a_place o_texts o_names o_operands o_size o_open o_refuses o_differs o_fees c_years c_rows c_size x_faultPlace ++ fr) (WB G p_female p_born p_toldDeath p_lastYear p_father p_mother p_fatherGrade p_motherGrade p_size g_holder g_arms g_from g_size r_marks r_arms r_root r_steps r_grade r_marksAboveOne q_rows q_sizes t_bytes t_length s_tokens s_starts s_size r.1 r.2.1 r.2.2.1 r.2.2.2.1 r.2.2.2.2.1 r.2.2.2.2.2 o_texts o_names o_operands o_size o_open o_refuses o_differs o_fees c_years c_rows c_size x_faultPlace ++ fr)) (hdk : 10 ≤ dk)   (hf : g_X3_readPart_87 a_code a_codeSize a_at a_token a_fault a_place = some r) : J l G (rmD (dk + 1) 0 0) Y 0 0 87 [] [] (WB G p_female p_born p_toldDeath p_lastYear p_father p_mother p_fatherGrade p_motherGrade p_size g_holder g_arms g_from g_size r_marks r_arms r_root r_steps r_grade r_marksAboveOne q_rows q_sizes t_bytes t_length s_tokens s_starts s_size a_code a_codeSize a_at a_token a_fault a_place o_texts o_names o_operands o_size o_open o_refuses o_differs o_fees c_years c_rows c_size x_faultPlace ++ fr) := by
  unfold g_X3_readPart_87 at hf
  replace hf := Option.some.inj hf
  subst hf
  exact j_vret hX hQ dX3_readPart_87
def g_X3_readPart_20 (s_tokens : Nat → Int32) (a_code : Nat → Int32) (a_codeSize : Int32) (a_at : Int32) (a_token : Int32) (a_fault : Int32) (a_place : Int32) : Option ((Nat → Int32) × Int32 × Int32 × Int32 × Int32 × Int32) :=
  (f_X3_emit a_code a_codeSize a_token).bind fun v3 => (f_X3_advance s_tokens a_at).bind fun v4 => g_X3_readPart_87 v3.1 v3.2 v4.1 v4.2 a_fault a_place
set_option maxRecDepth 100000 in
set_option maxHeartbeats 4000000 in
theorem t_X3_readPart_20 {Y : YT} {r : (Nat → Int32) × Int32 × Int32 × Int32 × Int32 × Int32}  (hX : CX l G cX3_readPart 2 RX3 Y) (hQ : EQv G Y 0 0 (WB G p_female p_born p_toldDeath p_lastYear p_father p_mother p_fatherGrade p_motherGrade p_size g_holder g_arms g_from g_size r_marks r_arms r_root r_steps r_grade r_marksAboveOne q_rows q_sizes t_bytes t_length s_tokens s_starts s_size r.1 r.2.1 r.2.2.1 r.2.2.2.1 r.2.2.2.2.1 r.2.2.2.2.2 o_texts o_names o_operands o_size o_open o_refuses o_differs o_fees c_years c_rows c_size x_faultPlace ++ fr)) {dk : Nat} {ke : Int32 → (Nat → Int32) → Int32 → Int32 → Int32 → Int32 → Int32 → Option ((Nat → Int32) × Int32 × Int32 × Int32 × Int32 × Int32)} (hke : ∀ (x1 : Int32) (a_code : Nat → Int32) (a_codeSize : Int32) (a_at : Int32) (a_token : Int32) (a_fault : Int32) (a_place : Int32) (r : (Nat → Int32) × Int32 × Int32 × Int32 × Int32 × Int32), ke x1 a_code a_codeSize a_at a_token a_fault a_place = some r → Cv l G dk 0 0 yX3_readExpression cX3_readExpression 4 [.ref (gb G 21), .int x1] (WB G p_female p_born p_toldDeath p_lastYear p_father p_mother p_fatherGrade p_motherGrade p_size g_holder g_arms g_from g_size r_marks r_arms r_root r_steps r_grade r_marksAboveOne q_rows q_sizes t_bytes t_length s_tokens s_starts s_size a_code a_codeSize a_at a_token a_fault a_place o_texts o_names o_operands o_size o_open o_refuses o_differs o_fees c_years c_rows c_size x_faultPlace ++ fr) (WB G p_female p_born p_toldDeath p_lastYear p_father p_mother p_fatherGrade p_motherGrade p_size g_holder g_arms g_from g_size r_marks r_arms r_root r_steps r_grade r_marksAboveOne q_rows q_sizes t_bytes t_length s_tokens s_starts s_size r.1 r.2.1 r.2.2.1 r.2.2.2.1 r.2.2.2.2.1 r.2.2.2.2.2 o_texts o_names o_operands o_size o_open o_refuses o_differs o_fees c_years c_rows c_size x_faultPlace ++ fr)) (hdk : 10 ≤ dk)   (hf : g_X3_readPart_20 s_tokens a_code a_codeSize a_at a_token a_fault a_place = some r) : J l G (rmD (dk + 1) 0 0) Y 0 0 20 [(0, .ref (gb G 21))] [] (WB G p_female p_born p_toldDeath p_lastYear p_father p_mother p_fatherGrade p_motherGrade p_size g_holder g_arms g_from g_size r_marks r_arms r_root r_steps r_grade r_marksAboveOne q_rows q_sizes t_bytes t_length s_tokens s_starts s_size a_code a_codeSize a_at a_token a_fault a_place o_texts o_names o_operands o_size o_open o_refuses o_differs o_fees c_years c_rows c_size x_faultPlace ++ fr) := by
  unfold g_X3_readPart_20 at hf
  refine j_aload_n hX dX3_readPart_20 21 rfl 0 rfl rfl ?_
  refine j_aload_n hX dX3_readPart_21 22 rfl 0 rfl rfl ?_
  refine j_get hX dX3_readPart_22 25 rfl fg_X3_31 21 rfl rfl ?_
  obtain ⟨v3, hv3, hf⟩ := ibd hf
  refine z_v (As := [.int a_token]) (rest := []) (q0 := 21) hX dX3_readPart_25 28 rfl (t_X3_emit a_token hv3) mc_X3_emit mv_X3_emit ml_X3_75 rfl rfl (by omega) (Nat.le_refl _) (Nat.le_refl _) rfl (Nat.le_of_ble_eq_true rfl) ?_
  refine j_aload_n hX dX3_readPart_28 29 rfl 0 rfl rfl ?_
  obtain ⟨v4, hv4, hf⟩ := ibd hf
  refine z_v (As := []) (rest := []) (q0 := 21) hX dX3_readPart_29 32 rfl (t_X3_advance  hv4) mc_X3_advance mv_X3_advance ml_X3_69 rfl rfl (by omega) (Nat.le_refl _) (Nat.le_refl _) rfl (Nat.le_of_ble_eq_true rfl) ?_
  refine j_goto hX dX3_readPart_32 87 rfl ?_
  refine j_sub [] rfl ?_
  exact t_X3_readPart_87 hX hQ hke hdk   hf
def f_X3_readPart (s_tokens : Nat → Int32) (s_starts : Nat → Int32) (a_code : Nat → Int32) (a_codeSize : Int32) (a_at : Int32) (a_token : Int32) (a_fault : Int32) (a_place : Int32) (ke : Int32 → (Nat → Int32) → Int32 → Int32 → Int32 → Int32 → Int32 → Option ((Nat → Int32) × Int32 × Int32 × Int32 × Int32 × Int32)) (x1 : Int32) : Option ((Nat → Int32) × Int32 × Int32 × Int32 × Int32 × Int32) :=
  (f_X7_isNumber a_token).bind fun v1 => if v1 = 0 then (f_X7_isName a_token).bind fun v5 => if v5 = 0 then if a_token = 40 then (f_X3_advance s_tokens a_at).bind fun v10 => (ke (x1 + 1) a_code a_codeSize v10.1 v10.2 a_fault a_place).bind fun v11 => if v11.2.2.2.1 = 41 then (f_X3_advance s_tokens v11.2.2.1).bind fun v14 => g_X3_readPart_87 v11.1 v11.2.1 v14.1 v14.2 v11.2.2.2.2.1 v11.2.2.2.2.2 else (f_X3_blame s_starts v11.2.2.1 v11.2.2.2.1 v11.2.2.2.2.1 v11.2.2.2.2.2 1).bind fun v13 => g_X3_readPart_87 v11.1 v11.2.1 v11.2.2.1 v13.1 v13.2.1 v13.2.2 else (f_X3_faultWithoutPart a_token).bind fun v8 => (f_X3_blame s_starts a_at a_token a_fault a_place v8).bind fun v9 => g_X3_readPart_87 a_code a_codeSize a_at v9.1 v9.2.1 v9.2.2 else g_X3_readPart_20 s_tokens a_code a_codeSize a_at a_token a_fault a_place else g_X3_readPart_20 s_tokens a_code a_codeSize a_at a_token a_fault a_place
set_option maxRecDepth 100000 in
set_option maxHeartbeats 4000000 in
theorem t_X3_readPart  {dk : Nat} {ke : Int32 → (Nat → Int32) → Int32 → Int32 → Int32 → Int32 → Int32 → Option ((Nat → Int32) × Int32 × Int32 × Int32 × Int32 × Int32)} (hke : ∀ (x1 : Int32) (a_code : Nat → Int32) (a_codeSize : Int32) (a_at : Int32) (a_token : Int32) (a_fault : Int32) (a_place : Int32) (r : (Nat → Int32) × Int32 × Int32 × Int32 × Int32 × Int32), ke x1 a_code a_codeSize a_at a_token a_fault a_place = some r → Cv l G dk 0 0 yX3_readExpression cX3_readExpression 4 [.ref (gb G 21), .int x1] (WB G p_female p_born p_toldDeath p_lastYear p_father p_mother p_fatherGrade p_motherGrade p_size g_holder g_arms g_from g_size r_marks r_arms r_root r_steps r_grade r_marksAboveOne q_rows q_sizes t_bytes t_length s_tokens s_starts s_size a_code a_codeSize a_at a_token a_fault a_place o_texts o_names o_operands o_size o_open o_refuses o_differs o_fees c_years c_rows c_size x_faultPlace ++ fr) (WB G p_female p_born p_toldDeath p_lastYear p_father p_mother p_fatherGrade p_motherGrade p_size g_holder g_arms g_from g_size r_marks r_arms r_root r_steps r_grade r_marksAboveOne q_rows q_sizes t_bytes t_length s_tokens s_starts s_size r.1 r.2.1 r.2.2.1 r.2.2.2.1 r.2.2.2.2.1 r.2.2.2.2.2 o_texts o_names o_operands o_size o_open o_refuses o_differs o_fees c_years c_rows c_size x_faultPlace ++ fr)) (hdk : 10 ≤ dk) (x1 : Int32) {r : (Nat → Int32) × Int32 × Int32 × Int32 × Int32 × Int32} (hf : f_X3_readPart s_tokens s_starts a_code a_codeSize a_at a_token a_fault a_place ke x1 = some r) : Cv l G (dk + 1) 0 0 yX3_readPart cX3_readPart 2 [.ref (gb G 21), .int x1] (WB G p_female p_born p_toldDeath p_lastYear p_father p_mother p_fatherGrade p_motherGrade p_size g_holder g_arms g_from g_size r_marks r_arms r_root r_steps r_grade r_marksAboveOne q_rows q_sizes t_bytes t_length s_tokens s_starts s_size a_code a_codeSize a_at a_token a_fault a_place o_texts o_names o_operands o_size o_open o_refuses o_differs o_fees c_years c_rows c_size x_faultPlace ++ fr) (WB G p_female p_born p_toldDeath p_lastYear p_father p_mother p_fatherGrade p_motherGrade p_size g_holder g_arms g_from g_size r_marks r_arms r_root r_steps r_grade r_marksAboveOne q_rows q_sizes t_bytes t_length s_tokens s_starts s_size r.1 r.2.1 r.2.2.1 r.2.2.2.1 r.2.2.2.2.1 r.2.2.2.2.2 o_texts o_names o_operands o_size o_open o_refuses o_differs o_fees c_years c_rows c_size x_faultPlace ++ fr) := by
  refine Cv.of (by decide) (Nat.le_of_ble_eq_true rfl) (fun Y hX hQ => ?_)
  refine j_lv (lv' := [(0, .ref (gb G 21)), (1, .int x1)]) rfl ?_
  unfold f_X3_readPart at hf
  refine j_aload_n hX dX3_readPart_0 1 rfl 0 rfl rfl ?_
  refine j_get hX dX3_readPart_1 4 rfl fg_X3_31 21 rfl rfl ?_
  obtain ⟨v1, hv1, hf⟩ := ibd hf
  refine z_si (As := [.int a_token]) (rest := []) hX dX3_readPart_4 7 rfl (t_X7_isNumber a_token hv1) mc_X7_isNumber ms_X7_isNumber ml_X3_89 (by omega) (Nat.le_refl _) (Nat.le_refl _) rfl (Nat.le_of_ble_eq_true rfl) ?_
  refine j_if_ne hX dX3_readPart_7 10 20 rfl rfl (fun h2 => ?_) (fun h2 => ?_)
  · replace hf := itf h2 hf
    refine j_sub [0] rfl ?_
    exact t_X3_readPart_20 hX hQ hke hdk   hf
  · replace hf := itt h2 hf
    refine j_aload_n hX dX3_readPart_10 11 rfl 0 rfl rfl ?_
    refine j_get hX dX3_readPart_11 14 rfl fg_X3_31 21 rfl rfl ?_
    obtain ⟨v5, hv5, hf⟩ := ibd hf
    refine z_si (As := [.int a_token]) (rest := []) hX dX3_readPart_14 17 rfl (t_X7_isName a_token hv5) mc_X7_isName ms_X7_isName ml_X3_93 (by omega) (Nat.le_refl _) (Nat.le_refl _) rfl (Nat.le_of_ble_eq_true rfl) ?_
    refine j_if_eq hX dX3_readPart_17 20 35 rfl rfl (fun h6 => ?_) (fun h6 => ?_)
    · replace hf := itt h6 hf
      refine j_aload_n hX dX3_readPart_35 36 rfl 0 rfl rfl ?_
      refine j_get hX dX3_readPart_36 39 rfl fg_X3_31 21 rfl rfl ?_
      refine j_bipush (v := 40) hX dX3_readPart_39 41 rfl (by decide) ?_
      refine j_icmp_ne hX dX3_readPart_41 44 79 rfl rfl (fun h7 => ?_) (fun h7 => ?_)
      · replace hf := itf h7 hf
        refine j_aload_n hX dX3_readPart_79 80 rfl 0 rfl rfl ?_
        refine j_aload_n hX dX3_readPart_80 81 rfl 0 rfl rfl ?_
        obtain ⟨v8, hv8, hf⟩ := ibd hf
        refine z_i (As := []) (rest := [.ref (gb G 21)]) (q0 := 21) hX dX3_readPart_81 84 rfl (t_X3_faultWithoutPart  hv8) mc_X3_faultWithoutPart mv_X3_faultWithoutPart ml_X3_82 rfl rfl (by omega) (Nat.le_refl _) (Nat.le_refl _) rfl (Nat.le_of_ble_eq_true rfl) ?_
        obtain ⟨v9, hv9, hf⟩ := ibd hf
        refine z_v (As := [.int v8]) (rest := []) (q0 := 21) hX dX3_readPart_84 87 rfl (t_X3_blame v8 hv9) mc_X3_blame mv_X3_blame ml_X3_66 rfl rfl (by omega) (Nat.le_refl _) (Nat.le_refl _) rfl (Nat.le_of_ble_eq_true rfl) ?_
        refine j_sub [] rfl ?_
        exact t_X3_readPart_87 hX hQ hke hdk   hf
      · replace hf := itt h7 hf
        refine j_aload_n hX dX3_readPart_44 45 rfl 0 rfl rfl ?_
        obtain ⟨v10, hv10, hf⟩ := ibd hf
        refine z_v (As := []) (rest := []) (q0 := 21) hX dX3_readPart_45 48 rfl (t_X3_advance  hv10) mc_X3_advance mv_X3_advance ml_X3_69 rfl rfl (by omega) (Nat.le_refl _) (Nat.le_refl _) rfl (Nat.le_of_ble_eq_true rfl) ?_
        refine j_aload_n hX dX3_readPart_48 49 rfl 0 rfl rfl ?_
        refine j_iload_n hX dX3_readPart_49 50 rfl 1 rfl rfl ?_
        refine j_iconst (v := 1) hX dX3_readPart_50 51 rfl (by decide) ?_
        refine j_iadd hX dX3_readPart_51 52 rfl ?_
        obtain ⟨v11, hv11, hf⟩ := ibd hf
        refine z_v (As := [.int (x1 + 1)]) (rest := []) (q0 := 21) hX dX3_readPart_52 55 rfl (hke (x1 + 1) a_code a_codeSize v10.1 v10.2 a_fault a_place _ hv11) mc_X3_readExpression mv_X3_readExpression ml_X3_72 rfl rfl (by omega) (Nat.le_refl _) (Nat.le_refl _) rfl (Nat.le_of_ble_eq_true rfl) ?_
        refine j_aload_n hX dX3_readPart_55 56 rfl 0 rfl rfl ?_
        refine j_get hX dX3_readPart_56 59 rfl fg_X3_31 21 rfl rfl ?_
        refine j_bipush (v := 41) hX dX3_readPart_59 61 rfl (by decide) ?_
        refine j_icmp_ne hX dX3_readPart_61 64 71 rfl rfl (fun h12 => ?_) (fun h12 => ?_)
        · replace hf := itf h12 hf
          refine j_aload_n hX dX3_readPart_71 72 rfl 0 rfl rfl ?_
          refine j_iconst (v := 1) hX dX3_readPart_72 73 rfl (by decide) ?_
          obtain ⟨v13, hv13, hf⟩ := ibd hf
          refine z_v (As := [.int 1]) (rest := []) (q0 := 21) hX dX3_readPart_73 76 rfl (t_X3_blame 1 hv13) mc_X3_blame mv_X3_blame ml_X3_66 rfl rfl (by omega) (Nat.le_refl _) (Nat.le_refl _) rfl (Nat.le_of_ble_eq_true rfl) ?_
          refine j_goto hX dX3_readPart_76 87 rfl ?_
          refine j_sub [] rfl ?_
          exact t_X3_readPart_87 hX hQ hke hdk   hf
        · replace hf := itt h12 hf
          refine j_aload_n hX dX3_readPart_64 65 rfl 0 rfl rfl ?_
          obtain ⟨v14, hv14, hf⟩ := ibd hf
          refine z_v (As := []) (rest := []) (q0 := 21) hX dX3_readPart_65 68 rfl (t_X3_advance  hv14) mc_X3_advance mv_X3_advance ml_X3_69 rfl rfl (by omega) (Nat.le_refl _) (Nat.le_refl _) rfl (Nat.le_of_ble_eq_true rfl) ?_
          refine j_goto hX dX3_readPart_68 87 rfl ?_
          refine j_sub [] rfl ?_
          exact t_X3_readPart_87 hX hQ hke hdk   hf
    · replace hf := itf h6 hf
      refine j_sub [0] rfl ?_
      exact t_X3_readPart_20 hX hQ hke hdk   hf
def g_X3_readSum_57 (a_code : Nat → Int32) (a_codeSize : Int32) (a_at : Int32) (a_token : Int32) (a_fault : Int32) (a_place : Int32) : Option ((Nat → Int32) × Int32 × Int32 × Int32 × Int32 × Int32) :=
  some (a_code, a_codeSize, a_at, a_token, a_fault, a_place)
set_option maxRecDepth 100000 in
set_option maxHeartbeats 4000000 in
theorem t_X3_readSum_57 {Y : YT} {r : (Nat → Int32) × Int32 × Int32 × Int32 × Int32 × Int32}  (hX : CX l G cX3_readSum 4 RX3 Y) (hQ : EQv G Y 0 0 (WB G p_female p_born p_toldDeath p_lastYear p_father p_mother p_fatherGrade p_motherGrade p_size g_holder g_arms g_from g_size r_marks r_arms r_root r_steps r_grade r_marksAboveOne q_rows q_sizes t_bytes t_length s_tokens s_starts s_size r.1 r.2.1 r.2.2.1 r.2.2.2.1 r.2.2.2.2.1 r.2.2.2.2.2 o_texts o_names o_operands o_size o_open o_refuses o_differs o_fees c_years c_rows c_size x_faultPlace ++ fr)) {dk : Nat} {ke : Int32 → (Nat → Int32) → Int32 → Int32 → Int32 → Int32 → Int32 → Option ((Nat → Int32) × Int32 × Int32 × Int32 × Int32 × Int32)} (hke : ∀ (x1 : Int32) (a_code : Nat → Int32) (a_codeSize : Int32) (a_at : Int32) (a_token : Int32) (a_fault : Int32) (a_place : Int32) (r : (Nat → Int32) × Int32 × Int32 × Int32 × Int32 × Int32), ke x1 a_code a_codeSize a_at a_token a_fault a_place = some r → Cv l G dk 0 0 yX3_readExpression cX3_readExpression 4 [.ref (gb G 21), .int x1] (WB G p_female p_born p_toldDeath p_lastYear p_father p_mother p_fatherGrade p_motherGrade p_size g_holder g_arms g_from g_size r_marks r_arms r_root r_steps r_grade r_marksAboveOne q_rows q_sizes t_bytes t_length s_tokens s_starts s_size a_code a_codeSize a_at a_token a_fault a_place o_texts o_names o_operands o_size o_open o_refuses o_differs o_fees c_years c_rows c_size x_faultPlace ++ fr) (WB G p_female p_born p_toldDeath p_lastYear p_father p_mother p_fatherGrade p_motherGrade p_size g_holder g_arms g_from g_size r_marks r_arms r_root r_steps r_grade r_marksAboveOne q_rows q_sizes t_bytes t_length s_tokens s_starts s_size r.1 r.2.1 r.2.2.1 r.2.2.2.1 r.2.2.2.2.1 r.2.2.2.2.2 o_texts o_names o_operands o_size o_open o_refuses o_differs o_fees c_years c_rows c_size x_faultPlace ++ fr)) (hdk : 10 ≤ dk)   (hf : g_X3_readSum_57 a_code a_codeSize a_at a_token a_fault a_place = some r) : J l G (rmD (dk + 2) 0 0) Y 0 0 57 [] [] (WB G p_female p_born p_toldDeath p_lastYear p_father p_mother p_fatherGrade p_motherGrade p_size g_holder g_arms g_from g_size r_marks r_arms r_root r_steps r_grade r_marksAboveOne q_rows q_sizes t_bytes t_length s_tokens s_starts s_size a_code a_codeSize a_at a_token a_fault a_place o_texts o_names o_operands o_size o_open o_refuses o_differs o_fees c_years c_rows c_size x_faultPlace ++ fr) := by
  unfold g_X3_readSum_57 at hf
  replace hf := Option.some.inj hf
  subst hf
  exact j_vret hX hQ dX3_readSum_57
def g_X3_readSum_32 (s_tokens : Nat → Int32) (s_starts : Nat → Int32) (a_code : Nat → Int32) (a_codeSize : Int32) (a_at : Int32) (a_token : Int32) (a_fault : Int32) (a_place : Int32) (k7 : Int32 → Int32 → (Nat → Int32) → Int32 → Int32 → Int32 → Int32 → Int32 → Option ((Nat → Int32) × Int32 × Int32 × Int32 × Int32 × Int32)) (ke : Int32 → (Nat → Int32) → Int32 → Int32 → Int32 → Int32 → Int32 → Option ((Nat → Int32) × Int32 × Int32 × Int32 × Int32 × Int32)) (x1 : Int32) (x2 : Int32) : Option ((Nat → Int32) × Int32 × Int32 × Int32 × Int32 × Int32) :=
  (f_X3_advance s_tokens a_at).bind fun v4 => (f_X3_readPart s_tokens s_starts a_code a_codeSize v4.1 v4.2 a_fault a_place ke x1).bind fun v5 => (f_X3_emit v5.1 v5.2.1 a_token).bind fun v6 => k7 x1 (x2 + 1) v6.1 v6.2 v5.2.2.1 v5.2.2.2.1 v5.2.2.2.2.1 v5.2.2.2.2.2
set_option maxRecDepth 100000 in
set_option maxHeartbeats 4000000 in
theorem t_X3_readSum_32 {Y : YT} {r : (Nat → Int32) × Int32 × Int32 × Int32 × Int32 × Int32} {k7 : Int32 → Int32 → (Nat → Int32) → Int32 → Int32 → Int32 → Int32 → Int32 → Option ((Nat → Int32) × Int32 × Int32 × Int32 × Int32 × Int32)} (hX : CX l G cX3_readSum 4 RX3 Y) (hQ : EQv G Y 0 0 (WB G p_female p_born p_toldDeath p_lastYear p_father p_mother p_fatherGrade p_motherGrade p_size g_holder g_arms g_from g_size r_marks r_arms r_root r_steps r_grade r_marksAboveOne q_rows q_sizes t_bytes t_length s_tokens s_starts s_size r.1 r.2.1 r.2.2.1 r.2.2.2.1 r.2.2.2.2.1 r.2.2.2.2.2 o_texts o_names o_operands o_size o_open o_refuses o_differs o_fees c_years c_rows c_size x_faultPlace ++ fr)) {dk : Nat} {ke : Int32 → (Nat → Int32) → Int32 → Int32 → Int32 → Int32 → Int32 → Option ((Nat → Int32) × Int32 × Int32 × Int32 × Int32 × Int32)} (hke : ∀ (x1 : Int32) (a_code : Nat → Int32) (a_codeSize : Int32) (a_at : Int32) (a_token : Int32) (a_fault : Int32) (a_place : Int32) (r : (Nat → Int32) × Int32 × Int32 × Int32 × Int32 × Int32), ke x1 a_code a_codeSize a_at a_token a_fault a_place = some r → Cv l G dk 0 0 yX3_readExpression cX3_readExpression 4 [.ref (gb G 21), .int x1] (WB G p_female p_born p_toldDeath p_lastYear p_father p_mother p_fatherGrade p_motherGrade p_size g_holder g_arms g_from g_size r_marks r_arms r_root r_steps r_grade r_marksAboveOne q_rows q_sizes t_bytes t_length s_tokens s_starts s_size a_code a_codeSize a_at a_token a_fault a_place o_texts o_names o_operands o_size o_open o_refuses o_differs o_fees c_years c_rows c_size x_faultPlace ++ fr) (WB G p_female p_born p_toldDeath p_lastYear p_father p_mother p_fatherGrade p_motherGrade p_size g_holder g_arms g_from g_size r_marks r_arms r_root r_steps r_grade r_marksAboveOne q_rows q_sizes t_bytes t_length s_tokens s_starts s_size r.1 r.2.1 r.2.2.1 r.2.2.2.1 r.2.2.2.2.1 r.2.2.2.2.2 o_texts o_names o_operands o_size o_open o_refuses o_differs o_fees c_years c_rows c_size x_faultPlace ++ fr)) (hdk : 10 ≤ dk) (hk7 : ∀ (x1 : Int32) (x2 : Int32) (a_code : Nat → Int32) (a_codeSize : Int32) (a_at : Int32) (a_token : Int32) (a_fault : Int32) (a_place : Int32), k7 x1 x2 a_code a_codeSize a_at a_token a_fault a_place = some r → J l G (rmD (dk + 2) 0 0) Y 0 0 7 [(0, .ref (gb G 21)), (1, .int x1), (2, .int x2)] [] (WB G p_female p_born p_toldDeath p_lastYear p_father p_mother p_fatherGrade p_motherGrade p_size g_holder g_arms g_from g_size r_marks r_arms r_root r_steps r_grade r_marksAboveOne q_rows q_sizes t_bytes t_length s_tokens s_starts s_size a_code a_codeSize a_at a_token a_fault a_place o_texts o_names o_operands o_size o_open o_refuses o_differs o_fees c_years c_rows c_size x_faultPlace ++ fr)) (x1 : Int32) (x2 : Int32) (hf : g_X3_readSum_32 s_tokens s_starts a_code a_codeSize a_at a_token a_fault a_place k7 ke x1 x2 = some r) : J l G (rmD (dk + 2) 0 0) Y 0 0 32 [(0, .ref (gb G 21)), (1, .int x1), (2, .int x2)] [] (WB G p_female p_born p_toldDeath p_lastYear p_father p_mother p_fatherGrade p_motherGrade p_size g_holder g_arms g_from g_size r_marks r_arms r_root r_steps r_grade r_marksAboveOne q_rows q_sizes t_bytes t_length s_tokens s_starts s_size a_code a_codeSize a_at a_token a_fault a_place o_texts o_names o_operands o_size o_open o_refuses o_differs o_fees c_years c_rows c_size x_faultPlace ++ fr) := by
  unfold g_X3_readSum_32 at hf
  refine j_aload_n hX dX3_readSum_32 33 rfl 0 rfl rfl ?_
  refine j_get hX dX3_readSum_33 36 rfl fg_X3_31 21 rfl rfl ?_
  refine j_istore_n hX dX3_readSum_36 37 rfl rfl (by decide) (lv' := [(3, .int a_token), (0, .ref (gb G 21)), (1, .int x1), (2, .int x2)]) rfl ?_
  refine j_aload_n hX dX3_readSum_37 38 rfl 1 rfl rfl ?_
  obtain ⟨v4, hv4, hf⟩ := ibd hf
  refine z_v (As := []) (rest := []) (q0 := 21) hX dX3_readSum_38 41 rfl (t_X3_advance  hv4) mc_X3_advance mv_X3_advance ml_X3_69 rfl rfl (by omega) (Nat.le_refl _) (Nat.le_refl _) rfl (Nat.le_of_ble_eq_true rfl) ?_
  refine j_aload_n hX dX3_readSum_41 42 rfl 1 rfl rfl ?_
  refine j_iload_n hX dX3_readSum_42 43 rfl 2 rfl rfl ?_
  obtain ⟨v5, hv5, hf⟩ := ibd hf
  refine z_v (As := [.int x1]) (rest := []) (q0 := 21) hX dX3_readSum_43 46 rfl (t_X3_readPart hke hdk x1 hv5) mc_X3_readPart mv_X3_readPart ml_X3_99 rfl rfl (by omega) (Nat.le_refl _) (Nat.le_refl _) rfl (Nat.le_of_ble_eq_true rfl) ?_
  refine j_aload_n hX dX3_readSum_46 47 rfl 1 rfl rfl ?_
  refine j_iload_n hX dX3_readSum_47 48 rfl 0 rfl rfl ?_
  obtain ⟨v6, hv6, hf⟩ := ibd hf
  refine z_v (As := [.int a_token]) (rest := []) (q0 := 21) hX dX3_readSum_48 51 rfl (t_X3_emit a_token hv6) mc_X3_emit mv_X3_emit ml_X3_75 rfl rfl (by omega) (Nat.le_refl _) (Nat.le_refl _) rfl (Nat.le_of_ble_eq_true rfl) ?_
  refine j_iinc (v := x2 + 1) hX dX3_readSum_51 54 rfl 3 rfl rfl (by decide) (lv' := [(2, .int (x2 + 1)), (3, .int a_token), (0, .ref (gb G 21)), (1, .int x1)]) rfl ?_
  refine j_goto hX dX3_readSum_54 7 rfl ?_
  refine j_sub [2, 3, 0] rfl ?_
  exact hk7 x1 (x2 + 1) v6.1 v6.2 v5.2.2.1 v5.2.2.2.1 v5.2.2.2.2.1 v5.2.2.2.2.2 hf
def g_X3_readSum_7 (s_tokens : Nat → Int32) (s_starts : Nat → Int32) (a_code : Nat → Int32) (a_codeSize : Int32) (a_at : Int32) (a_token : Int32) (a_fault : Int32) (a_place : Int32) (k7 : Int32 → Int32 → (Nat → Int32) → Int32 → Int32 → Int32 → Int32 → Int32 → Option ((Nat → Int32) × Int32 × Int32 × Int32 × Int32 × Int32)) (ke : Int32 → (Nat → Int32) → Int32 → Int32 → Int32 → Int32 → Int32 → Option ((Nat → Int32) × Int32 × Int32 × Int32 × Int32 × Int32)) (x1 : Int32) (x2 : Int32) : Option ((Nat → Int32) × Int32 × Int32 × Int32 × Int32 × Int32) :=
  if 400 ≤ x2 then g_X3_readSum_57 a_code a_codeSize a_at a_token a_fault a_place else if a_token = 43 then g_X3_readSum_32 s_tokens s_starts a_code a_codeSize a_at a_token a_fault a_place k7 ke x1 x2 else if a_token = 45 then g_X3_readSum_32 s_tokens s_starts a_code a_codeSize a_at a_token a_fault a_place k7 ke x1 x2 else g_X3_readSum_57 a_code a_codeSize a_at a_token a_fault a_place
set_option maxRecDepth 100000 in
set_option maxHeartbeats 4000000 in
theorem t_X3_readSum_7 {Y : YT} {r : (Nat → Int32) × Int32 × Int32 × Int32 × Int32 × Int32} {k7 : Int32 → Int32 → (Nat → Int32) → Int32 → Int32 → Int32 → Int32 → Int32 → Option ((Nat → Int32) × Int32 × Int32 × Int32 × Int32 × Int32)} (hX : CX l G cX3_readSum 4 RX3 Y) (hQ : EQv G Y 0 0 (WB G p_female p_born p_toldDeath p_lastYear p_father p_mother p_fatherGrade p_motherGrade p_size g_holder g_arms g_from g_size r_marks r_arms r_root r_steps r_grade r_marksAboveOne q_rows q_sizes t_bytes t_length s_tokens s_starts s_size r.1 r.2.1 r.2.2.1 r.2.2.2.1 r.2.2.2.2.1 r.2.2.2.2.2 o_texts o_names o_operands o_size o_open o_refuses o_differs o_fees c_years c_rows c_size x_faultPlace ++ fr)) {dk : Nat} {ke : Int32 → (Nat → Int32) → Int32 → Int32 → Int32 → Int32 → Int32 → Option ((Nat → Int32) × Int32 × Int32 × Int32 × Int32 × Int32)} (hke : ∀ (x1 : Int32) (a_code : Nat → Int32) (a_codeSize : Int32) (a_at : Int32) (a_token : Int32) (a_fault : Int32) (a_place : Int32) (r : (Nat → Int32) × Int32 × Int32 × Int32 × Int32 × Int32), ke x1 a_code a_codeSize a_at a_token a_fault a_place = some r → Cv l G dk 0 0 yX3_readExpression cX3_readExpression 4 [.ref (gb G 21), .int x1] (WB G p_female p_born p_toldDeath p_lastYear p_father p_mother p_fatherGrade p_motherGrade p_size g_holder g_arms g_from g_size r_marks r_arms r_root r_steps r_grade r_marksAboveOne q_rows q_sizes t_bytes t_length s_tokens s_starts s_size a_code a_codeSize a_at a_token a_fault a_place o_texts o_names o_operands o_size o_open o_refuses o_differs o_fees c_years c_rows c_size x_faultPlace ++ fr) (WB G p_female p_born p_toldDeath p_lastYear p_father p_mother p_fatherGrade p_motherGrade p_size g_holder g_arms g_from g_size r_marks r_arms r_root r_steps r_grade r_marksAboveOne q_rows q_sizes t_bytes t_length s_tokens s_starts s_size r.1 r.2.1 r.2.2.1 r.2.2.2.1 r.2.2.2.2.1 r.2.2.2.2.2 o_texts o_names o_operands o_size o_open o_refuses o_differs o_fees c_years c_rows c_size x_faultPlace ++ fr)) (hdk : 10 ≤ dk) (hk7 : ∀ (x1 : Int32) (x2 : Int32) (a_code : Nat → Int32) (a_codeSize : Int32) (a_at : Int32) (a_token : Int32) (a_fault : Int32) (a_place : Int32), k7 x1 x2 a_code a_codeSize a_at a_token a_fault a_place = some r → J l G (rmD (dk + 2) 0 0) Y 0 0 7 [(0, .ref (gb G 21)), (1, .int x1), (2, .int x2)] [] (WB G p_female p_born p_toldDeath p_lastYear p_father p_mother p_fatherGrade p_motherGrade p_size g_holder g_arms g_from g_size r_marks r_arms r_root r_steps r_grade r_marksAboveOne q_rows q_sizes t_bytes t_length s_tokens s_starts s_size a_code a_codeSize a_at a_token a_fault a_place o_texts o_names o_operands o_size o_open o_refuses o_differs o_fees c_years c_rows c_size x_faultPlace ++ fr)) (x1 : Int32) (x2 : Int32) (hf : g_X3_readSum_7 s_tokens s_starts a_code a_codeSize a_at a_token a_fault a_place k7 ke x1 x2 = some r) : J l G (rmD (dk + 2) 0 0) Y 0 0 7 [(0, .ref (gb G 21)), (1, .int x1), (2, .int x2)] [] (WB G p_female p_born p_toldDeath p_lastYear p_father p_mother p_fatherGrade p_motherGrade p_size g_holder g_arms g_from g_size r_marks r_arms r_root r_steps r_grade r_marksAboveOne q_rows q_sizes t_bytes t_length s_tokens s_starts s_size a_code a_codeSize a_at a_token a_fault a_place o_texts o_names o_operands o_size o_open o_refuses o_differs o_fees c_years c_rows c_size x_faultPlace ++ fr) := by
  unfold g_X3_readSum_7 at hf
  refine j_iload_n hX dX3_readSum_7 8 rfl 2 rfl rfl ?_
  refine j_sipush (v := 400) hX dX3_readSum_8 11 rfl (by decide) ?_
  refine j_icmp_ge hX dX3_readSum_11 14 57 rfl rfl (fun h2 => ?_) (fun h2 => ?_)
  · replace hf := itt h2 hf
    refine j_sub [] rfl ?_
    exact t_X3_readSum_57 hX hQ hke hdk   hf
  · replace hf := itf h2 hf
    refine j_aload_n hX dX3_readSum_14 15 rfl 0 rfl rfl ?_
    refine j_get hX dX3_readSum_15 18 rfl fg_X3_31 21 rfl rfl ?_
    refine j_bipush (v := 43) hX dX3_readSum_18 20 rfl (by decide) ?_
    refine j_icmp_eq hX dX3_readSum_20 23 32 rfl rfl (fun h3 => ?_) (fun h3 => ?_)
    · replace hf := itt h3 hf
      exact t_X3_readSum_32 hX hQ hke hdk hk7 x1 x2 hf
    · replace hf := itf h3 hf
      refine j_aload_n hX dX3_readSum_23 24 rfl 0 rfl rfl ?_
      refine j_get hX dX3_readSum_24 27 rfl fg_X3_31 21 rfl rfl ?_
      refine j_bipush (v := 45) hX dX3_readSum_27 29 rfl (by decide) ?_
      refine j_icmp_ne hX dX3_readSum_29 32 57 rfl rfl (fun h7 => ?_) (fun h7 => ?_)
      · replace hf := itf h7 hf
        refine j_sub [] rfl ?_
        exact t_X3_readSum_57 hX hQ hke hdk   hf
      · replace hf := itt h7 hf
        exact t_X3_readSum_32 hX hQ hke hdk hk7 x1 x2 hf
def f_X3_readSum_7 (s_tokens : Nat → Int32) (s_starts : Nat → Int32) (ke : Int32 → (Nat → Int32) → Int32 → Int32 → Int32 → Int32 → Int32 → Option ((Nat → Int32) × Int32 × Int32 × Int32 × Int32 × Int32)) : Nat → (Int32 × Int32 × (Nat → Int32) × Int32 × Int32 × Int32 × Int32 × Int32) → Option ((Nat → Int32) × Int32 × Int32 × Int32 × Int32 × Int32) :=
  lp (fun k v => g_X3_readSum_7 s_tokens s_starts v.2.2.1 v.2.2.2.1 v.2.2.2.2.1 v.2.2.2.2.2.1 v.2.2.2.2.2.2.1 v.2.2.2.2.2.2.2 (fun x1 x2 a_code a_codeSize a_at a_token a_fault a_place => k (x1, x2, a_code, a_codeSize, a_at, a_token, a_fault, a_place)) ke v.1 v.2.1)
set_option maxRecDepth 100000 in
set_option maxHeartbeats 4000000 in
theorem u_X3_readSum_7 {Y : YT} {r : (Nat → Int32) × Int32 × Int32 × Int32 × Int32 × Int32}  (hX : CX l G cX3_readSum 4 RX3 Y) (hQ : EQv G Y 0 0 (WB G p_female p_born p_toldDeath p_lastYear p_father p_mother p_fatherGrade p_motherGrade p_size g_holder g_arms g_from g_size r_marks r_arms r_root r_steps r_grade r_marksAboveOne q_rows q_sizes t_bytes t_length s_tokens s_starts s_size r.1 r.2.1 r.2.2.1 r.2.2.2.1 r.2.2.2.2.1 r.2.2.2.2.2 o_texts o_names o_operands o_size o_open o_refuses o_differs o_fees c_years c_rows c_size x_faultPlace ++ fr)) {dk : Nat} {ke : Int32 → (Nat → Int32) → Int32 → Int32 → Int32 → Int32 → Int32 → Option ((Nat → Int32) × Int32 × Int32 × Int32 × Int32 × Int32)} (hke : ∀ (x1 : Int32) (a_code : Nat → Int32) (a_codeSize : Int32) (a_at : Int32) (a_token : Int32) (a_fault : Int32) (a_place : Int32) (r : (Nat → Int32) × Int32 × Int32 × Int32 × Int32 × Int32), ke x1 a_code a_codeSize a_at a_token a_fault a_place = some r → Cv l G dk 0 0 yX3_readExpression cX3_readExpression 4 [.ref (gb G 21), .int x1] (WB G p_female p_born p_toldDeath p_lastYear p_father p_mother p_fatherGrade p_motherGrade p_size g_holder g_arms g_from g_size r_marks r_arms r_root r_steps r_grade r_marksAboveOne q_rows q_sizes t_bytes t_length s_tokens s_starts s_size a_code a_codeSize a_at a_token a_fault a_place o_texts o_names o_operands o_size o_open o_refuses o_differs o_fees c_years c_rows c_size x_faultPlace ++ fr) (WB G p_female p_born p_toldDeath p_lastYear p_father p_mother p_fatherGrade p_motherGrade p_size g_holder g_arms g_from g_size r_marks r_arms r_root r_steps r_grade r_marksAboveOne q_rows q_sizes t_bytes t_length s_tokens s_starts s_size r.1 r.2.1 r.2.2.1 r.2.2.2.1 r.2.2.2.2.1 r.2.2.2.2.2 o_texts o_names o_operands o_size o_open o_refuses o_differs o_fees c_years c_rows c_size x_faultPlace ++ fr)) (hdk : 10 ≤ dk)  (n : Nat) (v : Int32 × Int32 × (Nat → Int32) × Int32 × Int32 × Int32 × Int32 × Int32) (hf : f_X3_readSum_7 s_tokens s_starts ke n v = some r) : J l G (rmD (dk + 2) 0 0) Y 0 0 7 [(0, .ref (gb G 21)), (1, .int v.1), (2, .int v.2.1)] [] (WB G p_female p_born p_toldDeath p_lastYear p_father p_mother p_fatherGrade p_motherGrade p_size g_holder g_arms g_from g_size r_marks r_arms r_root r_steps r_grade r_marksAboveOne q_rows q_sizes t_bytes t_length s_tokens s_starts s_size v.2.2.1 v.2.2.2.1 v.2.2.2.2.1 v.2.2.2.2.2.1 v.2.2.2.2.2.2.1 v.2.2.2.2.2.2.2 o_texts o_names o_operands o_size o_open o_refuses o_differs o_fees c_years c_rows c_size x_faultPlace ++ fr) :=
  lp_ind (P := fun v : Int32 × Int32 × (Nat → Int32) × Int32 × Int32 × Int32 × Int32 × Int32 => J l G (rmD (dk + 2) 0 0) Y 0 0 7 [(0, .ref (gb G 21)), (1, .int v.1), (2, .int v.2.1)] [] (WB G p_female p_born p_toldDeath p_lastYear p_father p_mother p_fatherGrade p_motherGrade p_size g_holder g_arms g_from g_size r_marks r_arms r_root r_steps r_grade r_marksAboveOne q_rows q_sizes t_bytes t_length s_tokens s_starts s_size v.2.2.1 v.2.2.2.1 v.2.2.2.2.1 v.2.2.2.2.2.1 v.2.2.2.2.2.2.1 v.2.2.2.2.2.2.2 o_texts o_names o_operands o_size o_open o_refuses o_differs o_fees c_years c_rows c_size x_faultPlace ++ fr)) (fun k hk v hf => t_X3_readSum_7 hX hQ hke hdk  (fun x1 x2 a_code a_codeSize a_at a_token a_fault a_place h => hk (x1, x2, a_code, a_codeSize, a_at, a_token, a_fault, a_place) h) v.1 v.2.1 hf) n v hf
def f_X3_readSum (fu : Nat) (s_tokens : Nat → Int32) (s_starts : Nat → Int32) (a_code : Nat → Int32) (a_codeSize : Int32) (a_at : Int32) (a_token : Int32) (a_fault : Int32) (a_place : Int32) (ke : Int32 → (Nat → Int32) → Int32 → Int32 → Int32 → Int32 → Int32 → Option ((Nat → Int32) × Int32 × Int32 × Int32 × Int32 × Int32)) (x1 : Int32) : Option ((Nat → Int32) × Int32 × Int32 × Int32 × Int32 × Int32) :=
  (f_X3_readPart s_tokens s_starts a_code a_codeSize a_at a_token a_fault a_place ke x1).bind fun v1 => f_X3_readSum_7 s_tokens s_starts ke fu (x1, 0, v1.1, v1.2.1, v1.2.2.1, v1.2.2.2.1, v1.2.2.2.2.1, v1.2.2.2.2.2)
set_option maxRecDepth 100000 in
set_option maxHeartbeats 4000000 in
theorem t_X3_readSum {fu : Nat}  {dk : Nat} {ke : Int32 → (Nat → Int32) → Int32 → Int32 → Int32 → Int32 → Int32 → Option ((Nat → Int32) × Int32 × Int32 × Int32 × Int32 × Int32)} (hke : ∀ (x1 : Int32) (a_code : Nat → Int32) (a_codeSize : Int32) (a_at : Int32) (a_token : Int32) (a_fault : Int32) (a_place : Int32) (r : (Nat → Int32) × Int32 × Int32 × Int32 × Int32 × Int32), ke x1 a_code a_codeSize a_at a_token a_fault a_place = some r → Cv l G dk 0 0 yX3_readExpression cX3_readExpression 4 [.ref (gb G 21), .int x1] (WB G p_female p_born p_toldDeath p_lastYear p_father p_mother p_fatherGrade p_motherGrade p_size g_holder g_arms g_from g_size r_marks r_arms r_root r_steps r_grade r_marksAboveOne q_rows q_sizes t_bytes t_length s_tokens s_starts s_size a_code a_codeSize a_at a_token a_fault a_place o_texts o_names o_operands o_size o_open o_refuses o_differs o_fees c_years c_rows c_size x_faultPlace ++ fr) (WB G p_female p_born p_toldDeath p_lastYear p_father p_mother p_fatherGrade p_motherGrade p_size g_holder g_arms g_from g_size r_marks r_arms r_root r_steps r_grade r_marksAboveOne q_rows q_sizes t_bytes t_length s_tokens s_starts s_size r.1 r.2.1 r.2.2.1 r.2.2.2.1 r.2.2.2.2.1 r.2.2.2.2.2 o_texts o_names o_operands o_size o_open o_refuses o_differs o_fees c_years c_rows c_size x_faultPlace ++ fr)) (hdk : 10 ≤ dk) (x1 : Int32) {r : (Nat → Int32) × Int32 × Int32 × Int32 × Int32 × Int32} (hf : f_X3_readSum fu s_tokens s_starts a_code a_codeSize a_at a_token a_fault a_place ke x1 = some r) : Cv l G (dk + 2) 0 0 yX3_readSum cX3_readSum 4 [.ref (gb G 21), .int x1] (WB G p_female p_born p_toldDeath p_lastYear p_father p_mother p_fatherGrade p_motherGrade p_size g_holder g_arms g_from g_size r_marks r_arms r_root r_steps r_grade r_marksAboveOne q_rows q_sizes t_bytes t_length s_tokens s_starts s_size a_code a_codeSize a_at a_token a_fault a_place o_texts o_names o_operands o_size o_open o_refuses o_differs o_fees c_years c_rows c_size x_faultPlace ++ fr) (WB G p_female p_born p_toldDeath p_lastYear p_father p_mother p_fatherGrade p_motherGrade p_size g_holder g_arms g_from g_size r_marks r_arms r_root r_steps r_grade r_marksAboveOne q_rows q_sizes t_bytes t_length s_tokens s_starts s_size r.1 r.2.1 r.2.2.1 r.2.2.2.1 r.2.2.2.2.1 r.2.2.2.2.2 o_texts o_names o_operands o_size o_open o_refuses o_differs o_fees c_years c_rows c_size x_faultPlace ++ fr) := by
  refine Cv.of (by decide) (Nat.le_of_ble_eq_true rfl) (fun Y hX hQ => ?_)
  refine j_lv (lv' := [(0, .ref (gb G 21)), (1, .int x1)]) rfl ?_
  unfold f_X3_readSum at hf
  refine j_aload_n hX dX3_readSum_0 1 rfl 0 rfl rfl ?_
  refine j_iload_n hX dX3_readSum_1 2 rfl 1 rfl rfl ?_
  obtain ⟨v1, hv1, hf⟩ := ibd hf
  refine z_v (As := [.int x1]) (rest := []) (q0 := 21) hX dX3_readSum_2 5 rfl (t_X3_readPart hke hdk x1 hv1) mc_X3_readPart mv_X3_readPart ml_X3_99 rfl rfl (by omega) (Nat.le_refl _) (Nat.le_refl _) rfl (Nat.le_of_ble_eq_true rfl) ?_
  refine j_iconst (v := 0) hX dX3_readSum_5 6 rfl (by decide) ?_
  refine j_istore_n hX dX3_readSum_6 7 rfl rfl (by decide) (lv' := [(2, .int 0), (0, .ref (gb G 21)), (1, .int x1)]) rfl ?_
  refine j_sub [1, 2, 0] rfl ?_
  exact u_X3_readSum_7 hX hQ hke hdk  fu (x1, 0, v1.1, v1.2.1, v1.2.2.1, v1.2.2.2.1, v1.2.2.2.2.1, v1.2.2.2.2.2) hf
def g_X3_readTest_75 (a_code : Nat → Int32) (a_codeSize : Int32) (a_at : Int32) (a_token : Int32) (a_fault : Int32) (a_place : Int32) : Option ((Nat → Int32) × Int32 × Int32 × Int32 × Int32 × Int32) :=
  some (a_code, a_codeSize, a_at, a_token, a_fault, a_place)
set_option maxRecDepth 100000 in
set_option maxHeartbeats 4000000 in
theorem t_X3_readTest_75 {Y : YT} {r : (Nat → Int32) × Int32 × Int32 × Int32 × Int32 × Int32}  (hX : CX l G cX3_readTest 4 RX3 Y) (hQ : EQv G Y 0 0 (WB G p_female p_born p_toldDeath p_lastYear p_father p_mother p_fatherGrade p_motherGrade p_size g_holder g_arms g_from g_size r_marks r_arms r_root r_steps r_grade r_marksAboveOne q_rows q_sizes t_bytes t_length s_tokens s_starts s_size r.1 r.2.1 r.2.2.1 r.2.2.2.1 r.2.2.2.2.1 r.2.2.2.2.2 o_texts o_names o_operands o_size o_open o_refuses o_differs o_fees c_years c_rows c_size x_faultPlace ++ fr)) {dk : Nat} {ke : Int32 → (Nat → Int32) → Int32 → Int32 → Int32 → Int32 → Int32 → Option ((Nat → Int32) × Int32 × Int32 × Int32 × Int32 × Int32)} (hke : ∀ (x1 : Int32) (a_code : Nat → Int32) (a_codeSize : Int32) (a_at : Int32) (a_token : Int32) (a_fault : Int32) (a_place : Int32) (r : (Nat → Int32) × Int32 × Int32 × Int32 × Int32 × Int32), ke x1 a_code a_codeSize a_at a_token a_fault a_place = some r → Cv l G dk 0 0 yX3_readExpression cX3_readExpression 4 [.ref (gb G 21), .int x1] (WB G p_female p_born p_toldDeath p_lastYear p_father p_mother p_fatherGrade p_motherGrade p_size g_holder g_arms g_from g_size r_marks r_arms r_root r_steps r_grade r_marksAboveOne q_rows q_sizes t_bytes t_length s_tokens s_starts s_size a_code a_codeSize a_at a_token a_fault a_place o_texts o_names o_operands o_size o_open o_refuses o_differs o_fees c_years c_rows c_size x_faultPlace ++ fr) (WB G p_female p_born p_toldDeath p_lastYear p_father p_mother p_fatherGrade p_motherGrade p_size g_holder g_arms g_from g_size r_marks r_arms r_root r_steps r_grade r_marksAboveOne q_rows q_sizes t_bytes t_length s_tokens s_starts s_size r.1 r.2.1 r.2.2.1 r.2.2.2.1 r.2.2.2.2.1 r.2.2.2.2.2 o_texts o_names o_operands o_size o_open o_refuses o_differs o_fees c_years c_rows c_size x_faultPlace ++ fr)) (hdk : 10 ≤ dk)   (hf : g_X3_readTest_75 a_code a_codeSize a_at a_token a_fault a_place = some r) : J l G (rmD (dk + 3) 0 0) Y 0 0 75 [] [] (WB G p_female p_born p_toldDeath p_lastYear p_father p_mother p_fatherGrade p_motherGrade p_size g_holder g_arms g_from g_size r_marks r_arms r_root r_steps r_grade r_marksAboveOne q_rows q_sizes t_bytes t_length s_tokens s_starts s_size a_code a_codeSize a_at a_token a_fault a_place o_texts o_names o_operands o_size o_open o_refuses o_differs o_fees c_years c_rows c_size x_faultPlace ++ fr) := by
  unfold g_X3_readTest_75 at hf
  replace hf := Option.some.inj hf
  subst hf
  exact j_vret hX hQ dX3_readTest_75
def g_X3_readTest_65 (a_code : Nat → Int32) (a_codeSize : Int32) (a_at : Int32) (a_token : Int32) (a_fault : Int32) (a_place : Int32) (x2 : Int32) : Option ((Nat → Int32) × Int32 × Int32 × Int32 × Int32 × Int32) :=
  if x2 = 0 then g_X3_readTest_75 a_code a_codeSize a_at a_token a_fault a_place else (f_X3_emit a_code a_codeSize 9).bind fun v9 => g_X3_readTest_75 v9.1 v9.2 a_at a_token a_fault a_place
set_option maxRecDepth 100000 in
set_option maxHeartbeats 4000000 in
theorem t_X3_readTest_65 {Y : YT} {r : (Nat → Int32) × Int32 × Int32 × Int32 × Int32 × Int32}  (hX : CX l G cX3_readTest 4 RX3 Y) (hQ : EQv G Y 0 0 (WB G p_female p_born p_toldDeath p_lastYear p_father p_mother p_fatherGrade p_motherGrade p_size g_holder g_arms g_from g_size r_marks r_arms r_root r_steps r_grade r_marksAboveOne q_rows q_sizes t_bytes t_length s_tokens s_starts s_size r.1 r.2.1 r.2.2.1 r.2.2.2.1 r.2.2.2.2.1 r.2.2.2.2.2 o_texts o_names o_operands o_size o_open o_refuses o_differs o_fees c_years c_rows c_size x_faultPlace ++ fr)) {dk : Nat} {ke : Int32 → (Nat → Int32) → Int32 → Int32 → Int32 → Int32 → Int32 → Option ((Nat → Int32) × Int32 × Int32 × Int32 × Int32 × Int32)} (hke : ∀ (x1 : Int32) (a_code : Nat → Int32) (a_codeSize : Int32) (a_at : Int32) (a_token : Int32) (a_fault : Int32) (a_place : Int32) (r : (Nat → Int32) × Int32 × Int32 × Int32 × Int32 × Int32), ke x1 a_code a_codeSize a_at a_token a_fault a_place = some r → Cv l G dk 0 0 yX3_readExpression cX3_readExpression 4 [.ref (gb G 21), .int x1] (WB G p_female p_born p_toldDeath p_lastYear p_father p_mother p_fatherGrade p_motherGrade p_size g_holder g_arms g_from g_size r_marks r_arms r_root r_steps r_grade r_marksAboveOne q_rows q_sizes t_bytes t_length s_tokens s_starts s_size a_code a_codeSize a_at a_token a_fault a_place o_texts o_names o_operands o_size o_open o_refuses o_differs o_fees c_years c_rows c_size x_faultPlace ++ fr) (WB G p_female p_born p_toldDeath p_lastYear p_father p_mother p_fatherGrade p_motherGrade p_size g_holder g_arms g_from g_size r_marks r_arms r_root r_steps r_grade r_marksAboveOne q_rows q_sizes t_bytes t_length s_tokens s_starts s_size r.1 r.2.1 r.2.2.1 r.2.2.2.1 r.2.2.2.2.1 r.2.2.2.2.2 o_texts o_names o_operands o_size o_open o_refuses o_differs o_fees c_years c_rows c_size x_faultPlace ++ fr)) (hdk : 10 ≤ dk)  (x2 : Int32) (hf : g_X3_readTest_65 a_code a_codeSize a_at a_token a_fault a_place x2 = some r) : J l G (rmD (dk + 3) 0 0) Y 0 0 65 [(0, .ref (gb G 21)), (2, .int x2)] [] (WB G p_female p_born p_toldDeath p_lastYear p_father p_mother p_fatherGrade p_motherGrade p_size g_holder g_arms g_from g_size r_marks r_arms r_root r_steps r_grade r_marksAboveOne q_rows q_sizes t_bytes t_length s_tokens s_starts s_size a_code a_codeSize a_at a_token a_fault a_place o_texts o_names o_operands o_size o_open o_refuses o_differs o_fees c_years c_rows c_size x_faultPlace ++ fr) := by
  unfold g_X3_readTest_65 at hf
  refine j_iload_n hX dX3_readTest_65 66 rfl 1 rfl rfl ?_
  refine j_if_eq hX dX3_readTest_66 69 75 rfl rfl (fun h8 => ?_) (fun h8 => ?_)
  · replace hf := itt h8 hf
    refine j_sub [] rfl ?_
    exact t_X3_readTest_75 hX hQ hke hdk   hf
  · replace hf := itf h8 hf
    refine j_aload_n hX dX3_readTest_69 70 rfl 0 rfl rfl ?_
    refine j_bipush (v := 9) hX dX3_readTest_70 72 rfl (by decide) ?_
    obtain ⟨v9, hv9, hf⟩ := ibd hf
    refine z_v (As := [.int 9]) (rest := []) (q0 := 21) hX dX3_readTest_72 75 rfl (t_X3_emit 9 hv9) mc_X3_emit mv_X3_emit ml_X3_75 rfl rfl (by omega) (Nat.le_refl _) (Nat.le_refl _) rfl (Nat.le_of_ble_eq_true rfl) ?_
    refine j_sub [] rfl ?_
    exact t_X3_readTest_75 hX hQ hke hdk   hf
def g_X3_readTest_46 (fu : Nat) (s_tokens : Nat → Int32) (s_starts : Nat → Int32) (a_code : Nat → Int32) (a_codeSize : Int32) (a_at : Int32) (a_token : Int32) (a_fault : Int32) (a_place : Int32) (ke : Int32 → (Nat → Int32) → Int32 → Int32 → Int32 → Int32 → Int32 → Option ((Nat → Int32) × Int32 × Int32 × Int32 × Int32 × Int32)) (x1 : Int32) (x2 : Int32) : Option ((Nat → Int32) × Int32 × Int32 × Int32 × Int32 × Int32) :=
  (f_X3_advance s_tokens a_at).bind fun v5 => (f_X3_readSum fu s_tokens s_starts a_code a_codeSize v5.1 v5.2 a_fault a_place ke x1).bind fun v6 => (f_X3_emit v6.1 v6.2.1 a_token).bind fun v7 => g_X3_readTest_65 v7.1 v7.2 v6.2.2.1 v6.2.2.2.1 v6.2.2.2.2.1 v6.2.2.2.2.2 x2
set_option maxRecDepth 100000 in
set_option maxHeartbeats 4000000 in
theorem t_X3_readTest_46 {fu : Nat} {Y : YT} {r : (Nat → Int32) × Int32 × Int32 × Int32 × Int32 × Int32}  (hX : CX l G cX3_readTest 4 RX3 Y) (hQ : EQv G Y 0 0 (WB G p_female p_born p_toldDeath p_lastYear p_father p_mother p_fatherGrade p_motherGrade p_size g_holder g_arms g_from g_size r_marks r_arms r_root r_steps r_grade r_marksAboveOne q_rows q_sizes t_bytes t_length s_tokens s_starts s_size r.1 r.2.1 r.2.2.1 r.2.2.2.1 r.2.2.2.2.1 r.2.2.2.2.2 o_texts o_names o_operands o_size o_open o_refuses o_differs o_fees c_years c_rows c_size x_faultPlace ++ fr)) {dk : Nat} {ke : Int32 → (Nat → Int32) → Int32 → Int32 → Int32 → Int32 → Int32 → Option ((Nat → Int32) × Int32 × Int32 × Int32 × Int32 × Int32)} (hke : ∀ (x1 : Int32) (a_code : Nat → Int32) (a_codeSize : Int32) (a_at : Int32) (a_token : Int32) (a_fault : Int32) (a_place : Int32) (r : (Nat → Int32) × Int32 × Int32 × Int32 × Int32 × Int32), ke x1 a_code a_codeSize a_at a_token a_fault a_place = some r → Cv l G dk 0 0 yX3_readExpression cX3_readExpression 4 [.ref (gb G 21), .int x1] (WB G p_female p_born p_toldDeath p_lastYear p_father p_mother p_fatherGrade p_motherGrade p_size g_holder g_arms g_from g_size r_marks r_arms r_root r_steps r_grade r_marksAboveOne q_rows q_sizes t_bytes t_length s_tokens s_starts s_size a_code a_codeSize a_at a_token a_fault a_place o_texts o_names o_operands o_size o_open o_refuses o_differs o_fees c_years c_rows c_size x_faultPlace ++ fr) (WB G p_female p_born p_toldDeath p_lastYear p_father p_mother p_fatherGrade p_motherGrade p_size g_holder g_arms g_from g_size r_marks r_arms r_root r_steps r_grade r_marksAboveOne q_rows q_sizes t_bytes t_length s_tokens s_starts s_size r.1 r.2.1 r.2.2.1 r.2.2.2.1 r.2.2.2.2.1 r.2.2.2.2.2 o_texts o_names o_operands o_size o_open o_refuses o_differs o_fees c_years c_rows c_size x_faultPlace ++ fr)) (hdk : 10 ≤ dk)  (x1 : Int32) (x2 : Int32) (hf : g_X3_readTest_46 fu s_tokens s_starts a_code a_codeSize a_at a_token a_fault a_place ke x1 x2 = some r) : J l G (rmD (dk + 3) 0 0) Y 0 0 46 [(0, .ref (gb G 21)), (1, .int x1), (2, .int x2)] [] (WB G p_female p_born p_toldDeath p_lastYear p_father p_mother p_fatherGrade p_motherGrade p_size g_holder g_arms g_from g_size r_marks r_arms r_root r_steps r_grade r_marksAboveOne q_rows q_sizes t_bytes t_length s_tokens s_starts s_size a_code a_codeSize a_at a_token a_fault a_place o_texts o_names o_operands o_size o_open o_refuses o_differs o_fees c_years c_rows c_size x_faultPlace ++ fr) := by
  unfold g_X3_readTest_46 at hf
  refine j_aload_n hX dX3_readTest_46 47 rfl 0 rfl rfl ?_
  refine j_get hX dX3_readTest_47 50 rfl fg_X3_31 21 rfl rfl ?_
  refine j_istore_n hX dX3_readTest_50 51 rfl rfl (by decide) (lv' := [(3, .int a_token), (0, .ref (gb G 21)), (1, .int x1), (2, .int x2)]) rfl ?_
  refine j_aload_n hX dX3_readTest_51 52 rfl 1 rfl rfl ?_
  obtain ⟨v5, hv5, hf⟩ := ibd hf
  refine z_v (As := []) (rest := []) (q0 := 21) hX dX3_readTest_52 55 rfl (t_X3_advance  hv5) mc_X3_advance mv_X3_advance ml_X3_69 rfl rfl (by omega) (Nat.le_refl _) (Nat.le_refl _) rfl (Nat.le_of_ble_eq_true rfl) ?_
  refine j_aload_n hX dX3_readTest_55 56 rfl 1 rfl rfl ?_
  refine j_iload_n hX dX3_readTest_56 57 rfl 2 rfl rfl ?_
  obtain ⟨v6, hv6, hf⟩ := ibd hf
  refine z_v (As := [.int x1]) (rest := []) (q0 := 21) hX dX3_readTest_57 60 rfl (t_X3_readSum hke hdk x1 hv6) mc_X3_readSum mv_X3_readSum ml_X3_96 rfl rfl (by omega) (Nat.le_refl _) (Nat.le_refl _) rfl (Nat.le_of_ble_eq_true rfl) ?_
  refine j_aload_n hX dX3_readTest_60 61 rfl 1 rfl rfl ?_
  refine j_iload_n hX dX3_readTest_61 62 rfl 0 rfl rfl ?_
  obtain ⟨v7, hv7, hf⟩ := ibd hf
  refine z_v (As := [.int a_token]) (rest := []) (q0 := 21) hX dX3_readTest_62 65 rfl (t_X3_emit a_token hv7) mc_X3_emit mv_X3_emit ml_X3_75 rfl rfl (by omega) (Nat.le_refl _) (Nat.le_refl _) rfl (Nat.le_of_ble_eq_true rfl) ?_
  refine j_sub [1, 3] rfl ?_
  exact t_X3_readTest_65 hX hQ hke hdk  x2 hf
def g_X3_readTest_23 (fu : Nat) (s_tokens : Nat → Int32) (s_starts : Nat → Int32) (a_code : Nat → Int32) (a_codeSize : Int32) (a_at : Int32) (a_token : Int32) (a_fault : Int32) (a_place : Int32) (ke : Int32 → (Nat → Int32) → Int32 → Int32 → Int32 → Int32 → Int32 → Option ((Nat → Int32) × Int32 × Int32 × Int32 × Int32 × Int32)) (x1 : Int32) (x2 : Int32) : Option ((Nat → Int32) × Int32 × Int32 × Int32 × Int32 × Int32) :=
  (f_X3_readSum fu s_tokens s_starts a_code a_codeSize a_at a_token a_fault a_place ke x1).bind fun v3 => if v3.2.2.2.1 = 60 then g_X3_readTest_46 fu s_tokens s_starts v3.1 v3.2.1 v3.2.2.1 v3.2.2.2.1 v3.2.2.2.2.1 v3.2.2.2.2.2 ke x1 x2 else if v3.2.2.2.1 = 61 then g_X3_readTest_46 fu s_tokens s_starts v3.1 v3.2.1 v3.2.2.1 v3.2.2.2.1 v3.2.2.2.2.1 v3.2.2.2.2.2 ke x1 x2 else g_X3_readTest_65 v3.1 v3.2.1 v3.2.2.1 v3.2.2.2.1 v3.2.2.2.2.1 v3.2.2.2.2.2 x2
set_option maxRecDepth 100000 in
set_option maxHeartbeats 4000000 in
theorem t_X3_readTest_23 {fu : Nat} {Y : YT} {r : (Nat → Int32) × Int32 × Int32 × Int32 × Int32 × Int32}  (hX : CX l G cX3_readTest 4 RX3 Y) (hQ : EQv G Y 0 0 (WB G p_female p_born p_toldDeath p_lastYear p_father p_mother p_fatherGrade p_motherGrade p_size g_holder g_arms g_from g_size r_marks r_arms r_root r_steps r_grade r_marksAboveOne q_rows q_sizes t_bytes t_length s_tokens s_starts s_size r.1 r.2.1 r.2.2.1 r.2.2.2.1 r.2.2.2.2.1 r.2.2.2.2.2 o_texts o_names o_operands o_size o_open o_refuses o_differs o_fees c_years c_rows c_size x_faultPlace ++ fr)) {dk : Nat} {ke : Int32 → (Nat → Int32) → Int32 → Int32 → Int32 → Int32 → Int32 → Option ((Nat → Int32) × Int32 × Int32 × Int32 × Int32 × Int32)} (hke : ∀ (x1 : Int32) (a_code : Nat → Int32) (a_codeSize : Int32) (a_at : Int32) (a_token : Int32) (a_fault : Int32) (a_place : Int32) (r : (Nat → Int32) × Int32 × Int32 × Int32 × Int32 × Int32), ke x1 a_code a_codeSize a_at a_token a_fault a_place = some r → Cv l G dk 0 0 yX3_readExpression cX3_readExpression 4 [.ref (gb G 21), .int x1] (WB G p_female p_born p_toldDeath p_lastYear p_father p_mother p_fatherGrade p_motherGrade p_size g_holder g_arms g_from g_size r_marks r_arms r_root r_steps r_grade r_marksAboveOne q_rows q_sizes t_bytes t_length s_tokens s_starts s_size a_code a_codeSize a_at a_token a_fault a_place o_texts o_names o_operands o_size o_open o_refuses o_differs o_fees c_years c_rows c_size x_faultPlace ++ fr) (WB G p_female p_born p_toldDeath p_lastYear p_father p_mother p_fatherGrade p_motherGrade p_size g_holder g_arms g_from g_size r_marks r_arms r_root r_steps r_grade r_marksAboveOne q_rows q_sizes t_bytes t_length s_tokens s_starts s_size r.1 r.2.1 r.2.2.1 r.2.2.2.1 r.2.2.2.2.1 r.2.2.2.2.2 o_texts o_names o_operands o_size o_open o_refuses o_differs o_fees c_years c_rows c_size x_faultPlace ++ fr)) (hdk : 10 ≤ dk)  (x1 : Int32) (x2 : Int32) (hf : g_X3_readTest_23 fu s_tokens s_starts a_code a_codeSize a_at a_token a_fault a_place ke x1 x2 = some r) : J l G (rmD (dk + 3) 0 0) Y 0 0 23 [(0, .ref (gb G 21)), (1, .int x1), (2, .int x2)] [] (WB G p_female p_born p_toldDeath p_lastYear p_father p_mother p_fatherGrade p_motherGrade p_size g_holder g_arms g_from g_size r_marks r_arms r_root r_steps r_grade r_marksAboveOne q_rows q_sizes t_bytes t_length s_tokens s_starts s_size a_code a_codeSize a_at a_token a_fault a_place o_texts o_names o_operands o_size o_open o_refuses o_differs o_fees c_years c_rows c_size x_faultPlace ++ fr) := by
  unfold g_X3_readTest_23 at hf
  refine j_aload_n hX dX3_readTest_23 24 rfl 0 rfl rfl ?_
  refine j_iload_n hX dX3_readTest_24 25 rfl 1 rfl rfl ?_
  obtain ⟨v3, hv3, hf⟩ := ibd hf
  refine z_v (As := [.int x1]) (rest := []) (q0 := 21) hX dX3_readTest_25 28 rfl (t_X3_readSum hke hdk x1 hv3) mc_X3_readSum mv_X3_readSum ml_X3_96 rfl rfl (by omega) (Nat.le_refl _) (Nat.le_refl _) rfl (Nat.le_of_ble_eq_true rfl) ?_
  refine j_aload_n hX dX3_readTest_28 29 rfl 0 rfl rfl ?_
  refine j_get hX dX3_readTest_29 32 rfl fg_X3_31 21 rfl rfl ?_
  refine j_bipush (v := 60) hX dX3_readTest_32 34 rfl (by decide) ?_
  refine j_icmp_eq hX dX3_readTest_34 37 46 rfl rfl (fun h4 => ?_) (fun h4 => ?_)
  · replace hf := itt h4 hf
    exact t_X3_readTest_46 hX hQ hke hdk  x1 x2 hf
  · replace hf := itf h4 hf
    refine j_aload_n hX dX3_readTest_37 38 rfl 0 rfl rfl ?_
    refine j_get hX dX3_readTest_38 41 rfl fg_X3_31 21 rfl rfl ?_
    refine j_bipush (v := 61) hX dX3_readTest_41 43 rfl (by decide) ?_
    refine j_icmp_ne hX dX3_readTest_43 46 65 rfl rfl (fun h10 => ?_) (fun h10 => ?_)
    · replace hf := itf h10 hf
      refine j_sub [0, 2] rfl ?_
      exact t_X3_readTest_65 hX hQ hke hdk  x2 hf
    · replace hf := itt h10 hf
      exact t_X3_readTest_46 hX hQ hke hdk  x1 x2 hf
def g_X3_readTest_14 (fu : Nat) (s_tokens : Nat → Int32) (s_starts : Nat → Int32) (a_code : Nat → Int32) (a_codeSize : Int32) (a_at : Int32) (a_token : Int32) (a_fault : Int32) (a_place : Int32) (ke : Int32 → (Nat → Int32) → Int32 → Int32 → Int32 → Int32 → Int32 → Option ((Nat → Int32) × Int32 × Int32 × Int32 × Int32 × Int32)) (x1 : Int32) (s0 : Int32) : Option ((Nat → Int32) × Int32 × Int32 × Int32 × Int32 × Int32) :=
  if s0 = 0 then g_X3_readTest_23 fu s_tokens s_starts a_code a_codeSize a_at a_token a_fault a_place ke x1 s0 else (f_X3_advance s_tokens a_at).bind fun v11 => g_X3_readTest_23 fu s_tokens s_starts a_code a_codeSize v11.1 v11.2 a_fault a_place ke x1 s0
set_option maxRecDepth 100000 in
set_option maxHeartbeats 4000000 in
theorem t_X3_readTest_14 {fu : Nat} {Y : YT} {r : (Nat → Int32) × Int32 × Int32 × Int32 × Int32 × Int32}  (hX : CX l G cX3_readTest 4 RX3 Y) (hQ : EQv G Y 0 0 (WB G p_female p_born p_toldDeath p_lastYear p_father p_mother p_fatherGrade p_motherGrade p_size g_holder g_arms g_from g_size r_marks r_arms r_root r_steps r_grade r_marksAboveOne q_rows q_sizes t_bytes t_length s_tokens s_starts s_size r.1 r.2.1 r.2.2.1 r.2.2.2.1 r.2.2.2.2.1 r.2.2.2.2.2 o_texts o_names o_operands o_size o_open o_refuses o_differs o_fees c_years c_rows c_size x_faultPlace ++ fr)) {dk : Nat} {ke : Int32 → (Nat → Int32) → Int32 → Int32 → Int32 → Int32 → Int32 → Option ((Nat → Int32) × Int32 × Int32 × Int32 × Int32 × Int32)} (hke : ∀ (x1 : Int32) (a_code : Nat → Int32) (a_codeSize : Int32) (a_at : Int32) (a_token : Int32) (a_fault : Int32) (a_place : Int32) (r : (Nat → Int32) × Int32 × Int32 × Int32 × Int32 × Int32), ke x1 a_code a_codeSize a_at a_token a_fault a_place = some r → Cv l G dk 0 0 yX3_readExpression cX3_readExpression 4 [.ref (gb G 21), .int x1] (WB G p_female p_born p_toldDeath p_lastYear p_father p_mother p_fatherGrade p_motherGrade p_size g_holder g_arms g_from g_size r_marks r_arms r_root r_steps r_grade r_marksAboveOne q_rows q_sizes t_bytes t_length s_tokens s_starts s_size a_code a_codeSize a_at a_token a_fault a_place o_texts o_names o_operands o_size o_open o_refuses o_differs o_fees c_years c_rows c_size x_faultPlace ++ fr) (WB G p_female p_born p_toldDeath p_lastYear p_father p_mother p_fatherGrade p_motherGrade p_size g_holder g_arms g_from g_size r_marks r_arms r_root r_steps r_grade r_marksAboveOne q_rows q_sizes t_bytes t_length s_tokens s_starts s_size r.1 r.2.1 r.2.2.1 r.2.2.2.1 r.2.2.2.2.1 r.2.2.2.2.2 o_texts o_names o_operands o_size o_open o_refuses o_differs o_fees c_years c_rows c_size x_faultPlace ++ fr)) (hdk : 10 ≤ dk)  (x1 : Int32) (s0 : Int32) (hf : g_X3_readTest_14 fu s_tokens s_starts a_code a_codeSize a_at a_token a_fault a_place ke x1 s0 = some r) : J l G (rmD (dk + 3) 0 0) Y 0 0 14 [(0, .ref (gb G 21)), (1, .int x1)] [.int s0] (WB G p_female p_born p_toldDeath p_lastYear p_father p_mother p_fatherGrade p_motherGrade p_size g_holder g_arms g_from g_size r_marks r_arms r_root r_steps r_grade r_marksAboveOne q_rows q_sizes t_bytes t_length s_tokens s_starts s_size a_code a_codeSize a_at a_token a_fault a_place o_texts o_names o_operands o_size o_open o_refuses o_differs o_fees c_years c_rows c_size x_faultPlace ++ fr) := by
  unfold g_X3_readTest_14 at hf
  refine j_istore_n hX dX3_readTest_14 15 rfl rfl (by decide) (lv' := [(2, .int s0), (0, .ref (gb G 21)), (1, .int x1)]) rfl ?_
  refine j_iload_n hX dX3_readTest_15 16 rfl 0 rfl rfl ?_
  refine j_if_eq hX dX3_readTest_16 19 23 rfl rfl (fun h2 => ?_) (fun h2 => ?_)
  · replace hf := itt h2 hf
    refine j_sub [1, 2, 0] rfl ?_
    exact t_X3_readTest_23 hX hQ hke hdk  x1 s0 hf
  · replace hf := itf h2 hf
    refine j_aload_n hX dX3_readTest_19 20 rfl 1 rfl rfl ?_
    obtain ⟨v11, hv11, hf⟩ := ibd hf
    refine z_v (As := []) (rest := []) (q0 := 21) hX dX3_readTest_20 23 rfl (t_X3_advance  hv11) mc_X3_advance mv_X3_advance ml_X3_69 rfl rfl (by omega) (Nat.le_refl _) (Nat.le_refl _) rfl (Nat.le_of_ble_eq_true rfl) ?_
    refine j_sub [1, 2, 0] rfl ?_
    exact t_X3_readTest_23 hX hQ hke hdk  x1 s0 hf
def f_X3_readTest (fu : Nat) (s_tokens : Nat → Int32) (s_starts : Nat → Int32) (a_code : Nat → Int32) (a_codeSize : Int32) (a_at : Int32) (a_token : Int32) (a_fault : Int32) (a_place : Int32) (ke : Int32 → (Nat → Int32) → Int32 → Int32 → Int32 → Int32 → Int32 → Option ((Nat → Int32) × Int32 × Int32 × Int32 × Int32 × Int32)) (x1 : Int32) : Option ((Nat → Int32) × Int32 × Int32 × Int32 × Int32 × Int32) :=
  if a_token = 9 then g_X3_readTest_14 fu s_tokens s_starts a_code a_codeSize a_at a_token a_fault a_place ke x1 1 else g_X3_readTest_14 fu s_tokens s_starts a_code a_codeSize a_at a_token a_fault a_place ke x1 0
set_option maxRecDepth 100000 in
set_option maxHeartbeats 4000000 in
theorem t_X3_readTest {fu : Nat}  {dk : Nat} {ke : Int32 → (Nat → Int32) → Int32 → Int32 → Int32 → Int32 → Int32 → Option ((Nat → Int32) × Int32 × Int32 × Int32 × Int32 × Int32)} (hke : ∀ (x1 : Int32) (a_code : Nat → Int32) (a_codeSize : Int32) (a_at : Int32) (a_token : Int32) (a_fault : Int32) (a_place : Int32) (r : (Nat → Int32) × Int32 × Int32 × Int32 × Int32 × Int32), ke x1 a_code a_codeSize a_at a_token a_fault a_place = some r → Cv l G dk 0 0 yX3_readExpression cX3_readExpression 4 [.ref (gb G 21), .int x1] (WB G p_female p_born p_toldDeath p_lastYear p_father p_mother p_fatherGrade p_motherGrade p_size g_holder g_arms g_from g_size r_marks r_arms r_root r_steps r_grade r_marksAboveOne q_rows q_sizes t_bytes t_length s_tokens s_starts s_size a_code a_codeSize a_at a_token a_fault a_place o_texts o_names o_operands o_size o_open o_refuses o_differs o_fees c_years c_rows c_size x_faultPlace ++ fr) (WB G p_female p_born p_toldDeath p_lastYear p_father p_mother p_fatherGrade p_motherGrade p_size g_holder g_arms g_from g_size r_marks r_arms r_root r_steps r_grade r_marksAboveOne q_rows q_sizes t_bytes t_length s_tokens s_starts s_size r.1 r.2.1 r.2.2.1 r.2.2.2.1 r.2.2.2.2.1 r.2.2.2.2.2 o_texts o_names o_operands o_size o_open o_refuses o_differs o_fees c_years c_rows c_size x_faultPlace ++ fr)) (hdk : 10 ≤ dk) (x1 : Int32) {r : (Nat → Int32) × Int32 × Int32 × Int32 × Int32 × Int32} (hf : f_X3_readTest fu s_tokens s_starts a_code a_codeSize a_at a_token a_fault a_place ke x1 = some r) : Cv l G (dk + 3) 0 0 yX3_readTest cX3_readTest 4 [.ref (gb G 21), .int x1] (WB G p_female p_born p_toldDeath p_lastYear p_father p_mother p_fatherGrade p_motherGrade p_size g_holder g_arms g_from g_size r_marks r_arms r_root r_steps r_grade r_marksAboveOne q_rows q_sizes t_bytes t_length s_tokens s_starts s_size a_code a_codeSize a_at a_token a_fault a_place o_texts o_names o_operands o_size o_open o_refuses o_differs o_fees c_years c_rows c_size x_faultPlace ++ fr) (WB G p_female p_born p_toldDeath p_lastYear p_father p_mother p_fatherGrade p_motherGrade p_size g_holder g_arms g_from g_size r_marks r_arms r_root r_steps r_grade r_marksAboveOne q_rows q_sizes t_bytes t_length s_tokens s_starts s_size r.1 r.2.1 r.2.2.1 r.2.2.2.1 r.2.2.2.2.1 r.2.2.2.2.2 o_texts o_names o_operands o_size o_open o_refuses o_differs o_fees c_years c_rows c_size x_faultPlace ++ fr) := by
  refine Cv.of (by decide) (Nat.le_of_ble_eq_true rfl) (fun Y hX hQ => ?_)
  refine j_lv (lv' := [(0, .ref (gb G 21)), (1, .int x1)]) rfl ?_
  unfold f_X3_readTest at hf
  refine j_aload_n hX dX3_readTest_0 1 rfl 0 rfl rfl ?_
  refine j_get hX dX3_readTest_1 4 rfl fg_X3_31 21 rfl rfl ?_
  refine j_bipush (v := 9) hX dX3_readTest_4 6 rfl (by decide) ?_
  refine j_icmp_ne hX dX3_readTest_6 9 13 rfl rfl (fun h1 => ?_) (fun h1 => ?_)
  · replace hf := itf h1 hf
    refine j_iconst (v := 0) hX dX3_readTest_13 14 rfl (by decide) ?_
    exact t_X3_readTest_14 hX hQ hke hdk  x1 0 hf
  · replace hf := itt h1 hf
    refine j_iconst (v := 1) hX dX3_readTest_9 10 rfl (by decide) ?_
    refine j_goto hX dX3_readTest_10 14 rfl ?_
    exact t_X3_readTest_14 hX hQ hke hdk  x1 1 hf
def g_X3_canBeginExpression_43 (s0 : Int32) : Option (Int32) :=
  if isB s0 = true then some s0 else none
set_option maxRecDepth 100000 in
set_option maxHeartbeats 4000000 in
theorem t_X3_canBeginExpression_43 {Y : YT} {r : Int32}  (hX : CX l G cX3_canBeginExpression 1 RX3 Y) (hQ : EQi G Y 0 0 .boolean r (WB G p_female p_born p_toldDeath p_lastYear p_father p_mother p_fatherGrade p_motherGrade p_size g_holder g_arms g_from g_size r_marks r_arms r_root r_steps r_grade r_marksAboveOne q_rows q_sizes t_bytes t_length s_tokens s_starts s_size a_code a_codeSize a_at a_token a_fault a_place o_texts o_names o_operands o_size o_open o_refuses o_differs o_fees c_years c_rows c_size x_faultPlace ++ fr))  (s0 : Int32) (hf : g_X3_canBeginExpression_43 s0 = some r) : J l G (rmD 2 0 0) Y 0 0 43 [] [.int s0] (WB G p_female p_born p_toldDeath p_lastYear p_father p_mother p_fatherGrade p_motherGrade p_size g_holder g_arms g_from g_size r_marks r_arms r_root r_steps r_grade r_marksAboveOne q_rows q_sizes t_bytes t_length s_tokens s_starts s_size a_code a_codeSize a_at a_token a_fault a_place o_texts o_names o_operands o_size o_open o_refuses o_differs o_fees c_years c_rows c_size x_faultPlace ++ fr) := by
  unfold g_X3_canBeginExpression_43 at hf
  obtain ⟨hb2, hf⟩ := ign hf
  replace hf := Option.some.inj hf
  subst hf
  exact j_zret hX hQ hb2 dX3_canBeginExpression_43
def g_X3_canBeginExpression_38  : Option (Int32) :=
  g_X3_canBeginExpression_43 1
set_option maxRecDepth 100000 in
set_option maxHeartbeats 4000000 in
theorem t_X3_canBeginExpression_38 {Y : YT} {r : Int32}  (hX : CX l G cX3_canBeginExpression 1 RX3 Y) (hQ : EQi G Y 0 0 .boolean r (WB G p_female p_born p_toldDeath p_lastYear p_father p_mother p_fatherGrade p_motherGrade p_size g_holder g_arms g_from g_size r_marks r_arms r_root r_steps r_grade r_marksAboveOne q_rows q_sizes t_bytes t_length s_tokens s_starts s_size a_code a_codeSize a_at a_token a_fault a_place o_texts o_names o_operands o_size o_open o_refuses o_differs o_fees c_years c_rows c_size x_faultPlace ++ fr))   (hf : g_X3_canBeginExpression_38  = some r) : J l G (rmD 2 0 0) Y 0 0 38 [] [] (WB G p_female p_born p_toldDeath p_lastYear p_father p_mother p_fatherGrade p_motherGrade p_size g_holder g_arms g_from g_size r_marks r_arms r_root r_steps r_grade r_marksAboveOne q_rows q_sizes t_bytes t_length s_tokens s_starts s_size a_code a_codeSize a_at a_token a_fault a_place o_texts o_names o_operands o_size o_open o_refuses o_differs o_fees c_years c_rows c_size x_faultPlace ++ fr) := by
  unfold g_X3_canBeginExpression_38 at hf
  refine j_iconst (v := 1) hX dX3_canBeginExpression_38 39 rfl (by decide) ?_
  refine j_goto hX dX3_canBeginExpression_39 43 rfl ?_
  exact t_X3_canBeginExpression_43 hX hQ   1 hf
def f_X3_canBeginExpression (a_token : Int32) : Option (Int32) :=
  if a_token = 40 then g_X3_canBeginExpression_38  else if a_token = 9 then g_X3_canBeginExpression_38  else (f_X7_isNumber a_token).bind fun v4 => if v4 = 0 then (f_X7_isName a_token).bind fun v6 => if v6 = 0 then g_X3_canBeginExpression_43 0 else g_X3_canBeginExpression_38  else g_X3_canBeginExpression_38 
set_option maxRecDepth 100000 in
set_option maxHeartbeats 4000000 in
theorem t_X3_canBeginExpression   {r : Int32} (hf : f_X3_canBeginExpression a_token = some r) : Ci l G 2 0 0 yX3_canBeginExpression cX3_canBeginExpression 1 .boolean [.ref (gb G 21)] (WB G p_female p_born p_toldDeath p_lastYear p_father p_mother p_fatherGrade p_motherGrade p_size g_holder g_arms g_from g_size r_marks r_arms r_root r_steps r_grade r_marksAboveOne q_rows q_sizes t_bytes t_length s_tokens s_starts s_size a_code a_codeSize a_at a_token a_fault a_place o_texts o_names o_operands o_size o_open o_refuses o_differs o_fees c_years c_rows c_size x_faultPlace ++ fr) r (WB G p_female p_born p_toldDeath p_lastYear p_father p_mother p_fatherGrade p_motherGrade p_size g_holder g_arms g_from g_size r_marks r_arms r_root r_steps r_grade r_marksAboveOne q_rows q_sizes t_bytes t_length s_tokens s_starts s_size a_code a_codeSize a_at a_token a_fault a_place o_texts o_names o_operands o_size o_open o_refuses o_differs o_fees c_years c_rows c_size x_faultPlace ++ fr) := by
  refine Ci.of (by decide) (Nat.le_of_ble_eq_true rfl) (fun Y hX hQ => ?_)
  refine j_lv (lv' := [(0, .ref (gb G 21))]) rfl ?_
  unfold f_X3_canBeginExpression at hf
  refine j_aload_n hX dX3_canBeginExpression_0 1 rfl 0 rfl rfl ?_
  refine j_get hX dX3_canBeginExpression_1 4 rfl fg_X3_31 21 rfl rfl ?_
  refine j_bipush (v := 40) hX dX3_canBeginExpression_4 6 rfl (by decide) ?_
  refine j_icmp_eq hX dX3_canBeginExpression_6 9 38 rfl rfl (fun h1 => ?_) (fun h1 => ?_)
  · replace hf := itt h1 hf
    refine j_sub [] rfl ?_
    exact t_X3_canBeginExpression_38 hX hQ    hf
  · replace hf := itf h1 hf
    refine j_aload_n hX dX3_canBeginExpression_9 10 rfl 0 rfl rfl ?_
    refine j_get hX dX3_canBeginExpression_10 13 rfl fg_X3_31 21 rfl rfl ?_
    refine j_bipush (v := 9) hX dX3_canBeginExpression_13 15 rfl (by decide) ?_
    refine j_icmp_eq hX dX3_canBeginExpression_15 18 38 rfl rfl (fun h3 => ?_) (fun h3 => ?_)
    · replace hf := itt h3 hf
      refine j_sub [] rfl ?_
      exact t_X3_canBeginExpression_38 hX hQ    hf
    · replace hf := itf h3 hf
      refine j_aload_n hX dX3_canBeginExpression_18 19 rfl 0 rfl rfl ?_
      refine j_get hX dX3_canBeginExpression_19 22 rfl fg_X3_31 21 rfl rfl ?_
      obtain ⟨v4, hv4, hf⟩ := ibd hf
      refine z_si (As := [.int a_token]) (rest := []) hX dX3_canBeginExpression_22 25 rfl (t_X7_isNumber a_token hv4) mc_X7_isNumber ms_X7_isNumber ml_X3_89 (Nat.le_of_ble_eq_true rfl) (Nat.le_refl _) (Nat.le_refl _) rfl (Nat.le_of_ble_eq_true rfl) ?_
      refine j_if_ne hX dX3_canBeginExpression_25 28 38 rfl rfl (fun h5 => ?_) (fun h5 => ?_)
      · replace hf := itf h5 hf
        refine j_sub [] rfl ?_
        exact t_X3_canBeginExpression_38 hX hQ    hf
      · replace hf := itt h5 hf
        refine j_aload_n hX dX3_canBeginExpression_28 29 rfl 0 rfl rfl ?_
        refine j_get hX dX3_canBeginExpression_29 32 rfl fg_X3_31 21 rfl rfl ?_
        obtain ⟨v6, hv6, hf⟩ := ibd hf
        refine z_si (As := [.int a_token]) (rest := []) hX dX3_canBeginExpression_32 35 rfl (t_X7_isName a_token hv6) mc_X7_isName ms_X7_isName ml_X3_93 (Nat.le_of_ble_eq_true rfl) (Nat.le_refl _) (Nat.le_refl _) rfl (Nat.le_of_ble_eq_true rfl) ?_
        refine j_if_eq hX dX3_canBeginExpression_35 38 42 rfl rfl (fun h7 => ?_) (fun h7 => ?_)
        · replace hf := itt h7 hf
          refine j_iconst (v := 0) hX dX3_canBeginExpression_42 43 rfl (by decide) ?_
          refine j_sub [] rfl ?_
          exact t_X3_canBeginExpression_43 hX hQ   0 hf
        · replace hf := itf h7 hf
          refine j_sub [] rfl ?_
          exact t_X3_canBeginExpression_38 hX hQ    hf
def g_X3_readExpression_82 (a_code : Nat → Int32) (a_codeSize : Int32) (a_at : Int32) (a_token : Int32) (a_fault : Int32) (a_place : Int32) : Option ((Nat → Int32) × Int32 × Int32 × Int32 × Int32 × Int32) :=
  some (a_code, a_codeSize, a_at, a_token, a_fault, a_place)
set_option maxRecDepth 100000 in
set_option maxHeartbeats 4000000 in
theorem t_X3_readExpression_82 {Y : YT} {r : (Nat → Int32) × Int32 × Int32 × Int32 × Int32 × Int32}  (hX : CX l G cX3_readExpression 4 RX3 Y) (hQ : EQv G Y 0 0 (WB G p_female p_born p_toldDeath p_lastYear p_father p_mother p_fatherGrade p_motherGrade p_size g_holder g_arms g_from g_size r_marks r_arms r_root r_steps r_grade r_marksAboveOne q_rows q_sizes t_bytes t_length s_tokens s_starts s_size r.1 r.2.1 r.2.2.1 r.2.2.2.1 r.2.2.2.2.1 r.2.2.2.2.2 o_texts o_names o_operands o_size o_open o_refuses o_differs o_fees c_years c_rows c_size x_faultPlace ++ fr)) {dk : Nat} {ke : Int32 → (Nat → Int32) → Int32 → Int32 → Int32 → Int32 → Int32 → Option ((Nat → Int32) × Int32 × Int32 × Int32 × Int32 × Int32)} (hke : ∀ (x1 : Int32) (a_code : Nat → Int32) (a_codeSize : Int32) (a_at : Int32) (a_token : Int32) (a_fault : Int32) (a_place : Int32) (r : (Nat → Int32) × Int32 × Int32 × Int32 × Int32 × Int32), ke x1 a_code a_codeSize a_at a_token a_fault a_place = some r → Cv l G dk 0 0 yX3_readExpression cX3_readExpression 4 [.ref (gb G 21), .int x1] (WB G p_female p_born p_toldDeath p_lastYear p_father p_mother p_fatherGrade p_motherGrade p_size g_holder g_arms g_from g_size r_marks r_arms r_root r_steps r_grade r_marksAboveOne q_rows q_sizes t_bytes t_length s_tokens s_starts s_size a_code a_codeSize a_at a_token a_fault a_place o_texts o_names o_operands o_size o_open o_refuses o_differs o_fees c_years c_rows c_size x_faultPlace ++ fr) (WB G p_female p_born p_toldDeath p_lastYear p_father p_mother p_fatherGrade p_motherGrade p_size g_holder g_arms g_from g_size r_marks r_arms r_root r_steps r_grade r_marksAboveOne q_rows q_sizes t_bytes t_length s_tokens s_starts s_size r.1 r.2.1 r.2.2.1 r.2.2.2.1 r.2.2.2.2.1 r.2.2.2.2.2 o_texts o_names o_operands o_size o_open o_refuses o_differs o_fees c_years c_rows c_size x_faultPlace ++ fr)) (hdk : 10 ≤ dk)   (hf : g_X3_readExpression_82 a_code a_codeSize a_at a_token a_fault a_place = some r) : J l G (rmD (dk + 4) 0 0) Y 0 0 82 [] [] (WB G p_female p_born p_toldDeath p_lastYear p_father p_mother p_fatherGrade p_motherGrade p_size g_holder g_arms g_from g_size r_marks r_arms r_root r_steps r_grade r_marksAboveOne q_rows q_sizes t_bytes t_length s_tokens s_starts s_size a_code a_codeSize a_at a_token a_fault a_place o_texts o_names o_operands o_size o_open o_refuses o_differs o_fees c_years c_rows c_size x_faultPlace ++ fr) := by
  unfold g_X3_readExpression_82 at hf
  replace hf := Option.some.inj hf
  subst hf
  exact j_vret hX hQ dX3_readExpression_82
def g_X3_readExpression_57 (fu : Nat) (s_tokens : Nat → Int32) (s_starts : Nat → Int32) (a_code : Nat → Int32) (a_codeSize : Int32) (a_at : Int32) (a_token : Int32) (a_fault : Int32) (a_place : Int32) (k32 : Int32 → Int32 → (Nat → Int32) → Int32 → Int32 → Int32 → Int32 → Int32 → Option ((Nat → Int32) × Int32 × Int32 × Int32 × Int32 × Int32)) (ke : Int32 → (Nat → Int32) → Int32 → Int32 → Int32 → Int32 → Int32 → Option ((Nat → Int32) × Int32 × Int32 × Int32 × Int32 × Int32)) (x1 : Int32) (x2 : Int32) : Option ((Nat → Int32) × Int32 × Int32 × Int32 × Int32 × Int32) :=
  (f_X3_advance s_tokens a_at).bind fun v5 => (f_X3_readTest fu s_tokens s_starts a_code a_codeSize v5.1 v5.2 a_fault a_place ke x1).bind fun v6 => (f_X3_emit v6.1 v6.2.1 a_token).bind fun v7 => k32 x1 (x2 + 1) v7.1 v7.2 v6.2.2.1 v6.2.2.2.1 v6.2.2.2.2.1 v6.2.2.2.2.2
set_option maxRecDepth 100000 in
set_option maxHeartbeats 4000000 in
theorem t_X3_readExpression_57 {fu : Nat} {Y : YT} {r : (Nat → Int32) × Int32 × Int32 × Int32 × Int32 × Int32} {k32 : Int32 → Int32 → (Nat → Int32) → Int32 → Int32 → Int32 → Int32 → Int32 → Option ((Nat → Int32) × Int32 × Int32 × Int32 × Int32 × Int32)} (hX : CX l G cX3_readExpression 4 RX3 Y) (hQ : EQv G Y 0 0 (WB G p_female p_born p_toldDeath p_lastYear p_father p_mother p_fatherGrade p_motherGrade p_size g_holder g_arms g_from g_size r_marks r_arms r_root r_steps r_grade r_marksAboveOne q_rows q_sizes t_bytes t_length s_tokens s_starts s_size r.1 r.2.1 r.2.2.1 r.2.2.2.1 r.2.2.2.2.1 r.2.2.2.2.2 o_texts o_names o_operands o_size o_open o_refuses o_differs o_fees c_years c_rows c_size x_faultPlace ++ fr)) {dk : Nat} {ke : Int32 → (Nat → Int32) → Int32 → Int32 → Int32 → Int32 → Int32 → Option ((Nat → Int32) × Int32 × Int32 × Int32 × Int32 × Int32)} (hke : ∀ (x1 : Int32) (a_code : Nat → Int32) (a_codeSize : Int32) (a_at : Int32) (a_token : Int32) (a_fault : Int32) (a_place : Int32) (r : (Nat → Int32) × Int32 × Int32 × Int32 × Int32 × Int32), ke x1 a_code a_codeSize a_at a_token a_fault a_place = some r → Cv l G dk 0 0 yX3_readExpression cX3_readExpression 4 [.ref (gb G 21), .int x1] (WB G p_female p_born p_toldDeath p_lastYear p_father p_mother p_fatherGrade p_motherGrade p_size g_holder g_arms g_from g_size r_marks r_arms r_root r_steps r_grade r_marksAboveOne q_rows q_sizes t_bytes t_length s_tokens s_starts s_size a_code a_codeSize a_at a_token a_fault a_place o_texts o_names o_operands o_size o_open o_refuses o_differs o_fees c_years c_rows c_size x_faultPlace ++ fr) (WB G p_female p_born p_toldDeath p_lastYear p_father p_mother p_fatherGrade p_motherGrade p_size g_holder g_arms g_from g_size r_marks r_arms r_root r_steps r_grade r_marksAboveOne q_rows q_sizes t_bytes t_length s_tokens s_starts s_size r.1 r.2.1 r.2.2.1 r.2.2.2.1 r.2.2.2.2.1 r.2.2.2.2.2 o_texts o_names o_operands o_size o_open o_refuses o_differs o_fees c_years c_rows c_size x_faultPlace ++ fr)) (hdk : 10 ≤ dk) (hk32 : ∀ (x1 : Int32) (x2 : Int32) (a_code : Nat → Int32) (a_codeSize : Int32) (a_at : Int32) (a_token : Int32) (a_fault : Int32) (a_place : Int32), k32 x1 x2 a_code a_codeSize a_at a_token a_fault a_place = some r → J l G (rmD (dk + 4) 0 0) Y 0 0 32 [(0, .ref (gb G 21)), (1, .int x1), (2, .int x2)] [] (WB G p_female p_born p_toldDeath p_lastYear p_father p_mother p_fatherGrade p_motherGrade p_size g_holder g_arms g_from g_size r_marks r_arms r_root r_steps r_grade r_marksAboveOne q_rows q_sizes t_bytes t_length s_tokens s_starts s_size a_code a_codeSize a_at a_token a_fault a_place o_texts o_names o_operands o_size o_open o_refuses o_differs o_fees c_years c_rows c_size x_faultPlace ++ fr)) (x1 : Int32) (x2 : Int32) (hf : g_X3_readExpression_57 fu s_tokens s_starts a_code a_codeSize a_at a_token a_fault a_place k32 ke x1 x2 = some r) : J l G (rmD (dk + 4) 0 0) Y 0 0 57 [(0, .ref (gb G 21)), (1, .int x1), (2, .int x2)] [] (WB G p_female p_born p_toldDeath p_lastYear p_father p_mother p_fatherGrade p_motherGrade p_size g_holder g_arms g_from g_size r_marks r_arms r_root r_steps r_grade r_marksAboveOne q_rows q_sizes t_bytes t_length s_tokens s_starts s_size a_code a_codeSize a_at a_token a_fault a_place o_texts o_names o_operands o_size o_open o_refuses o_differs o_fees c_years c_rows c_size x_faultPlace ++ fr) := by
  unfold g_X3_readExpression_57 at hf
  refine j_aload_n hX dX3_readExpression_57 58 rfl 0 rfl rfl ?_
  refine j_get hX dX3_readExpression_58 61 rfl fg_X3_31 21 rfl rfl ?_
  refine j_istore_n hX dX3_readExpression_61 62 rfl rfl (by decide) (lv' := [(3, .int a_token), (0, .ref (gb G 21)), (1, .int x1), (2, .int x2)]) rfl ?_
  refine j_aload_n hX dX3_readExpression_62 63 rfl 1 rfl rfl ?_
  obtain ⟨v5, hv5, hf⟩ := ibd hf
  refine z_v (As := []) (rest := []) (q0 := 21) hX dX3_readExpression_63 66 rfl (t_X3_advance  hv5) mc_X3_advance mv_X3_advance ml_X3_69 rfl rfl (by omega) (Nat.le_refl _) (Nat.le_refl _) rfl (Nat.le_of_ble_eq_true rfl) ?_
  refine j_aload_n hX dX3_readExpression_66 67 rfl 1 rfl rfl ?_
  refine j_iload_n hX dX3_readExpression_67 68 rfl 2 rfl rfl ?_
  obtain ⟨v6, hv6, hf⟩ := ibd hf
  refine z_v (As := [.int x1]) (rest := []) (q0 := 21) hX dX3_readExpression_68 71 rfl (t_X3_readTest hke hdk x1 hv6) mc_X3_readTest mv_X3_readTest ml_X3_86 rfl rfl (by omega) (Nat.le_refl _) (Nat.le_refl _) rfl (Nat.le_of_ble_eq_true rfl) ?_
  refine j_aload_n hX dX3_readExpression_71 72 rfl 1 rfl rfl ?_
  refine j_iload_n hX dX3_readExpression_72 73 rfl 0 rfl rfl ?_
  obtain ⟨v7, hv7, hf⟩ := ibd hf
  refine z_v (As := [.int a_token]) (rest := []) (q0 := 21) hX dX3_readExpression_73 76 rfl (t_X3_emit a_token hv7) mc_X3_emit mv_X3_emit ml_X3_75 rfl rfl (by omega) (Nat.le_refl _) (Nat.le_refl _) rfl (Nat.le_of_ble_eq_true rfl) ?_
  refine j_iinc (v := x2 + 1) hX dX3_readExpression_76 79 rfl 3 rfl rfl (by decide) (lv' := [(2, .int (x2 + 1)), (3, .int a_token), (0, .ref (gb G 21)), (1, .int x1)]) rfl ?_
  refine j_goto hX dX3_readExpression_79 32 rfl ?_
  refine j_sub [2, 3, 0] rfl ?_
  exact hk32 x1 (x2 + 1) v7.1 v7.2 v6.2.2.1 v6.2.2.2.1 v6.2.2.2.2.1 v6.2.2.2.2.2 hf
def g_X3_readExpression_32 (fu : Nat) (s_tokens : Nat → Int32) (s_starts : Nat → Int32) (a_code : Nat → Int32) (a_codeSize : Int32) (a_at : Int32) (a_token : Int32) (a_fault : Int32) (a_place : Int32) (k32 : Int32 → Int32 → (Nat → Int32) → Int32 → Int32 → Int32 → Int32 → Int32 → Option ((Nat → Int32) × Int32 × Int32 × Int32 × Int32 × Int32)) (ke : Int32 → (Nat → Int32) → Int32 → Int32 → Int32 → Int32 → Int32 → Option ((Nat → Int32) × Int32 × Int32 × Int32 × Int32 × Int32)) (x1 : Int32) (x2 : Int32) : Option ((Nat → Int32) × Int32 × Int32 × Int32 × Int32 × Int32) :=
  if 400 ≤ x2 then g_X3_readExpression_82 a_code a_codeSize a_at a_token a_fault a_place else if a_token = 7 then g_X3_readExpression_57 fu s_tokens s_starts a_code a_codeSize a_at a_token a_fault a_place k32 ke x1 x2 else if a_token = 8 then g_X3_readExpression_57 fu s_tokens s_starts a_code a_codeSize a_at a_token a_fault a_place k32 ke x1 x2 else g_X3_readExpression_82 a_code a_codeSize a_at a_token a_fault a_place
set_option maxRecDepth 100000 in
set_option maxHeartbeats 4000000 in
theorem t_X3_readExpression_32 {fu : Nat} {Y : YT} {r : (Nat → Int32) × Int32 × Int32 × Int32 × Int32 × Int32} {k32 : Int32 → Int32 → (Nat → Int32) → Int32 → Int32 → Int32 → Int32 → Int32 → Option ((Nat → Int32) × Int32 × Int32 × Int32 × Int32 × Int32)} (hX : CX l G cX3_readExpression 4 RX3 Y) (hQ : EQv G Y 0 0 (WB G p_female p_born p_toldDeath p_lastYear p_father p_mother p_fatherGrade p_motherGrade p_size g_holder g_arms g_from g_size r_marks r_arms r_root r_steps r_grade r_marksAboveOne q_rows q_sizes t_bytes t_length s_tokens s_starts s_size r.1 r.2.1 r.2.2.1 r.2.2.2.1 r.2.2.2.2.1 r.2.2.2.2.2 o_texts o_names o_operands o_size o_open o_refuses o_differs o_fees c_years c_rows c_size x_faultPlace ++ fr)) {dk : Nat} {ke : Int32 → (Nat → Int32) → Int32 → Int32 → Int32 → Int32 → Int32 → Option ((Nat → Int32) × Int32 × Int32 × Int32 × Int32 × Int32)} (hke : ∀ (x1 : Int32) (a_code : Nat → Int32) (a_codeSize : Int32) (a_at : Int32) (a_token : Int32) (a_fault : Int32) (a_place : Int32) (r : (Nat → Int32) × Int32 × Int32 × Int32 × Int32 × Int32), ke x1 a_code a_codeSize a_at a_token a_fault a_place = some r → Cv l G dk 0 0 yX3_readExpression cX3_readExpression 4 [.ref (gb G 21), .int x1] (WB G p_female p_born p_toldDeath p_lastYear p_father p_mother p_fatherGrade p_motherGrade p_size g_holder g_arms g_from g_size r_marks r_arms r_root r_steps r_grade r_marksAboveOne q_rows q_sizes t_bytes t_length s_tokens s_starts s_size a_code a_codeSize a_at a_token a_fault a_place o_texts o_names o_operands o_size o_open o_refuses o_differs o_fees c_years c_rows c_size x_faultPlace ++ fr) (WB G p_female p_born p_toldDeath p_lastYear p_father p_mother p_fatherGrade p_motherGrade p_size g_holder g_arms g_from g_size r_marks r_arms r_root r_steps r_grade r_marksAboveOne q_rows q_sizes t_bytes t_length s_tokens s_starts s_size r.1 r.2.1 r.2.2.1 r.2.2.2.1 r.2.2.2.2.1 r.2.2.2.2.2 o_texts o_names o_operands o_size o_open o_refuses o_differs o_fees c_years c_rows c_size x_faultPlace ++ fr)) (hdk : 10 ≤ dk) (hk32 : ∀ (x1 : Int32) (x2 : Int32) (a_code : Nat → Int32) (a_codeSize : Int32) (a_at : Int32) (a_token : Int32) (a_fault : Int32) (a_place : Int32), k32 x1 x2 a_code a_codeSize a_at a_token a_fault a_place = some r → J l G (rmD (dk + 4) 0 0) Y 0 0 32 [(0, .ref (gb G 21)), (1, .int x1), (2, .int x2)] [] (WB G p_female p_born p_toldDeath p_lastYear p_father p_mother p_fatherGrade p_motherGrade p_size g_holder g_arms g_from g_size r_marks r_arms r_root r_steps r_grade r_marksAboveOne q_rows q_sizes t_bytes t_length s_tokens s_starts s_size a_code a_codeSize a_at a_token a_fault a_place o_texts o_names o_operands o_size o_open o_refuses o_differs o_fees c_years c_rows c_size x_faultPlace ++ fr)) (x1 : Int32) (x2 : Int32) (hf : g_X3_readExpression_32 fu s_tokens s_starts a_code a_codeSize a_at a_token a_fault a_place k32 ke x1 x2 = some r) : J l G (rmD (dk + 4) 0 0) Y 0 0 32 [(0, .ref (gb G 21)), (1, .int x1), (2, .int x2)] [] (WB G p_female p_born p_toldDeath p_lastYear p_father p_mother p_fatherGrade p_motherGrade p_size g_holder g_arms g_from g_size r_marks r_arms r_root r_steps r_grade r_marksAboveOne q_rows q_sizes t_bytes t_length s_tokens s_starts s_size a_code a_codeSize a_at a_token a_fault a_place o_texts o_names o_operands o_size o_open o_refuses o_differs o_fees c_years c_rows c_size x_faultPlace ++ fr) := by
  unfold g_X3_readExpression_32 at hf
  refine j_iload_n hX dX3_readExpression_32 33 rfl 2 rfl rfl ?_
  refine j_sipush (v := 400) hX dX3_readExpression_33 36 rfl (by decide) ?_
  refine j_icmp_ge hX dX3_readExpression_36 39 82 rfl rfl (fun h3 => ?_) (fun h3 => ?_)
  · replace hf := itt h3 hf
    refine j_sub [] rfl ?_
    exact t_X3_readExpression_82 hX hQ hke hdk   hf
  · replace hf := itf h3 hf
    refine j_aload_n hX dX3_readExpression_39 40 rfl 0 rfl rfl ?_
    refine j_get hX dX3_readExpression_40 43 rfl fg_X3_31 21 rfl rfl ?_
    refine j_bipush (v := 7) hX dX3_readExpression_43 45 rfl (by decide) ?_
    refine j_icmp_eq hX dX3_readExpression_45 48 57 rfl rfl (fun h4 => ?_) (fun h4 => ?_)
    · replace hf := itt h4 hf
      exact t_X3_readExpression_57 hX hQ hke hdk hk32 x1 x2 hf
    · replace hf := itf h4 hf
      refine j_aload_n hX dX3_readExpression_48 49 rfl 0 rfl rfl ?_
      refine j_get hX dX3_readExpression_49 52 rfl fg_X3_31 21 rfl rfl ?_
      refine j_bipush (v := 8) hX dX3_readExpression_52 54 rfl (by decide) ?_
      refine j_icmp_ne hX dX3_readExpression_54 57 82 rfl rfl (fun h8 => ?_) (fun h8 => ?_)
      · replace hf := itf h8 hf
        refine j_sub [] rfl ?_
        exact t_X3_readExpression_82 hX hQ hke hdk   hf
      · replace hf := itt h8 hf
        exact t_X3_readExpression_57 hX hQ hke hdk hk32 x1 x2 hf
def f_X3_readExpression_32 (fu : Nat) (s_tokens : Nat → Int32) (s_starts : Nat → Int32) (ke : Int32 → (Nat → Int32) → Int32 → Int32 → Int32 → Int32 → Int32 → Option ((Nat → Int32) × Int32 × Int32 × Int32 × Int32 × Int32)) : Nat → (Int32 × Int32 × (Nat → Int32) × Int32 × Int32 × Int32 × Int32 × Int32) → Option ((Nat → Int32) × Int32 × Int32 × Int32 × Int32 × Int32) :=
  lp (fun k v => g_X3_readExpression_32 fu s_tokens s_starts v.2.2.1 v.2.2.2.1 v.2.2.2.2.1 v.2.2.2.2.2.1 v.2.2.2.2.2.2.1 v.2.2.2.2.2.2.2 (fun x1 x2 a_code a_codeSize a_at a_token a_fault a_place => k (x1, x2, a_code, a_codeSize, a_at, a_token, a_fault, a_place)) ke v.1 v.2.1)
set_option maxRecDepth 100000 in
set_option maxHeartbeats 4000000 in
theorem u_X3_readExpression_32 {fu : Nat} {Y : YT} {r : (Nat → Int32) × Int32 × Int32 × Int32 × Int32 × Int32}  (hX : CX l G cX3_readExpression 4 RX3 Y) (hQ : EQv G Y 0 0 (WB G p_female p_born p_toldDeath p_lastYear p_father p_mother p_fatherGrade p_motherGrade p_size g_holder g_arms g_from g_size r_marks r_arms r_root r_steps r_grade r_marksAboveOne q_rows q_sizes t_bytes t_length s_tokens s_starts s_size r.1 r.2.1 r.2.2.1 r.2.2.2.1 r.2.2.2.2.1 r.2.2.2.2.2 o_texts o_names o_operands o_size o_open o_refuses o_differs o_fees c_years c_rows c_size x_faultPlace ++ fr)) {dk : Nat} {ke : Int32 → (Nat → Int32) → Int32 → Int32 → Int32 → Int32 → Int32 → Option ((Nat → Int32) × Int32 × Int32 × Int32 × Int32 × Int32)} (hke : ∀ (x1 : Int32) (a_code : Nat → Int32) (a_codeSize : Int32) (a_at : Int32) (a_token : Int32) (a_fault : Int32) (a_place : Int32) (r : (Nat → Int32) × Int32 × Int32 × Int32 × Int32 × Int32), ke x1 a_code a_codeSize a_at a_token a_fault a_place = some r → Cv l G dk 0 0 yX3_readExpression cX3_readExpression 4 [.ref (gb G 21), .int x1] (WB G p_female p_born p_toldDeath p_lastYear p_father p_mother p_fatherGrade p_motherGrade p_size g_holder g_arms g_from g_size r_marks r_arms r_root r_steps r_grade r_marksAboveOne q_rows q_sizes t_bytes t_length s_tokens s_starts s_size a_code a_codeSize a_at a_token a_fault a_place o_texts o_names o_operands o_size o_open o_refuses o_differs o_fees c_years c_rows c_size x_faultPlace ++ fr) (WB G p_female p_born p_toldDeath p_lastYear p_father p_mother p_fatherGrade p_motherGrade p_size g_holder g_arms g_from g_size r_marks r_arms r_root r_steps r_grade r_marksAboveOne q_rows q_sizes t_bytes t_length s_tokens s_starts s_size r.1 r.2.1 r.2.2.1 r.2.2.2.1 r.2.2.2.2.1 r.2.2.2.2.2 o_texts o_names o_operands o_size o_open o_refuses o_differs o_fees c_years c_rows c_size x_faultPlace ++ fr)) (hdk : 10 ≤ dk)  (n : Nat) (v : Int32 × Int32 × (Nat → Int32) × Int32 × Int32 × Int32 × Int32 × Int32) (hf : f_X3_readExpression_32 fu s_tokens s_starts ke n v = some r) : J l G (rmD (dk + 4) 0 0) Y 0 0 32 [(0, .ref (gb G 21)), (1, .int v.1), (2, .int v.2.1)] [] (WB G p_female p_born p_toldDeath p_lastYear p_father p_mother p_fatherGrade p_motherGrade p_size g_holder g_arms g_from g_size r_marks r_arms r_root r_steps r_grade r_marksAboveOne q_rows q_sizes t_bytes t_length s_tokens s_starts s_size v.2.2.1 v.2.2.2.1 v.2.2.2.2.1 v.2.2.2.2.2.1 v.2.2.2.2.2.2.1 v.2.2.2.2.2.2.2 o_texts o_names o_operands o_size o_open o_refuses o_differs o_fees c_years c_rows c_size x_faultPlace ++ fr) :=
  lp_ind (P := fun v : Int32 × Int32 × (Nat → Int32) × Int32 × Int32 × Int32 × Int32 × Int32 => J l G (rmD (dk + 4) 0 0) Y 0 0 32 [(0, .ref (gb G 21)), (1, .int v.1), (2, .int v.2.1)] [] (WB G p_female p_born p_toldDeath p_lastYear p_father p_mother p_fatherGrade p_motherGrade p_size g_holder g_arms g_from g_size r_marks r_arms r_root r_steps r_grade r_marksAboveOne q_rows q_sizes t_bytes t_length s_tokens s_starts s_size v.2.2.1 v.2.2.2.1 v.2.2.2.2.1 v.2.2.2.2.2.1 v.2.2.2.2.2.2.1 v.2.2.2.2.2.2.2 o_texts o_names o_operands o_size o_open o_refuses o_differs o_fees c_years c_rows c_size x_faultPlace ++ fr)) (fun k hk v hf => t_X3_readExpression_32 hX hQ hke hdk  (fun x1 x2 a_code a_codeSize a_at a_token a_fault a_place h => hk (x1, x2, a_code, a_codeSize, a_at, a_token, a_fault, a_place) h) v.1 v.2.1 hf) n v hf
def g_X3_readExpression_21 (s_starts : Nat → Int32) (a_code : Nat → Int32) (a_codeSize : Int32) (a_at : Int32) (a_token : Int32) (a_fault : Int32) (a_place : Int32) (s0 : Int32) : Option ((Nat → Int32) × Int32 × Int32 × Int32 × Int32 × Int32) :=
  (f_X3_blame s_starts a_at a_token a_fault a_place s0).bind fun v12 => some (a_code, a_codeSize, a_at, v12.1, v12.2.1, v12.2.2)
set_option maxRecDepth 100000 in
set_option maxHeartbeats 4000000 in
theorem t_X3_readExpression_21 {Y : YT} {r : (Nat → Int32) × Int32 × Int32 × Int32 × Int32 × Int32}  (hX : CX l G cX3_readExpression 4 RX3 Y) (hQ : EQv G Y 0 0 (WB G p_female p_born p_toldDeath p_lastYear p_father p_mother p_fatherGrade p_motherGrade p_size g_holder g_arms g_from g_size r_marks r_arms r_root r_steps r_grade r_marksAboveOne q_rows q_sizes t_bytes t_length s_tokens s_starts s_size r.1 r.2.1 r.2.2.1 r.2.2.2.1 r.2.2.2.2.1 r.2.2.2.2.2 o_texts o_names o_operands o_size o_open o_refuses o_differs o_fees c_years c_rows c_size x_faultPlace ++ fr)) {dk : Nat} {ke : Int32 → (Nat → Int32) → Int32 → Int32 → Int32 → Int32 → Int32 → Option ((Nat → Int32) × Int32 × Int32 × Int32 × Int32 × Int32)} (hke : ∀ (x1 : Int32) (a_code : Nat → Int32) (a_codeSize : Int32) (a_at : Int32) (a_token : Int32) (a_fault : Int32) (a_place : Int32) (r : (Nat → Int32) × Int32 × Int32 × Int32 × Int32 × Int32), ke x1 a_code a_codeSize a_at a_token a_fault a_place = some r → Cv l G dk 0 0 yX3_readExpression cX3_readExpression 4 [.ref (gb G 21), .int x1] (WB G p_female p_born p_toldDeath p_lastYear p_father p_mother p_fatherGrade p_motherGrade p_size g_holder g_arms g_from g_size r_marks r_arms r_root r_steps r_grade r_marksAboveOne q_rows q_sizes t_bytes t_length s_tokens s_starts s_size a_code a_codeSize a_at a_token a_fault a_place o_texts o_names o_operands o_size o_open o_refuses o_differs o_fees c_years c_rows c_size x_faultPlace ++ fr) (WB G p_female p_born p_toldDeath p_lastYear p_father p_mother p_fatherGrade p_motherGrade p_size g_holder g_arms g_from g_size r_marks r_arms r_root r_steps r_grade r_marksAboveOne q_rows q_sizes t_bytes t_length s_tokens s_starts s_size r.1 r.2.1 r.2.2.1 r.2.2.2.1 r.2.2.2.2.1 r.2.2.2.2.2 o_texts o_names o_operands o_size o_open o_refuses o_differs o_fees c_years c_rows c_size x_faultPlace ++ fr)) (hdk : 10 ≤ dk)  (s0 : Int32) (hf : g_X3_readExpression_21 s_starts a_code a_codeSize a_at a_token a_fault a_place s0 = some r) : J l G (rmD (dk + 4) 0 0) Y 0 0 21 [] [.int s0, .ref (gb G 21)] (WB G p_female p_born p_toldDeath p_lastYear p_father p_mother p_fatherGrade p_motherGrade p_size g_holder g_arms g_from g_size r_marks r_arms r_root r_steps r_grade r_marksAboveOne q_rows q_sizes t_bytes t_length s_tokens s_starts s_size a_code a_codeSize a_at a_token a_fault a_place o_texts o_names o_operands o_size o_open o_refuses o_differs o_fees c_years c_rows c_size x_faultPlace ++ fr) := by
  unfold g_X3_readExpression_21 at hf
  obtain ⟨v12, hv12, hf⟩ := ibd hf
  refine z_v (As := [.int s0]) (rest := []) (q0 := 21) hX dX3_readExpression_21 24 rfl (t_X3_blame s0 hv12) mc_X3_blame mv_X3_blame ml_X3_66 rfl rfl (by omega) (Nat.le_refl _) (Nat.le_refl _) rfl (Nat.le_of_ble_eq_true rfl) ?_
  replace hf := Option.some.inj hf
  subst hf
  exact j_vret hX hQ dX3_readExpression_24
def f_X3_readExpression (fu : Nat) (s_tokens : Nat → Int32) (s_starts : Nat → Int32) (a_code : Nat → Int32) (a_codeSize : Int32) (a_at : Int32) (a_token : Int32) (a_fault : Int32) (a_place : Int32) (ke : Int32 → (Nat → Int32) → Int32 → Int32 → Int32 → Int32 → Int32 → Option ((Nat → Int32) × Int32 × Int32 × Int32 × Int32 × Int32)) (x1 : Int32) : Option ((Nat → Int32) × Int32 × Int32 × Int32 × Int32 × Int32) :=
  if x1 ≤ 5 then (f_X3_readTest fu s_tokens s_starts a_code a_codeSize a_at a_token a_fault a_place ke x1).bind fun v2 => f_X3_readExpression_32 fu s_tokens s_starts ke fu (x1, 0, v2.1, v2.2.1, v2.2.2.1, v2.2.2.2.1, v2.2.2.2.2.1, v2.2.2.2.2.2) else (f_X3_canBeginExpression a_token).bind fun v9 => if v9 = 0 then (f_X3_faultWithoutPart a_token).bind fun v11 => g_X3_readExpression_21 s_starts a_code a_codeSize a_at a_token a_fault a_place v11 else g_X3_readExpression_21 s_starts a_code a_codeSize a_at a_token a_fault a_place 2
set_option maxRecDepth 100000 in
set_option maxHeartbeats 4000000 in
theorem t_X3_readExpression {fu : Nat}  {dk : Nat} {ke : Int32 → (Nat → Int32) → Int32 → Int32 → Int32 → Int32 → Int32 → Option ((Nat → Int32) × Int32 × Int32 × Int32 × Int32 × Int32)} (hke : ∀ (x1 : Int32) (a_code : Nat → Int32) (a_codeSize : Int32) (a_at : Int32) (a_token : Int32) (a_fault : Int32) (a_place : Int32) (r : (Nat → Int32) × Int32 × Int32 × Int32 × Int32 × Int32), ke x1 a_code a_codeSize a_at a_token a_fault a_place = some r → Cv l G dk 0 0 yX3_readExpression cX3_readExpression 4 [.ref (gb G 21), .int x1] (WB G p_female p_born p_toldDeath p_lastYear p_father p_mother p_fatherGrade p_motherGrade p_size g_holder g_arms g_from g_size r_marks r_arms r_root r_steps r_grade r_marksAboveOne q_rows q_sizes t_bytes t_length s_tokens s_starts s_size a_code a_codeSize a_at a_token a_fault a_place o_texts o_names o_operands o_size o_open o_refuses o_differs o_fees c_years c_rows c_size x_faultPlace ++ fr) (WB G p_female p_born p_toldDeath p_lastYear p_father p_mother p_fatherGrade p_motherGrade p_size g_holder g_arms g_from g_size r_marks r_arms r_root r_steps r_grade r_marksAboveOne q_rows q_sizes t_bytes t_length s_tokens s_starts s_size r.1 r.2.1 r.2.2.1 r.2.2.2.1 r.2.2.2.2.1 r.2.2.2.2.2 o_texts o_names o_operands o_size o_open o_refuses o_differs o_fees c_years c_rows c_size x_faultPlace ++ fr)) (hdk : 10 ≤ dk) (x1 : Int32) {r : (Nat → Int32) × Int32 × Int32 × Int32 × Int32 × Int32} (hf : f_X3_readExpression fu s_tokens s_starts a_code a_codeSize a_at a_token a_fault a_place ke x1 = some r) : Cv l G (dk + 4) 0 0 yX3_readExpression cX3_readExpression 4 [.ref (gb G 21), .int x1] (WB G p_female p_born p_toldDeath p_lastYear p_father p_mother p_fatherGrade p_motherGrade p_size g_holder g_arms g_from g_size r_marks r_arms r_root r_steps r_grade r_marksAboveOne q_rows q_sizes t_bytes t_length s_tokens s_starts s_size a_code a_codeSize a_at a_token a_fault a_place o_texts o_names o_operands o_size o_open o_refuses o_differs o_fees c_years c_rows c_size x_faultPlace ++ fr) (WB G p_female p_born p_toldDeath p_lastYear p_father p_mother p_fatherGrade p_motherGrade p_size g_holder g_arms g_from g_size r_marks r_arms r_root r_steps r_grade r_marksAboveOne q_rows q_sizes t_bytes t_length s_tokens s_starts s_size r.1 r.2.1 r.2.2.1 r.2.2.2.1 r.2.2.2.2.1 r.2.2.2.2.2 o_texts o_names o_operands o_size o_open o_refuses o_differs o_fees c_years c_rows c_size x_faultPlace ++ fr) := by
  refine Cv.of (by decide) (Nat.le_of_ble_eq_true rfl) (fun Y hX hQ => ?_)
  refine j_lv (lv' := [(0, .ref (gb G 21)), (1, .int x1)]) rfl ?_
  unfold f_X3_readExpression at hf
  refine j_iload_n hX dX3_readExpression_0 1 rfl 1 rfl rfl ?_
  refine j_iconst (v := 5) hX dX3_readExpression_1 2 rfl (by decide) ?_
  refine j_icmp_le hX dX3_readExpression_2 5 25 rfl rfl (fun h1 => ?_) (fun h1 => ?_)
  · replace hf := itt h1 hf
    refine j_aload_n hX dX3_readExpression_25 26 rfl 0 rfl rfl ?_
    refine j_iload_n hX dX3_readExpression_26 27 rfl 1 rfl rfl ?_
    obtain ⟨v2, hv2, hf⟩ := ibd hf
    refine z_v (As := [.int x1]) (rest := []) (q0 := 21) hX dX3_readExpression_27 30 rfl (t_X3_readTest hke hdk x1 hv2) mc_X3_readTest mv_X3_readTest ml_X3_86 rfl rfl (by omega) (Nat.le_refl _) (Nat.le_refl _) rfl (Nat.le_of_ble_eq_true rfl) ?_
    refine j_iconst (v := 0) hX dX3_readExpression_30 31 rfl (by decide) ?_
    refine j_istore_n hX dX3_readExpression_31 32 rfl rfl (by decide) (lv' := [(2, .int 0), (0, .ref (gb G 21)), (1, .int x1)]) rfl ?_
    refine j_sub [1, 2, 0] rfl ?_
    exact u_X3_readExpression_32 hX hQ hke hdk  fu (x1, 0, v2.1, v2.2.1, v2.2.2.1, v2.2.2.2.1, v2.2.2.2.2.1, v2.2.2.2.2.2) hf
  · replace hf := itf h1 hf
    refine j_aload_n hX dX3_readExpression_5 6 rfl 0 rfl rfl ?_
    refine j_aload_n hX dX3_readExpression_6 7 rfl 0 rfl rfl ?_
    obtain ⟨v9, hv9, hf⟩ := ibd hf
    refine z_i (As := []) (rest := [.ref (gb G 21)]) (q0 := 21) hX dX3_readExpression_7 10 rfl (t_X3_canBeginExpression  hv9) mc_X3_canBeginExpression mv_X3_canBeginExpression ml_X3_78 rfl rfl (by omega) (Nat.le_refl _) (Nat.le_refl _) rfl (Nat.le_of_ble_eq_true rfl) ?_
    refine j_if_eq hX dX3_readExpression_10 13 17 rfl rfl (fun h10 => ?_) (fun h10 => ?_)
    · replace hf := itt h10 hf
      refine j_aload_n hX dX3_readExpression_17 18 rfl 0 rfl rfl ?_
      obtain ⟨v11, hv11, hf⟩ := ibd hf
      refine z_i (As := []) (rest := [.ref (gb G 21)]) (q0 := 21) hX dX3_readExpression_18 21 rfl (t_X3_faultWithoutPart  hv11) mc_X3_faultWithoutPart mv_X3_faultWithoutPart ml_X3_82 rfl rfl (by omega) (Nat.le_refl _) (Nat.le_refl _) rfl (Nat.le_of_ble_eq_true rfl) ?_
      refine j_sub [] rfl ?_
      exact t_X3_readExpression_21 hX hQ hke hdk  v11 hf
    · replace hf := itf h10 hf
      refine j_iconst (v := 2) hX dX3_readExpression_13 14 rfl (by decide) ?_
      refine j_goto hX dX3_readExpression_14 21 rfl ?_
      refine j_sub [] rfl ?_
      exact t_X3_readExpression_21 hX hQ hke hdk  2 hf
def e_X3_readExpression (fu : Nat) (s_tokens : Nat → Int32) (s_starts : Nat → Int32) : Nat → Int32 → (Nat → Int32) → Int32 → Int32 → Int32 → Int32 → Int32 → Option ((Nat → Int32) × Int32 × Int32 × Int32 × Int32 × Int32)
  | 0 => fun _ _ _ _ _ _ _ => none
  | k + 1 => fun x1 a_code a_codeSize a_at a_token a_fault a_place => f_X3_readExpression fu s_tokens s_starts a_code a_codeSize a_at a_token a_fault a_place (e_X3_readExpression fu s_tokens s_starts k) x1
set_option maxRecDepth 100000 in
set_option maxHeartbeats 4000000 in
theorem te_X3_readExpression {fu : Nat} (k : Nat) : ∀ (x1 : Int32) (a_code : Nat → Int32) (a_codeSize : Int32) (a_at : Int32) (a_token : Int32) (a_fault : Int32) (a_place : Int32) {r : (Nat → Int32) × Int32 × Int32 × Int32 × Int32 × Int32}, e_X3_readExpression fu s_tokens s_starts k x1 a_code a_codeSize a_at a_token a_fault a_place = some r → Cv l G (10 + 4 * k) 0 0 yX3_readExpression cX3_readExpression 4 [.ref (gb G 21), .int x1] (WB G p_female p_born p_toldDeath p_lastYear p_father p_mother p_fatherGrade p_motherGrade p_size g_holder g_arms g_from g_size r_marks r_arms r_root r_steps r_grade r_marksAboveOne q_rows q_sizes t_bytes t_length s_tokens s_starts s_size a_code a_codeSize a_at a_token a_fault a_place o_texts o_names o_operands o_size o_open o_refuses o_differs o_fees c_years c_rows c_size x_faultPlace ++ fr) (WB G p_female p_born p_toldDeath p_lastYear p_father p_mother p_fatherGrade p_motherGrade p_size g_holder g_arms g_from g_size r_marks r_arms r_root r_steps r_grade r_marksAboveOne q_rows q_sizes t_bytes t_length s_tokens s_starts s_size r.1 r.2.1 r.2.2.1 r.2.2.2.1 r.2.2.2.2.1 r.2.2.2.2.2 o_texts o_names o_operands o_size o_open o_refuses o_differs o_fees c_years c_rows c_size x_faultPlace ++ fr) := by
  induction k with
  | zero => intro x1 a_code a_codeSize a_at a_token a_fault a_place r hf; cases hf
  | succ k ih =>
    intro x1 a_code a_codeSize a_at a_token a_fault a_place r hf
    exact t_X3_readExpression (dk := 10 + 4 * k) (fun x1 a_code a_codeSize a_at a_token a_fault a_place r h => ih x1 a_code a_codeSize a_at a_token a_fault a_place h) (Nat.le_add_right _ _) x1 hf
def g_X3_readRule_27 (fu : Nat) (s_tokens : Nat → Int32) (s_starts : Nat → Int32) (a_code : Nat → Int32) (a_codeSize : Int32) (a_at : Int32) (a_token : Int32) (a_fault : Int32) (a_place : Int32) (x1 : Int32) (x2 : Int32) : Option ((Nat → Int32) × Int32 × Int32 × Int32 × Int32 × Int32) :=
  if x1 < 12 then (f_X3_advance s_tokens a_at).bind fun v3 => (e_X3_readExpression fu s_tokens s_starts 8 0 a_code a_codeSize v3.1 v3.2 a_fault a_place).bind fun v4 => if v4.2.2.2.1 = 59 then (f_X3_advance s_tokens v4.2.2.1).bind fun v6 => (f_X3_emit v4.1 v4.2.1 x2).bind fun v7 => some (v7.1, v7.2, v6.1, v6.2, v4.2.2.2.2.1, v4.2.2.2.2.2) else (f_X3_blame s_starts v4.2.2.1 v4.2.2.2.1 v4.2.2.2.2.1 v4.2.2.2.2.2 1).bind fun v8 => some (v4.1, v4.2.1, v4.2.2.1, v8.1, v8.2.1, v8.2.2) else (f_X3_blame s_starts a_at a_token a_fault a_place 2).bind fun v9 => some (a_code, a_codeSize, a_at, v9.1, v9.2.1, v9.2.2)
set_option maxRecDepth 100000 in
set_option maxHeartbeats 4000000 in
theorem t_X3_readRule_27 {fu : Nat} {Y : YT} {r : (Nat → Int32) × Int32 × Int32 × Int32 × Int32 × Int32}  (hX : CX l G cX3_readRule 3 RX3 Y) (hQ : EQv G Y 0 0 (WB G p_female p_born p_toldDeath p_lastYear p_father p_mother p_fatherGrade p_motherGrade p_size g_holder g_arms g_from g_size r_marks r_arms r_root r_steps r_grade r_marksAboveOne q_rows q_sizes t_bytes t_length s_tokens s_starts s_size r.1 r.2.1 r.2.2.1 r.2.2.2.1 r.2.2.2.2.1 r.2.2.2.2.2 o_texts o_names o_operands o_size o_open o_refuses o_differs o_fees c_years c_rows c_size x_faultPlace ++ fr))  (x1 : Int32) (x2 : Int32) (hf : g_X3_readRule_27 fu s_tokens s_starts a_code a_codeSize a_at a_token a_fault a_place x1 x2 = some r) : J l G (rmD 43 0 0) Y 0 0 27 [(0, .ref (gb G 21)), (1, .int x1), (2, .int x2)] [] (WB G p_female p_born p_toldDeath p_lastYear p_father p_mother p_fatherGrade p_motherGrade p_size g_holder g_arms g_from g_size r_marks r_arms r_root r_steps r_grade r_marksAboveOne q_rows q_sizes t_bytes t_length s_tokens s_starts s_size a_code a_codeSize a_at a_token a_fault a_place o_texts o_names o_operands o_size o_open o_refuses o_differs o_fees c_years c_rows c_size x_faultPlace ++ fr) := by
  unfold g_X3_readRule_27 at hf
  refine j_iload_n hX dX3_readRule_27 28 rfl 1 rfl rfl ?_
  refine j_bipush (v := 12) hX dX3_readRule_28 30 rfl (by decide) ?_
  refine j_icmp_lt hX dX3_readRule_30 33 39 rfl rfl (fun h2 => ?_) (fun h2 => ?_)
  · replace hf := itt h2 hf
    refine j_aload_n hX dX3_readRule_39 40 rfl 0 rfl rfl ?_
    obtain ⟨v3, hv3, hf⟩ := ibd hf
    refine z_v (As := []) (rest := []) (q0 := 21) hX dX3_readRule_40 43 rfl (t_X3_advance  hv3) mc_X3_advance mv_X3_advance ml_X3_69 rfl rfl (Nat.le_of_ble_eq_true rfl) (Nat.le_refl _) (Nat.le_refl _) rfl (Nat.le_of_ble_eq_true rfl) ?_
    refine j_aload_n hX dX3_readRule_43 44 rfl 0 rfl rfl ?_
    refine j_iconst (v := 0) hX dX3_readRule_44 45 rfl (by decide) ?_
    obtain ⟨v4, hv4, hf⟩ := ibd hf
    refine z_v (As := [.int 0]) (rest := []) (q0 := 21) hX dX3_readRule_45 48 rfl (te_X3_readExpression 8 0 a_code a_codeSize v3.1 v3.2 a_fault a_place hv4) mc_X3_readExpression mv_X3_readExpression ml_X3_72 rfl rfl (Nat.le_of_ble_eq_true rfl) (Nat.le_refl _) (Nat.le_refl _) rfl (Nat.le_of_ble_eq_true rfl) ?_
    refine j_aload_n hX dX3_readRule_48 49 rfl 0 rfl rfl ?_
    refine j_get hX dX3_readRule_49 52 rfl fg_X3_31 21 rfl rfl ?_
    refine j_bipush (v := 59) hX dX3_readRule_52 54 rfl (by decide) ?_
    refine j_icmp_eq hX dX3_readRule_54 57 63 rfl rfl (fun h5 => ?_) (fun h5 => ?_)
    · replace hf := itt h5 hf
      refine j_aload_n hX dX3_readRule_63 64 rfl 0 rfl rfl ?_
      obtain ⟨v6, hv6, hf⟩ := ibd hf
      refine z_v (As := []) (rest := []) (q0 := 21) hX dX3_readRule_64 67 rfl (t_X3_advance  hv6) mc_X3_advance mv_X3_advance ml_X3_69 rfl rfl (Nat.le_of_ble_eq_true rfl) (Nat.le_refl _) (Nat.le_refl _) rfl (Nat.le_of_ble_eq_true rfl) ?_
      refine j_aload_n hX dX3_readRule_67 68 rfl 0 rfl rfl ?_
      refine j_iload_n hX dX3_readRule_68 69 rfl 2 rfl rfl ?_
      obtain ⟨v7, hv7, hf⟩ := ibd hf
      refine z_v (As := [.int x2]) (rest := []) (q0 := 21) hX dX3_readRule_69 72 rfl (t_X3_emit x2 hv7) mc_X3_emit mv_X3_emit ml_X3_75 rfl rfl (Nat.le_of_ble_eq_true rfl) (Nat.le_refl _) (Nat.le_refl _) rfl (Nat.le_of_ble_eq_true rfl) ?_
      replace hf := Option.some.inj hf
      subst hf
      exact j_vret hX hQ dX3_readRule_72
    · replace hf := itf h5 hf
      refine j_aload_n hX dX3_readRule_57 58 rfl 0 rfl rfl ?_
      refine j_iconst (v := 1) hX dX3_readRule_58 59 rfl (by decide) ?_
      obtain ⟨v8, hv8, hf⟩ := ibd hf
      refine z_v (As := [.int 1]) (rest := []) (q0 := 21) hX dX3_readRule_59 62 rfl (t_X3_blame 1 hv8) mc_X3_blame mv_X3_blame ml_X3_66 rfl rfl (Nat.le_of_ble_eq_true rfl) (Nat.le_refl _) (Nat.le_refl _) rfl (Nat.le_of_ble_eq_true rfl) ?_
      replace hf := Option.some.inj hf
      subst hf
      exact j_vret hX hQ dX3_readRule_62
  · replace hf := itf h2 hf
    refine j_aload_n hX dX3_readRule_33 34 rfl 0 rfl rfl ?_
    refine j_iconst (v := 2) hX dX3_readRule_34 35 rfl (by decide) ?_
    obtain ⟨v9, hv9, hf⟩ := ibd hf
    refine z_v (As := [.int 2]) (rest := []) (q0 := 21) hX dX3_readRule_35 38 rfl (t_X3_blame 2 hv9) mc_X3_blame mv_X3_blame ml_X3_66 rfl rfl (Nat.le_of_ble_eq_true rfl) (Nat.le_refl _) (Nat.le_refl _) rfl (Nat.le_of_ble_eq_true rfl) ?_
    replace hf := Option.some.inj hf
    subst hf
    exact j_vret hX hQ dX3_readRule_38
def f_X3_readRule (fu : Nat) (s_tokens : Nat → Int32) (s_starts : Nat → Int32) (a_code : Nat → Int32) (a_codeSize : Int32) (a_at : Int32) (a_token : Int32) (a_fault : Int32) (a_place : Int32) (x1 : Int32) : Option ((Nat → Int32) × Int32 × Int32 × Int32 × Int32 × Int32) :=
  if a_token = 4 then g_X3_readRule_27 fu s_tokens s_starts a_code a_codeSize a_at a_token a_fault a_place x1 a_token else if a_token = 5 then g_X3_readRule_27 fu s_tokens s_starts a_code a_codeSize a_at a_token a_fault a_place x1 a_token else if a_token = 6 then g_X3_readRule_27 fu s_tokens s_starts a_code a_codeSize a_at a_token a_fault a_place x1 a_token else (f_X3_blame s_starts a_at a_token a_fault a_place 1).bind fun v12 => some (a_code, a_codeSize, a_at, v12.1, v12.2.1, v12.2.2)
set_option maxRecDepth 100000 in
set_option maxHeartbeats 4000000 in
theorem t_X3_readRule {fu : Nat}  (x1 : Int32) {r : (Nat → Int32) × Int32 × Int32 × Int32 × Int32 × Int32} (hf : f_X3_readRule fu s_tokens s_starts a_code a_codeSize a_at a_token a_fault a_place x1 = some r) : Cv l G 43 0 0 yX3_readRule cX3_readRule 3 [.ref (gb G 21), .int x1] (WB G p_female p_born p_toldDeath p_lastYear p_father p_mother p_fatherGrade p_motherGrade p_size g_holder g_arms g_from g_size r_marks r_arms r_root r_steps r_grade r_marksAboveOne q_rows q_sizes t_bytes t_length s_tokens s_starts s_size a_code a_codeSize a_at a_token a_fault a_place o_texts o_names o_operands o_size o_open o_refuses o_differs o_fees c_years c_rows c_size x_faultPlace ++ fr) (WB G p_female p_born p_toldDeath p_lastYear p_father p_mother p_fatherGrade p_motherGrade p_size g_holder g_arms g_from g_size r_marks r_arms r_root r_steps r_grade r_marksAboveOne q_rows q_sizes t_bytes t_length s_tokens s_starts s_size r.1 r.2.1 r.2.2.1 r.2.2.2.1 r.2.2.2.2.1 r.2.2.2.2.2 o_texts o_names o_operands o_size o_open o_refuses o_differs o_fees c_years c_rows c_size x_faultPlace ++ fr) := by
  refine Cv.of (by decide) (Nat.le_of_ble_eq_true rfl) (fun Y hX hQ => ?_)
  refine j_lv (lv' := [(0, .ref (gb G 21)), (1, .int x1)]) rfl ?_
  unfold f_X3_readRule at hf
  refine j_aload_n hX dX3_readRule_0 1 rfl 0 rfl rfl ?_
  refine j_get hX dX3_readRule_1 4 rfl fg_X3_31 21 rfl rfl ?_
  refine j_istore_n hX dX3_readRule_4 5 rfl rfl (by decide) (lv' := [(2, .int a_token), (0, .ref (gb G 21)), (1, .int x1)]) rfl ?_
  refine j_iload_n hX dX3_readRule_5 6 rfl 0 rfl rfl ?_
  refine j_iconst (v := 4) hX dX3_readRule_6 7 rfl (by decide) ?_
  refine j_icmp_eq hX dX3_readRule_7 10 27 rfl rfl (fun h1 => ?_) (fun h1 => ?_)
  · replace hf := itt h1 hf
    refine j_sub [1, 2, 0] rfl ?_
    exact t_X3_readRule_27 hX hQ   x1 a_token hf
  · replace hf := itf h1 hf
    refine j_iload_n hX dX3_readRule_10 11 rfl 0 rfl rfl ?_
    refine j_iconst (v := 5) hX dX3_readRule_11 12 rfl (by decide) ?_
    refine j_icmp_eq hX dX3_readRule_12 15 27 rfl rfl (fun h10 => ?_) (fun h10 => ?_)
    · replace hf := itt h10 hf
      refine j_sub [1, 2, 0] rfl ?_
      exact t_X3_readRule_27 hX hQ   x1 a_token hf
    · replace hf := itf h10 hf
      refine j_iload_n hX dX3_readRule_15 16 rfl 0 rfl rfl ?_
      refine j_bipush (v := 6) hX dX3_readRule_16 18 rfl (by decide) ?_
      refine j_icmp_eq hX dX3_readRule_18 21 27 rfl rfl (fun h11 => ?_) (fun h11 => ?_)
      · replace hf := itt h11 hf
        refine j_sub [1, 2, 0] rfl ?_
        exact t_X3_readRule_27 hX hQ   x1 a_token hf
      · replace hf := itf h11 hf
        refine j_aload_n hX dX3_readRule_21 22 rfl 1 rfl rfl ?_
        refine j_iconst (v := 1) hX dX3_readRule_22 23 rfl (by decide) ?_
        obtain ⟨v12, hv12, hf⟩ := ibd hf
        refine z_v (As := [.int 1]) (rest := []) (q0 := 21) hX dX3_readRule_23 26 rfl (t_X3_blame 1 hv12) mc_X3_blame mv_X3_blame ml_X3_66 rfl rfl (Nat.le_of_ble_eq_true rfl) (Nat.le_refl _) (Nat.le_refl _) rfl (Nat.le_of_ble_eq_true rfl) ?_
        replace hf := Option.some.inj hf
        subst hf
        exact j_vret hX hQ dX3_readRule_26
def g_X3_parse_78 (s_tokens : Nat → Int32) (s_starts : Nat → Int32) (s_size : Int32) (a_code : Nat → Int32) (a_codeSize : Int32) (a_at : Int32) (a_token : Int32) (a_fault : Int32) (a_place : Int32) : Option ((Nat → Int32) × (Nat → Int32) × Int32 × (Nat → Int32) × Int32 × Int32 × Int32 × Int32 × Int32) :=
  some (s_tokens, s_starts, s_size, a_code, a_codeSize, a_at, a_token, a_fault, a_place)
set_option maxRecDepth 100000 in
set_option maxHeartbeats 4000000 in
theorem t_X3_parse_78 {Y : YT} {r : (Nat → Int32) × (Nat → Int32) × Int32 × (Nat → Int32) × Int32 × Int32 × Int32 × Int32 × Int32}  (hX : CX l G cX3_parse 4 RX3 Y) (hQ : EQv G Y 0 0 (WB G p_female p_born p_toldDeath p_lastYear p_father p_mother p_fatherGrade p_motherGrade p_size g_holder g_arms g_from g_size r_marks r_arms r_root r_steps r_grade r_marksAboveOne q_rows q_sizes t_bytes t_length r.1 r.2.1 r.2.2.1 r.2.2.2.1 r.2.2.2.2.1 r.2.2.2.2.2.1 r.2.2.2.2.2.2.1 r.2.2.2.2.2.2.2.1 r.2.2.2.2.2.2.2.2 o_texts o_names o_operands o_size o_open o_refuses o_differs o_fees c_years c_rows c_size x_faultPlace ++ fr))   (hf : g_X3_parse_78 s_tokens s_starts s_size a_code a_codeSize a_at a_token a_fault a_place = some r) : J l G (rmD 44 0 0) Y 0 0 78 [] [] (WB G p_female p_born p_toldDeath p_lastYear p_father p_mother p_fatherGrade p_motherGrade p_size g_holder g_arms g_from g_size r_marks r_arms r_root r_steps r_grade r_marksAboveOne q_rows q_sizes t_bytes t_length s_tokens s_starts s_size a_code a_codeSize a_at a_token a_fault a_place o_texts o_names o_operands o_size o_open o_refuses o_differs o_fees c_years c_rows c_size x_faultPlace ++ fr) := by
  unfold g_X3_parse_78 at hf
  replace hf := Option.some.inj hf
  subst hf
  exact j_vret hX hQ dX3_parse_78
def g_X3_parse_47 (fu : Nat) (s_tokens : Nat → Int32) (s_starts : Nat → Int32) (s_size : Int32) (a_code : Nat → Int32) (a_codeSize : Int32) (a_at : Int32) (a_token : Int32) (a_fault : Int32) (a_place : Int32) (k47 : Int32 → (Nat → Int32) → (Nat → Int32) → Int32 → (Nat → Int32) → Int32 → Int32 → Int32 → Int32 → Int32 → Option ((Nat → Int32) × (Nat → Int32) × Int32 × (Nat → Int32) × Int32 × Int32 × Int32 × Int32 × Int32)) (x3 : Int32) : Option ((Nat → Int32) × (Nat → Int32) × Int32 × (Nat → Int32) × Int32 × Int32 × Int32 × Int32 × Int32) :=
  if 12 < x3 then g_X3_parse_78 s_tokens s_starts s_size a_code a_codeSize a_at a_token a_fault a_place else if a_token = 0 then g_X3_parse_78 s_tokens s_starts s_size a_code a_codeSize a_at a_token a_fault a_place else if a_fault = 0 then (f_X3_readRule fu s_tokens s_starts a_code a_codeSize a_at a_token a_fault a_place x3).bind fun v6 => k47 (x3 + 1) s_tokens s_starts s_size v6.1 v6.2.1 v6.2.2.1 v6.2.2.2.1 v6.2.2.2.2.1 v6.2.2.2.2.2 else g_X3_parse_78 s_tokens s_starts s_size a_code a_codeSize a_at a_token a_fault a_place
set_option maxRecDepth 100000 in
set_option maxHeartbeats 4000000 in
theorem t_X3_parse_47 {fu : Nat} {Y : YT} {r : (Nat → Int32) × (Nat → Int32) × Int32 × (Nat → Int32) × Int32 × Int32 × Int32 × Int32 × Int32} {k47 : Int32 → (Nat → Int32) → (Nat → Int32) → Int32 → (Nat → Int32) → Int32 → Int32 → Int32 → Int32 → Int32 → Option ((Nat → Int32) × (Nat → Int32) × Int32 × (Nat → Int32) × Int32 × Int32 × Int32 × Int32 × Int32)} (hX : CX l G cX3_parse 4 RX3 Y) (hQ : EQv G Y 0 0 (WB G p_female p_born p_toldDeath p_lastYear p_father p_mother p_fatherGrade p_motherGrade p_size g_holder g_arms g_from g_size r_marks r_arms r_root r_steps r_grade r_marksAboveOne q_rows q_sizes t_bytes t_length r.1 r.2.1 r.2.2.1 r.2.2.2.1 r.2.2.2.2.1 r.2.2.2.2.2.1 r.2.2.2.2.2.2.1 r.2.2.2.2.2.2.2.1 r.2.2.2.2.2.2.2.2 o_texts o_names o_operands o_size o_open o_refuses o_differs o_fees c_years c_rows c_size x_faultPlace ++ fr)) (hk47 : ∀ (x3 : Int32) (s_tokens : Nat → Int32) (s_starts : Nat → Int32) (s_size : Int32) (a_code : Nat → Int32) (a_codeSize : Int32) (a_at : Int32) (a_token : Int32) (a_fault : Int32) (a_place : Int32), k47 x3 s_tokens s_starts s_size a_code a_codeSize a_at a_token a_fault a_place = some r → J l G (rmD 44 0 0) Y 0 0 47 [(0, .ref (gb G 21)), (3, .int x3)] [] (WB G p_female p_born p_toldDeath p_lastYear p_father p_mother p_fatherGrade p_motherGrade p_size g_holder g_arms g_from g_size r_marks r_arms r_root r_steps r_grade r_marksAboveOne q_rows q_sizes t_bytes t_length s_tokens s_starts s_size a_code a_codeSize a_at a_token a_fault a_place o_texts o_names o_operands o_size o_open o_refuses o_differs o_fees c_years c_rows c_size x_faultPlace ++ fr)) (x3 : Int32) (hf : g_X3_parse_47 fu s_tokens s_starts s_size a_code a_codeSize a_at a_token a_fault a_place k47 x3 = some r) : J l G (rmD 44 0 0) Y 0 0 47 [(0, .ref (gb G 21)), (3, .int x3)] [] (WB G p_female p_born p_toldDeath p_lastYear p_father p_mother p_fatherGrade p_motherGrade p_size g_holder g_arms g_from g_size r_marks r_arms r_root r_steps r_grade r_marksAboveOne q_rows q_sizes t_bytes t_length s_tokens s_starts s_size a_code a_codeSize a_at a_token a_fault a_place o_texts o_names o_operands o_size o_open o_refuses o_differs o_fees c_years c_rows c_size x_faultPlace ++ fr) := by
  unfold g_X3_parse_47 at hf
  refine j_iload_n hX dX3_parse_47 48 rfl 1 rfl rfl ?_
  refine j_bipush (v := 12) hX dX3_parse_48 50 rfl (by decide) ?_
  refine j_icmp_gt hX dX3_parse_50 53 78 rfl rfl (fun h3 => ?_) (fun h3 => ?_)
  · replace hf := itt h3 hf
    refine j_sub [] rfl ?_
    exact t_X3_parse_78 hX hQ    hf
  · replace hf := itf h3 hf
    refine j_aload_n hX dX3_parse_53 54 rfl 0 rfl rfl ?_
    refine j_get hX dX3_parse_54 57 rfl fg_X3_31 21 rfl rfl ?_
    refine j_if_eq hX dX3_parse_57 60 78 rfl rfl (fun h4 => ?_) (fun h4 => ?_)
    · replace hf := itt h4 hf
      refine j_sub [] rfl ?_
      exact t_X3_parse_78 hX hQ    hf
    · replace hf := itf h4 hf
      refine j_aload_n hX dX3_parse_60 61 rfl 0 rfl rfl ?_
      refine j_get hX dX3_parse_61 64 rfl fg_X3_34 21 rfl rfl ?_
      refine j_if_ne hX dX3_parse_64 67 78 rfl rfl (fun h5 => ?_) (fun h5 => ?_)
      · replace hf := itf h5 hf
        refine j_sub [] rfl ?_
        exact t_X3_parse_78 hX hQ    hf
      · replace hf := itt h5 hf
        refine j_aload_n hX dX3_parse_67 68 rfl 0 rfl rfl ?_
        refine j_iload_n hX dX3_parse_68 69 rfl 1 rfl rfl ?_
        obtain ⟨v6, hv6, hf⟩ := ibd hf
        refine z_v (As := [.int x3]) (rest := []) (q0 := 21) hX dX3_parse_69 72 rfl (t_X3_readRule x3 hv6) mc_X3_readRule mv_X3_readRule ml_X3_47 rfl rfl (Nat.le_of_ble_eq_true rfl) (Nat.le_refl _) (Nat.le_refl _) rfl (Nat.le_of_ble_eq_true rfl) ?_
        refine j_iinc (v := x3 + 1) hX dX3_parse_72 75 rfl 1 rfl rfl (by decide) (lv' := [(3, .int (x3 + 1)), (0, .ref (gb G 21))]) rfl ?_
        refine j_goto hX dX3_parse_75 47 rfl ?_
        refine j_sub [1, 0] rfl ?_
        exact hk47 (x3 + 1) s_tokens s_starts s_size v6.1 v6.2.1 v6.2.2.1 v6.2.2.2.1 v6.2.2.2.2.1 v6.2.2.2.2.2 hf
def f_X3_parse_47 (fu : Nat) : Nat → (Int32 × (Nat → Int32) × (Nat → Int32) × Int32 × (Nat → Int32) × Int32 × Int32 × Int32 × Int32 × Int32) → Option ((Nat → Int32) × (Nat → Int32) × Int32 × (Nat → Int32) × Int32 × Int32 × Int32 × Int32 × Int32) :=
  lp (fun k v => g_X3_parse_47 fu v.2.1 v.2.2.1 v.2.2.2.1 v.2.2.2.2.1 v.2.2.2.2.2.1 v.2.2.2.2.2.2.1 v.2.2.2.2.2.2.2.1 v.2.2.2.2.2.2.2.2.1 v.2.2.2.2.2.2.2.2.2 (fun x3 s_tokens s_starts s_size a_code a_codeSize a_at a_token a_fault a_place => k (x3, s_tokens, s_starts, s_size, a_code, a_codeSize, a_at, a_token, a_fault, a_place)) v.1)
set_option maxRecDepth 100000 in
set_option maxHeartbeats 4000000 in
theorem u_X3_parse_47 {fu : Nat} {Y : YT} {r : (Nat → Int32) × (Nat → Int32) × Int32 × (Nat → Int32) × Int32 × Int32 × Int32 × Int32 × Int32}  (hX : CX l G cX3_parse 4 RX3 Y) (hQ : EQv G Y 0 0 (WB G p_female p_born p_toldDeath p_lastYear p_father p_mother p_fatherGrade p_motherGrade p_size g_holder g_arms g_from g_size r_marks r_arms r_root r_steps r_grade r_marksAboveOne q_rows q_sizes t_bytes t_length r.1 r.2.1 r.2.2.1 r.2.2.2.1 r.2.2.2.2.1 r.2.2.2.2.2.1 r.2.2.2.2.2.2.1 r.2.2.2.2.2.2.2.1 r.2.2.2.2.2.2.2.2 o_texts o_names o_operands o_size o_open o_refuses o_differs o_fees c_years c_rows c_size x_faultPlace ++ fr))  (n : Nat) (v : Int32 × (Nat → Int32) × (Nat → Int32) × Int32 × (Nat → Int32) × Int32 × Int32 × Int32 × Int32 × Int32) (hf : f_X3_parse_47 fu n v = some r) : J l G (rmD 44 0 0) Y 0 0 47 [(0, .ref (gb G 21)), (3, .int v.1)] [] (WB G p_female p_born p_toldDeath p_lastYear p_father p_mother p_fatherGrade p_motherGrade p_size g_holder g_arms g_from g_size r_marks r_arms r_root r_steps r_grade r_marksAboveOne q_rows q_sizes t_bytes t_length v.2.1 v.2.2.1 v.2.2.2.1 v.2.2.2.2.1 v.2.2.2.2.2.1 v.2.2.2.2.2.2.1 v.2.2.2.2.2.2.2.1 v.2.2.2.2.2.2.2.2.1 v.2.2.2.2.2.2.2.2.2 o_texts o_names o_operands o_size o_open o_refuses o_differs o_fees c_years c_rows c_size x_faultPlace ++ fr) :=
  lp_ind (P := fun v : Int32 × (Nat → Int32) × (Nat → Int32) × Int32 × (Nat → Int32) × Int32 × Int32 × Int32 × Int32 × Int32 => J l G (rmD 44 0 0) Y 0 0 47 [(0, .ref (gb G 21)), (3, .int v.1)] [] (WB G p_female p_born p_toldDeath p_lastYear p_father p_mother p_fatherGrade p_motherGrade p_size g_holder g_arms g_from g_size r_marks r_arms r_root r_steps r_grade r_marksAboveOne q_rows q_sizes t_bytes t_length v.2.1 v.2.2.1 v.2.2.2.1 v.2.2.2.2.1 v.2.2.2.2.2.1 v.2.2.2.2.2.2.1 v.2.2.2.2.2.2.2.1 v.2.2.2.2.2.2.2.2.1 v.2.2.2.2.2.2.2.2.2 o_texts o_names o_operands o_size o_open o_refuses o_differs o_fees c_years c_rows c_size x_faultPlace ++ fr)) (fun k hk v hf => t_X3_parse_47 hX hQ   (fun x3 s_tokens s_starts s_size a_code a_codeSize a_at a_token a_fault a_place h => hk (x3, s_tokens, s_starts, s_size, a_code, a_codeSize, a_at, a_token, a_fault, a_place) h) v.1 hf) n v hf
def f_X3_parse (fu : Nat) (t_bytes : Nat → Int32) (s_tokens : Nat → Int32) (s_starts : Nat → Int32) (a_code : Nat → Int32) (x2 : Int32) : Option ((Nat → Int32) × (Nat → Int32) × Int32 × (Nat → Int32) × Int32 × Int32 × Int32 × Int32 × Int32) :=
  (f_X7_scan fu t_bytes s_tokens s_starts x2).bind fun v1 => if inb 0 401 = true then f_X3_parse_47 fu fu (0, v1.1, v1.2.1, v1.2.2, a_code, 0, 0, v1.1 (Int32.toNatClampNeg 0), 0, (-1)) else none
set_option maxRecDepth 100000 in
set_option maxHeartbeats 4000000 in
theorem t_X3_parse {fu : Nat}  (x2 : Int32) {r : (Nat → Int32) × (Nat → Int32) × Int32 × (Nat → Int32) × Int32 × Int32 × Int32 × Int32 × Int32} (hf : f_X3_parse fu t_bytes s_tokens s_starts a_code x2 = some r) : Cv l G 44 0 0 yX3_parse cX3_parse 4 [.ref (gb G 21), .ref (gb G 20), .int x2] (WB G p_female p_born p_toldDeath p_lastYear p_father p_mother p_fatherGrade p_motherGrade p_size g_holder g_arms g_from g_size r_marks r_arms r_root r_steps r_grade r_marksAboveOne q_rows q_sizes t_bytes t_length s_tokens s_starts s_size a_code a_codeSize a_at a_token a_fault a_place o_texts o_names o_operands o_size o_open o_refuses o_differs o_fees c_years c_rows c_size x_faultPlace ++ fr) (WB G p_female p_born p_toldDeath p_lastYear p_father p_mother p_fatherGrade p_motherGrade p_size g_holder g_arms g_from g_size r_marks r_arms r_root r_steps r_grade r_marksAboveOne q_rows q_sizes t_bytes t_length r.1 r.2.1 r.2.2.1 r.2.2.2.1 r.2.2.2.2.1 r.2.2.2.2.2.1 r.2.2.2.2.2.2.1 r.2.2.2.2.2.2.2.1 r.2.2.2.2.2.2.2.2 o_texts o_names o_operands o_size o_open o_refuses o_differs o_fees c_years c_rows c_size x_faultPlace ++ fr) := by
  refine Cv.of (by decide) (Nat.le_of_ble_eq_true rfl) (fun Y hX hQ => ?_)
  refine j_lv (lv' := [(0, .ref (gb G 21)), (1, .ref (gb G 20)), (2, .int x2)]) rfl ?_
  unfold f_X3_parse at hf
  refine j_aload_n hX dX3_parse_0 1 rfl 0 rfl rfl ?_
  refine j_get hX dX3_parse_1 4 rfl fg_X3_12 21 rfl rfl ?_
  refine j_aload_n hX dX3_parse_4 5 rfl 1 rfl rfl ?_
  refine j_iload_n hX dX3_parse_5 6 rfl 2 rfl rfl ?_
  obtain ⟨v1, hv1, hf⟩ := ibd hf
  refine z_v (As := [.ref (gb G 20), .int x2]) (rest := []) (q0 := 22) hX dX3_parse_6 9 rfl (t_X7_scan x2 hv1) mc_X7_scan mv_X7_scan ml_X3_40 rfl rfl (Nat.le_of_ble_eq_true rfl) (Nat.le_refl _) (Nat.le_refl _) rfl (Nat.le_of_ble_eq_true rfl) ?_
  refine j_aload_n hX dX3_parse_9 10 rfl 0 rfl rfl ?_
  refine j_iconst (v := 0) hX dX3_parse_10 11 rfl (by decide) ?_
  refine j_put hX dX3_parse_11 14 rfl fg_X3_24 ft_X3_2 21 rfl rfl rfl (Nat.le_of_ble_eq_true rfl) (ws' := (WB G p_female p_born p_toldDeath p_lastYear p_father p_mother p_fatherGrade p_motherGrade p_size g_holder g_arms g_from g_size r_marks r_arms r_root r_steps r_grade r_marksAboveOne q_rows q_sizes t_bytes t_length v1.1 v1.2.1 v1.2.2 a_code 0 a_at a_token a_fault a_place o_texts o_names o_operands o_size o_open o_refuses o_differs o_fees c_years c_rows c_size x_faultPlace ++ fr)) rfl ?_
  refine j_aload_n hX dX3_parse_14 15 rfl 0 rfl rfl ?_
  refine j_iconst (v := 0) hX dX3_parse_15 16 rfl (by decide) ?_
  refine j_put hX dX3_parse_16 19 rfl fg_X3_34 ft_X3_5 21 rfl rfl rfl (Nat.le_of_ble_eq_true rfl) (ws' := (WB G p_female p_born p_toldDeath p_lastYear p_father p_mother p_fatherGrade p_motherGrade p_size g_holder g_arms g_from g_size r_marks r_arms r_root r_steps r_grade r_marksAboveOne q_rows q_sizes t_bytes t_length v1.1 v1.2.1 v1.2.2 a_code 0 a_at a_token 0 a_place o_texts o_names o_operands o_size o_open o_refuses o_differs o_fees c_years c_rows c_size x_faultPlace ++ fr)) rfl ?_
  refine j_aload_n hX dX3_parse_19 20 rfl 0 rfl rfl ?_
  refine j_iconst (v := (-1)) hX dX3_parse_20 21 rfl (by decide) ?_
  refine j_put hX dX3_parse_21 24 rfl fg_X3_37 ft_X3_6 21 rfl rfl rfl (Nat.le_of_ble_eq_true rfl) (ws' := (WB G p_female p_born p_toldDeath p_lastYear p_father p_mother p_fatherGrade p_motherGrade p_size g_holder g_arms g_from g_size r_marks r_arms r_root r_steps r_grade r_marksAboveOne q_rows q_sizes t_bytes t_length v1.1 v1.2.1 v1.2.2 a_code 0 a_at a_token 0 ((-1)) o_texts o_names o_operands o_size o_open o_refuses o_differs o_fees c_years c_rows c_size x_faultPlace ++ fr)) rfl ?_
  refine j_aload_n hX dX3_parse_24 25 rfl 0 rfl rfl ?_
  refine j_iconst (v := 0) hX dX3_parse_25 26 rfl (by decide) ?_
  refine j_put hX dX3_parse_26 29 rfl fg_X3_28 ft_X3_3 21 rfl rfl rfl (Nat.le_of_ble_eq_true rfl) (ws' := (WB G p_female p_born p_toldDeath p_lastYear p_father p_mother p_fatherGrade p_motherGrade p_size g_holder g_arms g_from g_size r_marks r_arms r_root r_steps r_grade r_marksAboveOne q_rows q_sizes t_bytes t_length v1.1 v1.2.1 v1.2.2 a_code 0 0 a_token 0 ((-1)) o_texts o_names o_operands o_size o_open o_refuses o_differs o_fees c_years c_rows c_size x_faultPlace ++ fr)) rfl ?_
  refine j_aload_n hX dX3_parse_29 30 rfl 0 rfl rfl ?_
  refine j_aload_n hX dX3_parse_30 31 rfl 0 rfl rfl ?_
  refine j_get hX dX3_parse_31 34 rfl fg_X3_12 21 rfl rfl ?_
  refine j_getN hX dX3_parse_34 37 rfl fn_X3_44 22 rfl rfl ?_
  refine j_aload_n hX dX3_parse_37 38 rfl 0 rfl rfl ?_
  refine j_get hX dX3_parse_38 41 rfl fg_X3_28 21 rfl rfl ?_
  obtain ⟨hb2, hf⟩ := ign hf
  refine j_iald hX dX3_parse_41 42 rfl 23 rfl hb2 ?_
  refine j_put hX dX3_parse_42 45 rfl fg_X3_31 ft_X3_4 21 rfl rfl rfl (Nat.le_of_ble_eq_true rfl) (ws' := (WB G p_female p_born p_toldDeath p_lastYear p_father p_mother p_fatherGrade p_motherGrade p_size g_holder g_arms g_from g_size r_marks r_arms r_root r_steps r_grade r_marksAboveOne q_rows q_sizes t_bytes t_length v1.1 v1.2.1 v1.2.2 a_code 0 0 (v1.1 (Int32.toNatClampNeg 0)) 0 ((-1)) o_texts o_names o_operands o_size o_open o_refuses o_differs o_fees c_years c_rows c_size x_faultPlace ++ fr)) rfl ?_
  refine j_iconst (v := 0) hX dX3_parse_45 46 rfl (by decide) ?_
  refine j_istore_n hX dX3_parse_46 47 rfl rfl (by decide) (lv' := [(3, .int 0), (0, .ref (gb G 21)), (1, .ref (gb G 20)), (2, .int x2)]) rfl ?_
  refine j_sub [1, 0] rfl ?_
  exact u_X3_parse_47 hX hQ   fu (0, v1.1, v1.2.1, v1.2.2, a_code, 0, 0, v1.1 (Int32.toNatClampNeg 0), 0, (-1)) hf
end
