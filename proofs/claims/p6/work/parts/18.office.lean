section
variable {l : Launch} {G : GT} {fr ws : va_W} {kT : Nat} {tA tC tN : Nat → Nat} {tF : Nat → Nat → Int32} {tY : Nat → Int32} {p_female : Nat → Int32} {p_born : Nat → Int32} {p_toldDeath : Nat → Int32} {p_lastYear : Nat → Int32} {p_father : Nat → Int32} {p_mother : Nat → Int32} {p_fatherGrade : Nat → Int32} {p_motherGrade : Nat → Int32} {p_size : Int32} {g_holder : Nat → Int32} {g_arms : Nat → Int32} {g_from : Nat → Int32} {g_size : Int32} {r_marks : Nat → Int32} {r_arms : Int32} {r_root : Int32} {r_steps : Int32} {r_grade : Int32} {r_marksAboveOne : Int32} {q_rows : Nat → Int32} {q_sizes : Nat → Int32} {t_bytes : Nat → Int32} {t_length : Int32} {s_tokens : Nat → Int32} {s_starts : Nat → Int32} {s_size : Int32} {a_code : Nat → Int32} {a_codeSize : Int32} {a_at : Int32} {a_token : Int32} {a_fault : Int32} {a_place : Int32} {o_texts : Nat → Option Nat} {o_names : Nat → Int32} {o_operands : Nat → Int32} {o_size : Int32} {o_open : Int32} {o_refuses : Int32} {o_differs : Int32} {o_fees : Int32} {c_years : Nat → Int32} {c_rows : Nat → Int32} {c_size : Int32} {x_faultPlace : Int32}
def g_X2_isFull_14 (s0 : Int32) : Option (Int32) :=
  if isB s0 = true then some s0 else none
set_option maxRecDepth 100000 in
set_option maxHeartbeats 4000000 in
theorem t_X2_isFull_14 {Y : YT} {r : Int32}  (hX : CX l G cX2_isFull 1 RX2 Y) (hQ : EQi G Y 0 0 .boolean r (WB G p_female p_born p_toldDeath p_lastYear p_father p_mother p_fatherGrade p_motherGrade p_size g_holder g_arms g_from g_size r_marks r_arms r_root r_steps r_grade r_marksAboveOne q_rows q_sizes t_bytes t_length s_tokens s_starts s_size a_code a_codeSize a_at a_token a_fault a_place o_texts o_names o_operands o_size o_open o_refuses o_differs o_fees c_years c_rows c_size x_faultPlace ++ fr))  (s0 : Int32) (hf : g_X2_isFull_14 s0 = some r) : J l G (rmD 1 0 0) Y 0 0 14 [] [.int s0] (WB G p_female p_born p_toldDeath p_lastYear p_father p_mother p_fatherGrade p_motherGrade p_size g_holder g_arms g_from g_size r_marks r_arms r_root r_steps r_grade r_marksAboveOne q_rows q_sizes t_bytes t_length s_tokens s_starts s_size a_code a_codeSize a_at a_token a_fault a_place o_texts o_names o_operands o_size o_open o_refuses o_differs o_fees c_years c_rows c_size x_faultPlace ++ fr) := by
  unfold g_X2_isFull_14 at hf
  obtain ⟨hb2, hf⟩ := ign hf
  replace hf := Option.some.inj hf
  subst hf
  exact j_zret hX hQ hb2 dX2_isFull_14
def f_X2_isFull (o_size : Int32) : Option (Int32) :=
  if o_size < 6 then g_X2_isFull_14 0 else g_X2_isFull_14 1
set_option maxRecDepth 100000 in
set_option maxHeartbeats 4000000 in
theorem t_X2_isFull   {r : Int32} (hf : f_X2_isFull o_size = some r) : Ci l G 1 0 0 yX2_isFull cX2_isFull 1 .boolean [.ref (gb G 26)] (WB G p_female p_born p_toldDeath p_lastYear p_father p_mother p_fatherGrade p_motherGrade p_size g_holder g_arms g_from g_size r_marks r_arms r_root r_steps r_grade r_marksAboveOne q_rows q_sizes t_bytes t_length s_tokens s_starts s_size a_code a_codeSize a_at a_token a_fault a_place o_texts o_names o_operands o_size o_open o_refuses o_differs o_fees c_years c_rows c_size x_faultPlace ++ fr) r (WB G p_female p_born p_toldDeath p_lastYear p_father p_mother p_fatherGrade p_motherGrade p_size g_holder g_arms g_from g_size r_marks r_arms r_root r_steps r_grade r_marksAboveOne q_rows q_sizes t_bytes t_length s_tokens s_starts s_size a_code a_codeSize a_at a_token a_fault a_place o_texts o_names o_operands o_size o_open o_refuses o_differs o_fees c_years c_rows c_size x_faultPlace ++ fr) := by
  refine Ci.of (by decide) (Nat.le_of_ble_eq_true rfl) (fun Y hX hQ => ?_)
  refine j_lv (lv' := [(0, .ref (gb G 26))]) rfl ?_
  unfold f_X2_isFull at hf
  refine j_aload_n hX dX2_isFull_0 1 rfl 0 rfl rfl ?_
  refine j_get hX dX2_isFull_1 4 rfl fg_X2_24 26 rfl rfl ?_
  refine j_bipush (v := 6) hX dX2_isFull_4 6 rfl (by decide) ?_
  refine j_icmp_lt hX dX2_isFull_6 9 13 rfl rfl (fun h1 => ?_) (fun h1 => ?_)
  · replace hf := itt h1 hf
    refine j_iconst (v := 0) hX dX2_isFull_13 14 rfl (by decide) ?_
    refine j_sub [] rfl ?_
    exact t_X2_isFull_14 hX hQ   0 hf
  · replace hf := itf h1 hf
    refine j_iconst (v := 1) hX dX2_isFull_9 10 rfl (by decide) ?_
    refine j_goto hX dX2_isFull_10 14 rfl ?_
    refine j_sub [] rfl ?_
    exact t_X2_isFull_14 hX hQ   1 hf
def g_X2_setName_22 (o_names : Nat → Int32) : Option ((Nat → Int32)) :=
  some o_names
set_option maxRecDepth 100000 in
set_option maxHeartbeats 4000000 in
theorem t_X2_setName_22 {Y : YT} {r : (Nat → Int32)}  (hX : CX l G cX2_setName 4 RX2 Y) (hQ : EQv G Y 0 0 (WB G p_female p_born p_toldDeath p_lastYear p_father p_mother p_fatherGrade p_motherGrade p_size g_holder g_arms g_from g_size r_marks r_arms r_root r_steps r_grade r_marksAboveOne q_rows q_sizes t_bytes t_length s_tokens s_starts s_size a_code a_codeSize a_at a_token a_fault a_place o_texts r o_operands o_size o_open o_refuses o_differs o_fees c_years c_rows c_size x_faultPlace ++ fr))   (hf : g_X2_setName_22 o_names = some r) : J l G (rmD 1 0 0) Y 0 0 22 [] [] (WB G p_female p_born p_toldDeath p_lastYear p_father p_mother p_fatherGrade p_motherGrade p_size g_holder g_arms g_from g_size r_marks r_arms r_root r_steps r_grade r_marksAboveOne q_rows q_sizes t_bytes t_length s_tokens s_starts s_size a_code a_codeSize a_at a_token a_fault a_place o_texts o_names o_operands o_size o_open o_refuses o_differs o_fees c_years c_rows c_size x_faultPlace ++ fr) := by
  unfold g_X2_setName_22 at hf
  replace hf := Option.some.inj hf
  subst hf
  exact j_vret hX hQ dX2_setName_22
def f_X2_setName (o_names : Nat → Int32) (x1 : Int32) (x2 : Int32) : Option ((Nat → Int32)) :=
  if (x1 - 100) < 0 then g_X2_setName_22 o_names else if 8 ≤ (x1 - 100) then g_X2_setName_22 o_names else if inb (x1 - 100) 8 = true then g_X2_setName_22 (upd o_names (Int32.toNatClampNeg (x1 - 100)) x2) else none
set_option maxRecDepth 100000 in
set_option maxHeartbeats 4000000 in
theorem t_X2_setName  (x1 : Int32) (x2 : Int32) {r : (Nat → Int32)} (hf : f_X2_setName o_names x1 x2 = some r) : Cv l G 1 0 0 yX2_setName cX2_setName 4 [.ref (gb G 26), .int x1, .int x2] (WB G p_female p_born p_toldDeath p_lastYear p_father p_mother p_fatherGrade p_motherGrade p_size g_holder g_arms g_from g_size r_marks r_arms r_root r_steps r_grade r_marksAboveOne q_rows q_sizes t_bytes t_length s_tokens s_starts s_size a_code a_codeSize a_at a_token a_fault a_place o_texts o_names o_operands o_size o_open o_refuses o_differs o_fees c_years c_rows c_size x_faultPlace ++ fr) (WB G p_female p_born p_toldDeath p_lastYear p_father p_mother p_fatherGrade p_motherGrade p_size g_holder g_arms g_from g_size r_marks r_arms r_root r_steps r_grade r_marksAboveOne q_rows q_sizes t_bytes t_length s_tokens s_starts s_size a_code a_codeSize a_at a_token a_fault a_place o_texts r o_operands o_size o_open o_refuses o_differs o_fees c_years c_rows c_size x_faultPlace ++ fr) := by
  refine Cv.of (by decide) (Nat.le_of_ble_eq_true rfl) (fun Y hX hQ => ?_)
  refine j_lv (lv' := [(0, .ref (gb G 26)), (1, .int x1), (2, .int x2)]) rfl ?_
  unfold f_X2_setName at hf
  refine j_iload_n hX dX2_setName_0 1 rfl 1 rfl rfl ?_
  refine j_bipush (v := 100) hX dX2_setName_1 3 rfl (by decide) ?_
  refine j_isub hX dX2_setName_3 4 rfl ?_
  refine j_istore_n hX dX2_setName_4 5 rfl rfl (by decide) (lv' := [(3, .int (x1 - 100)), (0, .ref (gb G 26)), (1, .int x1), (2, .int x2)]) rfl ?_
  refine j_iload_n hX dX2_setName_5 6 rfl 0 rfl rfl ?_
  refine j_if_lt hX dX2_setName_6 9 22 rfl rfl (fun h1 => ?_) (fun h1 => ?_)
  · replace hf := itt h1 hf
    refine j_sub [] rfl ?_
    exact t_X2_setName_22 hX hQ    hf
  · replace hf := itf h1 hf
    refine j_iload_n hX dX2_setName_9 10 rfl 0 rfl rfl ?_
    refine j_bipush (v := 8) hX dX2_setName_10 12 rfl (by decide) ?_
    refine j_icmp_ge hX dX2_setName_12 15 22 rfl rfl (fun h2 => ?_) (fun h2 => ?_)
    · replace hf := itt h2 hf
      refine j_sub [] rfl ?_
      exact t_X2_setName_22 hX hQ    hf
    · replace hf := itf h2 hf
      refine j_aload_n hX dX2_setName_15 16 rfl 1 rfl rfl ?_
      refine j_get hX dX2_setName_16 19 rfl fg_X2_17 26 rfl rfl ?_
      refine j_iload_n hX dX2_setName_19 20 rfl 0 rfl rfl ?_
      refine j_iload_n hX dX2_setName_20 21 rfl 3 rfl rfl ?_
      obtain ⟨hb3, hf⟩ := ign hf
      refine j_iast hX dX2_setName_21 22 rfl 28 rfl hb3 (ws' := (WB G p_female p_born p_toldDeath p_lastYear p_father p_mother p_fatherGrade p_motherGrade p_size g_holder g_arms g_from g_size r_marks r_arms r_root r_steps r_grade r_marksAboveOne q_rows q_sizes t_bytes t_length s_tokens s_starts s_size a_code a_codeSize a_at a_token a_fault a_place o_texts (upd o_names (Int32.toNatClampNeg (x1 - 100)) x2) o_operands o_size o_open o_refuses o_differs o_fees c_years c_rows c_size x_faultPlace ++ fr)) rfl ?_
      refine j_sub [] rfl ?_
      exact t_X2_setName_22 hX hQ    hf
def g_X2_nameValue_25 (s0 : Int32) : Option (Int32) :=
  some s0
set_option maxRecDepth 100000 in
set_option maxHeartbeats 4000000 in
theorem t_X2_nameValue_25 {Y : YT} {r : Int32}  (hX : CX l G cX2_nameValue 3 RX2 Y) (hQ : EQi G Y 0 0 .int r (WB G p_female p_born p_toldDeath p_lastYear p_father p_mother p_fatherGrade p_motherGrade p_size g_holder g_arms g_from g_size r_marks r_arms r_root r_steps r_grade r_marksAboveOne q_rows q_sizes t_bytes t_length s_tokens s_starts s_size a_code a_codeSize a_at a_token a_fault a_place o_texts o_names o_operands o_size o_open o_refuses o_differs o_fees c_years c_rows c_size x_faultPlace ++ fr))  (s0 : Int32) (hf : g_X2_nameValue_25 s0 = some r) : J l G (rmD 1 0 0) Y 0 0 25 [] [.int s0] (WB G p_female p_born p_toldDeath p_lastYear p_father p_mother p_fatherGrade p_motherGrade p_size g_holder g_arms g_from g_size r_marks r_arms r_root r_steps r_grade r_marksAboveOne q_rows q_sizes t_bytes t_length s_tokens s_starts s_size a_code a_codeSize a_at a_token a_fault a_place o_texts o_names o_operands o_size o_open o_refuses o_differs o_fees c_years c_rows c_size x_faultPlace ++ fr) := by
  unfold g_X2_nameValue_25 at hf
  replace hf := Option.some.inj hf
  subst hf
  exact j_iret hX hQ dX2_nameValue_25
def g_X2_nameValue_24  : Option (Int32) :=
  g_X2_nameValue_25 0
set_option maxRecDepth 100000 in
set_option maxHeartbeats 4000000 in
theorem t_X2_nameValue_24 {Y : YT} {r : Int32}  (hX : CX l G cX2_nameValue 3 RX2 Y) (hQ : EQi G Y 0 0 .int r (WB G p_female p_born p_toldDeath p_lastYear p_father p_mother p_fatherGrade p_motherGrade p_size g_holder g_arms g_from g_size r_marks r_arms r_root r_steps r_grade r_marksAboveOne q_rows q_sizes t_bytes t_length s_tokens s_starts s_size a_code a_codeSize a_at a_token a_fault a_place o_texts o_names o_operands o_size o_open o_refuses o_differs o_fees c_years c_rows c_size x_faultPlace ++ fr))   (hf : g_X2_nameValue_24  = some r) : J l G (rmD 1 0 0) Y 0 0 24 [] [] (WB G p_female p_born p_toldDeath p_lastYear p_father p_mother p_fatherGrade p_motherGrade p_size g_holder g_arms g_from g_size r_marks r_arms r_root r_steps r_grade r_marksAboveOne q_rows q_sizes t_bytes t_length s_tokens s_starts s_size a_code a_codeSize a_at a_token a_fault a_place o_texts o_names o_operands o_size o_open o_refuses o_differs o_fees c_years c_rows c_size x_faultPlace ++ fr) := by
  unfold g_X2_nameValue_24 at hf
  refine j_iconst (v := 0) hX dX2_nameValue_24 25 rfl (by decide) ?_
  exact t_X2_nameValue_25 hX hQ   0 hf
def f_X2_nameValue (o_names : Nat → Int32) (x1 : Int32) : Option (Int32) :=
  if (x1 - 100) < 0 then g_X2_nameValue_24  else if 8 ≤ (x1 - 100) then g_X2_nameValue_24  else if inb (x1 - 100) 8 = true then g_X2_nameValue_25 (o_names (Int32.toNatClampNeg (x1 - 100))) else none
set_option maxRecDepth 100000 in
set_option maxHeartbeats 4000000 in
theorem t_X2_nameValue  (x1 : Int32) {r : Int32} (hf : f_X2_nameValue o_names x1 = some r) : Ci l G 1 0 0 yX2_nameValue cX2_nameValue 3 .int [.ref (gb G 26), .int x1] (WB G p_female p_born p_toldDeath p_lastYear p_father p_mother p_fatherGrade p_motherGrade p_size g_holder g_arms g_from g_size r_marks r_arms r_root r_steps r_grade r_marksAboveOne q_rows q_sizes t_bytes t_length s_tokens s_starts s_size a_code a_codeSize a_at a_token a_fault a_place o_texts o_names o_operands o_size o_open o_refuses o_differs o_fees c_years c_rows c_size x_faultPlace ++ fr) r (WB G p_female p_born p_toldDeath p_lastYear p_father p_mother p_fatherGrade p_motherGrade p_size g_holder g_arms g_from g_size r_marks r_arms r_root r_steps r_grade r_marksAboveOne q_rows q_sizes t_bytes t_length s_tokens s_starts s_size a_code a_codeSize a_at a_token a_fault a_place o_texts o_names o_operands o_size o_open o_refuses o_differs o_fees c_years c_rows c_size x_faultPlace ++ fr) := by
  refine Ci.of (by decide) (Nat.le_of_ble_eq_true rfl) (fun Y hX hQ => ?_)
  refine j_lv (lv' := [(0, .ref (gb G 26)), (1, .int x1)]) rfl ?_
  unfold f_X2_nameValue at hf
  refine j_iload_n hX dX2_nameValue_0 1 rfl 1 rfl rfl ?_
  refine j_bipush (v := 100) hX dX2_nameValue_1 3 rfl (by decide) ?_
  refine j_isub hX dX2_nameValue_3 4 rfl ?_
  refine j_istore_n hX dX2_nameValue_4 5 rfl rfl (by decide) (lv' := [(2, .int (x1 - 100)), (0, .ref (gb G 26)), (1, .int x1)]) rfl ?_
  refine j_iload_n hX dX2_nameValue_5 6 rfl 0 rfl rfl ?_
  refine j_if_lt hX dX2_nameValue_6 9 24 rfl rfl (fun h1 => ?_) (fun h1 => ?_)
  · replace hf := itt h1 hf
    refine j_sub [] rfl ?_
    exact t_X2_nameValue_24 hX hQ    hf
  · replace hf := itf h1 hf
    refine j_iload_n hX dX2_nameValue_9 10 rfl 0 rfl rfl ?_
    refine j_bipush (v := 8) hX dX2_nameValue_10 12 rfl (by decide) ?_
    refine j_icmp_ge hX dX2_nameValue_12 15 24 rfl rfl (fun h2 => ?_) (fun h2 => ?_)
    · replace hf := itt h2 hf
      refine j_sub [] rfl ?_
      exact t_X2_nameValue_24 hX hQ    hf
    · replace hf := itf h2 hf
      refine j_aload_n hX dX2_nameValue_15 16 rfl 1 rfl rfl ?_
      refine j_get hX dX2_nameValue_16 19 rfl fg_X2_17 26 rfl rfl ?_
      refine j_iload_n hX dX2_nameValue_19 20 rfl 0 rfl rfl ?_
      obtain ⟨hb3, hf⟩ := ign hf
      refine j_iald hX dX2_nameValue_20 21 rfl 28 rfl hb3 ?_
      refine j_goto hX dX2_nameValue_21 25 rfl ?_
      refine j_sub [] rfl ?_
      exact t_X2_nameValue_25 hX hQ   (o_names (Int32.toNatClampNeg (x1 - 100))) hf
def g_X2_push_29 (o_operands : Nat → Int32) (o_open : Int32) : Option ((Nat → Int32) × Int32) :=
  some (o_operands, o_open)
set_option maxRecDepth 100000 in
set_option maxHeartbeats 4000000 in
theorem t_X2_push_29 {Y : YT} {r : (Nat → Int32) × Int32}  (hX : CX l G cX2_push 2 RX2 Y) (hQ : EQv G Y 0 0 (WB G p_female p_born p_toldDeath p_lastYear p_father p_mother p_fatherGrade p_motherGrade p_size g_holder g_arms g_from g_size r_marks r_arms r_root r_steps r_grade r_marksAboveOne q_rows q_sizes t_bytes t_length s_tokens s_starts s_size a_code a_codeSize a_at a_token a_fault a_place o_texts o_names r.1 o_size r.2 o_refuses o_differs o_fees c_years c_rows c_size x_faultPlace ++ fr))   (hf : g_X2_push_29 o_operands o_open = some r) : J l G (rmD 1 0 0) Y 0 0 29 [] [] (WB G p_female p_born p_toldDeath p_lastYear p_father p_mother p_fatherGrade p_motherGrade p_size g_holder g_arms g_from g_size r_marks r_arms r_root r_steps r_grade r_marksAboveOne q_rows q_sizes t_bytes t_length s_tokens s_starts s_size a_code a_codeSize a_at a_token a_fault a_place o_texts o_names o_operands o_size o_open o_refuses o_differs o_fees c_years c_rows c_size x_faultPlace ++ fr) := by
  unfold g_X2_push_29 at hf
  replace hf := Option.some.inj hf
  subst hf
  exact j_vret hX hQ dX2_push_29
def f_X2_push (o_operands : Nat → Int32) (o_open : Int32) (x1 : Int32) : Option ((Nat → Int32) × Int32) :=
  if 24 ≤ o_open then g_X2_push_29 o_operands o_open else if inb o_open 24 = true then g_X2_push_29 (upd o_operands (Int32.toNatClampNeg o_open) x1) (o_open + 1) else none
set_option maxRecDepth 100000 in
set_option maxHeartbeats 4000000 in
theorem t_X2_push  (x1 : Int32) {r : (Nat → Int32) × Int32} (hf : f_X2_push o_operands o_open x1 = some r) : Cv l G 1 0 0 yX2_push cX2_push 2 [.ref (gb G 26), .int x1] (WB G p_female p_born p_toldDeath p_lastYear p_father p_mother p_fatherGrade p_motherGrade p_size g_holder g_arms g_from g_size r_marks r_arms r_root r_steps r_grade r_marksAboveOne q_rows q_sizes t_bytes t_length s_tokens s_starts s_size a_code a_codeSize a_at a_token a_fault a_place o_texts o_names o_operands o_size o_open o_refuses o_differs o_fees c_years c_rows c_size x_faultPlace ++ fr) (WB G p_female p_born p_toldDeath p_lastYear p_father p_mother p_fatherGrade p_motherGrade p_size g_holder g_arms g_from g_size r_marks r_arms r_root r_steps r_grade r_marksAboveOne q_rows q_sizes t_bytes t_length s_tokens s_starts s_size a_code a_codeSize a_at a_token a_fault a_place o_texts o_names r.1 o_size r.2 o_refuses o_differs o_fees c_years c_rows c_size x_faultPlace ++ fr) := by
  refine Cv.of (by decide) (Nat.le_of_ble_eq_true rfl) (fun Y hX hQ => ?_)
  refine j_lv (lv' := [(0, .ref (gb G 26)), (1, .int x1)]) rfl ?_
  unfold f_X2_push at hf
  refine j_aload_n hX dX2_push_0 1 rfl 0 rfl rfl ?_
  refine j_get hX dX2_push_1 4 rfl fg_X2_28 26 rfl rfl ?_
  refine j_bipush (v := 24) hX dX2_push_4 6 rfl (by decide) ?_
  refine j_icmp_ge hX dX2_push_6 9 29 rfl rfl (fun h1 => ?_) (fun h1 => ?_)
  · replace hf := itt h1 hf
    refine j_sub [] rfl ?_
    exact t_X2_push_29 hX hQ    hf
  · replace hf := itf h1 hf
    refine j_aload_n hX dX2_push_9 10 rfl 0 rfl rfl ?_
    refine j_get hX dX2_push_10 13 rfl fg_X2_21 26 rfl rfl ?_
    refine j_aload_n hX dX2_push_13 14 rfl 0 rfl rfl ?_
    refine j_get hX dX2_push_14 17 rfl fg_X2_28 26 rfl rfl ?_
    refine j_iload_n hX dX2_push_17 18 rfl 1 rfl rfl ?_
    obtain ⟨hb2, hf⟩ := ign hf
    refine j_iast hX dX2_push_18 19 rfl 29 rfl hb2 (ws' := (WB G p_female p_born p_toldDeath p_lastYear p_father p_mother p_fatherGrade p_motherGrade p_size g_holder g_arms g_from g_size r_marks r_arms r_root r_steps r_grade r_marksAboveOne q_rows q_sizes t_bytes t_length s_tokens s_starts s_size a_code a_codeSize a_at a_token a_fault a_place o_texts o_names (upd o_operands (Int32.toNatClampNeg o_open) x1) o_size o_open o_refuses o_differs o_fees c_years c_rows c_size x_faultPlace ++ fr)) rfl ?_
    refine j_aload_n hX dX2_push_19 20 rfl 0 rfl rfl ?_
    refine j_dup hX dX2_push_20 21 rfl rfl ?_
    refine j_get hX dX2_push_21 24 rfl fg_X2_28 26 rfl rfl ?_
    refine j_iconst (v := 1) hX dX2_push_24 25 rfl (by decide) ?_
    refine j_iadd hX dX2_push_25 26 rfl ?_
    refine j_put hX dX2_push_26 29 rfl fg_X2_28 ft_X2_4 26 rfl rfl rfl (Nat.le_of_ble_eq_true rfl) (ws' := (WB G p_female p_born p_toldDeath p_lastYear p_father p_mother p_fatherGrade p_motherGrade p_size g_holder g_arms g_from g_size r_marks r_arms r_root r_steps r_grade r_marksAboveOne q_rows q_sizes t_bytes t_length s_tokens s_starts s_size a_code a_codeSize a_at a_token a_fault a_place o_texts o_names (upd o_operands (Int32.toNatClampNeg o_open) x1) o_size (o_open + 1) o_refuses o_differs o_fees c_years c_rows c_size x_faultPlace ++ fr)) rfl ?_
    refine j_sub [] rfl ?_
    exact t_X2_push_29 hX hQ    hf
def f_X2_pop (o_operands : Nat → Int32) (o_open : Int32) : Option (Int32 × Int32) :=
  if 0 < o_open then if inb (o_open - 1) 24 = true then some (o_operands (Int32.toNatClampNeg (o_open - 1)), o_open - 1) else none else some (0, o_open)
set_option maxRecDepth 100000 in
set_option maxHeartbeats 4000000 in
theorem t_X2_pop   {r : Int32 × Int32} (hf : f_X2_pop o_operands o_open = some r) : Ci l G 1 0 0 yX2_pop cX2_pop 1 .int [.ref (gb G 26)] (WB G p_female p_born p_toldDeath p_lastYear p_father p_mother p_fatherGrade p_motherGrade p_size g_holder g_arms g_from g_size r_marks r_arms r_root r_steps r_grade r_marksAboveOne q_rows q_sizes t_bytes t_length s_tokens s_starts s_size a_code a_codeSize a_at a_token a_fault a_place o_texts o_names o_operands o_size o_open o_refuses o_differs o_fees c_years c_rows c_size x_faultPlace ++ fr) r.1 (WB G p_female p_born p_toldDeath p_lastYear p_father p_mother p_fatherGrade p_motherGrade p_size g_holder g_arms g_from g_size r_marks r_arms r_root r_steps r_grade r_marksAboveOne q_rows q_sizes t_bytes t_length s_tokens s_starts s_size a_code a_codeSize a_at a_token a_fault a_place o_texts o_names o_operands o_size r.2 o_refuses o_differs o_fees c_years c_rows c_size x_faultPlace ++ fr) := by
  refine Ci.of (by decide) (Nat.le_of_ble_eq_true rfl) (fun Y hX hQ => ?_)
  refine j_lv (lv' := [(0, .ref (gb G 26))]) rfl ?_
  unfold f_X2_pop at hf
  refine j_aload_n hX dX2_pop_0 1 rfl 0 rfl rfl ?_
  refine j_get hX dX2_pop_1 4 rfl fg_X2_28 26 rfl rfl ?_
  refine j_if_gt hX dX2_pop_4 7 9 rfl rfl (fun h1 => ?_) (fun h1 => ?_)
  · replace hf := itt h1 hf
    refine j_aload_n hX dX2_pop_9 10 rfl 0 rfl rfl ?_
    refine j_dup hX dX2_pop_10 11 rfl rfl ?_
    refine j_get hX dX2_pop_11 14 rfl fg_X2_28 26 rfl rfl ?_
    refine j_iconst (v := 1) hX dX2_pop_14 15 rfl (by decide) ?_
    refine j_isub hX dX2_pop_15 16 rfl ?_
    refine j_put hX dX2_pop_16 19 rfl fg_X2_28 ft_X2_4 26 rfl rfl rfl (Nat.le_of_ble_eq_true rfl) (ws' := (WB G p_female p_born p_toldDeath p_lastYear p_father p_mother p_fatherGrade p_motherGrade p_size g_holder g_arms g_from g_size r_marks r_arms r_root r_steps r_grade r_marksAboveOne q_rows q_sizes t_bytes t_length s_tokens s_starts s_size a_code a_codeSize a_at a_token a_fault a_place o_texts o_names o_operands o_size (o_open - 1) o_refuses o_differs o_fees c_years c_rows c_size x_faultPlace ++ fr)) rfl ?_
    refine j_aload_n hX dX2_pop_19 20 rfl 0 rfl rfl ?_
    refine j_get hX dX2_pop_20 23 rfl fg_X2_21 26 rfl rfl ?_
    refine j_aload_n hX dX2_pop_23 24 rfl 0 rfl rfl ?_
    refine j_get hX dX2_pop_24 27 rfl fg_X2_28 26 rfl rfl ?_
    obtain ⟨hb2, hf⟩ := ign hf
    refine j_iald hX dX2_pop_27 28 rfl 29 rfl hb2 ?_
    replace hf := Option.some.inj hf
    subst hf
    exact j_iret hX hQ dX2_pop_28
  · replace hf := itf h1 hf
    refine j_iconst (v := 0) hX dX2_pop_7 8 rfl (by decide) ?_
    replace hf := Option.some.inj hf
    subst hf
    exact j_iret hX hQ dX2_pop_8
def g_X2_joined_109 (s0 : Int32) : Option (Int32) :=
  (f_X10_asInt s0).bind fun v3 => some v3
set_option maxRecDepth 100000 in
set_option maxHeartbeats 4000000 in
theorem t_X2_joined_109 {Y : YT} {r : Int32}  (hX : CX l G cX2_joined 3 RX2 Y) (hQ : EQi G Y 0 0 .int r ws)  (s0 : Int32) (hf : g_X2_joined_109 s0 = some r) : J l G (rmD 2 0 0) Y 0 0 109 [] [.int s0] ws := by
  unfold g_X2_joined_109 at hf
  obtain ⟨v3, hv3, hf⟩ := ibd hf
  refine z_ni (As := [.int s0]) (rest := []) hX dX2_joined_109 112 rfl (t_X10_asInt s0 hv3) mc_X10_asInt ms_X10_asInt mn_X2_82 (Nat.le_of_ble_eq_true rfl) (Nat.le_refl _) (Nat.le_refl _) rfl (Nat.le_of_ble_eq_true rfl) ?_
  replace hf := Option.some.inj hf
  subst hf
  exact j_iret hX hQ dX2_joined_112
def g_X2_joined_108  : Option (Int32) :=
  g_X2_joined_109 0
set_option maxRecDepth 100000 in
set_option maxHeartbeats 4000000 in
theorem t_X2_joined_108 {Y : YT} {r : Int32}  (hX : CX l G cX2_joined 3 RX2 Y) (hQ : EQi G Y 0 0 .int r ws)   (hf : g_X2_joined_108  = some r) : J l G (rmD 2 0 0) Y 0 0 108 [] [] ws := by
  unfold g_X2_joined_108 at hf
  refine j_iconst (v := 0) hX dX2_joined_108 109 rfl (by decide) ?_
  exact t_X2_joined_109 hX hQ   0 hf
def g_X2_joined_126 (s0 : Int32) : Option (Int32) :=
  (f_X10_asInt s0).bind fun v7 => some v7
set_option maxRecDepth 100000 in
set_option maxHeartbeats 4000000 in
theorem t_X2_joined_126 {Y : YT} {r : Int32}  (hX : CX l G cX2_joined 3 RX2 Y) (hQ : EQi G Y 0 0 .int r ws)  (s0 : Int32) (hf : g_X2_joined_126 s0 = some r) : J l G (rmD 2 0 0) Y 0 0 126 [] [.int s0] ws := by
  unfold g_X2_joined_126 at hf
  obtain ⟨v7, hv7, hf⟩ := ibd hf
  refine z_ni (As := [.int s0]) (rest := []) hX dX2_joined_126 129 rfl (t_X10_asInt s0 hv7) mc_X10_asInt ms_X10_asInt mn_X2_82 (Nat.le_of_ble_eq_true rfl) (Nat.le_refl _) (Nat.le_refl _) rfl (Nat.le_of_ble_eq_true rfl) ?_
  replace hf := Option.some.inj hf
  subst hf
  exact j_iret hX hQ dX2_joined_129
def g_X2_joined_121  : Option (Int32) :=
  g_X2_joined_126 1
set_option maxRecDepth 100000 in
set_option maxHeartbeats 4000000 in
theorem t_X2_joined_121 {Y : YT} {r : Int32}  (hX : CX l G cX2_joined 3 RX2 Y) (hQ : EQi G Y 0 0 .int r ws)   (hf : g_X2_joined_121  = some r) : J l G (rmD 2 0 0) Y 0 0 121 [] [] ws := by
  unfold g_X2_joined_121 at hf
  refine j_iconst (v := 1) hX dX2_joined_121 122 rfl (by decide) ?_
  refine j_goto hX dX2_joined_122 126 rfl ?_
  exact t_X2_joined_126 hX hQ   1 hf
def g_X2_joined_78 (s0 : Int32) : Option (Int32) :=
  (f_X10_asInt s0).bind fun v13 => some v13
set_option maxRecDepth 100000 in
set_option maxHeartbeats 4000000 in
theorem t_X2_joined_78 {Y : YT} {r : Int32}  (hX : CX l G cX2_joined 3 RX2 Y) (hQ : EQi G Y 0 0 .int r ws)  (s0 : Int32) (hf : g_X2_joined_78 s0 = some r) : J l G (rmD 2 0 0) Y 0 0 78 [] [.int s0] ws := by
  unfold g_X2_joined_78 at hf
  obtain ⟨v13, hv13, hf⟩ := ibd hf
  refine z_ni (As := [.int s0]) (rest := []) hX dX2_joined_78 81 rfl (t_X10_asInt s0 hv13) mc_X10_asInt ms_X10_asInt mn_X2_82 (Nat.le_of_ble_eq_true rfl) (Nat.le_refl _) (Nat.le_refl _) rfl (Nat.le_of_ble_eq_true rfl) ?_
  replace hf := Option.some.inj hf
  subst hf
  exact j_iret hX hQ dX2_joined_81
def g_X2_joined_92 (s0 : Int32) : Option (Int32) :=
  (f_X10_asInt s0).bind fun v16 => some v16
set_option maxRecDepth 100000 in
set_option maxHeartbeats 4000000 in
theorem t_X2_joined_92 {Y : YT} {r : Int32}  (hX : CX l G cX2_joined 3 RX2 Y) (hQ : EQi G Y 0 0 .int r ws)  (s0 : Int32) (hf : g_X2_joined_92 s0 = some r) : J l G (rmD 2 0 0) Y 0 0 92 [] [.int s0] ws := by
  unfold g_X2_joined_92 at hf
  obtain ⟨v16, hv16, hf⟩ := ibd hf
  refine z_ni (As := [.int s0]) (rest := []) hX dX2_joined_92 95 rfl (t_X10_asInt s0 hv16) mc_X10_asInt ms_X10_asInt mn_X2_82 (Nat.le_of_ble_eq_true rfl) (Nat.le_refl _) (Nat.le_refl _) rfl (Nat.le_of_ble_eq_true rfl) ?_
  replace hf := Option.some.inj hf
  subst hf
  exact j_iret hX hQ dX2_joined_95
def f_X2_joined (x0 : Int32) (x1 : Int32) (x2 : Int32) : Option (Int32) :=
  if x0 = 7 then if x1 = 0 then g_X2_joined_108  else if x2 = 0 then g_X2_joined_108  else g_X2_joined_109 1 else if x0 = 8 then if x1 = 0 then if x2 = 0 then g_X2_joined_126 0 else g_X2_joined_121  else g_X2_joined_121  else if x0 = 43 then some (x1 + x2) else if x0 = 45 then some (x1 - x2) else if x0 = 60 then if x2 ≤ x1 then g_X2_joined_78 0 else g_X2_joined_78 1 else if x0 = 61 then if x1 = x2 then g_X2_joined_92 1 else g_X2_joined_92 0 else some 0
set_option maxRecDepth 100000 in
set_option maxHeartbeats 4000000 in
theorem t_X2_joined  (x0 : Int32) (x1 : Int32) (x2 : Int32) {r : Int32} (hf : f_X2_joined x0 x1 x2 = some r) : Ci l G 2 0 0 yX2_joined cX2_joined 3 .int [.int x0, .int x1, .int x2] ws r ws := by
  refine Ci.of (by decide) (Nat.le_of_ble_eq_true rfl) (fun Y hX hQ => ?_)
  refine j_lv (lv' := [(0, .int x0), (1, .int x1), (2, .int x2)]) rfl ?_
  unfold f_X2_joined at hf
  refine j_iload_n hX dX2_joined_0 1 rfl 0 rfl rfl ?_
  by_cases h1 : x0 = 7
  · replace hf := itt h1 hf
    refine j_look hX dX2_joined_1 rfl 96 (by rw [h1]; rfl) ?_
    refine j_iload_n hX dX2_joined_96 97 rfl 1 rfl rfl ?_
    refine j_if_eq hX dX2_joined_97 100 108 rfl rfl (fun h2 => ?_) (fun h2 => ?_)
    · replace hf := itt h2 hf
      refine j_sub [] rfl ?_
      exact t_X2_joined_108 hX hQ    hf
    · replace hf := itf h2 hf
      refine j_iload_n hX dX2_joined_100 101 rfl 2 rfl rfl ?_
      refine j_if_eq hX dX2_joined_101 104 108 rfl rfl (fun h4 => ?_) (fun h4 => ?_)
      · replace hf := itt h4 hf
        refine j_sub [] rfl ?_
        exact t_X2_joined_108 hX hQ    hf
      · replace hf := itf h4 hf
        refine j_iconst (v := 1) hX dX2_joined_104 105 rfl (by decide) ?_
        refine j_goto hX dX2_joined_105 109 rfl ?_
        refine j_sub [] rfl ?_
        exact t_X2_joined_109 hX hQ   1 hf
  replace hf := itf h1 hf
  by_cases h5 : x0 = 8
  · replace hf := itt h5 hf
    refine j_look hX dX2_joined_1 rfl 113 (by rw [h5]; rfl) ?_
    refine j_iload_n hX dX2_joined_113 114 rfl 1 rfl rfl ?_
    refine j_if_ne hX dX2_joined_114 117 121 rfl rfl (fun h6 => ?_) (fun h6 => ?_)
    · replace hf := itf h6 hf
      refine j_sub [] rfl ?_
      exact t_X2_joined_121 hX hQ    hf
    · replace hf := itt h6 hf
      refine j_iload_n hX dX2_joined_117 118 rfl 2 rfl rfl ?_
      refine j_if_eq hX dX2_joined_118 121 125 rfl rfl (fun h8 => ?_) (fun h8 => ?_)
      · replace hf := itt h8 hf
        refine j_iconst (v := 0) hX dX2_joined_125 126 rfl (by decide) ?_
        refine j_sub [] rfl ?_
        exact t_X2_joined_126 hX hQ   0 hf
      · replace hf := itf h8 hf
        refine j_sub [] rfl ?_
        exact t_X2_joined_121 hX hQ    hf
  replace hf := itf h5 hf
  by_cases h9 : x0 = 43
  · replace hf := itt h9 hf
    refine j_look hX dX2_joined_1 rfl 60 (by rw [h9]; rfl) ?_
    refine j_iload_n hX dX2_joined_60 61 rfl 1 rfl rfl ?_
    refine j_iload_n hX dX2_joined_61 62 rfl 2 rfl rfl ?_
    refine j_iadd hX dX2_joined_62 63 rfl ?_
    replace hf := Option.some.inj hf
    subst hf
    exact j_iret hX hQ dX2_joined_63
  replace hf := itf h9 hf
  by_cases h10 : x0 = 45
  · replace hf := itt h10 hf
    refine j_look hX dX2_joined_1 rfl 64 (by rw [h10]; rfl) ?_
    refine j_iload_n hX dX2_joined_64 65 rfl 1 rfl rfl ?_
    refine j_iload_n hX dX2_joined_65 66 rfl 2 rfl rfl ?_
    refine j_isub hX dX2_joined_66 67 rfl ?_
    replace hf := Option.some.inj hf
    subst hf
    exact j_iret hX hQ dX2_joined_67
  replace hf := itf h10 hf
  by_cases h11 : x0 = 60
  · replace hf := itt h11 hf
    refine j_look hX dX2_joined_1 rfl 68 (by rw [h11]; rfl) ?_
    refine j_iload_n hX dX2_joined_68 69 rfl 1 rfl rfl ?_
    refine j_iload_n hX dX2_joined_69 70 rfl 2 rfl rfl ?_
    refine j_icmp_ge hX dX2_joined_70 73 77 rfl rfl (fun h12 => ?_) (fun h12 => ?_)
    · replace hf := itt h12 hf
      refine j_iconst (v := 0) hX dX2_joined_77 78 rfl (by decide) ?_
      refine j_sub [] rfl ?_
      exact t_X2_joined_78 hX hQ   0 hf
    · replace hf := itf h12 hf
      refine j_iconst (v := 1) hX dX2_joined_73 74 rfl (by decide) ?_
      refine j_goto hX dX2_joined_74 78 rfl ?_
      refine j_sub [] rfl ?_
      exact t_X2_joined_78 hX hQ   1 hf
  replace hf := itf h11 hf
  by_cases h14 : x0 = 61
  · replace hf := itt h14 hf
    refine j_look hX dX2_joined_1 rfl 82 (by rw [h14]; rfl) ?_
    refine j_iload_n hX dX2_joined_82 83 rfl 1 rfl rfl ?_
    refine j_iload_n hX dX2_joined_83 84 rfl 2 rfl rfl ?_
    refine j_icmp_ne hX dX2_joined_84 87 91 rfl rfl (fun h15 => ?_) (fun h15 => ?_)
    · replace hf := itf h15 hf
      refine j_iconst (v := 0) hX dX2_joined_91 92 rfl (by decide) ?_
      refine j_sub [] rfl ?_
      exact t_X2_joined_92 hX hQ   0 hf
    · replace hf := itt h15 hf
      refine j_iconst (v := 1) hX dX2_joined_87 88 rfl (by decide) ?_
      refine j_goto hX dX2_joined_88 92 rfl ?_
      refine j_sub [] rfl ?_
      exact t_X2_joined_92 hX hQ   1 hf
  replace hf := itf h14 hf
  replace h1 := ne_ti (m := 7) h1 rfl
  replace h5 := ne_ti (m := 8) h5 rfl
  replace h9 := ne_ti (m := 43) h9 rfl
  replace h10 := ne_ti (m := 45) h10 rfl
  replace h11 := ne_ti (m := 60) h11 rfl
  replace h14 := ne_ti (m := 61) h14 rfl
  refine j_look hX dX2_joined_1 rfl 130 (by show ((1 : Nat) : Int) + Op.lookupswitch.offset [(7, 95), (8, 112), (43, 59), (45, 63), (60, 67), (61, 81)] 129 (Int32.toInt x0) = _; rw [Op.lookupswitch.offset_cons, if_neg (fun e => h1 e.symm), Op.lookupswitch.offset_cons, if_neg (fun e => h5 e.symm), Op.lookupswitch.offset_cons, if_neg (fun e => h9 e.symm), Op.lookupswitch.offset_cons, if_neg (fun e => h10 e.symm), Op.lookupswitch.offset_cons, if_neg (fun e => h11 e.symm), Op.lookupswitch.offset_cons, if_neg (fun e => h14 e.symm), Op.lookupswitch.offset_nil]; rfl) ?_
  refine j_iconst (v := 0) hX dX2_joined_130 131 rfl (by decide) ?_
  replace hf := Option.some.inj hf
  subst hf
  exact j_iret hX hQ dX2_joined_131
def g_X2_work_170 (o_operands : Nat → Int32) (o_open : Int32) (o_refuses : Int32) (o_differs : Int32) (o_fees : Int32) : Option ((Nat → Int32) × Int32 × Int32 × Int32 × Int32) :=
  some (o_operands, o_open, o_refuses, o_differs, o_fees)
set_option maxRecDepth 100000 in
set_option maxHeartbeats 4000000 in
theorem t_X2_work_170 {Y : YT} {r : (Nat → Int32) × Int32 × Int32 × Int32 × Int32}  (hX : CX l G cX2_work 4 RX2 Y) (hQ : EQv G Y 0 0 (WB G p_female p_born p_toldDeath p_lastYear p_father p_mother p_fatherGrade p_motherGrade p_size g_holder g_arms g_from g_size r_marks r_arms r_root r_steps r_grade r_marksAboveOne q_rows q_sizes t_bytes t_length s_tokens s_starts s_size a_code a_codeSize a_at a_token a_fault a_place o_texts o_names r.1 o_size r.2.1 r.2.2.1 r.2.2.2.1 r.2.2.2.2 c_years c_rows c_size x_faultPlace ++ fr))   (hf : g_X2_work_170 o_operands o_open o_refuses o_differs o_fees = some r) : J l G (rmD 3 0 0) Y 0 0 170 [] [] (WB G p_female p_born p_toldDeath p_lastYear p_father p_mother p_fatherGrade p_motherGrade p_size g_holder g_arms g_from g_size r_marks r_arms r_root r_steps r_grade r_marksAboveOne q_rows q_sizes t_bytes t_length s_tokens s_starts s_size a_code a_codeSize a_at a_token a_fault a_place o_texts o_names o_operands o_size o_open o_refuses o_differs o_fees c_years c_rows c_size x_faultPlace ++ fr) := by
  unfold g_X2_work_170 at hf
  replace hf := Option.some.inj hf
  subst hf
  exact j_vret hX hQ dX2_work_170
def g_X2_work_122 (o_operands : Nat → Int32) (o_open : Int32) (o_refuses : Int32) (o_fees : Int32) (s0 : Int32) : Option ((Nat → Int32) × Int32 × Int32 × Int32 × Int32) :=
  if isB s0 = true then g_X2_work_170 o_operands o_open o_refuses s0 o_fees else none
set_option maxRecDepth 100000 in
set_option maxHeartbeats 4000000 in
theorem t_X2_work_122 {Y : YT} {r : (Nat → Int32) × Int32 × Int32 × Int32 × Int32}  (hX : CX l G cX2_work 4 RX2 Y) (hQ : EQv G Y 0 0 (WB G p_female p_born p_toldDeath p_lastYear p_father p_mother p_fatherGrade p_motherGrade p_size g_holder g_arms g_from g_size r_marks r_arms r_root r_steps r_grade r_marksAboveOne q_rows q_sizes t_bytes t_length s_tokens s_starts s_size a_code a_codeSize a_at a_token a_fault a_place o_texts o_names r.1 o_size r.2.1 r.2.2.1 r.2.2.2.1 r.2.2.2.2 c_years c_rows c_size x_faultPlace ++ fr))  (s0 : Int32) (hf : g_X2_work_122 o_operands o_open o_refuses o_fees s0 = some r) : J l G (rmD 3 0 0) Y 0 0 122 [] [.int s0, .ref (gb G 26)] (WB G p_female p_born p_toldDeath p_lastYear p_father p_mother p_fatherGrade p_motherGrade p_size g_holder g_arms g_from g_size r_marks r_arms r_root r_steps r_grade r_marksAboveOne q_rows q_sizes t_bytes t_length s_tokens s_starts s_size a_code a_codeSize a_at a_token a_fault a_place o_texts o_names o_operands o_size o_open o_refuses o_differs o_fees c_years c_rows c_size x_faultPlace ++ fr) := by
  unfold g_X2_work_122 at hf
  obtain ⟨hb16, hf⟩ := ign hf
  refine j_put hX dX2_work_122 125 rfl fg_X2_35 ft_X2_6 26 rfl (isB_n hb16) (isB_f hb16) (Nat.le_of_ble_eq_true rfl) (ws' := (WB G p_female p_born p_toldDeath p_lastYear p_father p_mother p_fatherGrade p_motherGrade p_size g_holder g_arms g_from g_size r_marks r_arms r_root r_steps r_grade r_marksAboveOne q_rows q_sizes t_bytes t_length s_tokens s_starts s_size a_code a_codeSize a_at a_token a_fault a_place o_texts o_names o_operands o_size o_open o_refuses s0 o_fees c_years c_rows c_size x_faultPlace ++ fr)) rfl ?_
  refine j_goto hX dX2_work_125 170 rfl ?_
  exact t_X2_work_170 hX hQ    hf
def g_X2_work_117 (o_operands : Nat → Int32) (o_open : Int32) (o_refuses : Int32) (o_fees : Int32) : Option ((Nat → Int32) × Int32 × Int32 × Int32 × Int32) :=
  g_X2_work_122 o_operands o_open o_refuses o_fees 1
set_option maxRecDepth 100000 in
set_option maxHeartbeats 4000000 in
theorem t_X2_work_117 {Y : YT} {r : (Nat → Int32) × Int32 × Int32 × Int32 × Int32}  (hX : CX l G cX2_work 4 RX2 Y) (hQ : EQv G Y 0 0 (WB G p_female p_born p_toldDeath p_lastYear p_father p_mother p_fatherGrade p_motherGrade p_size g_holder g_arms g_from g_size r_marks r_arms r_root r_steps r_grade r_marksAboveOne q_rows q_sizes t_bytes t_length s_tokens s_starts s_size a_code a_codeSize a_at a_token a_fault a_place o_texts o_names r.1 o_size r.2.1 r.2.2.1 r.2.2.2.1 r.2.2.2.2 c_years c_rows c_size x_faultPlace ++ fr))   (hf : g_X2_work_117 o_operands o_open o_refuses o_fees = some r) : J l G (rmD 3 0 0) Y 0 0 117 [] [.ref (gb G 26)] (WB G p_female p_born p_toldDeath p_lastYear p_father p_mother p_fatherGrade p_motherGrade p_size g_holder g_arms g_from g_size r_marks r_arms r_root r_steps r_grade r_marksAboveOne q_rows q_sizes t_bytes t_length s_tokens s_starts s_size a_code a_codeSize a_at a_token a_fault a_place o_texts o_names o_operands o_size o_open o_refuses o_differs o_fees c_years c_rows c_size x_faultPlace ++ fr) := by
  unfold g_X2_work_117 at hf
  refine j_iconst (v := 1) hX dX2_work_117 118 rfl (by decide) ?_
  refine j_goto hX dX2_work_118 122 rfl ?_
  exact t_X2_work_122 hX hQ   1 hf
def g_X2_work_91 (o_operands : Nat → Int32) (o_open : Int32) (o_differs : Int32) (o_fees : Int32) (s0 : Int32) : Option ((Nat → Int32) × Int32 × Int32 × Int32 × Int32) :=
  if isB s0 = true then g_X2_work_170 o_operands o_open s0 o_differs o_fees else none
set_option maxRecDepth 100000 in
set_option maxHeartbeats 4000000 in
theorem t_X2_work_91 {Y : YT} {r : (Nat → Int32) × Int32 × Int32 × Int32 × Int32}  (hX : CX l G cX2_work 4 RX2 Y) (hQ : EQv G Y 0 0 (WB G p_female p_born p_toldDeath p_lastYear p_father p_mother p_fatherGrade p_motherGrade p_size g_holder g_arms g_from g_size r_marks r_arms r_root r_steps r_grade r_marksAboveOne q_rows q_sizes t_bytes t_length s_tokens s_starts s_size a_code a_codeSize a_at a_token a_fault a_place o_texts o_names r.1 o_size r.2.1 r.2.2.1 r.2.2.2.1 r.2.2.2.2 c_years c_rows c_size x_faultPlace ++ fr))  (s0 : Int32) (hf : g_X2_work_91 o_operands o_open o_differs o_fees s0 = some r) : J l G (rmD 3 0 0) Y 0 0 91 [] [.int s0, .ref (gb G 26)] (WB G p_female p_born p_toldDeath p_lastYear p_father p_mother p_fatherGrade p_motherGrade p_size g_holder g_arms g_from g_size r_marks r_arms r_root r_steps r_grade r_marksAboveOne q_rows q_sizes t_bytes t_length s_tokens s_starts s_size a_code a_codeSize a_at a_token a_fault a_place o_texts o_names o_operands o_size o_open o_refuses o_differs o_fees c_years c_rows c_size x_faultPlace ++ fr) := by
  unfold g_X2_work_91 at hf
  obtain ⟨hb20, hf⟩ := ign hf
  refine j_put hX dX2_work_91 94 rfl fg_X2_31 ft_X2_5 26 rfl (isB_n hb20) (isB_f hb20) (Nat.le_of_ble_eq_true rfl) (ws' := (WB G p_female p_born p_toldDeath p_lastYear p_father p_mother p_fatherGrade p_motherGrade p_size g_holder g_arms g_from g_size r_marks r_arms r_root r_steps r_grade r_marksAboveOne q_rows q_sizes t_bytes t_length s_tokens s_starts s_size a_code a_codeSize a_at a_token a_fault a_place o_texts o_names o_operands o_size o_open s0 o_differs o_fees c_years c_rows c_size x_faultPlace ++ fr)) rfl ?_
  refine j_goto hX dX2_work_94 170 rfl ?_
  exact t_X2_work_170 hX hQ    hf
def g_X2_work_86 (o_operands : Nat → Int32) (o_open : Int32) (o_differs : Int32) (o_fees : Int32) : Option ((Nat → Int32) × Int32 × Int32 × Int32 × Int32) :=
  g_X2_work_91 o_operands o_open o_differs o_fees 1
set_option maxRecDepth 100000 in
set_option maxHeartbeats 4000000 in
theorem t_X2_work_86 {Y : YT} {r : (Nat → Int32) × Int32 × Int32 × Int32 × Int32}  (hX : CX l G cX2_work 4 RX2 Y) (hQ : EQv G Y 0 0 (WB G p_female p_born p_toldDeath p_lastYear p_father p_mother p_fatherGrade p_motherGrade p_size g_holder g_arms g_from g_size r_marks r_arms r_root r_steps r_grade r_marksAboveOne q_rows q_sizes t_bytes t_length s_tokens s_starts s_size a_code a_codeSize a_at a_token a_fault a_place o_texts o_names r.1 o_size r.2.1 r.2.2.1 r.2.2.2.1 r.2.2.2.2 c_years c_rows c_size x_faultPlace ++ fr))   (hf : g_X2_work_86 o_operands o_open o_differs o_fees = some r) : J l G (rmD 3 0 0) Y 0 0 86 [] [.ref (gb G 26)] (WB G p_female p_born p_toldDeath p_lastYear p_father p_mother p_fatherGrade p_motherGrade p_size g_holder g_arms g_from g_size r_marks r_arms r_root r_steps r_grade r_marksAboveOne q_rows q_sizes t_bytes t_length s_tokens s_starts s_size a_code a_codeSize a_at a_token a_fault a_place o_texts o_names o_operands o_size o_open o_refuses o_differs o_fees c_years c_rows c_size x_faultPlace ++ fr) := by
  unfold g_X2_work_86 at hf
  refine j_iconst (v := 1) hX dX2_work_86 87 rfl (by decide) ?_
  refine j_goto hX dX2_work_87 91 rfl ?_
  exact t_X2_work_91 hX hQ   1 hf
def g_X2_work_57 (o_operands : Nat → Int32) (o_open : Int32) (o_refuses : Int32) (o_differs : Int32) (o_fees : Int32) (s0 : Int32) : Option ((Nat → Int32) × Int32 × Int32 × Int32 × Int32) :=
  (f_X10_asInt s0).bind fun v24 => (f_X2_push o_operands o_open v24).bind fun v25 => g_X2_work_170 v25.1 v25.2 o_refuses o_differs o_fees
set_option maxRecDepth 100000 in
set_option maxHeartbeats 4000000 in
theorem t_X2_work_57 {Y : YT} {r : (Nat → Int32) × Int32 × Int32 × Int32 × Int32}  (hX : CX l G cX2_work 4 RX2 Y) (hQ : EQv G Y 0 0 (WB G p_female p_born p_toldDeath p_lastYear p_father p_mother p_fatherGrade p_motherGrade p_size g_holder g_arms g_from g_size r_marks r_arms r_root r_steps r_grade r_marksAboveOne q_rows q_sizes t_bytes t_length s_tokens s_starts s_size a_code a_codeSize a_at a_token a_fault a_place o_texts o_names r.1 o_size r.2.1 r.2.2.1 r.2.2.2.1 r.2.2.2.2 c_years c_rows c_size x_faultPlace ++ fr))  (s0 : Int32) (hf : g_X2_work_57 o_operands o_open o_refuses o_differs o_fees s0 = some r) : J l G (rmD 3 0 0) Y 0 0 57 [] [.int s0, .ref (gb G 26)] (WB G p_female p_born p_toldDeath p_lastYear p_father p_mother p_fatherGrade p_motherGrade p_size g_holder g_arms g_from g_size r_marks r_arms r_root r_steps r_grade r_marksAboveOne q_rows q_sizes t_bytes t_length s_tokens s_starts s_size a_code a_codeSize a_at a_token a_fault a_place o_texts o_names o_operands o_size o_open o_refuses o_differs o_fees c_years c_rows c_size x_faultPlace ++ fr) := by
  unfold g_X2_work_57 at hf
  obtain ⟨v24, hv24, hf⟩ := ibd hf
  refine z_ni (As := [.int s0]) (rest := [.ref (gb G 26)]) hX dX2_work_57 60 rfl (t_X10_asInt s0 hv24) mc_X10_asInt ms_X10_asInt mn_X2_82 (Nat.le_of_ble_eq_true rfl) (Nat.le_refl _) (Nat.le_refl _) rfl (Nat.le_of_ble_eq_true rfl) ?_
  obtain ⟨v25, hv25, hf⟩ := ibd hf
  refine z_v (As := [.int v24]) (rest := []) (q0 := 26) hX dX2_work_60 63 rfl (t_X2_push v24 hv25) mc_X2_push mv_X2_push ml_X2_68 rfl rfl (Nat.le_of_ble_eq_true rfl) (Nat.le_refl _) (Nat.le_refl _) rfl (Nat.le_of_ble_eq_true rfl) ?_
  refine j_goto hX dX2_work_63 170 rfl ?_
  exact t_X2_work_170 hX hQ    hf
def f_X2_work (o_names : Nat → Int32) (o_operands : Nat → Int32) (o_open : Int32) (o_refuses : Int32) (o_differs : Int32) (o_fees : Int32) (x1 : Int32) : Option ((Nat → Int32) × Int32 × Int32 × Int32 × Int32) :=
  (f_X7_isNumber x1).bind fun v1 => if v1 = 0 then (f_X7_isName x1).bind fun v3 => if v3 = 0 then if x1 = 9 then (f_X2_pop o_operands o_open).bind fun v22 => if v22.1 = 0 then g_X2_work_57 o_operands v22.2 o_refuses o_differs o_fees 1 else g_X2_work_57 o_operands v22.2 o_refuses o_differs o_fees 0 else if x1 = 4 then (f_X2_pop o_operands o_open).bind fun v18 => if v18.1 = 0 then if o_refuses = 0 then g_X2_work_91 o_operands v18.2 o_differs o_fees 0 else g_X2_work_86 o_operands v18.2 o_differs o_fees else g_X2_work_86 o_operands v18.2 o_differs o_fees else if x1 = 5 then (f_X2_pop o_operands o_open).bind fun v14 => if v14.1 = 0 then if o_differs = 0 then g_X2_work_122 o_operands v14.2 o_refuses o_fees 0 else g_X2_work_117 o_operands v14.2 o_refuses o_fees else g_X2_work_117 o_operands v14.2 o_refuses o_fees else if x1 = 6 then (f_X2_pop o_operands o_open).bind fun v13 => g_X2_work_170 o_operands v13.2 o_refuses o_differs (o_fees + v13.1) else (f_X2_pop o_operands o_open).bind fun v9 => (f_X2_pop o_operands v9.2).bind fun v10 => (f_X2_joined x1 v10.1 v9.1).bind fun v11 => (f_X2_push o_operands v10.2 v11).bind fun v12 => g_X2_work_170 v12.1 v12.2 o_refuses o_differs o_fees else (f_X2_nameValue o_names x1).bind fun v26 => (f_X2_push o_operands o_open v26).bind fun v27 => g_X2_work_170 v27.1 v27.2 o_refuses o_differs o_fees else (f_X2_push o_operands o_open (x1 - 1000)).bind fun v28 => g_X2_work_170 v28.1 v28.2 o_refuses o_differs o_fees
set_option maxRecDepth 100000 in
set_option maxHeartbeats 4000000 in
theorem t_X2_work  (x1 : Int32) {r : (Nat → Int32) × Int32 × Int32 × Int32 × Int32} (hf : f_X2_work o_names o_operands o_open o_refuses o_differs o_fees x1 = some r) : Cv l G 3 0 0 yX2_work cX2_work 4 [.ref (gb G 26), .int x1] (WB G p_female p_born p_toldDeath p_lastYear p_father p_mother p_fatherGrade p_motherGrade p_size g_holder g_arms g_from g_size r_marks r_arms r_root r_steps r_grade r_marksAboveOne q_rows q_sizes t_bytes t_length s_tokens s_starts s_size a_code a_codeSize a_at a_token a_fault a_place o_texts o_names o_operands o_size o_open o_refuses o_differs o_fees c_years c_rows c_size x_faultPlace ++ fr) (WB G p_female p_born p_toldDeath p_lastYear p_father p_mother p_fatherGrade p_motherGrade p_size g_holder g_arms g_from g_size r_marks r_arms r_root r_steps r_grade r_marksAboveOne q_rows q_sizes t_bytes t_length s_tokens s_starts s_size a_code a_codeSize a_at a_token a_fault a_place o_texts o_names r.1 o_size r.2.1 r.2.2.1 r.2.2.2.1 r.2.2.2.2 c_years c_rows c_size x_faultPlace ++ fr) := by
  refine Cv.of (by decide) (Nat.le_of_ble_eq_true rfl) (fun Y hX hQ => ?_)
  refine j_lv (lv' := [(0, .ref (gb G 26)), (1, .int x1)]) rfl ?_
  unfold f_X2_work at hf
  refine j_iload_n hX dX2_work_0 1 rfl 1 rfl rfl ?_
  obtain ⟨v1, hv1, hf⟩ := ibd hf
  refine z_si (As := [.int x1]) (rest := []) hX dX2_work_1 4 rfl (t_X7_isNumber x1 hv1) mc_X7_isNumber ms_X7_isNumber ml_X2_64 (Nat.le_of_ble_eq_true rfl) (Nat.le_refl _) (Nat.le_refl _) rfl (Nat.le_of_ble_eq_true rfl) ?_
  refine j_if_eq hX dX2_work_4 7 19 rfl rfl (fun h2 => ?_) (fun h2 => ?_)
  · replace hf := itt h2 hf
    refine j_iload_n hX dX2_work_19 20 rfl 1 rfl rfl ?_
    obtain ⟨v3, hv3, hf⟩ := ibd hf
    refine z_si (As := [.int x1]) (rest := []) hX dX2_work_20 23 rfl (t_X7_isName x1 hv3) mc_X7_isName ms_X7_isName ml_X2_71 (Nat.le_of_ble_eq_true rfl) (Nat.le_refl _) (Nat.le_refl _) rfl (Nat.le_of_ble_eq_true rfl) ?_
    refine j_if_eq hX dX2_work_23 26 38 rfl rfl (fun h4 => ?_) (fun h4 => ?_)
    · replace hf := itt h4 hf
      refine j_iload_n hX dX2_work_38 39 rfl 1 rfl rfl ?_
      refine j_bipush (v := 9) hX dX2_work_39 41 rfl (by decide) ?_
      refine j_icmp_ne hX dX2_work_41 44 66 rfl rfl (fun h5 => ?_) (fun h5 => ?_)
      · replace hf := itf h5 hf
        refine j_iload_n hX dX2_work_66 67 rfl 1 rfl rfl ?_
        refine j_iconst (v := 4) hX dX2_work_67 68 rfl (by decide) ?_
        refine j_icmp_ne hX dX2_work_68 71 97 rfl rfl (fun h6 => ?_) (fun h6 => ?_)
        · replace hf := itf h6 hf
          refine j_iload_n hX dX2_work_97 98 rfl 1 rfl rfl ?_
          refine j_iconst (v := 5) hX dX2_work_98 99 rfl (by decide) ?_
          refine j_icmp_ne hX dX2_work_99 102 128 rfl rfl (fun h7 => ?_) (fun h7 => ?_)
          · replace hf := itf h7 hf
            refine j_iload_n hX dX2_work_128 129 rfl 1 rfl rfl ?_
            refine j_bipush (v := 6) hX dX2_work_129 131 rfl (by decide) ?_
            refine j_icmp_ne hX dX2_work_131 134 150 rfl rfl (fun h8 => ?_) (fun h8 => ?_)
            · replace hf := itf h8 hf
              refine j_aload_n hX dX2_work_150 151 rfl 0 rfl rfl ?_
              obtain ⟨v9, hv9, hf⟩ := ibd hf
              refine z_i (As := []) (rest := []) (q0 := 26) hX dX2_work_151 154 rfl (t_X2_pop  hv9) mc_X2_pop mv_X2_pop ml_X2_78 rfl rfl (Nat.le_of_ble_eq_true rfl) (Nat.le_refl _) (Nat.le_refl _) rfl (Nat.le_of_ble_eq_true rfl) ?_
              refine j_istore_n hX dX2_work_154 155 rfl rfl (by decide) (lv' := [(2, .int v9.1), (0, .ref (gb G 26)), (1, .int x1)]) rfl ?_
              refine j_aload_n hX dX2_work_155 156 rfl 1 rfl rfl ?_
              obtain ⟨v10, hv10, hf⟩ := ibd hf
              refine z_i (As := []) (rest := []) (q0 := 26) hX dX2_work_156 159 rfl (t_X2_pop  hv10) mc_X2_pop mv_X2_pop ml_X2_78 rfl rfl (Nat.le_of_ble_eq_true rfl) (Nat.le_refl _) (Nat.le_refl _) rfl (Nat.le_of_ble_eq_true rfl) ?_
              refine j_istore_n hX dX2_work_159 160 rfl rfl (by decide) (lv' := [(3, .int v10.1), (2, .int v9.1), (0, .ref (gb G 26)), (1, .int x1)]) rfl ?_
              refine j_aload_n hX dX2_work_160 161 rfl 2 rfl rfl ?_
              refine j_iload_n hX dX2_work_161 162 rfl 3 rfl rfl ?_
              refine j_iload_n hX dX2_work_162 163 rfl 0 rfl rfl ?_
              refine j_iload_n hX dX2_work_163 164 rfl 1 rfl rfl ?_
              obtain ⟨v11, hv11, hf⟩ := ibd hf
              refine z_si (As := [.int x1, .int v10.1, .int v9.1]) (rest := [.ref (gb G 26)]) hX dX2_work_164 167 rfl (t_X2_joined x1 v10.1 v9.1 hv11) mc_X2_joined ms_X2_joined ml_X2_86 (Nat.le_of_ble_eq_true rfl) (Nat.le_refl _) (Nat.le_refl _) rfl (Nat.le_of_ble_eq_true rfl) ?_
              obtain ⟨v12, hv12, hf⟩ := ibd hf
              refine z_v (As := [.int v11]) (rest := []) (q0 := 26) hX dX2_work_167 170 rfl (t_X2_push v11 hv12) mc_X2_push mv_X2_push ml_X2_68 rfl rfl (Nat.le_of_ble_eq_true rfl) (Nat.le_refl _) (Nat.le_refl _) rfl (Nat.le_of_ble_eq_true rfl) ?_
              refine j_sub [] rfl ?_
              exact t_X2_work_170 hX hQ    hf
            · replace hf := itt h8 hf
              refine j_aload_n hX dX2_work_134 135 rfl 0 rfl rfl ?_
              refine j_dup hX dX2_work_135 136 rfl rfl ?_
              refine j_get hX dX2_work_136 139 rfl fg_X2_38 26 rfl rfl ?_
              refine j_aload_n hX dX2_work_139 140 rfl 0 rfl rfl ?_
              obtain ⟨v13, hv13, hf⟩ := ibd hf
              refine z_i (As := []) (rest := [.int o_fees, .ref (gb G 26)]) (q0 := 26) hX dX2_work_140 143 rfl (t_X2_pop  hv13) mc_X2_pop mv_X2_pop ml_X2_78 rfl rfl (Nat.le_of_ble_eq_true rfl) (Nat.le_refl _) (Nat.le_refl _) rfl (Nat.le_of_ble_eq_true rfl) ?_
              refine j_iadd hX dX2_work_143 144 rfl ?_
              refine j_put hX dX2_work_144 147 rfl fg_X2_38 ft_X2_7 26 rfl rfl rfl (Nat.le_of_ble_eq_true rfl) (ws' := (WB G p_female p_born p_toldDeath p_lastYear p_father p_mother p_fatherGrade p_motherGrade p_size g_holder g_arms g_from g_size r_marks r_arms r_root r_steps r_grade r_marksAboveOne q_rows q_sizes t_bytes t_length s_tokens s_starts s_size a_code a_codeSize a_at a_token a_fault a_place o_texts o_names o_operands o_size v13.2 o_refuses o_differs (o_fees + v13.1) c_years c_rows c_size x_faultPlace ++ fr)) rfl ?_
              refine j_goto hX dX2_work_147 170 rfl ?_
              refine j_sub [] rfl ?_
              exact t_X2_work_170 hX hQ    hf
          · replace hf := itt h7 hf
            refine j_aload_n hX dX2_work_102 103 rfl 0 rfl rfl ?_
            refine j_aload_n hX dX2_work_103 104 rfl 0 rfl rfl ?_
            obtain ⟨v14, hv14, hf⟩ := ibd hf
            refine z_i (As := []) (rest := [.ref (gb G 26)]) (q0 := 26) hX dX2_work_104 107 rfl (t_X2_pop  hv14) mc_X2_pop mv_X2_pop ml_X2_78 rfl rfl (Nat.le_of_ble_eq_true rfl) (Nat.le_refl _) (Nat.le_refl _) rfl (Nat.le_of_ble_eq_true rfl) ?_
            refine j_if_ne hX dX2_work_107 110 117 rfl rfl (fun h15 => ?_) (fun h15 => ?_)
            · replace hf := itf h15 hf
              refine j_sub [] rfl ?_
              exact t_X2_work_117 hX hQ    hf
            · replace hf := itt h15 hf
              refine j_aload_n hX dX2_work_110 111 rfl 0 rfl rfl ?_
              refine j_get hX dX2_work_111 114 rfl fg_X2_35 26 rfl rfl ?_
              refine j_if_eq hX dX2_work_114 117 121 rfl rfl (fun h17 => ?_) (fun h17 => ?_)
              · replace hf := itt h17 hf
                refine j_iconst (v := 0) hX dX2_work_121 122 rfl (by decide) ?_
                refine j_sub [] rfl ?_
                exact t_X2_work_122 hX hQ   0 hf
              · replace hf := itf h17 hf
                refine j_sub [] rfl ?_
                exact t_X2_work_117 hX hQ    hf
        · replace hf := itt h6 hf
          refine j_aload_n hX dX2_work_71 72 rfl 0 rfl rfl ?_
          refine j_aload_n hX dX2_work_72 73 rfl 0 rfl rfl ?_
          obtain ⟨v18, hv18, hf⟩ := ibd hf
          refine z_i (As := []) (rest := [.ref (gb G 26)]) (q0 := 26) hX dX2_work_73 76 rfl (t_X2_pop  hv18) mc_X2_pop mv_X2_pop ml_X2_78 rfl rfl (Nat.le_of_ble_eq_true rfl) (Nat.le_refl _) (Nat.le_refl _) rfl (Nat.le_of_ble_eq_true rfl) ?_
          refine j_if_ne hX dX2_work_76 79 86 rfl rfl (fun h19 => ?_) (fun h19 => ?_)
          · replace hf := itf h19 hf
            refine j_sub [] rfl ?_
            exact t_X2_work_86 hX hQ    hf
          · replace hf := itt h19 hf
            refine j_aload_n hX dX2_work_79 80 rfl 0 rfl rfl ?_
            refine j_get hX dX2_work_80 83 rfl fg_X2_31 26 rfl rfl ?_
            refine j_if_eq hX dX2_work_83 86 90 rfl rfl (fun h21 => ?_) (fun h21 => ?_)
            · replace hf := itt h21 hf
              refine j_iconst (v := 0) hX dX2_work_90 91 rfl (by decide) ?_
              refine j_sub [] rfl ?_
              exact t_X2_work_91 hX hQ   0 hf
            · replace hf := itf h21 hf
              refine j_sub [] rfl ?_
              exact t_X2_work_86 hX hQ    hf
      · replace hf := itt h5 hf
        refine j_aload_n hX dX2_work_44 45 rfl 0 rfl rfl ?_
        refine j_aload_n hX dX2_work_45 46 rfl 0 rfl rfl ?_
        obtain ⟨v22, hv22, hf⟩ := ibd hf
        refine z_i (As := []) (rest := [.ref (gb G 26)]) (q0 := 26) hX dX2_work_46 49 rfl (t_X2_pop  hv22) mc_X2_pop mv_X2_pop ml_X2_78 rfl rfl (Nat.le_of_ble_eq_true rfl) (Nat.le_refl _) (Nat.le_refl _) rfl (Nat.le_of_ble_eq_true rfl) ?_
        refine j_if_ne hX dX2_work_49 52 56 rfl rfl (fun h23 => ?_) (fun h23 => ?_)
        · replace hf := itf h23 hf
          refine j_iconst (v := 0) hX dX2_work_56 57 rfl (by decide) ?_
          refine j_sub [] rfl ?_
          exact t_X2_work_57 hX hQ   0 hf
        · replace hf := itt h23 hf
          refine j_iconst (v := 1) hX dX2_work_52 53 rfl (by decide) ?_
          refine j_goto hX dX2_work_53 57 rfl ?_
          refine j_sub [] rfl ?_
          exact t_X2_work_57 hX hQ   1 hf
    · replace hf := itf h4 hf
      refine j_aload_n hX dX2_work_26 27 rfl 0 rfl rfl ?_
      refine j_aload_n hX dX2_work_27 28 rfl 0 rfl rfl ?_
      refine j_iload_n hX dX2_work_28 29 rfl 1 rfl rfl ?_
      obtain ⟨v26, hv26, hf⟩ := ibd hf
      refine z_i (As := [.int x1]) (rest := [.ref (gb G 26)]) (q0 := 26) hX dX2_work_29 32 rfl (t_X2_nameValue x1 hv26) mc_X2_nameValue mv_X2_nameValue ml_X2_74 rfl rfl (Nat.le_of_ble_eq_true rfl) (Nat.le_refl _) (Nat.le_refl _) rfl (Nat.le_of_ble_eq_true rfl) ?_
      obtain ⟨v27, hv27, hf⟩ := ibd hf
      refine z_v (As := [.int v26]) (rest := []) (q0 := 26) hX dX2_work_32 35 rfl (t_X2_push v26 hv27) mc_X2_push mv_X2_push ml_X2_68 rfl rfl (Nat.le_of_ble_eq_true rfl) (Nat.le_refl _) (Nat.le_refl _) rfl (Nat.le_of_ble_eq_true rfl) ?_
      refine j_goto hX dX2_work_35 170 rfl ?_
      refine j_sub [] rfl ?_
      exact t_X2_work_170 hX hQ    hf
  · replace hf := itf h2 hf
    refine j_aload_n hX dX2_work_7 8 rfl 0 rfl rfl ?_
    refine j_iload_n hX dX2_work_8 9 rfl 1 rfl rfl ?_
    refine j_sipush (v := 1000) hX dX2_work_9 12 rfl (by decide) ?_
    refine j_isub hX dX2_work_12 13 rfl ?_
    obtain ⟨v28, hv28, hf⟩ := ibd hf
    refine z_v (As := [.int (x1 - 1000)]) (rest := []) (q0 := 26) hX dX2_work_13 16 rfl (t_X2_push (x1 - 1000) hv28) mc_X2_push mv_X2_push ml_X2_68 rfl rfl (Nat.le_of_ble_eq_true rfl) (Nat.le_refl _) (Nat.le_refl _) rfl (Nat.le_of_ble_eq_true rfl) ?_
    refine j_goto hX dX2_work_16 170 rfl ?_
    refine j_sub [] rfl ?_
    exact t_X2_work_170 hX hQ    hf
end
