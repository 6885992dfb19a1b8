section
variable {l : Launch} {G : GT} {fr ws : va_W} {kT : Nat} {tA tC tN : Nat → Nat} {tF : Nat → Nat → Int32} {tY : Nat → Int32} {p_female : Nat → Int32} {p_born : Nat → Int32} {p_toldDeath : Nat → Int32} {p_lastYear : Nat → Int32} {p_father : Nat → Int32} {p_mother : Nat → Int32} {p_fatherGrade : Nat → Int32} {p_motherGrade : Nat → Int32} {p_size : Int32} {g_holder : Nat → Int32} {g_arms : Nat → Int32} {g_from : Nat → Int32} {g_size : Int32} {r_marks : Nat → Int32} {r_arms : Int32} {r_root : Int32} {r_steps : Int32} {r_grade : Int32} {r_marksAboveOne : Int32} {q_rows : Nat → Int32} {q_sizes : Nat → Int32} {t_bytes : Nat → Int32} {t_length : Int32} {s_tokens : Nat → Int32} {s_starts : Nat → Int32} {s_size : Int32} {a_code : Nat → Int32} {a_codeSize : Int32} {a_at : Int32} {a_token : Int32} {a_fault : Int32} {a_place : Int32} {o_texts : Nat → Option Nat} {o_names : Nat → Int32} {o_operands : Nat → Int32} {o_size : Int32} {o_open : Int32} {o_refuses : Int32} {o_differs : Int32} {o_fees : Int32} {c_years : Nat → Int32} {c_rows : Nat → Int32} {c_size : Int32} {x_faultPlace : Int32}
def g_X4_isIn_15 (s0 : Int32) : Option (Int32) :=
  if isB s0 = true then some s0 else none
set_option maxRecDepth 100000 in
set_option maxHeartbeats 4000000 in
theorem t_X4_isIn_15 {Y : YT} {r : Int32}  (hX : CX l G cX4_isIn 3 RX4 Y) (hQ : EQi G Y 0 0 .boolean r ws)  (s0 : Int32) (hf : g_X4_isIn_15 s0 = some r) : J l G (rmD 1 0 0) Y 0 0 15 [] [.int s0] ws := by
  unfold g_X4_isIn_15 at hf
  obtain ⟨hb2, hf⟩ := ign hf
  replace hf := Option.some.inj hf
  subst hf
  exact j_zret hX hQ hb2 dX4_isIn_15
def f_X4_isIn (x0 : Int64) (x2 : Int32) : Option (Int32) :=
  if (lg_cmp ((ushr64 x0 x2) &&& 1) 0) = 0 then g_X4_isIn_15 0 else g_X4_isIn_15 1
set_option maxRecDepth 100000 in
set_option maxHeartbeats 4000000 in
theorem t_X4_isIn  (x0 : Int64) (x2 : Int32) {r : Int32} (hf : f_X4_isIn x0 x2 = some r) : Ci l G 1 0 0 yX4_isIn cX4_isIn 3 .boolean [.long x0, .int x2] ws r ws := by
  refine Ci.of (by decide) (Nat.le_of_ble_eq_true rfl) (fun Y hX hQ => ?_)
  refine j_lv (lv' := [(0, .long x0), (2, .int x2)]) rfl ?_
  unfold f_X4_isIn at hf
  refine j_lload_n hX dX4_isIn_0 1 rfl 0 rfl rfl ?_
  refine j_iload_n hX dX4_isIn_1 2 rfl 1 rfl rfl ?_
  refine j_lushr hX dX4_isIn_2 3 rfl ?_
  refine j_lconst (v := 1) hX dX4_isIn_3 4 rfl (by decide) ?_
  refine j_land hX dX4_isIn_4 5 rfl ?_
  refine j_lconst (v := 0) hX dX4_isIn_5 6 rfl (by decide) ?_
  refine j_lcmp hX dX4_isIn_6 7 rfl ?_
  refine j_if_eq hX dX4_isIn_7 10 14 rfl rfl (fun h1 => ?_) (fun h1 => ?_)
  · replace hf := itt h1 hf
    refine j_iconst (v := 0) hX dX4_isIn_14 15 rfl (by decide) ?_
    refine j_sub [] rfl ?_
    exact t_X4_isIn_15 hX hQ   0 hf
  · replace hf := itf h1 hf
    refine j_iconst (v := 1) hX dX4_isIn_10 11 rfl (by decide) ?_
    refine j_goto hX dX4_isIn_11 15 rfl ?_
    refine j_sub [] rfl ?_
    exact t_X4_isIn_15 hX hQ   1 hf
def g_X4_has_17 (s0 : Int32) : Option (Int32) :=
  if isB s0 = true then some s0 else none
set_option maxRecDepth 100000 in
set_option maxHeartbeats 4000000 in
theorem t_X4_has_17 {Y : YT} {r : Int32}  (hX : CX l G cX4_has 2 RX4 Y) (hQ : EQi G Y 0 0 .boolean r (WB G p_female p_born p_toldDeath p_lastYear p_father p_mother p_fatherGrade p_motherGrade p_size g_holder g_arms g_from g_size r_marks r_arms r_root r_steps r_grade r_marksAboveOne q_rows q_sizes t_bytes t_length s_tokens s_starts s_size a_code a_codeSize a_at a_token a_fault a_place o_texts o_names o_operands o_size o_open o_refuses o_differs o_fees c_years c_rows c_size x_faultPlace ++ fr))  (s0 : Int32) (hf : g_X4_has_17 s0 = some r) : J l G (rmD 1 0 0) Y 0 0 17 [] [.int s0] (WB G p_female p_born p_toldDeath p_lastYear p_father p_mother p_fatherGrade p_motherGrade p_size g_holder g_arms g_from g_size r_marks r_arms r_root r_steps r_grade r_marksAboveOne q_rows q_sizes t_bytes t_length s_tokens s_starts s_size a_code a_codeSize a_at a_token a_fault a_place o_texts o_names o_operands o_size o_open o_refuses o_differs o_fees c_years c_rows c_size x_faultPlace ++ fr) := by
  unfold g_X4_has_17 at hf
  obtain ⟨hb2, hf⟩ := ign hf
  replace hf := Option.some.inj hf
  subst hf
  exact j_zret hX hQ hb2 dX4_has_17
def g_X4_has_16  : Option (Int32) :=
  g_X4_has_17 0
set_option maxRecDepth 100000 in
set_option maxHeartbeats 4000000 in
theorem t_X4_has_16 {Y : YT} {r : Int32}  (hX : CX l G cX4_has 2 RX4 Y) (hQ : EQi G Y 0 0 .boolean r (WB G p_female p_born p_toldDeath p_lastYear p_father p_mother p_fatherGrade p_motherGrade p_size g_holder g_arms g_from g_size r_marks r_arms r_root r_steps r_grade r_marksAboveOne q_rows q_sizes t_bytes t_length s_tokens s_starts s_size a_code a_codeSize a_at a_token a_fault a_place o_texts o_names o_operands o_size o_open o_refuses o_differs o_fees c_years c_rows c_size x_faultPlace ++ fr))   (hf : g_X4_has_16  = some r) : J l G (rmD 1 0 0) Y 0 0 16 [] [] (WB G p_female p_born p_toldDeath p_lastYear p_father p_mother p_fatherGrade p_motherGrade p_size g_holder g_arms g_from g_size r_marks r_arms r_root r_steps r_grade r_marksAboveOne q_rows q_sizes t_bytes t_length s_tokens s_starts s_size a_code a_codeSize a_at a_token a_fault a_place o_texts o_names o_operands o_size o_open o_refuses o_differs o_fees c_years c_rows c_size x_faultPlace ++ fr) := by
  unfold g_X4_has_16 at hf
  refine j_iconst (v := 0) hX dX4_has_16 17 rfl (by decide) ?_
  exact t_X4_has_17 hX hQ   0 hf
def f_X4_has (p_size : Int32) (x1 : Int32) : Option (Int32) :=
  if x1 < 0 then g_X4_has_16  else if p_size ≤ x1 then g_X4_has_16  else g_X4_has_17 1
set_option maxRecDepth 100000 in
set_option maxHeartbeats 4000000 in
theorem t_X4_has  (x1 : Int32) {r : Int32} (hf : f_X4_has p_size x1 = some r) : Ci l G 1 0 0 yX4_has cX4_has 2 .boolean [.ref (gb G 1), .int x1] (WB G p_female p_born p_toldDeath p_lastYear p_father p_mother p_fatherGrade p_motherGrade p_size g_holder g_arms g_from g_size r_marks r_arms r_root r_steps r_grade r_marksAboveOne q_rows q_sizes t_bytes t_length s_tokens s_starts s_size a_code a_codeSize a_at a_token a_fault a_place o_texts o_names o_operands o_size o_open o_refuses o_differs o_fees c_years c_rows c_size x_faultPlace ++ fr) r (WB G p_female p_born p_toldDeath p_lastYear p_father p_mother p_fatherGrade p_motherGrade p_size g_holder g_arms g_from g_size r_marks r_arms r_root r_steps r_grade r_marksAboveOne q_rows q_sizes t_bytes t_length s_tokens s_starts s_size a_code a_codeSize a_at a_token a_fault a_place o_texts o_names o_operands o_size o_open o_refuses o_differs o_fees c_years c_rows c_size x_faultPlace ++ fr) := by
  refine Ci.of (by decide) (Nat.le_of_ble_eq_true rfl) (fun Y hX hQ => ?_)
  refine j_lv (lv' := [(0, .ref (gb G 1)), (1, .int x1)]) rfl ?_
  unfold f_X4_has at hf
  refine j_iload_n hX dX4_has_0 1 rfl 1 rfl rfl ?_
  refine j_if_lt hX dX4_has_1 4 16 rfl rfl (fun h1 => ?_) (fun h1 => ?_)
  · replace hf := itt h1 hf
    refine j_sub [] rfl ?_
    exact t_X4_has_16 hX hQ    hf
  · replace hf := itf h1 hf
    refine j_iload_n hX dX4_has_4 5 rfl 1 rfl rfl ?_
    refine j_aload_n hX dX4_has_5 6 rfl 0 rfl rfl ?_
    refine j_get hX dX4_has_6 9 rfl fg_X4_37 1 rfl rfl ?_
    refine j_icmp_ge hX dX4_has_9 12 16 rfl rfl (fun h3 => ?_) (fun h3 => ?_)
    · replace hf := itt h3 hf
      refine j_sub [] rfl ?_
      exact t_X4_has_16 hX hQ    hf
    · replace hf := itf h3 hf
      refine j_iconst (v := 1) hX dX4_has_12 13 rfl (by decide) ?_
      refine j_goto hX dX4_has_13 17 rfl ?_
      refine j_sub [] rfl ?_
      exact t_X4_has_17 hX hQ   1 hf
def g_X4_canDie_30 (s0 : Int32) : Option (Int32) :=
  if isB s0 = true then some s0 else none
set_option maxRecDepth 100000 in
set_option maxHeartbeats 4000000 in
theorem t_X4_canDie_30 {Y : YT} {r : Int32}  (hX : CX l G cX4_canDie 2 RX4 Y) (hQ : EQi G Y 0 0 .boolean r ws)  (s0 : Int32) (hf : g_X4_canDie_30 s0 = some r) : J l G (rmD 2 0 0) Y 0 0 30 [] [.int s0] ws := by
  unfold g_X4_canDie_30 at hf
  obtain ⟨hb2, hf⟩ := ign hf
  replace hf := Option.some.inj hf
  subst hf
  exact j_zret hX hQ hb2 dX4_canDie_30
def g_X4_canDie_25  : Option (Int32) :=
  g_X4_canDie_30 1
set_option maxRecDepth 100000 in
set_option maxHeartbeats 4000000 in
theorem t_X4_canDie_25 {Y : YT} {r : Int32}  (hX : CX l G cX4_canDie 2 RX4 Y) (hQ : EQi G Y 0 0 .boolean r ws)   (hf : g_X4_canDie_25  = some r) : J l G (rmD 2 0 0) Y 0 0 25 [] [] ws := by
  unfold g_X4_canDie_25 at hf
  refine j_iconst (v := 1) hX dX4_canDie_25 26 rfl (by decide) ?_
  refine j_goto hX dX4_canDie_26 30 rfl ?_
  exact t_X4_canDie_30 hX hQ   1 hf
def g_X4_canDie_29  : Option (Int32) :=
  g_X4_canDie_30 0
set_option maxRecDepth 100000 in
set_option maxHeartbeats 4000000 in
theorem t_X4_canDie_29 {Y : YT} {r : Int32}  (hX : CX l G cX4_canDie 2 RX4 Y) (hQ : EQi G Y 0 0 .boolean r ws)   (hf : g_X4_canDie_29  = some r) : J l G (rmD 2 0 0) Y 0 0 29 [] [] ws := by
  unfold g_X4_canDie_29 at hf
  refine j_iconst (v := 0) hX dX4_canDie_29 30 rfl (by decide) ?_
  exact t_X4_canDie_30 hX hQ   0 hf
def f_X4_canDie (x0 : Int32) (x1 : Int32) : Option (Int32) :=
  if x1 = ((-1)) then g_X4_canDie_25  else (f_X10_isYear x1).bind fun v3 => if v3 = 0 then g_X4_canDie_29  else if x1 < x0 then g_X4_canDie_29  else if 100 < (x1 - x0) then g_X4_canDie_29  else g_X4_canDie_25 
set_option maxRecDepth 100000 in
set_option maxHeartbeats 4000000 in
theorem t_X4_canDie  (x0 : Int32) (x1 : Int32) {r : Int32} (hf : f_X4_canDie x0 x1 = some r) : Ci l G 2 0 0 yX4_canDie cX4_canDie 2 .boolean [.int x0, .int x1] ws r ws := by
  refine Ci.of (by decide) (Nat.le_of_ble_eq_true rfl) (fun Y hX hQ => ?_)
  refine j_lv (lv' := [(0, .int x0), (1, .int x1)]) rfl ?_
  unfold f_X4_canDie at hf
  refine j_iload_n hX dX4_canDie_0 1 rfl 1 rfl rfl ?_
  refine j_iconst (v := (-1)) hX dX4_canDie_1 2 rfl (by decide) ?_
  refine j_icmp_eq hX dX4_canDie_2 5 25 rfl rfl (fun h1 => ?_) (fun h1 => ?_)
  · replace hf := itt h1 hf
    refine j_sub [] rfl ?_
    exact t_X4_canDie_25 hX hQ    hf
  · replace hf := itf h1 hf
    refine j_iload_n hX dX4_canDie_5 6 rfl 1 rfl rfl ?_
    obtain ⟨v3, hv3, hf⟩ := ibd hf
    refine z_ni (As := [.int x1]) (rest := []) hX dX4_canDie_6 9 rfl (t_X10_isYear x1 hv3) mc_X10_isYear ms_X10_isYear mn_X4_41 (Nat.le_of_ble_eq_true rfl) (Nat.le_refl _) (Nat.le_refl _) rfl (Nat.le_of_ble_eq_true rfl) ?_
    refine j_if_eq hX dX4_canDie_9 12 29 rfl rfl (fun h4 => ?_) (fun h4 => ?_)
    · replace hf := itt h4 hf
      refine j_sub [] rfl ?_
      exact t_X4_canDie_29 hX hQ    hf
    · replace hf := itf h4 hf
      refine j_iload_n hX dX4_canDie_12 13 rfl 1 rfl rfl ?_
      refine j_iload_n hX dX4_canDie_13 14 rfl 0 rfl rfl ?_
      refine j_icmp_lt hX dX4_canDie_14 17 29 rfl rfl (fun h5 => ?_) (fun h5 => ?_)
      · replace hf := itt h5 hf
        refine j_sub [] rfl ?_
        exact t_X4_canDie_29 hX hQ    hf
      · replace hf := itf h5 hf
        refine j_iload_n hX dX4_canDie_17 18 rfl 1 rfl rfl ?_
        refine j_iload_n hX dX4_canDie_18 19 rfl 0 rfl rfl ?_
        refine j_isub hX dX4_canDie_19 20 rfl ?_
        refine j_bipush (v := 100) hX dX4_canDie_20 22 rfl (by decide) ?_
        refine j_icmp_gt hX dX4_canDie_22 25 29 rfl rfl (fun h6 => ?_) (fun h6 => ?_)
        · replace hf := itt h6 hf
          refine j_sub [] rfl ?_
          exact t_X4_canDie_29 hX hQ    hf
        · replace hf := itf h6 hf
          refine j_sub [] rfl ?_
          exact t_X4_canDie_25 hX hQ    hf
def g_X4_add_24 (p_female : Nat → Int32) (p_born : Nat → Int32) (p_toldDeath : Nat → Int32) (p_lastYear : Nat → Int32) (p_father : Nat → Int32) (p_mother : Nat → Int32) (p_size : Int32) : Option (Int32 × (Nat → Int32) × (Nat → Int32) × (Nat → Int32) × (Nat → Int32) × (Nat → Int32) × (Nat → Int32) × Int32) :=
  some ((-1), p_female, p_born, p_toldDeath, p_lastYear, p_father, p_mother, p_size)
set_option maxRecDepth 100000 in
set_option maxHeartbeats 4000000 in
theorem t_X4_add_24 {Y : YT} {r : Int32 × (Nat → Int32) × (Nat → Int32) × (Nat → Int32) × (Nat → Int32) × (Nat → Int32) × (Nat → Int32) × Int32}  (hX : CX l G cX4_add 5 RX4 Y) (hQ : EQi G Y 0 0 .int r.1 (WB G r.2.1 r.2.2.1 r.2.2.2.1 r.2.2.2.2.1 r.2.2.2.2.2.1 r.2.2.2.2.2.2.1 p_fatherGrade p_motherGrade r.2.2.2.2.2.2.2 g_holder g_arms g_from g_size r_marks r_arms r_root r_steps r_grade r_marksAboveOne q_rows q_sizes t_bytes t_length s_tokens s_starts s_size a_code a_codeSize a_at a_token a_fault a_place o_texts o_names o_operands o_size o_open o_refuses o_differs o_fees c_years c_rows c_size x_faultPlace ++ fr))   (hf : g_X4_add_24 p_female p_born p_toldDeath p_lastYear p_father p_mother p_size = some r) : J l G (rmD 3 0 0) Y 0 0 24 [] [] (WB G p_female p_born p_toldDeath p_lastYear p_father p_mother p_fatherGrade p_motherGrade p_size g_holder g_arms g_from g_size r_marks r_arms r_root r_steps r_grade r_marksAboveOne q_rows q_sizes t_bytes t_length s_tokens s_starts s_size a_code a_codeSize a_at a_token a_fault a_place o_texts o_names o_operands o_size o_open o_refuses o_differs o_fees c_years c_rows c_size x_faultPlace ++ fr) := by
  unfold g_X4_add_24 at hf
  refine j_iconst (v := (-1)) hX dX4_add_24 25 rfl (by decide) ?_
  replace hf := Option.some.inj hf
  subst hf
  exact j_iret hX hQ dX4_add_25
def g_X4_add_75 (p_female : Nat → Int32) (p_born : Nat → Int32) (p_toldDeath : Nat → Int32) (p_lastYear : Nat → Int32) (p_father : Nat → Int32) (p_mother : Nat → Int32) (x4 : Int32) (s0 : Int32) (s1 : Int32) : Option (Int32 × (Nat → Int32) × (Nat → Int32) × (Nat → Int32) × (Nat → Int32) × (Nat → Int32) × (Nat → Int32) × Int32) :=
  if inb s1 60 = true then if inb x4 60 = true then if inb x4 60 = true then some (x4, p_female, p_born, p_toldDeath, upd p_lastYear (Int32.toNatClampNeg s1) s0, upd p_father (Int32.toNatClampNeg x4) ((-1)), upd p_mother (Int32.toNatClampNeg x4) ((-1)), x4 + 1) else none else none else none
set_option maxRecDepth 100000 in
set_option maxHeartbeats 4000000 in
theorem t_X4_add_75 {Y : YT} {r : Int32 × (Nat → Int32) × (Nat → Int32) × (Nat → Int32) × (Nat → Int32) × (Nat → Int32) × (Nat → Int32) × Int32}  (hX : CX l G cX4_add 5 RX4 Y) (hQ : EQi G Y 0 0 .int r.1 (WB G r.2.1 r.2.2.1 r.2.2.2.1 r.2.2.2.2.1 r.2.2.2.2.2.1 r.2.2.2.2.2.2.1 p_fatherGrade p_motherGrade r.2.2.2.2.2.2.2 g_holder g_arms g_from g_size r_marks r_arms r_root r_steps r_grade r_marksAboveOne q_rows q_sizes t_bytes t_length s_tokens s_starts s_size a_code a_codeSize a_at a_token a_fault a_place o_texts o_names o_operands o_size o_open o_refuses o_differs o_fees c_years c_rows c_size x_faultPlace ++ fr))  (x4 : Int32) (s0 : Int32) (s1 : Int32) (hf : g_X4_add_75 p_female p_born p_toldDeath p_lastYear p_father p_mother x4 s0 s1 = some r) : J l G (rmD 3 0 0) Y 0 0 75 [(0, .ref (gb G 1)), (4, .int x4)] [.int s0, .int s1, .ref (gb G 5)] (WB G p_female p_born p_toldDeath p_lastYear p_father p_mother p_fatherGrade p_motherGrade p_size g_holder g_arms g_from g_size r_marks r_arms r_root r_steps r_grade r_marksAboveOne q_rows q_sizes t_bytes t_length s_tokens s_starts s_size a_code a_codeSize a_at a_token a_fault a_place o_texts o_names o_operands o_size o_open o_refuses o_differs o_fees c_years c_rows c_size x_faultPlace ++ fr) := by
  unfold g_X4_add_75 at hf
  obtain ⟨hb10, hf⟩ := ign hf
  refine j_iast hX dX4_add_75 76 rfl 5 rfl hb10 (ws' := (WB G p_female p_born p_toldDeath (upd p_lastYear (Int32.toNatClampNeg s1) s0) p_father p_mother p_fatherGrade p_motherGrade p_size g_holder g_arms g_from g_size r_marks r_arms r_root r_steps r_grade r_marksAboveOne q_rows q_sizes t_bytes t_length s_tokens s_starts s_size a_code a_codeSize a_at a_token a_fault a_place o_texts o_names o_operands o_size o_open o_refuses o_differs o_fees c_years c_rows c_size x_faultPlace ++ fr)) rfl ?_
  refine j_aload_n hX dX4_add_76 77 rfl 0 rfl rfl ?_
  refine j_get hX dX4_add_77 80 rfl fg_X4_25 1 rfl rfl ?_
  refine j_iload hX dX4_add_80 82 rfl 1 rfl ?_
  refine j_iconst (v := (-1)) hX dX4_add_82 83 rfl (by decide) ?_
  obtain ⟨hb11, hf⟩ := ign hf
  refine j_iast hX dX4_add_83 84 rfl 6 rfl hb11 (ws' := (WB G p_female p_born p_toldDeath (upd p_lastYear (Int32.toNatClampNeg s1) s0) (upd p_father (Int32.toNatClampNeg x4) ((-1))) p_mother p_fatherGrade p_motherGrade p_size g_holder g_arms g_from g_size r_marks r_arms r_root r_steps r_grade r_marksAboveOne q_rows q_sizes t_bytes t_length s_tokens s_starts s_size a_code a_codeSize a_at a_token a_fault a_place o_texts o_names o_operands o_size o_open o_refuses o_differs o_fees c_years c_rows c_size x_faultPlace ++ fr)) rfl ?_
  refine j_aload_n hX dX4_add_84 85 rfl 0 rfl rfl ?_
  refine j_get hX dX4_add_85 88 rfl fg_X4_28 1 rfl rfl ?_
  refine j_iload hX dX4_add_88 90 rfl 1 rfl ?_
  refine j_iconst (v := (-1)) hX dX4_add_90 91 rfl (by decide) ?_
  obtain ⟨hb12, hf⟩ := ign hf
  refine j_iast hX dX4_add_91 92 rfl 7 rfl hb12 (ws' := (WB G p_female p_born p_toldDeath (upd p_lastYear (Int32.toNatClampNeg s1) s0) (upd p_father (Int32.toNatClampNeg x4) ((-1))) (upd p_mother (Int32.toNatClampNeg x4) ((-1))) p_fatherGrade p_motherGrade p_size g_holder g_arms g_from g_size r_marks r_arms r_root r_steps r_grade r_marksAboveOne q_rows q_sizes t_bytes t_length s_tokens s_starts s_size a_code a_codeSize a_at a_token a_fault a_place o_texts o_names o_operands o_size o_open o_refuses o_differs o_fees c_years c_rows c_size x_faultPlace ++ fr)) rfl ?_
  refine j_aload_n hX dX4_add_92 93 rfl 0 rfl rfl ?_
  refine j_iload hX dX4_add_93 95 rfl 1 rfl ?_
  refine j_iconst (v := 1) hX dX4_add_95 96 rfl (by decide) ?_
  refine j_iadd hX dX4_add_96 97 rfl ?_
  refine j_put hX dX4_add_97 100 rfl fg_X4_37 ft_X4_8 1 rfl rfl rfl (Nat.le_of_ble_eq_true rfl) (ws' := (WB G p_female p_born p_toldDeath (upd p_lastYear (Int32.toNatClampNeg s1) s0) (upd p_father (Int32.toNatClampNeg x4) ((-1))) (upd p_mother (Int32.toNatClampNeg x4) ((-1))) p_fatherGrade p_motherGrade (x4 + 1) g_holder g_arms g_from g_size r_marks r_arms r_root r_steps r_grade r_marksAboveOne q_rows q_sizes t_bytes t_length s_tokens s_starts s_size a_code a_codeSize a_at a_token a_fault a_place o_texts o_names o_operands o_size o_open o_refuses o_differs o_fees c_years c_rows c_size x_faultPlace ++ fr)) rfl ?_
  refine j_iload hX dX4_add_100 102 rfl 1 rfl ?_
  replace hf := Option.some.inj hf
  subst hf
  exact j_iret hX hQ dX4_add_102
def f_X4_add (p_female : Nat → Int32) (p_born : Nat → Int32) (p_toldDeath : Nat → Int32) (p_lastYear : Nat → Int32) (p_father : Nat → Int32) (p_mother : Nat → Int32) (p_size : Int32) (x1 : Int32) (x2 : Int32) (x3 : Int32) : Option (Int32 × (Nat → Int32) × (Nat → Int32) × (Nat → Int32) × (Nat → Int32) × (Nat → Int32) × (Nat → Int32) × Int32) :=
  if 60 ≤ p_size then g_X4_add_24 p_female p_born p_toldDeath p_lastYear p_father p_mother p_size else (f_X10_isYear x2).bind fun v2 => if v2 = 0 then g_X4_add_24 p_female p_born p_toldDeath p_lastYear p_father p_mother p_size else (f_X4_canDie x2 x3).bind fun v4 => if v4 = 0 then g_X4_add_24 p_female p_born p_toldDeath p_lastYear p_father p_mother p_size else if inb p_size 60 = true then if inb p_size 60 = true then if inb p_size 60 = true then if x3 = ((-1)) then g_X4_add_75 (upd p_female (Int32.toNatClampNeg p_size) (vp_nar .boolean x1)) (upd p_born (Int32.toNatClampNeg p_size) x2) (upd p_toldDeath (Int32.toNatClampNeg p_size) x3) p_lastYear p_father p_mother p_size (x2 + 100) p_size else g_X4_add_75 (upd p_female (Int32.toNatClampNeg p_size) (vp_nar .boolean x1)) (upd p_born (Int32.toNatClampNeg p_size) x2) (upd p_toldDeath (Int32.toNatClampNeg p_size) x3) p_lastYear p_father p_mother p_size x3 p_size else none else none else none
set_option maxRecDepth 100000 in
set_option maxHeartbeats 4000000 in
theorem t_X4_add  (x1 : Int32) (x2 : Int32) (x3 : Int32) {r : Int32 × (Nat → Int32) × (Nat → Int32) × (Nat → Int32) × (Nat → Int32) × (Nat → Int32) × (Nat → Int32) × Int32} (hf : f_X4_add p_female p_born p_toldDeath p_lastYear p_father p_mother p_size x1 x2 x3 = some r) : Ci l G 3 0 0 yX4_add cX4_add 5 .int [.ref (gb G 1), .int x1, .int x2, .int x3] (WB G p_female p_born p_toldDeath p_lastYear p_father p_mother p_fatherGrade p_motherGrade p_size g_holder g_arms g_from g_size r_marks r_arms r_root r_steps r_grade r_marksAboveOne q_rows q_sizes t_bytes t_length s_tokens s_starts s_size a_code a_codeSize a_at a_token a_fault a_place o_texts o_names o_operands o_size o_open o_refuses o_differs o_fees c_years c_rows c_size x_faultPlace ++ fr) r.1 (WB G r.2.1 r.2.2.1 r.2.2.2.1 r.2.2.2.2.1 r.2.2.2.2.2.1 r.2.2.2.2.2.2.1 p_fatherGrade p_motherGrade r.2.2.2.2.2.2.2 g_holder g_arms g_from g_size r_marks r_arms r_root r_steps r_grade r_marksAboveOne q_rows q_sizes t_bytes t_length s_tokens s_starts s_size a_code a_codeSize a_at a_token a_fault a_place o_texts o_names o_operands o_size o_open o_refuses o_differs o_fees c_years c_rows c_size x_faultPlace ++ fr) := by
  refine Ci.of (by decide) (Nat.le_of_ble_eq_true rfl) (fun Y hX hQ => ?_)
  refine j_lv (lv' := [(0, .ref (gb G 1)), (1, .int x1), (2, .int x2), (3, .int x3)]) rfl ?_
  unfold f_X4_add at hf
  refine j_aload_n hX dX4_add_0 1 rfl 0 rfl rfl ?_
  refine j_get hX dX4_add_1 4 rfl fg_X4_37 1 rfl rfl ?_
  refine j_bipush (v := 60) hX dX4_add_4 6 rfl (by decide) ?_
  refine j_icmp_ge hX dX4_add_6 9 24 rfl rfl (fun h1 => ?_) (fun h1 => ?_)
  · replace hf := itt h1 hf
    refine j_sub [] rfl ?_
    exact t_X4_add_24 hX hQ    hf
  · replace hf := itf h1 hf
    refine j_iload_n hX dX4_add_9 10 rfl 2 rfl rfl ?_
    obtain ⟨v2, hv2, hf⟩ := ibd hf
    refine z_ni (As := [.int x2]) (rest := []) hX dX4_add_10 13 rfl (t_X10_isYear x2 hv2) mc_X10_isYear ms_X10_isYear mn_X4_41 (Nat.le_of_ble_eq_true rfl) (Nat.le_refl _) (Nat.le_refl _) rfl (Nat.le_of_ble_eq_true rfl) ?_
    refine j_if_eq hX dX4_add_13 16 24 rfl rfl (fun h3 => ?_) (fun h3 => ?_)
    · replace hf := itt h3 hf
      refine j_sub [] rfl ?_
      exact t_X4_add_24 hX hQ    hf
    · replace hf := itf h3 hf
      refine j_iload_n hX dX4_add_16 17 rfl 2 rfl rfl ?_
      refine j_iload_n hX dX4_add_17 18 rfl 3 rfl rfl ?_
      obtain ⟨v4, hv4, hf⟩ := ibd hf
      refine z_si (As := [.int x2, .int x3]) (rest := []) hX dX4_add_18 21 rfl (t_X4_canDie x2 x3 hv4) mc_X4_canDie ms_X4_canDie ml_X4_45 (Nat.le_of_ble_eq_true rfl) (Nat.le_refl _) (Nat.le_refl _) rfl (Nat.le_of_ble_eq_true rfl) ?_
      refine j_if_ne hX dX4_add_21 24 26 rfl rfl (fun h5 => ?_) (fun h5 => ?_)
      · replace hf := itf h5 hf
        refine j_aload_n hX dX4_add_26 27 rfl 0 rfl rfl ?_
        refine j_get hX dX4_add_27 30 rfl fg_X4_37 1 rfl rfl ?_
        refine j_istore hX dX4_add_30 32 rfl (by decide) (lv' := [(4, .int p_size), (0, .ref (gb G 1)), (1, .int x1), (2, .int x2), (3, .int x3)]) rfl ?_
        refine j_aload_n hX dX4_add_32 33 rfl 1 rfl rfl ?_
        refine j_get hX dX4_add_33 36 rfl fg_X4_11 1 rfl rfl ?_
        refine j_iload hX dX4_add_36 38 rfl 0 rfl ?_
        refine j_iload_n hX dX4_add_38 39 rfl 2 rfl rfl ?_
        obtain ⟨hb6, hf⟩ := ign hf
        refine j_zast hX dX4_add_39 40 rfl 2 rfl hb6 (ws' := (WB G (upd p_female (Int32.toNatClampNeg p_size) (vp_nar .boolean x1)) p_born p_toldDeath p_lastYear p_father p_mother p_fatherGrade p_motherGrade p_size g_holder g_arms g_from g_size r_marks r_arms r_root r_steps r_grade r_marksAboveOne q_rows q_sizes t_bytes t_length s_tokens s_starts s_size a_code a_codeSize a_at a_token a_fault a_place o_texts o_names o_operands o_size o_open o_refuses o_differs o_fees c_years c_rows c_size x_faultPlace ++ fr)) rfl ?_
        refine j_aload_n hX dX4_add_40 41 rfl 1 rfl rfl ?_
        refine j_get hX dX4_add_41 44 rfl fg_X4_15 1 rfl rfl ?_
        refine j_iload hX dX4_add_44 46 rfl 0 rfl ?_
        refine j_iload_n hX dX4_add_46 47 rfl 3 rfl rfl ?_
        obtain ⟨hb7, hf⟩ := ign hf
        refine j_iast hX dX4_add_47 48 rfl 3 rfl hb7 (ws' := (WB G (upd p_female (Int32.toNatClampNeg p_size) (vp_nar .boolean x1)) (upd p_born (Int32.toNatClampNeg p_size) x2) p_toldDeath p_lastYear p_father p_mother p_fatherGrade p_motherGrade p_size g_holder g_arms g_from g_size r_marks r_arms r_root r_steps r_grade r_marksAboveOne q_rows q_sizes t_bytes t_length s_tokens s_starts s_size a_code a_codeSize a_at a_token a_fault a_place o_texts o_names o_operands o_size o_open o_refuses o_differs o_fees c_years c_rows c_size x_faultPlace ++ fr)) rfl ?_
        refine j_aload_n hX dX4_add_48 49 rfl 1 rfl rfl ?_
        refine j_get hX dX4_add_49 52 rfl fg_X4_19 1 rfl rfl ?_
        refine j_iload hX dX4_add_52 54 rfl 0 rfl ?_
        refine j_iload_n hX dX4_add_54 55 rfl 4 rfl rfl ?_
        obtain ⟨hb8, hf⟩ := ign hf
        refine j_iast hX dX4_add_55 56 rfl 4 rfl hb8 (ws' := (WB G (upd p_female (Int32.toNatClampNeg p_size) (vp_nar .boolean x1)) (upd p_born (Int32.toNatClampNeg p_size) x2) (upd p_toldDeath (Int32.toNatClampNeg p_size) x3) p_lastYear p_father p_mother p_fatherGrade p_motherGrade p_size g_holder g_arms g_from g_size r_marks r_arms r_root r_steps r_grade r_marksAboveOne q_rows q_sizes t_bytes t_length s_tokens s_starts s_size a_code a_codeSize a_at a_token a_fault a_place o_texts o_names o_operands o_size o_open o_refuses o_differs o_fees c_years c_rows c_size x_faultPlace ++ fr)) rfl ?_
        refine j_aload_n hX dX4_add_56 57 rfl 1 rfl rfl ?_
        refine j_get hX dX4_add_57 60 rfl fg_X4_22 1 rfl rfl ?_
        refine j_iload hX dX4_add_60 62 rfl 0 rfl ?_
        refine j_iload_n hX dX4_add_62 63 rfl 4 rfl rfl ?_
        refine j_iconst (v := (-1)) hX dX4_add_63 64 rfl (by decide) ?_
        refine j_icmp_ne hX dX4_add_64 67 74 rfl rfl (fun h9 => ?_) (fun h9 => ?_)
        · replace hf := itf h9 hf
          refine j_iload_n hX dX4_add_74 75 rfl 4 rfl rfl ?_
          refine j_sub [1, 0] rfl ?_
          exact t_X4_add_75 hX hQ   p_size x3 p_size hf
        · replace hf := itt h9 hf
          refine j_iload_n hX dX4_add_67 68 rfl 3 rfl rfl ?_
          refine j_bipush (v := 100) hX dX4_add_68 70 rfl (by decide) ?_
          refine j_iadd hX dX4_add_70 71 rfl ?_
          refine j_goto hX dX4_add_71 75 rfl ?_
          refine j_sub [1, 0] rfl ?_
          exact t_X4_add_75 hX hQ   p_size (x2 + 100) p_size hf
      · replace hf := itt h5 hf
        refine j_sub [] rfl ?_
        exact t_X4_add_24 hX hQ    hf
def g_X4_isGrade_16 (s0 : Int32) : Option (Int32) :=
  if isB s0 = true then some s0 else none
set_option maxRecDepth 100000 in
set_option maxHeartbeats 4000000 in
theorem t_X4_isGrade_16 {Y : YT} {r : Int32}  (hX : CX l G cX4_isGrade 1 RX4 Y) (hQ : EQi G Y 0 0 .boolean r ws)  (s0 : Int32) (hf : g_X4_isGrade_16 s0 = some r) : J l G (rmD 1 0 0) Y 0 0 16 [] [.int s0] ws := by
  unfold g_X4_isGrade_16 at hf
  obtain ⟨hb2, hf⟩ := ign hf
  replace hf := Option.some.inj hf
  subst hf
  exact j_zret hX hQ hb2 dX4_isGrade_16
def g_X4_isGrade_15  : Option (Int32) :=
  g_X4_isGrade_16 0
set_option maxRecDepth 100000 in
set_option maxHeartbeats 4000000 in
theorem t_X4_isGrade_15 {Y : YT} {r : Int32}  (hX : CX l G cX4_isGrade 1 RX4 Y) (hQ : EQi G Y 0 0 .boolean r ws)   (hf : g_X4_isGrade_15  = some r) : J l G (rmD 1 0 0) Y 0 0 15 [] [] ws := by
  unfold g_X4_isGrade_15 at hf
  refine j_iconst (v := 0) hX dX4_isGrade_15 16 rfl (by decide) ?_
  exact t_X4_isGrade_16 hX hQ   0 hf
def f_X4_isGrade (x0 : Int32) : Option (Int32) :=
  if x0 < 1 then g_X4_isGrade_15  else if 9 < x0 then g_X4_isGrade_15  else g_X4_isGrade_16 1
set_option maxRecDepth 100000 in
set_option maxHeartbeats 4000000 in
theorem t_X4_isGrade  (x0 : Int32) {r : Int32} (hf : f_X4_isGrade x0 = some r) : Ci l G 1 0 0 yX4_isGrade cX4_isGrade 1 .boolean [.int x0] ws r ws := by
  refine Ci.of (by decide) (Nat.le_of_ble_eq_true rfl) (fun Y hX hQ => ?_)
  refine j_lv (lv' := [(0, .int x0)]) rfl ?_
  unfold f_X4_isGrade at hf
  refine j_iload_n hX dX4_isGrade_0 1 rfl 0 rfl rfl ?_
  refine j_iconst (v := 1) hX dX4_isGrade_1 2 rfl (by decide) ?_
  refine j_icmp_lt hX dX4_isGrade_2 5 15 rfl rfl (fun h1 => ?_) (fun h1 => ?_)
  · replace hf := itt h1 hf
    refine j_sub [] rfl ?_
    exact t_X4_isGrade_15 hX hQ    hf
  · replace hf := itf h1 hf
    refine j_iload_n hX dX4_isGrade_5 6 rfl 0 rfl rfl ?_
    refine j_bipush (v := 9) hX dX4_isGrade_6 8 rfl (by decide) ?_
    refine j_icmp_gt hX dX4_isGrade_8 11 15 rfl rfl (fun h3 => ?_) (fun h3 => ?_)
    · replace hf := itt h3 hf
      refine j_sub [] rfl ?_
      exact t_X4_isGrade_15 hX hQ    hf
    · replace hf := itf h3 hf
      refine j_iconst (v := 1) hX dX4_isGrade_11 12 rfl (by decide) ?_
      refine j_goto hX dX4_isGrade_12 16 rfl ?_
      refine j_sub [] rfl ?_
      exact t_X4_isGrade_16 hX hQ   1 hf
def g_X4_canBeFather_70 (s0 : Int32) : Option (Int32) :=
  if isB s0 = true then some s0 else none
set_option maxRecDepth 100000 in
set_option maxHeartbeats 4000000 in
theorem t_X4_canBeFather_70 {Y : YT} {r : Int32}  (hX : CX l G cX4_canBeFather 3 RX4 Y) (hQ : EQi G Y 0 0 .boolean r (WB G p_female p_born p_toldDeath p_lastYear p_father p_mother p_fatherGrade p_motherGrade p_size g_holder g_arms g_from g_size r_marks r_arms r_root r_steps r_grade r_marksAboveOne q_rows q_sizes t_bytes t_length s_tokens s_starts s_size a_code a_codeSize a_at a_token a_fault a_place o_texts o_names o_operands o_size o_open o_refuses o_differs o_fees c_years c_rows c_size x_faultPlace ++ fr))  (s0 : Int32) (hf : g_X4_canBeFather_70 s0 = some r) : J l G (rmD 2 0 0) Y 0 0 70 [] [.int s0] (WB G p_female p_born p_toldDeath p_lastYear p_father p_mother p_fatherGrade p_motherGrade p_size g_holder g_arms g_from g_size r_marks r_arms r_root r_steps r_grade r_marksAboveOne q_rows q_sizes t_bytes t_length s_tokens s_starts s_size a_code a_codeSize a_at a_token a_fault a_place o_texts o_names o_operands o_size o_open o_refuses o_differs o_fees c_years c_rows c_size x_faultPlace ++ fr) := by
  unfold g_X4_canBeFather_70 at hf
  obtain ⟨hb3, hf⟩ := ign hf
  replace hf := Option.some.inj hf
  subst hf
  exact j_zret hX hQ hb3 dX4_canBeFather_70
def g_X4_canBeFather_69  : Option (Int32) :=
  g_X4_canBeFather_70 0
set_option maxRecDepth 100000 in
set_option maxHeartbeats 4000000 in
theorem t_X4_canBeFather_69 {Y : YT} {r : Int32}  (hX : CX l G cX4_canBeFather 3 RX4 Y) (hQ : EQi G Y 0 0 .boolean r (WB G p_female p_born p_toldDeath p_lastYear p_father p_mother p_fatherGrade p_motherGrade p_size g_holder g_arms g_from g_size r_marks r_arms r_root r_steps r_grade r_marksAboveOne q_rows q_sizes t_bytes t_length s_tokens s_starts s_size a_code a_codeSize a_at a_token a_fault a_place o_texts o_names o_operands o_size o_open o_refuses o_differs o_fees c_years c_rows c_size x_faultPlace ++ fr))   (hf : g_X4_canBeFather_69  = some r) : J l G (rmD 2 0 0) Y 0 0 69 [] [] (WB G p_female p_born p_toldDeath p_lastYear p_father p_mother p_fatherGrade p_motherGrade p_size g_holder g_arms g_from g_size r_marks r_arms r_root r_steps r_grade r_marksAboveOne q_rows q_sizes t_bytes t_length s_tokens s_starts s_size a_code a_codeSize a_at a_token a_fault a_place o_texts o_names o_operands o_size o_open o_refuses o_differs o_fees c_years c_rows c_size x_faultPlace ++ fr) := by
  unfold g_X4_canBeFather_69 at hf
  refine j_iconst (v := 0) hX dX4_canBeFather_69 70 rfl (by decide) ?_
  exact t_X4_canBeFather_70 hX hQ   0 hf
def f_X4_canBeFather (p_female : Nat → Int32) (p_born : Nat → Int32) (p_lastYear : Nat → Int32) (p_size : Int32) (x1 : Int32) (x2 : Int32) : Option (Int32) :=
  (f_X4_has p_size x1).bind fun v1 => if v1 = 0 then g_X4_canBeFather_69  else (f_X4_has p_size x2).bind fun v4 => if v4 = 0 then g_X4_canBeFather_69  else if x1 ≤ x2 then g_X4_canBeFather_69  else if inb x2 60 = true then if (p_female (Int32.toNatClampNeg x2)) = 0 then if inb x1 60 = true then if inb x2 60 = true then if ((p_born (Int32.toNatClampNeg x1)) - (p_born (Int32.toNatClampNeg x2))) < 14 then g_X4_canBeFather_69  else if inb x2 60 = true then if inb x1 60 = true then if (p_lastYear (Int32.toNatClampNeg x2)) < ((p_born (Int32.toNatClampNeg x1)) - 1) then g_X4_canBeFather_69  else g_X4_canBeFather_70 1 else none else none else none else none else g_X4_canBeFather_69  else none
set_option maxRecDepth 100000 in
set_option maxHeartbeats 4000000 in
theorem t_X4_canBeFather  (x1 : Int32) (x2 : Int32) {r : Int32} (hf : f_X4_canBeFather p_female p_born p_lastYear p_size x1 x2 = some r) : Ci l G 2 0 0 yX4_canBeFather cX4_canBeFather 3 .boolean [.ref (gb G 1), .int x1, .int x2] (WB G p_female p_born p_toldDeath p_lastYear p_father p_mother p_fatherGrade p_motherGrade p_size g_holder g_arms g_from g_size r_marks r_arms r_root r_steps r_grade r_marksAboveOne q_rows q_sizes t_bytes t_length s_tokens s_starts s_size a_code a_codeSize a_at a_token a_fault a_place o_texts o_names o_operands o_size o_open o_refuses o_differs o_fees c_years c_rows c_size x_faultPlace ++ fr) r (WB G p_female p_born p_toldDeath p_lastYear p_father p_mother p_fatherGrade p_motherGrade p_size g_holder g_arms g_from g_size r_marks r_arms r_root r_steps r_grade r_marksAboveOne q_rows q_sizes t_bytes t_length s_tokens s_starts s_size a_code a_codeSize a_at a_token a_fault a_place o_texts o_names o_operands o_size o_open o_refuses o_differs o_fees c_years c_rows c_size x_faultPlace ++ fr) := by
  refine Ci.of (by decide) (Nat.le_of_ble_eq_true rfl) (fun Y hX hQ => ?_)
  refine j_lv (lv' := [(0, .ref (gb G 1)), (1, .int x1), (2, .int x2)]) rfl ?_
  unfold f_X4_canBeFather at hf
  refine j_aload_n hX dX4_canBeFather_0 1 rfl 0 rfl rfl ?_
  refine j_iload_n hX dX4_canBeFather_1 2 rfl 1 rfl rfl ?_
  obtain ⟨v1, hv1, hf⟩ := ibd hf
  refine z_i (As := [.int x1]) (rest := []) (q0 := 1) hX dX4_canBeFather_2 5 rfl (t_X4_has x1 hv1) mc_X4_has mv_X4_has ml_X4_58 rfl rfl (Nat.le_of_ble_eq_true rfl) (Nat.le_refl _) (Nat.le_refl _) rfl (Nat.le_of_ble_eq_true rfl) ?_
  refine j_if_eq hX dX4_canBeFather_5 8 69 rfl rfl (fun h2 => ?_) (fun h2 => ?_)
  · replace hf := itt h2 hf
    refine j_sub [] rfl ?_
    exact t_X4_canBeFather_69 hX hQ    hf
  · replace hf := itf h2 hf
    refine j_aload_n hX dX4_canBeFather_8 9 rfl 0 rfl rfl ?_
    refine j_iload_n hX dX4_canBeFather_9 10 rfl 2 rfl rfl ?_
    obtain ⟨v4, hv4, hf⟩ := ibd hf
    refine z_i (As := [.int x2]) (rest := []) (q0 := 1) hX dX4_canBeFather_10 13 rfl (t_X4_has x2 hv4) mc_X4_has mv_X4_has ml_X4_58 rfl rfl (Nat.le_of_ble_eq_true rfl) (Nat.le_refl _) (Nat.le_refl _) rfl (Nat.le_of_ble_eq_true rfl) ?_
    refine j_if_eq hX dX4_canBeFather_13 16 69 rfl rfl (fun h5 => ?_) (fun h5 => ?_)
    · replace hf := itt h5 hf
      refine j_sub [] rfl ?_
      exact t_X4_canBeFather_69 hX hQ    hf
    · replace hf := itf h5 hf
      refine j_iload_n hX dX4_canBeFather_16 17 rfl 2 rfl rfl ?_
      refine j_iload_n hX dX4_canBeFather_17 18 rfl 1 rfl rfl ?_
      refine j_icmp_ge hX dX4_canBeFather_18 21 69 rfl rfl (fun h6 => ?_) (fun h6 => ?_)
      · replace hf := itt h6 hf
        refine j_sub [] rfl ?_
        exact t_X4_canBeFather_69 hX hQ    hf
      · replace hf := itf h6 hf
        refine j_aload_n hX dX4_canBeFather_21 22 rfl 0 rfl rfl ?_
        refine j_get hX dX4_canBeFather_22 25 rfl fg_X4_11 1 rfl rfl ?_
        refine j_iload_n hX dX4_canBeFather_25 26 rfl 2 rfl rfl ?_
        obtain ⟨hb7, hf⟩ := ign hf
        refine j_zald hX dX4_canBeFather_26 27 rfl 2 rfl hb7 ?_
        refine j_if_ne hX dX4_canBeFather_27 30 69 rfl rfl (fun h8 => ?_) (fun h8 => ?_)
        · replace hf := itf h8 hf
          refine j_sub [] rfl ?_
          exact t_X4_canBeFather_69 hX hQ    hf
        · replace hf := itt h8 hf
          refine j_aload_n hX dX4_canBeFather_30 31 rfl 0 rfl rfl ?_
          refine j_get hX dX4_canBeFather_31 34 rfl fg_X4_15 1 rfl rfl ?_
          refine j_iload_n hX dX4_canBeFather_34 35 rfl 1 rfl rfl ?_
          obtain ⟨hb9, hf⟩ := ign hf
          refine j_iald hX dX4_canBeFather_35 36 rfl 3 rfl hb9 ?_
          refine j_aload_n hX dX4_canBeFather_36 37 rfl 0 rfl rfl ?_
          refine j_get hX dX4_canBeFather_37 40 rfl fg_X4_15 1 rfl rfl ?_
          refine j_iload_n hX dX4_canBeFather_40 41 rfl 2 rfl rfl ?_
          obtain ⟨hb10, hf⟩ := ign hf
          refine j_iald hX dX4_canBeFather_41 42 rfl 3 rfl hb10 ?_
          refine j_isub hX dX4_canBeFather_42 43 rfl ?_
          refine j_bipush (v := 14) hX dX4_canBeFather_43 45 rfl (by decide) ?_
          refine j_icmp_lt hX dX4_canBeFather_45 48 69 rfl rfl (fun h11 => ?_) (fun h11 => ?_)
          · replace hf := itt h11 hf
            refine j_sub [] rfl ?_
            exact t_X4_canBeFather_69 hX hQ    hf
          · replace hf := itf h11 hf
            refine j_aload_n hX dX4_canBeFather_48 49 rfl 0 rfl rfl ?_
            refine j_get hX dX4_canBeFather_49 52 rfl fg_X4_22 1 rfl rfl ?_
            refine j_iload_n hX dX4_canBeFather_52 53 rfl 2 rfl rfl ?_
            obtain ⟨hb12, hf⟩ := ign hf
            refine j_iald hX dX4_canBeFather_53 54 rfl 5 rfl hb12 ?_
            refine j_aload_n hX dX4_canBeFather_54 55 rfl 0 rfl rfl ?_
            refine j_get hX dX4_canBeFather_55 58 rfl fg_X4_15 1 rfl rfl ?_
            refine j_iload_n hX dX4_canBeFather_58 59 rfl 1 rfl rfl ?_
            obtain ⟨hb13, hf⟩ := ign hf
            refine j_iald hX dX4_canBeFather_59 60 rfl 3 rfl hb13 ?_
            refine j_iconst (v := 1) hX dX4_canBeFather_60 61 rfl (by decide) ?_
            refine j_isub hX dX4_canBeFather_61 62 rfl ?_
            refine j_icmp_lt hX dX4_canBeFather_62 65 69 rfl rfl (fun h14 => ?_) (fun h14 => ?_)
            · replace hf := itt h14 hf
              refine j_sub [] rfl ?_
              exact t_X4_canBeFather_69 hX hQ    hf
            · replace hf := itf h14 hf
              refine j_iconst (v := 1) hX dX4_canBeFather_65 66 rfl (by decide) ?_
              refine j_goto hX dX4_canBeFather_66 70 rfl ?_
              refine j_sub [] rfl ?_
              exact t_X4_canBeFather_70 hX hQ   1 hf
def g_X4_tellFather_26 (p_father : Nat → Int32) (p_fatherGrade : Nat → Int32) : Option (Int32 × (Nat → Int32) × (Nat → Int32)) :=
  some (0, p_father, p_fatherGrade)
set_option maxRecDepth 100000 in
set_option maxHeartbeats 4000000 in
theorem t_X4_tellFather_26 {Y : YT} {r : Int32 × (Nat → Int32) × (Nat → Int32)}  (hX : CX l G cX4_tellFather 4 RX4 Y) (hQ : EQi G Y 0 0 .boolean r.1 (WB G p_female p_born p_toldDeath p_lastYear r.2.1 p_mother r.2.2 p_motherGrade p_size g_holder g_arms g_from g_size r_marks r_arms r_root r_steps r_grade r_marksAboveOne q_rows q_sizes t_bytes t_length s_tokens s_starts s_size a_code a_codeSize a_at a_token a_fault a_place o_texts o_names o_operands o_size o_open o_refuses o_differs o_fees c_years c_rows c_size x_faultPlace ++ fr))   (hf : g_X4_tellFather_26 p_father p_fatherGrade = some r) : J l G (rmD 3 0 0) Y 0 0 26 [] [] (WB G p_female p_born p_toldDeath p_lastYear p_father p_mother p_fatherGrade p_motherGrade p_size g_holder g_arms g_from g_size r_marks r_arms r_root r_steps r_grade r_marksAboveOne q_rows q_sizes t_bytes t_length s_tokens s_starts s_size a_code a_codeSize a_at a_token a_fault a_place o_texts o_names o_operands o_size o_open o_refuses o_differs o_fees c_years c_rows c_size x_faultPlace ++ fr) := by
  unfold g_X4_tellFather_26 at hf
  refine j_iconst (v := 0) hX dX4_tellFather_26 27 rfl (by decide) ?_
  replace hf := Option.some.inj hf
  subst hf
  exact j_zret hX hQ rfl dX4_tellFather_27
def f_X4_tellFather (p_female : Nat → Int32) (p_born : Nat → Int32) (p_lastYear : Nat → Int32) (p_size : Int32) (p_father : Nat → Int32) (p_fatherGrade : Nat → Int32) (x1 : Int32) (x2 : Int32) (x3 : Int32) : Option (Int32 × (Nat → Int32) × (Nat → Int32)) :=
  (f_X4_isGrade x3).bind fun v1 => if v1 = 0 then g_X4_tellFather_26 p_father p_fatherGrade else (f_X4_canBeFather p_female p_born p_lastYear p_size x1 x2).bind fun v3 => if v3 = 0 then g_X4_tellFather_26 p_father p_fatherGrade else if inb x1 60 = true then if (p_father (Int32.toNatClampNeg x1)) = ((-1)) then if inb x1 60 = true then if inb x1 60 = true then some (1, upd p_father (Int32.toNatClampNeg x1) x2, upd p_fatherGrade (Int32.toNatClampNeg x1) x3) else none else none else g_X4_tellFather_26 p_father p_fatherGrade else none
set_option maxRecDepth 100000 in
set_option maxHeartbeats 4000000 in
theorem t_X4_tellFather  (x1 : Int32) (x2 : Int32) (x3 : Int32) {r : Int32 × (Nat → Int32) × (Nat → Int32)} (hf : f_X4_tellFather p_female p_born p_lastYear p_size p_father p_fatherGrade x1 x2 x3 = some r) : Ci l G 3 0 0 yX4_tellFather cX4_tellFather 4 .boolean [.ref (gb G 1), .int x1, .int x2, .int x3] (WB G p_female p_born p_toldDeath p_lastYear p_father p_mother p_fatherGrade p_motherGrade p_size g_holder g_arms g_from g_size r_marks r_arms r_root r_steps r_grade r_marksAboveOne q_rows q_sizes t_bytes t_length s_tokens s_starts s_size a_code a_codeSize a_at a_token a_fault a_place o_texts o_names o_operands o_size o_open o_refuses o_differs o_fees c_years c_rows c_size x_faultPlace ++ fr) r.1 (WB G p_female p_born p_toldDeath p_lastYear r.2.1 p_mother r.2.2 p_motherGrade p_size g_holder g_arms g_from g_size r_marks r_arms r_root r_steps r_grade r_marksAboveOne q_rows q_sizes t_bytes t_length s_tokens s_starts s_size a_code a_codeSize a_at a_token a_fault a_place o_texts o_names o_operands o_size o_open o_refuses o_differs o_fees c_years c_rows c_size x_faultPlace ++ fr) := by
  refine Ci.of (by decide) (Nat.le_of_ble_eq_true rfl) (fun Y hX hQ => ?_)
  refine j_lv (lv' := [(0, .ref (gb G 1)), (1, .int x1), (2, .int x2), (3, .int x3)]) rfl ?_
  unfold f_X4_tellFather at hf
  refine j_iload_n hX dX4_tellFather_0 1 rfl 3 rfl rfl ?_
  obtain ⟨v1, hv1, hf⟩ := ibd hf
  refine z_si (As := [.int x3]) (rest := []) hX dX4_tellFather_1 4 rfl (t_X4_isGrade x3 hv1) mc_X4_isGrade ms_X4_isGrade ml_X4_49 (Nat.le_of_ble_eq_true rfl) (Nat.le_refl _) (Nat.le_refl _) rfl (Nat.le_of_ble_eq_true rfl) ?_
  refine j_if_eq hX dX4_tellFather_4 7 26 rfl rfl (fun h2 => ?_) (fun h2 => ?_)
  · replace hf := itt h2 hf
    refine j_sub [] rfl ?_
    exact t_X4_tellFather_26 hX hQ    hf
  · replace hf := itf h2 hf
    refine j_aload_n hX dX4_tellFather_7 8 rfl 0 rfl rfl ?_
    refine j_iload_n hX dX4_tellFather_8 9 rfl 1 rfl rfl ?_
    refine j_iload_n hX dX4_tellFather_9 10 rfl 2 rfl rfl ?_
    obtain ⟨v3, hv3, hf⟩ := ibd hf
    refine z_i (As := [.int x1, .int x2]) (rest := []) (q0 := 1) hX dX4_tellFather_10 13 rfl (t_X4_canBeFather x1 x2 hv3) mc_X4_canBeFather mv_X4_canBeFather ml_X4_52 rfl rfl (Nat.le_of_ble_eq_true rfl) (Nat.le_refl _) (Nat.le_refl _) rfl (Nat.le_of_ble_eq_true rfl) ?_
    refine j_if_eq hX dX4_tellFather_13 16 26 rfl rfl (fun h4 => ?_) (fun h4 => ?_)
    · replace hf := itt h4 hf
      refine j_sub [] rfl ?_
      exact t_X4_tellFather_26 hX hQ    hf
    · replace hf := itf h4 hf
      refine j_aload_n hX dX4_tellFather_16 17 rfl 0 rfl rfl ?_
      refine j_get hX dX4_tellFather_17 20 rfl fg_X4_25 1 rfl rfl ?_
      refine j_iload_n hX dX4_tellFather_20 21 rfl 1 rfl rfl ?_
      obtain ⟨hb5, hf⟩ := ign hf
      refine j_iald hX dX4_tellFather_21 22 rfl 6 rfl hb5 ?_
      refine j_iconst (v := (-1)) hX dX4_tellFather_22 23 rfl (by decide) ?_
      refine j_icmp_eq hX dX4_tellFather_23 26 28 rfl rfl (fun h6 => ?_) (fun h6 => ?_)
      · replace hf := itt h6 hf
        refine j_aload_n hX dX4_tellFather_28 29 rfl 0 rfl rfl ?_
        refine j_get hX dX4_tellFather_29 32 rfl fg_X4_25 1 rfl rfl ?_
        refine j_iload_n hX dX4_tellFather_32 33 rfl 1 rfl rfl ?_
        refine j_iload_n hX dX4_tellFather_33 34 rfl 2 rfl rfl ?_
        obtain ⟨hb7, hf⟩ := ign hf
        refine j_iast hX dX4_tellFather_34 35 rfl 6 rfl hb7 (ws' := (WB G p_female p_born p_toldDeath p_lastYear (upd p_father (Int32.toNatClampNeg x1) x2) p_mother p_fatherGrade p_motherGrade p_size g_holder g_arms g_from g_size r_marks r_arms r_root r_steps r_grade r_marksAboveOne q_rows q_sizes t_bytes t_length s_tokens s_starts s_size a_code a_codeSize a_at a_token a_fault a_place o_texts o_names o_operands o_size o_open o_refuses o_differs o_fees c_years c_rows c_size x_faultPlace ++ fr)) rfl ?_
        refine j_aload_n hX dX4_tellFather_35 36 rfl 0 rfl rfl ?_
        refine j_get hX dX4_tellFather_36 39 rfl fg_X4_31 1 rfl rfl ?_
        refine j_iload_n hX dX4_tellFather_39 40 rfl 1 rfl rfl ?_
        refine j_iload_n hX dX4_tellFather_40 41 rfl 3 rfl rfl ?_
        obtain ⟨hb8, hf⟩ := ign hf
        refine j_iast hX dX4_tellFather_41 42 rfl 8 rfl hb8 (ws' := (WB G p_female p_born p_toldDeath p_lastYear (upd p_father (Int32.toNatClampNeg x1) x2) p_mother (upd p_fatherGrade (Int32.toNatClampNeg x1) x3) p_motherGrade p_size g_holder g_arms g_from g_size r_marks r_arms r_root r_steps r_grade r_marksAboveOne q_rows q_sizes t_bytes t_length s_tokens s_starts s_size a_code a_codeSize a_at a_token a_fault a_place o_texts o_names o_operands o_size o_open o_refuses o_differs o_fees c_years c_rows c_size x_faultPlace ++ fr)) rfl ?_
        refine j_iconst (v := 1) hX dX4_tellFather_42 43 rfl (by decide) ?_
        replace hf := Option.some.inj hf
        subst hf
        exact j_zret hX hQ rfl dX4_tellFather_43
      · replace hf := itf h6 hf
        refine j_sub [] rfl ?_
        exact t_X4_tellFather_26 hX hQ    hf
def g_X4_canBeMother_86 (s0 : Int32) : Option (Int32) :=
  if isB s0 = true then some s0 else none
set_option maxRecDepth 100000 in
set_option maxHeartbeats 4000000 in
theorem t_X4_canBeMother_86 {Y : YT} {r : Int32}  (hX : CX l G cX4_canBeMother 3 RX4 Y) (hQ : EQi G Y 0 0 .boolean r (WB G p_female p_born p_toldDeath p_lastYear p_father p_mother p_fatherGrade p_motherGrade p_size g_holder g_arms g_from g_size r_marks r_arms r_root r_steps r_grade r_marksAboveOne q_rows q_sizes t_bytes t_length s_tokens s_starts s_size a_code a_codeSize a_at a_token a_fault a_place o_texts o_names o_operands o_size o_open o_refuses o_differs o_fees c_years c_rows c_size x_faultPlace ++ fr))  (s0 : Int32) (hf : g_X4_canBeMother_86 s0 = some r) : J l G (rmD 2 0 0) Y 0 0 86 [] [.int s0] (WB G p_female p_born p_toldDeath p_lastYear p_father p_mother p_fatherGrade p_motherGrade p_size g_holder g_arms g_from g_size r_marks r_arms r_root r_steps r_grade r_marksAboveOne q_rows q_sizes t_bytes t_length s_tokens s_starts s_size a_code a_codeSize a_at a_token a_fault a_place o_texts o_names o_operands o_size o_open o_refuses o_differs o_fees c_years c_rows c_size x_faultPlace ++ fr) := by
  unfold g_X4_canBeMother_86 at hf
  obtain ⟨hb3, hf⟩ := ign hf
  replace hf := Option.some.inj hf
  subst hf
  exact j_zret hX hQ hb3 dX4_canBeMother_86
def g_X4_canBeMother_85  : Option (Int32) :=
  g_X4_canBeMother_86 0
set_option maxRecDepth 100000 in
set_option maxHeartbeats 4000000 in
theorem t_X4_canBeMother_85 {Y : YT} {r : Int32}  (hX : CX l G cX4_canBeMother 3 RX4 Y) (hQ : EQi G Y 0 0 .boolean r (WB G p_female p_born p_toldDeath p_lastYear p_father p_mother p_fatherGrade p_motherGrade p_size g_holder g_arms g_from g_size r_marks r_arms r_root r_steps r_grade r_marksAboveOne q_rows q_sizes t_bytes t_length s_tokens s_starts s_size a_code a_codeSize a_at a_token a_fault a_place o_texts o_names o_operands o_size o_open o_refuses o_differs o_fees c_years c_rows c_size x_faultPlace ++ fr))   (hf : g_X4_canBeMother_85  = some r) : J l G (rmD 2 0 0) Y 0 0 85 [] [] (WB G p_female p_born p_toldDeath p_lastYear p_father p_mother p_fatherGrade p_motherGrade p_size g_holder g_arms g_from g_size r_marks r_arms r_root r_steps r_grade r_marksAboveOne q_rows q_sizes t_bytes t_length s_tokens s_starts s_size a_code a_codeSize a_at a_token a_fault a_place o_texts o_names o_operands o_size o_open o_refuses o_differs o_fees c_years c_rows c_size x_faultPlace ++ fr) := by
  unfold g_X4_canBeMother_85 at hf
  refine j_iconst (v := 0) hX dX4_canBeMother_85 86 rfl (by decide) ?_
  exact t_X4_canBeMother_86 hX hQ   0 hf
def f_X4_canBeMother (p_female : Nat → Int32) (p_born : Nat → Int32) (p_lastYear : Nat → Int32) (p_size : Int32) (x1 : Int32) (x2 : Int32) : Option (Int32) :=
  (f_X4_has p_size x1).bind fun v1 => if v1 = 0 then g_X4_canBeMother_85  else (f_X4_has p_size x2).bind fun v4 => if v4 = 0 then g_X4_canBeMother_85  else if x1 ≤ x2 then g_X4_canBeMother_85  else if inb x2 60 = true then if (p_female (Int32.toNatClampNeg x2)) = 0 then g_X4_canBeMother_85  else if inb x1 60 = true then if inb x2 60 = true then if ((p_born (Int32.toNatClampNeg x1)) - (p_born (Int32.toNatClampNeg x2))) < 14 then g_X4_canBeMother_85  else if inb x1 60 = true then if inb x2 60 = true then if 50 < ((p_born (Int32.toNatClampNeg x1)) - (p_born (Int32.toNatClampNeg x2))) then g_X4_canBeMother_85  else if inb x2 60 = true then if inb x1 60 = true then if (p_lastYear (Int32.toNatClampNeg x2)) < (p_born (Int32.toNatClampNeg x1)) then g_X4_canBeMother_85  else g_X4_canBeMother_86 1 else none else none else none else none else none else none else none
set_option maxRecDepth 100000 in
set_option maxHeartbeats 4000000 in
theorem t_X4_canBeMother  (x1 : Int32) (x2 : Int32) {r : Int32} (hf : f_X4_canBeMother p_female p_born p_lastYear p_size x1 x2 = some r) : Ci l G 2 0 0 yX4_canBeMother cX4_canBeMother 3 .boolean [.ref (gb G 1), .int x1, .int x2] (WB G p_female p_born p_toldDeath p_lastYear p_father p_mother p_fatherGrade p_motherGrade p_size g_holder g_arms g_from g_size r_marks r_arms r_root r_steps r_grade r_marksAboveOne q_rows q_sizes t_bytes t_length s_tokens s_starts s_size a_code a_codeSize a_at a_token a_fault a_place o_texts o_names o_operands o_size o_open o_refuses o_differs o_fees c_years c_rows c_size x_faultPlace ++ fr) r (WB G p_female p_born p_toldDeath p_lastYear p_father p_mother p_fatherGrade p_motherGrade p_size g_holder g_arms g_from g_size r_marks r_arms r_root r_steps r_grade r_marksAboveOne q_rows q_sizes t_bytes t_length s_tokens s_starts s_size a_code a_codeSize a_at a_token a_fault a_place o_texts o_names o_operands o_size o_open o_refuses o_differs o_fees c_years c_rows c_size x_faultPlace ++ fr) := by
  refine Ci.of (by decide) (Nat.le_of_ble_eq_true rfl) (fun Y hX hQ => ?_)
  refine j_lv (lv' := [(0, .ref (gb G 1)), (1, .int x1), (2, .int x2)]) rfl ?_
  unfold f_X4_canBeMother at hf
  refine j_aload_n hX dX4_canBeMother_0 1 rfl 0 rfl rfl ?_
  refine j_iload_n hX dX4_canBeMother_1 2 rfl 1 rfl rfl ?_
  obtain ⟨v1, hv1, hf⟩ := ibd hf
  refine z_i (As := [.int x1]) (rest := []) (q0 := 1) hX dX4_canBeMother_2 5 rfl (t_X4_has x1 hv1) mc_X4_has mv_X4_has ml_X4_58 rfl rfl (Nat.le_of_ble_eq_true rfl) (Nat.le_refl _) (Nat.le_refl _) rfl (Nat.le_of_ble_eq_true rfl) ?_
  refine j_if_eq hX dX4_canBeMother_5 8 85 rfl rfl (fun h2 => ?_) (fun h2 => ?_)
  · replace hf := itt h2 hf
    refine j_sub [] rfl ?_
    exact t_X4_canBeMother_85 hX hQ    hf
  · replace hf := itf h2 hf
    refine j_aload_n hX dX4_canBeMother_8 9 rfl 0 rfl rfl ?_
    refine j_iload_n hX dX4_canBeMother_9 10 rfl 2 rfl rfl ?_
    obtain ⟨v4, hv4, hf⟩ := ibd hf
    refine z_i (As := [.int x2]) (rest := []) (q0 := 1) hX dX4_canBeMother_10 13 rfl (t_X4_has x2 hv4) mc_X4_has mv_X4_has ml_X4_58 rfl rfl (Nat.le_of_ble_eq_true rfl) (Nat.le_refl _) (Nat.le_refl _) rfl (Nat.le_of_ble_eq_true rfl) ?_
    refine j_if_eq hX dX4_canBeMother_13 16 85 rfl rfl (fun h5 => ?_) (fun h5 => ?_)
    · replace hf := itt h5 hf
      refine j_sub [] rfl ?_
      exact t_X4_canBeMother_85 hX hQ    hf
    · replace hf := itf h5 hf
      refine j_iload_n hX dX4_canBeMother_16 17 rfl 2 rfl rfl ?_
      refine j_iload_n hX dX4_canBeMother_17 18 rfl 1 rfl rfl ?_
      refine j_icmp_ge hX dX4_canBeMother_18 21 85 rfl rfl (fun h6 => ?_) (fun h6 => ?_)
      · replace hf := itt h6 hf
        refine j_sub [] rfl ?_
        exact t_X4_canBeMother_85 hX hQ    hf
      · replace hf := itf h6 hf
        refine j_aload_n hX dX4_canBeMother_21 22 rfl 0 rfl rfl ?_
        refine j_get hX dX4_canBeMother_22 25 rfl fg_X4_11 1 rfl rfl ?_
        refine j_iload_n hX dX4_canBeMother_25 26 rfl 2 rfl rfl ?_
        obtain ⟨hb7, hf⟩ := ign hf
        refine j_zald hX dX4_canBeMother_26 27 rfl 2 rfl hb7 ?_
        refine j_if_eq hX dX4_canBeMother_27 30 85 rfl rfl (fun h8 => ?_) (fun h8 => ?_)
        · replace hf := itt h8 hf
          refine j_sub [] rfl ?_
          exact t_X4_canBeMother_85 hX hQ    hf
        · replace hf := itf h8 hf
          refine j_aload_n hX dX4_canBeMother_30 31 rfl 0 rfl rfl ?_
          refine j_get hX dX4_canBeMother_31 34 rfl fg_X4_15 1 rfl rfl ?_
          refine j_iload_n hX dX4_canBeMother_34 35 rfl 1 rfl rfl ?_
          obtain ⟨hb9, hf⟩ := ign hf
          refine j_iald hX dX4_canBeMother_35 36 rfl 3 rfl hb9 ?_
          refine j_aload_n hX dX4_canBeMother_36 37 rfl 0 rfl rfl ?_
          refine j_get hX dX4_canBeMother_37 40 rfl fg_X4_15 1 rfl rfl ?_
          refine j_iload_n hX dX4_canBeMother_40 41 rfl 2 rfl rfl ?_
          obtain ⟨hb10, hf⟩ := ign hf
          refine j_iald hX dX4_canBeMother_41 42 rfl 3 rfl hb10 ?_
          refine j_isub hX dX4_canBeMother_42 43 rfl ?_
          refine j_bipush (v := 14) hX dX4_canBeMother_43 45 rfl (by decide) ?_
          refine j_icmp_lt hX dX4_canBeMother_45 48 85 rfl rfl (fun h11 => ?_) (fun h11 => ?_)
          · replace hf := itt h11 hf
            refine j_sub [] rfl ?_
            exact t_X4_canBeMother_85 hX hQ    hf
          · replace hf := itf h11 hf
            refine j_aload_n hX dX4_canBeMother_48 49 rfl 0 rfl rfl ?_
            refine j_get hX dX4_canBeMother_49 52 rfl fg_X4_15 1 rfl rfl ?_
            refine j_iload_n hX dX4_canBeMother_52 53 rfl 1 rfl rfl ?_
            obtain ⟨hb12, hf⟩ := ign hf
            refine j_iald hX dX4_canBeMother_53 54 rfl 3 rfl hb12 ?_
            refine j_aload_n hX dX4_canBeMother_54 55 rfl 0 rfl rfl ?_
            refine j_get hX dX4_canBeMother_55 58 rfl fg_X4_15 1 rfl rfl ?_
            refine j_iload_n hX dX4_canBeMother_58 59 rfl 2 rfl rfl ?_
            obtain ⟨hb13, hf⟩ := ign hf
            refine j_iald hX dX4_canBeMother_59 60 rfl 3 rfl hb13 ?_
            refine j_isub hX dX4_canBeMother_60 61 rfl ?_
            refine j_bipush (v := 50) hX dX4_canBeMother_61 63 rfl (by decide) ?_
            refine j_icmp_gt hX dX4_canBeMother_63 66 85 rfl rfl (fun h14 => ?_) (fun h14 => ?_)
            · replace hf := itt h14 hf
              refine j_sub [] rfl ?_
              exact t_X4_canBeMother_85 hX hQ    hf
            · replace hf := itf h14 hf
              refine j_aload_n hX dX4_canBeMother_66 67 rfl 0 rfl rfl ?_
              refine j_get hX dX4_canBeMother_67 70 rfl fg_X4_22 1 rfl rfl ?_
              refine j_iload_n hX dX4_canBeMother_70 71 rfl 2 rfl rfl ?_
              obtain ⟨hb15, hf⟩ := ign hf
              refine j_iald hX dX4_canBeMother_71 72 rfl 5 rfl hb15 ?_
              refine j_aload_n hX dX4_canBeMother_72 73 rfl 0 rfl rfl ?_
              refine j_get hX dX4_canBeMother_73 76 rfl fg_X4_15 1 rfl rfl ?_
              refine j_iload_n hX dX4_canBeMother_76 77 rfl 1 rfl rfl ?_
              obtain ⟨hb16, hf⟩ := ign hf
              refine j_iald hX dX4_canBeMother_77 78 rfl 3 rfl hb16 ?_
              refine j_icmp_lt hX dX4_canBeMother_78 81 85 rfl rfl (fun h17 => ?_) (fun h17 => ?_)
              · replace hf := itt h17 hf
                refine j_sub [] rfl ?_
                exact t_X4_canBeMother_85 hX hQ    hf
              · replace hf := itf h17 hf
                refine j_iconst (v := 1) hX dX4_canBeMother_81 82 rfl (by decide) ?_
                refine j_goto hX dX4_canBeMother_82 86 rfl ?_
                refine j_sub [] rfl ?_
                exact t_X4_canBeMother_86 hX hQ   1 hf
def g_X4_tellMother_26 (p_mother : Nat → Int32) (p_motherGrade : Nat → Int32) : Option (Int32 × (Nat → Int32) × (Nat → Int32)) :=
  some (0, p_mother, p_motherGrade)
set_option maxRecDepth 100000 in
set_option maxHeartbeats 4000000 in
theorem t_X4_tellMother_26 {Y : YT} {r : Int32 × (Nat → Int32) × (Nat → Int32)}  (hX : CX l G cX4_tellMother 4 RX4 Y) (hQ : EQi G Y 0 0 .boolean r.1 (WB G p_female p_born p_toldDeath p_lastYear p_father r.2.1 p_fatherGrade r.2.2 p_size g_holder g_arms g_from g_size r_marks r_arms r_root r_steps r_grade r_marksAboveOne q_rows q_sizes t_bytes t_length s_tokens s_starts s_size a_code a_codeSize a_at a_token a_fault a_place o_texts o_names o_operands o_size o_open o_refuses o_differs o_fees c_years c_rows c_size x_faultPlace ++ fr))   (hf : g_X4_tellMother_26 p_mother p_motherGrade = some r) : J l G (rmD 3 0 0) Y 0 0 26 [] [] (WB G p_female p_born p_toldDeath p_lastYear p_father p_mother p_fatherGrade p_motherGrade p_size g_holder g_arms g_from g_size r_marks r_arms r_root r_steps r_grade r_marksAboveOne q_rows q_sizes t_bytes t_length s_tokens s_starts s_size a_code a_codeSize a_at a_token a_fault a_place o_texts o_names o_operands o_size o_open o_refuses o_differs o_fees c_years c_rows c_size x_faultPlace ++ fr) := by
  unfold g_X4_tellMother_26 at hf
  refine j_iconst (v := 0) hX dX4_tellMother_26 27 rfl (by decide) ?_
  replace hf := Option.some.inj hf
  subst hf
  exact j_zret hX hQ rfl dX4_tellMother_27
def f_X4_tellMother (p_female : Nat → Int32) (p_born : Nat → Int32) (p_lastYear : Nat → Int32) (p_size : Int32) (p_mother : Nat → Int32) (p_motherGrade : Nat → Int32) (x1 : Int32) (x2 : Int32) (x3 : Int32) : Option (Int32 × (Nat → Int32) × (Nat → Int32)) :=
  (f_X4_isGrade x3).bind fun v1 => if v1 = 0 then g_X4_tellMother_26 p_mother p_motherGrade else (f_X4_canBeMother p_female p_born p_lastYear p_size x1 x2).bind fun v3 => if v3 = 0 then g_X4_tellMother_26 p_mother p_motherGrade else if inb x1 60 = true then if (p_mother (Int32.toNatClampNeg x1)) = ((-1)) then if inb x1 60 = true then if inb x1 60 = true then some (1, upd p_mother (Int32.toNatClampNeg x1) x2, upd p_motherGrade (Int32.toNatClampNeg x1) x3) else none else none else g_X4_tellMother_26 p_mother p_motherGrade else none
set_option maxRecDepth 100000 in
set_option maxHeartbeats 4000000 in
theorem t_X4_tellMother  (x1 : Int32) (x2 : Int32) (x3 : Int32) {r : Int32 × (Nat → Int32) × (Nat → Int32)} (hf : f_X4_tellMother p_female p_born p_lastYear p_size p_mother p_motherGrade x1 x2 x3 = some r) : Ci l G 3 0 0 yX4_tellMother cX4_tellMother 4 .boolean [.ref (gb G 1), .int x1, .int x2, .int x3] (WB G p_female p_born p_toldDeath p_lastYear p_father p_mother p_fatherGrade p_motherGrade p_size g_holder g_arms g_from g_size r_marks r_arms r_root r_steps r_grade r_marksAboveOne q_rows q_sizes t_bytes t_length s_tokens s_starts s_size a_code a_codeSize a_at a_token a_fault a_place o_texts o_names o_operands o_size o_open o_refuses o_differs o_fees c_years c_rows c_size x_faultPlace ++ fr) r.1 (WB G p_female p_born p_toldDeath p_lastYear p_father r.2.1 p_fatherGrade r.2.2 p_size g_holder g_arms g_from g_size r_marks r_arms r_root r_steps r_grade r_marksAboveOne q_rows q_sizes t_bytes t_length s_tokens s_starts s_size a_code a_codeSize a_at a_token a_fault a_place o_texts o_names o_operands o_size o_open o_refuses o_differs o_fees c_years c_rows c_size x_faultPlace ++ fr) := by
  refine Ci.of (by decide) (Nat.le_of_ble_eq_true rfl) (fun Y hX hQ => ?_)
  refine j_lv (lv' := [(0, .ref (gb G 1)), (1, .int x1), (2, .int x2), (3, .int x3)]) rfl ?_
  unfold f_X4_tellMother at hf
  refine j_iload_n hX dX4_tellMother_0 1 rfl 3 rfl rfl ?_
  obtain ⟨v1, hv1, hf⟩ := ibd hf
  refine z_si (As := [.int x3]) (rest := []) hX dX4_tellMother_1 4 rfl (t_X4_isGrade x3 hv1) mc_X4_isGrade ms_X4_isGrade ml_X4_49 (Nat.le_of_ble_eq_true rfl) (Nat.le_refl _) (Nat.le_refl _) rfl (Nat.le_of_ble_eq_true rfl) ?_
  refine j_if_eq hX dX4_tellMother_4 7 26 rfl rfl (fun h2 => ?_) (fun h2 => ?_)
  · replace hf := itt h2 hf
    refine j_sub [] rfl ?_
    exact t_X4_tellMother_26 hX hQ    hf
  · replace hf := itf h2 hf
    refine j_aload_n hX dX4_tellMother_7 8 rfl 0 rfl rfl ?_
    refine j_iload_n hX dX4_tellMother_8 9 rfl 1 rfl rfl ?_
    refine j_iload_n hX dX4_tellMother_9 10 rfl 2 rfl rfl ?_
    obtain ⟨v3, hv3, hf⟩ := ibd hf
    refine z_i (As := [.int x1, .int x2]) (rest := []) (q0 := 1) hX dX4_tellMother_10 13 rfl (t_X4_canBeMother x1 x2 hv3) mc_X4_canBeMother mv_X4_canBeMother ml_X4_55 rfl rfl (Nat.le_of_ble_eq_true rfl) (Nat.le_refl _) (Nat.le_refl _) rfl (Nat.le_of_ble_eq_true rfl) ?_
    refine j_if_eq hX dX4_tellMother_13 16 26 rfl rfl (fun h4 => ?_) (fun h4 => ?_)
    · replace hf := itt h4 hf
      refine j_sub [] rfl ?_
      exact t_X4_tellMother_26 hX hQ    hf
    · replace hf := itf h4 hf
      refine j_aload_n hX dX4_tellMother_16 17 rfl 0 rfl rfl ?_
      refine j_get hX dX4_tellMother_17 20 rfl fg_X4_28 1 rfl rfl ?_
      refine j_iload_n hX dX4_tellMother_20 21 rfl 1 rfl rfl ?_
      obtain ⟨hb5, hf⟩ := ign hf
      refine j_iald hX dX4_tellMother_21 22 rfl 7 rfl hb5 ?_
      refine j_iconst (v := (-1)) hX dX4_tellMother_22 23 rfl (by decide) ?_
      refine j_icmp_eq hX dX4_tellMother_23 26 28 rfl rfl (fun h6 => ?_) (fun h6 => ?_)
      · replace hf := itt h6 hf
        refine j_aload_n hX dX4_tellMother_28 29 rfl 0 rfl rfl ?_
        refine j_get hX dX4_tellMother_29 32 rfl fg_X4_28 1 rfl rfl ?_
        refine j_iload_n hX dX4_tellMother_32 33 rfl 1 rfl rfl ?_
        refine j_iload_n hX dX4_tellMother_33 34 rfl 2 rfl rfl ?_
        obtain ⟨hb7, hf⟩ := ign hf
        refine j_iast hX dX4_tellMother_34 35 rfl 7 rfl hb7 (ws' := (WB G p_female p_born p_toldDeath p_lastYear p_father (upd p_mother (Int32.toNatClampNeg x1) x2) p_fatherGrade p_motherGrade p_size g_holder g_arms g_from g_size r_marks r_arms r_root r_steps r_grade r_marksAboveOne q_rows q_sizes t_bytes t_length s_tokens s_starts s_size a_code a_codeSize a_at a_token a_fault a_place o_texts o_names o_operands o_size o_open o_refuses o_differs o_fees c_years c_rows c_size x_faultPlace ++ fr)) rfl ?_
        refine j_aload_n hX dX4_tellMother_35 36 rfl 0 rfl rfl ?_
        refine j_get hX dX4_tellMother_36 39 rfl fg_X4_34 1 rfl rfl ?_
        refine j_iload_n hX dX4_tellMother_39 40 rfl 1 rfl rfl ?_
        refine j_iload_n hX dX4_tellMother_40 41 rfl 3 rfl rfl ?_
        obtain ⟨hb8, hf⟩ := ign hf
        refine j_iast hX dX4_tellMother_41 42 rfl 9 rfl hb8 (ws' := (WB G p_female p_born p_toldDeath p_lastYear p_father (upd p_mother (Int32.toNatClampNeg x1) x2) p_fatherGrade (upd p_motherGrade (Int32.toNatClampNeg x1) x3) p_size g_holder g_arms g_from g_size r_marks r_arms r_root r_steps r_grade r_marksAboveOne q_rows q_sizes t_bytes t_length s_tokens s_starts s_size a_code a_codeSize a_at a_token a_fault a_place o_texts o_names o_operands o_size o_open o_refuses o_differs o_fees c_years c_rows c_size x_faultPlace ++ fr)) rfl ?_
        refine j_iconst (v := 1) hX dX4_tellMother_42 43 rfl (by decide) ?_
        replace hf := Option.some.inj hf
        subst hf
        exact j_zret hX hQ rfl dX4_tellMother_43
      · replace hf := itf h6 hf
        refine j_sub [] rfl ?_
        exact t_X4_tellMother_26 hX hQ    hf
def g_X4_isFemale_22 (s0 : Int32) : Option (Int32) :=
  if isB s0 = true then some s0 else none
set_option maxRecDepth 100000 in
set_option maxHeartbeats 4000000 in
theorem t_X4_isFemale_22 {Y : YT} {r : Int32}  (hX : CX l G cX4_isFemale 2 RX4 Y) (hQ : EQi G Y 0 0 .boolean r (WB G p_female p_born p_toldDeath p_lastYear p_father p_mother p_fatherGrade p_motherGrade p_size g_holder g_arms g_from g_size r_marks r_arms r_root r_steps r_grade r_marksAboveOne q_rows q_sizes t_bytes t_length s_tokens s_starts s_size a_code a_codeSize a_at a_token a_fault a_place o_texts o_names o_operands o_size o_open o_refuses o_differs o_fees c_years c_rows c_size x_faultPlace ++ fr))  (s0 : Int32) (hf : g_X4_isFemale_22 s0 = some r) : J l G (rmD 2 0 0) Y 0 0 22 [] [.int s0] (WB G p_female p_born p_toldDeath p_lastYear p_father p_mother p_fatherGrade p_motherGrade p_size g_holder g_arms g_from g_size r_marks r_arms r_root r_steps r_grade r_marksAboveOne q_rows q_sizes t_bytes t_length s_tokens s_starts s_size a_code a_codeSize a_at a_token a_fault a_place o_texts o_names o_operands o_size o_open o_refuses o_differs o_fees c_years c_rows c_size x_faultPlace ++ fr) := by
  unfold g_X4_isFemale_22 at hf
  obtain ⟨hb3, hf⟩ := ign hf
  replace hf := Option.some.inj hf
  subst hf
  exact j_zret hX hQ hb3 dX4_isFemale_22
def g_X4_isFemale_21  : Option (Int32) :=
  g_X4_isFemale_22 0
set_option maxRecDepth 100000 in
set_option maxHeartbeats 4000000 in
theorem t_X4_isFemale_21 {Y : YT} {r : Int32}  (hX : CX l G cX4_isFemale 2 RX4 Y) (hQ : EQi G Y 0 0 .boolean r (WB G p_female p_born p_toldDeath p_lastYear p_father p_mother p_fatherGrade p_motherGrade p_size g_holder g_arms g_from g_size r_marks r_arms r_root r_steps r_grade r_marksAboveOne q_rows q_sizes t_bytes t_length s_tokens s_starts s_size a_code a_codeSize a_at a_token a_fault a_place o_texts o_names o_operands o_size o_open o_refuses o_differs o_fees c_years c_rows c_size x_faultPlace ++ fr))   (hf : g_X4_isFemale_21  = some r) : J l G (rmD 2 0 0) Y 0 0 21 [] [] (WB G p_female p_born p_toldDeath p_lastYear p_father p_mother p_fatherGrade p_motherGrade p_size g_holder g_arms g_from g_size r_marks r_arms r_root r_steps r_grade r_marksAboveOne q_rows q_sizes t_bytes t_length s_tokens s_starts s_size a_code a_codeSize a_at a_token a_fault a_place o_texts o_names o_operands o_size o_open o_refuses o_differs o_fees c_years c_rows c_size x_faultPlace ++ fr) := by
  unfold g_X4_isFemale_21 at hf
  refine j_iconst (v := 0) hX dX4_isFemale_21 22 rfl (by decide) ?_
  exact t_X4_isFemale_22 hX hQ   0 hf
def f_X4_isFemale (p_female : Nat → Int32) (p_size : Int32) (x1 : Int32) : Option (Int32) :=
  (f_X4_has p_size x1).bind fun v1 => if v1 = 0 then g_X4_isFemale_21  else if inb x1 60 = true then if (p_female (Int32.toNatClampNeg x1)) = 0 then g_X4_isFemale_21  else g_X4_isFemale_22 1 else none
set_option maxRecDepth 100000 in
set_option maxHeartbeats 4000000 in
theorem t_X4_isFemale  (x1 : Int32) {r : Int32} (hf : f_X4_isFemale p_female p_size x1 = some r) : Ci l G 2 0 0 yX4_isFemale cX4_isFemale 2 .boolean [.ref (gb G 1), .int x1] (WB G p_female p_born p_toldDeath p_lastYear p_father p_mother p_fatherGrade p_motherGrade p_size g_holder g_arms g_from g_size r_marks r_arms r_root r_steps r_grade r_marksAboveOne q_rows q_sizes t_bytes t_length s_tokens s_starts s_size a_code a_codeSize a_at a_token a_fault a_place o_texts o_names o_operands o_size o_open o_refuses o_differs o_fees c_years c_rows c_size x_faultPlace ++ fr) r (WB G p_female p_born p_toldDeath p_lastYear p_father p_mother p_fatherGrade p_motherGrade p_size g_holder g_arms g_from g_size r_marks r_arms r_root r_steps r_grade r_marksAboveOne q_rows q_sizes t_bytes t_length s_tokens s_starts s_size a_code a_codeSize a_at a_token a_fault a_place o_texts o_names o_operands o_size o_open o_refuses o_differs o_fees c_years c_rows c_size x_faultPlace ++ fr) := by
  refine Ci.of (by decide) (Nat.le_of_ble_eq_true rfl) (fun Y hX hQ => ?_)
  refine j_lv (lv' := [(0, .ref (gb G 1)), (1, .int x1)]) rfl ?_
  unfold f_X4_isFemale at hf
  refine j_aload_n hX dX4_isFemale_0 1 rfl 0 rfl rfl ?_
  refine j_iload_n hX dX4_isFemale_1 2 rfl 1 rfl rfl ?_
  obtain ⟨v1, hv1, hf⟩ := ibd hf
  refine z_i (As := [.int x1]) (rest := []) (q0 := 1) hX dX4_isFemale_2 5 rfl (t_X4_has x1 hv1) mc_X4_has mv_X4_has ml_X4_58 rfl rfl (Nat.le_of_ble_eq_true rfl) (Nat.le_refl _) (Nat.le_refl _) rfl (Nat.le_of_ble_eq_true rfl) ?_
  refine j_if_eq hX dX4_isFemale_5 8 21 rfl rfl (fun h2 => ?_) (fun h2 => ?_)
  · replace hf := itt h2 hf
    refine j_sub [] rfl ?_
    exact t_X4_isFemale_21 hX hQ    hf
  · replace hf := itf h2 hf
    refine j_aload_n hX dX4_isFemale_8 9 rfl 0 rfl rfl ?_
    refine j_get hX dX4_isFemale_9 12 rfl fg_X4_11 1 rfl rfl ?_
    refine j_iload_n hX dX4_isFemale_12 13 rfl 1 rfl rfl ?_
    obtain ⟨hb4, hf⟩ := ign hf
    refine j_zald hX dX4_isFemale_13 14 rfl 2 rfl hb4 ?_
    refine j_if_eq hX dX4_isFemale_14 17 21 rfl rfl (fun h5 => ?_) (fun h5 => ?_)
    · replace hf := itt h5 hf
      refine j_sub [] rfl ?_
      exact t_X4_isFemale_21 hX hQ    hf
    · replace hf := itf h5 hf
      refine j_iconst (v := 1) hX dX4_isFemale_17 18 rfl (by decide) ?_
      refine j_goto hX dX4_isFemale_18 22 rfl ?_
      refine j_sub [] rfl ?_
      exact t_X4_isFemale_22 hX hQ   1 hf
def g_X4_bornOf_18 (s0 : Int32) : Option (Int32) :=
  some s0
set_option maxRecDepth 100000 in
set_option maxHeartbeats 4000000 in
theorem t_X4_bornOf_18 {Y : YT} {r : Int32}  (hX : CX l G cX4_bornOf 2 RX4 Y) (hQ : EQi G Y 0 0 .int r (WB G p_female p_born p_toldDeath p_lastYear p_father p_mother p_fatherGrade p_motherGrade p_size g_holder g_arms g_from g_size r_marks r_arms r_root r_steps r_grade r_marksAboveOne q_rows q_sizes t_bytes t_length s_tokens s_starts s_size a_code a_codeSize a_at a_token a_fault a_place o_texts o_names o_operands o_size o_open o_refuses o_differs o_fees c_years c_rows c_size x_faultPlace ++ fr))  (s0 : Int32) (hf : g_X4_bornOf_18 s0 = some r) : J l G (rmD 2 0 0) Y 0 0 18 [] [.int s0] (WB G p_female p_born p_toldDeath p_lastYear p_father p_mother p_fatherGrade p_motherGrade p_size g_holder g_arms g_from g_size r_marks r_arms r_root r_steps r_grade r_marksAboveOne q_rows q_sizes t_bytes t_length s_tokens s_starts s_size a_code a_codeSize a_at a_token a_fault a_place o_texts o_names o_operands o_size o_open o_refuses o_differs o_fees c_years c_rows c_size x_faultPlace ++ fr) := by
  unfold g_X4_bornOf_18 at hf
  replace hf := Option.some.inj hf
  subst hf
  exact j_iret hX hQ dX4_bornOf_18
def f_X4_bornOf (p_born : Nat → Int32) (p_size : Int32) (x1 : Int32) : Option (Int32) :=
  (f_X4_has p_size x1).bind fun v1 => if v1 = 0 then g_X4_bornOf_18 ((-1)) else if inb x1 60 = true then g_X4_bornOf_18 (p_born (Int32.toNatClampNeg x1)) else none
set_option maxRecDepth 100000 in
set_option maxHeartbeats 4000000 in
theorem t_X4_bornOf  (x1 : Int32) {r : Int32} (hf : f_X4_bornOf p_born p_size x1 = some r) : Ci l G 2 0 0 yX4_bornOf cX4_bornOf 2 .int [.ref (gb G 1), .int x1] (WB G p_female p_born p_toldDeath p_lastYear p_father p_mother p_fatherGrade p_motherGrade p_size g_holder g_arms g_from g_size r_marks r_arms r_root r_steps r_grade r_marksAboveOne q_rows q_sizes t_bytes t_length s_tokens s_starts s_size a_code a_codeSize a_at a_token a_fault a_place o_texts o_names o_operands o_size o_open o_refuses o_differs o_fees c_years c_rows c_size x_faultPlace ++ fr) r (WB G p_female p_born p_toldDeath p_lastYear p_father p_mother p_fatherGrade p_motherGrade p_size g_holder g_arms g_from g_size r_marks r_arms r_root r_steps r_grade r_marksAboveOne q_rows q_sizes t_bytes t_length s_tokens s_starts s_size a_code a_codeSize a_at a_token a_fault a_place o_texts o_names o_operands o_size o_open o_refuses o_differs o_fees c_years c_rows c_size x_faultPlace ++ fr) := by
  refine Ci.of (by decide) (Nat.le_of_ble_eq_true rfl) (fun Y hX hQ => ?_)
  refine j_lv (lv' := [(0, .ref (gb G 1)), (1, .int x1)]) rfl ?_
  unfold f_X4_bornOf at hf
  refine j_aload_n hX dX4_bornOf_0 1 rfl 0 rfl rfl ?_
  refine j_iload_n hX dX4_bornOf_1 2 rfl 1 rfl rfl ?_
  obtain ⟨v1, hv1, hf⟩ := ibd hf
  refine z_i (As := [.int x1]) (rest := []) (q0 := 1) hX dX4_bornOf_2 5 rfl (t_X4_has x1 hv1) mc_X4_has mv_X4_has ml_X4_58 rfl rfl (Nat.le_of_ble_eq_true rfl) (Nat.le_refl _) (Nat.le_refl _) rfl (Nat.le_of_ble_eq_true rfl) ?_
  refine j_if_eq hX dX4_bornOf_5 8 17 rfl rfl (fun h2 => ?_) (fun h2 => ?_)
  · replace hf := itt h2 hf
    refine j_iconst (v := (-1)) hX dX4_bornOf_17 18 rfl (by decide) ?_
    refine j_sub [] rfl ?_
    exact t_X4_bornOf_18 hX hQ   ((-1)) hf
  · replace hf := itf h2 hf
    refine j_aload_n hX dX4_bornOf_8 9 rfl 0 rfl rfl ?_
    refine j_get hX dX4_bornOf_9 12 rfl fg_X4_15 1 rfl rfl ?_
    refine j_iload_n hX dX4_bornOf_12 13 rfl 1 rfl rfl ?_
    obtain ⟨hb3, hf⟩ := ign hf
    refine j_iald hX dX4_bornOf_13 14 rfl 3 rfl hb3 ?_
    refine j_goto hX dX4_bornOf_14 18 rfl ?_
    refine j_sub [] rfl ?_
    exact t_X4_bornOf_18 hX hQ   (p_born (Int32.toNatClampNeg x1)) hf
def g_X4_toldDeathOf_18 (s0 : Int32) : Option (Int32) :=
  some s0
set_option maxRecDepth 100000 in
set_option maxHeartbeats 4000000 in
theorem t_X4_toldDeathOf_18 {Y : YT} {r : Int32}  (hX : CX l G cX4_toldDeathOf 2 RX4 Y) (hQ : EQi G Y 0 0 .int r (WB G p_female p_born p_toldDeath p_lastYear p_father p_mother p_fatherGrade p_motherGrade p_size g_holder g_arms g_from g_size r_marks r_arms r_root r_steps r_grade r_marksAboveOne q_rows q_sizes t_bytes t_length s_tokens s_starts s_size a_code a_codeSize a_at a_token a_fault a_place o_texts o_names o_operands o_size o_open o_refuses o_differs o_fees c_years c_rows c_size x_faultPlace ++ fr))  (s0 : Int32) (hf : g_X4_toldDeathOf_18 s0 = some r) : J l G (rmD 2 0 0) Y 0 0 18 [] [.int s0] (WB G p_female p_born p_toldDeath p_lastYear p_father p_mother p_fatherGrade p_motherGrade p_size g_holder g_arms g_from g_size r_marks r_arms r_root r_steps r_grade r_marksAboveOne q_rows q_sizes t_bytes t_length s_tokens s_starts s_size a_code a_codeSize a_at a_token a_fault a_place o_texts o_names o_operands o_size o_open o_refuses o_differs o_fees c_years c_rows c_size x_faultPlace ++ fr) := by
  unfold g_X4_toldDeathOf_18 at hf
  replace hf := Option.some.inj hf
  subst hf
  exact j_iret hX hQ dX4_toldDeathOf_18
def f_X4_toldDeathOf (p_toldDeath : Nat → Int32) (p_size : Int32) (x1 : Int32) : Option (Int32) :=
  (f_X4_has p_size x1).bind fun v1 => if v1 = 0 then g_X4_toldDeathOf_18 ((-1)) else if inb x1 60 = true then g_X4_toldDeathOf_18 (p_toldDeath (Int32.toNatClampNeg x1)) else none
set_option maxRecDepth 100000 in
set_option maxHeartbeats 4000000 in
theorem t_X4_toldDeathOf  (x1 : Int32) {r : Int32} (hf : f_X4_toldDeathOf p_toldDeath p_size x1 = some r) : Ci l G 2 0 0 yX4_toldDeathOf cX4_toldDeathOf 2 .int [.ref (gb G 1), .int x1] (WB G p_female p_born p_toldDeath p_lastYear p_father p_mother p_fatherGrade p_motherGrade p_size g_holder g_arms g_from g_size r_marks r_arms r_root r_steps r_grade r_marksAboveOne q_rows q_sizes t_bytes t_length s_tokens s_starts s_size a_code a_codeSize a_at a_token a_fault a_place o_texts o_names o_operands o_size o_open o_refuses o_differs o_fees c_years c_rows c_size x_faultPlace ++ fr) r (WB G p_female p_born p_toldDeath p_lastYear p_father p_mother p_fatherGrade p_motherGrade p_size g_holder g_arms g_from g_size r_marks r_arms r_root r_steps r_grade r_marksAboveOne q_rows q_sizes t_bytes t_length s_tokens s_starts s_size a_code a_codeSize a_at a_token a_fault a_place o_texts o_names o_operands o_size o_open o_refuses o_differs o_fees c_years c_rows c_size x_faultPlace ++ fr) := by
  refine Ci.of (by decide) (Nat.le_of_ble_eq_true rfl) (fun Y hX hQ => ?_)
  refine j_lv (lv' := [(0, .ref (gb G 1)), (1, .int x1)]) rfl ?_
  unfold f_X4_toldDeathOf at hf
  refine j_aload_n hX dX4_toldDeathOf_0 1 rfl 0 rfl rfl ?_
  refine j_iload_n hX dX4_toldDeathOf_1 2 rfl 1 rfl rfl ?_
  obtain ⟨v1, hv1, hf⟩ := ibd hf
  refine z_i (As := [.int x1]) (rest := []) (q0 := 1) hX dX4_toldDeathOf_2 5 rfl (t_X4_has x1 hv1) mc_X4_has mv_X4_has ml_X4_58 rfl rfl (Nat.le_of_ble_eq_true rfl) (Nat.le_refl _) (Nat.le_refl _) rfl (Nat.le_of_ble_eq_true rfl) ?_
  refine j_if_eq hX dX4_toldDeathOf_5 8 17 rfl rfl (fun h2 => ?_) (fun h2 => ?_)
  · replace hf := itt h2 hf
    refine j_iconst (v := (-1)) hX dX4_toldDeathOf_17 18 rfl (by decide) ?_
    refine j_sub [] rfl ?_
    exact t_X4_toldDeathOf_18 hX hQ   ((-1)) hf
  · replace hf := itf h2 hf
    refine j_aload_n hX dX4_toldDeathOf_8 9 rfl 0 rfl rfl ?_
    refine j_get hX dX4_toldDeathOf_9 12 rfl fg_X4_19 1 rfl rfl ?_
    refine j_iload_n hX dX4_toldDeathOf_12 13 rfl 1 rfl rfl ?_
    obtain ⟨hb3, hf⟩ := ign hf
    refine j_iald hX dX4_toldDeathOf_13 14 rfl 4 rfl hb3 ?_
    refine j_goto hX dX4_toldDeathOf_14 18 rfl ?_
    refine j_sub [] rfl ?_
    exact t_X4_toldDeathOf_18 hX hQ   (p_toldDeath (Int32.toNatClampNeg x1)) hf
def g_X4_fatherOf_18 (s0 : Int32) : Option (Int32) :=
  some s0
set_option maxRecDepth 100000 in
set_option maxHeartbeats 4000000 in
theorem t_X4_fatherOf_18 {Y : YT} {r : Int32}  (hX : CX l G cX4_fatherOf 2 RX4 Y) (hQ : EQi G Y 0 0 .int r (WB G p_female p_born p_toldDeath p_lastYear p_father p_mother p_fatherGrade p_motherGrade p_size g_holder g_arms g_from g_size r_marks r_arms r_root r_steps r_grade r_marksAboveOne q_rows q_sizes t_bytes t_length s_tokens s_starts s_size a_code a_codeSize a_at a_token a_fault a_place o_texts o_names o_operands o_size o_open o_refuses o_differs o_fees c_years c_rows c_size x_faultPlace ++ fr))  (s0 : Int32) (hf : g_X4_fatherOf_18 s0 = some r) : J l G (rmD 2 0 0) Y 0 0 18 [] [.int s0] (WB G p_female p_born p_toldDeath p_lastYear p_father p_mother p_fatherGrade p_motherGrade p_size g_holder g_arms g_from g_size r_marks r_arms r_root r_steps r_grade r_marksAboveOne q_rows q_sizes t_bytes t_length s_tokens s_starts s_size a_code a_codeSize a_at a_token a_fault a_place o_texts o_names o_operands o_size o_open o_refuses o_differs o_fees c_years c_rows c_size x_faultPlace ++ fr) := by
  unfold g_X4_fatherOf_18 at hf
  replace hf := Option.some.inj hf
  subst hf
  exact j_iret hX hQ dX4_fatherOf_18
def f_X4_fatherOf (p_father : Nat → Int32) (p_size : Int32) (x1 : Int32) : Option (Int32) :=
  (f_X4_has p_size x1).bind fun v1 => if v1 = 0 then g_X4_fatherOf_18 ((-1)) else if inb x1 60 = true then g_X4_fatherOf_18 (p_father (Int32.toNatClampNeg x1)) else none
set_option maxRecDepth 100000 in
set_option maxHeartbeats 4000000 in
theorem t_X4_fatherOf  (x1 : Int32) {r : Int32} (hf : f_X4_fatherOf p_father p_size x1 = some r) : Ci l G 2 0 0 yX4_fatherOf cX4_fatherOf 2 .int [.ref (gb G 1), .int x1] (WB G p_female p_born p_toldDeath p_lastYear p_father p_mother p_fatherGrade p_motherGrade p_size g_holder g_arms g_from g_size r_marks r_arms r_root r_steps r_grade r_marksAboveOne q_rows q_sizes t_bytes t_length s_tokens s_starts s_size a_code a_codeSize a_at a_token a_fault a_place o_texts o_names o_operands o_size o_open o_refuses o_differs o_fees c_years c_rows c_size x_faultPlace ++ fr) r (WB G p_female p_born p_toldDeath p_lastYear p_father p_mother p_fatherGrade p_motherGrade p_size g_holder g_arms g_from g_size r_marks r_arms r_root r_steps r_grade r_marksAboveOne q_rows q_sizes t_bytes t_length s_tokens s_starts s_size a_code a_codeSize a_at a_token a_fault a_place o_texts o_names o_operands o_size o_open o_refuses o_differs o_fees c_years c_rows c_size x_faultPlace ++ fr) := by
  refine Ci.of (by decide) (Nat.le_of_ble_eq_true rfl) (fun Y hX hQ => ?_)
  refine j_lv (lv' := [(0, .ref (gb G 1)), (1, .int x1)]) rfl ?_
  unfold f_X4_fatherOf at hf
  refine j_aload_n hX dX4_fatherOf_0 1 rfl 0 rfl rfl ?_
  refine j_iload_n hX dX4_fatherOf_1 2 rfl 1 rfl rfl ?_
  obtain ⟨v1, hv1, hf⟩ := ibd hf
  refine z_i (As := [.int x1]) (rest := []) (q0 := 1) hX dX4_fatherOf_2 5 rfl (t_X4_has x1 hv1) mc_X4_has mv_X4_has ml_X4_58 rfl rfl (Nat.le_of_ble_eq_true rfl) (Nat.le_refl _) (Nat.le_refl _) rfl (Nat.le_of_ble_eq_true rfl) ?_
  refine j_if_eq hX dX4_fatherOf_5 8 17 rfl rfl (fun h2 => ?_) (fun h2 => ?_)
  · replace hf := itt h2 hf
    refine j_iconst (v := (-1)) hX dX4_fatherOf_17 18 rfl (by decide) ?_
    refine j_sub [] rfl ?_
    exact t_X4_fatherOf_18 hX hQ   ((-1)) hf
  · replace hf := itf h2 hf
    refine j_aload_n hX dX4_fatherOf_8 9 rfl 0 rfl rfl ?_
    refine j_get hX dX4_fatherOf_9 12 rfl fg_X4_25 1 rfl rfl ?_
    refine j_iload_n hX dX4_fatherOf_12 13 rfl 1 rfl rfl ?_
    obtain ⟨hb3, hf⟩ := ign hf
    refine j_iald hX dX4_fatherOf_13 14 rfl 6 rfl hb3 ?_
    refine j_goto hX dX4_fatherOf_14 18 rfl ?_
    refine j_sub [] rfl ?_
    exact t_X4_fatherOf_18 hX hQ   (p_father (Int32.toNatClampNeg x1)) hf
def g_X4_motherOf_18 (s0 : Int32) : Option (Int32) :=
  some s0
set_option maxRecDepth 100000 in
set_option maxHeartbeats 4000000 in
theorem t_X4_motherOf_18 {Y : YT} {r : Int32}  (hX : CX l G cX4_motherOf 2 RX4 Y) (hQ : EQi G Y 0 0 .int r (WB G p_female p_born p_toldDeath p_lastYear p_father p_mother p_fatherGrade p_motherGrade p_size g_holder g_arms g_from g_size r_marks r_arms r_root r_steps r_grade r_marksAboveOne q_rows q_sizes t_bytes t_length s_tokens s_starts s_size a_code a_codeSize a_at a_token a_fault a_place o_texts o_names o_operands o_size o_open o_refuses o_differs o_fees c_years c_rows c_size x_faultPlace ++ fr))  (s0 : Int32) (hf : g_X4_motherOf_18 s0 = some r) : J l G (rmD 2 0 0) Y 0 0 18 [] [.int s0] (WB G p_female p_born p_toldDeath p_lastYear p_father p_mother p_fatherGrade p_motherGrade p_size g_holder g_arms g_from g_size r_marks r_arms r_root r_steps r_grade r_marksAboveOne q_rows q_sizes t_bytes t_length s_tokens s_starts s_size a_code a_codeSize a_at a_token a_fault a_place o_texts o_names o_operands o_size o_open o_refuses o_differs o_fees c_years c_rows c_size x_faultPlace ++ fr) := by
  unfold g_X4_motherOf_18 at hf
  replace hf := Option.some.inj hf
  subst hf
  exact j_iret hX hQ dX4_motherOf_18
def f_X4_motherOf (p_mother : Nat → Int32) (p_size : Int32) (x1 : Int32) : Option (Int32) :=
  (f_X4_has p_size x1).bind fun v1 => if v1 = 0 then g_X4_motherOf_18 ((-1)) else if inb x1 60 = true then g_X4_motherOf_18 (p_mother (Int32.toNatClampNeg x1)) else none
set_option maxRecDepth 100000 in
set_option maxHeartbeats 4000000 in
theorem t_X4_motherOf  (x1 : Int32) {r : Int32} (hf : f_X4_motherOf p_mother p_size x1 = some r) : Ci l G 2 0 0 yX4_motherOf cX4_motherOf 2 .int [.ref (gb G 1), .int x1] (WB G p_female p_born p_toldDeath p_lastYear p_father p_mother p_fatherGrade p_motherGrade p_size g_holder g_arms g_from g_size r_marks r_arms r_root r_steps r_grade r_marksAboveOne q_rows q_sizes t_bytes t_length s_tokens s_starts s_size a_code a_codeSize a_at a_token a_fault a_place o_texts o_names o_operands o_size o_open o_refuses o_differs o_fees c_years c_rows c_size x_faultPlace ++ fr) r (WB G p_female p_born p_toldDeath p_lastYear p_father p_mother p_fatherGrade p_motherGrade p_size g_holder g_arms g_from g_size r_marks r_arms r_root r_steps r_grade r_marksAboveOne q_rows q_sizes t_bytes t_length s_tokens s_starts s_size a_code a_codeSize a_at a_token a_fault a_place o_texts o_names o_operands o_size o_open o_refuses o_differs o_fees c_years c_rows c_size x_faultPlace ++ fr) := by
  refine Ci.of (by decide) (Nat.le_of_ble_eq_true rfl) (fun Y hX hQ => ?_)
  refine j_lv (lv' := [(0, .ref (gb G 1)), (1, .int x1)]) rfl ?_
  unfold f_X4_motherOf at hf
  refine j_aload_n hX dX4_motherOf_0 1 rfl 0 rfl rfl ?_
  refine j_iload_n hX dX4_motherOf_1 2 rfl 1 rfl rfl ?_
  obtain ⟨v1, hv1, hf⟩ := ibd hf
  refine z_i (As := [.int x1]) (rest := []) (q0 := 1) hX dX4_motherOf_2 5 rfl (t_X4_has x1 hv1) mc_X4_has mv_X4_has ml_X4_58 rfl rfl (Nat.le_of_ble_eq_true rfl) (Nat.le_refl _) (Nat.le_refl _) rfl (Nat.le_of_ble_eq_true rfl) ?_
  refine j_if_eq hX dX4_motherOf_5 8 17 rfl rfl (fun h2 => ?_) (fun h2 => ?_)
  · replace hf := itt h2 hf
    refine j_iconst (v := (-1)) hX dX4_motherOf_17 18 rfl (by decide) ?_
    refine j_sub [] rfl ?_
    exact t_X4_motherOf_18 hX hQ   ((-1)) hf
  · replace hf := itf h2 hf
    refine j_aload_n hX dX4_motherOf_8 9 rfl 0 rfl rfl ?_
    refine j_get hX dX4_motherOf_9 12 rfl fg_X4_28 1 rfl rfl ?_
    refine j_iload_n hX dX4_motherOf_12 13 rfl 1 rfl rfl ?_
    obtain ⟨hb3, hf⟩ := ign hf
    refine j_iald hX dX4_motherOf_13 14 rfl 7 rfl hb3 ?_
    refine j_goto hX dX4_motherOf_14 18 rfl ?_
    refine j_sub [] rfl ?_
    exact t_X4_motherOf_18 hX hQ   (p_mother (Int32.toNatClampNeg x1)) hf
def g_X4_fatherGradeOf_18 (s0 : Int32) : Option (Int32) :=
  some s0
set_option maxRecDepth 100000 in
set_option maxHeartbeats 4000000 in
theorem t_X4_fatherGradeOf_18 {Y : YT} {r : Int32}  (hX : CX l G cX4_fatherGradeOf 2 RX4 Y) (hQ : EQi G Y 0 0 .int r (WB G p_female p_born p_toldDeath p_lastYear p_father p_mother p_fatherGrade p_motherGrade p_size g_holder g_arms g_from g_size r_marks r_arms r_root r_steps r_grade r_marksAboveOne q_rows q_sizes t_bytes t_length s_tokens s_starts s_size a_code a_codeSize a_at a_token a_fault a_place o_texts o_names o_operands o_size o_open o_refuses o_differs o_fees c_years c_rows c_size x_faultPlace ++ fr))  (s0 : Int32) (hf : g_X4_fatherGradeOf_18 s0 = some r) : J l G (rmD 2 0 0) Y 0 0 18 [] [.int s0] (WB G p_female p_born p_toldDeath p_lastYear p_father p_mother p_fatherGrade p_motherGrade p_size g_holder g_arms g_from g_size r_marks r_arms r_root r_steps r_grade r_marksAboveOne q_rows q_sizes t_bytes t_length s_tokens s_starts s_size a_code a_codeSize a_at a_token a_fault a_place o_texts o_names o_operands o_size o_open o_refuses o_differs o_fees c_years c_rows c_size x_faultPlace ++ fr) := by
  unfold g_X4_fatherGradeOf_18 at hf
  replace hf := Option.some.inj hf
  subst hf
  exact j_iret hX hQ dX4_fatherGradeOf_18
def f_X4_fatherGradeOf (p_fatherGrade : Nat → Int32) (p_size : Int32) (x1 : Int32) : Option (Int32) :=
  (f_X4_has p_size x1).bind fun v1 => if v1 = 0 then g_X4_fatherGradeOf_18 0 else if inb x1 60 = true then g_X4_fatherGradeOf_18 (p_fatherGrade (Int32.toNatClampNeg x1)) else none
set_option maxRecDepth 100000 in
set_option maxHeartbeats 4000000 in
theorem t_X4_fatherGradeOf  (x1 : Int32) {r : Int32} (hf : f_X4_fatherGradeOf p_fatherGrade p_size x1 = some r) : Ci l G 2 0 0 yX4_fatherGradeOf cX4_fatherGradeOf 2 .int [.ref (gb G 1), .int x1] (WB G p_female p_born p_toldDeath p_lastYear p_father p_mother p_fatherGrade p_motherGrade p_size g_holder g_arms g_from g_size r_marks r_arms r_root r_steps r_grade r_marksAboveOne q_rows q_sizes t_bytes t_length s_tokens s_starts s_size a_code a_codeSize a_at a_token a_fault a_place o_texts o_names o_operands o_size o_open o_refuses o_differs o_fees c_years c_rows c_size x_faultPlace ++ fr) r (WB G p_female p_born p_toldDeath p_lastYear p_father p_mother p_fatherGrade p_motherGrade p_size g_holder g_arms g_from g_size r_marks r_arms r_root r_steps r_grade r_marksAboveOne q_rows q_sizes t_bytes t_length s_tokens s_starts s_size a_code a_codeSize a_at a_token a_fault a_place o_texts o_names o_operands o_size o_open o_refuses o_differs o_fees c_years c_rows c_size x_faultPlace ++ fr) := by
  refine Ci.of (by decide) (Nat.le_of_ble_eq_true rfl) (fun Y hX hQ => ?_)
  refine j_lv (lv' := [(0, .ref (gb G 1)), (1, .int x1)]) rfl ?_
  unfold f_X4_fatherGradeOf at hf
  refine j_aload_n hX dX4_fatherGradeOf_0 1 rfl 0 rfl rfl ?_
  refine j_iload_n hX dX4_fatherGradeOf_1 2 rfl 1 rfl rfl ?_
  obtain ⟨v1, hv1, hf⟩ := ibd hf
  refine z_i (As := [.int x1]) (rest := []) (q0 := 1) hX dX4_fatherGradeOf_2 5 rfl (t_X4_has x1 hv1) mc_X4_has mv_X4_has ml_X4_58 rfl rfl (Nat.le_of_ble_eq_true rfl) (Nat.le_refl _) (Nat.le_refl _) rfl (Nat.le_of_ble_eq_true rfl) ?_
  refine j_if_eq hX dX4_fatherGradeOf_5 8 17 rfl rfl (fun h2 => ?_) (fun h2 => ?_)
  · replace hf := itt h2 hf
    refine j_iconst (v := 0) hX dX4_fatherGradeOf_17 18 rfl (by decide) ?_
    refine j_sub [] rfl ?_
    exact t_X4_fatherGradeOf_18 hX hQ   0 hf
  · replace hf := itf h2 hf
    refine j_aload_n hX dX4_fatherGradeOf_8 9 rfl 0 rfl rfl ?_
    refine j_get hX dX4_fatherGradeOf_9 12 rfl fg_X4_31 1 rfl rfl ?_
    refine j_iload_n hX dX4_fatherGradeOf_12 13 rfl 1 rfl rfl ?_
    obtain ⟨hb3, hf⟩ := ign hf
    refine j_iald hX dX4_fatherGradeOf_13 14 rfl 8 rfl hb3 ?_
    refine j_goto hX dX4_fatherGradeOf_14 18 rfl ?_
    refine j_sub [] rfl ?_
    exact t_X4_fatherGradeOf_18 hX hQ   (p_fatherGrade (Int32.toNatClampNeg x1)) hf
def g_X4_motherGradeOf_18 (s0 : Int32) : Option (Int32) :=
  some s0
set_option maxRecDepth 100000 in
set_option maxHeartbeats 4000000 in
theorem t_X4_motherGradeOf_18 {Y : YT} {r : Int32}  (hX : CX l G cX4_motherGradeOf 2 RX4 Y) (hQ : EQi G Y 0 0 .int r (WB G p_female p_born p_toldDeath p_lastYear p_father p_mother p_fatherGrade p_motherGrade p_size g_holder g_arms g_from g_size r_marks r_arms r_root r_steps r_grade r_marksAboveOne q_rows q_sizes t_bytes t_length s_tokens s_starts s_size a_code a_codeSize a_at a_token a_fault a_place o_texts o_names o_operands o_size o_open o_refuses o_differs o_fees c_years c_rows c_size x_faultPlace ++ fr))  (s0 : Int32) (hf : g_X4_motherGradeOf_18 s0 = some r) : J l G (rmD 2 0 0) Y 0 0 18 [] [.int s0] (WB G p_female p_born p_toldDeath p_lastYear p_father p_mother p_fatherGrade p_motherGrade p_size g_holder g_arms g_from g_size r_marks r_arms r_root r_steps r_grade r_marksAboveOne q_rows q_sizes t_bytes t_length s_tokens s_starts s_size a_code a_codeSize a_at a_token a_fault a_place o_texts o_names o_operands o_size o_open o_refuses o_differs o_fees c_years c_rows c_size x_faultPlace ++ fr) := by
  unfold g_X4_motherGradeOf_18 at hf
  replace hf := Option.some.inj hf
  subst hf
  exact j_iret hX hQ dX4_motherGradeOf_18
def f_X4_motherGradeOf (p_motherGrade : Nat → Int32) (p_size : Int32) (x1 : Int32) : Option (Int32) :=
  (f_X4_has p_size x1).bind fun v1 => if v1 = 0 then g_X4_motherGradeOf_18 0 else if inb x1 60 = true then g_X4_motherGradeOf_18 (p_motherGrade (Int32.toNatClampNeg x1)) else none
set_option maxRecDepth 100000 in
set_option maxHeartbeats 4000000 in
theorem t_X4_motherGradeOf  (x1 : Int32) {r : Int32} (hf : f_X4_motherGradeOf p_motherGrade p_size x1 = some r) : Ci l G 2 0 0 yX4_motherGradeOf cX4_motherGradeOf 2 .int [.ref (gb G 1), .int x1] (WB G p_female p_born p_toldDeath p_lastYear p_father p_mother p_fatherGrade p_motherGrade p_size g_holder g_arms g_from g_size r_marks r_arms r_root r_steps r_grade r_marksAboveOne q_rows q_sizes t_bytes t_length s_tokens s_starts s_size a_code a_codeSize a_at a_token a_fault a_place o_texts o_names o_operands o_size o_open o_refuses o_differs o_fees c_years c_rows c_size x_faultPlace ++ fr) r (WB G p_female p_born p_toldDeath p_lastYear p_father p_mother p_fatherGrade p_motherGrade p_size g_holder g_arms g_from g_size r_marks r_arms r_root r_steps r_grade r_marksAboveOne q_rows q_sizes t_bytes t_length s_tokens s_starts s_size a_code a_codeSize a_at a_token a_fault a_place o_texts o_names o_operands o_size o_open o_refuses o_differs o_fees c_years c_rows c_size x_faultPlace ++ fr) := by
  refine Ci.of (by decide) (Nat.le_of_ble_eq_true rfl) (fun Y hX hQ => ?_)
  refine j_lv (lv' := [(0, .ref (gb G 1)), (1, .int x1)]) rfl ?_
  unfold f_X4_motherGradeOf at hf
  refine j_aload_n hX dX4_motherGradeOf_0 1 rfl 0 rfl rfl ?_
  refine j_iload_n hX dX4_motherGradeOf_1 2 rfl 1 rfl rfl ?_
  obtain ⟨v1, hv1, hf⟩ := ibd hf
  refine z_i (As := [.int x1]) (rest := []) (q0 := 1) hX dX4_motherGradeOf_2 5 rfl (t_X4_has x1 hv1) mc_X4_has mv_X4_has ml_X4_58 rfl rfl (Nat.le_of_ble_eq_true rfl) (Nat.le_refl _) (Nat.le_refl _) rfl (Nat.le_of_ble_eq_true rfl) ?_
  refine j_if_eq hX dX4_motherGradeOf_5 8 17 rfl rfl (fun h2 => ?_) (fun h2 => ?_)
  · replace hf := itt h2 hf
    refine j_iconst (v := 0) hX dX4_motherGradeOf_17 18 rfl (by decide) ?_
    refine j_sub [] rfl ?_
    exact t_X4_motherGradeOf_18 hX hQ   0 hf
  · replace hf := itf h2 hf
    refine j_aload_n hX dX4_motherGradeOf_8 9 rfl 0 rfl rfl ?_
    refine j_get hX dX4_motherGradeOf_9 12 rfl fg_X4_34 1 rfl rfl ?_
    refine j_iload_n hX dX4_motherGradeOf_12 13 rfl 1 rfl rfl ?_
    obtain ⟨hb3, hf⟩ := ign hf
    refine j_iald hX dX4_motherGradeOf_13 14 rfl 9 rfl hb3 ?_
    refine j_goto hX dX4_motherGradeOf_14 18 rfl ?_
    refine j_sub [] rfl ?_
    exact t_X4_motherGradeOf_18 hX hQ   (p_motherGrade (Int32.toNatClampNeg x1)) hf
def g_X4_isLiving_33 (s0 : Int32) : Option (Int32) :=
  if isB s0 = true then some s0 else none
set_option maxRecDepth 100000 in
set_option maxHeartbeats 4000000 in
theorem t_X4_isLiving_33 {Y : YT} {r : Int32}  (hX : CX l G cX4_isLiving 3 RX4 Y) (hQ : EQi G Y 0 0 .boolean r (WB G p_female p_born p_toldDeath p_lastYear p_father p_mother p_fatherGrade p_motherGrade p_size g_holder g_arms g_from g_size r_marks r_arms r_root r_steps r_grade r_marksAboveOne q_rows q_sizes t_bytes t_length s_tokens s_starts s_size a_code a_codeSize a_at a_token a_fault a_place o_texts o_names o_operands o_size o_open o_refuses o_differs o_fees c_years c_rows c_size x_faultPlace ++ fr))  (s0 : Int32) (hf : g_X4_isLiving_33 s0 = some r) : J l G (rmD 2 0 0) Y 0 0 33 [] [.int s0] (WB G p_female p_born p_toldDeath p_lastYear p_father p_mother p_fatherGrade p_motherGrade p_size g_holder g_arms g_from g_size r_marks r_arms r_root r_steps r_grade r_marksAboveOne q_rows q_sizes t_bytes t_length s_tokens s_starts s_size a_code a_codeSize a_at a_token a_fault a_place o_texts o_names o_operands o_size o_open o_refuses o_differs o_fees c_years c_rows c_size x_faultPlace ++ fr) := by
  unfold g_X4_isLiving_33 at hf
  obtain ⟨hb3, hf⟩ := ign hf
  replace hf := Option.some.inj hf
  subst hf
  exact j_zret hX hQ hb3 dX4_isLiving_33
def g_X4_isLiving_32  : Option (Int32) :=
  g_X4_isLiving_33 0
set_option maxRecDepth 100000 in
set_option maxHeartbeats 4000000 in
theorem t_X4_isLiving_32 {Y : YT} {r : Int32}  (hX : CX l G cX4_isLiving 3 RX4 Y) (hQ : EQi G Y 0 0 .boolean r (WB G p_female p_born p_toldDeath p_lastYear p_father p_mother p_fatherGrade p_motherGrade p_size g_holder g_arms g_from g_size r_marks r_arms r_root r_steps r_grade r_marksAboveOne q_rows q_sizes t_bytes t_length s_tokens s_starts s_size a_code a_codeSize a_at a_token a_fault a_place o_texts o_names o_operands o_size o_open o_refuses o_differs o_fees c_years c_rows c_size x_faultPlace ++ fr))   (hf : g_X4_isLiving_32  = some r) : J l G (rmD 2 0 0) Y 0 0 32 [] [] (WB G p_female p_born p_toldDeath p_lastYear p_father p_mother p_fatherGrade p_motherGrade p_size g_holder g_arms g_from g_size r_marks r_arms r_root r_steps r_grade r_marksAboveOne q_rows q_sizes t_bytes t_length s_tokens s_starts s_size a_code a_codeSize a_at a_token a_fault a_place o_texts o_names o_operands o_size o_open o_refuses o_differs o_fees c_years c_rows c_size x_faultPlace ++ fr) := by
  unfold g_X4_isLiving_32 at hf
  refine j_iconst (v := 0) hX dX4_isLiving_32 33 rfl (by decide) ?_
  exact t_X4_isLiving_33 hX hQ   0 hf
def f_X4_isLiving (p_born : Nat → Int32) (p_lastYear : Nat → Int32) (p_size : Int32) (x1 : Int32) (x2 : Int32) : Option (Int32) :=
  (f_X4_has p_size x1).bind fun v1 => if v1 = 0 then g_X4_isLiving_32  else if inb x1 60 = true then if x2 < (p_born (Int32.toNatClampNeg x1)) then g_X4_isLiving_32  else if inb x1 60 = true then if (p_lastYear (Int32.toNatClampNeg x1)) < x2 then g_X4_isLiving_32  else g_X4_isLiving_33 1 else none else none
set_option maxRecDepth 100000 in
set_option maxHeartbeats 4000000 in
theorem t_X4_isLiving  (x1 : Int32) (x2 : Int32) {r : Int32} (hf : f_X4_isLiving p_born p_lastYear p_size x1 x2 = some r) : Ci l G 2 0 0 yX4_isLiving cX4_isLiving 3 .boolean [.ref (gb G 1), .int x1, .int x2] (WB G p_female p_born p_toldDeath p_lastYear p_father p_mother p_fatherGrade p_motherGrade p_size g_holder g_arms g_from g_size r_marks r_arms r_root r_steps r_grade r_marksAboveOne q_rows q_sizes t_bytes t_length s_tokens s_starts s_size a_code a_codeSize a_at a_token a_fault a_place o_texts o_names o_operands o_size o_open o_refuses o_differs o_fees c_years c_rows c_size x_faultPlace ++ fr) r (WB G p_female p_born p_toldDeath p_lastYear p_father p_mother p_fatherGrade p_motherGrade p_size g_holder g_arms g_from g_size r_marks r_arms r_root r_steps r_grade r_marksAboveOne q_rows q_sizes t_bytes t_length s_tokens s_starts s_size a_code a_codeSize a_at a_token a_fault a_place o_texts o_names o_operands o_size o_open o_refuses o_differs o_fees c_years c_rows c_size x_faultPlace ++ fr) := by
  refine Ci.of (by decide) (Nat.le_of_ble_eq_true rfl) (fun Y hX hQ => ?_)
  refine j_lv (lv' := [(0, .ref (gb G 1)), (1, .int x1), (2, .int x2)]) rfl ?_
  unfold f_X4_isLiving at hf
  refine j_aload_n hX dX4_isLiving_0 1 rfl 0 rfl rfl ?_
  refine j_iload_n hX dX4_isLiving_1 2 rfl 1 rfl rfl ?_
  obtain ⟨v1, hv1, hf⟩ := ibd hf
  refine z_i (As := [.int x1]) (rest := []) (q0 := 1) hX dX4_isLiving_2 5 rfl (t_X4_has x1 hv1) mc_X4_has mv_X4_has ml_X4_58 rfl rfl (Nat.le_of_ble_eq_true rfl) (Nat.le_refl _) (Nat.le_refl _) rfl (Nat.le_of_ble_eq_true rfl) ?_
  refine j_if_eq hX dX4_isLiving_5 8 32 rfl rfl (fun h2 => ?_) (fun h2 => ?_)
  · replace hf := itt h2 hf
    refine j_sub [] rfl ?_
    exact t_X4_isLiving_32 hX hQ    hf
  · replace hf := itf h2 hf
    refine j_aload_n hX dX4_isLiving_8 9 rfl 0 rfl rfl ?_
    refine j_get hX dX4_isLiving_9 12 rfl fg_X4_15 1 rfl rfl ?_
    refine j_iload_n hX dX4_isLiving_12 13 rfl 1 rfl rfl ?_
    obtain ⟨hb4, hf⟩ := ign hf
    refine j_iald hX dX4_isLiving_13 14 rfl 3 rfl hb4 ?_
    refine j_iload_n hX dX4_isLiving_14 15 rfl 2 rfl rfl ?_
    refine j_icmp_gt hX dX4_isLiving_15 18 32 rfl rfl (fun h5 => ?_) (fun h5 => ?_)
    · replace hf := itt h5 hf
      refine j_sub [] rfl ?_
      exact t_X4_isLiving_32 hX hQ    hf
    · replace hf := itf h5 hf
      refine j_aload_n hX dX4_isLiving_18 19 rfl 0 rfl rfl ?_
      refine j_get hX dX4_isLiving_19 22 rfl fg_X4_22 1 rfl rfl ?_
      refine j_iload_n hX dX4_isLiving_22 23 rfl 1 rfl rfl ?_
      obtain ⟨hb6, hf⟩ := ign hf
      refine j_iald hX dX4_isLiving_23 24 rfl 5 rfl hb6 ?_
      refine j_iload_n hX dX4_isLiving_24 25 rfl 2 rfl rfl ?_
      refine j_icmp_lt hX dX4_isLiving_25 28 32 rfl rfl (fun h7 => ?_) (fun h7 => ?_)
      · replace hf := itt h7 hf
        refine j_sub [] rfl ?_
        exact t_X4_isLiving_32 hX hQ    hf
      · replace hf := itf h7 hf
        refine j_iconst (v := 1) hX dX4_isLiving_28 29 rfl (by decide) ?_
        refine j_goto hX dX4_isLiving_29 33 rfl ?_
        refine j_sub [] rfl ?_
        exact t_X4_isLiving_33 hX hQ   1 hf
def g_X4_childrenOf_35 (k4 : Int32 → Int32 → Int32 → Option (Int32)) (x1 : Int32) (x2 : Int32) (x3 : Int32) : Option (Int32) :=
  k4 x1 x2 (x3 + 1)
set_option maxRecDepth 100000 in
set_option maxHeartbeats 4000000 in
theorem t_X4_childrenOf_35 {Y : YT} {r : Int32} {k4 : Int32 → Int32 → Int32 → Option (Int32)} (hX : CX l G cX4_childrenOf 4 RX4 Y) (hQ : EQi G Y 0 0 .int r (WB G p_female p_born p_toldDeath p_lastYear p_father p_mother p_fatherGrade p_motherGrade p_size g_holder g_arms g_from g_size r_marks r_arms r_root r_steps r_grade r_marksAboveOne q_rows q_sizes t_bytes t_length s_tokens s_starts s_size a_code a_codeSize a_at a_token a_fault a_place o_texts o_names o_operands o_size o_open o_refuses o_differs o_fees c_years c_rows c_size x_faultPlace ++ fr)) (hk4 : ∀ (x1 : Int32) (x2 : Int32) (x3 : Int32), k4 x1 x2 x3  = some r → J l G (rmD 1 0 0) Y 0 0 4 [(0, .ref (gb G 1)), (1, .int x1), (2, .int x2), (3, .int x3)] [] (WB G p_female p_born p_toldDeath p_lastYear p_father p_mother p_fatherGrade p_motherGrade p_size g_holder g_arms g_from g_size r_marks r_arms r_root r_steps r_grade r_marksAboveOne q_rows q_sizes t_bytes t_length s_tokens s_starts s_size a_code a_codeSize a_at a_token a_fault a_place o_texts o_names o_operands o_size o_open o_refuses o_differs o_fees c_years c_rows c_size x_faultPlace ++ fr)) (x1 : Int32) (x2 : Int32) (x3 : Int32) (hf : g_X4_childrenOf_35 k4 x1 x2 x3 = some r) : J l G (rmD 1 0 0) Y 0 0 35 [(0, .ref (gb G 1)), (1, .int x1), (2, .int x2), (3, .int x3)] [] (WB G p_female p_born p_toldDeath p_lastYear p_father p_mother p_fatherGrade p_motherGrade p_size g_holder g_arms g_from g_size r_marks r_arms r_root r_steps r_grade r_marksAboveOne q_rows q_sizes t_bytes t_length s_tokens s_starts s_size a_code a_codeSize a_at a_token a_fault a_place o_texts o_names o_operands o_size o_open o_refuses o_differs o_fees c_years c_rows c_size x_faultPlace ++ fr) := by
  unfold g_X4_childrenOf_35 at hf
  refine j_iinc (v := x3 + 1) hX dX4_childrenOf_35 38 rfl 3 rfl rfl (by decide) (lv' := [(3, .int (x3 + 1)), (0, .ref (gb G 1)), (1, .int x1), (2, .int x2)]) rfl ?_
  refine j_goto hX dX4_childrenOf_38 4 rfl ?_
  refine j_sub [1, 2, 3, 0] rfl ?_
  exact hk4 x1 x2 (x3 + 1) hf
def g_X4_childrenOf_32 (k4 : Int32 → Int32 → Int32 → Option (Int32)) (x1 : Int32) (x2 : Int32) (x3 : Int32) : Option (Int32) :=
  g_X4_childrenOf_35 k4 x1 (x2 + 1) x3
set_option maxRecDepth 100000 in
set_option maxHeartbeats 4000000 in
theorem t_X4_childrenOf_32 {Y : YT} {r : Int32} {k4 : Int32 → Int32 → Int32 → Option (Int32)} (hX : CX l G cX4_childrenOf 4 RX4 Y) (hQ : EQi G Y 0 0 .int r (WB G p_female p_born p_toldDeath p_lastYear p_father p_mother p_fatherGrade p_motherGrade p_size g_holder g_arms g_from g_size r_marks r_arms r_root r_steps r_grade r_marksAboveOne q_rows q_sizes t_bytes t_length s_tokens s_starts s_size a_code a_codeSize a_at a_token a_fault a_place o_texts o_names o_operands o_size o_open o_refuses o_differs o_fees c_years c_rows c_size x_faultPlace ++ fr)) (hk4 : ∀ (x1 : Int32) (x2 : Int32) (x3 : Int32), k4 x1 x2 x3  = some r → J l G (rmD 1 0 0) Y 0 0 4 [(0, .ref (gb G 1)), (1, .int x1), (2, .int x2), (3, .int x3)] [] (WB G p_female p_born p_toldDeath p_lastYear p_father p_mother p_fatherGrade p_motherGrade p_size g_holder g_arms g_from g_size r_marks r_arms r_root r_steps r_grade r_marksAboveOne q_rows q_sizes t_bytes t_length s_tokens s_starts s_size a_code a_codeSize a_at a_token a_fault a_place o_texts o_names o_operands o_size o_open o_refuses o_differs o_fees c_years c_rows c_size x_faultPlace ++ fr)) (x1 : Int32) (x2 : Int32) (x3 : Int32) (hf : g_X4_childrenOf_32 k4 x1 x2 x3 = some r) : J l G (rmD 1 0 0) Y 0 0 32 [(0, .ref (gb G 1)), (1, .int x1), (2, .int x2), (3, .int x3)] [] (WB G p_female p_born p_toldDeath p_lastYear p_father p_mother p_fatherGrade p_motherGrade p_size g_holder g_arms g_from g_size r_marks r_arms r_root r_steps r_grade r_marksAboveOne q_rows q_sizes t_bytes t_length s_tokens s_starts s_size a_code a_codeSize a_at a_token a_fault a_place o_texts o_names o_operands o_size o_open o_refuses o_differs o_fees c_years c_rows c_size x_faultPlace ++ fr) := by
  unfold g_X4_childrenOf_32 at hf
  refine j_iinc (v := x2 + 1) hX dX4_childrenOf_32 35 rfl 2 rfl rfl (by decide) (lv' := [(2, .int (x2 + 1)), (0, .ref (gb G 1)), (1, .int x1), (3, .int x3)]) rfl ?_
  refine j_sub [1, 2, 0, 3] rfl ?_
  exact t_X4_childrenOf_35 hX hQ  hk4 x1 (x2 + 1) x3 hf
def g_X4_childrenOf_4 (p_father : Nat → Int32) (p_mother : Nat → Int32) (p_size : Int32) (k4 : Int32 → Int32 → Int32 → Option (Int32)) (x1 : Int32) (x2 : Int32) (x3 : Int32) : Option (Int32) :=
  if p_size ≤ x3 then some x2 else if inb x3 60 = true then if (p_father (Int32.toNatClampNeg x3)) = x1 then g_X4_childrenOf_32 k4 x1 x2 x3 else if inb x3 60 = true then if (p_mother (Int32.toNatClampNeg x3)) = x1 then g_X4_childrenOf_32 k4 x1 x2 x3 else g_X4_childrenOf_35 k4 x1 x2 x3 else none else none
set_option maxRecDepth 100000 in
set_option maxHeartbeats 4000000 in
theorem t_X4_childrenOf_4 {Y : YT} {r : Int32} {k4 : Int32 → Int32 → Int32 → Option (Int32)} (hX : CX l G cX4_childrenOf 4 RX4 Y) (hQ : EQi G Y 0 0 .int r (WB G p_female p_born p_toldDeath p_lastYear p_father p_mother p_fatherGrade p_motherGrade p_size g_holder g_arms g_from g_size r_marks r_arms r_root r_steps r_grade r_marksAboveOne q_rows q_sizes t_bytes t_length s_tokens s_starts s_size a_code a_codeSize a_at a_token a_fault a_place o_texts o_names o_operands o_size o_open o_refuses o_differs o_fees c_years c_rows c_size x_faultPlace ++ fr)) (hk4 : ∀ (x1 : Int32) (x2 : Int32) (x3 : Int32), k4 x1 x2 x3  = some r → J l G (rmD 1 0 0) Y 0 0 4 [(0, .ref (gb G 1)), (1, .int x1), (2, .int x2), (3, .int x3)] [] (WB G p_female p_born p_toldDeath p_lastYear p_father p_mother p_fatherGrade p_motherGrade p_size g_holder g_arms g_from g_size r_marks r_arms r_root r_steps r_grade r_marksAboveOne q_rows q_sizes t_bytes t_length s_tokens s_starts s_size a_code a_codeSize a_at a_token a_fault a_place o_texts o_names o_operands o_size o_open o_refuses o_differs o_fees c_years c_rows c_size x_faultPlace ++ fr)) (x1 : Int32) (x2 : Int32) (x3 : Int32) (hf : g_X4_childrenOf_4 p_father p_mother p_size k4 x1 x2 x3 = some r) : J l G (rmD 1 0 0) Y 0 0 4 [(0, .ref (gb G 1)), (1, .int x1), (2, .int x2), (3, .int x3)] [] (WB G p_female p_born p_toldDeath p_lastYear p_father p_mother p_fatherGrade p_motherGrade p_size g_holder g_arms g_from g_size r_marks r_arms r_root r_steps r_grade r_marksAboveOne q_rows q_sizes t_bytes t_length s_tokens s_starts s_size a_code a_codeSize a_at a_token a_fault a_place o_texts o_names o_operands o_size o_open o_refuses o_differs o_fees c_years c_rows c_size x_faultPlace ++ fr) := by
  unfold g_X4_childrenOf_4 at hf
  refine j_iload_n hX dX4_childrenOf_4 5 rfl 3 rfl rfl ?_
  refine j_aload_n hX dX4_childrenOf_5 6 rfl 0 rfl rfl ?_
  refine j_get hX dX4_childrenOf_6 9 rfl fg_X4_37 1 rfl rfl ?_
  refine j_icmp_ge hX dX4_childrenOf_9 12 41 rfl rfl (fun h1 => ?_) (fun h1 => ?_)
  · replace hf := itt h1 hf
    refine j_iload_n hX dX4_childrenOf_41 42 rfl 2 rfl rfl ?_
    replace hf := Option.some.inj hf
    subst hf
    exact j_iret hX hQ dX4_childrenOf_42
  · replace hf := itf h1 hf
    refine j_aload_n hX dX4_childrenOf_12 13 rfl 0 rfl rfl ?_
    refine j_get hX dX4_childrenOf_13 16 rfl fg_X4_25 1 rfl rfl ?_
    refine j_iload_n hX dX4_childrenOf_16 17 rfl 3 rfl rfl ?_
    obtain ⟨hb2, hf⟩ := ign hf
    refine j_iald hX dX4_childrenOf_17 18 rfl 6 rfl hb2 ?_
    refine j_iload_n hX dX4_childrenOf_18 19 rfl 1 rfl rfl ?_
    refine j_icmp_eq hX dX4_childrenOf_19 22 32 rfl rfl (fun h3 => ?_) (fun h3 => ?_)
    · replace hf := itt h3 hf
      exact t_X4_childrenOf_32 hX hQ  hk4 x1 x2 x3 hf
    · replace hf := itf h3 hf
      refine j_aload_n hX dX4_childrenOf_22 23 rfl 0 rfl rfl ?_
      refine j_get hX dX4_childrenOf_23 26 rfl fg_X4_28 1 rfl rfl ?_
      refine j_iload_n hX dX4_childrenOf_26 27 rfl 3 rfl rfl ?_
      obtain ⟨hb4, hf⟩ := ign hf
      refine j_iald hX dX4_childrenOf_27 28 rfl 7 rfl hb4 ?_
      refine j_iload_n hX dX4_childrenOf_28 29 rfl 1 rfl rfl ?_
      refine j_icmp_ne hX dX4_childrenOf_29 32 35 rfl rfl (fun h5 => ?_) (fun h5 => ?_)
      · replace hf := itf h5 hf
        exact t_X4_childrenOf_35 hX hQ  hk4 x1 x2 x3 hf
      · replace hf := itt h5 hf
        exact t_X4_childrenOf_32 hX hQ  hk4 x1 x2 x3 hf
def f_X4_childrenOf_4 (p_father : Nat → Int32) (p_mother : Nat → Int32) (p_size : Int32) : Nat → (Int32 × Int32 × Int32) → Option (Int32) :=
  lp (fun k v => g_X4_childrenOf_4 p_father p_mother p_size (fun x1 x2 x3 => k (x1, x2, x3)) v.1 v.2.1 v.2.2)
set_option maxRecDepth 100000 in
set_option maxHeartbeats 4000000 in
theorem u_X4_childrenOf_4 {Y : YT} {r : Int32}  (hX : CX l G cX4_childrenOf 4 RX4 Y) (hQ : EQi G Y 0 0 .int r (WB G p_female p_born p_toldDeath p_lastYear p_father p_mother p_fatherGrade p_motherGrade p_size g_holder g_arms g_from g_size r_marks r_arms r_root r_steps r_grade r_marksAboveOne q_rows q_sizes t_bytes t_length s_tokens s_starts s_size a_code a_codeSize a_at a_token a_fault a_place o_texts o_names o_operands o_size o_open o_refuses o_differs o_fees c_years c_rows c_size x_faultPlace ++ fr))  (n : Nat) (v : Int32 × Int32 × Int32) (hf : f_X4_childrenOf_4 p_father p_mother p_size n v = some r) : J l G (rmD 1 0 0) Y 0 0 4 [(0, .ref (gb G 1)), (1, .int v.1), (2, .int v.2.1), (3, .int v.2.2)] [] (WB G p_female p_born p_toldDeath p_lastYear p_father p_mother p_fatherGrade p_motherGrade p_size g_holder g_arms g_from g_size r_marks r_arms r_root r_steps r_grade r_marksAboveOne q_rows q_sizes t_bytes t_length s_tokens s_starts s_size a_code a_codeSize a_at a_token a_fault a_place o_texts o_names o_operands o_size o_open o_refuses o_differs o_fees c_years c_rows c_size x_faultPlace ++ fr) :=
  lp_ind (P := fun v : Int32 × Int32 × Int32 => J l G (rmD 1 0 0) Y 0 0 4 [(0, .ref (gb G 1)), (1, .int v.1), (2, .int v.2.1), (3, .int v.2.2)] [] (WB G p_female p_born p_toldDeath p_lastYear p_father p_mother p_fatherGrade p_motherGrade p_size g_holder g_arms g_from g_size r_marks r_arms r_root r_steps r_grade r_marksAboveOne q_rows q_sizes t_bytes t_length s_tokens s_starts s_size a_code a_codeSize a_at a_token a_fault a_place o_texts o_names o_operands o_size o_open o_refuses o_differs o_fees c_years c_rows c_size x_faultPlace ++ fr)) (fun k hk v hf => t_X4_childrenOf_4 hX hQ   (fun x1 x2 x3 h => hk (x1, x2, x3) h) v.1 v.2.1 v.2.2 hf) n v hf
def f_X4_childrenOf (fu : Nat) (p_father : Nat → Int32) (p_mother : Nat → Int32) (p_size : Int32) (x1 : Int32) : Option (Int32) :=
  f_X4_childrenOf_4 p_father p_mother p_size fu (x1, 0, 0)
set_option maxRecDepth 100000 in
set_option maxHeartbeats 4000000 in
theorem t_X4_childrenOf {fu : Nat}  (x1 : Int32) {r : Int32} (hf : f_X4_childrenOf fu p_father p_mother p_size x1 = some r) : Ci l G 1 0 0 yX4_childrenOf cX4_childrenOf 4 .int [.ref (gb G 1), .int x1] (WB G p_female p_born p_toldDeath p_lastYear p_father p_mother p_fatherGrade p_motherGrade p_size g_holder g_arms g_from g_size r_marks r_arms r_root r_steps r_grade r_marksAboveOne q_rows q_sizes t_bytes t_length s_tokens s_starts s_size a_code a_codeSize a_at a_token a_fault a_place o_texts o_names o_operands o_size o_open o_refuses o_differs o_fees c_years c_rows c_size x_faultPlace ++ fr) r (WB G p_female p_born p_toldDeath p_lastYear p_father p_mother p_fatherGrade p_motherGrade p_size g_holder g_arms g_from g_size r_marks r_arms r_root r_steps r_grade r_marksAboveOne q_rows q_sizes t_bytes t_length s_tokens s_starts s_size a_code a_codeSize a_at a_token a_fault a_place o_texts o_names o_operands o_size o_open o_refuses o_differs o_fees c_years c_rows c_size x_faultPlace ++ fr) := by
  refine Ci.of (by decide) (Nat.le_of_ble_eq_true rfl) (fun Y hX hQ => ?_)
  refine j_lv (lv' := [(0, .ref (gb G 1)), (1, .int x1)]) rfl ?_
  unfold f_X4_childrenOf at hf
  refine j_iconst (v := 0) hX dX4_childrenOf_0 1 rfl (by decide) ?_
  refine j_istore_n hX dX4_childrenOf_1 2 rfl rfl (by decide) (lv' := [(2, .int 0), (0, .ref (gb G 1)), (1, .int x1)]) rfl ?_
  refine j_iconst (v := 0) hX dX4_childrenOf_2 3 rfl (by decide) ?_
  refine j_istore_n hX dX4_childrenOf_3 4 rfl rfl (by decide) (lv' := [(3, .int 0), (2, .int 0), (0, .ref (gb G 1)), (1, .int x1)]) rfl ?_
  refine j_sub [2, 3, 1, 0] rfl ?_
  exact u_X4_childrenOf_4 hX hQ   fu (x1, 0, 0) hf
def g_X4_livingLines_74 (k10 : Int32 → Int64 → Int32 → Option (Int64)) (x1 : Int32) (x2 : Int64) (x4 : Int32) : Option (Int64) :=
  k10 x1 x2 (x4 + (-1))
set_option maxRecDepth 100000 in
set_option maxHeartbeats 4000000 in
theorem t_X4_livingLines_74 {Y : YT} {r : Int64} {k10 : Int32 → Int64 → Int32 → Option (Int64)} (hX : CX l G cX4_livingLines 5 RX4 Y) (hQ : EQl G Y 0 0 r (WB G p_female p_born p_toldDeath p_lastYear p_father p_mother p_fatherGrade p_motherGrade p_size g_holder g_arms g_from g_size r_marks r_arms r_root r_steps r_grade r_marksAboveOne q_rows q_sizes t_bytes t_length s_tokens s_starts s_size a_code a_codeSize a_at a_token a_fault a_place o_texts o_names o_operands o_size o_open o_refuses o_differs o_fees c_years c_rows c_size x_faultPlace ++ fr)) (hk10 : ∀ (x1 : Int32) (x2 : Int64) (x4 : Int32), k10 x1 x2 x4  = some r → J l G (rmD 3 0 0) Y 0 0 10 [(0, .ref (gb G 1)), (1, .int x1), (2, .long x2), (4, .int x4)] [] (WB G p_female p_born p_toldDeath p_lastYear p_father p_mother p_fatherGrade p_motherGrade p_size g_holder g_arms g_from g_size r_marks r_arms r_root r_steps r_grade r_marksAboveOne q_rows q_sizes t_bytes t_length s_tokens s_starts s_size a_code a_codeSize a_at a_token a_fault a_place o_texts o_names o_operands o_size o_open o_refuses o_differs o_fees c_years c_rows c_size x_faultPlace ++ fr)) (x1 : Int32) (x2 : Int64) (x4 : Int32) (hf : g_X4_livingLines_74 k10 x1 x2 x4 = some r) : J l G (rmD 3 0 0) Y 0 0 74 [(0, .ref (gb G 1)), (1, .int x1), (2, .long x2), (4, .int x4)] [] (WB G p_female p_born p_toldDeath p_lastYear p_father p_mother p_fatherGrade p_motherGrade p_size g_holder g_arms g_from g_size r_marks r_arms r_root r_steps r_grade r_marksAboveOne q_rows q_sizes t_bytes t_length s_tokens s_starts s_size a_code a_codeSize a_at a_token a_fault a_place o_texts o_names o_operands o_size o_open o_refuses o_differs o_fees c_years c_rows c_size x_faultPlace ++ fr) := by
  unfold g_X4_livingLines_74 at hf
  refine j_iinc (v := x4 + (-1)) hX dX4_livingLines_74 77 rfl 3 rfl rfl (by decide) (lv' := [(4, .int (x4 + (-1))), (0, .ref (gb G 1)), (1, .int x1), (2, .long x2)]) rfl ?_
  refine j_goto hX dX4_livingLines_77 10 rfl ?_
  refine j_sub [1, 2, 3, 0] rfl ?_
  exact hk10 x1 x2 (x4 + (-1)) hf
def g_X4_livingLines_42 (p_father : Nat → Int32) (k10 : Int32 → Int64 → Int32 → Option (Int64)) (x1 : Int32) (x2 : Int64) (x4 : Int32) : Option (Int64) :=
  (f_X4_isIn x2 x4).bind fun v4 => if v4 = 0 then g_X4_livingLines_74 k10 x1 x2 x4 else if inb x4 60 = true then if (p_father (Int32.toNatClampNeg x4)) = ((-1)) then g_X4_livingLines_74 k10 x1 x2 x4 else if inb x4 60 = true then g_X4_livingLines_74 k10 x1 (x2 ||| (shl64 1 (p_father (Int32.toNatClampNeg x4)))) x4 else none else none
set_option maxRecDepth 100000 in
set_option maxHeartbeats 4000000 in
theorem t_X4_livingLines_42 {Y : YT} {r : Int64} {k10 : Int32 → Int64 → Int32 → Option (Int64)} (hX : CX l G cX4_livingLines 5 RX4 Y) (hQ : EQl G Y 0 0 r (WB G p_female p_born p_toldDeath p_lastYear p_father p_mother p_fatherGrade p_motherGrade p_size g_holder g_arms g_from g_size r_marks r_arms r_root r_steps r_grade r_marksAboveOne q_rows q_sizes t_bytes t_length s_tokens s_starts s_size a_code a_codeSize a_at a_token a_fault a_place o_texts o_names o_operands o_size o_open o_refuses o_differs o_fees c_years c_rows c_size x_faultPlace ++ fr)) (hk10 : ∀ (x1 : Int32) (x2 : Int64) (x4 : Int32), k10 x1 x2 x4  = some r → J l G (rmD 3 0 0) Y 0 0 10 [(0, .ref (gb G 1)), (1, .int x1), (2, .long x2), (4, .int x4)] [] (WB G p_female p_born p_toldDeath p_lastYear p_father p_mother p_fatherGrade p_motherGrade p_size g_holder g_arms g_from g_size r_marks r_arms r_root r_steps r_grade r_marksAboveOne q_rows q_sizes t_bytes t_length s_tokens s_starts s_size a_code a_codeSize a_at a_token a_fault a_place o_texts o_names o_operands o_size o_open o_refuses o_differs o_fees c_years c_rows c_size x_faultPlace ++ fr)) (x1 : Int32) (x2 : Int64) (x4 : Int32) (hf : g_X4_livingLines_42 p_father k10 x1 x2 x4 = some r) : J l G (rmD 3 0 0) Y 0 0 42 [(0, .ref (gb G 1)), (1, .int x1), (2, .long x2), (4, .int x4)] [] (WB G p_female p_born p_toldDeath p_lastYear p_father p_mother p_fatherGrade p_motherGrade p_size g_holder g_arms g_from g_size r_marks r_arms r_root r_steps r_grade r_marksAboveOne q_rows q_sizes t_bytes t_length s_tokens s_starts s_size a_code a_codeSize a_at a_token a_fault a_place o_texts o_names o_operands o_size o_open o_refuses o_differs o_fees c_years c_rows c_size x_faultPlace ++ fr) := by
  unfold g_X4_livingLines_42 at hf
  refine j_lload_n hX dX4_livingLines_42 43 rfl 2 rfl rfl ?_
  refine j_iload hX dX4_livingLines_43 45 rfl 3 rfl ?_
  obtain ⟨v4, hv4, hf⟩ := ibd hf
  refine z_si (As := [.long x2, .int x4]) (rest := []) hX dX4_livingLines_45 48 rfl (t_X4_isIn x2 x4 hv4) mc_X4_isIn ms_X4_isIn ml_X4_64 (Nat.le_of_ble_eq_true rfl) (Nat.le_refl _) (Nat.le_refl _) rfl (Nat.le_of_ble_eq_true rfl) ?_
  refine j_if_eq hX dX4_livingLines_48 51 74 rfl rfl (fun h5 => ?_) (fun h5 => ?_)
  · replace hf := itt h5 hf
    exact t_X4_livingLines_74 hX hQ  hk10 x1 x2 x4 hf
  · replace hf := itf h5 hf
    refine j_aload_n hX dX4_livingLines_51 52 rfl 0 rfl rfl ?_
    refine j_get hX dX4_livingLines_52 55 rfl fg_X4_25 1 rfl rfl ?_
    refine j_iload hX dX4_livingLines_55 57 rfl 3 rfl ?_
    obtain ⟨hb6, hf⟩ := ign hf
    refine j_iald hX dX4_livingLines_57 58 rfl 6 rfl hb6 ?_
    refine j_iconst (v := (-1)) hX dX4_livingLines_58 59 rfl (by decide) ?_
    refine j_icmp_eq hX dX4_livingLines_59 62 74 rfl rfl (fun h7 => ?_) (fun h7 => ?_)
    · replace hf := itt h7 hf
      exact t_X4_livingLines_74 hX hQ  hk10 x1 x2 x4 hf
    · replace hf := itf h7 hf
      refine j_lload_n hX dX4_livingLines_62 63 rfl 2 rfl rfl ?_
      refine j_lconst (v := 1) hX dX4_livingLines_63 64 rfl (by decide) ?_
      refine j_aload_n hX dX4_livingLines_64 65 rfl 0 rfl rfl ?_
      refine j_get hX dX4_livingLines_65 68 rfl fg_X4_25 1 rfl rfl ?_
      refine j_iload hX dX4_livingLines_68 70 rfl 3 rfl ?_
      obtain ⟨hb8, hf⟩ := ign hf
      refine j_iald hX dX4_livingLines_70 71 rfl 6 rfl hb8 ?_
      refine j_lshl hX dX4_livingLines_71 72 rfl ?_
      refine j_lor hX dX4_livingLines_72 73 rfl ?_
      refine j_lstore_n hX dX4_livingLines_73 74 rfl rfl (by decide) (lv' := [(2, .long (x2 ||| (shl64 1 (p_father (Int32.toNatClampNeg x4))))), (0, .ref (gb G 1)), (1, .int x1), (4, .int x4)]) rfl ?_
      refine j_sub [1, 2, 0, 3] rfl ?_
      exact t_X4_livingLines_74 hX hQ  hk10 x1 (x2 ||| (shl64 1 (p_father (Int32.toNatClampNeg x4)))) x4 hf
def g_X4_livingLines_10 (p_female : Nat → Int32) (p_born : Nat → Int32) (p_lastYear : Nat → Int32) (p_father : Nat → Int32) (p_size : Int32) (k10 : Int32 → Int64 → Int32 → Option (Int64)) (x1 : Int32) (x2 : Int64) (x4 : Int32) : Option (Int64) :=
  if x4 < 0 then some x2 else if inb x4 60 = true then if (p_female (Int32.toNatClampNeg x4)) = 0 then (f_X4_isLiving p_born p_lastYear p_size x4 x1).bind fun v9 => if v9 = 0 then g_X4_livingLines_42 p_father k10 x1 x2 x4 else g_X4_livingLines_42 p_father k10 x1 (x2 ||| (shl64 1 x4)) x4 else g_X4_livingLines_42 p_father k10 x1 x2 x4 else none
set_option maxRecDepth 100000 in
set_option maxHeartbeats 4000000 in
theorem t_X4_livingLines_10 {Y : YT} {r : Int64} {k10 : Int32 → Int64 → Int32 → Option (Int64)} (hX : CX l G cX4_livingLines 5 RX4 Y) (hQ : EQl G Y 0 0 r (WB G p_female p_born p_toldDeath p_lastYear p_father p_mother p_fatherGrade p_motherGrade p_size g_holder g_arms g_from g_size r_marks r_arms r_root r_steps r_grade r_marksAboveOne q_rows q_sizes t_bytes t_length s_tokens s_starts s_size a_code a_codeSize a_at a_token a_fault a_place o_texts o_names o_operands o_size o_open o_refuses o_differs o_fees c_years c_rows c_size x_faultPlace ++ fr)) (hk10 : ∀ (x1 : Int32) (x2 : Int64) (x4 : Int32), k10 x1 x2 x4  = some r → J l G (rmD 3 0 0) Y 0 0 10 [(0, .ref (gb G 1)), (1, .int x1), (2, .long x2), (4, .int x4)] [] (WB G p_female p_born p_toldDeath p_lastYear p_father p_mother p_fatherGrade p_motherGrade p_size g_holder g_arms g_from g_size r_marks r_arms r_root r_steps r_grade r_marksAboveOne q_rows q_sizes t_bytes t_length s_tokens s_starts s_size a_code a_codeSize a_at a_token a_fault a_place o_texts o_names o_operands o_size o_open o_refuses o_differs o_fees c_years c_rows c_size x_faultPlace ++ fr)) (x1 : Int32) (x2 : Int64) (x4 : Int32) (hf : g_X4_livingLines_10 p_female p_born p_lastYear p_father p_size k10 x1 x2 x4 = some r) : J l G (rmD 3 0 0) Y 0 0 10 [(0, .ref (gb G 1)), (1, .int x1), (2, .long x2), (4, .int x4)] [] (WB G p_female p_born p_toldDeath p_lastYear p_father p_mother p_fatherGrade p_motherGrade p_size g_holder g_arms g_from g_size r_marks r_arms r_root r_steps r_grade r_marksAboveOne q_rows q_sizes t_bytes t_length s_tokens s_starts s_size a_code a_codeSize a_at a_token a_fault a_place o_texts o_names o_operands o_size o_open o_refuses o_differs o_fees c_years c_rows c_size x_faultPlace ++ fr) := by
  unfold g_X4_livingLines_10 at hf
  refine j_iload hX dX4_livingLines_10 12 rfl 3 rfl ?_
  refine j_if_lt hX dX4_livingLines_12 15 80 rfl rfl (fun h1 => ?_) (fun h1 => ?_)
  · replace hf := itt h1 hf
    refine j_lload_n hX dX4_livingLines_80 81 rfl 2 rfl rfl ?_
    replace hf := Option.some.inj hf
    subst hf
    exact j_lret hX hQ dX4_livingLines_81
  · replace hf := itf h1 hf
    refine j_aload_n hX dX4_livingLines_15 16 rfl 0 rfl rfl ?_
    refine j_get hX dX4_livingLines_16 19 rfl fg_X4_11 1 rfl rfl ?_
    refine j_iload hX dX4_livingLines_19 21 rfl 3 rfl ?_
    obtain ⟨hb2, hf⟩ := ign hf
    refine j_zald hX dX4_livingLines_21 22 rfl 2 rfl hb2 ?_
    refine j_if_ne hX dX4_livingLines_22 25 42 rfl rfl (fun h3 => ?_) (fun h3 => ?_)
    · replace hf := itf h3 hf
      exact t_X4_livingLines_42 hX hQ  hk10 x1 x2 x4 hf
    · replace hf := itt h3 hf
      refine j_aload_n hX dX4_livingLines_25 26 rfl 0 rfl rfl ?_
      refine j_iload hX dX4_livingLines_26 28 rfl 3 rfl ?_
      refine j_iload_n hX dX4_livingLines_28 29 rfl 1 rfl rfl ?_
      obtain ⟨v9, hv9, hf⟩ := ibd hf
      refine z_i (As := [.int x4, .int x1]) (rest := []) (q0 := 1) hX dX4_livingLines_29 32 rfl (t_X4_isLiving x4 x1 hv9) mc_X4_isLiving mv_X4_isLiving ml_X4_61 rfl rfl (Nat.le_of_ble_eq_true rfl) (Nat.le_refl _) (Nat.le_refl _) rfl (Nat.le_of_ble_eq_true rfl) ?_
      refine j_if_eq hX dX4_livingLines_32 35 42 rfl rfl (fun h10 => ?_) (fun h10 => ?_)
      · replace hf := itt h10 hf
        exact t_X4_livingLines_42 hX hQ  hk10 x1 x2 x4 hf
      · replace hf := itf h10 hf
        refine j_lload_n hX dX4_livingLines_35 36 rfl 2 rfl rfl ?_
        refine j_lconst (v := 1) hX dX4_livingLines_36 37 rfl (by decide) ?_
        refine j_iload hX dX4_livingLines_37 39 rfl 3 rfl ?_
        refine j_lshl hX dX4_livingLines_39 40 rfl ?_
        refine j_lor hX dX4_livingLines_40 41 rfl ?_
        refine j_lstore_n hX dX4_livingLines_41 42 rfl rfl (by decide) (lv' := [(2, .long (x2 ||| (shl64 1 x4))), (0, .ref (gb G 1)), (1, .int x1), (4, .int x4)]) rfl ?_
        refine j_sub [1, 2, 0, 3] rfl ?_
        exact t_X4_livingLines_42 hX hQ  hk10 x1 (x2 ||| (shl64 1 x4)) x4 hf
def f_X4_livingLines_10 (p_female : Nat → Int32) (p_born : Nat → Int32) (p_lastYear : Nat → Int32) (p_father : Nat → Int32) (p_size : Int32) : Nat → (Int32 × Int64 × Int32) → Option (Int64) :=
  lp (fun k v => g_X4_livingLines_10 p_female p_born p_lastYear p_father p_size (fun x1 x2 x4 => k (x1, x2, x4)) v.1 v.2.1 v.2.2)
set_option maxRecDepth 100000 in
set_option maxHeartbeats 4000000 in
theorem u_X4_livingLines_10 {Y : YT} {r : Int64}  (hX : CX l G cX4_livingLines 5 RX4 Y) (hQ : EQl G Y 0 0 r (WB G p_female p_born p_toldDeath p_lastYear p_father p_mother p_fatherGrade p_motherGrade p_size g_holder g_arms g_from g_size r_marks r_arms r_root r_steps r_grade r_marksAboveOne q_rows q_sizes t_bytes t_length s_tokens s_starts s_size a_code a_codeSize a_at a_token a_fault a_place o_texts o_names o_operands o_size o_open o_refuses o_differs o_fees c_years c_rows c_size x_faultPlace ++ fr))  (n : Nat) (v : Int32 × Int64 × Int32) (hf : f_X4_livingLines_10 p_female p_born p_lastYear p_father p_size n v = some r) : J l G (rmD 3 0 0) Y 0 0 10 [(0, .ref (gb G 1)), (1, .int v.1), (2, .long v.2.1), (4, .int v.2.2)] [] (WB G p_female p_born p_toldDeath p_lastYear p_father p_mother p_fatherGrade p_motherGrade p_size g_holder g_arms g_from g_size r_marks r_arms r_root r_steps r_grade r_marksAboveOne q_rows q_sizes t_bytes t_length s_tokens s_starts s_size a_code a_codeSize a_at a_token a_fault a_place o_texts o_names o_operands o_size o_open o_refuses o_differs o_fees c_years c_rows c_size x_faultPlace ++ fr) :=
  lp_ind (P := fun v : Int32 × Int64 × Int32 => J l G (rmD 3 0 0) Y 0 0 10 [(0, .ref (gb G 1)), (1, .int v.1), (2, .long v.2.1), (4, .int v.2.2)] [] (WB G p_female p_born p_toldDeath p_lastYear p_father p_mother p_fatherGrade p_motherGrade p_size g_holder g_arms g_from g_size r_marks r_arms r_root r_steps r_grade r_marksAboveOne q_rows q_sizes t_bytes t_length s_tokens s_starts s_size a_code a_codeSize a_at a_token a_fault a_place o_texts o_names o_operands o_size o_open o_refuses o_differs o_fees c_years c_rows c_size x_faultPlace ++ fr)) (fun k hk v hf => t_X4_livingLines_10 hX hQ   (fun x1 x2 x4 h => hk (x1, x2, x4) h) v.1 v.2.1 v.2.2 hf) n v hf
def f_X4_livingLines (fu : Nat) (p_female : Nat → Int32) (p_born : Nat → Int32) (p_lastYear : Nat → Int32) (p_father : Nat → Int32) (p_size : Int32) (x1 : Int32) : Option (Int64) :=
  f_X4_livingLines_10 p_female p_born p_lastYear p_father p_size fu (x1, 0, p_size - 1)
set_option maxRecDepth 100000 in
set_option maxHeartbeats 4000000 in
theorem t_X4_livingLines {fu : Nat}  (x1 : Int32) {r : Int64} (hf : f_X4_livingLines fu p_female p_born p_lastYear p_father p_size x1 = some r) : Cl l G 3 0 0 yX4_livingLines cX4_livingLines 5 [.ref (gb G 1), .int x1] (WB G p_female p_born p_toldDeath p_lastYear p_father p_mother p_fatherGrade p_motherGrade p_size g_holder g_arms g_from g_size r_marks r_arms r_root r_steps r_grade r_marksAboveOne q_rows q_sizes t_bytes t_length s_tokens s_starts s_size a_code a_codeSize a_at a_token a_fault a_place o_texts o_names o_operands o_size o_open o_refuses o_differs o_fees c_years c_rows c_size x_faultPlace ++ fr) r (WB G p_female p_born p_toldDeath p_lastYear p_father p_mother p_fatherGrade p_motherGrade p_size g_holder g_arms g_from g_size r_marks r_arms r_root r_steps r_grade r_marksAboveOne q_rows q_sizes t_bytes t_length s_tokens s_starts s_size a_code a_codeSize a_at a_token a_fault a_place o_texts o_names o_operands o_size o_open o_refuses o_differs o_fees c_years c_rows c_size x_faultPlace ++ fr) := by
  refine Cl.of (by decide) (Nat.le_of_ble_eq_true rfl) (fun Y hX hQ => ?_)
  refine j_lv (lv' := [(0, .ref (gb G 1)), (1, .int x1)]) rfl ?_
  unfold f_X4_livingLines at hf
  refine j_lconst (v := 0) hX dX4_livingLines_0 1 rfl (by decide) ?_
  refine j_lstore_n hX dX4_livingLines_1 2 rfl rfl (by decide) (lv' := [(2, .long 0), (0, .ref (gb G 1)), (1, .int x1)]) rfl ?_
  refine j_aload_n hX dX4_livingLines_2 3 rfl 1 rfl rfl ?_
  refine j_get hX dX4_livingLines_3 6 rfl fg_X4_37 1 rfl rfl ?_
  refine j_iconst (v := 1) hX dX4_livingLines_6 7 rfl (by decide) ?_
  refine j_isub hX dX4_livingLines_7 8 rfl ?_
  refine j_istore hX dX4_livingLines_8 10 rfl (by decide) (lv' := [(4, .int (p_size - 1)), (2, .long 0), (0, .ref (gb G 1)), (1, .int x1)]) rfl ?_
  refine j_sub [2, 3, 1, 0] rfl ?_
  exact u_X4_livingLines_10 hX hQ   fu (x1, 0, p_size - 1) hf
def g_X4_isElder_30 (s0 : Int32) : Option (Int32) :=
  if isB s0 = true then some s0 else none
set_option maxRecDepth 100000 in
set_option maxHeartbeats 4000000 in
theorem t_X4_isElder_30 {Y : YT} {r : Int32}  (hX : CX l G cX4_isElder 4 RX4 Y) (hQ : EQi G Y 0 0 .boolean r (WB G p_female p_born p_toldDeath p_lastYear p_father p_mother p_fatherGrade p_motherGrade p_size g_holder g_arms g_from g_size r_marks r_arms r_root r_steps r_grade r_marksAboveOne q_rows q_sizes t_bytes t_length s_tokens s_starts s_size a_code a_codeSize a_at a_token a_fault a_place o_texts o_names o_operands o_size o_open o_refuses o_differs o_fees c_years c_rows c_size x_faultPlace ++ fr))  (s0 : Int32) (hf : g_X4_isElder_30 s0 = some r) : J l G (rmD 3 0 0) Y 0 0 30 [] [.int s0] (WB G p_female p_born p_toldDeath p_lastYear p_father p_mother p_fatherGrade p_motherGrade p_size g_holder g_arms g_from g_size r_marks r_arms r_root r_steps r_grade r_marksAboveOne q_rows q_sizes t_bytes t_length s_tokens s_starts s_size a_code a_codeSize a_at a_token a_fault a_place o_texts o_names o_operands o_size o_open o_refuses o_differs o_fees c_years c_rows c_size x_faultPlace ++ fr) := by
  unfold g_X4_isElder_30 at hf
  obtain ⟨hb4, hf⟩ := ign hf
  replace hf := Option.some.inj hf
  subst hf
  exact j_zret hX hQ hb4 dX4_isElder_30
def g_X4_isElder_25  : Option (Int32) :=
  g_X4_isElder_30 1
set_option maxRecDepth 100000 in
set_option maxHeartbeats 4000000 in
theorem t_X4_isElder_25 {Y : YT} {r : Int32}  (hX : CX l G cX4_isElder 4 RX4 Y) (hQ : EQi G Y 0 0 .boolean r (WB G p_female p_born p_toldDeath p_lastYear p_father p_mother p_fatherGrade p_motherGrade p_size g_holder g_arms g_from g_size r_marks r_arms r_root r_steps r_grade r_marksAboveOne q_rows q_sizes t_bytes t_length s_tokens s_starts s_size a_code a_codeSize a_at a_token a_fault a_place o_texts o_names o_operands o_size o_open o_refuses o_differs o_fees c_years c_rows c_size x_faultPlace ++ fr))   (hf : g_X4_isElder_25  = some r) : J l G (rmD 3 0 0) Y 0 0 25 [] [] (WB G p_female p_born p_toldDeath p_lastYear p_father p_mother p_fatherGrade p_motherGrade p_size g_holder g_arms g_from g_size r_marks r_arms r_root r_steps r_grade r_marksAboveOne q_rows q_sizes t_bytes t_length s_tokens s_starts s_size a_code a_codeSize a_at a_token a_fault a_place o_texts o_names o_operands o_size o_open o_refuses o_differs o_fees c_years c_rows c_size x_faultPlace ++ fr) := by
  unfold g_X4_isElder_25 at hf
  refine j_iconst (v := 1) hX dX4_isElder_25 26 rfl (by decide) ?_
  refine j_goto hX dX4_isElder_26 30 rfl ?_
  exact t_X4_isElder_30 hX hQ   1 hf
def g_X4_isElder_29  : Option (Int32) :=
  g_X4_isElder_30 0
set_option maxRecDepth 100000 in
set_option maxHeartbeats 4000000 in
theorem t_X4_isElder_29 {Y : YT} {r : Int32}  (hX : CX l G cX4_isElder 4 RX4 Y) (hQ : EQi G Y 0 0 .boolean r (WB G p_female p_born p_toldDeath p_lastYear p_father p_mother p_fatherGrade p_motherGrade p_size g_holder g_arms g_from g_size r_marks r_arms r_root r_steps r_grade r_marksAboveOne q_rows q_sizes t_bytes t_length s_tokens s_starts s_size a_code a_codeSize a_at a_token a_fault a_place o_texts o_names o_operands o_size o_open o_refuses o_differs o_fees c_years c_rows c_size x_faultPlace ++ fr))   (hf : g_X4_isElder_29  = some r) : J l G (rmD 3 0 0) Y 0 0 29 [] [] (WB G p_female p_born p_toldDeath p_lastYear p_father p_mother p_fatherGrade p_motherGrade p_size g_holder g_arms g_from g_size r_marks r_arms r_root r_steps r_grade r_marksAboveOne q_rows q_sizes t_bytes t_length s_tokens s_starts s_size a_code a_codeSize a_at a_token a_fault a_place o_texts o_names o_operands o_size o_open o_refuses o_differs o_fees c_years c_rows c_size x_faultPlace ++ fr) := by
  unfold g_X4_isElder_29 at hf
  refine j_iconst (v := 0) hX dX4_isElder_29 30 rfl (by decide) ?_
  exact t_X4_isElder_30 hX hQ   0 hf
def f_X4_isElder (p_born : Nat → Int32) (p_size : Int32) (x1 : Int32) (x2 : Int32) : Option (Int32) :=
  (f_X4_bornOf p_born p_size x1).bind fun v1 => (f_X4_bornOf p_born p_size x2).bind fun v2 => if (v1 - v2) < 0 then g_X4_isElder_25  else if (v1 - v2) = 0 then if x2 ≤ x1 then g_X4_isElder_29  else g_X4_isElder_25  else g_X4_isElder_29 
set_option maxRecDepth 100000 in
set_option maxHeartbeats 4000000 in
theorem t_X4_isElder  (x1 : Int32) (x2 : Int32) {r : Int32} (hf : f_X4_isElder p_born p_size x1 x2 = some r) : Ci l G 3 0 0 yX4_isElder cX4_isElder 4 .boolean [.ref (gb G 1), .int x1, .int x2] (WB G p_female p_born p_toldDeath p_lastYear p_father p_mother p_fatherGrade p_motherGrade p_size g_holder g_arms g_from g_size r_marks r_arms r_root r_steps r_grade r_marksAboveOne q_rows q_sizes t_bytes t_length s_tokens s_starts s_size a_code a_codeSize a_at a_token a_fault a_place o_texts o_names o_operands o_size o_open o_refuses o_differs o_fees c_years c_rows c_size x_faultPlace ++ fr) r (WB G p_female p_born p_toldDeath p_lastYear p_father p_mother p_fatherGrade p_motherGrade p_size g_holder g_arms g_from g_size r_marks r_arms r_root r_steps r_grade r_marksAboveOne q_rows q_sizes t_bytes t_length s_tokens s_starts s_size a_code a_codeSize a_at a_token a_fault a_place o_texts o_names o_operands o_size o_open o_refuses o_differs o_fees c_years c_rows c_size x_faultPlace ++ fr) := by
  refine Ci.of (by decide) (Nat.le_of_ble_eq_true rfl) (fun Y hX hQ => ?_)
  refine j_lv (lv' := [(0, .ref (gb G 1)), (1, .int x1), (2, .int x2)]) rfl ?_
  unfold f_X4_isElder at hf
  refine j_aload_n hX dX4_isElder_0 1 rfl 0 rfl rfl ?_
  refine j_iload_n hX dX4_isElder_1 2 rfl 1 rfl rfl ?_
  obtain ⟨v1, hv1, hf⟩ := ibd hf
  refine z_i (As := [.int x1]) (rest := []) (q0 := 1) hX dX4_isElder_2 5 rfl (t_X4_bornOf x1 hv1) mc_X4_bornOf mv_X4_bornOf ml_X4_68 rfl rfl (Nat.le_of_ble_eq_true rfl) (Nat.le_refl _) (Nat.le_refl _) rfl (Nat.le_of_ble_eq_true rfl) ?_
  refine j_aload_n hX dX4_isElder_5 6 rfl 0 rfl rfl ?_
  refine j_iload_n hX dX4_isElder_6 7 rfl 2 rfl rfl ?_
  obtain ⟨v2, hv2, hf⟩ := ibd hf
  refine z_i (As := [.int x2]) (rest := [.int v1]) (q0 := 1) hX dX4_isElder_7 10 rfl (t_X4_bornOf x2 hv2) mc_X4_bornOf mv_X4_bornOf ml_X4_68 rfl rfl (Nat.le_of_ble_eq_true rfl) (Nat.le_refl _) (Nat.le_refl _) rfl (Nat.le_of_ble_eq_true rfl) ?_
  refine j_isub hX dX4_isElder_10 11 rfl ?_
  refine j_istore_n hX dX4_isElder_11 12 rfl rfl (by decide) (lv' := [(3, .int (v1 - v2)), (0, .ref (gb G 1)), (1, .int x1), (2, .int x2)]) rfl ?_
  refine j_iload_n hX dX4_isElder_12 13 rfl 0 rfl rfl ?_
  refine j_if_lt hX dX4_isElder_13 16 25 rfl rfl (fun h3 => ?_) (fun h3 => ?_)
  · replace hf := itt h3 hf
    refine j_sub [] rfl ?_
    exact t_X4_isElder_25 hX hQ    hf
  · replace hf := itf h3 hf
    refine j_iload_n hX dX4_isElder_16 17 rfl 0 rfl rfl ?_
    refine j_if_ne hX dX4_isElder_17 20 29 rfl rfl (fun h5 => ?_) (fun h5 => ?_)
    · replace hf := itf h5 hf
      refine j_sub [] rfl ?_
      exact t_X4_isElder_29 hX hQ    hf
    · replace hf := itt h5 hf
      refine j_iload_n hX dX4_isElder_20 21 rfl 2 rfl rfl ?_
      refine j_iload_n hX dX4_isElder_21 22 rfl 3 rfl rfl ?_
      refine j_icmp_ge hX dX4_isElder_22 25 29 rfl rfl (fun h6 => ?_) (fun h6 => ?_)
      · replace hf := itt h6 hf
        refine j_sub [] rfl ?_
        exact t_X4_isElder_29 hX hQ    hf
      · replace hf := itf h6 hf
        refine j_sub [] rfl ?_
        exact t_X4_isElder_25 hX hQ    hf
def g_X4_placeOf_56 (k13 : Int32 → Int64 → Int32 → Int32 → Int32 → Option (Int32)) (x1 : Int32) (x2 : Int64) (x4 : Int32) (x5 : Int32) (x6 : Int32) : Option (Int32) :=
  k13 x1 x2 x4 x5 (x6 + 1)
set_option maxRecDepth 100000 in
set_option maxHeartbeats 4000000 in
theorem t_X4_placeOf_56 {Y : YT} {r : Int32} {k13 : Int32 → Int64 → Int32 → Int32 → Int32 → Option (Int32)} (hX : CX l G cX4_placeOf 7 RX4 Y) (hQ : EQi G Y 0 0 .int r (WB G p_female p_born p_toldDeath p_lastYear p_father p_mother p_fatherGrade p_motherGrade p_size g_holder g_arms g_from g_size r_marks r_arms r_root r_steps r_grade r_marksAboveOne q_rows q_sizes t_bytes t_length s_tokens s_starts s_size a_code a_codeSize a_at a_token a_fault a_place o_texts o_names o_operands o_size o_open o_refuses o_differs o_fees c_years c_rows c_size x_faultPlace ++ fr)) (hk13 : ∀ (x1 : Int32) (x2 : Int64) (x4 : Int32) (x5 : Int32) (x6 : Int32), k13 x1 x2 x4 x5 x6  = some r → J l G (rmD 4 0 0) Y 0 0 13 [(0, .ref (gb G 1)), (1, .int x1), (2, .long x2), (4, .int x4), (5, .int x5), (6, .int x6)] [] (WB G p_female p_born p_toldDeath p_lastYear p_father p_mother p_fatherGrade p_motherGrade p_size g_holder g_arms g_from g_size r_marks r_arms r_root r_steps r_grade r_marksAboveOne q_rows q_sizes t_bytes t_length s_tokens s_starts s_size a_code a_codeSize a_at a_token a_fault a_place o_texts o_names o_operands o_size o_open o_refuses o_differs o_fees c_years c_rows c_size x_faultPlace ++ fr)) (x1 : Int32) (x2 : Int64) (x4 : Int32) (x5 : Int32) (x6 : Int32) (hf : g_X4_placeOf_56 k13 x1 x2 x4 x5 x6 = some r) : J l G (rmD 4 0 0) Y 0 0 56 [(0, .ref (gb G 1)), (1, .int x1), (2, .long x2), (4, .int x4), (5, .int x5), (6, .int x6)] [] (WB G p_female p_born p_toldDeath p_lastYear p_father p_mother p_fatherGrade p_motherGrade p_size g_holder g_arms g_from g_size r_marks r_arms r_root r_steps r_grade r_marksAboveOne q_rows q_sizes t_bytes t_length s_tokens s_starts s_size a_code a_codeSize a_at a_token a_fault a_place o_texts o_names o_operands o_size o_open o_refuses o_differs o_fees c_years c_rows c_size x_faultPlace ++ fr) := by
  unfold g_X4_placeOf_56 at hf
  refine j_iinc (v := x6 + 1) hX dX4_placeOf_56 59 rfl 5 rfl rfl (by decide) (lv' := [(6, .int (x6 + 1)), (0, .ref (gb G 1)), (1, .int x1), (2, .long x2), (4, .int x4), (5, .int x5)]) rfl ?_
  refine j_goto hX dX4_placeOf_59 13 rfl ?_
  refine j_sub [1, 2, 3, 4, 5, 0] rfl ?_
  exact hk13 x1 x2 x4 x5 (x6 + 1) hf
def g_X4_placeOf_13 (p_born : Nat → Int32) (p_father : Nat → Int32) (p_size : Int32) (k13 : Int32 → Int64 → Int32 → Int32 → Int32 → Option (Int32)) (x1 : Int32) (x2 : Int64) (x4 : Int32) (x5 : Int32) (x6 : Int32) : Option (Int32) :=
  if p_size ≤ x6 then some x5 else if inb x6 60 = true then if (p_father (Int32.toNatClampNeg x6)) = x4 then (f_X4_isIn x2 x6).bind fun v5 => if v5 = 0 then g_X4_placeOf_56 k13 x1 x2 x4 x5 x6 else (f_X4_isElder p_born p_size x6 x1).bind fun v7 => if v7 = 0 then g_X4_placeOf_56 k13 x1 x2 x4 x5 x6 else g_X4_placeOf_56 k13 x1 x2 x4 (x5 + 1) x6 else g_X4_placeOf_56 k13 x1 x2 x4 x5 x6 else none
set_option maxRecDepth 100000 in
set_option maxHeartbeats 4000000 in
theorem t_X4_placeOf_13 {Y : YT} {r : Int32} {k13 : Int32 → Int64 → Int32 → Int32 → Int32 → Option (Int32)} (hX : CX l G cX4_placeOf 7 RX4 Y) (hQ : EQi G Y 0 0 .int r (WB G p_female p_born p_toldDeath p_lastYear p_father p_mother p_fatherGrade p_motherGrade p_size g_holder g_arms g_from g_size r_marks r_arms r_root r_steps r_grade r_marksAboveOne q_rows q_sizes t_bytes t_length s_tokens s_starts s_size a_code a_codeSize a_at a_token a_fault a_place o_texts o_names o_operands o_size o_open o_refuses o_differs o_fees c_years c_rows c_size x_faultPlace ++ fr)) (hk13 : ∀ (x1 : Int32) (x2 : Int64) (x4 : Int32) (x5 : Int32) (x6 : Int32), k13 x1 x2 x4 x5 x6  = some r → J l G (rmD 4 0 0) Y 0 0 13 [(0, .ref (gb G 1)), (1, .int x1), (2, .long x2), (4, .int x4), (5, .int x5), (6, .int x6)] [] (WB G p_female p_born p_toldDeath p_lastYear p_father p_mother p_fatherGrade p_motherGrade p_size g_holder g_arms g_from g_size r_marks r_arms r_root r_steps r_grade r_marksAboveOne q_rows q_sizes t_bytes t_length s_tokens s_starts s_size a_code a_codeSize a_at a_token a_fault a_place o_texts o_names o_operands o_size o_open o_refuses o_differs o_fees c_years c_rows c_size x_faultPlace ++ fr)) (x1 : Int32) (x2 : Int64) (x4 : Int32) (x5 : Int32) (x6 : Int32) (hf : g_X4_placeOf_13 p_born p_father p_size k13 x1 x2 x4 x5 x6 = some r) : J l G (rmD 4 0 0) Y 0 0 13 [(0, .ref (gb G 1)), (1, .int x1), (2, .long x2), (4, .int x4), (5, .int x5), (6, .int x6)] [] (WB G p_female p_born p_toldDeath p_lastYear p_father p_mother p_fatherGrade p_motherGrade p_size g_holder g_arms g_from g_size r_marks r_arms r_root r_steps r_grade r_marksAboveOne q_rows q_sizes t_bytes t_length s_tokens s_starts s_size a_code a_codeSize a_at a_token a_fault a_place o_texts o_names o_operands o_size o_open o_refuses o_differs o_fees c_years c_rows c_size x_faultPlace ++ fr) := by
  unfold g_X4_placeOf_13 at hf
  refine j_iload hX dX4_placeOf_13 15 rfl 5 rfl ?_
  refine j_aload_n hX dX4_placeOf_15 16 rfl 0 rfl rfl ?_
  refine j_get hX dX4_placeOf_16 19 rfl fg_X4_37 1 rfl rfl ?_
  refine j_icmp_ge hX dX4_placeOf_19 22 62 rfl rfl (fun h2 => ?_) (fun h2 => ?_)
  · replace hf := itt h2 hf
    refine j_iload hX dX4_placeOf_62 64 rfl 4 rfl ?_
    replace hf := Option.some.inj hf
    subst hf
    exact j_iret hX hQ dX4_placeOf_64
  · replace hf := itf h2 hf
    refine j_aload_n hX dX4_placeOf_22 23 rfl 0 rfl rfl ?_
    refine j_get hX dX4_placeOf_23 26 rfl fg_X4_25 1 rfl rfl ?_
    refine j_iload hX dX4_placeOf_26 28 rfl 5 rfl ?_
    obtain ⟨hb3, hf⟩ := ign hf
    refine j_iald hX dX4_placeOf_28 29 rfl 6 rfl hb3 ?_
    refine j_iload hX dX4_placeOf_29 31 rfl 3 rfl ?_
    refine j_icmp_ne hX dX4_placeOf_31 34 56 rfl rfl (fun h4 => ?_) (fun h4 => ?_)
    · replace hf := itf h4 hf
      exact t_X4_placeOf_56 hX hQ  hk13 x1 x2 x4 x5 x6 hf
    · replace hf := itt h4 hf
      refine j_lload_n hX dX4_placeOf_34 35 rfl 2 rfl rfl ?_
      refine j_iload hX dX4_placeOf_35 37 rfl 5 rfl ?_
      obtain ⟨v5, hv5, hf⟩ := ibd hf
      refine z_si (As := [.long x2, .int x6]) (rest := []) hX dX4_placeOf_37 40 rfl (t_X4_isIn x2 x6 hv5) mc_X4_isIn ms_X4_isIn ml_X4_64 (Nat.le_of_ble_eq_true rfl) (Nat.le_refl _) (Nat.le_refl _) rfl (Nat.le_of_ble_eq_true rfl) ?_
      refine j_if_eq hX dX4_placeOf_40 43 56 rfl rfl (fun h6 => ?_) (fun h6 => ?_)
      · replace hf := itt h6 hf
        exact t_X4_placeOf_56 hX hQ  hk13 x1 x2 x4 x5 x6 hf
      · replace hf := itf h6 hf
        refine j_aload_n hX dX4_placeOf_43 44 rfl 0 rfl rfl ?_
        refine j_iload hX dX4_placeOf_44 46 rfl 5 rfl ?_
        refine j_iload_n hX dX4_placeOf_46 47 rfl 1 rfl rfl ?_
        obtain ⟨v7, hv7, hf⟩ := ibd hf
        refine z_i (As := [.int x6, .int x1]) (rest := []) (q0 := 1) hX dX4_placeOf_47 50 rfl (t_X4_isElder x6 x1 hv7) mc_X4_isElder mv_X4_isElder ml_X4_75 rfl rfl (Nat.le_of_ble_eq_true rfl) (Nat.le_refl _) (Nat.le_refl _) rfl (Nat.le_of_ble_eq_true rfl) ?_
        refine j_if_eq hX dX4_placeOf_50 53 56 rfl rfl (fun h8 => ?_) (fun h8 => ?_)
        · replace hf := itt h8 hf
          exact t_X4_placeOf_56 hX hQ  hk13 x1 x2 x4 x5 x6 hf
        · replace hf := itf h8 hf
          refine j_iinc (v := x5 + 1) hX dX4_placeOf_53 56 rfl 4 rfl rfl (by decide) (lv' := [(5, .int (x5 + 1)), (0, .ref (gb G 1)), (1, .int x1), (2, .long x2), (4, .int x4), (6, .int x6)]) rfl ?_
          refine j_sub [1, 2, 3, 4, 0, 5] rfl ?_
          exact t_X4_placeOf_56 hX hQ  hk13 x1 x2 x4 (x5 + 1) x6 hf
def f_X4_placeOf_13 (p_born : Nat → Int32) (p_father : Nat → Int32) (p_size : Int32) : Nat → (Int32 × Int64 × Int32 × Int32 × Int32) → Option (Int32) :=
  lp (fun k v => g_X4_placeOf_13 p_born p_father p_size (fun x1 x2 x4 x5 x6 => k (x1, x2, x4, x5, x6)) v.1 v.2.1 v.2.2.1 v.2.2.2.1 v.2.2.2.2)
set_option maxRecDepth 100000 in
set_option maxHeartbeats 4000000 in
theorem u_X4_placeOf_13 {Y : YT} {r : Int32}  (hX : CX l G cX4_placeOf 7 RX4 Y) (hQ : EQi G Y 0 0 .int r (WB G p_female p_born p_toldDeath p_lastYear p_father p_mother p_fatherGrade p_motherGrade p_size g_holder g_arms g_from g_size r_marks r_arms r_root r_steps r_grade r_marksAboveOne q_rows q_sizes t_bytes t_length s_tokens s_starts s_size a_code a_codeSize a_at a_token a_fault a_place o_texts o_names o_operands o_size o_open o_refuses o_differs o_fees c_years c_rows c_size x_faultPlace ++ fr))  (n : Nat) (v : Int32 × Int64 × Int32 × Int32 × Int32) (hf : f_X4_placeOf_13 p_born p_father p_size n v = some r) : J l G (rmD 4 0 0) Y 0 0 13 [(0, .ref (gb G 1)), (1, .int v.1), (2, .long v.2.1), (4, .int v.2.2.1), (5, .int v.2.2.2.1), (6, .int v.2.2.2.2)] [] (WB G p_female p_born p_toldDeath p_lastYear p_father p_mother p_fatherGrade p_motherGrade p_size g_holder g_arms g_from g_size r_marks r_arms r_root r_steps r_grade r_marksAboveOne q_rows q_sizes t_bytes t_length s_tokens s_starts s_size a_code a_codeSize a_at a_token a_fault a_place o_texts o_names o_operands o_size o_open o_refuses o_differs o_fees c_years c_rows c_size x_faultPlace ++ fr) :=
  lp_ind (P := fun v : Int32 × Int64 × Int32 × Int32 × Int32 => J l G (rmD 4 0 0) Y 0 0 13 [(0, .ref (gb G 1)), (1, .int v.1), (2, .long v.2.1), (4, .int v.2.2.1), (5, .int v.2.2.2.1), (6, .int v.2.2.2.2)] [] (WB G p_female p_born p_toldDeath p_lastYear p_father p_mother p_fatherGrade p_motherGrade p_size g_holder g_arms g_from g_size r_marks r_arms r_root r_steps r_grade r_marksAboveOne q_rows q_sizes t_bytes t_length s_tokens s_starts s_size a_code a_codeSize a_at a_token a_fault a_place o_texts o_names o_operands o_size o_open o_refuses o_differs o_fees c_years c_rows c_size x_faultPlace ++ fr)) (fun k hk v hf => t_X4_placeOf_13 hX hQ   (fun x1 x2 x4 x5 x6 h => hk (x1, x2, x4, x5, x6) h) v.1 v.2.1 v.2.2.1 v.2.2.2.1 v.2.2.2.2 hf) n v hf
def f_X4_placeOf (fu : Nat) (p_born : Nat → Int32) (p_father : Nat → Int32) (p_size : Int32) (x1 : Int32) (x2 : Int64) : Option (Int32) :=
  (f_X4_fatherOf p_father p_size x1).bind fun v1 => f_X4_placeOf_13 p_born p_father p_size fu (x1, x2, v1, 1, 0)
set_option maxRecDepth 100000 in
set_option maxHeartbeats 4000000 in
theorem t_X4_placeOf {fu : Nat}  (x1 : Int32) (x2 : Int64) {r : Int32} (hf : f_X4_placeOf fu p_born p_father p_size x1 x2 = some r) : Ci l G 4 0 0 yX4_placeOf cX4_placeOf 7 .int [.ref (gb G 1), .int x1, .long x2] (WB G p_female p_born p_toldDeath p_lastYear p_father p_mother p_fatherGrade p_motherGrade p_size g_holder g_arms g_from g_size r_marks r_arms r_root r_steps r_grade r_marksAboveOne q_rows q_sizes t_bytes t_length s_tokens s_starts s_size a_code a_codeSize a_at a_token a_fault a_place o_texts o_names o_operands o_size o_open o_refuses o_differs o_fees c_years c_rows c_size x_faultPlace ++ fr) r (WB G p_female p_born p_toldDeath p_lastYear p_father p_mother p_fatherGrade p_motherGrade p_size g_holder g_arms g_from g_size r_marks r_arms r_root r_steps r_grade r_marksAboveOne q_rows q_sizes t_bytes t_length s_tokens s_starts s_size a_code a_codeSize a_at a_token a_fault a_place o_texts o_names o_operands o_size o_open o_refuses o_differs o_fees c_years c_rows c_size x_faultPlace ++ fr) := by
  refine Ci.of (by decide) (Nat.le_of_ble_eq_true rfl) (fun Y hX hQ => ?_)
  refine j_lv (lv' := [(0, .ref (gb G 1)), (1, .int x1), (2, .long x2)]) rfl ?_
  unfold f_X4_placeOf at hf
  refine j_aload_n hX dX4_placeOf_0 1 rfl 0 rfl rfl ?_
  refine j_iload_n hX dX4_placeOf_1 2 rfl 1 rfl rfl ?_
  obtain ⟨v1, hv1, hf⟩ := ibd hf
  refine z_i (As := [.int x1]) (rest := []) (q0 := 1) hX dX4_placeOf_2 5 rfl (t_X4_fatherOf x1 hv1) mc_X4_fatherOf mv_X4_fatherOf ml_X4_72 rfl rfl (Nat.le_of_ble_eq_true rfl) (Nat.le_refl _) (Nat.le_refl _) rfl (Nat.le_of_ble_eq_true rfl) ?_
  refine j_istore hX dX4_placeOf_5 7 rfl (by decide) (lv' := [(4, .int v1), (0, .ref (gb G 1)), (1, .int x1), (2, .long x2)]) rfl ?_
  refine j_iconst (v := 1) hX dX4_placeOf_7 8 rfl (by decide) ?_
  refine j_istore hX dX4_placeOf_8 10 rfl (by decide) (lv' := [(5, .int 1), (4, .int v1), (0, .ref (gb G 1)), (1, .int x1), (2, .long x2)]) rfl ?_
  refine j_iconst (v := 0) hX dX4_placeOf_10 11 rfl (by decide) ?_
  refine j_istore hX dX4_placeOf_11 13 rfl (by decide) (lv' := [(6, .int 0), (5, .int 1), (4, .int v1), (0, .ref (gb G 1)), (1, .int x1), (2, .long x2)]) rfl ?_
  refine j_sub [3, 4, 5, 2, 1, 0] rfl ?_
  exact u_X4_placeOf_13 hX hQ   fu (x1, x2, v1, 1, 0) hf
def g_X4_heirOf_79 (k6 : Int32 → Int64 → Int32 → Int32 → Option (Int32)) (x1 : Int32) (x2 : Int64) (x4 : Int32) (x5 : Int32) : Option (Int32) :=
  k6 x1 x2 x4 (x5 + 1)
set_option maxRecDepth 100000 in
set_option maxHeartbeats 4000000 in
theorem t_X4_heirOf_79 {Y : YT} {r : Int32} {k6 : Int32 → Int64 → Int32 → Int32 → Option (Int32)} (hX : CX l G cX4_heirOf 7 RX4 Y) (hQ : EQi G Y 0 0 .int r (WB G p_female p_born p_toldDeath p_lastYear p_father p_mother p_fatherGrade p_motherGrade p_size g_holder g_arms g_from g_size r_marks r_arms r_root r_steps r_grade r_marksAboveOne q_rows q_sizes t_bytes t_length s_tokens s_starts s_size a_code a_codeSize a_at a_token a_fault a_place o_texts o_names o_operands o_size o_open o_refuses o_differs o_fees c_years c_rows c_size x_faultPlace ++ fr)) (hk6 : ∀ (x1 : Int32) (x2 : Int64) (x4 : Int32) (x5 : Int32), k6 x1 x2 x4 x5  = some r → J l G (rmD 4 0 0) Y 0 0 6 [(0, .ref (gb G 1)), (1, .int x1), (2, .long x2), (4, .int x4), (5, .int x5)] [] (WB G p_female p_born p_toldDeath p_lastYear p_father p_mother p_fatherGrade p_motherGrade p_size g_holder g_arms g_from g_size r_marks r_arms r_root r_steps r_grade r_marksAboveOne q_rows q_sizes t_bytes t_length s_tokens s_starts s_size a_code a_codeSize a_at a_token a_fault a_place o_texts o_names o_operands o_size o_open o_refuses o_differs o_fees c_years c_rows c_size x_faultPlace ++ fr)) (x1 : Int32) (x2 : Int64) (x4 : Int32) (x5 : Int32) (hf : g_X4_heirOf_79 k6 x1 x2 x4 x5 = some r) : J l G (rmD 4 0 0) Y 0 0 79 [(0, .ref (gb G 1)), (1, .int x1), (2, .long x2), (4, .int x4), (5, .int x5)] [] (WB G p_female p_born p_toldDeath p_lastYear p_father p_mother p_fatherGrade p_motherGrade p_size g_holder g_arms g_from g_size r_marks r_arms r_root r_steps r_grade r_marksAboveOne q_rows q_sizes t_bytes t_length s_tokens s_starts s_size a_code a_codeSize a_at a_token a_fault a_place o_texts o_names o_operands o_size o_open o_refuses o_differs o_fees c_years c_rows c_size x_faultPlace ++ fr) := by
  unfold g_X4_heirOf_79 at hf
  refine j_iinc (v := x5 + 1) hX dX4_heirOf_79 82 rfl 4 rfl rfl (by decide) (lv' := [(5, .int (x5 + 1)), (0, .ref (gb G 1)), (1, .int x1), (2, .long x2), (4, .int x4)]) rfl ?_
  refine j_goto hX dX4_heirOf_82 6 rfl ?_
  refine j_sub [1, 2, 3, 4, 0] rfl ?_
  exact hk6 x1 x2 x4 (x5 + 1) hf
def g_X4_heirOf_75 (k6 : Int32 → Int64 → Int32 → Int32 → Option (Int32)) (x1 : Int32) (x2 : Int64) (x5 : Int32) : Option (Int32) :=
  g_X4_heirOf_79 k6 x1 x2 x5 x5
set_option maxRecDepth 100000 in
set_option maxHeartbeats 4000000 in
theorem t_X4_heirOf_75 {Y : YT} {r : Int32} {k6 : Int32 → Int64 → Int32 → Int32 → Option (Int32)} (hX : CX l G cX4_heirOf 7 RX4 Y) (hQ : EQi G Y 0 0 .int r (WB G p_female p_born p_toldDeath p_lastYear p_father p_mother p_fatherGrade p_motherGrade p_size g_holder g_arms g_from g_size r_marks r_arms r_root r_steps r_grade r_marksAboveOne q_rows q_sizes t_bytes t_length s_tokens s_starts s_size a_code a_codeSize a_at a_token a_fault a_place o_texts o_names o_operands o_size o_open o_refuses o_differs o_fees c_years c_rows c_size x_faultPlace ++ fr)) (hk6 : ∀ (x1 : Int32) (x2 : Int64) (x4 : Int32) (x5 : Int32), k6 x1 x2 x4 x5  = some r → J l G (rmD 4 0 0) Y 0 0 6 [(0, .ref (gb G 1)), (1, .int x1), (2, .long x2), (4, .int x4), (5, .int x5)] [] (WB G p_female p_born p_toldDeath p_lastYear p_father p_mother p_fatherGrade p_motherGrade p_size g_holder g_arms g_from g_size r_marks r_arms r_root r_steps r_grade r_marksAboveOne q_rows q_sizes t_bytes t_length s_tokens s_starts s_size a_code a_codeSize a_at a_token a_fault a_place o_texts o_names o_operands o_size o_open o_refuses o_differs o_fees c_years c_rows c_size x_faultPlace ++ fr)) (x1 : Int32) (x2 : Int64) (x5 : Int32) (hf : g_X4_heirOf_75 k6 x1 x2 x5 = some r) : J l G (rmD 4 0 0) Y 0 0 75 [(0, .ref (gb G 1)), (1, .int x1), (2, .long x2), (5, .int x5)] [] (WB G p_female p_born p_toldDeath p_lastYear p_father p_mother p_fatherGrade p_motherGrade p_size g_holder g_arms g_from g_size r_marks r_arms r_root r_steps r_grade r_marksAboveOne q_rows q_sizes t_bytes t_length s_tokens s_starts s_size a_code a_codeSize a_at a_token a_fault a_place o_texts o_names o_operands o_size o_open o_refuses o_differs o_fees c_years c_rows c_size x_faultPlace ++ fr) := by
  unfold g_X4_heirOf_75 at hf
  refine j_iload hX dX4_heirOf_75 77 rfl 3 rfl ?_
  refine j_istore hX dX4_heirOf_77 79 rfl (by decide) (lv' := [(4, .int x5), (0, .ref (gb G 1)), (1, .int x1), (2, .long x2), (5, .int x5)]) rfl ?_
  refine j_sub [1, 2, 3, 0, 4] rfl ?_
  exact t_X4_heirOf_79 hX hQ  hk6 x1 x2 x5 x5 hf
def g_X4_heirOf_51 (p_born : Nat → Int32) (p_size : Int32) (k6 : Int32 → Int64 → Int32 → Int32 → Option (Int32)) (x1 : Int32) (x2 : Int64) (x4 : Int32) (x5 : Int32) (s0 : Int32) : Option (Int32) :=
  if s0 = 0 then g_X4_heirOf_79 k6 x1 x2 x4 x5 else if x4 = ((-1)) then g_X4_heirOf_75 k6 x1 x2 x5 else (f_X4_isElder p_born p_size x5 x4).bind fun v8 => if v8 = 0 then g_X4_heirOf_79 k6 x1 x2 x4 x5 else g_X4_heirOf_75 k6 x1 x2 x5
set_option maxRecDepth 100000 in
set_option maxHeartbeats 4000000 in
theorem t_X4_heirOf_51 {Y : YT} {r : Int32} {k6 : Int32 → Int64 → Int32 → Int32 → Option (Int32)} (hX : CX l G cX4_heirOf 7 RX4 Y) (hQ : EQi G Y 0 0 .int r (WB G p_female p_born p_toldDeath p_lastYear p_father p_mother p_fatherGrade p_motherGrade p_size g_holder g_arms g_from g_size r_marks r_arms r_root r_steps r_grade r_marksAboveOne q_rows q_sizes t_bytes t_length s_tokens s_starts s_size a_code a_codeSize a_at a_token a_fault a_place o_texts o_names o_operands o_size o_open o_refuses o_differs o_fees c_years c_rows c_size x_faultPlace ++ fr)) (hk6 : ∀ (x1 : Int32) (x2 : Int64) (x4 : Int32) (x5 : Int32), k6 x1 x2 x4 x5  = some r → J l G (rmD 4 0 0) Y 0 0 6 [(0, .ref (gb G 1)), (1, .int x1), (2, .long x2), (4, .int x4), (5, .int x5)] [] (WB G p_female p_born p_toldDeath p_lastYear p_father p_mother p_fatherGrade p_motherGrade p_size g_holder g_arms g_from g_size r_marks r_arms r_root r_steps r_grade r_marksAboveOne q_rows q_sizes t_bytes t_length s_tokens s_starts s_size a_code a_codeSize a_at a_token a_fault a_place o_texts o_names o_operands o_size o_open o_refuses o_differs o_fees c_years c_rows c_size x_faultPlace ++ fr)) (x1 : Int32) (x2 : Int64) (x4 : Int32) (x5 : Int32) (s0 : Int32) (hf : g_X4_heirOf_51 p_born p_size k6 x1 x2 x4 x5 s0 = some r) : J l G (rmD 4 0 0) Y 0 0 51 [(0, .ref (gb G 1)), (1, .int x1), (2, .long x2), (4, .int x4), (5, .int x5)] [.int s0] (WB G p_female p_born p_toldDeath p_lastYear p_father p_mother p_fatherGrade p_motherGrade p_size g_holder g_arms g_from g_size r_marks r_arms r_root r_steps r_grade r_marksAboveOne q_rows q_sizes t_bytes t_length s_tokens s_starts s_size a_code a_codeSize a_at a_token a_fault a_place o_texts o_names o_operands o_size o_open o_refuses o_differs o_fees c_years c_rows c_size x_faultPlace ++ fr) := by
  unfold g_X4_heirOf_51 at hf
  refine j_istore hX dX4_heirOf_51 53 rfl (by decide) (lv' := [(6, .int s0), (0, .ref (gb G 1)), (1, .int x1), (2, .long x2), (4, .int x4), (5, .int x5)]) rfl ?_
  refine j_iload hX dX4_heirOf_53 55 rfl 0 rfl ?_
  refine j_if_eq hX dX4_heirOf_55 58 79 rfl rfl (fun h6 => ?_) (fun h6 => ?_)
  · replace hf := itt h6 hf
    refine j_sub [1, 2, 3, 4, 5] rfl ?_
    exact t_X4_heirOf_79 hX hQ  hk6 x1 x2 x4 x5 hf
  · replace hf := itf h6 hf
    refine j_iload hX dX4_heirOf_58 60 rfl 4 rfl ?_
    refine j_iconst (v := (-1)) hX dX4_heirOf_60 61 rfl (by decide) ?_
    refine j_icmp_eq hX dX4_heirOf_61 64 75 rfl rfl (fun h7 => ?_) (fun h7 => ?_)
    · replace hf := itt h7 hf
      refine j_sub [1, 2, 3, 5] rfl ?_
      exact t_X4_heirOf_75 hX hQ  hk6 x1 x2 x5 hf
    · replace hf := itf h7 hf
      refine j_aload_n hX dX4_heirOf_64 65 rfl 1 rfl rfl ?_
      refine j_iload hX dX4_heirOf_65 67 rfl 5 rfl ?_
      refine j_iload hX dX4_heirOf_67 69 rfl 4 rfl ?_
      obtain ⟨v8, hv8, hf⟩ := ibd hf
      refine z_i (As := [.int x5, .int x4]) (rest := []) (q0 := 1) hX dX4_heirOf_69 72 rfl (t_X4_isElder x5 x4 hv8) mc_X4_isElder mv_X4_isElder ml_X4_75 rfl rfl (Nat.le_of_ble_eq_true rfl) (Nat.le_refl _) (Nat.le_refl _) rfl (Nat.le_of_ble_eq_true rfl) ?_
      refine j_if_eq hX dX4_heirOf_72 75 79 rfl rfl (fun h9 => ?_) (fun h9 => ?_)
      · replace hf := itt h9 hf
        refine j_sub [1, 2, 3, 4, 5] rfl ?_
        exact t_X4_heirOf_79 hX hQ  hk6 x1 x2 x4 x5 hf
      · replace hf := itf h9 hf
        refine j_sub [1, 2, 3, 5] rfl ?_
        exact t_X4_heirOf_75 hX hQ  hk6 x1 x2 x5 hf
def g_X4_heirOf_50 (p_born : Nat → Int32) (p_size : Int32) (k6 : Int32 → Int64 → Int32 → Int32 → Option (Int32)) (x1 : Int32) (x2 : Int64) (x4 : Int32) (x5 : Int32) : Option (Int32) :=
  g_X4_heirOf_51 p_born p_size k6 x1 x2 x4 x5 0
set_option maxRecDepth 100000 in
set_option maxHeartbeats 4000000 in
theorem t_X4_heirOf_50 {Y : YT} {r : Int32} {k6 : Int32 → Int64 → Int32 → Int32 → Option (Int32)} (hX : CX l G cX4_heirOf 7 RX4 Y) (hQ : EQi G Y 0 0 .int r (WB G p_female p_born p_toldDeath p_lastYear p_father p_mother p_fatherGrade p_motherGrade p_size g_holder g_arms g_from g_size r_marks r_arms r_root r_steps r_grade r_marksAboveOne q_rows q_sizes t_bytes t_length s_tokens s_starts s_size a_code a_codeSize a_at a_token a_fault a_place o_texts o_names o_operands o_size o_open o_refuses o_differs o_fees c_years c_rows c_size x_faultPlace ++ fr)) (hk6 : ∀ (x1 : Int32) (x2 : Int64) (x4 : Int32) (x5 : Int32), k6 x1 x2 x4 x5  = some r → J l G (rmD 4 0 0) Y 0 0 6 [(0, .ref (gb G 1)), (1, .int x1), (2, .long x2), (4, .int x4), (5, .int x5)] [] (WB G p_female p_born p_toldDeath p_lastYear p_father p_mother p_fatherGrade p_motherGrade p_size g_holder g_arms g_from g_size r_marks r_arms r_root r_steps r_grade r_marksAboveOne q_rows q_sizes t_bytes t_length s_tokens s_starts s_size a_code a_codeSize a_at a_token a_fault a_place o_texts o_names o_operands o_size o_open o_refuses o_differs o_fees c_years c_rows c_size x_faultPlace ++ fr)) (x1 : Int32) (x2 : Int64) (x4 : Int32) (x5 : Int32) (hf : g_X4_heirOf_50 p_born p_size k6 x1 x2 x4 x5 = some r) : J l G (rmD 4 0 0) Y 0 0 50 [(0, .ref (gb G 1)), (1, .int x1), (2, .long x2), (4, .int x4), (5, .int x5)] [] (WB G p_female p_born p_toldDeath p_lastYear p_father p_mother p_fatherGrade p_motherGrade p_size g_holder g_arms g_from g_size r_marks r_arms r_root r_steps r_grade r_marksAboveOne q_rows q_sizes t_bytes t_length s_tokens s_starts s_size a_code a_codeSize a_at a_token a_fault a_place o_texts o_names o_operands o_size o_open o_refuses o_differs o_fees c_years c_rows c_size x_faultPlace ++ fr) := by
  unfold g_X4_heirOf_50 at hf
  refine j_iconst (v := 0) hX dX4_heirOf_50 51 rfl (by decide) ?_
  exact t_X4_heirOf_51 hX hQ  hk6 x1 x2 x4 x5 0 hf
def g_X4_heirOf_37 (p_born : Nat → Int32) (p_size : Int32) (k6 : Int32 → Int64 → Int32 → Int32 → Option (Int32)) (x1 : Int32) (x2 : Int64) (x4 : Int32) (x5 : Int32) : Option (Int32) :=
  (f_X4_isIn x2 x5).bind fun v4 => if v4 = 0 then g_X4_heirOf_50 p_born p_size k6 x1 x2 x4 x5 else g_X4_heirOf_51 p_born p_size k6 x1 x2 x4 x5 1
set_option maxRecDepth 100000 in
set_option maxHeartbeats 4000000 in
theorem t_X4_heirOf_37 {Y : YT} {r : Int32} {k6 : Int32 → Int64 → Int32 → Int32 → Option (Int32)} (hX : CX l G cX4_heirOf 7 RX4 Y) (hQ : EQi G Y 0 0 .int r (WB G p_female p_born p_toldDeath p_lastYear p_father p_mother p_fatherGrade p_motherGrade p_size g_holder g_arms g_from g_size r_marks r_arms r_root r_steps r_grade r_marksAboveOne q_rows q_sizes t_bytes t_length s_tokens s_starts s_size a_code a_codeSize a_at a_token a_fault a_place o_texts o_names o_operands o_size o_open o_refuses o_differs o_fees c_years c_rows c_size x_faultPlace ++ fr)) (hk6 : ∀ (x1 : Int32) (x2 : Int64) (x4 : Int32) (x5 : Int32), k6 x1 x2 x4 x5  = some r → J l G (rmD 4 0 0) Y 0 0 6 [(0, .ref (gb G 1)), (1, .int x1), (2, .long x2), (4, .int x4), (5, .int x5)] [] (WB G p_female p_born p_toldDeath p_lastYear p_father p_mother p_fatherGrade p_motherGrade p_size g_holder g_arms g_from g_size r_marks r_arms r_root r_steps r_grade r_marksAboveOne q_rows q_sizes t_bytes t_length s_tokens s_starts s_size a_code a_codeSize a_at a_token a_fault a_place o_texts o_names o_operands o_size o_open o_refuses o_differs o_fees c_years c_rows c_size x_faultPlace ++ fr)) (x1 : Int32) (x2 : Int64) (x4 : Int32) (x5 : Int32) (hf : g_X4_heirOf_37 p_born p_size k6 x1 x2 x4 x5 = some r) : J l G (rmD 4 0 0) Y 0 0 37 [(0, .ref (gb G 1)), (1, .int x1), (2, .long x2), (4, .int x4), (5, .int x5)] [] (WB G p_female p_born p_toldDeath p_lastYear p_father p_mother p_fatherGrade p_motherGrade p_size g_holder g_arms g_from g_size r_marks r_arms r_root r_steps r_grade r_marksAboveOne q_rows q_sizes t_bytes t_length s_tokens s_starts s_size a_code a_codeSize a_at a_token a_fault a_place o_texts o_names o_operands o_size o_open o_refuses o_differs o_fees c_years c_rows c_size x_faultPlace ++ fr) := by
  unfold g_X4_heirOf_37 at hf
  refine j_lload_n hX dX4_heirOf_37 38 rfl 2 rfl rfl ?_
  refine j_iload hX dX4_heirOf_38 40 rfl 4 rfl ?_
  obtain ⟨v4, hv4, hf⟩ := ibd hf
  refine z_si (As := [.long x2, .int x5]) (rest := []) hX dX4_heirOf_40 43 rfl (t_X4_isIn x2 x5 hv4) mc_X4_isIn ms_X4_isIn ml_X4_64 (Nat.le_of_ble_eq_true rfl) (Nat.le_refl _) (Nat.le_refl _) rfl (Nat.le_of_ble_eq_true rfl) ?_
  refine j_if_eq hX dX4_heirOf_43 46 50 rfl rfl (fun h5 => ?_) (fun h5 => ?_)
  · replace hf := itt h5 hf
    exact t_X4_heirOf_50 hX hQ  hk6 x1 x2 x4 x5 hf
  · replace hf := itf h5 hf
    refine j_iconst (v := 1) hX dX4_heirOf_46 47 rfl (by decide) ?_
    refine j_goto hX dX4_heirOf_47 51 rfl ?_
    exact t_X4_heirOf_51 hX hQ  hk6 x1 x2 x4 x5 1 hf
def g_X4_heirOf_6 (p_born : Nat → Int32) (p_father : Nat → Int32) (p_mother : Nat → Int32) (p_size : Int32) (k6 : Int32 → Int64 → Int32 → Int32 → Option (Int32)) (x1 : Int32) (x2 : Int64) (x4 : Int32) (x5 : Int32) : Option (Int32) :=
  if p_size ≤ x5 then some x4 else if inb x5 60 = true then if (p_father (Int32.toNatClampNeg x5)) = x1 then g_X4_heirOf_37 p_born p_size k6 x1 x2 x4 x5 else if inb x5 60 = true then if (p_mother (Int32.toNatClampNeg x5)) = x1 then g_X4_heirOf_37 p_born p_size k6 x1 x2 x4 x5 else g_X4_heirOf_50 p_born p_size k6 x1 x2 x4 x5 else none else none
set_option maxRecDepth 100000 in
set_option maxHeartbeats 4000000 in
theorem t_X4_heirOf_6 {Y : YT} {r : Int32} {k6 : Int32 → Int64 → Int32 → Int32 → Option (Int32)} (hX : CX l G cX4_heirOf 7 RX4 Y) (hQ : EQi G Y 0 0 .int r (WB G p_female p_born p_toldDeath p_lastYear p_father p_mother p_fatherGrade p_motherGrade p_size g_holder g_arms g_from g_size r_marks r_arms r_root r_steps r_grade r_marksAboveOne q_rows q_sizes t_bytes t_length s_tokens s_starts s_size a_code a_codeSize a_at a_token a_fault a_place o_texts o_names o_operands o_size o_open o_refuses o_differs o_fees c_years c_rows c_size x_faultPlace ++ fr)) (hk6 : ∀ (x1 : Int32) (x2 : Int64) (x4 : Int32) (x5 : Int32), k6 x1 x2 x4 x5  = some r → J l G (rmD 4 0 0) Y 0 0 6 [(0, .ref (gb G 1)), (1, .int x1), (2, .long x2), (4, .int x4), (5, .int x5)] [] (WB G p_female p_born p_toldDeath p_lastYear p_father p_mother p_fatherGrade p_motherGrade p_size g_holder g_arms g_from g_size r_marks r_arms r_root r_steps r_grade r_marksAboveOne q_rows q_sizes t_bytes t_length s_tokens s_starts s_size a_code a_codeSize a_at a_token a_fault a_place o_texts o_names o_operands o_size o_open o_refuses o_differs o_fees c_years c_rows c_size x_faultPlace ++ fr)) (x1 : Int32) (x2 : Int64) (x4 : Int32) (x5 : Int32) (hf : g_X4_heirOf_6 p_born p_father p_mother p_size k6 x1 x2 x4 x5 = some r) : J l G (rmD 4 0 0) Y 0 0 6 [(0, .ref (gb G 1)), (1, .int x1), (2, .long x2), (4, .int x4), (5, .int x5)] [] (WB G p_female p_born p_toldDeath p_lastYear p_father p_mother p_fatherGrade p_motherGrade p_size g_holder g_arms g_from g_size r_marks r_arms r_root r_steps r_grade r_marksAboveOne q_rows q_sizes t_bytes t_length s_tokens s_starts s_size a_code a_codeSize a_at a_token a_fault a_place o_texts o_names o_operands o_size o_open o_refuses o_differs o_fees c_years c_rows c_size x_faultPlace ++ fr) := by
  unfold g_X4_heirOf_6 at hf
  refine j_iload hX dX4_heirOf_6 8 rfl 4 rfl ?_
  refine j_aload_n hX dX4_heirOf_8 9 rfl 0 rfl rfl ?_
  refine j_get hX dX4_heirOf_9 12 rfl fg_X4_37 1 rfl rfl ?_
  refine j_icmp_ge hX dX4_heirOf_12 15 85 rfl rfl (fun h1 => ?_) (fun h1 => ?_)
  · replace hf := itt h1 hf
    refine j_iload hX dX4_heirOf_85 87 rfl 3 rfl ?_
    replace hf := Option.some.inj hf
    subst hf
    exact j_iret hX hQ dX4_heirOf_87
  · replace hf := itf h1 hf
    refine j_aload_n hX dX4_heirOf_15 16 rfl 0 rfl rfl ?_
    refine j_get hX dX4_heirOf_16 19 rfl fg_X4_25 1 rfl rfl ?_
    refine j_iload hX dX4_heirOf_19 21 rfl 4 rfl ?_
    obtain ⟨hb2, hf⟩ := ign hf
    refine j_iald hX dX4_heirOf_21 22 rfl 6 rfl hb2 ?_
    refine j_iload_n hX dX4_heirOf_22 23 rfl 1 rfl rfl ?_
    refine j_icmp_eq hX dX4_heirOf_23 26 37 rfl rfl (fun h3 => ?_) (fun h3 => ?_)
    · replace hf := itt h3 hf
      exact t_X4_heirOf_37 hX hQ  hk6 x1 x2 x4 x5 hf
    · replace hf := itf h3 hf
      refine j_aload_n hX dX4_heirOf_26 27 rfl 0 rfl rfl ?_
      refine j_get hX dX4_heirOf_27 30 rfl fg_X4_28 1 rfl rfl ?_
      refine j_iload hX dX4_heirOf_30 32 rfl 4 rfl ?_
      obtain ⟨hb10, hf⟩ := ign hf
      refine j_iald hX dX4_heirOf_32 33 rfl 7 rfl hb10 ?_
      refine j_iload_n hX dX4_heirOf_33 34 rfl 1 rfl rfl ?_
      refine j_icmp_ne hX dX4_heirOf_34 37 50 rfl rfl (fun h11 => ?_) (fun h11 => ?_)
      · replace hf := itf h11 hf
        exact t_X4_heirOf_50 hX hQ  hk6 x1 x2 x4 x5 hf
      · replace hf := itt h11 hf
        exact t_X4_heirOf_37 hX hQ  hk6 x1 x2 x4 x5 hf
def f_X4_heirOf_6 (p_born : Nat → Int32) (p_father : Nat → Int32) (p_mother : Nat → Int32) (p_size : Int32) : Nat → (Int32 × Int64 × Int32 × Int32) → Option (Int32) :=
  lp (fun k v => g_X4_heirOf_6 p_born p_father p_mother p_size (fun x1 x2 x4 x5 => k (x1, x2, x4, x5)) v.1 v.2.1 v.2.2.1 v.2.2.2)
set_option maxRecDepth 100000 in
set_option maxHeartbeats 4000000 in
theorem u_X4_heirOf_6 {Y : YT} {r : Int32}  (hX : CX l G cX4_heirOf 7 RX4 Y) (hQ : EQi G Y 0 0 .int r (WB G p_female p_born p_toldDeath p_lastYear p_father p_mother p_fatherGrade p_motherGrade p_size g_holder g_arms g_from g_size r_marks r_arms r_root r_steps r_grade r_marksAboveOne q_rows q_sizes t_bytes t_length s_tokens s_starts s_size a_code a_codeSize a_at a_token a_fault a_place o_texts o_names o_operands o_size o_open o_refuses o_differs o_fees c_years c_rows c_size x_faultPlace ++ fr))  (n : Nat) (v : Int32 × Int64 × Int32 × Int32) (hf : f_X4_heirOf_6 p_born p_father p_mother p_size n v = some r) : J l G (rmD 4 0 0) Y 0 0 6 [(0, .ref (gb G 1)), (1, .int v.1), (2, .long v.2.1), (4, .int v.2.2.1), (5, .int v.2.2.2)] [] (WB G p_female p_born p_toldDeath p_lastYear p_father p_mother p_fatherGrade p_motherGrade p_size g_holder g_arms g_from g_size r_marks r_arms r_root r_steps r_grade r_marksAboveOne q_rows q_sizes t_bytes t_length s_tokens s_starts s_size a_code a_codeSize a_at a_token a_fault a_place o_texts o_names o_operands o_size o_open o_refuses o_differs o_fees c_years c_rows c_size x_faultPlace ++ fr) :=
  lp_ind (P := fun v : Int32 × Int64 × Int32 × Int32 => J l G (rmD 4 0 0) Y 0 0 6 [(0, .ref (gb G 1)), (1, .int v.1), (2, .long v.2.1), (4, .int v.2.2.1), (5, .int v.2.2.2)] [] (WB G p_female p_born p_toldDeath p_lastYear p_father p_mother p_fatherGrade p_motherGrade p_size g_holder g_arms g_from g_size r_marks r_arms r_root r_steps r_grade r_marksAboveOne q_rows q_sizes t_bytes t_length s_tokens s_starts s_size a_code a_codeSize a_at a_token a_fault a_place o_texts o_names o_operands o_size o_open o_refuses o_differs o_fees c_years c_rows c_size x_faultPlace ++ fr)) (fun k hk v hf => t_X4_heirOf_6 hX hQ   (fun x1 x2 x4 x5 h => hk (x1, x2, x4, x5) h) v.1 v.2.1 v.2.2.1 v.2.2.2 hf) n v hf
def f_X4_heirOf (fu : Nat) (p_born : Nat → Int32) (p_father : Nat → Int32) (p_mother : Nat → Int32) (p_size : Int32) (x1 : Int32) (x2 : Int64) : Option (Int32) :=
  f_X4_heirOf_6 p_born p_father p_mother p_size fu (x1, x2, (-1), 0)
set_option maxRecDepth 100000 in
set_option maxHeartbeats 4000000 in
theorem t_X4_heirOf {fu : Nat}  (x1 : Int32) (x2 : Int64) {r : Int32} (hf : f_X4_heirOf fu p_born p_father p_mother p_size x1 x2 = some r) : Ci l G 4 0 0 yX4_heirOf cX4_heirOf 7 .int [.ref (gb G 1), .int x1, .long x2] (WB G p_female p_born p_toldDeath p_lastYear p_father p_mother p_fatherGrade p_motherGrade p_size g_holder g_arms g_from g_size r_marks r_arms r_root r_steps r_grade r_marksAboveOne q_rows q_sizes t_bytes t_length s_tokens s_starts s_size a_code a_codeSize a_at a_token a_fault a_place o_texts o_names o_operands o_size o_open o_refuses o_differs o_fees c_years c_rows c_size x_faultPlace ++ fr) r (WB G p_female p_born p_toldDeath p_lastYear p_father p_mother p_fatherGrade p_motherGrade p_size g_holder g_arms g_from g_size r_marks r_arms r_root r_steps r_grade r_marksAboveOne q_rows q_sizes t_bytes t_length s_tokens s_starts s_size a_code a_codeSize a_at a_token a_fault a_place o_texts o_names o_operands o_size o_open o_refuses o_differs o_fees c_years c_rows c_size x_faultPlace ++ fr) := by
  refine Ci.of (by decide) (Nat.le_of_ble_eq_true rfl) (fun Y hX hQ => ?_)
  refine j_lv (lv' := [(0, .ref (gb G 1)), (1, .int x1), (2, .long x2)]) rfl ?_
  unfold f_X4_heirOf at hf
  refine j_iconst (v := (-1)) hX dX4_heirOf_0 1 rfl (by decide) ?_
  refine j_istore hX dX4_heirOf_1 3 rfl (by decide) (lv' := [(4, .int ((-1))), (0, .ref (gb G 1)), (1, .int x1), (2, .long x2)]) rfl ?_
  refine j_iconst (v := 0) hX dX4_heirOf_3 4 rfl (by decide) ?_
  refine j_istore hX dX4_heirOf_4 6 rfl (by decide) (lv' := [(5, .int 0), (4, .int ((-1))), (0, .ref (gb G 1)), (1, .int x1), (2, .long x2)]) rfl ?_
  refine j_sub [2, 3, 4, 1, 0] rfl ?_
  exact u_X4_heirOf_6 hX hQ   fu (x1, x2, (-1), 0) hf
def g_X4_headOf_53  : Option (Int32) :=
  some ((-1))
set_option maxRecDepth 100000 in
set_option maxHeartbeats 4000000 in
theorem t_X4_headOf_53 {Y : YT} {r : Int32}  (hX : CX l G cX4_headOf 7 RX4 Y) (hQ : EQi G Y 0 0 .int r (WB G p_female p_born p_toldDeath p_lastYear p_father p_mother p_fatherGrade p_motherGrade p_size g_holder g_arms g_from g_size r_marks r_arms r_root r_steps r_grade r_marksAboveOne q_rows q_sizes t_bytes t_length s_tokens s_starts s_size a_code a_codeSize a_at a_token a_fault a_place o_texts o_names o_operands o_size o_open o_refuses o_differs o_fees c_years c_rows c_size x_faultPlace ++ fr))   (hf : g_X4_headOf_53  = some r) : J l G (rmD 5 0 0) Y 0 0 53 [] [] (WB G p_female p_born p_toldDeath p_lastYear p_father p_mother p_fatherGrade p_motherGrade p_size g_holder g_arms g_from g_size r_marks r_arms r_root r_steps r_grade r_marksAboveOne q_rows q_sizes t_bytes t_length s_tokens s_starts s_size a_code a_codeSize a_at a_token a_fault a_place o_texts o_names o_operands o_size o_open o_refuses o_differs o_fees c_years c_rows c_size x_faultPlace ++ fr) := by
  unfold g_X4_headOf_53 at hf
  refine j_iconst (v := (-1)) hX dX4_headOf_53 54 rfl (by decide) ?_
  replace hf := Option.some.inj hf
  subst hf
  exact j_iret hX hQ dX4_headOf_54
def g_X4_headOf_12 (fu : Nat) (p_born : Nat → Int32) (p_lastYear : Nat → Int32) (p_father : Nat → Int32) (p_mother : Nat → Int32) (p_size : Int32) (k12 : Int32 → Int64 → Int32 → Int32 → Option (Int32)) (x2 : Int32) (x3 : Int64) (x5 : Int32) (x6 : Int32) : Option (Int32) :=
  if 60 ≤ x6 then g_X4_headOf_53  else if x5 = ((-1)) then g_X4_headOf_53  else (f_X4_isLiving p_born p_lastYear p_size x5 x2).bind fun v4 => if v4 = 0 then (f_X4_heirOf fu p_born p_father p_mother p_size x5 x3).bind fun v6 => k12 x2 x3 v6 (x6 + 1) else some x5
set_option maxRecDepth 100000 in
set_option maxHeartbeats 4000000 in
theorem t_X4_headOf_12 {fu : Nat} {Y : YT} {r : Int32} {k12 : Int32 → Int64 → Int32 → Int32 → Option (Int32)} (hX : CX l G cX4_headOf 7 RX4 Y) (hQ : EQi G Y 0 0 .int r (WB G p_female p_born p_toldDeath p_lastYear p_father p_mother p_fatherGrade p_motherGrade p_size g_holder g_arms g_from g_size r_marks r_arms r_root r_steps r_grade r_marksAboveOne q_rows q_sizes t_bytes t_length s_tokens s_starts s_size a_code a_codeSize a_at a_token a_fault a_place o_texts o_names o_operands o_size o_open o_refuses o_differs o_fees c_years c_rows c_size x_faultPlace ++ fr)) (hk12 : ∀ (x2 : Int32) (x3 : Int64) (x5 : Int32) (x6 : Int32), k12 x2 x3 x5 x6  = some r → J l G (rmD 5 0 0) Y 0 0 12 [(0, .ref (gb G 1)), (2, .int x2), (3, .long x3), (5, .int x5), (6, .int x6)] [] (WB G p_female p_born p_toldDeath p_lastYear p_father p_mother p_fatherGrade p_motherGrade p_size g_holder g_arms g_from g_size r_marks r_arms r_root r_steps r_grade r_marksAboveOne q_rows q_sizes t_bytes t_length s_tokens s_starts s_size a_code a_codeSize a_at a_token a_fault a_place o_texts o_names o_operands o_size o_open o_refuses o_differs o_fees c_years c_rows c_size x_faultPlace ++ fr)) (x2 : Int32) (x3 : Int64) (x5 : Int32) (x6 : Int32) (hf : g_X4_headOf_12 fu p_born p_lastYear p_father p_mother p_size k12 x2 x3 x5 x6 = some r) : J l G (rmD 5 0 0) Y 0 0 12 [(0, .ref (gb G 1)), (2, .int x2), (3, .long x3), (5, .int x5), (6, .int x6)] [] (WB G p_female p_born p_toldDeath p_lastYear p_father p_mother p_fatherGrade p_motherGrade p_size g_holder g_arms g_from g_size r_marks r_arms r_root r_steps r_grade r_marksAboveOne q_rows q_sizes t_bytes t_length s_tokens s_starts s_size a_code a_codeSize a_at a_token a_fault a_place o_texts o_names o_operands o_size o_open o_refuses o_differs o_fees c_years c_rows c_size x_faultPlace ++ fr) := by
  unfold g_X4_headOf_12 at hf
  refine j_iload hX dX4_headOf_12 14 rfl 4 rfl ?_
  refine j_bipush (v := 60) hX dX4_headOf_14 16 rfl (by decide) ?_
  refine j_icmp_ge hX dX4_headOf_16 19 53 rfl rfl (fun h2 => ?_) (fun h2 => ?_)
  · replace hf := itt h2 hf
    refine j_sub [] rfl ?_
    exact t_X4_headOf_53 hX hQ    hf
  · replace hf := itf h2 hf
    refine j_iload hX dX4_headOf_19 21 rfl 3 rfl ?_
    refine j_iconst (v := (-1)) hX dX4_headOf_21 22 rfl (by decide) ?_
    refine j_icmp_eq hX dX4_headOf_22 25 53 rfl rfl (fun h3 => ?_) (fun h3 => ?_)
    · replace hf := itt h3 hf
      refine j_sub [] rfl ?_
      exact t_X4_headOf_53 hX hQ    hf
    · replace hf := itf h3 hf
      refine j_aload_n hX dX4_headOf_25 26 rfl 0 rfl rfl ?_
      refine j_iload hX dX4_headOf_26 28 rfl 3 rfl ?_
      refine j_iload_n hX dX4_headOf_28 29 rfl 1 rfl rfl ?_
      obtain ⟨v4, hv4, hf⟩ := ibd hf
      refine z_i (As := [.int x5, .int x2]) (rest := []) (q0 := 1) hX dX4_headOf_29 32 rfl (t_X4_isLiving x5 x2 hv4) mc_X4_isLiving mv_X4_isLiving ml_X4_61 rfl rfl (Nat.le_of_ble_eq_true rfl) (Nat.le_refl _) (Nat.le_refl _) rfl (Nat.le_of_ble_eq_true rfl) ?_
      refine j_if_eq hX dX4_headOf_32 35 38 rfl rfl (fun h5 => ?_) (fun h5 => ?_)
      · replace hf := itt h5 hf
        refine j_aload_n hX dX4_headOf_38 39 rfl 0 rfl rfl ?_
        refine j_iload hX dX4_headOf_39 41 rfl 3 rfl ?_
        refine j_lload_n hX dX4_headOf_41 42 rfl 2 rfl rfl ?_
        obtain ⟨v6, hv6, hf⟩ := ibd hf
        refine z_i (As := [.int x5, .long x3]) (rest := []) (q0 := 1) hX dX4_headOf_42 45 rfl (t_X4_heirOf x5 x3 hv6) mc_X4_heirOf mv_X4_heirOf ml_X4_82 rfl rfl (Nat.le_of_ble_eq_true rfl) (Nat.le_refl _) (Nat.le_refl _) rfl (Nat.le_of_ble_eq_true rfl) ?_
        refine j_istore hX dX4_headOf_45 47 rfl (by decide) (lv' := [(5, .int v6), (0, .ref (gb G 1)), (2, .int x2), (3, .long x3), (6, .int x6)]) rfl ?_
        refine j_iinc (v := x6 + 1) hX dX4_headOf_47 50 rfl 4 rfl rfl (by decide) (lv' := [(6, .int (x6 + 1)), (5, .int v6), (0, .ref (gb G 1)), (2, .int x2), (3, .long x3)]) rfl ?_
        refine j_goto hX dX4_headOf_50 12 rfl ?_
        refine j_sub [2, 3, 4, 1, 0] rfl ?_
        exact hk12 x2 x3 v6 (x6 + 1) hf
      · replace hf := itf h5 hf
        refine j_iload hX dX4_headOf_35 37 rfl 3 rfl ?_
        replace hf := Option.some.inj hf
        subst hf
        exact j_iret hX hQ dX4_headOf_37
def f_X4_headOf_12 (fu : Nat) (p_born : Nat → Int32) (p_lastYear : Nat → Int32) (p_father : Nat → Int32) (p_mother : Nat → Int32) (p_size : Int32) : Nat → (Int32 × Int64 × Int32 × Int32) → Option (Int32) :=
  lp (fun k v => g_X4_headOf_12 fu p_born p_lastYear p_father p_mother p_size (fun x2 x3 x5 x6 => k (x2, x3, x5, x6)) v.1 v.2.1 v.2.2.1 v.2.2.2)
set_option maxRecDepth 100000 in
set_option maxHeartbeats 4000000 in
theorem u_X4_headOf_12 {fu : Nat} {Y : YT} {r : Int32}  (hX : CX l G cX4_headOf 7 RX4 Y) (hQ : EQi G Y 0 0 .int r (WB G p_female p_born p_toldDeath p_lastYear p_father p_mother p_fatherGrade p_motherGrade p_size g_holder g_arms g_from g_size r_marks r_arms r_root r_steps r_grade r_marksAboveOne q_rows q_sizes t_bytes t_length s_tokens s_starts s_size a_code a_codeSize a_at a_token a_fault a_place o_texts o_names o_operands o_size o_open o_refuses o_differs o_fees c_years c_rows c_size x_faultPlace ++ fr))  (n : Nat) (v : Int32 × Int64 × Int32 × Int32) (hf : f_X4_headOf_12 fu p_born p_lastYear p_father p_mother p_size n v = some r) : J l G (rmD 5 0 0) Y 0 0 12 [(0, .ref (gb G 1)), (2, .int v.1), (3, .long v.2.1), (5, .int v.2.2.1), (6, .int v.2.2.2)] [] (WB G p_female p_born p_toldDeath p_lastYear p_father p_mother p_fatherGrade p_motherGrade p_size g_holder g_arms g_from g_size r_marks r_arms r_root r_steps r_grade r_marksAboveOne q_rows q_sizes t_bytes t_length s_tokens s_starts s_size a_code a_codeSize a_at a_token a_fault a_place o_texts o_names o_operands o_size o_open o_refuses o_differs o_fees c_years c_rows c_size x_faultPlace ++ fr) :=
  lp_ind (P := fun v : Int32 × Int64 × Int32 × Int32 => J l G (rmD 5 0 0) Y 0 0 12 [(0, .ref (gb G 1)), (2, .int v.1), (3, .long v.2.1), (5, .int v.2.2.1), (6, .int v.2.2.2)] [] (WB G p_female p_born p_toldDeath p_lastYear p_father p_mother p_fatherGrade p_motherGrade p_size g_holder g_arms g_from g_size r_marks r_arms r_root r_steps r_grade r_marksAboveOne q_rows q_sizes t_bytes t_length s_tokens s_starts s_size a_code a_codeSize a_at a_token a_fault a_place o_texts o_names o_operands o_size o_open o_refuses o_differs o_fees c_years c_rows c_size x_faultPlace ++ fr)) (fun k hk v hf => t_X4_headOf_12 hX hQ   (fun x2 x3 x5 x6 h => hk (x2, x3, x5, x6) h) v.1 v.2.1 v.2.2.1 v.2.2.2 hf) n v hf
def f_X4_headOf (fu : Nat) (p_female : Nat → Int32) (p_born : Nat → Int32) (p_lastYear : Nat → Int32) (p_father : Nat → Int32) (p_mother : Nat → Int32) (p_size : Int32) (x1 : Int32) (x2 : Int32) : Option (Int32) :=
  (f_X4_livingLines fu p_female p_born p_lastYear p_father p_size x2).bind fun v1 => f_X4_headOf_12 fu p_born p_lastYear p_father p_mother p_size fu (x2, v1, x1, 0)
set_option maxRecDepth 100000 in
set_option maxHeartbeats 4000000 in
theorem t_X4_headOf {fu : Nat}  (x1 : Int32) (x2 : Int32) {r : Int32} (hf : f_X4_headOf fu p_female p_born p_lastYear p_father p_mother p_size x1 x2 = some r) : Ci l G 5 0 0 yX4_headOf cX4_headOf 7 .int [.ref (gb G 1), .int x1, .int x2] (WB G p_female p_born p_toldDeath p_lastYear p_father p_mother p_fatherGrade p_motherGrade p_size g_holder g_arms g_from g_size r_marks r_arms r_root r_steps r_grade r_marksAboveOne q_rows q_sizes t_bytes t_length s_tokens s_starts s_size a_code a_codeSize a_at a_token a_fault a_place o_texts o_names o_operands o_size o_open o_refuses o_differs o_fees c_years c_rows c_size x_faultPlace ++ fr) r (WB G p_female p_born p_toldDeath p_lastYear p_father p_mother p_fatherGrade p_motherGrade p_size g_holder g_arms g_from g_size r_marks r_arms r_root r_steps r_grade r_marksAboveOne q_rows q_sizes t_bytes t_length s_tokens s_starts s_size a_code a_codeSize a_at a_token a_fault a_place o_texts o_names o_operands o_size o_open o_refuses o_differs o_fees c_years c_rows c_size x_faultPlace ++ fr) := by
  refine Ci.of (by decide) (Nat.le_of_ble_eq_true rfl) (fun Y hX hQ => ?_)
  refine j_lv (lv' := [(0, .ref (gb G 1)), (1, .int x1), (2, .int x2)]) rfl ?_
  unfold f_X4_headOf at hf
  refine j_aload_n hX dX4_headOf_0 1 rfl 0 rfl rfl ?_
  refine j_iload_n hX dX4_headOf_1 2 rfl 2 rfl rfl ?_
  obtain ⟨v1, hv1, hf⟩ := ibd hf
  refine z_l (As := [.int x2]) (rest := []) (q0 := 1) hX dX4_headOf_2 5 rfl (t_X4_livingLines x2 hv1) mc_X4_livingLines mv_X4_livingLines ml_X4_78 rfl rfl (Nat.le_of_ble_eq_true rfl) (Nat.le_refl _) (Nat.le_refl _) rfl (Nat.le_of_ble_eq_true rfl) ?_
  refine j_lstore_n hX dX4_headOf_5 6 rfl rfl (by decide) (lv' := [(3, .long v1), (0, .ref (gb G 1)), (1, .int x1), (2, .int x2)]) rfl ?_
  refine j_iload_n hX dX4_headOf_6 7 rfl 2 rfl rfl ?_
  refine j_istore hX dX4_headOf_7 9 rfl (by decide) (lv' := [(5, .int x1), (3, .long v1), (0, .ref (gb G 1)), (1, .int x1), (2, .int x2)]) rfl ?_
  refine j_iconst (v := 0) hX dX4_headOf_9 10 rfl (by decide) ?_
  refine j_istore hX dX4_headOf_10 12 rfl (by decide) (lv' := [(6, .int 0), (5, .int x1), (3, .long v1), (0, .ref (gb G 1)), (1, .int x1), (2, .int x2)]) rfl ?_
  refine j_sub [3, 5, 2, 1, 0] rfl ?_
  exact u_X4_headOf_12 hX hQ   fu (x2, v1, x1, 0) hf
def g_X4_isHeiress_35  : Option (Int32) :=
  some 0
set_option maxRecDepth 100000 in
set_option maxHeartbeats 4000000 in
theorem t_X4_isHeiress_35 {Y : YT} {r : Int32}  (hX : CX l G cX4_isHeiress 7 RX4 Y) (hQ : EQi G Y 0 0 .boolean r (WB G p_female p_born p_toldDeath p_lastYear p_father p_mother p_fatherGrade p_motherGrade p_size g_holder g_arms g_from g_size r_marks r_arms r_root r_steps r_grade r_marksAboveOne q_rows q_sizes t_bytes t_length s_tokens s_starts s_size a_code a_codeSize a_at a_token a_fault a_place o_texts o_names o_operands o_size o_open o_refuses o_differs o_fees c_years c_rows c_size x_faultPlace ++ fr))   (hf : g_X4_isHeiress_35  = some r) : J l G (rmD 3 0 0) Y 0 0 35 [] [] (WB G p_female p_born p_toldDeath p_lastYear p_father p_mother p_fatherGrade p_motherGrade p_size g_holder g_arms g_from g_size r_marks r_arms r_root r_steps r_grade r_marksAboveOne q_rows q_sizes t_bytes t_length s_tokens s_starts s_size a_code a_codeSize a_at a_token a_fault a_place o_texts o_names o_operands o_size o_open o_refuses o_differs o_fees c_years c_rows c_size x_faultPlace ++ fr) := by
  unfold g_X4_isHeiress_35 at hf
  refine j_iconst (v := 0) hX dX4_isHeiress_35 36 rfl (by decide) ?_
  replace hf := Option.some.inj hf
  subst hf
  exact j_zret hX hQ rfl dX4_isHeiress_36
def g_X4_isHeiress_72 (k40 : Int64 → Int32 → Int32 → Option (Int32)) (x3 : Int64) (x5 : Int32) (x6 : Int32) : Option (Int32) :=
  k40 x3 x5 (x6 + 1)
set_option maxRecDepth 100000 in
set_option maxHeartbeats 4000000 in
theorem t_X4_isHeiress_72 {Y : YT} {r : Int32} {k40 : Int64 → Int32 → Int32 → Option (Int32)} (hX : CX l G cX4_isHeiress 7 RX4 Y) (hQ : EQi G Y 0 0 .boolean r (WB G p_female p_born p_toldDeath p_lastYear p_father p_mother p_fatherGrade p_motherGrade p_size g_holder g_arms g_from g_size r_marks r_arms r_root r_steps r_grade r_marksAboveOne q_rows q_sizes t_bytes t_length s_tokens s_starts s_size a_code a_codeSize a_at a_token a_fault a_place o_texts o_names o_operands o_size o_open o_refuses o_differs o_fees c_years c_rows c_size x_faultPlace ++ fr)) (hk40 : ∀ (x3 : Int64) (x5 : Int32) (x6 : Int32), k40 x3 x5 x6  = some r → J l G (rmD 3 0 0) Y 0 0 40 [(0, .ref (gb G 1)), (3, .long x3), (5, .int x5), (6, .int x6)] [] (WB G p_female p_born p_toldDeath p_lastYear p_father p_mother p_fatherGrade p_motherGrade p_size g_holder g_arms g_from g_size r_marks r_arms r_root r_steps r_grade r_marksAboveOne q_rows q_sizes t_bytes t_length s_tokens s_starts s_size a_code a_codeSize a_at a_token a_fault a_place o_texts o_names o_operands o_size o_open o_refuses o_differs o_fees c_years c_rows c_size x_faultPlace ++ fr)) (x3 : Int64) (x5 : Int32) (x6 : Int32) (hf : g_X4_isHeiress_72 k40 x3 x5 x6 = some r) : J l G (rmD 3 0 0) Y 0 0 72 [(0, .ref (gb G 1)), (3, .long x3), (5, .int x5), (6, .int x6)] [] (WB G p_female p_born p_toldDeath p_lastYear p_father p_mother p_fatherGrade p_motherGrade p_size g_holder g_arms g_from g_size r_marks r_arms r_root r_steps r_grade r_marksAboveOne q_rows q_sizes t_bytes t_length s_tokens s_starts s_size a_code a_codeSize a_at a_token a_fault a_place o_texts o_names o_operands o_size o_open o_refuses o_differs o_fees c_years c_rows c_size x_faultPlace ++ fr) := by
  unfold g_X4_isHeiress_72 at hf
  refine j_iinc (v := x6 + 1) hX dX4_isHeiress_72 75 rfl 3 rfl rfl (by decide) (lv' := [(6, .int (x6 + 1)), (0, .ref (gb G 1)), (3, .long x3), (5, .int x5)]) rfl ?_
  refine j_goto hX dX4_isHeiress_75 40 rfl ?_
  refine j_sub [1, 2, 3, 0] rfl ?_
  exact hk40 x3 x5 (x6 + 1) hf
def g_X4_isHeiress_40 (p_father : Nat → Int32) (p_size : Int32) (k40 : Int64 → Int32 → Int32 → Option (Int32)) (x3 : Int64) (x5 : Int32) (x6 : Int32) : Option (Int32) :=
  if p_size ≤ x6 then some 1 else if inb x6 60 = true then if (p_father (Int32.toNatClampNeg x6)) = x5 then (f_X4_isIn x3 x6).bind fun v11 => if v11 = 0 then g_X4_isHeiress_72 k40 x3 x5 x6 else some 0 else g_X4_isHeiress_72 k40 x3 x5 x6 else none
set_option maxRecDepth 100000 in
set_option maxHeartbeats 4000000 in
theorem t_X4_isHeiress_40 {Y : YT} {r : Int32} {k40 : Int64 → Int32 → Int32 → Option (Int32)} (hX : CX l G cX4_isHeiress 7 RX4 Y) (hQ : EQi G Y 0 0 .boolean r (WB G p_female p_born p_toldDeath p_lastYear p_father p_mother p_fatherGrade p_motherGrade p_size g_holder g_arms g_from g_size r_marks r_arms r_root r_steps r_grade r_marksAboveOne q_rows q_sizes t_bytes t_length s_tokens s_starts s_size a_code a_codeSize a_at a_token a_fault a_place o_texts o_names o_operands o_size o_open o_refuses o_differs o_fees c_years c_rows c_size x_faultPlace ++ fr)) (hk40 : ∀ (x3 : Int64) (x5 : Int32) (x6 : Int32), k40 x3 x5 x6  = some r → J l G (rmD 3 0 0) Y 0 0 40 [(0, .ref (gb G 1)), (3, .long x3), (5, .int x5), (6, .int x6)] [] (WB G p_female p_born p_toldDeath p_lastYear p_father p_mother p_fatherGrade p_motherGrade p_size g_holder g_arms g_from g_size r_marks r_arms r_root r_steps r_grade r_marksAboveOne q_rows q_sizes t_bytes t_length s_tokens s_starts s_size a_code a_codeSize a_at a_token a_fault a_place o_texts o_names o_operands o_size o_open o_refuses o_differs o_fees c_years c_rows c_size x_faultPlace ++ fr)) (x3 : Int64) (x5 : Int32) (x6 : Int32) (hf : g_X4_isHeiress_40 p_father p_size k40 x3 x5 x6 = some r) : J l G (rmD 3 0 0) Y 0 0 40 [(0, .ref (gb G 1)), (3, .long x3), (5, .int x5), (6, .int x6)] [] (WB G p_female p_born p_toldDeath p_lastYear p_father p_mother p_fatherGrade p_motherGrade p_size g_holder g_arms g_from g_size r_marks r_arms r_root r_steps r_grade r_marksAboveOne q_rows q_sizes t_bytes t_length s_tokens s_starts s_size a_code a_codeSize a_at a_token a_fault a_place o_texts o_names o_operands o_size o_open o_refuses o_differs o_fees c_years c_rows c_size x_faultPlace ++ fr) := by
  unfold g_X4_isHeiress_40 at hf
  refine j_iload hX dX4_isHeiress_40 42 rfl 3 rfl ?_
  refine j_aload_n hX dX4_isHeiress_42 43 rfl 0 rfl rfl ?_
  refine j_get hX dX4_isHeiress_43 46 rfl fg_X4_37 1 rfl rfl ?_
  refine j_icmp_ge hX dX4_isHeiress_46 49 78 rfl rfl (fun h8 => ?_) (fun h8 => ?_)
  · replace hf := itt h8 hf
    refine j_iconst (v := 1) hX dX4_isHeiress_78 79 rfl (by decide) ?_
    replace hf := Option.some.inj hf
    subst hf
    exact j_zret hX hQ rfl dX4_isHeiress_79
  · replace hf := itf h8 hf
    refine j_aload_n hX dX4_isHeiress_49 50 rfl 0 rfl rfl ?_
    refine j_get hX dX4_isHeiress_50 53 rfl fg_X4_25 1 rfl rfl ?_
    refine j_iload hX dX4_isHeiress_53 55 rfl 3 rfl ?_
    obtain ⟨hb9, hf⟩ := ign hf
    refine j_iald hX dX4_isHeiress_55 56 rfl 6 rfl hb9 ?_
    refine j_iload hX dX4_isHeiress_56 58 rfl 2 rfl ?_
    refine j_icmp_ne hX dX4_isHeiress_58 61 72 rfl rfl (fun h10 => ?_) (fun h10 => ?_)
    · replace hf := itf h10 hf
      exact t_X4_isHeiress_72 hX hQ  hk40 x3 x5 x6 hf
    · replace hf := itt h10 hf
      refine j_lload_n hX dX4_isHeiress_61 62 rfl 1 rfl rfl ?_
      refine j_iload hX dX4_isHeiress_62 64 rfl 3 rfl ?_
      obtain ⟨v11, hv11, hf⟩ := ibd hf
      refine z_si (As := [.long x3, .int x6]) (rest := []) hX dX4_isHeiress_64 67 rfl (t_X4_isIn x3 x6 hv11) mc_X4_isIn ms_X4_isIn ml_X4_64 (Nat.le_of_ble_eq_true rfl) (Nat.le_refl _) (Nat.le_refl _) rfl (Nat.le_of_ble_eq_true rfl) ?_
      refine j_if_eq hX dX4_isHeiress_67 70 72 rfl rfl (fun h12 => ?_) (fun h12 => ?_)
      · replace hf := itt h12 hf
        exact t_X4_isHeiress_72 hX hQ  hk40 x3 x5 x6 hf
      · replace hf := itf h12 hf
        refine j_iconst (v := 0) hX dX4_isHeiress_70 71 rfl (by decide) ?_
        replace hf := Option.some.inj hf
        subst hf
        exact j_zret hX hQ rfl dX4_isHeiress_71
def f_X4_isHeiress_40 (p_father : Nat → Int32) (p_size : Int32) : Nat → (Int64 × Int32 × Int32) → Option (Int32) :=
  lp (fun k v => g_X4_isHeiress_40 p_father p_size (fun x3 x5 x6 => k (x3, x5, x6)) v.1 v.2.1 v.2.2)
set_option maxRecDepth 100000 in
set_option maxHeartbeats 4000000 in
theorem u_X4_isHeiress_40 {Y : YT} {r : Int32}  (hX : CX l G cX4_isHeiress 7 RX4 Y) (hQ : EQi G Y 0 0 .boolean r (WB G p_female p_born p_toldDeath p_lastYear p_father p_mother p_fatherGrade p_motherGrade p_size g_holder g_arms g_from g_size r_marks r_arms r_root r_steps r_grade r_marksAboveOne q_rows q_sizes t_bytes t_length s_tokens s_starts s_size a_code a_codeSize a_at a_token a_fault a_place o_texts o_names o_operands o_size o_open o_refuses o_differs o_fees c_years c_rows c_size x_faultPlace ++ fr))  (n : Nat) (v : Int64 × Int32 × Int32) (hf : f_X4_isHeiress_40 p_father p_size n v = some r) : J l G (rmD 3 0 0) Y 0 0 40 [(0, .ref (gb G 1)), (3, .long v.1), (5, .int v.2.1), (6, .int v.2.2)] [] (WB G p_female p_born p_toldDeath p_lastYear p_father p_mother p_fatherGrade p_motherGrade p_size g_holder g_arms g_from g_size r_marks r_arms r_root r_steps r_grade r_marksAboveOne q_rows q_sizes t_bytes t_length s_tokens s_starts s_size a_code a_codeSize a_at a_token a_fault a_place o_texts o_names o_operands o_size o_open o_refuses o_differs o_fees c_years c_rows c_size x_faultPlace ++ fr) :=
  lp_ind (P := fun v : Int64 × Int32 × Int32 => J l G (rmD 3 0 0) Y 0 0 40 [(0, .ref (gb G 1)), (3, .long v.1), (5, .int v.2.1), (6, .int v.2.2)] [] (WB G p_female p_born p_toldDeath p_lastYear p_father p_mother p_fatherGrade p_motherGrade p_size g_holder g_arms g_from g_size r_marks r_arms r_root r_steps r_grade r_marksAboveOne q_rows q_sizes t_bytes t_length s_tokens s_starts s_size a_code a_codeSize a_at a_token a_fault a_place o_texts o_names o_operands o_size o_open o_refuses o_differs o_fees c_years c_rows c_size x_faultPlace ++ fr)) (fun k hk v hf => t_X4_isHeiress_40 hX hQ   (fun x3 x5 x6 h => hk (x3, x5, x6) h) v.1 v.2.1 v.2.2 hf) n v hf
def f_X4_isHeiress (fu : Nat) (p_female : Nat → Int32) (p_lastYear : Nat → Int32) (p_father : Nat → Int32) (p_size : Int32) (x1 : Int32) (x2 : Int32) (x3 : Int64) : Option (Int32) :=
  (f_X4_fatherOf p_father p_size x1).bind fun v1 => (f_X4_isFemale p_female p_size x1).bind fun v2 => if v2 = 0 then g_X4_isHeiress_35  else (f_X4_has p_size v1).bind fun v4 => if v4 = 0 then g_X4_isHeiress_35  else if inb v1 60 = true then if (p_lastYear (Int32.toNatClampNeg v1)) ≤ x2 then f_X4_isHeiress_40 p_father p_size fu (x3, v1, 0) else g_X4_isHeiress_35  else none
set_option maxRecDepth 100000 in
set_option maxHeartbeats 4000000 in
theorem t_X4_isHeiress {fu : Nat}  (x1 : Int32) (x2 : Int32) (x3 : Int64) {r : Int32} (hf : f_X4_isHeiress fu p_female p_lastYear p_father p_size x1 x2 x3 = some r) : Ci l G 3 0 0 yX4_isHeiress cX4_isHeiress 7 .boolean [.ref (gb G 1), .int x1, .int x2, .long x3] (WB G p_female p_born p_toldDeath p_lastYear p_father p_mother p_fatherGrade p_motherGrade p_size g_holder g_arms g_from g_size r_marks r_arms r_root r_steps r_grade r_marksAboveOne q_rows q_sizes t_bytes t_length s_tokens s_starts s_size a_code a_codeSize a_at a_token a_fault a_place o_texts o_names o_operands o_size o_open o_refuses o_differs o_fees c_years c_rows c_size x_faultPlace ++ fr) r (WB G p_female p_born p_toldDeath p_lastYear p_father p_mother p_fatherGrade p_motherGrade p_size g_holder g_arms g_from g_size r_marks r_arms r_root r_steps r_grade r_marksAboveOne q_rows q_sizes t_bytes t_length s_tokens s_starts s_size a_code a_codeSize a_at a_token a_fault a_place o_texts o_names o_operands o_size o_open o_refuses o_differs o_fees c_years c_rows c_size x_faultPlace ++ fr) := by
  refine Ci.of (by decide) (Nat.le_of_ble_eq_true rfl) (fun Y hX hQ => ?_)
  refine j_lv (lv' := [(0, .ref (gb G 1)), (1, .int x1), (2, .int x2), (3, .long x3)]) rfl ?_
  unfold f_X4_isHeiress at hf
  refine j_aload_n hX dX4_isHeiress_0 1 rfl 0 rfl rfl ?_
  refine j_iload_n hX dX4_isHeiress_1 2 rfl 1 rfl rfl ?_
  obtain ⟨v1, hv1, hf⟩ := ibd hf
  refine z_i (As := [.int x1]) (rest := []) (q0 := 1) hX dX4_isHeiress_2 5 rfl (t_X4_fatherOf x1 hv1) mc_X4_fatherOf mv_X4_fatherOf ml_X4_72 rfl rfl (Nat.le_of_ble_eq_true rfl) (Nat.le_refl _) (Nat.le_refl _) rfl (Nat.le_of_ble_eq_true rfl) ?_
  refine j_istore hX dX4_isHeiress_5 7 rfl (by decide) (lv' := [(5, .int v1), (0, .ref (gb G 1)), (1, .int x1), (2, .int x2), (3, .long x3)]) rfl ?_
  refine j_aload_n hX dX4_isHeiress_7 8 rfl 1 rfl rfl ?_
  refine j_iload_n hX dX4_isHeiress_8 9 rfl 2 rfl rfl ?_
  obtain ⟨v2, hv2, hf⟩ := ibd hf
  refine z_i (As := [.int x1]) (rest := []) (q0 := 1) hX dX4_isHeiress_9 12 rfl (t_X4_isFemale x1 hv2) mc_X4_isFemale mv_X4_isFemale ml_X4_86 rfl rfl (Nat.le_of_ble_eq_true rfl) (Nat.le_refl _) (Nat.le_refl _) rfl (Nat.le_of_ble_eq_true rfl) ?_
  refine j_if_eq hX dX4_isHeiress_12 15 35 rfl rfl (fun h3 => ?_) (fun h3 => ?_)
  · replace hf := itt h3 hf
    refine j_sub [] rfl ?_
    exact t_X4_isHeiress_35 hX hQ    hf
  · replace hf := itf h3 hf
    refine j_aload_n hX dX4_isHeiress_15 16 rfl 1 rfl rfl ?_
    refine j_iload hX dX4_isHeiress_16 18 rfl 0 rfl ?_
    obtain ⟨v4, hv4, hf⟩ := ibd hf
    refine z_i (As := [.int v1]) (rest := []) (q0 := 1) hX dX4_isHeiress_18 21 rfl (t_X4_has v1 hv4) mc_X4_has mv_X4_has ml_X4_58 rfl rfl (Nat.le_of_ble_eq_true rfl) (Nat.le_refl _) (Nat.le_refl _) rfl (Nat.le_of_ble_eq_true rfl) ?_
    refine j_if_eq hX dX4_isHeiress_21 24 35 rfl rfl (fun h5 => ?_) (fun h5 => ?_)
    · replace hf := itt h5 hf
      refine j_sub [] rfl ?_
      exact t_X4_isHeiress_35 hX hQ    hf
    · replace hf := itf h5 hf
      refine j_aload_n hX dX4_isHeiress_24 25 rfl 1 rfl rfl ?_
      refine j_get hX dX4_isHeiress_25 28 rfl fg_X4_22 1 rfl rfl ?_
      refine j_iload hX dX4_isHeiress_28 30 rfl 0 rfl ?_
      obtain ⟨hb6, hf⟩ := ign hf
      refine j_iald hX dX4_isHeiress_30 31 rfl 5 rfl hb6 ?_
      refine j_iload_n hX dX4_isHeiress_31 32 rfl 3 rfl rfl ?_
      refine j_icmp_le hX dX4_isHeiress_32 35 37 rfl rfl (fun h7 => ?_) (fun h7 => ?_)
      · replace hf := itt h7 hf
        refine j_iconst (v := 0) hX dX4_isHeiress_37 38 rfl (by decide) ?_
        refine j_istore hX dX4_isHeiress_38 40 rfl (by decide) (lv' := [(6, .int 0), (5, .int v1), (0, .ref (gb G 1)), (1, .int x1), (2, .int x2), (3, .long x3)]) rfl ?_
        refine j_sub [2, 5, 1, 0] rfl ?_
        exact u_X4_isHeiress_40 hX hQ   fu (x3, v1, 0) hf
      · replace hf := itf h7 hf
        refine j_sub [] rfl ?_
        exact t_X4_isHeiress_35 hX hQ    hf
def g_X4_bringsQuarters_30  : Option (Int32) :=
  some 0
set_option maxRecDepth 100000 in
set_option maxHeartbeats 4000000 in
theorem t_X4_bringsQuarters_30 {Y : YT} {r : Int32}  (hX : CX l G cX4_bringsQuarters 6 RX4 Y) (hQ : EQi G Y 0 0 .boolean r (WB G p_female p_born p_toldDeath p_lastYear p_father p_mother p_fatherGrade p_motherGrade p_size g_holder g_arms g_from g_size r_marks r_arms r_root r_steps r_grade r_marksAboveOne q_rows q_sizes t_bytes t_length s_tokens s_starts s_size a_code a_codeSize a_at a_token a_fault a_place o_texts o_names o_operands o_size o_open o_refuses o_differs o_fees c_years c_rows c_size x_faultPlace ++ fr))   (hf : g_X4_bringsQuarters_30  = some r) : J l G (rmD 4 0 0) Y 0 0 30 [] [] (WB G p_female p_born p_toldDeath p_lastYear p_father p_mother p_fatherGrade p_motherGrade p_size g_holder g_arms g_from g_size r_marks r_arms r_root r_steps r_grade r_marksAboveOne q_rows q_sizes t_bytes t_length s_tokens s_starts s_size a_code a_codeSize a_at a_token a_fault a_place o_texts o_names o_operands o_size o_open o_refuses o_differs o_fees c_years c_rows c_size x_faultPlace ++ fr) := by
  unfold g_X4_bringsQuarters_30 at hf
  refine j_iconst (v := 0) hX dX4_bringsQuarters_30 31 rfl (by decide) ?_
  replace hf := Option.some.inj hf
  subst hf
  exact j_zret hX hQ rfl dX4_bringsQuarters_31
def f_X4_bringsQuarters (fu : Nat) (p_female : Nat → Int32) (p_born : Nat → Int32) (p_lastYear : Nat → Int32) (p_father : Nat → Int32) (p_size : Int32) (x1 : Int32) (x2 : Int32) (x3 : Int64) : Option (Int32) :=
  (f_X4_isHeiress fu p_female p_lastYear p_father p_size x1 x2 x3).bind fun v1 => if v1 = 0 then (f_X4_has p_size x1).bind fun v3 => if v3 = 0 then g_X4_bringsQuarters_30  else if inb x1 60 = true then if (p_lastYear (Int32.toNatClampNeg x1)) ≤ x2 then if inb x1 60 = true then (f_X4_livingLines fu p_female p_born p_lastYear p_father p_size (p_lastYear (Int32.toNatClampNeg x1))).bind fun v8 => (f_X4_isHeiress fu p_female p_lastYear p_father p_size x1 (p_lastYear (Int32.toNatClampNeg x1)) v8).bind fun v9 => if isB v9 = true then some v9 else none else none else g_X4_bringsQuarters_30  else none else some 1
set_option maxRecDepth 100000 in
set_option maxHeartbeats 4000000 in
theorem t_X4_bringsQuarters {fu : Nat}  (x1 : Int32) (x2 : Int32) (x3 : Int64) {r : Int32} (hf : f_X4_bringsQuarters fu p_female p_born p_lastYear p_father p_size x1 x2 x3 = some r) : Ci l G 4 0 0 yX4_bringsQuarters cX4_bringsQuarters 6 .boolean [.ref (gb G 1), .int x1, .int x2, .long x3] (WB G p_female p_born p_toldDeath p_lastYear p_father p_mother p_fatherGrade p_motherGrade p_size g_holder g_arms g_from g_size r_marks r_arms r_root r_steps r_grade r_marksAboveOne q_rows q_sizes t_bytes t_length s_tokens s_starts s_size a_code a_codeSize a_at a_token a_fault a_place o_texts o_names o_operands o_size o_open o_refuses o_differs o_fees c_years c_rows c_size x_faultPlace ++ fr) r (WB G p_female p_born p_toldDeath p_lastYear p_father p_mother p_fatherGrade p_motherGrade p_size g_holder g_arms g_from g_size r_marks r_arms r_root r_steps r_grade r_marksAboveOne q_rows q_sizes t_bytes t_length s_tokens s_starts s_size a_code a_codeSize a_at a_token a_fault a_place o_texts o_names o_operands o_size o_open o_refuses o_differs o_fees c_years c_rows c_size x_faultPlace ++ fr) := by
  refine Ci.of (by decide) (Nat.le_of_ble_eq_true rfl) (fun Y hX hQ => ?_)
  refine j_lv (lv' := [(0, .ref (gb G 1)), (1, .int x1), (2, .int x2), (3, .long x3)]) rfl ?_
  unfold f_X4_bringsQuarters at hf
  refine j_aload_n hX dX4_bringsQuarters_0 1 rfl 0 rfl rfl ?_
  refine j_iload_n hX dX4_bringsQuarters_1 2 rfl 1 rfl rfl ?_
  refine j_iload_n hX dX4_bringsQuarters_2 3 rfl 2 rfl rfl ?_
  refine j_lload_n hX dX4_bringsQuarters_3 4 rfl 3 rfl rfl ?_
  obtain ⟨v1, hv1, hf⟩ := ibd hf
  refine z_i (As := [.int x1, .int x2, .long x3]) (rest := []) (q0 := 1) hX dX4_bringsQuarters_4 7 rfl (t_X4_isHeiress x1 x2 x3 hv1) mc_X4_isHeiress mv_X4_isHeiress ml_X4_89 rfl rfl (Nat.le_of_ble_eq_true rfl) (Nat.le_refl _) (Nat.le_refl _) rfl (Nat.le_of_ble_eq_true rfl) ?_
  refine j_if_eq hX dX4_bringsQuarters_7 10 12 rfl rfl (fun h2 => ?_) (fun h2 => ?_)
  · replace hf := itt h2 hf
    refine j_aload_n hX dX4_bringsQuarters_12 13 rfl 0 rfl rfl ?_
    refine j_iload_n hX dX4_bringsQuarters_13 14 rfl 1 rfl rfl ?_
    obtain ⟨v3, hv3, hf⟩ := ibd hf
    refine z_i (As := [.int x1]) (rest := []) (q0 := 1) hX dX4_bringsQuarters_14 17 rfl (t_X4_has x1 hv3) mc_X4_has mv_X4_has ml_X4_58 rfl rfl (Nat.le_of_ble_eq_true rfl) (Nat.le_refl _) (Nat.le_refl _) rfl (Nat.le_of_ble_eq_true rfl) ?_
    refine j_if_eq hX dX4_bringsQuarters_17 20 30 rfl rfl (fun h4 => ?_) (fun h4 => ?_)
    · replace hf := itt h4 hf
      refine j_sub [] rfl ?_
      exact t_X4_bringsQuarters_30 hX hQ    hf
    · replace hf := itf h4 hf
      refine j_aload_n hX dX4_bringsQuarters_20 21 rfl 0 rfl rfl ?_
      refine j_get hX dX4_bringsQuarters_21 24 rfl fg_X4_22 1 rfl rfl ?_
      refine j_iload_n hX dX4_bringsQuarters_24 25 rfl 1 rfl rfl ?_
      obtain ⟨hb5, hf⟩ := ign hf
      refine j_iald hX dX4_bringsQuarters_25 26 rfl 5 rfl hb5 ?_
      refine j_iload_n hX dX4_bringsQuarters_26 27 rfl 2 rfl rfl ?_
      refine j_icmp_le hX dX4_bringsQuarters_27 30 32 rfl rfl (fun h6 => ?_) (fun h6 => ?_)
      · replace hf := itt h6 hf
        refine j_aload_n hX dX4_bringsQuarters_32 33 rfl 0 rfl rfl ?_
        refine j_get hX dX4_bringsQuarters_33 36 rfl fg_X4_22 1 rfl rfl ?_
        refine j_iload_n hX dX4_bringsQuarters_36 37 rfl 1 rfl rfl ?_
        obtain ⟨hb7, hf⟩ := ign hf
        refine j_iald hX dX4_bringsQuarters_37 38 rfl 5 rfl hb7 ?_
        refine j_istore hX dX4_bringsQuarters_38 40 rfl (by decide) (lv' := [(5, .int (p_lastYear (Int32.toNatClampNeg x1))), (0, .ref (gb G 1)), (1, .int x1), (2, .int x2), (3, .long x3)]) rfl ?_
        refine j_aload_n hX dX4_bringsQuarters_40 41 rfl 1 rfl rfl ?_
        refine j_iload_n hX dX4_bringsQuarters_41 42 rfl 2 rfl rfl ?_
        refine j_iload hX dX4_bringsQuarters_42 44 rfl 0 rfl ?_
        refine j_aload_n hX dX4_bringsQuarters_44 45 rfl 1 rfl rfl ?_
        refine j_iload hX dX4_bringsQuarters_45 47 rfl 0 rfl ?_
        obtain ⟨v8, hv8, hf⟩ := ibd hf
        refine z_l (As := [.int (p_lastYear (Int32.toNatClampNeg x1))]) (rest := [.int (p_lastYear (Int32.toNatClampNeg x1)), .int x1, .ref (gb G 1)]) (q0 := 1) hX dX4_bringsQuarters_47 50 rfl (t_X4_livingLines (p_lastYear (Int32.toNatClampNeg x1)) hv8) mc_X4_livingLines mv_X4_livingLines ml_X4_78 rfl rfl (Nat.le_of_ble_eq_true rfl) (Nat.le_refl _) (Nat.le_refl _) rfl (Nat.le_of_ble_eq_true rfl) ?_
        obtain ⟨v9, hv9, hf⟩ := ibd hf
        refine z_i (As := [.int x1, .int (p_lastYear (Int32.toNatClampNeg x1)), .long v8]) (rest := []) (q0 := 1) hX dX4_bringsQuarters_50 53 rfl (t_X4_isHeiress x1 (p_lastYear (Int32.toNatClampNeg x1)) v8 hv9) mc_X4_isHeiress mv_X4_isHeiress ml_X4_89 rfl rfl (Nat.le_of_ble_eq_true rfl) (Nat.le_refl _) (Nat.le_refl _) rfl (Nat.le_of_ble_eq_true rfl) ?_
        obtain ⟨hb10, hf⟩ := ign hf
        replace hf := Option.some.inj hf
        subst hf
        exact j_zret hX hQ hb10 dX4_bringsQuarters_53
      · replace hf := itf h6 hf
        refine j_sub [] rfl ?_
        exact t_X4_bringsQuarters_30 hX hQ    hf
  · replace hf := itf h2 hf
    refine j_iconst (v := 1) hX dX4_bringsQuarters_10 11 rfl (by decide) ?_
    replace hf := Option.some.inj hf
    subst hf
    exact j_zret hX hQ rfl dX4_bringsQuarters_11
def g_X4_forebears_93 (k24 : Int64 → Int32 → Option (Int64)) (x2 : Int64) (x4 : Int32) : Option (Int64) :=
  k24 x2 (x4 + (-1))
set_option maxRecDepth 100000 in
set_option maxHeartbeats 4000000 in
theorem t_X4_forebears_93 {Y : YT} {r : Int64} {k24 : Int64 → Int32 → Option (Int64)} (hX : CX l G cX4_forebears 5 RX4 Y) (hQ : EQl G Y 0 0 r (WB G p_female p_born p_toldDeath p_lastYear p_father p_mother p_fatherGrade p_motherGrade p_size g_holder g_arms g_from g_size r_marks r_arms r_root r_steps r_grade r_marksAboveOne q_rows q_sizes t_bytes t_length s_tokens s_starts s_size a_code a_codeSize a_at a_token a_fault a_place o_texts o_names o_operands o_size o_open o_refuses o_differs o_fees c_years c_rows c_size x_faultPlace ++ fr)) (hk24 : ∀ (x2 : Int64) (x4 : Int32), k24 x2 x4  = some r → J l G (rmD 2 0 0) Y 0 0 24 [(0, .ref (gb G 1)), (2, .long x2), (4, .int x4)] [] (WB G p_female p_born p_toldDeath p_lastYear p_father p_mother p_fatherGrade p_motherGrade p_size g_holder g_arms g_from g_size r_marks r_arms r_root r_steps r_grade r_marksAboveOne q_rows q_sizes t_bytes t_length s_tokens s_starts s_size a_code a_codeSize a_at a_token a_fault a_place o_texts o_names o_operands o_size o_open o_refuses o_differs o_fees c_years c_rows c_size x_faultPlace ++ fr)) (x2 : Int64) (x4 : Int32) (hf : g_X4_forebears_93 k24 x2 x4 = some r) : J l G (rmD 2 0 0) Y 0 0 93 [(0, .ref (gb G 1)), (2, .long x2), (4, .int x4)] [] (WB G p_female p_born p_toldDeath p_lastYear p_father p_mother p_fatherGrade p_motherGrade p_size g_holder g_arms g_from g_size r_marks r_arms r_root r_steps r_grade r_marksAboveOne q_rows q_sizes t_bytes t_length s_tokens s_starts s_size a_code a_codeSize a_at a_token a_fault a_place o_texts o_names o_operands o_size o_open o_refuses o_differs o_fees c_years c_rows c_size x_faultPlace ++ fr) := by
  unfold g_X4_forebears_93 at hf
  refine j_iinc (v := x4 + (-1)) hX dX4_forebears_93 96 rfl 2 rfl rfl (by decide) (lv' := [(4, .int (x4 + (-1))), (0, .ref (gb G 1)), (2, .long x2)]) rfl ?_
  refine j_goto hX dX4_forebears_96 24 rfl ?_
  refine j_sub [1, 2, 0] rfl ?_
  exact hk24 x2 (x4 + (-1)) hf
def g_X4_forebears_61 (p_mother : Nat → Int32) (k24 : Int64 → Int32 → Option (Int64)) (x2 : Int64) (x4 : Int32) : Option (Int64) :=
  (f_X4_isIn x2 x4).bind fun v6 => if v6 = 0 then g_X4_forebears_93 k24 x2 x4 else if inb x4 60 = true then if (p_mother (Int32.toNatClampNeg x4)) = ((-1)) then g_X4_forebears_93 k24 x2 x4 else if inb x4 60 = true then g_X4_forebears_93 k24 (x2 ||| (shl64 1 (p_mother (Int32.toNatClampNeg x4)))) x4 else none else none
set_option maxRecDepth 100000 in
set_option maxHeartbeats 4000000 in
theorem t_X4_forebears_61 {Y : YT} {r : Int64} {k24 : Int64 → Int32 → Option (Int64)} (hX : CX l G cX4_forebears 5 RX4 Y) (hQ : EQl G Y 0 0 r (WB G p_female p_born p_toldDeath p_lastYear p_father p_mother p_fatherGrade p_motherGrade p_size g_holder g_arms g_from g_size r_marks r_arms r_root r_steps r_grade r_marksAboveOne q_rows q_sizes t_bytes t_length s_tokens s_starts s_size a_code a_codeSize a_at a_token a_fault a_place o_texts o_names o_operands o_size o_open o_refuses o_differs o_fees c_years c_rows c_size x_faultPlace ++ fr)) (hk24 : ∀ (x2 : Int64) (x4 : Int32), k24 x2 x4  = some r → J l G (rmD 2 0 0) Y 0 0 24 [(0, .ref (gb G 1)), (2, .long x2), (4, .int x4)] [] (WB G p_female p_born p_toldDeath p_lastYear p_father p_mother p_fatherGrade p_motherGrade p_size g_holder g_arms g_from g_size r_marks r_arms r_root r_steps r_grade r_marksAboveOne q_rows q_sizes t_bytes t_length s_tokens s_starts s_size a_code a_codeSize a_at a_token a_fault a_place o_texts o_names o_operands o_size o_open o_refuses o_differs o_fees c_years c_rows c_size x_faultPlace ++ fr)) (x2 : Int64) (x4 : Int32) (hf : g_X4_forebears_61 p_mother k24 x2 x4 = some r) : J l G (rmD 2 0 0) Y 0 0 61 [(0, .ref (gb G 1)), (2, .long x2), (4, .int x4)] [] (WB G p_female p_born p_toldDeath p_lastYear p_father p_mother p_fatherGrade p_motherGrade p_size g_holder g_arms g_from g_size r_marks r_arms r_root r_steps r_grade r_marksAboveOne q_rows q_sizes t_bytes t_length s_tokens s_starts s_size a_code a_codeSize a_at a_token a_fault a_place o_texts o_names o_operands o_size o_open o_refuses o_differs o_fees c_years c_rows c_size x_faultPlace ++ fr) := by
  unfold g_X4_forebears_61 at hf
  refine j_lload_n hX dX4_forebears_61 62 rfl 1 rfl rfl ?_
  refine j_iload hX dX4_forebears_62 64 rfl 2 rfl ?_
  obtain ⟨v6, hv6, hf⟩ := ibd hf
  refine z_si (As := [.long x2, .int x4]) (rest := []) hX dX4_forebears_64 67 rfl (t_X4_isIn x2 x4 hv6) mc_X4_isIn ms_X4_isIn ml_X4_64 (Nat.le_of_ble_eq_true rfl) (Nat.le_refl _) (Nat.le_refl _) rfl (Nat.le_of_ble_eq_true rfl) ?_
  refine j_if_eq hX dX4_forebears_67 70 93 rfl rfl (fun h7 => ?_) (fun h7 => ?_)
  · replace hf := itt h7 hf
    exact t_X4_forebears_93 hX hQ  hk24 x2 x4 hf
  · replace hf := itf h7 hf
    refine j_aload_n hX dX4_forebears_70 71 rfl 0 rfl rfl ?_
    refine j_get hX dX4_forebears_71 74 rfl fg_X4_28 1 rfl rfl ?_
    refine j_iload hX dX4_forebears_74 76 rfl 2 rfl ?_
    obtain ⟨hb8, hf⟩ := ign hf
    refine j_iald hX dX4_forebears_76 77 rfl 7 rfl hb8 ?_
    refine j_iconst (v := (-1)) hX dX4_forebears_77 78 rfl (by decide) ?_
    refine j_icmp_eq hX dX4_forebears_78 81 93 rfl rfl (fun h9 => ?_) (fun h9 => ?_)
    · replace hf := itt h9 hf
      exact t_X4_forebears_93 hX hQ  hk24 x2 x4 hf
    · replace hf := itf h9 hf
      refine j_lload_n hX dX4_forebears_81 82 rfl 1 rfl rfl ?_
      refine j_lconst (v := 1) hX dX4_forebears_82 83 rfl (by decide) ?_
      refine j_aload_n hX dX4_forebears_83 84 rfl 0 rfl rfl ?_
      refine j_get hX dX4_forebears_84 87 rfl fg_X4_28 1 rfl rfl ?_
      refine j_iload hX dX4_forebears_87 89 rfl 2 rfl ?_
      obtain ⟨hb10, hf⟩ := ign hf
      refine j_iald hX dX4_forebears_89 90 rfl 7 rfl hb10 ?_
      refine j_lshl hX dX4_forebears_90 91 rfl ?_
      refine j_lor hX dX4_forebears_91 92 rfl ?_
      refine j_lstore_n hX dX4_forebears_92 93 rfl rfl (by decide) (lv' := [(2, .long (x2 ||| (shl64 1 (p_mother (Int32.toNatClampNeg x4))))), (0, .ref (gb G 1)), (4, .int x4)]) rfl ?_
      refine j_sub [1, 0, 2] rfl ?_
      exact t_X4_forebears_93 hX hQ  hk24 (x2 ||| (shl64 1 (p_mother (Int32.toNatClampNeg x4)))) x4 hf
def g_X4_forebears_24 (p_father : Nat → Int32) (p_mother : Nat → Int32) (k24 : Int64 → Int32 → Option (Int64)) (x2 : Int64) (x4 : Int32) : Option (Int64) :=
  if x4 < 0 then some x2 else (f_X4_isIn x2 x4).bind fun v4 => if v4 = 0 then g_X4_forebears_61 p_mother k24 x2 x4 else if inb x4 60 = true then if (p_father (Int32.toNatClampNeg x4)) = ((-1)) then g_X4_forebears_61 p_mother k24 x2 x4 else if inb x4 60 = true then g_X4_forebears_61 p_mother k24 (x2 ||| (shl64 1 (p_father (Int32.toNatClampNeg x4)))) x4 else none else none
set_option maxRecDepth 100000 in
set_option maxHeartbeats 4000000 in
theorem t_X4_forebears_24 {Y : YT} {r : Int64} {k24 : Int64 → Int32 → Option (Int64)} (hX : CX l G cX4_forebears 5 RX4 Y) (hQ : EQl G Y 0 0 r (WB G p_female p_born p_toldDeath p_lastYear p_father p_mother p_fatherGrade p_motherGrade p_size g_holder g_arms g_from g_size r_marks r_arms r_root r_steps r_grade r_marksAboveOne q_rows q_sizes t_bytes t_length s_tokens s_starts s_size a_code a_codeSize a_at a_token a_fault a_place o_texts o_names o_operands o_size o_open o_refuses o_differs o_fees c_years c_rows c_size x_faultPlace ++ fr)) (hk24 : ∀ (x2 : Int64) (x4 : Int32), k24 x2 x4  = some r → J l G (rmD 2 0 0) Y 0 0 24 [(0, .ref (gb G 1)), (2, .long x2), (4, .int x4)] [] (WB G p_female p_born p_toldDeath p_lastYear p_father p_mother p_fatherGrade p_motherGrade p_size g_holder g_arms g_from g_size r_marks r_arms r_root r_steps r_grade r_marksAboveOne q_rows q_sizes t_bytes t_length s_tokens s_starts s_size a_code a_codeSize a_at a_token a_fault a_place o_texts o_names o_operands o_size o_open o_refuses o_differs o_fees c_years c_rows c_size x_faultPlace ++ fr)) (x2 : Int64) (x4 : Int32) (hf : g_X4_forebears_24 p_father p_mother k24 x2 x4 = some r) : J l G (rmD 2 0 0) Y 0 0 24 [(0, .ref (gb G 1)), (2, .long x2), (4, .int x4)] [] (WB G p_female p_born p_toldDeath p_lastYear p_father p_mother p_fatherGrade p_motherGrade p_size g_holder g_arms g_from g_size r_marks r_arms r_root r_steps r_grade r_marksAboveOne q_rows q_sizes t_bytes t_length s_tokens s_starts s_size a_code a_codeSize a_at a_token a_fault a_place o_texts o_names o_operands o_size o_open o_refuses o_differs o_fees c_years c_rows c_size x_faultPlace ++ fr) := by
  unfold g_X4_forebears_24 at hf
  refine j_iload hX dX4_forebears_24 26 rfl 2 rfl ?_
  refine j_if_lt hX dX4_forebears_26 29 99 rfl rfl (fun h3 => ?_) (fun h3 => ?_)
  · replace hf := itt h3 hf
    refine j_lload_n hX dX4_forebears_99 100 rfl 1 rfl rfl ?_
    replace hf := Option.some.inj hf
    subst hf
    exact j_lret hX hQ dX4_forebears_100
  · replace hf := itf h3 hf
    refine j_lload_n hX dX4_forebears_29 30 rfl 1 rfl rfl ?_
    refine j_iload hX dX4_forebears_30 32 rfl 2 rfl ?_
    obtain ⟨v4, hv4, hf⟩ := ibd hf
    refine z_si (As := [.long x2, .int x4]) (rest := []) hX dX4_forebears_32 35 rfl (t_X4_isIn x2 x4 hv4) mc_X4_isIn ms_X4_isIn ml_X4_64 (Nat.le_of_ble_eq_true rfl) (Nat.le_refl _) (Nat.le_refl _) rfl (Nat.le_of_ble_eq_true rfl) ?_
    refine j_if_eq hX dX4_forebears_35 38 61 rfl rfl (fun h5 => ?_) (fun h5 => ?_)
    · replace hf := itt h5 hf
      exact t_X4_forebears_61 hX hQ  hk24 x2 x4 hf
    · replace hf := itf h5 hf
      refine j_aload_n hX dX4_forebears_38 39 rfl 0 rfl rfl ?_
      refine j_get hX dX4_forebears_39 42 rfl fg_X4_25 1 rfl rfl ?_
      refine j_iload hX dX4_forebears_42 44 rfl 2 rfl ?_
      obtain ⟨hb11, hf⟩ := ign hf
      refine j_iald hX dX4_forebears_44 45 rfl 6 rfl hb11 ?_
      refine j_iconst (v := (-1)) hX dX4_forebears_45 46 rfl (by decide) ?_
      refine j_icmp_eq hX dX4_forebears_46 49 61 rfl rfl (fun h12 => ?_) (fun h12 => ?_)
      · replace hf := itt h12 hf
        exact t_X4_forebears_61 hX hQ  hk24 x2 x4 hf
      · replace hf := itf h12 hf
        refine j_lload_n hX dX4_forebears_49 50 rfl 1 rfl rfl ?_
        refine j_lconst (v := 1) hX dX4_forebears_50 51 rfl (by decide) ?_
        refine j_aload_n hX dX4_forebears_51 52 rfl 0 rfl rfl ?_
        refine j_get hX dX4_forebears_52 55 rfl fg_X4_25 1 rfl rfl ?_
        refine j_iload hX dX4_forebears_55 57 rfl 2 rfl ?_
        obtain ⟨hb13, hf⟩ := ign hf
        refine j_iald hX dX4_forebears_57 58 rfl 6 rfl hb13 ?_
        refine j_lshl hX dX4_forebears_58 59 rfl ?_
        refine j_lor hX dX4_forebears_59 60 rfl ?_
        refine j_lstore_n hX dX4_forebears_60 61 rfl rfl (by decide) (lv' := [(2, .long (x2 ||| (shl64 1 (p_father (Int32.toNatClampNeg x4))))), (0, .ref (gb G 1)), (4, .int x4)]) rfl ?_
        refine j_sub [1, 0, 2] rfl ?_
        exact t_X4_forebears_61 hX hQ  hk24 (x2 ||| (shl64 1 (p_father (Int32.toNatClampNeg x4)))) x4 hf
def f_X4_forebears_24 (p_father : Nat → Int32) (p_mother : Nat → Int32) : Nat → (Int64 × Int32) → Option (Int64) :=
  lp (fun k v => g_X4_forebears_24 p_father p_mother (fun x2 x4 => k (x2, x4)) v.1 v.2)
set_option maxRecDepth 100000 in
set_option maxHeartbeats 4000000 in
theorem u_X4_forebears_24 {Y : YT} {r : Int64}  (hX : CX l G cX4_forebears 5 RX4 Y) (hQ : EQl G Y 0 0 r (WB G p_female p_born p_toldDeath p_lastYear p_father p_mother p_fatherGrade p_motherGrade p_size g_holder g_arms g_from g_size r_marks r_arms r_root r_steps r_grade r_marksAboveOne q_rows q_sizes t_bytes t_length s_tokens s_starts s_size a_code a_codeSize a_at a_token a_fault a_place o_texts o_names o_operands o_size o_open o_refuses o_differs o_fees c_years c_rows c_size x_faultPlace ++ fr))  (n : Nat) (v : Int64 × Int32) (hf : f_X4_forebears_24 p_father p_mother n v = some r) : J l G (rmD 2 0 0) Y 0 0 24 [(0, .ref (gb G 1)), (2, .long v.1), (4, .int v.2)] [] (WB G p_female p_born p_toldDeath p_lastYear p_father p_mother p_fatherGrade p_motherGrade p_size g_holder g_arms g_from g_size r_marks r_arms r_root r_steps r_grade r_marksAboveOne q_rows q_sizes t_bytes t_length s_tokens s_starts s_size a_code a_codeSize a_at a_token a_fault a_place o_texts o_names o_operands o_size o_open o_refuses o_differs o_fees c_years c_rows c_size x_faultPlace ++ fr) :=
  lp_ind (P := fun v : Int64 × Int32 => J l G (rmD 2 0 0) Y 0 0 24 [(0, .ref (gb G 1)), (2, .long v.1), (4, .int v.2)] [] (WB G p_female p_born p_toldDeath p_lastYear p_father p_mother p_fatherGrade p_motherGrade p_size g_holder g_arms g_from g_size r_marks r_arms r_root r_steps r_grade r_marksAboveOne q_rows q_sizes t_bytes t_length s_tokens s_starts s_size a_code a_codeSize a_at a_token a_fault a_place o_texts o_names o_operands o_size o_open o_refuses o_differs o_fees c_years c_rows c_size x_faultPlace ++ fr)) (fun k hk v hf => t_X4_forebears_24 hX hQ   (fun x2 x4 h => hk (x2, x4) h) v.1 v.2 hf) n v hf
def g_X4_forebears_15 (fu : Nat) (p_father : Nat → Int32) (p_mother : Nat → Int32) (p_size : Int32) (s0 : Int64) : Option (Int64) :=
  f_X4_forebears_24 p_father p_mother fu (s0, p_size - 1)
set_option maxRecDepth 100000 in
set_option maxHeartbeats 4000000 in
theorem t_X4_forebears_15 {fu : Nat} {Y : YT} {r : Int64}  (hX : CX l G cX4_forebears 5 RX4 Y) (hQ : EQl G Y 0 0 r (WB G p_female p_born p_toldDeath p_lastYear p_father p_mother p_fatherGrade p_motherGrade p_size g_holder g_arms g_from g_size r_marks r_arms r_root r_steps r_grade r_marksAboveOne q_rows q_sizes t_bytes t_length s_tokens s_starts s_size a_code a_codeSize a_at a_token a_fault a_place o_texts o_names o_operands o_size o_open o_refuses o_differs o_fees c_years c_rows c_size x_faultPlace ++ fr))  (s0 : Int64) (hf : g_X4_forebears_15 fu p_father p_mother p_size s0 = some r) : J l G (rmD 2 0 0) Y 0 0 15 [(0, .ref (gb G 1))] [.long s0] (WB G p_female p_born p_toldDeath p_lastYear p_father p_mother p_fatherGrade p_motherGrade p_size g_holder g_arms g_from g_size r_marks r_arms r_root r_steps r_grade r_marksAboveOne q_rows q_sizes t_bytes t_length s_tokens s_starts s_size a_code a_codeSize a_at a_token a_fault a_place o_texts o_names o_operands o_size o_open o_refuses o_differs o_fees c_years c_rows c_size x_faultPlace ++ fr) := by
  unfold g_X4_forebears_15 at hf
  refine j_lstore_n hX dX4_forebears_15 16 rfl rfl (by decide) (lv' := [(2, .long s0), (0, .ref (gb G 1))]) rfl ?_
  refine j_aload_n hX dX4_forebears_16 17 rfl 1 rfl rfl ?_
  refine j_get hX dX4_forebears_17 20 rfl fg_X4_37 1 rfl rfl ?_
  refine j_iconst (v := 1) hX dX4_forebears_20 21 rfl (by decide) ?_
  refine j_isub hX dX4_forebears_21 22 rfl ?_
  refine j_istore hX dX4_forebears_22 24 rfl (by decide) (lv' := [(4, .int (p_size - 1)), (2, .long s0), (0, .ref (gb G 1))]) rfl ?_
  refine j_sub [2, 1, 0] rfl ?_
  exact u_X4_forebears_24 hX hQ   fu (s0, p_size - 1) hf
def f_X4_forebears (fu : Nat) (p_father : Nat → Int32) (p_mother : Nat → Int32) (p_size : Int32) (x1 : Int32) : Option (Int64) :=
  (f_X4_has p_size x1).bind fun v1 => if v1 = 0 then g_X4_forebears_15 fu p_father p_mother p_size 0 else g_X4_forebears_15 fu p_father p_mother p_size (shl64 1 x1)
set_option maxRecDepth 100000 in
set_option maxHeartbeats 4000000 in
theorem t_X4_forebears {fu : Nat}  (x1 : Int32) {r : Int64} (hf : f_X4_forebears fu p_father p_mother p_size x1 = some r) : Cl l G 2 0 0 yX4_forebears cX4_forebears 5 [.ref (gb G 1), .int x1] (WB G p_female p_born p_toldDeath p_lastYear p_father p_mother p_fatherGrade p_motherGrade p_size g_holder g_arms g_from g_size r_marks r_arms r_root r_steps r_grade r_marksAboveOne q_rows q_sizes t_bytes t_length s_tokens s_starts s_size a_code a_codeSize a_at a_token a_fault a_place o_texts o_names o_operands o_size o_open o_refuses o_differs o_fees c_years c_rows c_size x_faultPlace ++ fr) r (WB G p_female p_born p_toldDeath p_lastYear p_father p_mother p_fatherGrade p_motherGrade p_size g_holder g_arms g_from g_size r_marks r_arms r_root r_steps r_grade r_marksAboveOne q_rows q_sizes t_bytes t_length s_tokens s_starts s_size a_code a_codeSize a_at a_token a_fault a_place o_texts o_names o_operands o_size o_open o_refuses o_differs o_fees c_years c_rows c_size x_faultPlace ++ fr) := by
  refine Cl.of (by decide) (Nat.le_of_ble_eq_true rfl) (fun Y hX hQ => ?_)
  refine j_lv (lv' := [(0, .ref (gb G 1)), (1, .int x1)]) rfl ?_
  unfold f_X4_forebears at hf
  refine j_aload_n hX dX4_forebears_0 1 rfl 0 rfl rfl ?_
  refine j_iload_n hX dX4_forebears_1 2 rfl 1 rfl rfl ?_
  obtain ⟨v1, hv1, hf⟩ := ibd hf
  refine z_i (As := [.int x1]) (rest := []) (q0 := 1) hX dX4_forebears_2 5 rfl (t_X4_has x1 hv1) mc_X4_has mv_X4_has ml_X4_58 rfl rfl (Nat.le_of_ble_eq_true rfl) (Nat.le_refl _) (Nat.le_refl _) rfl (Nat.le_of_ble_eq_true rfl) ?_
  refine j_if_eq hX dX4_forebears_5 8 14 rfl rfl (fun h2 => ?_) (fun h2 => ?_)
  · replace hf := itt h2 hf
    refine j_lconst (v := 0) hX dX4_forebears_14 15 rfl (by decide) ?_
    refine j_sub [0] rfl ?_
    exact t_X4_forebears_15 hX hQ   0 hf
  · replace hf := itf h2 hf
    refine j_lconst (v := 1) hX dX4_forebears_8 9 rfl (by decide) ?_
    refine j_iload_n hX dX4_forebears_9 10 rfl 1 rfl rfl ?_
    refine j_lshl hX dX4_forebears_10 11 rfl ?_
    refine j_goto hX dX4_forebears_11 15 rfl ?_
    refine j_sub [0] rfl ?_
    exact t_X4_forebears_15 hX hQ   (shl64 1 x1) hf
end
