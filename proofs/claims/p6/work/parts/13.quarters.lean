section
variable {l : Launch} {G : GT} {fr ws : va_W} {kT : Nat} {tA tC tN : Nat → Nat} {tF : Nat → Nat → Int32} {tY : Nat → Int32} {p_female : Nat → Int32} {p_born : Nat → Int32} {p_toldDeath : Nat → Int32} {p_lastYear : Nat → Int32} {p_father : Nat → Int32} {p_mother : Nat → Int32} {p_fatherGrade : Nat → Int32} {p_motherGrade : Nat → Int32} {p_size : Int32} {g_holder : Nat → Int32} {g_arms : Nat → Int32} {g_from : Nat → Int32} {g_size : Int32} {r_marks : Nat → Int32} {r_arms : Int32} {r_root : Int32} {r_steps : Int32} {r_grade : Int32} {r_marksAboveOne : Int32} {q_rows : Nat → Int32} {q_sizes : Nat → Int32} {t_bytes : Nat → Int32} {t_length : Int32} {s_tokens : Nat → Int32} {s_starts : Nat → Int32} {s_size : Int32} {a_code : Nat → Int32} {a_codeSize : Int32} {a_at : Int32} {a_token : Int32} {a_fault : Int32} {a_place : Int32} {o_texts : Nat → Option Nat} {o_names : Nat → Int32} {o_operands : Nat → Int32} {o_size : Int32} {o_open : Int32} {o_refuses : Int32} {o_differs : Int32} {o_fees : Int32} {c_years : Nat → Int32} {c_rows : Nat → Int32} {c_size : Int32} {x_faultPlace : Int32}
def g_X6_sizeOf_20 (s0 : Int32) : Option (Int32) :=
  some s0
set_option maxRecDepth 100000 in
set_option maxHeartbeats 4000000 in
theorem t_X6_sizeOf_20 {Y : YT} {r : Int32}  (hX : CX l G cX6_sizeOf 2 RX6 Y) (hQ : EQi G Y 0 0 .int r (WB G p_female p_born p_toldDeath p_lastYear p_father p_mother p_fatherGrade p_motherGrade p_size g_holder g_arms g_from g_size r_marks r_arms r_root r_steps r_grade r_marksAboveOne q_rows q_sizes t_bytes t_length s_tokens s_starts s_size a_code a_codeSize a_at a_token a_fault a_place o_texts o_names o_operands o_size o_open o_refuses o_differs o_fees c_years c_rows c_size x_faultPlace ++ fr))  (s0 : Int32) (hf : g_X6_sizeOf_20 s0 = some r) : J l G (rmD 1 0 0) Y 0 0 20 [] [.int s0] (WB G p_female p_born p_toldDeath p_lastYear p_father p_mother p_fatherGrade p_motherGrade p_size g_holder g_arms g_from g_size r_marks r_arms r_root r_steps r_grade r_marksAboveOne q_rows q_sizes t_bytes t_length s_tokens s_starts s_size a_code a_codeSize a_at a_token a_fault a_place o_texts o_names o_operands o_size o_open o_refuses o_differs o_fees c_years c_rows c_size x_faultPlace ++ fr) := by
  unfold g_X6_sizeOf_20 at hf
  replace hf := Option.some.inj hf
  subst hf
  exact j_iret hX hQ dX6_sizeOf_20
def g_X6_sizeOf_19  : Option (Int32) :=
  g_X6_sizeOf_20 0
set_option maxRecDepth 100000 in
set_option maxHeartbeats 4000000 in
theorem t_X6_sizeOf_19 {Y : YT} {r : Int32}  (hX : CX l G cX6_sizeOf 2 RX6 Y) (hQ : EQi G Y 0 0 .int r (WB G p_female p_born p_toldDeath p_lastYear p_father p_mother p_fatherGrade p_motherGrade p_size g_holder g_arms g_from g_size r_marks r_arms r_root r_steps r_grade r_marksAboveOne q_rows q_sizes t_bytes t_length s_tokens s_starts s_size a_code a_codeSize a_at a_token a_fault a_place o_texts o_names o_operands o_size o_open o_refuses o_differs o_fees c_years c_rows c_size x_faultPlace ++ fr))   (hf : g_X6_sizeOf_19  = some r) : J l G (rmD 1 0 0) Y 0 0 19 [] [] (WB G p_female p_born p_toldDeath p_lastYear p_father p_mother p_fatherGrade p_motherGrade p_size g_holder g_arms g_from g_size r_marks r_arms r_root r_steps r_grade r_marksAboveOne q_rows q_sizes t_bytes t_length s_tokens s_starts s_size a_code a_codeSize a_at a_token a_fault a_place o_texts o_names o_operands o_size o_open o_refuses o_differs o_fees c_years c_rows c_size x_faultPlace ++ fr) := by
  unfold g_X6_sizeOf_19 at hf
  refine j_iconst (v := 0) hX dX6_sizeOf_19 20 rfl (by decide) ?_
  exact t_X6_sizeOf_20 hX hQ   0 hf
def f_X6_sizeOf (q_sizes : Nat → Int32) (x1 : Int32) : Option (Int32) :=
  if x1 < 0 then g_X6_sizeOf_19  else if 60 ≤ x1 then g_X6_sizeOf_19  else if inb x1 60 = true then g_X6_sizeOf_20 (q_sizes (Int32.toNatClampNeg x1)) else none
set_option maxRecDepth 100000 in
set_option maxHeartbeats 4000000 in
theorem t_X6_sizeOf  (x1 : Int32) {r : Int32} (hf : f_X6_sizeOf q_sizes x1 = some r) : Ci l G 1 0 0 yX6_sizeOf cX6_sizeOf 2 .int [.ref (gb G 16), .int x1] (WB G p_female p_born p_toldDeath p_lastYear p_father p_mother p_fatherGrade p_motherGrade p_size g_holder g_arms g_from g_size r_marks r_arms r_root r_steps r_grade r_marksAboveOne q_rows q_sizes t_bytes t_length s_tokens s_starts s_size a_code a_codeSize a_at a_token a_fault a_place o_texts o_names o_operands o_size o_open o_refuses o_differs o_fees c_years c_rows c_size x_faultPlace ++ fr) r (WB G p_female p_born p_toldDeath p_lastYear p_father p_mother p_fatherGrade p_motherGrade p_size g_holder g_arms g_from g_size r_marks r_arms r_root r_steps r_grade r_marksAboveOne q_rows q_sizes t_bytes t_length s_tokens s_starts s_size a_code a_codeSize a_at a_token a_fault a_place o_texts o_names o_operands o_size o_open o_refuses o_differs o_fees c_years c_rows c_size x_faultPlace ++ fr) := by
  refine Ci.of (by decide) (Nat.le_of_ble_eq_true rfl) (fun Y hX hQ => ?_)
  refine j_lv (lv' := [(0, .ref (gb G 16)), (1, .int x1)]) rfl ?_
  unfold f_X6_sizeOf at hf
  refine j_iload_n hX dX6_sizeOf_0 1 rfl 1 rfl rfl ?_
  refine j_if_lt hX dX6_sizeOf_1 4 19 rfl rfl (fun h1 => ?_) (fun h1 => ?_)
  · replace hf := itt h1 hf
    refine j_sub [] rfl ?_
    exact t_X6_sizeOf_19 hX hQ    hf
  · replace hf := itf h1 hf
    refine j_iload_n hX dX6_sizeOf_4 5 rfl 1 rfl rfl ?_
    refine j_bipush (v := 60) hX dX6_sizeOf_5 7 rfl (by decide) ?_
    refine j_icmp_ge hX dX6_sizeOf_7 10 19 rfl rfl (fun h2 => ?_) (fun h2 => ?_)
    · replace hf := itt h2 hf
      refine j_sub [] rfl ?_
      exact t_X6_sizeOf_19 hX hQ    hf
    · replace hf := itf h2 hf
      refine j_aload_n hX dX6_sizeOf_10 11 rfl 0 rfl rfl ?_
      refine j_get hX dX6_sizeOf_11 14 rfl fg_X6_17 16 rfl rfl ?_
      refine j_iload_n hX dX6_sizeOf_14 15 rfl 1 rfl rfl ?_
      obtain ⟨hb3, hf⟩ := ign hf
      refine j_iald hX dX6_sizeOf_15 16 rfl 18 rfl hb3 ?_
      refine j_goto hX dX6_sizeOf_16 20 rfl ?_
      refine j_sub [] rfl ?_
      exact t_X6_sizeOf_20 hX hQ   (q_sizes (Int32.toNatClampNeg x1)) hf
def g_X6_isPlace_25 (s0 : Int32) : Option (Int32) :=
  if isB s0 = true then some s0 else none
set_option maxRecDepth 100000 in
set_option maxHeartbeats 4000000 in
theorem t_X6_isPlace_25 {Y : YT} {r : Int32}  (hX : CX l G cX6_isPlace 2 RX6 Y) (hQ : EQi G Y 0 0 .boolean r ws)  (s0 : Int32) (hf : g_X6_isPlace_25 s0 = some r) : J l G (rmD 1 0 0) Y 0 0 25 [] [.int s0] ws := by
  unfold g_X6_isPlace_25 at hf
  obtain ⟨hb2, hf⟩ := ign hf
  replace hf := Option.some.inj hf
  subst hf
  exact j_zret hX hQ hb2 dX6_isPlace_25
def g_X6_isPlace_24  : Option (Int32) :=
  g_X6_isPlace_25 0
set_option maxRecDepth 100000 in
set_option maxHeartbeats 4000000 in
theorem t_X6_isPlace_24 {Y : YT} {r : Int32}  (hX : CX l G cX6_isPlace 2 RX6 Y) (hQ : EQi G Y 0 0 .boolean r ws)   (hf : g_X6_isPlace_24  = some r) : J l G (rmD 1 0 0) Y 0 0 24 [] [] ws := by
  unfold g_X6_isPlace_24 at hf
  refine j_iconst (v := 0) hX dX6_isPlace_24 25 rfl (by decide) ?_
  exact t_X6_isPlace_25 hX hQ   0 hf
def f_X6_isPlace (x0 : Int32) (x1 : Int32) : Option (Int32) :=
  if x0 < 0 then g_X6_isPlace_24  else if 60 ≤ x0 then g_X6_isPlace_24  else if x1 < 0 then g_X6_isPlace_24  else if 12 ≤ x1 then g_X6_isPlace_24  else g_X6_isPlace_25 1
set_option maxRecDepth 100000 in
set_option maxHeartbeats 4000000 in
theorem t_X6_isPlace  (x0 : Int32) (x1 : Int32) {r : Int32} (hf : f_X6_isPlace x0 x1 = some r) : Ci l G 1 0 0 yX6_isPlace cX6_isPlace 2 .boolean [.int x0, .int x1] ws r ws := by
  refine Ci.of (by decide) (Nat.le_of_ble_eq_true rfl) (fun Y hX hQ => ?_)
  refine j_lv (lv' := [(0, .int x0), (1, .int x1)]) rfl ?_
  unfold f_X6_isPlace at hf
  refine j_iload_n hX dX6_isPlace_0 1 rfl 0 rfl rfl ?_
  refine j_if_lt hX dX6_isPlace_1 4 24 rfl rfl (fun h1 => ?_) (fun h1 => ?_)
  · replace hf := itt h1 hf
    refine j_sub [] rfl ?_
    exact t_X6_isPlace_24 hX hQ    hf
  · replace hf := itf h1 hf
    refine j_iload_n hX dX6_isPlace_4 5 rfl 0 rfl rfl ?_
    refine j_bipush (v := 60) hX dX6_isPlace_5 7 rfl (by decide) ?_
    refine j_icmp_ge hX dX6_isPlace_7 10 24 rfl rfl (fun h3 => ?_) (fun h3 => ?_)
    · replace hf := itt h3 hf
      refine j_sub [] rfl ?_
      exact t_X6_isPlace_24 hX hQ    hf
    · replace hf := itf h3 hf
      refine j_iload_n hX dX6_isPlace_10 11 rfl 1 rfl rfl ?_
      refine j_if_lt hX dX6_isPlace_11 14 24 rfl rfl (fun h4 => ?_) (fun h4 => ?_)
      · replace hf := itt h4 hf
        refine j_sub [] rfl ?_
        exact t_X6_isPlace_24 hX hQ    hf
      · replace hf := itf h4 hf
        refine j_iload_n hX dX6_isPlace_14 15 rfl 1 rfl rfl ?_
        refine j_bipush (v := 12) hX dX6_isPlace_15 17 rfl (by decide) ?_
        refine j_icmp_ge hX dX6_isPlace_17 20 24 rfl rfl (fun h5 => ?_) (fun h5 => ?_)
        · replace hf := itt h5 hf
          refine j_sub [] rfl ?_
          exact t_X6_isPlace_24 hX hQ    hf
        · replace hf := itf h5 hf
          refine j_iconst (v := 1) hX dX6_isPlace_20 21 rfl (by decide) ?_
          refine j_goto hX dX6_isPlace_21 25 rfl ?_
          refine j_sub [] rfl ?_
          exact t_X6_isPlace_25 hX hQ   1 hf
def g_X6_armsAt_23 (s0 : Int32) : Option (Int32) :=
  some s0
set_option maxRecDepth 100000 in
set_option maxHeartbeats 4000000 in
theorem t_X6_armsAt_23 {Y : YT} {r : Int32}  (hX : CX l G cX6_armsAt 3 RX6 Y) (hQ : EQi G Y 0 0 .int r (WB G p_female p_born p_toldDeath p_lastYear p_father p_mother p_fatherGrade p_motherGrade p_size g_holder g_arms g_from g_size r_marks r_arms r_root r_steps r_grade r_marksAboveOne q_rows q_sizes t_bytes t_length s_tokens s_starts s_size a_code a_codeSize a_at a_token a_fault a_place o_texts o_names o_operands o_size o_open o_refuses o_differs o_fees c_years c_rows c_size x_faultPlace ++ fr))  (s0 : Int32) (hf : g_X6_armsAt_23 s0 = some r) : J l G (rmD 2 0 0) Y 0 0 23 [] [.int s0] (WB G p_female p_born p_toldDeath p_lastYear p_father p_mother p_fatherGrade p_motherGrade p_size g_holder g_arms g_from g_size r_marks r_arms r_root r_steps r_grade r_marksAboveOne q_rows q_sizes t_bytes t_length s_tokens s_starts s_size a_code a_codeSize a_at a_token a_fault a_place o_texts o_names o_operands o_size o_open o_refuses o_differs o_fees c_years c_rows c_size x_faultPlace ++ fr) := by
  unfold g_X6_armsAt_23 at hf
  replace hf := Option.some.inj hf
  subst hf
  exact j_iret hX hQ dX6_armsAt_23
def f_X6_armsAt (q_rows : Nat → Int32) (x1 : Int32) (x2 : Int32) : Option (Int32) :=
  (f_X6_isPlace x1 x2).bind fun v1 => if v1 = 0 then g_X6_armsAt_23 ((-1)) else if inb ((x1 * 12) + x2) 720 = true then g_X6_armsAt_23 (q_rows (Int32.toNatClampNeg ((x1 * 12) + x2))) else none
set_option maxRecDepth 100000 in
set_option maxHeartbeats 4000000 in
theorem t_X6_armsAt  (x1 : Int32) (x2 : Int32) {r : Int32} (hf : f_X6_armsAt q_rows x1 x2 = some r) : Ci l G 2 0 0 yX6_armsAt cX6_armsAt 3 .int [.ref (gb G 16), .int x1, .int x2] (WB G p_female p_born p_toldDeath p_lastYear p_father p_mother p_fatherGrade p_motherGrade p_size g_holder g_arms g_from g_size r_marks r_arms r_root r_steps r_grade r_marksAboveOne q_rows q_sizes t_bytes t_length s_tokens s_starts s_size a_code a_codeSize a_at a_token a_fault a_place o_texts o_names o_operands o_size o_open o_refuses o_differs o_fees c_years c_rows c_size x_faultPlace ++ fr) r (WB G p_female p_born p_toldDeath p_lastYear p_father p_mother p_fatherGrade p_motherGrade p_size g_holder g_arms g_from g_size r_marks r_arms r_root r_steps r_grade r_marksAboveOne q_rows q_sizes t_bytes t_length s_tokens s_starts s_size a_code a_codeSize a_at a_token a_fault a_place o_texts o_names o_operands o_size o_open o_refuses o_differs o_fees c_years c_rows c_size x_faultPlace ++ fr) := by
  refine Ci.of (by decide) (Nat.le_of_ble_eq_true rfl) (fun Y hX hQ => ?_)
  refine j_lv (lv' := [(0, .ref (gb G 16)), (1, .int x1), (2, .int x2)]) rfl ?_
  unfold f_X6_armsAt at hf
  refine j_iload_n hX dX6_armsAt_0 1 rfl 1 rfl rfl ?_
  refine j_iload_n hX dX6_armsAt_1 2 rfl 2 rfl rfl ?_
  obtain ⟨v1, hv1, hf⟩ := ibd hf
  refine z_si (As := [.int x1, .int x2]) (rest := []) hX dX6_armsAt_2 5 rfl (t_X6_isPlace x1 x2 hv1) mc_X6_isPlace ms_X6_isPlace ml_X6_61 (Nat.le_of_ble_eq_true rfl) (Nat.le_refl _) (Nat.le_refl _) rfl (Nat.le_of_ble_eq_true rfl) ?_
  refine j_if_eq hX dX6_armsAt_5 8 22 rfl rfl (fun h2 => ?_) (fun h2 => ?_)
  · replace hf := itt h2 hf
    refine j_iconst (v := (-1)) hX dX6_armsAt_22 23 rfl (by decide) ?_
    refine j_sub [] rfl ?_
    exact t_X6_armsAt_23 hX hQ   ((-1)) hf
  · replace hf := itf h2 hf
    refine j_aload_n hX dX6_armsAt_8 9 rfl 0 rfl rfl ?_
    refine j_get hX dX6_armsAt_9 12 rfl fg_X6_13 16 rfl rfl ?_
    refine j_iload_n hX dX6_armsAt_12 13 rfl 1 rfl rfl ?_
    refine j_bipush (v := 12) hX dX6_armsAt_13 15 rfl (by decide) ?_
    refine j_imul hX dX6_armsAt_15 16 rfl ?_
    refine j_iload_n hX dX6_armsAt_16 17 rfl 2 rfl rfl ?_
    refine j_iadd hX dX6_armsAt_17 18 rfl ?_
    obtain ⟨hb3, hf⟩ := ign hf
    refine j_iald hX dX6_armsAt_18 19 rfl 17 rfl hb3 ?_
    refine j_goto hX dX6_armsAt_19 23 rfl ?_
    refine j_sub [] rfl ?_
    exact t_X6_armsAt_23 hX hQ   (q_rows (Int32.toNatClampNeg ((x1 * 12) + x2))) hf
def g_X6_addArms_19 (q_rows : Nat → Int32) (q_sizes : Nat → Int32) : Option ((Nat → Int32) × (Nat → Int32)) :=
  some (q_rows, q_sizes)
set_option maxRecDepth 100000 in
set_option maxHeartbeats 4000000 in
theorem t_X6_addArms_19 {Y : YT} {r : (Nat → Int32) × (Nat → Int32)}  (hX : CX l G cX6_addArms 5 RX6 Y) (hQ : EQv G Y 0 0 (WB G p_female p_born p_toldDeath p_lastYear p_father p_mother p_fatherGrade p_motherGrade p_size g_holder g_arms g_from g_size r_marks r_arms r_root r_steps r_grade r_marksAboveOne r.1 r.2 t_bytes t_length s_tokens s_starts s_size a_code a_codeSize a_at a_token a_fault a_place o_texts o_names o_operands o_size o_open o_refuses o_differs o_fees c_years c_rows c_size x_faultPlace ++ fr))   (hf : g_X6_addArms_19 q_rows q_sizes = some r) : J l G (rmD 3 0 0) Y 0 0 19 [] [] (WB G p_female p_born p_toldDeath p_lastYear p_father p_mother p_fatherGrade p_motherGrade p_size g_holder g_arms g_from g_size r_marks r_arms r_root r_steps r_grade r_marksAboveOne q_rows q_sizes t_bytes t_length s_tokens s_starts s_size a_code a_codeSize a_at a_token a_fault a_place o_texts o_names o_operands o_size o_open o_refuses o_differs o_fees c_years c_rows c_size x_faultPlace ++ fr) := by
  unfold g_X6_addArms_19 at hf
  replace hf := Option.some.inj hf
  subst hf
  exact j_vret hX hQ dX6_addArms_19
def g_X6_addArms_23 (q_rows : Nat → Int32) (q_sizes : Nat → Int32) (k23 : Int32 → Int32 → Int32 → Int32 → (Nat → Int32) → (Nat → Int32) → Option ((Nat → Int32) × (Nat → Int32))) (x1 : Int32) (x2 : Int32) (x3 : Int32) (x4 : Int32) : Option ((Nat → Int32) × (Nat → Int32)) :=
  if x3 ≤ x4 then if inb ((x1 * 12) + x3) 720 = true then if inb x1 60 = true then some (upd q_rows (Int32.toNatClampNeg ((x1 * 12) + x3)) x2, upd q_sizes (Int32.toNatClampNeg x1) (x3 + 1)) else none else none else (f_X6_armsAt q_rows x1 x4).bind fun v8 => if v8 = x2 then some (q_rows, q_sizes) else k23 x1 x2 x3 (x4 + 1) q_rows q_sizes
set_option maxRecDepth 100000 in
set_option maxHeartbeats 4000000 in
theorem t_X6_addArms_23 {Y : YT} {r : (Nat → Int32) × (Nat → Int32)} {k23 : Int32 → Int32 → Int32 → Int32 → (Nat → Int32) → (Nat → Int32) → Option ((Nat → Int32) × (Nat → Int32))} (hX : CX l G cX6_addArms 5 RX6 Y) (hQ : EQv G Y 0 0 (WB G p_female p_born p_toldDeath p_lastYear p_father p_mother p_fatherGrade p_motherGrade p_size g_holder g_arms g_from g_size r_marks r_arms r_root r_steps r_grade r_marksAboveOne r.1 r.2 t_bytes t_length s_tokens s_starts s_size a_code a_codeSize a_at a_token a_fault a_place o_texts o_names o_operands o_size o_open o_refuses o_differs o_fees c_years c_rows c_size x_faultPlace ++ fr)) (hk23 : ∀ (x1 : Int32) (x2 : Int32) (x3 : Int32) (x4 : Int32) (q_rows : Nat → Int32) (q_sizes : Nat → Int32), k23 x1 x2 x3 x4 q_rows q_sizes = some r → J l G (rmD 3 0 0) Y 0 0 23 [(0, .ref (gb G 16)), (1, .int x1), (2, .int x2), (3, .int x3), (4, .int x4)] [] (WB G p_female p_born p_toldDeath p_lastYear p_father p_mother p_fatherGrade p_motherGrade p_size g_holder g_arms g_from g_size r_marks r_arms r_root r_steps r_grade r_marksAboveOne q_rows q_sizes t_bytes t_length s_tokens s_starts s_size a_code a_codeSize a_at a_token a_fault a_place o_texts o_names o_operands o_size o_open o_refuses o_differs o_fees c_years c_rows c_size x_faultPlace ++ fr)) (x1 : Int32) (x2 : Int32) (x3 : Int32) (x4 : Int32) (hf : g_X6_addArms_23 q_rows q_sizes k23 x1 x2 x3 x4 = some r) : J l G (rmD 3 0 0) Y 0 0 23 [(0, .ref (gb G 16)), (1, .int x1), (2, .int x2), (3, .int x3), (4, .int x4)] [] (WB G p_female p_born p_toldDeath p_lastYear p_father p_mother p_fatherGrade p_motherGrade p_size g_holder g_arms g_from g_size r_marks r_arms r_root r_steps r_grade r_marksAboveOne q_rows q_sizes t_bytes t_length s_tokens s_starts s_size a_code a_codeSize a_at a_token a_fault a_place o_texts o_names o_operands o_size o_open o_refuses o_differs o_fees c_years c_rows c_size x_faultPlace ++ fr) := by
  unfold g_X6_addArms_23 at hf
  refine j_iload hX dX6_addArms_23 25 rfl 4 rfl ?_
  refine j_iload_n hX dX6_addArms_25 26 rfl 3 rfl rfl ?_
  refine j_icmp_ge hX dX6_addArms_26 29 47 rfl rfl (fun h5 => ?_) (fun h5 => ?_)
  · replace hf := itt h5 hf
    refine j_aload_n hX dX6_addArms_47 48 rfl 0 rfl rfl ?_
    refine j_get hX dX6_addArms_48 51 rfl fg_X6_13 16 rfl rfl ?_
    refine j_iload_n hX dX6_addArms_51 52 rfl 1 rfl rfl ?_
    refine j_bipush (v := 12) hX dX6_addArms_52 54 rfl (by decide) ?_
    refine j_imul hX dX6_addArms_54 55 rfl ?_
    refine j_iload_n hX dX6_addArms_55 56 rfl 3 rfl rfl ?_
    refine j_iadd hX dX6_addArms_56 57 rfl ?_
    refine j_iload_n hX dX6_addArms_57 58 rfl 2 rfl rfl ?_
    obtain ⟨hb6, hf⟩ := ign hf
    refine j_iast hX dX6_addArms_58 59 rfl 17 rfl hb6 (ws' := (WB G p_female p_born p_toldDeath p_lastYear p_father p_mother p_fatherGrade p_motherGrade p_size g_holder g_arms g_from g_size r_marks r_arms r_root r_steps r_grade r_marksAboveOne (upd q_rows (Int32.toNatClampNeg ((x1 * 12) + x3)) x2) q_sizes t_bytes t_length s_tokens s_starts s_size a_code a_codeSize a_at a_token a_fault a_place o_texts o_names o_operands o_size o_open o_refuses o_differs o_fees c_years c_rows c_size x_faultPlace ++ fr)) rfl ?_
    refine j_aload_n hX dX6_addArms_59 60 rfl 0 rfl rfl ?_
    refine j_get hX dX6_addArms_60 63 rfl fg_X6_17 16 rfl rfl ?_
    refine j_iload_n hX dX6_addArms_63 64 rfl 1 rfl rfl ?_
    refine j_iload_n hX dX6_addArms_64 65 rfl 3 rfl rfl ?_
    refine j_iconst (v := 1) hX dX6_addArms_65 66 rfl (by decide) ?_
    refine j_iadd hX dX6_addArms_66 67 rfl ?_
    obtain ⟨hb7, hf⟩ := ign hf
    refine j_iast hX dX6_addArms_67 68 rfl 18 rfl hb7 (ws' := (WB G p_female p_born p_toldDeath p_lastYear p_father p_mother p_fatherGrade p_motherGrade p_size g_holder g_arms g_from g_size r_marks r_arms r_root r_steps r_grade r_marksAboveOne (upd q_rows (Int32.toNatClampNeg ((x1 * 12) + x3)) x2) (upd q_sizes (Int32.toNatClampNeg x1) (x3 + 1)) t_bytes t_length s_tokens s_starts s_size a_code a_codeSize a_at a_token a_fault a_place o_texts o_names o_operands o_size o_open o_refuses o_differs o_fees c_years c_rows c_size x_faultPlace ++ fr)) rfl ?_
    replace hf := Option.some.inj hf
    subst hf
    exact j_vret hX hQ dX6_addArms_68
  · replace hf := itf h5 hf
    refine j_aload_n hX dX6_addArms_29 30 rfl 0 rfl rfl ?_
    refine j_iload_n hX dX6_addArms_30 31 rfl 1 rfl rfl ?_
    refine j_iload hX dX6_addArms_31 33 rfl 4 rfl ?_
    obtain ⟨v8, hv8, hf⟩ := ibd hf
    refine z_i (As := [.int x1, .int x4]) (rest := []) (q0 := 16) hX dX6_addArms_33 36 rfl (t_X6_armsAt x1 x4 hv8) mc_X6_armsAt mv_X6_armsAt ml_X6_58 rfl rfl (Nat.le_of_ble_eq_true rfl) (Nat.le_refl _) (Nat.le_refl _) rfl (Nat.le_of_ble_eq_true rfl) ?_
    refine j_iload_n hX dX6_addArms_36 37 rfl 2 rfl rfl ?_
    refine j_icmp_ne hX dX6_addArms_37 40 41 rfl rfl (fun h9 => ?_) (fun h9 => ?_)
    · replace hf := itf h9 hf
      refine j_iinc (v := x4 + 1) hX dX6_addArms_41 44 rfl 4 rfl rfl (by decide) (lv' := [(4, .int (x4 + 1)), (0, .ref (gb G 16)), (1, .int x1), (2, .int x2), (3, .int x3)]) rfl ?_
      refine j_goto hX dX6_addArms_44 23 rfl ?_
      refine j_sub [1, 2, 3, 4, 0] rfl ?_
      exact hk23 x1 x2 x3 (x4 + 1) q_rows q_sizes hf
    · replace hf := itt h9 hf
      replace hf := Option.some.inj hf
      subst hf
      exact j_vret hX hQ dX6_addArms_40
def f_X6_addArms_23  : Nat → (Int32 × Int32 × Int32 × Int32 × (Nat → Int32) × (Nat → Int32)) → Option ((Nat → Int32) × (Nat → Int32)) :=
  lp (fun k v => g_X6_addArms_23 v.2.2.2.2.1 v.2.2.2.2.2 (fun x1 x2 x3 x4 q_rows q_sizes => k (x1, x2, x3, x4, q_rows, q_sizes)) v.1 v.2.1 v.2.2.1 v.2.2.2.1)
set_option maxRecDepth 100000 in
set_option maxHeartbeats 4000000 in
theorem u_X6_addArms_23 {Y : YT} {r : (Nat → Int32) × (Nat → Int32)}  (hX : CX l G cX6_addArms 5 RX6 Y) (hQ : EQv G Y 0 0 (WB G p_female p_born p_toldDeath p_lastYear p_father p_mother p_fatherGrade p_motherGrade p_size g_holder g_arms g_from g_size r_marks r_arms r_root r_steps r_grade r_marksAboveOne r.1 r.2 t_bytes t_length s_tokens s_starts s_size a_code a_codeSize a_at a_token a_fault a_place o_texts o_names o_operands o_size o_open o_refuses o_differs o_fees c_years c_rows c_size x_faultPlace ++ fr))  (n : Nat) (v : Int32 × Int32 × Int32 × Int32 × (Nat → Int32) × (Nat → Int32)) (hf : f_X6_addArms_23  n v = some r) : J l G (rmD 3 0 0) Y 0 0 23 [(0, .ref (gb G 16)), (1, .int v.1), (2, .int v.2.1), (3, .int v.2.2.1), (4, .int v.2.2.2.1)] [] (WB G p_female p_born p_toldDeath p_lastYear p_father p_mother p_fatherGrade p_motherGrade p_size g_holder g_arms g_from g_size r_marks r_arms r_root r_steps r_grade r_marksAboveOne v.2.2.2.2.1 v.2.2.2.2.2 t_bytes t_length s_tokens s_starts s_size a_code a_codeSize a_at a_token a_fault a_place o_texts o_names o_operands o_size o_open o_refuses o_differs o_fees c_years c_rows c_size x_faultPlace ++ fr) :=
  lp_ind (P := fun v : Int32 × Int32 × Int32 × Int32 × (Nat → Int32) × (Nat → Int32) => J l G (rmD 3 0 0) Y 0 0 23 [(0, .ref (gb G 16)), (1, .int v.1), (2, .int v.2.1), (3, .int v.2.2.1), (4, .int v.2.2.2.1)] [] (WB G p_female p_born p_toldDeath p_lastYear p_father p_mother p_fatherGrade p_motherGrade p_size g_holder g_arms g_from g_size r_marks r_arms r_root r_steps r_grade r_marksAboveOne v.2.2.2.2.1 v.2.2.2.2.2 t_bytes t_length s_tokens s_starts s_size a_code a_codeSize a_at a_token a_fault a_place o_texts o_names o_operands o_size o_open o_refuses o_differs o_fees c_years c_rows c_size x_faultPlace ++ fr)) (fun k hk v hf => t_X6_addArms_23 hX hQ   (fun x1 x2 x3 x4 q_rows q_sizes h => hk (x1, x2, x3, x4, q_rows, q_sizes) h) v.1 v.2.1 v.2.2.1 v.2.2.2.1 hf) n v hf
def f_X6_addArms (fu : Nat) (q_rows : Nat → Int32) (q_sizes : Nat → Int32) (x1 : Int32) (x2 : Int32) : Option ((Nat → Int32) × (Nat → Int32)) :=
  (f_X6_sizeOf q_sizes x1).bind fun v1 => if x2 = ((-1)) then g_X6_addArms_19 q_rows q_sizes else (f_X6_isPlace x1 v1).bind fun v3 => if v3 = 0 then g_X6_addArms_19 q_rows q_sizes else f_X6_addArms_23  fu (x1, x2, v1, 0, q_rows, q_sizes)
set_option maxRecDepth 100000 in
set_option maxHeartbeats 4000000 in
theorem t_X6_addArms {fu : Nat}  (x1 : Int32) (x2 : Int32) {r : (Nat → Int32) × (Nat → Int32)} (hf : f_X6_addArms fu q_rows q_sizes x1 x2 = some r) : Cv l G 3 0 0 yX6_addArms cX6_addArms 5 [.ref (gb G 16), .int x1, .int x2] (WB G p_female p_born p_toldDeath p_lastYear p_father p_mother p_fatherGrade p_motherGrade p_size g_holder g_arms g_from g_size r_marks r_arms r_root r_steps r_grade r_marksAboveOne q_rows q_sizes t_bytes t_length s_tokens s_starts s_size a_code a_codeSize a_at a_token a_fault a_place o_texts o_names o_operands o_size o_open o_refuses o_differs o_fees c_years c_rows c_size x_faultPlace ++ fr) (WB G p_female p_born p_toldDeath p_lastYear p_father p_mother p_fatherGrade p_motherGrade p_size g_holder g_arms g_from g_size r_marks r_arms r_root r_steps r_grade r_marksAboveOne r.1 r.2 t_bytes t_length s_tokens s_starts s_size a_code a_codeSize a_at a_token a_fault a_place o_texts o_names o_operands o_size o_open o_refuses o_differs o_fees c_years c_rows c_size x_faultPlace ++ fr) := by
  refine Cv.of (by decide) (Nat.le_of_ble_eq_true rfl) (fun Y hX hQ => ?_)
  refine j_lv (lv' := [(0, .ref (gb G 16)), (1, .int x1), (2, .int x2)]) rfl ?_
  unfold f_X6_addArms at hf
  refine j_aload_n hX dX6_addArms_0 1 rfl 0 rfl rfl ?_
  refine j_iload_n hX dX6_addArms_1 2 rfl 1 rfl rfl ?_
  obtain ⟨v1, hv1, hf⟩ := ibd hf
  refine z_i (As := [.int x1]) (rest := []) (q0 := 16) hX dX6_addArms_2 5 rfl (t_X6_sizeOf x1 hv1) mc_X6_sizeOf mv_X6_sizeOf ml_X6_55 rfl rfl (Nat.le_of_ble_eq_true rfl) (Nat.le_refl _) (Nat.le_refl _) rfl (Nat.le_of_ble_eq_true rfl) ?_
  refine j_istore_n hX dX6_addArms_5 6 rfl rfl (by decide) (lv' := [(3, .int v1), (0, .ref (gb G 16)), (1, .int x1), (2, .int x2)]) rfl ?_
  refine j_iload_n hX dX6_addArms_6 7 rfl 3 rfl rfl ?_
  refine j_iconst (v := (-1)) hX dX6_addArms_7 8 rfl (by decide) ?_
  refine j_icmp_eq hX dX6_addArms_8 11 19 rfl rfl (fun h2 => ?_) (fun h2 => ?_)
  · replace hf := itt h2 hf
    refine j_sub [] rfl ?_
    exact t_X6_addArms_19 hX hQ    hf
  · replace hf := itf h2 hf
    refine j_iload_n hX dX6_addArms_11 12 rfl 2 rfl rfl ?_
    refine j_iload_n hX dX6_addArms_12 13 rfl 0 rfl rfl ?_
    obtain ⟨v3, hv3, hf⟩ := ibd hf
    refine z_si (As := [.int x1, .int v1]) (rest := []) hX dX6_addArms_13 16 rfl (t_X6_isPlace x1 v1 hv3) mc_X6_isPlace ms_X6_isPlace ml_X6_61 (Nat.le_of_ble_eq_true rfl) (Nat.le_refl _) (Nat.le_refl _) rfl (Nat.le_of_ble_eq_true rfl) ?_
    refine j_if_ne hX dX6_addArms_16 19 20 rfl rfl (fun h4 => ?_) (fun h4 => ?_)
    · replace hf := itf h4 hf
      refine j_iconst (v := 0) hX dX6_addArms_20 21 rfl (by decide) ?_
      refine j_istore hX dX6_addArms_21 23 rfl (by decide) (lv' := [(4, .int 0), (3, .int v1), (0, .ref (gb G 16)), (1, .int x1), (2, .int x2)]) rfl ?_
      refine j_sub [2, 3, 4, 1, 0] rfl ?_
      exact u_X6_addArms_23 hX hQ   fu (x1, x2, v1, 0, q_rows, q_sizes) hf
    · replace hf := itt h4 hf
      refine j_sub [] rfl ?_
      exact t_X6_addArms_19 hX hQ    hf
def g_X6_addRow_9 (fu : Nat) (q_rows : Nat → Int32) (q_sizes : Nat → Int32) (k9 : Int32 → Int32 → Int32 → Int32 → (Nat → Int32) → (Nat → Int32) → Option ((Nat → Int32) × (Nat → Int32))) (x1 : Int32) (x2 : Int32) (x3 : Int32) (x4 : Int32) : Option ((Nat → Int32) × (Nat → Int32)) :=
  if x3 ≤ x4 then some (q_rows, q_sizes) else (f_X6_armsAt q_rows x2 x4).bind fun v3 => (f_X6_addArms fu q_rows q_sizes x1 v3).bind fun v4 => k9 x1 x2 x3 (x4 + 1) v4.1 v4.2
set_option maxRecDepth 100000 in
set_option maxHeartbeats 4000000 in
theorem t_X6_addRow_9 {fu : Nat} {Y : YT} {r : (Nat → Int32) × (Nat → Int32)} {k9 : Int32 → Int32 → Int32 → Int32 → (Nat → Int32) → (Nat → Int32) → Option ((Nat → Int32) × (Nat → Int32))} (hX : CX l G cX6_addRow 5 RX6 Y) (hQ : EQv G Y 0 0 (WB G p_female p_born p_toldDeath p_lastYear p_father p_mother p_fatherGrade p_motherGrade p_size g_holder g_arms g_from g_size r_marks r_arms r_root r_steps r_grade r_marksAboveOne r.1 r.2 t_bytes t_length s_tokens s_starts s_size a_code a_codeSize a_at a_token a_fault a_place o_texts o_names o_operands o_size o_open o_refuses o_differs o_fees c_years c_rows c_size x_faultPlace ++ fr)) (hk9 : ∀ (x1 : Int32) (x2 : Int32) (x3 : Int32) (x4 : Int32) (q_rows : Nat → Int32) (q_sizes : Nat → Int32), k9 x1 x2 x3 x4 q_rows q_sizes = some r → J l G (rmD 4 0 0) Y 0 0 9 [(0, .ref (gb G 16)), (1, .int x1), (2, .int x2), (3, .int x3), (4, .int x4)] [] (WB G p_female p_born p_toldDeath p_lastYear p_father p_mother p_fatherGrade p_motherGrade p_size g_holder g_arms g_from g_size r_marks r_arms r_root r_steps r_grade r_marksAboveOne q_rows q_sizes t_bytes t_length s_tokens s_starts s_size a_code a_codeSize a_at a_token a_fault a_place o_texts o_names o_operands o_size o_open o_refuses o_differs o_fees c_years c_rows c_size x_faultPlace ++ fr)) (x1 : Int32) (x2 : Int32) (x3 : Int32) (x4 : Int32) (hf : g_X6_addRow_9 fu q_rows q_sizes k9 x1 x2 x3 x4 = some r) : J l G (rmD 4 0 0) Y 0 0 9 [(0, .ref (gb G 16)), (1, .int x1), (2, .int x2), (3, .int x3), (4, .int x4)] [] (WB G p_female p_born p_toldDeath p_lastYear p_father p_mother p_fatherGrade p_motherGrade p_size g_holder g_arms g_from g_size r_marks r_arms r_root r_steps r_grade r_marksAboveOne q_rows q_sizes t_bytes t_length s_tokens s_starts s_size a_code a_codeSize a_at a_token a_fault a_place o_texts o_names o_operands o_size o_open o_refuses o_differs o_fees c_years c_rows c_size x_faultPlace ++ fr) := by
  unfold g_X6_addRow_9 at hf
  refine j_iload hX dX6_addRow_9 11 rfl 4 rfl ?_
  refine j_iload_n hX dX6_addRow_11 12 rfl 3 rfl rfl ?_
  refine j_icmp_ge hX dX6_addRow_12 15 33 rfl rfl (fun h2 => ?_) (fun h2 => ?_)
  · replace hf := itt h2 hf
    replace hf := Option.some.inj hf
    subst hf
    exact j_vret hX hQ dX6_addRow_33
  · replace hf := itf h2 hf
    refine j_aload_n hX dX6_addRow_15 16 rfl 0 rfl rfl ?_
    refine j_iload_n hX dX6_addRow_16 17 rfl 1 rfl rfl ?_
    refine j_aload_n hX dX6_addRow_17 18 rfl 0 rfl rfl ?_
    refine j_iload_n hX dX6_addRow_18 19 rfl 2 rfl rfl ?_
    refine j_iload hX dX6_addRow_19 21 rfl 4 rfl ?_
    obtain ⟨v3, hv3, hf⟩ := ibd hf
    refine z_i (As := [.int x2, .int x4]) (rest := [.int x1, .ref (gb G 16)]) (q0 := 16) hX dX6_addRow_21 24 rfl (t_X6_armsAt x2 x4 hv3) mc_X6_armsAt mv_X6_armsAt ml_X6_58 rfl rfl (Nat.le_of_ble_eq_true rfl) (Nat.le_refl _) (Nat.le_refl _) rfl (Nat.le_of_ble_eq_true rfl) ?_
    obtain ⟨v4, hv4, hf⟩ := ibd hf
    refine z_v (As := [.int x1, .int v3]) (rest := []) (q0 := 16) hX dX6_addRow_24 27 rfl (t_X6_addArms x1 v3 hv4) mc_X6_addArms mv_X6_addArms ml_X6_45 rfl rfl (Nat.le_of_ble_eq_true rfl) (Nat.le_refl _) (Nat.le_refl _) rfl (Nat.le_of_ble_eq_true rfl) ?_
    refine j_iinc (v := x4 + 1) hX dX6_addRow_27 30 rfl 4 rfl rfl (by decide) (lv' := [(4, .int (x4 + 1)), (0, .ref (gb G 16)), (1, .int x1), (2, .int x2), (3, .int x3)]) rfl ?_
    refine j_goto hX dX6_addRow_30 9 rfl ?_
    refine j_sub [1, 2, 3, 4, 0] rfl ?_
    exact hk9 x1 x2 x3 (x4 + 1) v4.1 v4.2 hf
def f_X6_addRow_9 (fu : Nat) : Nat → (Int32 × Int32 × Int32 × Int32 × (Nat → Int32) × (Nat → Int32)) → Option ((Nat → Int32) × (Nat → Int32)) :=
  lp (fun k v => g_X6_addRow_9 fu v.2.2.2.2.1 v.2.2.2.2.2 (fun x1 x2 x3 x4 q_rows q_sizes => k (x1, x2, x3, x4, q_rows, q_sizes)) v.1 v.2.1 v.2.2.1 v.2.2.2.1)
set_option maxRecDepth 100000 in
set_option maxHeartbeats 4000000 in
theorem u_X6_addRow_9 {fu : Nat} {Y : YT} {r : (Nat → Int32) × (Nat → Int32)}  (hX : CX l G cX6_addRow 5 RX6 Y) (hQ : EQv G Y 0 0 (WB G p_female p_born p_toldDeath p_lastYear p_father p_mother p_fatherGrade p_motherGrade p_size g_holder g_arms g_from g_size r_marks r_arms r_root r_steps r_grade r_marksAboveOne r.1 r.2 t_bytes t_length s_tokens s_starts s_size a_code a_codeSize a_at a_token a_fault a_place o_texts o_names o_operands o_size o_open o_refuses o_differs o_fees c_years c_rows c_size x_faultPlace ++ fr))  (n : Nat) (v : Int32 × Int32 × Int32 × Int32 × (Nat → Int32) × (Nat → Int32)) (hf : f_X6_addRow_9 fu n v = some r) : J l G (rmD 4 0 0) Y 0 0 9 [(0, .ref (gb G 16)), (1, .int v.1), (2, .int v.2.1), (3, .int v.2.2.1), (4, .int v.2.2.2.1)] [] (WB G p_female p_born p_toldDeath p_lastYear p_father p_mother p_fatherGrade p_motherGrade p_size g_holder g_arms g_from g_size r_marks r_arms r_root r_steps r_grade r_marksAboveOne v.2.2.2.2.1 v.2.2.2.2.2 t_bytes t_length s_tokens s_starts s_size a_code a_codeSize a_at a_token a_fault a_place o_texts o_names o_operands o_size o_open o_refuses o_differs o_fees c_years c_rows c_size x_faultPlace ++ fr) :=
  lp_ind (P := fun v : Int32 × Int32 × Int32 × Int32 × (Nat → Int32) × (Nat → Int32) => J l G (rmD 4 0 0) Y 0 0 9 [(0, .ref (gb G 16)), (1, .int v.1), (2, .int v.2.1), (3, .int v.2.2.1), (4, .int v.2.2.2.1)] [] (WB G p_female p_born p_toldDeath p_lastYear p_father p_mother p_fatherGrade p_motherGrade p_size g_holder g_arms g_from g_size r_marks r_arms r_root r_steps r_grade r_marksAboveOne v.2.2.2.2.1 v.2.2.2.2.2 t_bytes t_length s_tokens s_starts s_size a_code a_codeSize a_at a_token a_fault a_place o_texts o_names o_operands o_size o_open o_refuses o_differs o_fees c_years c_rows c_size x_faultPlace ++ fr)) (fun k hk v hf => t_X6_addRow_9 hX hQ   (fun x1 x2 x3 x4 q_rows q_sizes h => hk (x1, x2, x3, x4, q_rows, q_sizes) h) v.1 v.2.1 v.2.2.1 v.2.2.2.1 hf) n v hf
def f_X6_addRow (fu : Nat) (q_rows : Nat → Int32) (q_sizes : Nat → Int32) (x1 : Int32) (x2 : Int32) : Option ((Nat → Int32) × (Nat → Int32)) :=
  (f_X6_sizeOf q_sizes x2).bind fun v1 => f_X6_addRow_9 fu fu (x1, x2, v1, 0, q_rows, q_sizes)
set_option maxRecDepth 100000 in
set_option maxHeartbeats 4000000 in
theorem t_X6_addRow {fu : Nat}  (x1 : Int32) (x2 : Int32) {r : (Nat → Int32) × (Nat → Int32)} (hf : f_X6_addRow fu q_rows q_sizes x1 x2 = some r) : Cv l G 4 0 0 yX6_addRow cX6_addRow 5 [.ref (gb G 16), .int x1, .int x2] (WB G p_female p_born p_toldDeath p_lastYear p_father p_mother p_fatherGrade p_motherGrade p_size g_holder g_arms g_from g_size r_marks r_arms r_root r_steps r_grade r_marksAboveOne q_rows q_sizes t_bytes t_length s_tokens s_starts s_size a_code a_codeSize a_at a_token a_fault a_place o_texts o_names o_operands o_size o_open o_refuses o_differs o_fees c_years c_rows c_size x_faultPlace ++ fr) (WB G p_female p_born p_toldDeath p_lastYear p_father p_mother p_fatherGrade p_motherGrade p_size g_holder g_arms g_from g_size r_marks r_arms r_root r_steps r_grade r_marksAboveOne r.1 r.2 t_bytes t_length s_tokens s_starts s_size a_code a_codeSize a_at a_token a_fault a_place o_texts o_names o_operands o_size o_open o_refuses o_differs o_fees c_years c_rows c_size x_faultPlace ++ fr) := by
  refine Cv.of (by decide) (Nat.le_of_ble_eq_true rfl) (fun Y hX hQ => ?_)
  refine j_lv (lv' := [(0, .ref (gb G 16)), (1, .int x1), (2, .int x2)]) rfl ?_
  unfold f_X6_addRow at hf
  refine j_aload_n hX dX6_addRow_0 1 rfl 0 rfl rfl ?_
  refine j_iload_n hX dX6_addRow_1 2 rfl 2 rfl rfl ?_
  obtain ⟨v1, hv1, hf⟩ := ibd hf
  refine z_i (As := [.int x2]) (rest := []) (q0 := 16) hX dX6_addRow_2 5 rfl (t_X6_sizeOf x2 hv1) mc_X6_sizeOf mv_X6_sizeOf ml_X6_55 rfl rfl (Nat.le_of_ble_eq_true rfl) (Nat.le_refl _) (Nat.le_refl _) rfl (Nat.le_of_ble_eq_true rfl) ?_
  refine j_istore_n hX dX6_addRow_5 6 rfl rfl (by decide) (lv' := [(3, .int v1), (0, .ref (gb G 16)), (1, .int x1), (2, .int x2)]) rfl ?_
  refine j_iconst (v := 0) hX dX6_addRow_6 7 rfl (by decide) ?_
  refine j_istore hX dX6_addRow_7 9 rfl (by decide) (lv' := [(4, .int 0), (3, .int v1), (0, .ref (gb G 16)), (1, .int x1), (2, .int x2)]) rfl ?_
  refine j_sub [2, 3, 4, 1, 0] rfl ?_
  exact u_X6_addRow_9 hX hQ   fu (x1, x2, v1, 0, q_rows, q_sizes) hf
def g_X6_fill_104 (q_rows : Nat → Int32) (q_sizes : Nat → Int32) (k18 : Int32 → Int64 → Int64 → Int32 → (Nat → Int32) → (Nat → Int32) → Option ((Nat → Int32) × (Nat → Int32))) (x4 : Int32) (x5 : Int64) (x7 : Int64) (x9 : Int32) : Option ((Nat → Int32) × (Nat → Int32)) :=
  k18 x4 x5 x7 (x9 + 1) q_rows q_sizes
set_option maxRecDepth 100000 in
set_option maxHeartbeats 4000000 in
theorem t_X6_fill_104 {Y : YT} {r : (Nat → Int32) × (Nat → Int32)} {k18 : Int32 → Int64 → Int64 → Int32 → (Nat → Int32) → (Nat → Int32) → Option ((Nat → Int32) × (Nat → Int32))} (hX : CX l G cX6_fill 11 RX6 Y) (hQ : EQv G Y 0 0 (WB G p_female p_born p_toldDeath p_lastYear p_father p_mother p_fatherGrade p_motherGrade p_size g_holder g_arms g_from g_size r_marks r_arms r_root r_steps r_grade r_marksAboveOne r.1 r.2 t_bytes t_length s_tokens s_starts s_size a_code a_codeSize a_at a_token a_fault a_place o_texts o_names o_operands o_size o_open o_refuses o_differs o_fees c_years c_rows c_size x_faultPlace ++ fr)) (hk18 : ∀ (x4 : Int32) (x5 : Int64) (x7 : Int64) (x9 : Int32) (q_rows : Nat → Int32) (q_sizes : Nat → Int32), k18 x4 x5 x7 x9 q_rows q_sizes = some r → J l G (rmD 5 0 0) Y 0 0 18 [(0, .ref (gb G 16)), (1, .ref (gb G 1)), (2, .ref (gb G 10)), (4, .int x4), (5, .long x5), (7, .long x7), (9, .int x9)] [] (WB G p_female p_born p_toldDeath p_lastYear p_father p_mother p_fatherGrade p_motherGrade p_size g_holder g_arms g_from g_size r_marks r_arms r_root r_steps r_grade r_marksAboveOne q_rows q_sizes t_bytes t_length s_tokens s_starts s_size a_code a_codeSize a_at a_token a_fault a_place o_texts o_names o_operands o_size o_open o_refuses o_differs o_fees c_years c_rows c_size x_faultPlace ++ fr)) (x4 : Int32) (x5 : Int64) (x7 : Int64) (x9 : Int32) (hf : g_X6_fill_104 q_rows q_sizes k18 x4 x5 x7 x9 = some r) : J l G (rmD 5 0 0) Y 0 0 104 [(0, .ref (gb G 16)), (1, .ref (gb G 1)), (2, .ref (gb G 10)), (4, .int x4), (5, .long x5), (7, .long x7), (9, .int x9)] [] (WB G p_female p_born p_toldDeath p_lastYear p_father p_mother p_fatherGrade p_motherGrade p_size g_holder g_arms g_from g_size r_marks r_arms r_root r_steps r_grade r_marksAboveOne q_rows q_sizes t_bytes t_length s_tokens s_starts s_size a_code a_codeSize a_at a_token a_fault a_place o_texts o_names o_operands o_size o_open o_refuses o_differs o_fees c_years c_rows c_size x_faultPlace ++ fr) := by
  unfold g_X6_fill_104 at hf
  refine j_iinc (v := x9 + 1) hX dX6_fill_104 107 rfl 6 rfl rfl (by decide) (lv' := [(9, .int (x9 + 1)), (0, .ref (gb G 16)), (1, .ref (gb G 1)), (2, .ref (gb G 10)), (4, .int x4), (5, .long x5), (7, .long x7)]) rfl ?_
  refine j_goto hX dX6_fill_107 18 rfl ?_
  refine j_sub [1, 2, 3, 4, 5, 6, 0] rfl ?_
  exact hk18 x4 x5 x7 (x9 + 1) q_rows q_sizes hf
def g_X6_fill_18 (fu : Nat) (p_female : Nat → Int32) (p_born : Nat → Int32) (p_lastYear : Nat → Int32) (p_father : Nat → Int32) (p_mother : Nat → Int32) (p_size : Int32) (g_holder : Nat → Int32) (g_arms : Nat → Int32) (g_from : Nat → Int32) (g_size : Int32) (q_rows : Nat → Int32) (q_sizes : Nat → Int32) (k18 : Int32 → Int64 → Int64 → Int32 → (Nat → Int32) → (Nat → Int32) → Option ((Nat → Int32) × (Nat → Int32))) (x4 : Int32) (x5 : Int64) (x7 : Int64) (x9 : Int32) : Option ((Nat → Int32) × (Nat → Int32)) :=
  if 60 ≤ x9 then some (q_rows, q_sizes) else (f_X4_isIn x7 x9).bind fun v4 => if v4 = 0 then g_X6_fill_104 q_rows q_sizes k18 x4 x5 x7 x9 else if inb x9 60 = true then (f_X4_fatherOf p_father p_size x9).bind fun v7 => (f_X6_addRow fu q_rows (upd q_sizes (Int32.toNatClampNeg x9) 0) x9 v7).bind fun v8 => (f_X1_ownArms fu g_holder g_arms g_from g_size x9 x4).bind fun v9 => (f_X6_addArms fu v8.1 v8.2 x9 v9).bind fun v10 => (f_X4_motherOf p_mother p_size x9).bind fun v11 => if v11 = ((-1)) then g_X6_fill_104 v10.1 v10.2 k18 x4 x5 x7 x9 else (f_X4_bringsQuarters fu p_female p_born p_lastYear p_father p_size v11 x4 x5).bind fun v13 => if v13 = 0 then g_X6_fill_104 v10.1 v10.2 k18 x4 x5 x7 x9 else (f_X6_addRow fu v10.1 v10.2 x9 v11).bind fun v15 => g_X6_fill_104 v15.1 v15.2 k18 x4 x5 x7 x9 else none
set_option maxRecDepth 100000 in
set_option maxHeartbeats 4000000 in
theorem t_X6_fill_18 {fu : Nat} {Y : YT} {r : (Nat → Int32) × (Nat → Int32)} {k18 : Int32 → Int64 → Int64 → Int32 → (Nat → Int32) → (Nat → Int32) → Option ((Nat → Int32) × (Nat → Int32))} (hX : CX l G cX6_fill 11 RX6 Y) (hQ : EQv G Y 0 0 (WB G p_female p_born p_toldDeath p_lastYear p_father p_mother p_fatherGrade p_motherGrade p_size g_holder g_arms g_from g_size r_marks r_arms r_root r_steps r_grade r_marksAboveOne r.1 r.2 t_bytes t_length s_tokens s_starts s_size a_code a_codeSize a_at a_token a_fault a_place o_texts o_names o_operands o_size o_open o_refuses o_differs o_fees c_years c_rows c_size x_faultPlace ++ fr)) (hk18 : ∀ (x4 : Int32) (x5 : Int64) (x7 : Int64) (x9 : Int32) (q_rows : Nat → Int32) (q_sizes : Nat → Int32), k18 x4 x5 x7 x9 q_rows q_sizes = some r → J l G (rmD 5 0 0) Y 0 0 18 [(0, .ref (gb G 16)), (1, .ref (gb G 1)), (2, .ref (gb G 10)), (4, .int x4), (5, .long x5), (7, .long x7), (9, .int x9)] [] (WB G p_female p_born p_toldDeath p_lastYear p_father p_mother p_fatherGrade p_motherGrade p_size g_holder g_arms g_from g_size r_marks r_arms r_root r_steps r_grade r_marksAboveOne q_rows q_sizes t_bytes t_length s_tokens s_starts s_size a_code a_codeSize a_at a_token a_fault a_place o_texts o_names o_operands o_size o_open o_refuses o_differs o_fees c_years c_rows c_size x_faultPlace ++ fr)) (x4 : Int32) (x5 : Int64) (x7 : Int64) (x9 : Int32) (hf : g_X6_fill_18 fu p_female p_born p_lastYear p_father p_mother p_size g_holder g_arms g_from g_size q_rows q_sizes k18 x4 x5 x7 x9 = some r) : J l G (rmD 5 0 0) Y 0 0 18 [(0, .ref (gb G 16)), (1, .ref (gb G 1)), (2, .ref (gb G 10)), (4, .int x4), (5, .long x5), (7, .long x7), (9, .int x9)] [] (WB G p_female p_born p_toldDeath p_lastYear p_father p_mother p_fatherGrade p_motherGrade p_size g_holder g_arms g_from g_size r_marks r_arms r_root r_steps r_grade r_marksAboveOne q_rows q_sizes t_bytes t_length s_tokens s_starts s_size a_code a_codeSize a_at a_token a_fault a_place o_texts o_names o_operands o_size o_open o_refuses o_differs o_fees c_years c_rows c_size x_faultPlace ++ fr) := by
  unfold g_X6_fill_18 at hf
  refine j_iload hX dX6_fill_18 20 rfl 6 rfl ?_
  refine j_bipush (v := 60) hX dX6_fill_20 22 rfl (by decide) ?_
  refine j_icmp_ge hX dX6_fill_22 25 110 rfl rfl (fun h3 => ?_) (fun h3 => ?_)
  · replace hf := itt h3 hf
    replace hf := Option.some.inj hf
    subst hf
    exact j_vret hX hQ dX6_fill_110
  · replace hf := itf h3 hf
    refine j_lload hX dX6_fill_25 27 rfl 5 rfl ?_
    refine j_iload hX dX6_fill_27 29 rfl 6 rfl ?_
    obtain ⟨v4, hv4, hf⟩ := ibd hf
    refine z_si (As := [.long x7, .int x9]) (rest := []) hX dX6_fill_29 32 rfl (t_X4_isIn x7 x9 hv4) mc_X4_isIn ms_X4_isIn ml_X6_27 (Nat.le_of_ble_eq_true rfl) (Nat.le_refl _) (Nat.le_refl _) rfl (Nat.le_of_ble_eq_true rfl) ?_
    refine j_if_eq hX dX6_fill_32 35 104 rfl rfl (fun h5 => ?_) (fun h5 => ?_)
    · replace hf := itt h5 hf
      exact t_X6_fill_104 hX hQ  hk18 x4 x5 x7 x9 hf
    · replace hf := itf h5 hf
      refine j_aload_n hX dX6_fill_35 36 rfl 0 rfl rfl ?_
      refine j_get hX dX6_fill_36 39 rfl fg_X6_17 16 rfl rfl ?_
      refine j_iload hX dX6_fill_39 41 rfl 6 rfl ?_
      refine j_iconst (v := 0) hX dX6_fill_41 42 rfl (by decide) ?_
      obtain ⟨hb6, hf⟩ := ign hf
      refine j_iast hX dX6_fill_42 43 rfl 18 rfl hb6 (ws' := (WB G p_female p_born p_toldDeath p_lastYear p_father p_mother p_fatherGrade p_motherGrade p_size g_holder g_arms g_from g_size r_marks r_arms r_root r_steps r_grade r_marksAboveOne q_rows (upd q_sizes (Int32.toNatClampNeg x9) 0) t_bytes t_length s_tokens s_starts s_size a_code a_codeSize a_at a_token a_fault a_place o_texts o_names o_operands o_size o_open o_refuses o_differs o_fees c_years c_rows c_size x_faultPlace ++ fr)) rfl ?_
      refine j_aload_n hX dX6_fill_43 44 rfl 0 rfl rfl ?_
      refine j_iload hX dX6_fill_44 46 rfl 6 rfl ?_
      refine j_aload_n hX dX6_fill_46 47 rfl 1 rfl rfl ?_
      refine j_iload hX dX6_fill_47 49 rfl 6 rfl ?_
      obtain ⟨v7, hv7, hf⟩ := ibd hf
      refine z_i (As := [.int x9]) (rest := [.int x9, .ref (gb G 16)]) (q0 := 1) hX dX6_fill_49 52 rfl (t_X4_fatherOf x9 hv7) mc_X4_fatherOf mv_X4_fatherOf ml_X6_31 rfl rfl (Nat.le_of_ble_eq_true rfl) (Nat.le_refl _) (Nat.le_refl _) rfl (Nat.le_of_ble_eq_true rfl) ?_
      obtain ⟨v8, hv8, hf⟩ := ibd hf
      refine z_v (As := [.int x9, .int v7]) (rest := []) (q0 := 16) hX dX6_fill_52 55 rfl (t_X6_addRow x9 v7 hv8) mc_X6_addRow mv_X6_addRow ml_X6_35 rfl rfl (Nat.le_of_ble_eq_true rfl) (Nat.le_refl _) (Nat.le_refl _) rfl (Nat.le_of_ble_eq_true rfl) ?_
      refine j_aload_n hX dX6_fill_55 56 rfl 0 rfl rfl ?_
      refine j_iload hX dX6_fill_56 58 rfl 6 rfl ?_
      refine j_aload_n hX dX6_fill_58 59 rfl 2 rfl rfl ?_
      refine j_iload hX dX6_fill_59 61 rfl 6 rfl ?_
      refine j_iload hX dX6_fill_61 63 rfl 3 rfl ?_
      obtain ⟨v9, hv9, hf⟩ := ibd hf
      refine z_i (As := [.int x9, .int x4]) (rest := [.int x9, .ref (gb G 16)]) (q0 := 10) hX dX6_fill_63 66 rfl (t_X1_ownArms x9 x4 hv9) mc_X1_ownArms mv_X1_ownArms ml_X6_39 rfl rfl (Nat.le_of_ble_eq_true rfl) (Nat.le_refl _) (Nat.le_refl _) rfl (Nat.le_of_ble_eq_true rfl) ?_
      obtain ⟨v10, hv10, hf⟩ := ibd hf
      refine z_v (As := [.int x9, .int v9]) (rest := []) (q0 := 16) hX dX6_fill_66 69 rfl (t_X6_addArms x9 v9 hv10) mc_X6_addArms mv_X6_addArms ml_X6_45 rfl rfl (Nat.le_of_ble_eq_true rfl) (Nat.le_refl _) (Nat.le_refl _) rfl (Nat.le_of_ble_eq_true rfl) ?_
      refine j_aload_n hX dX6_fill_69 70 rfl 1 rfl rfl ?_
      refine j_iload hX dX6_fill_70 72 rfl 6 rfl ?_
      obtain ⟨v11, hv11, hf⟩ := ibd hf
      refine z_i (As := [.int x9]) (rest := []) (q0 := 1) hX dX6_fill_72 75 rfl (t_X4_motherOf x9 hv11) mc_X4_motherOf mv_X4_motherOf ml_X6_48 rfl rfl (Nat.le_of_ble_eq_true rfl) (Nat.le_refl _) (Nat.le_refl _) rfl (Nat.le_of_ble_eq_true rfl) ?_
      refine j_istore hX dX6_fill_75 77 rfl (by decide) (lv' := [(10, .int v11), (0, .ref (gb G 16)), (1, .ref (gb G 1)), (2, .ref (gb G 10)), (4, .int x4), (5, .long x5), (7, .long x7), (9, .int x9)]) rfl ?_
      refine j_iload hX dX6_fill_77 79 rfl 0 rfl ?_
      refine j_iconst (v := (-1)) hX dX6_fill_79 80 rfl (by decide) ?_
      refine j_icmp_eq hX dX6_fill_80 83 104 rfl rfl (fun h12 => ?_) (fun h12 => ?_)
      · replace hf := itt h12 hf
        refine j_sub [1, 2, 3, 4, 5, 6, 7] rfl ?_
        exact t_X6_fill_104 hX hQ  hk18 x4 x5 x7 x9 hf
      · replace hf := itf h12 hf
        refine j_aload_n hX dX6_fill_83 84 rfl 2 rfl rfl ?_
        refine j_iload hX dX6_fill_84 86 rfl 0 rfl ?_
        refine j_iload hX dX6_fill_86 88 rfl 4 rfl ?_
        refine j_lload hX dX6_fill_88 90 rfl 5 rfl ?_
        obtain ⟨v13, hv13, hf⟩ := ibd hf
        refine z_i (As := [.int v11, .int x4, .long x5]) (rest := []) (q0 := 1) hX dX6_fill_90 93 rfl (t_X4_bringsQuarters v11 x4 x5 hv13) mc_X4_bringsQuarters mv_X4_bringsQuarters ml_X6_51 rfl rfl (Nat.le_of_ble_eq_true rfl) (Nat.le_refl _) (Nat.le_refl _) rfl (Nat.le_of_ble_eq_true rfl) ?_
        refine j_if_eq hX dX6_fill_93 96 104 rfl rfl (fun h14 => ?_) (fun h14 => ?_)
        · replace hf := itt h14 hf
          refine j_sub [1, 2, 3, 4, 5, 6, 7] rfl ?_
          exact t_X6_fill_104 hX hQ  hk18 x4 x5 x7 x9 hf
        · replace hf := itf h14 hf
          refine j_aload_n hX dX6_fill_96 97 rfl 1 rfl rfl ?_
          refine j_iload hX dX6_fill_97 99 rfl 7 rfl ?_
          refine j_iload hX dX6_fill_99 101 rfl 0 rfl ?_
          obtain ⟨v15, hv15, hf⟩ := ibd hf
          refine z_v (As := [.int x9, .int v11]) (rest := []) (q0 := 16) hX dX6_fill_101 104 rfl (t_X6_addRow x9 v11 hv15) mc_X6_addRow mv_X6_addRow ml_X6_35 rfl rfl (Nat.le_of_ble_eq_true rfl) (Nat.le_refl _) (Nat.le_refl _) rfl (Nat.le_of_ble_eq_true rfl) ?_
          refine j_sub [1, 2, 3, 4, 5, 6, 7] rfl ?_
          exact t_X6_fill_104 hX hQ  hk18 x4 x5 x7 x9 hf
def f_X6_fill_18 (fu : Nat) (p_female : Nat → Int32) (p_born : Nat → Int32) (p_lastYear : Nat → Int32) (p_father : Nat → Int32) (p_mother : Nat → Int32) (p_size : Int32) (g_holder : Nat → Int32) (g_arms : Nat → Int32) (g_from : Nat → Int32) (g_size : Int32) : Nat → (Int32 × Int64 × Int64 × Int32 × (Nat → Int32) × (Nat → Int32)) → Option ((Nat → Int32) × (Nat → Int32)) :=
  lp (fun k v => g_X6_fill_18 fu p_female p_born p_lastYear p_father p_mother p_size g_holder g_arms g_from g_size v.2.2.2.2.1 v.2.2.2.2.2 (fun x4 x5 x7 x9 q_rows q_sizes => k (x4, x5, x7, x9, q_rows, q_sizes)) v.1 v.2.1 v.2.2.1 v.2.2.2.1)
set_option maxRecDepth 100000 in
set_option maxHeartbeats 4000000 in
theorem u_X6_fill_18 {fu : Nat} {Y : YT} {r : (Nat → Int32) × (Nat → Int32)}  (hX : CX l G cX6_fill 11 RX6 Y) (hQ : EQv G Y 0 0 (WB G p_female p_born p_toldDeath p_lastYear p_father p_mother p_fatherGrade p_motherGrade p_size g_holder g_arms g_from g_size r_marks r_arms r_root r_steps r_grade r_marksAboveOne r.1 r.2 t_bytes t_length s_tokens s_starts s_size a_code a_codeSize a_at a_token a_fault a_place o_texts o_names o_operands o_size o_open o_refuses o_differs o_fees c_years c_rows c_size x_faultPlace ++ fr))  (n : Nat) (v : Int32 × Int64 × Int64 × Int32 × (Nat → Int32) × (Nat → Int32)) (hf : f_X6_fill_18 fu p_female p_born p_lastYear p_father p_mother p_size g_holder g_arms g_from g_size n v = some r) : J l G (rmD 5 0 0) Y 0 0 18 [(0, .ref (gb G 16)), (1, .ref (gb G 1)), (2, .ref (gb G 10)), (4, .int v.1), (5, .long v.2.1), (7, .long v.2.2.1), (9, .int v.2.2.2.1)] [] (WB G p_female p_born p_toldDeath p_lastYear p_father p_mother p_fatherGrade p_motherGrade p_size g_holder g_arms g_from g_size r_marks r_arms r_root r_steps r_grade r_marksAboveOne v.2.2.2.2.1 v.2.2.2.2.2 t_bytes t_length s_tokens s_starts s_size a_code a_codeSize a_at a_token a_fault a_place o_texts o_names o_operands o_size o_open o_refuses o_differs o_fees c_years c_rows c_size x_faultPlace ++ fr) :=
  lp_ind (P := fun v : Int32 × Int64 × Int64 × Int32 × (Nat → Int32) × (Nat → Int32) => J l G (rmD 5 0 0) Y 0 0 18 [(0, .ref (gb G 16)), (1, .ref (gb G 1)), (2, .ref (gb G 10)), (4, .int v.1), (5, .long v.2.1), (7, .long v.2.2.1), (9, .int v.2.2.2.1)] [] (WB G p_female p_born p_toldDeath p_lastYear p_father p_mother p_fatherGrade p_motherGrade p_size g_holder g_arms g_from g_size r_marks r_arms r_root r_steps r_grade r_marksAboveOne v.2.2.2.2.1 v.2.2.2.2.2 t_bytes t_length s_tokens s_starts s_size a_code a_codeSize a_at a_token a_fault a_place o_texts o_names o_operands o_size o_open o_refuses o_differs o_fees c_years c_rows c_size x_faultPlace ++ fr)) (fun k hk v hf => t_X6_fill_18 hX hQ   (fun x4 x5 x7 x9 q_rows q_sizes h => hk (x4, x5, x7, x9, q_rows, q_sizes) h) v.1 v.2.1 v.2.2.1 v.2.2.2.1 hf) n v hf
def f_X6_fill (fu : Nat) (p_female : Nat → Int32) (p_born : Nat → Int32) (p_lastYear : Nat → Int32) (p_father : Nat → Int32) (p_mother : Nat → Int32) (p_size : Int32) (g_holder : Nat → Int32) (g_arms : Nat → Int32) (g_from : Nat → Int32) (g_size : Int32) (q_rows : Nat → Int32) (q_sizes : Nat → Int32) (x3 : Int32) (x4 : Int32) : Option ((Nat → Int32) × (Nat → Int32)) :=
  (f_X4_livingLines fu p_female p_born p_lastYear p_father p_size x4).bind fun v1 => (f_X4_forebears fu p_father p_mother p_size x3).bind fun v2 => f_X6_fill_18 fu p_female p_born p_lastYear p_father p_mother p_size g_holder g_arms g_from g_size fu (x4, v1, v2, 0, q_rows, q_sizes)
set_option maxRecDepth 100000 in
set_option maxHeartbeats 4000000 in
theorem t_X6_fill {fu : Nat}  (x3 : Int32) (x4 : Int32) {r : (Nat → Int32) × (Nat → Int32)} (hf : f_X6_fill fu p_female p_born p_lastYear p_father p_mother p_size g_holder g_arms g_from g_size q_rows q_sizes x3 x4 = some r) : Cv l G 5 0 0 yX6_fill cX6_fill 11 [.ref (gb G 16), .ref (gb G 1), .ref (gb G 10), .int x3, .int x4] (WB G p_female p_born p_toldDeath p_lastYear p_father p_mother p_fatherGrade p_motherGrade p_size g_holder g_arms g_from g_size r_marks r_arms r_root r_steps r_grade r_marksAboveOne q_rows q_sizes t_bytes t_length s_tokens s_starts s_size a_code a_codeSize a_at a_token a_fault a_place o_texts o_names o_operands o_size o_open o_refuses o_differs o_fees c_years c_rows c_size x_faultPlace ++ fr) (WB G p_female p_born p_toldDeath p_lastYear p_father p_mother p_fatherGrade p_motherGrade p_size g_holder g_arms g_from g_size r_marks r_arms r_root r_steps r_grade r_marksAboveOne r.1 r.2 t_bytes t_length s_tokens s_starts s_size a_code a_codeSize a_at a_token a_fault a_place o_texts o_names o_operands o_size o_open o_refuses o_differs o_fees c_years c_rows c_size x_faultPlace ++ fr) := by
  refine Cv.of (by decide) (Nat.le_of_ble_eq_true rfl) (fun Y hX hQ => ?_)
  refine j_lv (lv' := [(0, .ref (gb G 16)), (1, .ref (gb G 1)), (2, .ref (gb G 10)), (3, .int x3), (4, .int x4)]) rfl ?_
  unfold f_X6_fill at hf
  refine j_aload_n hX dX6_fill_0 1 rfl 1 rfl rfl ?_
  refine j_iload hX dX6_fill_1 3 rfl 4 rfl ?_
  obtain ⟨v1, hv1, hf⟩ := ibd hf
  refine z_l (As := [.int x4]) (rest := []) (q0 := 1) hX dX6_fill_3 6 rfl (t_X4_livingLines x4 hv1) mc_X4_livingLines mv_X4_livingLines ml_X6_20 rfl rfl (Nat.le_of_ble_eq_true rfl) (Nat.le_refl _) (Nat.le_refl _) rfl (Nat.le_of_ble_eq_true rfl) ?_
  refine j_lstore hX dX6_fill_6 8 rfl (by decide) (lv' := [(5, .long v1), (0, .ref (gb G 16)), (1, .ref (gb G 1)), (2, .ref (gb G 10)), (3, .int x3), (4, .int x4)]) rfl ?_
  refine j_aload_n hX dX6_fill_8 9 rfl 2 rfl rfl ?_
  refine j_iload_n hX dX6_fill_9 10 rfl 4 rfl rfl ?_
  obtain ⟨v2, hv2, hf⟩ := ibd hf
  refine z_l (As := [.int x3]) (rest := []) (q0 := 1) hX dX6_fill_10 13 rfl (t_X4_forebears x3 hv2) mc_X4_forebears mv_X4_forebears ml_X6_24 rfl rfl (Nat.le_of_ble_eq_true rfl) (Nat.le_refl _) (Nat.le_refl _) rfl (Nat.le_of_ble_eq_true rfl) ?_
  refine j_lstore hX dX6_fill_13 15 rfl (by decide) (lv' := [(7, .long v2), (5, .long v1), (0, .ref (gb G 16)), (1, .ref (gb G 1)), (2, .ref (gb G 10)), (3, .int x3), (4, .int x4)]) rfl ?_
  refine j_iconst (v := 0) hX dX6_fill_15 16 rfl (by decide) ?_
  refine j_istore hX dX6_fill_16 18 rfl (by decide) (lv' := [(9, .int 0), (7, .long v2), (5, .long v1), (0, .ref (gb G 16)), (1, .ref (gb G 1)), (2, .ref (gb G 10)), (3, .int x3), (4, .int x4)]) rfl ?_
  refine j_sub [3, 4, 5, 7, 2, 1, 0] rfl ?_
  exact u_X6_fill_18 hX hQ   fu (x4, v1, v2, 0, q_rows, q_sizes) hf
end
