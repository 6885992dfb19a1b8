section
variable {l : Launch} {G : GT} {fr ws : va_W} {kT : Nat} {tA tC tN : Nat → Nat} {tF : Nat → Nat → Int32} {tY : Nat → Int32} {p_female : Nat → Int32} {p_born : Nat → Int32} {p_toldDeath : Nat → Int32} {p_lastYear : Nat → Int32} {p_father : Nat → Int32} {p_mother : Nat → Int32} {p_fatherGrade : Nat → Int32} {p_motherGrade : Nat → Int32} {p_size : Int32} {g_holder : Nat → Int32} {g_arms : Nat → Int32} {g_from : Nat → Int32} {g_size : Int32} {r_marks : Nat → Int32} {r_arms : Int32} {r_root : Int32} {r_steps : Int32} {r_grade : Int32} {r_marksAboveOne : Int32} {q_rows : Nat → Int32} {q_sizes : Nat → Int32} {t_bytes : Nat → Int32} {t_length : Int32} {s_tokens : Nat → Int32} {s_starts : Nat → Int32} {s_size : Int32} {a_code : Nat → Int32} {a_codeSize : Int32} {a_at : Int32} {a_token : Int32} {a_fault : Int32} {a_place : Int32} {o_texts : Nat → Option Nat} {o_names : Nat → Int32} {o_operands : Nat → Int32} {o_size : Int32} {o_open : Int32} {o_refuses : Int32} {o_differs : Int32} {o_fees : Int32} {c_years : Nat → Int32} {c_rows : Nat → Int32} {c_size : Int32} {x_faultPlace : Int32}
def g_X7_isName_17 (s0 : Int32) : Option (Int32) :=
  if isB s0 = true then some s0 else none
set_option maxRecDepth 100000 in
set_option maxHeartbeats 4000000 in
theorem t_X7_isName_17 {Y : YT} {r : Int32}  (hX : CX l G cX7_isName 1 RX7 Y) (hQ : EQi G Y 0 0 .boolean r ws)  (s0 : Int32) (hf : g_X7_isName_17 s0 = some r) : J l G (rmD 1 0 0) Y 0 0 17 [] [.int s0] ws := by
  unfold g_X7_isName_17 at hf
  obtain ⟨hb2, hf⟩ := ign hf
  replace hf := Option.some.inj hf
  subst hf
  exact j_zret hX hQ hb2 dX7_isName_17
def g_X7_isName_16  : Option (Int32) :=
  g_X7_isName_17 0
set_option maxRecDepth 100000 in
set_option maxHeartbeats 4000000 in
theorem t_X7_isName_16 {Y : YT} {r : Int32}  (hX : CX l G cX7_isName 1 RX7 Y) (hQ : EQi G Y 0 0 .boolean r ws)   (hf : g_X7_isName_16  = some r) : J l G (rmD 1 0 0) Y 0 0 16 [] [] ws := by
  unfold g_X7_isName_16 at hf
  refine j_iconst (v := 0) hX dX7_isName_16 17 rfl (by decide) ?_
  exact t_X7_isName_17 hX hQ   0 hf
def f_X7_isName (x0 : Int32) : Option (Int32) :=
  if x0 < 100 then g_X7_isName_16  else if 107 < x0 then g_X7_isName_16  else g_X7_isName_17 1
set_option maxRecDepth 100000 in
set_option maxHeartbeats 4000000 in
theorem t_X7_isName  (x0 : Int32) {r : Int32} (hf : f_X7_isName x0 = some r) : Ci l G 1 0 0 yX7_isName cX7_isName 1 .boolean [.int x0] ws r ws := by
  refine Ci.of (by decide) (Nat.le_of_ble_eq_true rfl) (fun Y hX hQ => ?_)
  refine j_lv (lv' := [(0, .int x0)]) rfl ?_
  unfold f_X7_isName at hf
  refine j_iload_n hX dX7_isName_0 1 rfl 0 rfl rfl ?_
  refine j_bipush (v := 100) hX dX7_isName_1 3 rfl (by decide) ?_
  refine j_icmp_lt hX dX7_isName_3 6 16 rfl rfl (fun h1 => ?_) (fun h1 => ?_)
  · replace hf := itt h1 hf
    refine j_sub [] rfl ?_
    exact t_X7_isName_16 hX hQ    hf
  · replace hf := itf h1 hf
    refine j_iload_n hX dX7_isName_6 7 rfl 0 rfl rfl ?_
    refine j_bipush (v := 107) hX dX7_isName_7 9 rfl (by decide) ?_
    refine j_icmp_gt hX dX7_isName_9 12 16 rfl rfl (fun h3 => ?_) (fun h3 => ?_)
    · replace hf := itt h3 hf
      refine j_sub [] rfl ?_
      exact t_X7_isName_16 hX hQ    hf
    · replace hf := itf h3 hf
      refine j_iconst (v := 1) hX dX7_isName_12 13 rfl (by decide) ?_
      refine j_goto hX dX7_isName_13 17 rfl ?_
      refine j_sub [] rfl ?_
      exact t_X7_isName_17 hX hQ   1 hf
def g_X7_isNumber_12 (s0 : Int32) : Option (Int32) :=
  if isB s0 = true then some s0 else none
set_option maxRecDepth 100000 in
set_option maxHeartbeats 4000000 in
theorem t_X7_isNumber_12 {Y : YT} {r : Int32}  (hX : CX l G cX7_isNumber 1 RX7 Y) (hQ : EQi G Y 0 0 .boolean r ws)  (s0 : Int32) (hf : g_X7_isNumber_12 s0 = some r) : J l G (rmD 1 0 0) Y 0 0 12 [] [.int s0] ws := by
  unfold g_X7_isNumber_12 at hf
  obtain ⟨hb2, hf⟩ := ign hf
  replace hf := Option.some.inj hf
  subst hf
  exact j_zret hX hQ hb2 dX7_isNumber_12
def f_X7_isNumber (x0 : Int32) : Option (Int32) :=
  if x0 < 1000 then g_X7_isNumber_12 0 else g_X7_isNumber_12 1
set_option maxRecDepth 100000 in
set_option maxHeartbeats 4000000 in
theorem t_X7_isNumber  (x0 : Int32) {r : Int32} (hf : f_X7_isNumber x0 = some r) : Ci l G 1 0 0 yX7_isNumber cX7_isNumber 1 .boolean [.int x0] ws r ws := by
  refine Ci.of (by decide) (Nat.le_of_ble_eq_true rfl) (fun Y hX hQ => ?_)
  refine j_lv (lv' := [(0, .int x0)]) rfl ?_
  unfold f_X7_isNumber at hf
  refine j_iload_n hX dX7_isNumber_0 1 rfl 0 rfl rfl ?_
  refine j_sipush (v := 1000) hX dX7_isNumber_1 4 rfl (by decide) ?_
  refine j_icmp_lt hX dX7_isNumber_4 7 11 rfl rfl (fun h1 => ?_) (fun h1 => ?_)
  · replace hf := itt h1 hf
    refine j_iconst (v := 0) hX dX7_isNumber_11 12 rfl (by decide) ?_
    refine j_sub [] rfl ?_
    exact t_X7_isNumber_12 hX hQ   0 hf
  · replace hf := itf h1 hf
    refine j_iconst (v := 1) hX dX7_isNumber_7 8 rfl (by decide) ?_
    refine j_goto hX dX7_isNumber_8 12 rfl ?_
    refine j_sub [] rfl ?_
    exact t_X7_isNumber_12 hX hQ   1 hf
def g_X7_put_40 (s_tokens : Nat → Int32) (s_starts : Nat → Int32) (s_size : Int32) : Option ((Nat → Int32) × (Nat → Int32) × Int32) :=
  some (s_tokens, s_starts, s_size)
set_option maxRecDepth 100000 in
set_option maxHeartbeats 4000000 in
theorem t_X7_put_40 {Y : YT} {r : (Nat → Int32) × (Nat → Int32) × Int32}  (hX : CX l G cX7_put 3 RX7 Y) (hQ : EQv G Y 0 0 (WB G p_female p_born p_toldDeath p_lastYear p_father p_mother p_fatherGrade p_motherGrade p_size g_holder g_arms g_from g_size r_marks r_arms r_root r_steps r_grade r_marksAboveOne q_rows q_sizes t_bytes t_length r.1 r.2.1 r.2.2 a_code a_codeSize a_at a_token a_fault a_place o_texts o_names o_operands o_size o_open o_refuses o_differs o_fees c_years c_rows c_size x_faultPlace ++ fr))   (hf : g_X7_put_40 s_tokens s_starts s_size = some r) : J l G (rmD 1 0 0) Y 0 0 40 [] [] (WB G p_female p_born p_toldDeath p_lastYear p_father p_mother p_fatherGrade p_motherGrade p_size g_holder g_arms g_from g_size r_marks r_arms r_root r_steps r_grade r_marksAboveOne q_rows q_sizes t_bytes t_length s_tokens s_starts s_size a_code a_codeSize a_at a_token a_fault a_place o_texts o_names o_operands o_size o_open o_refuses o_differs o_fees c_years c_rows c_size x_faultPlace ++ fr) := by
  unfold g_X7_put_40 at hf
  replace hf := Option.some.inj hf
  subst hf
  exact j_vret hX hQ dX7_put_40
def f_X7_put (s_tokens : Nat → Int32) (s_starts : Nat → Int32) (s_size : Int32) (x1 : Int32) (x2 : Int32) : Option ((Nat → Int32) × (Nat → Int32) × Int32) :=
  if 401 ≤ s_size then g_X7_put_40 s_tokens s_starts s_size else if inb s_size 401 = true then if inb s_size 401 = true then g_X7_put_40 (upd s_tokens (Int32.toNatClampNeg s_size) x1) (upd s_starts (Int32.toNatClampNeg s_size) x2) (s_size + 1) else none else none
set_option maxRecDepth 100000 in
set_option maxHeartbeats 4000000 in
theorem t_X7_put  (x1 : Int32) (x2 : Int32) {r : (Nat → Int32) × (Nat → Int32) × Int32} (hf : f_X7_put s_tokens s_starts s_size x1 x2 = some r) : Cv l G 1 0 0 yX7_put cX7_put 3 [.ref (gb G 22), .int x1, .int x2] (WB G p_female p_born p_toldDeath p_lastYear p_father p_mother p_fatherGrade p_motherGrade p_size g_holder g_arms g_from g_size r_marks r_arms r_root r_steps r_grade r_marksAboveOne q_rows q_sizes t_bytes t_length s_tokens s_starts s_size a_code a_codeSize a_at a_token a_fault a_place o_texts o_names o_operands o_size o_open o_refuses o_differs o_fees c_years c_rows c_size x_faultPlace ++ fr) (WB G p_female p_born p_toldDeath p_lastYear p_father p_mother p_fatherGrade p_motherGrade p_size g_holder g_arms g_from g_size r_marks r_arms r_root r_steps r_grade r_marksAboveOne q_rows q_sizes t_bytes t_length r.1 r.2.1 r.2.2 a_code a_codeSize a_at a_token a_fault a_place o_texts o_names o_operands o_size o_open o_refuses o_differs o_fees c_years c_rows c_size x_faultPlace ++ fr) := by
  refine Cv.of (by decide) (Nat.le_of_ble_eq_true rfl) (fun Y hX hQ => ?_)
  refine j_lv (lv' := [(0, .ref (gb G 22)), (1, .int x1), (2, .int x2)]) rfl ?_
  unfold f_X7_put at hf
  refine j_aload_n hX dX7_put_0 1 rfl 0 rfl rfl ?_
  refine j_get hX dX7_put_1 4 rfl fg_X7_18 22 rfl rfl ?_
  refine j_sipush (v := 401) hX dX7_put_4 7 rfl (by decide) ?_
  refine j_icmp_ge hX dX7_put_7 10 40 rfl rfl (fun h1 => ?_) (fun h1 => ?_)
  · replace hf := itt h1 hf
    refine j_sub [] rfl ?_
    exact t_X7_put_40 hX hQ    hf
  · replace hf := itf h1 hf
    refine j_aload_n hX dX7_put_10 11 rfl 0 rfl rfl ?_
    refine j_get hX dX7_put_11 14 rfl fg_X7_11 22 rfl rfl ?_
    refine j_aload_n hX dX7_put_14 15 rfl 0 rfl rfl ?_
    refine j_get hX dX7_put_15 18 rfl fg_X7_18 22 rfl rfl ?_
    refine j_iload_n hX dX7_put_18 19 rfl 1 rfl rfl ?_
    obtain ⟨hb2, hf⟩ := ign hf
    refine j_iast hX dX7_put_19 20 rfl 23 rfl hb2 (ws' := (WB G p_female p_born p_toldDeath p_lastYear p_father p_mother p_fatherGrade p_motherGrade p_size g_holder g_arms g_from g_size r_marks r_arms r_root r_steps r_grade r_marksAboveOne q_rows q_sizes t_bytes t_length (upd s_tokens (Int32.toNatClampNeg s_size) x1) s_starts s_size a_code a_codeSize a_at a_token a_fault a_place o_texts o_names o_operands o_size o_open o_refuses o_differs o_fees c_years c_rows c_size x_faultPlace ++ fr)) rfl ?_
    refine j_aload_n hX dX7_put_20 21 rfl 0 rfl rfl ?_
    refine j_get hX dX7_put_21 24 rfl fg_X7_15 22 rfl rfl ?_
    refine j_aload_n hX dX7_put_24 25 rfl 0 rfl rfl ?_
    refine j_get hX dX7_put_25 28 rfl fg_X7_18 22 rfl rfl ?_
    refine j_iload_n hX dX7_put_28 29 rfl 2 rfl rfl ?_
    obtain ⟨hb3, hf⟩ := ign hf
    refine j_iast hX dX7_put_29 30 rfl 24 rfl hb3 (ws' := (WB G p_female p_born p_toldDeath p_lastYear p_father p_mother p_fatherGrade p_motherGrade p_size g_holder g_arms g_from g_size r_marks r_arms r_root r_steps r_grade r_marksAboveOne q_rows q_sizes t_bytes t_length (upd s_tokens (Int32.toNatClampNeg s_size) x1) (upd s_starts (Int32.toNatClampNeg s_size) x2) s_size a_code a_codeSize a_at a_token a_fault a_place o_texts o_names o_operands o_size o_open o_refuses o_differs o_fees c_years c_rows c_size x_faultPlace ++ fr)) rfl ?_
    refine j_aload_n hX dX7_put_30 31 rfl 0 rfl rfl ?_
    refine j_dup hX dX7_put_31 32 rfl rfl ?_
    refine j_get hX dX7_put_32 35 rfl fg_X7_18 22 rfl rfl ?_
    refine j_iconst (v := 1) hX dX7_put_35 36 rfl (by decide) ?_
    refine j_iadd hX dX7_put_36 37 rfl ?_
    refine j_put hX dX7_put_37 40 rfl fg_X7_18 ft_X7_2 22 rfl rfl rfl (Nat.le_of_ble_eq_true rfl) (ws' := (WB G p_female p_born p_toldDeath p_lastYear p_father p_mother p_fatherGrade p_motherGrade p_size g_holder g_arms g_from g_size r_marks r_arms r_root r_steps r_grade r_marksAboveOne q_rows q_sizes t_bytes t_length (upd s_tokens (Int32.toNatClampNeg s_size) x1) (upd s_starts (Int32.toNatClampNeg s_size) x2) (s_size + 1) a_code a_codeSize a_at a_token a_fault a_place o_texts o_names o_operands o_size o_open o_refuses o_differs o_fees c_years c_rows c_size x_faultPlace ++ fr)) rfl ?_
    refine j_sub [] rfl ?_
    exact t_X7_put_40 hX hQ    hf
def g_X7_isLetter_17 (s0 : Int32) : Option (Int32) :=
  if isB s0 = true then some s0 else none
set_option maxRecDepth 100000 in
set_option maxHeartbeats 4000000 in
theorem t_X7_isLetter_17 {Y : YT} {r : Int32}  (hX : CX l G cX7_isLetter 1 RX7 Y) (hQ : EQi G Y 0 0 .boolean r ws)  (s0 : Int32) (hf : g_X7_isLetter_17 s0 = some r) : J l G (rmD 1 0 0) Y 0 0 17 [] [.int s0] ws := by
  unfold g_X7_isLetter_17 at hf
  obtain ⟨hb2, hf⟩ := ign hf
  replace hf := Option.some.inj hf
  subst hf
  exact j_zret hX hQ hb2 dX7_isLetter_17
def g_X7_isLetter_16  : Option (Int32) :=
  g_X7_isLetter_17 0
set_option maxRecDepth 100000 in
set_option maxHeartbeats 4000000 in
theorem t_X7_isLetter_16 {Y : YT} {r : Int32}  (hX : CX l G cX7_isLetter 1 RX7 Y) (hQ : EQi G Y 0 0 .boolean r ws)   (hf : g_X7_isLetter_16  = some r) : J l G (rmD 1 0 0) Y 0 0 16 [] [] ws := by
  unfold g_X7_isLetter_16 at hf
  refine j_iconst (v := 0) hX dX7_isLetter_16 17 rfl (by decide) ?_
  exact t_X7_isLetter_17 hX hQ   0 hf
def f_X7_isLetter (x0 : Int32) : Option (Int32) :=
  if x0 < 97 then g_X7_isLetter_16  else if 122 < x0 then g_X7_isLetter_16  else g_X7_isLetter_17 1
set_option maxRecDepth 100000 in
set_option maxHeartbeats 4000000 in
theorem t_X7_isLetter  (x0 : Int32) {r : Int32} (hf : f_X7_isLetter x0 = some r) : Ci l G 1 0 0 yX7_isLetter cX7_isLetter 1 .boolean [.int x0] ws r ws := by
  refine Ci.of (by decide) (Nat.le_of_ble_eq_true rfl) (fun Y hX hQ => ?_)
  refine j_lv (lv' := [(0, .int x0)]) rfl ?_
  unfold f_X7_isLetter at hf
  refine j_iload_n hX dX7_isLetter_0 1 rfl 0 rfl rfl ?_
  refine j_bipush (v := 97) hX dX7_isLetter_1 3 rfl (by decide) ?_
  refine j_icmp_lt hX dX7_isLetter_3 6 16 rfl rfl (fun h1 => ?_) (fun h1 => ?_)
  · replace hf := itt h1 hf
    refine j_sub [] rfl ?_
    exact t_X7_isLetter_16 hX hQ    hf
  · replace hf := itf h1 hf
    refine j_iload_n hX dX7_isLetter_6 7 rfl 0 rfl rfl ?_
    refine j_bipush (v := 122) hX dX7_isLetter_7 9 rfl (by decide) ?_
    refine j_icmp_gt hX dX7_isLetter_9 12 16 rfl rfl (fun h3 => ?_) (fun h3 => ?_)
    · replace hf := itt h3 hf
      refine j_sub [] rfl ?_
      exact t_X7_isLetter_16 hX hQ    hf
    · replace hf := itf h3 hf
      refine j_iconst (v := 1) hX dX7_isLetter_12 13 rfl (by decide) ?_
      refine j_goto hX dX7_isLetter_13 17 rfl ?_
      refine j_sub [] rfl ?_
      exact t_X7_isLetter_17 hX hQ   1 hf
def g_X7_isDigit_17 (s0 : Int32) : Option (Int32) :=
  if isB s0 = true then some s0 else none
set_option maxRecDepth 100000 in
set_option maxHeartbeats 4000000 in
theorem t_X7_isDigit_17 {Y : YT} {r : Int32}  (hX : CX l G cX7_isDigit 1 RX7 Y) (hQ : EQi G Y 0 0 .boolean r ws)  (s0 : Int32) (hf : g_X7_isDigit_17 s0 = some r) : J l G (rmD 1 0 0) Y 0 0 17 [] [.int s0] ws := by
  unfold g_X7_isDigit_17 at hf
  obtain ⟨hb2, hf⟩ := ign hf
  replace hf := Option.some.inj hf
  subst hf
  exact j_zret hX hQ hb2 dX7_isDigit_17
def g_X7_isDigit_16  : Option (Int32) :=
  g_X7_isDigit_17 0
set_option maxRecDepth 100000 in
set_option maxHeartbeats 4000000 in
theorem t_X7_isDigit_16 {Y : YT} {r : Int32}  (hX : CX l G cX7_isDigit 1 RX7 Y) (hQ : EQi G Y 0 0 .boolean r ws)   (hf : g_X7_isDigit_16  = some r) : J l G (rmD 1 0 0) Y 0 0 16 [] [] ws := by
  unfold g_X7_isDigit_16 at hf
  refine j_iconst (v := 0) hX dX7_isDigit_16 17 rfl (by decide) ?_
  exact t_X7_isDigit_17 hX hQ   0 hf
def f_X7_isDigit (x0 : Int32) : Option (Int32) :=
  if x0 < 48 then g_X7_isDigit_16  else if 57 < x0 then g_X7_isDigit_16  else g_X7_isDigit_17 1
set_option maxRecDepth 100000 in
set_option maxHeartbeats 4000000 in
theorem t_X7_isDigit  (x0 : Int32) {r : Int32} (hf : f_X7_isDigit x0 = some r) : Ci l G 1 0 0 yX7_isDigit cX7_isDigit 1 .boolean [.int x0] ws r ws := by
  refine Ci.of (by decide) (Nat.le_of_ble_eq_true rfl) (fun Y hX hQ => ?_)
  refine j_lv (lv' := [(0, .int x0)]) rfl ?_
  unfold f_X7_isDigit at hf
  refine j_iload_n hX dX7_isDigit_0 1 rfl 0 rfl rfl ?_
  refine j_bipush (v := 48) hX dX7_isDigit_1 3 rfl (by decide) ?_
  refine j_icmp_lt hX dX7_isDigit_3 6 16 rfl rfl (fun h1 => ?_) (fun h1 => ?_)
  · replace hf := itt h1 hf
    refine j_sub [] rfl ?_
    exact t_X7_isDigit_16 hX hQ    hf
  · replace hf := itf h1 hf
    refine j_iload_n hX dX7_isDigit_6 7 rfl 0 rfl rfl ?_
    refine j_bipush (v := 57) hX dX7_isDigit_7 9 rfl (by decide) ?_
    refine j_icmp_gt hX dX7_isDigit_9 12 16 rfl rfl (fun h3 => ?_) (fun h3 => ?_)
    · replace hf := itt h3 hf
      refine j_sub [] rfl ?_
      exact t_X7_isDigit_16 hX hQ    hf
    · replace hf := itf h3 hf
      refine j_iconst (v := 1) hX dX7_isDigit_12 13 rfl (by decide) ?_
      refine j_goto hX dX7_isDigit_13 17 rfl ?_
      refine j_sub [] rfl ?_
      exact t_X7_isDigit_17 hX hQ   1 hf
def g_X7_isSign_47 (s0 : Int32) : Option (Int32) :=
  if isB s0 = true then some s0 else none
set_option maxRecDepth 100000 in
set_option maxHeartbeats 4000000 in
theorem t_X7_isSign_47 {Y : YT} {r : Int32}  (hX : CX l G cX7_isSign 1 RX7 Y) (hQ : EQi G Y 0 0 .boolean r ws)  (s0 : Int32) (hf : g_X7_isSign_47 s0 = some r) : J l G (rmD 1 0 0) Y 0 0 47 [] [.int s0] ws := by
  unfold g_X7_isSign_47 at hf
  obtain ⟨hb2, hf⟩ := ign hf
  replace hf := Option.some.inj hf
  subst hf
  exact j_zret hX hQ hb2 dX7_isSign_47
def g_X7_isSign_42  : Option (Int32) :=
  g_X7_isSign_47 1
set_option maxRecDepth 100000 in
set_option maxHeartbeats 4000000 in
theorem t_X7_isSign_42 {Y : YT} {r : Int32}  (hX : CX l G cX7_isSign 1 RX7 Y) (hQ : EQi G Y 0 0 .boolean r ws)   (hf : g_X7_isSign_42  = some r) : J l G (rmD 1 0 0) Y 0 0 42 [] [] ws := by
  unfold g_X7_isSign_42 at hf
  refine j_iconst (v := 1) hX dX7_isSign_42 43 rfl (by decide) ?_
  refine j_goto hX dX7_isSign_43 47 rfl ?_
  exact t_X7_isSign_47 hX hQ   1 hf
def f_X7_isSign (x0 : Int32) : Option (Int32) :=
  if x0 = 40 then g_X7_isSign_42  else if x0 = 41 then g_X7_isSign_42  else if x0 = 59 then g_X7_isSign_42  else if x0 = 43 then g_X7_isSign_42  else if x0 = 45 then g_X7_isSign_42  else if x0 = 60 then g_X7_isSign_42  else if x0 = 61 then g_X7_isSign_42  else g_X7_isSign_47 0
set_option maxRecDepth 100000 in
set_option maxHeartbeats 4000000 in
theorem t_X7_isSign  (x0 : Int32) {r : Int32} (hf : f_X7_isSign x0 = some r) : Ci l G 1 0 0 yX7_isSign cX7_isSign 1 .boolean [.int x0] ws r ws := by
  refine Ci.of (by decide) (Nat.le_of_ble_eq_true rfl) (fun Y hX hQ => ?_)
  refine j_lv (lv' := [(0, .int x0)]) rfl ?_
  unfold f_X7_isSign at hf
  refine j_iload_n hX dX7_isSign_0 1 rfl 0 rfl rfl ?_
  refine j_bipush (v := 40) hX dX7_isSign_1 3 rfl (by decide) ?_
  refine j_icmp_eq hX dX7_isSign_3 6 42 rfl rfl (fun h1 => ?_) (fun h1 => ?_)
  · replace hf := itt h1 hf
    refine j_sub [] rfl ?_
    exact t_X7_isSign_42 hX hQ    hf
  · replace hf := itf h1 hf
    refine j_iload_n hX dX7_isSign_6 7 rfl 0 rfl rfl ?_
    refine j_bipush (v := 41) hX dX7_isSign_7 9 rfl (by decide) ?_
    refine j_icmp_eq hX dX7_isSign_9 12 42 rfl rfl (fun h3 => ?_) (fun h3 => ?_)
    · replace hf := itt h3 hf
      refine j_sub [] rfl ?_
      exact t_X7_isSign_42 hX hQ    hf
    · replace hf := itf h3 hf
      refine j_iload_n hX dX7_isSign_12 13 rfl 0 rfl rfl ?_
      refine j_bipush (v := 59) hX dX7_isSign_13 15 rfl (by decide) ?_
      refine j_icmp_eq hX dX7_isSign_15 18 42 rfl rfl (fun h4 => ?_) (fun h4 => ?_)
      · replace hf := itt h4 hf
        refine j_sub [] rfl ?_
        exact t_X7_isSign_42 hX hQ    hf
      · replace hf := itf h4 hf
        refine j_iload_n hX dX7_isSign_18 19 rfl 0 rfl rfl ?_
        refine j_bipush (v := 43) hX dX7_isSign_19 21 rfl (by decide) ?_
        refine j_icmp_eq hX dX7_isSign_21 24 42 rfl rfl (fun h5 => ?_) (fun h5 => ?_)
        · replace hf := itt h5 hf
          refine j_sub [] rfl ?_
          exact t_X7_isSign_42 hX hQ    hf
        · replace hf := itf h5 hf
          refine j_iload_n hX dX7_isSign_24 25 rfl 0 rfl rfl ?_
          refine j_bipush (v := 45) hX dX7_isSign_25 27 rfl (by decide) ?_
          refine j_icmp_eq hX dX7_isSign_27 30 42 rfl rfl (fun h6 => ?_) (fun h6 => ?_)
          · replace hf := itt h6 hf
            refine j_sub [] rfl ?_
            exact t_X7_isSign_42 hX hQ    hf
          · replace hf := itf h6 hf
            refine j_iload_n hX dX7_isSign_30 31 rfl 0 rfl rfl ?_
            refine j_bipush (v := 60) hX dX7_isSign_31 33 rfl (by decide) ?_
            refine j_icmp_eq hX dX7_isSign_33 36 42 rfl rfl (fun h7 => ?_) (fun h7 => ?_)
            · replace hf := itt h7 hf
              refine j_sub [] rfl ?_
              exact t_X7_isSign_42 hX hQ    hf
            · replace hf := itf h7 hf
              refine j_iload_n hX dX7_isSign_36 37 rfl 0 rfl rfl ?_
              refine j_bipush (v := 61) hX dX7_isSign_37 39 rfl (by decide) ?_
              refine j_icmp_ne hX dX7_isSign_39 42 46 rfl rfl (fun h8 => ?_) (fun h8 => ?_)
              · replace hf := itf h8 hf
                refine j_iconst (v := 0) hX dX7_isSign_46 47 rfl (by decide) ?_
                refine j_sub [] rfl ?_
                exact t_X7_isSign_47 hX hQ   0 hf
              · replace hf := itt h8 hf
                refine j_sub [] rfl ?_
                exact t_X7_isSign_42 hX hQ    hf
def g_X7_behindDigits_22 (x3 : Int32) : Option (Int32) :=
  some x3
set_option maxRecDepth 100000 in
set_option maxHeartbeats 4000000 in
theorem t_X7_behindDigits_22 {Y : YT} {r : Int32}  (hX : CX l G cX7_behindDigits 4 RX7 Y) (hQ : EQi G Y 0 0 .int r (WB G p_female p_born p_toldDeath p_lastYear p_father p_mother p_fatherGrade p_motherGrade p_size g_holder g_arms g_from g_size r_marks r_arms r_root r_steps r_grade r_marksAboveOne q_rows q_sizes t_bytes t_length s_tokens s_starts s_size a_code a_codeSize a_at a_token a_fault a_place o_texts o_names o_operands o_size o_open o_refuses o_differs o_fees c_years c_rows c_size x_faultPlace ++ fr))  (x3 : Int32) (hf : g_X7_behindDigits_22 x3 = some r) : J l G (rmD 2 0 0) Y 0 0 22 [(3, .int x3)] [] (WB G p_female p_born p_toldDeath p_lastYear p_father p_mother p_fatherGrade p_motherGrade p_size g_holder g_arms g_from g_size r_marks r_arms r_root r_steps r_grade r_marksAboveOne q_rows q_sizes t_bytes t_length s_tokens s_starts s_size a_code a_codeSize a_at a_token a_fault a_place o_texts o_names o_operands o_size o_open o_refuses o_differs o_fees c_years c_rows c_size x_faultPlace ++ fr) := by
  unfold g_X7_behindDigits_22 at hf
  refine j_iload_n hX dX7_behindDigits_22 23 rfl 0 rfl rfl ?_
  replace hf := Option.some.inj hf
  subst hf
  exact j_iret hX hQ dX7_behindDigits_23
def g_X7_behindDigits_2 (t_bytes : Nat → Int32) (k2 : Int32 → Int32 → Option (Int32)) (x2 : Int32) (x3 : Int32) : Option (Int32) :=
  if x2 ≤ x3 then g_X7_behindDigits_22 x3 else if inb x3 400 = true then (f_X7_isDigit (t_bytes (Int32.toNatClampNeg x3))).bind fun v3 => if v3 = 0 then g_X7_behindDigits_22 x3 else k2 x2 (x3 + 1) else none
set_option maxRecDepth 100000 in
set_option maxHeartbeats 4000000 in
theorem t_X7_behindDigits_2 {Y : YT} {r : Int32} {k2 : Int32 → Int32 → Option (Int32)} (hX : CX l G cX7_behindDigits 4 RX7 Y) (hQ : EQi G Y 0 0 .int r (WB G p_female p_born p_toldDeath p_lastYear p_father p_mother p_fatherGrade p_motherGrade p_size g_holder g_arms g_from g_size r_marks r_arms r_root r_steps r_grade r_marksAboveOne q_rows q_sizes t_bytes t_length s_tokens s_starts s_size a_code a_codeSize a_at a_token a_fault a_place o_texts o_names o_operands o_size o_open o_refuses o_differs o_fees c_years c_rows c_size x_faultPlace ++ fr)) (hk2 : ∀ (x2 : Int32) (x3 : Int32), k2 x2 x3  = some r → J l G (rmD 2 0 0) Y 0 0 2 [(0, .ref (gb G 20)), (2, .int x2), (3, .int x3)] [] (WB G p_female p_born p_toldDeath p_lastYear p_father p_mother p_fatherGrade p_motherGrade p_size g_holder g_arms g_from g_size r_marks r_arms r_root r_steps r_grade r_marksAboveOne q_rows q_sizes t_bytes t_length s_tokens s_starts s_size a_code a_codeSize a_at a_token a_fault a_place o_texts o_names o_operands o_size o_open o_refuses o_differs o_fees c_years c_rows c_size x_faultPlace ++ fr)) (x2 : Int32) (x3 : Int32) (hf : g_X7_behindDigits_2 t_bytes k2 x2 x3 = some r) : J l G (rmD 2 0 0) Y 0 0 2 [(0, .ref (gb G 20)), (2, .int x2), (3, .int x3)] [] (WB G p_female p_born p_toldDeath p_lastYear p_father p_mother p_fatherGrade p_motherGrade p_size g_holder g_arms g_from g_size r_marks r_arms r_root r_steps r_grade r_marksAboveOne q_rows q_sizes t_bytes t_length s_tokens s_starts s_size a_code a_codeSize a_at a_token a_fault a_place o_texts o_names o_operands o_size o_open o_refuses o_differs o_fees c_years c_rows c_size x_faultPlace ++ fr) := by
  unfold g_X7_behindDigits_2 at hf
  refine j_iload_n hX dX7_behindDigits_2 3 rfl 2 rfl rfl ?_
  refine j_iload_n hX dX7_behindDigits_3 4 rfl 1 rfl rfl ?_
  refine j_icmp_ge hX dX7_behindDigits_4 7 22 rfl rfl (fun h1 => ?_) (fun h1 => ?_)
  · replace hf := itt h1 hf
    refine j_sub [2] rfl ?_
    exact t_X7_behindDigits_22 hX hQ   x3 hf
  · replace hf := itf h1 hf
    refine j_aload_n hX dX7_behindDigits_7 8 rfl 0 rfl rfl ?_
    refine j_iload_n hX dX7_behindDigits_8 9 rfl 2 rfl rfl ?_
    obtain ⟨hb2, hf⟩ := ign hf
    refine j_bald hX dX7_behindDigits_9 10 rfl 20 rfl hb2 ?_
    obtain ⟨v3, hv3, hf⟩ := ibd hf
    refine z_si (As := [.int (t_bytes (Int32.toNatClampNeg x3))]) (rest := []) hX dX7_behindDigits_10 13 rfl (t_X7_isDigit (t_bytes (Int32.toNatClampNeg x3)) hv3) mc_X7_isDigit ms_X7_isDigit ml_X7_46 (Nat.le_of_ble_eq_true rfl) (Nat.le_refl _) (Nat.le_refl _) rfl (Nat.le_of_ble_eq_true rfl) ?_
    refine j_if_eq hX dX7_behindDigits_13 16 22 rfl rfl (fun h4 => ?_) (fun h4 => ?_)
    · replace hf := itt h4 hf
      refine j_sub [2] rfl ?_
      exact t_X7_behindDigits_22 hX hQ   x3 hf
    · replace hf := itf h4 hf
      refine j_iinc (v := x3 + 1) hX dX7_behindDigits_16 19 rfl 2 rfl rfl (by decide) (lv' := [(3, .int (x3 + 1)), (0, .ref (gb G 20)), (2, .int x2)]) rfl ?_
      refine j_goto hX dX7_behindDigits_19 2 rfl ?_
      refine j_sub [1, 2, 0] rfl ?_
      exact hk2 x2 (x3 + 1) hf
def f_X7_behindDigits_2 (t_bytes : Nat → Int32) : Nat → (Int32 × Int32) → Option (Int32) :=
  lp (fun k v => g_X7_behindDigits_2 t_bytes (fun x2 x3 => k (x2, x3)) v.1 v.2)
set_option maxRecDepth 100000 in
set_option maxHeartbeats 4000000 in
theorem u_X7_behindDigits_2 {Y : YT} {r : Int32}  (hX : CX l G cX7_behindDigits 4 RX7 Y) (hQ : EQi G Y 0 0 .int r (WB G p_female p_born p_toldDeath p_lastYear p_father p_mother p_fatherGrade p_motherGrade p_size g_holder g_arms g_from g_size r_marks r_arms r_root r_steps r_grade r_marksAboveOne q_rows q_sizes t_bytes t_length s_tokens s_starts s_size a_code a_codeSize a_at a_token a_fault a_place o_texts o_names o_operands o_size o_open o_refuses o_differs o_fees c_years c_rows c_size x_faultPlace ++ fr))  (n : Nat) (v : Int32 × Int32) (hf : f_X7_behindDigits_2 t_bytes n v = some r) : J l G (rmD 2 0 0) Y 0 0 2 [(0, .ref (gb G 20)), (2, .int v.1), (3, .int v.2)] [] (WB G p_female p_born p_toldDeath p_lastYear p_father p_mother p_fatherGrade p_motherGrade p_size g_holder g_arms g_from g_size r_marks r_arms r_root r_steps r_grade r_marksAboveOne q_rows q_sizes t_bytes t_length s_tokens s_starts s_size a_code a_codeSize a_at a_token a_fault a_place o_texts o_names o_operands o_size o_open o_refuses o_differs o_fees c_years c_rows c_size x_faultPlace ++ fr) :=
  lp_ind (P := fun v : Int32 × Int32 => J l G (rmD 2 0 0) Y 0 0 2 [(0, .ref (gb G 20)), (2, .int v.1), (3, .int v.2)] [] (WB G p_female p_born p_toldDeath p_lastYear p_father p_mother p_fatherGrade p_motherGrade p_size g_holder g_arms g_from g_size r_marks r_arms r_root r_steps r_grade r_marksAboveOne q_rows q_sizes t_bytes t_length s_tokens s_starts s_size a_code a_codeSize a_at a_token a_fault a_place o_texts o_names o_operands o_size o_open o_refuses o_differs o_fees c_years c_rows c_size x_faultPlace ++ fr)) (fun k hk v hf => t_X7_behindDigits_2 hX hQ   (fun x2 x3 h => hk (x2, x3) h) v.1 v.2 hf) n v hf
def f_X7_behindDigits (fu : Nat) (t_bytes : Nat → Int32) (x1 : Int32) (x2 : Int32) : Option (Int32) :=
  f_X7_behindDigits_2 t_bytes fu (x2, x1)
set_option maxRecDepth 100000 in
set_option maxHeartbeats 4000000 in
theorem t_X7_behindDigits {fu : Nat}  (x1 : Int32) (x2 : Int32) {r : Int32} (hf : f_X7_behindDigits fu t_bytes x1 x2 = some r) : Ci l G 2 0 0 yX7_behindDigits cX7_behindDigits 4 .int [.ref (gb G 20), .int x1, .int x2] (WB G p_female p_born p_toldDeath p_lastYear p_father p_mother p_fatherGrade p_motherGrade p_size g_holder g_arms g_from g_size r_marks r_arms r_root r_steps r_grade r_marksAboveOne q_rows q_sizes t_bytes t_length s_tokens s_starts s_size a_code a_codeSize a_at a_token a_fault a_place o_texts o_names o_operands o_size o_open o_refuses o_differs o_fees c_years c_rows c_size x_faultPlace ++ fr) r (WB G p_female p_born p_toldDeath p_lastYear p_father p_mother p_fatherGrade p_motherGrade p_size g_holder g_arms g_from g_size r_marks r_arms r_root r_steps r_grade r_marksAboveOne q_rows q_sizes t_bytes t_length s_tokens s_starts s_size a_code a_codeSize a_at a_token a_fault a_place o_texts o_names o_operands o_size o_open o_refuses o_differs o_fees c_years c_rows c_size x_faultPlace ++ fr) := by
  refine Ci.of (by decide) (Nat.le_of_ble_eq_true rfl) (fun Y hX hQ => ?_)
  refine j_lv (lv' := [(0, .ref (gb G 20)), (1, .int x1), (2, .int x2)]) rfl ?_
  unfold f_X7_behindDigits at hf
  refine j_iload_n hX dX7_behindDigits_0 1 rfl 1 rfl rfl ?_
  refine j_istore_n hX dX7_behindDigits_1 2 rfl rfl (by decide) (lv' := [(3, .int x1), (0, .ref (gb G 20)), (1, .int x1), (2, .int x2)]) rfl ?_
  refine j_sub [1, 3, 0] rfl ?_
  exact u_X7_behindDigits_2 hX hQ   fu (x2, x1) hf
def g_X7_numberToken_14 (t_bytes : Nat → Int32) (k14 : Int32 → Int32 → Int32 → Option (Int32)) (x2 : Int32) (x3 : Int32) (x4 : Int32) : Option (Int32) :=
  if x2 ≤ x4 then some (1000 + x3) else if inb x4 400 = true then k14 x2 ((x3 * 10) + ((t_bytes (Int32.toNatClampNeg x4)) - 48)) (x4 + 1) else none
set_option maxRecDepth 100000 in
set_option maxHeartbeats 4000000 in
theorem t_X7_numberToken_14 {Y : YT} {r : Int32} {k14 : Int32 → Int32 → Int32 → Option (Int32)} (hX : CX l G cX7_numberToken 5 RX7 Y) (hQ : EQi G Y 0 0 .int r (WB G p_female p_born p_toldDeath p_lastYear p_father p_mother p_fatherGrade p_motherGrade p_size g_holder g_arms g_from g_size r_marks r_arms r_root r_steps r_grade r_marksAboveOne q_rows q_sizes t_bytes t_length s_tokens s_starts s_size a_code a_codeSize a_at a_token a_fault a_place o_texts o_names o_operands o_size o_open o_refuses o_differs o_fees c_years c_rows c_size x_faultPlace ++ fr)) (hk14 : ∀ (x2 : Int32) (x3 : Int32) (x4 : Int32), k14 x2 x3 x4  = some r → J l G (rmD 1 0 0) Y 0 0 14 [(0, .ref (gb G 20)), (2, .int x2), (3, .int x3), (4, .int x4)] [] (WB G p_female p_born p_toldDeath p_lastYear p_father p_mother p_fatherGrade p_motherGrade p_size g_holder g_arms g_from g_size r_marks r_arms r_root r_steps r_grade r_marksAboveOne q_rows q_sizes t_bytes t_length s_tokens s_starts s_size a_code a_codeSize a_at a_token a_fault a_place o_texts o_names o_operands o_size o_open o_refuses o_differs o_fees c_years c_rows c_size x_faultPlace ++ fr)) (x2 : Int32) (x3 : Int32) (x4 : Int32) (hf : g_X7_numberToken_14 t_bytes k14 x2 x3 x4 = some r) : J l G (rmD 1 0 0) Y 0 0 14 [(0, .ref (gb G 20)), (2, .int x2), (3, .int x3), (4, .int x4)] [] (WB G p_female p_born p_toldDeath p_lastYear p_father p_mother p_fatherGrade p_motherGrade p_size g_holder g_arms g_from g_size r_marks r_arms r_root r_steps r_grade r_marksAboveOne q_rows q_sizes t_bytes t_length s_tokens s_starts s_size a_code a_codeSize a_at a_token a_fault a_place o_texts o_names o_operands o_size o_open o_refuses o_differs o_fees c_years c_rows c_size x_faultPlace ++ fr) := by
  unfold g_X7_numberToken_14 at hf
  refine j_iload hX dX7_numberToken_14 16 rfl 3 rfl ?_
  refine j_iload_n hX dX7_numberToken_16 17 rfl 1 rfl rfl ?_
  refine j_icmp_ge hX dX7_numberToken_17 20 39 rfl rfl (fun h2 => ?_) (fun h2 => ?_)
  · replace hf := itt h2 hf
    refine j_sipush (v := 1000) hX dX7_numberToken_39 42 rfl (by decide) ?_
    refine j_iload_n hX dX7_numberToken_42 43 rfl 2 rfl rfl ?_
    refine j_iadd hX dX7_numberToken_43 44 rfl ?_
    replace hf := Option.some.inj hf
    subst hf
    exact j_iret hX hQ dX7_numberToken_44
  · replace hf := itf h2 hf
    refine j_iload_n hX dX7_numberToken_20 21 rfl 2 rfl rfl ?_
    refine j_bipush (v := 10) hX dX7_numberToken_21 23 rfl (by decide) ?_
    refine j_imul hX dX7_numberToken_23 24 rfl ?_
    refine j_aload_n hX dX7_numberToken_24 25 rfl 0 rfl rfl ?_
    refine j_iload hX dX7_numberToken_25 27 rfl 3 rfl ?_
    obtain ⟨hb3, hf⟩ := ign hf
    refine j_bald hX dX7_numberToken_27 28 rfl 20 rfl hb3 ?_
    refine j_bipush (v := 48) hX dX7_numberToken_28 30 rfl (by decide) ?_
    refine j_isub hX dX7_numberToken_30 31 rfl ?_
    refine j_iadd hX dX7_numberToken_31 32 rfl ?_
    refine j_istore_n hX dX7_numberToken_32 33 rfl rfl (by decide) (lv' := [(3, .int ((x3 * 10) + ((t_bytes (Int32.toNatClampNeg x4)) - 48))), (0, .ref (gb G 20)), (2, .int x2), (4, .int x4)]) rfl ?_
    refine j_iinc (v := x4 + 1) hX dX7_numberToken_33 36 rfl 3 rfl rfl (by decide) (lv' := [(4, .int (x4 + 1)), (3, .int ((x3 * 10) + ((t_bytes (Int32.toNatClampNeg x4)) - 48))), (0, .ref (gb G 20)), (2, .int x2)]) rfl ?_
    refine j_goto hX dX7_numberToken_36 14 rfl ?_
    refine j_sub [2, 3, 1, 0] rfl ?_
    exact hk14 x2 ((x3 * 10) + ((t_bytes (Int32.toNatClampNeg x4)) - 48)) (x4 + 1) hf
def f_X7_numberToken_14 (t_bytes : Nat → Int32) : Nat → (Int32 × Int32 × Int32) → Option (Int32) :=
  lp (fun k v => g_X7_numberToken_14 t_bytes (fun x2 x3 x4 => k (x2, x3, x4)) v.1 v.2.1 v.2.2)
set_option maxRecDepth 100000 in
set_option maxHeartbeats 4000000 in
theorem u_X7_numberToken_14 {Y : YT} {r : Int32}  (hX : CX l G cX7_numberToken 5 RX7 Y) (hQ : EQi G Y 0 0 .int r (WB G p_female p_born p_toldDeath p_lastYear p_father p_mother p_fatherGrade p_motherGrade p_size g_holder g_arms g_from g_size r_marks r_arms r_root r_steps r_grade r_marksAboveOne q_rows q_sizes t_bytes t_length s_tokens s_starts s_size a_code a_codeSize a_at a_token a_fault a_place o_texts o_names o_operands o_size o_open o_refuses o_differs o_fees c_years c_rows c_size x_faultPlace ++ fr))  (n : Nat) (v : Int32 × Int32 × Int32) (hf : f_X7_numberToken_14 t_bytes n v = some r) : J l G (rmD 1 0 0) Y 0 0 14 [(0, .ref (gb G 20)), (2, .int v.1), (3, .int v.2.1), (4, .int v.2.2)] [] (WB G p_female p_born p_toldDeath p_lastYear p_father p_mother p_fatherGrade p_motherGrade p_size g_holder g_arms g_from g_size r_marks r_arms r_root r_steps r_grade r_marksAboveOne q_rows q_sizes t_bytes t_length s_tokens s_starts s_size a_code a_codeSize a_at a_token a_fault a_place o_texts o_names o_operands o_size o_open o_refuses o_differs o_fees c_years c_rows c_size x_faultPlace ++ fr) :=
  lp_ind (P := fun v : Int32 × Int32 × Int32 => J l G (rmD 1 0 0) Y 0 0 14 [(0, .ref (gb G 20)), (2, .int v.1), (3, .int v.2.1), (4, .int v.2.2)] [] (WB G p_female p_born p_toldDeath p_lastYear p_father p_mother p_fatherGrade p_motherGrade p_size g_holder g_arms g_from g_size r_marks r_arms r_root r_steps r_grade r_marksAboveOne q_rows q_sizes t_bytes t_length s_tokens s_starts s_size a_code a_codeSize a_at a_token a_fault a_place o_texts o_names o_operands o_size o_open o_refuses o_differs o_fees c_years c_rows c_size x_faultPlace ++ fr)) (fun k hk v hf => t_X7_numberToken_14 hX hQ   (fun x2 x3 x4 h => hk (x2, x3, x4) h) v.1 v.2.1 v.2.2 hf) n v hf
def f_X7_numberToken (fu : Nat) (t_bytes : Nat → Int32) (x1 : Int32) (x2 : Int32) : Option (Int32) :=
  if (x2 - x1) ≤ 4 then f_X7_numberToken_14 t_bytes fu (x2, 0, x1) else some 2
set_option maxRecDepth 100000 in
set_option maxHeartbeats 4000000 in
theorem t_X7_numberToken {fu : Nat}  (x1 : Int32) (x2 : Int32) {r : Int32} (hf : f_X7_numberToken fu t_bytes x1 x2 = some r) : Ci l G 1 0 0 yX7_numberToken cX7_numberToken 5 .int [.ref (gb G 20), .int x1, .int x2] (WB G p_female p_born p_toldDeath p_lastYear p_father p_mother p_fatherGrade p_motherGrade p_size g_holder g_arms g_from g_size r_marks r_arms r_root r_steps r_grade r_marksAboveOne q_rows q_sizes t_bytes t_length s_tokens s_starts s_size a_code a_codeSize a_at a_token a_fault a_place o_texts o_names o_operands o_size o_open o_refuses o_differs o_fees c_years c_rows c_size x_faultPlace ++ fr) r (WB G p_female p_born p_toldDeath p_lastYear p_father p_mother p_fatherGrade p_motherGrade p_size g_holder g_arms g_from g_size r_marks r_arms r_root r_steps r_grade r_marksAboveOne q_rows q_sizes t_bytes t_length s_tokens s_starts s_size a_code a_codeSize a_at a_token a_fault a_place o_texts o_names o_operands o_size o_open o_refuses o_differs o_fees c_years c_rows c_size x_faultPlace ++ fr) := by
  refine Ci.of (by decide) (Nat.le_of_ble_eq_true rfl) (fun Y hX hQ => ?_)
  refine j_lv (lv' := [(0, .ref (gb G 20)), (1, .int x1), (2, .int x2)]) rfl ?_
  unfold f_X7_numberToken at hf
  refine j_iload_n hX dX7_numberToken_0 1 rfl 2 rfl rfl ?_
  refine j_iload_n hX dX7_numberToken_1 2 rfl 1 rfl rfl ?_
  refine j_isub hX dX7_numberToken_2 3 rfl ?_
  refine j_iconst (v := 4) hX dX7_numberToken_3 4 rfl (by decide) ?_
  refine j_icmp_le hX dX7_numberToken_4 7 9 rfl rfl (fun h1 => ?_) (fun h1 => ?_)
  · replace hf := itt h1 hf
    refine j_iconst (v := 0) hX dX7_numberToken_9 10 rfl (by decide) ?_
    refine j_istore_n hX dX7_numberToken_10 11 rfl rfl (by decide) (lv' := [(3, .int 0), (0, .ref (gb G 20)), (1, .int x1), (2, .int x2)]) rfl ?_
    refine j_iload_n hX dX7_numberToken_11 12 rfl 2 rfl rfl ?_
    refine j_istore hX dX7_numberToken_12 14 rfl (by decide) (lv' := [(4, .int x1), (3, .int 0), (0, .ref (gb G 20)), (1, .int x1), (2, .int x2)]) rfl ?_
    refine j_sub [2, 4, 1, 0] rfl ?_
    exact u_X7_numberToken_14 hX hQ   fu (x2, 0, x1) hf
  · replace hf := itf h1 hf
    refine j_iconst (v := 2) hX dX7_numberToken_7 8 rfl (by decide) ?_
    replace hf := Option.some.inj hf
    subst hf
    exact j_iret hX hQ dX7_numberToken_8
def g_X7_behindLetters_22 (x3 : Int32) : Option (Int32) :=
  some x3
set_option maxRecDepth 100000 in
set_option maxHeartbeats 4000000 in
theorem t_X7_behindLetters_22 {Y : YT} {r : Int32}  (hX : CX l G cX7_behindLetters 4 RX7 Y) (hQ : EQi G Y 0 0 .int r (WB G p_female p_born p_toldDeath p_lastYear p_father p_mother p_fatherGrade p_motherGrade p_size g_holder g_arms g_from g_size r_marks r_arms r_root r_steps r_grade r_marksAboveOne q_rows q_sizes t_bytes t_length s_tokens s_starts s_size a_code a_codeSize a_at a_token a_fault a_place o_texts o_names o_operands o_size o_open o_refuses o_differs o_fees c_years c_rows c_size x_faultPlace ++ fr))  (x3 : Int32) (hf : g_X7_behindLetters_22 x3 = some r) : J l G (rmD 2 0 0) Y 0 0 22 [(3, .int x3)] [] (WB G p_female p_born p_toldDeath p_lastYear p_father p_mother p_fatherGrade p_motherGrade p_size g_holder g_arms g_from g_size r_marks r_arms r_root r_steps r_grade r_marksAboveOne q_rows q_sizes t_bytes t_length s_tokens s_starts s_size a_code a_codeSize a_at a_token a_fault a_place o_texts o_names o_operands o_size o_open o_refuses o_differs o_fees c_years c_rows c_size x_faultPlace ++ fr) := by
  unfold g_X7_behindLetters_22 at hf
  refine j_iload_n hX dX7_behindLetters_22 23 rfl 0 rfl rfl ?_
  replace hf := Option.some.inj hf
  subst hf
  exact j_iret hX hQ dX7_behindLetters_23
def g_X7_behindLetters_2 (t_bytes : Nat → Int32) (k2 : Int32 → Int32 → Option (Int32)) (x2 : Int32) (x3 : Int32) : Option (Int32) :=
  if x2 ≤ x3 then g_X7_behindLetters_22 x3 else if inb x3 400 = true then (f_X7_isLetter (t_bytes (Int32.toNatClampNeg x3))).bind fun v3 => if v3 = 0 then g_X7_behindLetters_22 x3 else k2 x2 (x3 + 1) else none
set_option maxRecDepth 100000 in
set_option maxHeartbeats 4000000 in
theorem t_X7_behindLetters_2 {Y : YT} {r : Int32} {k2 : Int32 → Int32 → Option (Int32)} (hX : CX l G cX7_behindLetters 4 RX7 Y) (hQ : EQi G Y 0 0 .int r (WB G p_female p_born p_toldDeath p_lastYear p_father p_mother p_fatherGrade p_motherGrade p_size g_holder g_arms g_from g_size r_marks r_arms r_root r_steps r_grade r_marksAboveOne q_rows q_sizes t_bytes t_length s_tokens s_starts s_size a_code a_codeSize a_at a_token a_fault a_place o_texts o_names o_operands o_size o_open o_refuses o_differs o_fees c_years c_rows c_size x_faultPlace ++ fr)) (hk2 : ∀ (x2 : Int32) (x3 : Int32), k2 x2 x3  = some r → J l G (rmD 2 0 0) Y 0 0 2 [(0, .ref (gb G 20)), (2, .int x2), (3, .int x3)] [] (WB G p_female p_born p_toldDeath p_lastYear p_father p_mother p_fatherGrade p_motherGrade p_size g_holder g_arms g_from g_size r_marks r_arms r_root r_steps r_grade r_marksAboveOne q_rows q_sizes t_bytes t_length s_tokens s_starts s_size a_code a_codeSize a_at a_token a_fault a_place o_texts o_names o_operands o_size o_open o_refuses o_differs o_fees c_years c_rows c_size x_faultPlace ++ fr)) (x2 : Int32) (x3 : Int32) (hf : g_X7_behindLetters_2 t_bytes k2 x2 x3 = some r) : J l G (rmD 2 0 0) Y 0 0 2 [(0, .ref (gb G 20)), (2, .int x2), (3, .int x3)] [] (WB G p_female p_born p_toldDeath p_lastYear p_father p_mother p_fatherGrade p_motherGrade p_size g_holder g_arms g_from g_size r_marks r_arms r_root r_steps r_grade r_marksAboveOne q_rows q_sizes t_bytes t_length s_tokens s_starts s_size a_code a_codeSize a_at a_token a_fault a_place o_texts o_names o_operands o_size o_open o_refuses o_differs o_fees c_years c_rows c_size x_faultPlace ++ fr) := by
  unfold g_X7_behindLetters_2 at hf
  refine j_iload_n hX dX7_behindLetters_2 3 rfl 2 rfl rfl ?_
  refine j_iload_n hX dX7_behindLetters_3 4 rfl 1 rfl rfl ?_
  refine j_icmp_ge hX dX7_behindLetters_4 7 22 rfl rfl (fun h1 => ?_) (fun h1 => ?_)
  · replace hf := itt h1 hf
    refine j_sub [2] rfl ?_
    exact t_X7_behindLetters_22 hX hQ   x3 hf
  · replace hf := itf h1 hf
    refine j_aload_n hX dX7_behindLetters_7 8 rfl 0 rfl rfl ?_
    refine j_iload_n hX dX7_behindLetters_8 9 rfl 2 rfl rfl ?_
    obtain ⟨hb2, hf⟩ := ign hf
    refine j_bald hX dX7_behindLetters_9 10 rfl 20 rfl hb2 ?_
    obtain ⟨v3, hv3, hf⟩ := ibd hf
    refine z_si (As := [.int (t_bytes (Int32.toNatClampNeg x3))]) (rest := []) hX dX7_behindLetters_10 13 rfl (t_X7_isLetter (t_bytes (Int32.toNatClampNeg x3)) hv3) mc_X7_isLetter ms_X7_isLetter ml_X7_36 (Nat.le_of_ble_eq_true rfl) (Nat.le_refl _) (Nat.le_refl _) rfl (Nat.le_of_ble_eq_true rfl) ?_
    refine j_if_eq hX dX7_behindLetters_13 16 22 rfl rfl (fun h4 => ?_) (fun h4 => ?_)
    · replace hf := itt h4 hf
      refine j_sub [2] rfl ?_
      exact t_X7_behindLetters_22 hX hQ   x3 hf
    · replace hf := itf h4 hf
      refine j_iinc (v := x3 + 1) hX dX7_behindLetters_16 19 rfl 2 rfl rfl (by decide) (lv' := [(3, .int (x3 + 1)), (0, .ref (gb G 20)), (2, .int x2)]) rfl ?_
      refine j_goto hX dX7_behindLetters_19 2 rfl ?_
      refine j_sub [1, 2, 0] rfl ?_
      exact hk2 x2 (x3 + 1) hf
def f_X7_behindLetters_2 (t_bytes : Nat → Int32) : Nat → (Int32 × Int32) → Option (Int32) :=
  lp (fun k v => g_X7_behindLetters_2 t_bytes (fun x2 x3 => k (x2, x3)) v.1 v.2)
set_option maxRecDepth 100000 in
set_option maxHeartbeats 4000000 in
theorem u_X7_behindLetters_2 {Y : YT} {r : Int32}  (hX : CX l G cX7_behindLetters 4 RX7 Y) (hQ : EQi G Y 0 0 .int r (WB G p_female p_born p_toldDeath p_lastYear p_father p_mother p_fatherGrade p_motherGrade p_size g_holder g_arms g_from g_size r_marks r_arms r_root r_steps r_grade r_marksAboveOne q_rows q_sizes t_bytes t_length s_tokens s_starts s_size a_code a_codeSize a_at a_token a_fault a_place o_texts o_names o_operands o_size o_open o_refuses o_differs o_fees c_years c_rows c_size x_faultPlace ++ fr))  (n : Nat) (v : Int32 × Int32) (hf : f_X7_behindLetters_2 t_bytes n v = some r) : J l G (rmD 2 0 0) Y 0 0 2 [(0, .ref (gb G 20)), (2, .int v.1), (3, .int v.2)] [] (WB G p_female p_born p_toldDeath p_lastYear p_father p_mother p_fatherGrade p_motherGrade p_size g_holder g_arms g_from g_size r_marks r_arms r_root r_steps r_grade r_marksAboveOne q_rows q_sizes t_bytes t_length s_tokens s_starts s_size a_code a_codeSize a_at a_token a_fault a_place o_texts o_names o_operands o_size o_open o_refuses o_differs o_fees c_years c_rows c_size x_faultPlace ++ fr) :=
  lp_ind (P := fun v : Int32 × Int32 => J l G (rmD 2 0 0) Y 0 0 2 [(0, .ref (gb G 20)), (2, .int v.1), (3, .int v.2)] [] (WB G p_female p_born p_toldDeath p_lastYear p_father p_mother p_fatherGrade p_motherGrade p_size g_holder g_arms g_from g_size r_marks r_arms r_root r_steps r_grade r_marksAboveOne q_rows q_sizes t_bytes t_length s_tokens s_starts s_size a_code a_codeSize a_at a_token a_fault a_place o_texts o_names o_operands o_size o_open o_refuses o_differs o_fees c_years c_rows c_size x_faultPlace ++ fr)) (fun k hk v hf => t_X7_behindLetters_2 hX hQ   (fun x2 x3 h => hk (x2, x3) h) v.1 v.2 hf) n v hf
def f_X7_behindLetters (fu : Nat) (t_bytes : Nat → Int32) (x1 : Int32) (x2 : Int32) : Option (Int32) :=
  f_X7_behindLetters_2 t_bytes fu (x2, x1)
set_option maxRecDepth 100000 in
set_option maxHeartbeats 4000000 in
theorem t_X7_behindLetters {fu : Nat}  (x1 : Int32) (x2 : Int32) {r : Int32} (hf : f_X7_behindLetters fu t_bytes x1 x2 = some r) : Ci l G 2 0 0 yX7_behindLetters cX7_behindLetters 4 .int [.ref (gb G 20), .int x1, .int x2] (WB G p_female p_born p_toldDeath p_lastYear p_father p_mother p_fatherGrade p_motherGrade p_size g_holder g_arms g_from g_size r_marks r_arms r_root r_steps r_grade r_marksAboveOne q_rows q_sizes t_bytes t_length s_tokens s_starts s_size a_code a_codeSize a_at a_token a_fault a_place o_texts o_names o_operands o_size o_open o_refuses o_differs o_fees c_years c_rows c_size x_faultPlace ++ fr) r (WB G p_female p_born p_toldDeath p_lastYear p_father p_mother p_fatherGrade p_motherGrade p_size g_holder g_arms g_from g_size r_marks r_arms r_root r_steps r_grade r_marksAboveOne q_rows q_sizes t_bytes t_length s_tokens s_starts s_size a_code a_codeSize a_at a_token a_fault a_place o_texts o_names o_operands o_size o_open o_refuses o_differs o_fees c_years c_rows c_size x_faultPlace ++ fr) := by
  refine Ci.of (by decide) (Nat.le_of_ble_eq_true rfl) (fun Y hX hQ => ?_)
  refine j_lv (lv' := [(0, .ref (gb G 20)), (1, .int x1), (2, .int x2)]) rfl ?_
  unfold f_X7_behindLetters at hf
  refine j_iload_n hX dX7_behindLetters_0 1 rfl 1 rfl rfl ?_
  refine j_istore_n hX dX7_behindLetters_1 2 rfl rfl (by decide) (lv' := [(3, .int x1), (0, .ref (gb G 20)), (1, .int x1), (2, .int x2)]) rfl ?_
  refine j_sub [1, 3, 0] rfl ?_
  exact u_X7_behindLetters_2 hX hQ   fu (x2, x1) hf
def g_X7_spells_15 (t_bytes : Nat → Int32) (k15 : Int32 → Nat → Int32 → Option (Int32)) (x1 : Int32) (x3 : Nat) (x4 : Int32) : Option (Int32) :=
  (f_J0_length_8abf5 x3).bind fun v3 => if v3 ≤ x4 then some 1 else if inb (x1 + x4) 400 = true then (f_J0_charAt_5068e x3 x4).bind fun v6 => if (t_bytes (Int32.toNatClampNeg (x1 + x4))) = v6 then k15 x1 x3 (x4 + 1) else some 0 else none
set_option maxRecDepth 100000 in
set_option maxHeartbeats 4000000 in
theorem t_X7_spells_15 {Y : YT} {r : Int32} {k15 : Int32 → Nat → Int32 → Option (Int32)} (hX : CX l G cX7_spells 5 RX7 Y) (hQ : EQi G Y 0 0 .boolean r (WB G p_female p_born p_toldDeath p_lastYear p_father p_mother p_fatherGrade p_motherGrade p_size g_holder g_arms g_from g_size r_marks r_arms r_root r_steps r_grade r_marksAboveOne q_rows q_sizes t_bytes t_length s_tokens s_starts s_size a_code a_codeSize a_at a_token a_fault a_place o_texts o_names o_operands o_size o_open o_refuses o_differs o_fees c_years c_rows c_size x_faultPlace ++ fr)) (hk15 : ∀ (x1 : Int32) (x3 : Nat) (x4 : Int32), k15 x1 x3 x4  = some r → J l G (rmD 5 0 0) Y 0 0 15 [(0, .ref (gb G 20)), (1, .int x1), (3, .ref (gsk G x3)), (4, .int x4)] [] (WB G p_female p_born p_toldDeath p_lastYear p_father p_mother p_fatherGrade p_motherGrade p_size g_holder g_arms g_from g_size r_marks r_arms r_root r_steps r_grade r_marksAboveOne q_rows q_sizes t_bytes t_length s_tokens s_starts s_size a_code a_codeSize a_at a_token a_fault a_place o_texts o_names o_operands o_size o_open o_refuses o_differs o_fees c_years c_rows c_size x_faultPlace ++ fr)) (x1 : Int32) (x3 : Nat) (x4 : Int32) (hf : g_X7_spells_15 t_bytes k15 x1 x3 x4 = some r) : J l G (rmD 5 0 0) Y 0 0 15 [(0, .ref (gb G 20)), (1, .int x1), (3, .ref (gsk G x3)), (4, .int x4)] [] (WB G p_female p_born p_toldDeath p_lastYear p_father p_mother p_fatherGrade p_motherGrade p_size g_holder g_arms g_from g_size r_marks r_arms r_root r_steps r_grade r_marksAboveOne q_rows q_sizes t_bytes t_length s_tokens s_starts s_size a_code a_codeSize a_at a_token a_fault a_place o_texts o_names o_operands o_size o_open o_refuses o_differs o_fees c_years c_rows c_size x_faultPlace ++ fr) := by
  unfold g_X7_spells_15 at hf
  refine j_iload hX dX7_spells_15 17 rfl 3 rfl ?_
  refine j_aload_n hX dX7_spells_17 18 rfl 2 rfl rfl ?_
  obtain ⟨v3, hv3, hf⟩ := ibd hf
  refine zO_i (As := []) (rest := [.int x4]) hX dX7_spells_18 21 rfl (t_J0_length_8abf5 x3 hv3) mc_J0_length_8abf5 mv_J0_length_8abf5 ml_X7_93 (strO hX (len_lt hv3).1) (Nat.le_of_ble_eq_true rfl) (Nat.le_refl _) (Nat.le_refl _) rfl (Nat.le_of_ble_eq_true rfl) ?_
  refine j_icmp_ge hX dX7_spells_21 24 47 rfl rfl (fun h4 => ?_) (fun h4 => ?_)
  · replace hf := itt h4 hf
    refine j_iconst (v := 1) hX dX7_spells_47 48 rfl (by decide) ?_
    replace hf := Option.some.inj hf
    subst hf
    exact j_zret hX hQ rfl dX7_spells_48
  · replace hf := itf h4 hf
    refine j_aload_n hX dX7_spells_24 25 rfl 0 rfl rfl ?_
    refine j_iload_n hX dX7_spells_25 26 rfl 1 rfl rfl ?_
    refine j_iload hX dX7_spells_26 28 rfl 3 rfl ?_
    refine j_iadd hX dX7_spells_28 29 rfl ?_
    obtain ⟨hb5, hf⟩ := ign hf
    refine j_bald hX dX7_spells_29 30 rfl 20 rfl hb5 ?_
    refine j_aload_n hX dX7_spells_30 31 rfl 2 rfl rfl ?_
    refine j_iload hX dX7_spells_31 33 rfl 3 rfl ?_
    obtain ⟨v6, hv6, hf⟩ := ibd hf
    refine zO_i (As := [.int x4]) (rest := [.int (t_bytes (Int32.toNatClampNeg (x1 + x4)))]) hX dX7_spells_33 36 rfl (t_J0_charAt_5068e x3 x4 hv6) mc_J0_charAt_5068e mv_J0_charAt_5068e ml_X7_99 (strO hX (chr_lt hv6).1) (Nat.le_of_ble_eq_true rfl) (Nat.le_refl _) (Nat.le_refl _) rfl (Nat.le_of_ble_eq_true rfl) ?_
    refine j_icmp_eq hX dX7_spells_36 39 41 rfl rfl (fun h7 => ?_) (fun h7 => ?_)
    · replace hf := itt h7 hf
      refine j_iinc (v := x4 + 1) hX dX7_spells_41 44 rfl 3 rfl rfl (by decide) (lv' := [(4, .int (x4 + 1)), (0, .ref (gb G 20)), (1, .int x1), (3, .ref (gsk G x3))]) rfl ?_
      refine j_goto hX dX7_spells_44 15 rfl ?_
      refine j_sub [1, 2, 3, 0] rfl ?_
      exact hk15 x1 x3 (x4 + 1) hf
    · replace hf := itf h7 hf
      refine j_iconst (v := 0) hX dX7_spells_39 40 rfl (by decide) ?_
      replace hf := Option.some.inj hf
      subst hf
      exact j_zret hX hQ rfl dX7_spells_40
def f_X7_spells_15 (t_bytes : Nat → Int32) : Nat → (Int32 × Nat × Int32) → Option (Int32) :=
  lp (fun k v => g_X7_spells_15 t_bytes (fun x1 x3 x4 => k (x1, x3, x4)) v.1 v.2.1 v.2.2)
set_option maxRecDepth 100000 in
set_option maxHeartbeats 4000000 in
theorem u_X7_spells_15 {Y : YT} {r : Int32}  (hX : CX l G cX7_spells 5 RX7 Y) (hQ : EQi G Y 0 0 .boolean r (WB G p_female p_born p_toldDeath p_lastYear p_father p_mother p_fatherGrade p_motherGrade p_size g_holder g_arms g_from g_size r_marks r_arms r_root r_steps r_grade r_marksAboveOne q_rows q_sizes t_bytes t_length s_tokens s_starts s_size a_code a_codeSize a_at a_token a_fault a_place o_texts o_names o_operands o_size o_open o_refuses o_differs o_fees c_years c_rows c_size x_faultPlace ++ fr))  (n : Nat) (v : Int32 × Nat × Int32) (hf : f_X7_spells_15 t_bytes n v = some r) : J l G (rmD 5 0 0) Y 0 0 15 [(0, .ref (gb G 20)), (1, .int v.1), (3, .ref (gsk G v.2.1)), (4, .int v.2.2)] [] (WB G p_female p_born p_toldDeath p_lastYear p_father p_mother p_fatherGrade p_motherGrade p_size g_holder g_arms g_from g_size r_marks r_arms r_root r_steps r_grade r_marksAboveOne q_rows q_sizes t_bytes t_length s_tokens s_starts s_size a_code a_codeSize a_at a_token a_fault a_place o_texts o_names o_operands o_size o_open o_refuses o_differs o_fees c_years c_rows c_size x_faultPlace ++ fr) :=
  lp_ind (P := fun v : Int32 × Nat × Int32 => J l G (rmD 5 0 0) Y 0 0 15 [(0, .ref (gb G 20)), (1, .int v.1), (3, .ref (gsk G v.2.1)), (4, .int v.2.2)] [] (WB G p_female p_born p_toldDeath p_lastYear p_father p_mother p_fatherGrade p_motherGrade p_size g_holder g_arms g_from g_size r_marks r_arms r_root r_steps r_grade r_marksAboveOne q_rows q_sizes t_bytes t_length s_tokens s_starts s_size a_code a_codeSize a_at a_token a_fault a_place o_texts o_names o_operands o_size o_open o_refuses o_differs o_fees c_years c_rows c_size x_faultPlace ++ fr)) (fun k hk v hf => t_X7_spells_15 hX hQ   (fun x1 x3 x4 h => hk (x1, x3, x4) h) v.1 v.2.1 v.2.2 hf) n v hf
def f_X7_spells (fu : Nat) (t_bytes : Nat → Int32) (x1 : Int32) (x2 : Int32) (x3 : Nat) : Option (Int32) :=
  (f_J0_length_8abf5 x3).bind fun v1 => if (x2 - x1) = v1 then f_X7_spells_15 t_bytes fu (x1, x3, 0) else some 0
set_option maxRecDepth 100000 in
set_option maxHeartbeats 4000000 in
theorem t_X7_spells {fu : Nat}  (x1 : Int32) (x2 : Int32) (x3 : Nat) {r : Int32} (hf : f_X7_spells fu t_bytes x1 x2 x3 = some r) : Ci l G 5 0 0 yX7_spells cX7_spells 5 .boolean [.ref (gb G 20), .int x1, .int x2, .ref (gsk G x3)] (WB G p_female p_born p_toldDeath p_lastYear p_father p_mother p_fatherGrade p_motherGrade p_size g_holder g_arms g_from g_size r_marks r_arms r_root r_steps r_grade r_marksAboveOne q_rows q_sizes t_bytes t_length s_tokens s_starts s_size a_code a_codeSize a_at a_token a_fault a_place o_texts o_names o_operands o_size o_open o_refuses o_differs o_fees c_years c_rows c_size x_faultPlace ++ fr) r (WB G p_female p_born p_toldDeath p_lastYear p_father p_mother p_fatherGrade p_motherGrade p_size g_holder g_arms g_from g_size r_marks r_arms r_root r_steps r_grade r_marksAboveOne q_rows q_sizes t_bytes t_length s_tokens s_starts s_size a_code a_codeSize a_at a_token a_fault a_place o_texts o_names o_operands o_size o_open o_refuses o_differs o_fees c_years c_rows c_size x_faultPlace ++ fr) := by
  refine Ci.of (by decide) (Nat.le_of_ble_eq_true rfl) (fun Y hX hQ => ?_)
  refine j_lv (lv' := [(0, .ref (gb G 20)), (1, .int x1), (2, .int x2), (3, .ref (gsk G x3))]) rfl ?_
  unfold f_X7_spells at hf
  refine j_iload_n hX dX7_spells_0 1 rfl 2 rfl rfl ?_
  refine j_iload_n hX dX7_spells_1 2 rfl 1 rfl rfl ?_
  refine j_isub hX dX7_spells_2 3 rfl ?_
  refine j_aload_n hX dX7_spells_3 4 rfl 3 rfl rfl ?_
  obtain ⟨v1, hv1, hf⟩ := ibd hf
  refine zO_i (As := []) (rest := [.int (x2 - x1)]) hX dX7_spells_4 7 rfl (t_J0_length_8abf5 x3 hv1) mc_J0_length_8abf5 mv_J0_length_8abf5 ml_X7_93 (strO hX (len_lt hv1).1) (Nat.le_of_ble_eq_true rfl) (Nat.le_refl _) (Nat.le_refl _) rfl (Nat.le_of_ble_eq_true rfl) ?_
  refine j_icmp_eq hX dX7_spells_7 10 12 rfl rfl (fun h2 => ?_) (fun h2 => ?_)
  · replace hf := itt h2 hf
    refine j_iconst (v := 0) hX dX7_spells_12 13 rfl (by decide) ?_
    refine j_istore hX dX7_spells_13 15 rfl (by decide) (lv' := [(4, .int 0), (0, .ref (gb G 20)), (1, .int x1), (2, .int x2), (3, .ref (gsk G x3))]) rfl ?_
    refine j_sub [1, 2, 4, 0] rfl ?_
    exact u_X7_spells_15 hX hQ   fu (x1, x3, 0) hf
  · replace hf := itf h2 hf
    refine j_iconst (v := 0) hX dX7_spells_10 11 rfl (by decide) ?_
    replace hf := Option.some.inj hf
    subst hf
    exact j_zret hX hQ rfl dX7_spells_11
def g_X7_nameToken_115 (s0 : Int32) : Option (Int32) :=
  some s0
set_option maxRecDepth 100000 in
set_option maxHeartbeats 4000000 in
theorem t_X7_nameToken_115 {Y : YT} {r : Int32}  (hX : CX l G cX7_nameToken 3 RX7 Y) (hQ : EQi G Y 0 0 .int r (WB G p_female p_born p_toldDeath p_lastYear p_father p_mother p_fatherGrade p_motherGrade p_size g_holder g_arms g_from g_size r_marks r_arms r_root r_steps r_grade r_marksAboveOne q_rows q_sizes t_bytes t_length s_tokens s_starts s_size a_code a_codeSize a_at a_token a_fault a_place o_texts o_names o_operands o_size o_open o_refuses o_differs o_fees c_years c_rows c_size x_faultPlace ++ fr))  (s0 : Int32) (hf : g_X7_nameToken_115 s0 = some r) : J l G (rmD 6 0 0) Y 0 0 115 [] [.int s0] (WB G p_female p_born p_toldDeath p_lastYear p_father p_mother p_fatherGrade p_motherGrade p_size g_holder g_arms g_from g_size r_marks r_arms r_root r_steps r_grade r_marksAboveOne q_rows q_sizes t_bytes t_length s_tokens s_starts s_size a_code a_codeSize a_at a_token a_fault a_place o_texts o_names o_operands o_size o_open o_refuses o_differs o_fees c_years c_rows c_size x_faultPlace ++ fr) := by
  unfold g_X7_nameToken_115 at hf
  replace hf := Option.some.inj hf
  subst hf
  exact j_iret hX hQ dX7_nameToken_115
def f_X7_nameToken (fu : Nat) (t_bytes : Nat → Int32) (x1 : Int32) (x2 : Int32) : Option (Int32) :=
  (f_X7_spells fu t_bytes x1 x2 9).bind fun v1 => if v1 = 0 then (f_X7_spells fu t_bytes x1 x2 10).bind fun v3 => if v3 = 0 then (f_X7_spells fu t_bytes x1 x2 11).bind fun v5 => if v5 = 0 then (f_X7_spells fu t_bytes x1 x2 12).bind fun v7 => if v7 = 0 then (f_X7_spells fu t_bytes x1 x2 13).bind fun v9 => if v9 = 0 then (f_X7_spells fu t_bytes x1 x2 14).bind fun v11 => if v11 = 0 then (f_X7_spells fu t_bytes x1 x2 15).bind fun v13 => if v13 = 0 then (f_X7_spells fu t_bytes x1 x2 16).bind fun v15 => if v15 = 0 then g_X7_nameToken_115 3 else g_X7_nameToken_115 107 else some 106 else some 105 else some 104 else some 103 else some 102 else some 101 else some 100
set_option maxRecDepth 100000 in
set_option maxHeartbeats 4000000 in
theorem t_X7_nameToken {fu : Nat}  (x1 : Int32) (x2 : Int32) {r : Int32} (hf : f_X7_nameToken fu t_bytes x1 x2 = some r) : Ci l G 6 0 0 yX7_nameToken cX7_nameToken 3 .int [.ref (gb G 20), .int x1, .int x2] (WB G p_female p_born p_toldDeath p_lastYear p_father p_mother p_fatherGrade p_motherGrade p_size g_holder g_arms g_from g_size r_marks r_arms r_root r_steps r_grade r_marksAboveOne q_rows q_sizes t_bytes t_length s_tokens s_starts s_size a_code a_codeSize a_at a_token a_fault a_place o_texts o_names o_operands o_size o_open o_refuses o_differs o_fees c_years c_rows c_size x_faultPlace ++ fr) r (WB G p_female p_born p_toldDeath p_lastYear p_father p_mother p_fatherGrade p_motherGrade p_size g_holder g_arms g_from g_size r_marks r_arms r_root r_steps r_grade r_marksAboveOne q_rows q_sizes t_bytes t_length s_tokens s_starts s_size a_code a_codeSize a_at a_token a_fault a_place o_texts o_names o_operands o_size o_open o_refuses o_differs o_fees c_years c_rows c_size x_faultPlace ++ fr) := by
  refine Ci.of (by decide) (Nat.le_of_ble_eq_true rfl) (fun Y hX hQ => ?_)
  refine j_lv (lv' := [(0, .ref (gb G 20)), (1, .int x1), (2, .int x2)]) rfl ?_
  unfold f_X7_nameToken at hf
  refine j_aload_n hX dX7_nameToken_0 1 rfl 0 rfl rfl ?_
  refine j_iload_n hX dX7_nameToken_1 2 rfl 1 rfl rfl ?_
  refine j_iload_n hX dX7_nameToken_2 3 rfl 2 rfl rfl ?_
  refine j_ldcS (i := 9) (tx := "grade") hX dX7_nameToken_3 5 rfl (by decide +kernel) ?_
  obtain ⟨v1, hv1, hf⟩ := ibd hf
  refine z_si (As := [.ref (gb G 20), .int x1, .int x2, .ref (gsk G 9)]) (rest := []) hX dX7_nameToken_5 8 rfl (t_X7_spells x1 x2 9 hv1) mc_X7_spells ms_X7_spells ml_X7_60 (Nat.le_of_ble_eq_true rfl) (Nat.le_refl _) (Nat.le_refl _) rfl (Nat.le_of_ble_eq_true rfl) ?_
  refine j_if_eq hX dX7_nameToken_8 11 14 rfl rfl (fun h2 => ?_) (fun h2 => ?_)
  · replace hf := itt h2 hf
    refine j_aload_n hX dX7_nameToken_14 15 rfl 0 rfl rfl ?_
    refine j_iload_n hX dX7_nameToken_15 16 rfl 1 rfl rfl ?_
    refine j_iload_n hX dX7_nameToken_16 17 rfl 2 rfl rfl ?_
    refine j_ldcS (i := 10) (tx := "steps") hX dX7_nameToken_17 19 rfl (by decide +kernel) ?_
    obtain ⟨v3, hv3, hf⟩ := ibd hf
    refine z_si (As := [.ref (gb G 20), .int x1, .int x2, .ref (gsk G 10)]) (rest := []) hX dX7_nameToken_19 22 rfl (t_X7_spells x1 x2 10 hv3) mc_X7_spells ms_X7_spells ml_X7_60 (Nat.le_of_ble_eq_true rfl) (Nat.le_refl _) (Nat.le_refl _) rfl (Nat.le_of_ble_eq_true rfl) ?_
    refine j_if_eq hX dX7_nameToken_22 25 28 rfl rfl (fun h4 => ?_) (fun h4 => ?_)
    · replace hf := itt h4 hf
      refine j_aload_n hX dX7_nameToken_28 29 rfl 0 rfl rfl ?_
      refine j_iload_n hX dX7_nameToken_29 30 rfl 1 rfl rfl ?_
      refine j_iload_n hX dX7_nameToken_30 31 rfl 2 rfl rfl ?_
      refine j_ldcS (i := 11) (tx := "year") hX dX7_nameToken_31 33 rfl (by decide +kernel) ?_
      obtain ⟨v5, hv5, hf⟩ := ibd hf
      refine z_si (As := [.ref (gb G 20), .int x1, .int x2, .ref (gsk G 11)]) (rest := []) hX dX7_nameToken_33 36 rfl (t_X7_spells x1 x2 11 hv5) mc_X7_spells ms_X7_spells ml_X7_60 (Nat.le_of_ble_eq_true rfl) (Nat.le_refl _) (Nat.le_refl _) rfl (Nat.le_of_ble_eq_true rfl) ?_
      refine j_if_eq hX dX7_nameToken_36 39 42 rfl rfl (fun h6 => ?_) (fun h6 => ?_)
      · replace hf := itt h6 hf
        refine j_aload_n hX dX7_nameToken_42 43 rfl 0 rfl rfl ?_
        refine j_iload_n hX dX7_nameToken_43 44 rfl 1 rfl rfl ?_
        refine j_iload_n hX dX7_nameToken_44 45 rfl 2 rfl rfl ?_
        refine j_ldcS (i := 12) (tx := "born") hX dX7_nameToken_45 47 rfl (by decide +kernel) ?_
        obtain ⟨v7, hv7, hf⟩ := ibd hf
        refine z_si (As := [.ref (gb G 20), .int x1, .int x2, .ref (gsk G 12)]) (rest := []) hX dX7_nameToken_47 50 rfl (t_X7_spells x1 x2 12 hv7) mc_X7_spells ms_X7_spells ml_X7_60 (Nat.le_of_ble_eq_true rfl) (Nat.le_refl _) (Nat.le_refl _) rfl (Nat.le_of_ble_eq_true rfl) ?_
        refine j_if_eq hX dX7_nameToken_50 53 56 rfl rfl (fun h8 => ?_) (fun h8 => ?_)
        · replace hf := itt h8 hf
          refine j_aload_n hX dX7_nameToken_56 57 rfl 0 rfl rfl ?_
          refine j_iload_n hX dX7_nameToken_57 58 rfl 1 rfl rfl ?_
          refine j_iload_n hX dX7_nameToken_58 59 rfl 2 rfl rfl ?_
          refine j_ldcS (i := 13) (tx := "female") hX dX7_nameToken_59 61 rfl (by decide +kernel) ?_
          obtain ⟨v9, hv9, hf⟩ := ibd hf
          refine z_si (As := [.ref (gb G 20), .int x1, .int x2, .ref (gsk G 13)]) (rest := []) hX dX7_nameToken_61 64 rfl (t_X7_spells x1 x2 13 hv9) mc_X7_spells ms_X7_spells ml_X7_60 (Nat.le_of_ble_eq_true rfl) (Nat.le_refl _) (Nat.le_refl _) rfl (Nat.le_of_ble_eq_true rfl) ?_
          refine j_if_eq hX dX7_nameToken_64 67 70 rfl rfl (fun h10 => ?_) (fun h10 => ?_)
          · replace hf := itt h10 hf
            refine j_aload_n hX dX7_nameToken_70 71 rfl 0 rfl rfl ?_
            refine j_iload_n hX dX7_nameToken_71 72 rfl 1 rfl rfl ?_
            refine j_iload_n hX dX7_nameToken_72 73 rfl 2 rfl rfl ?_
            refine j_ldcS (i := 14) (tx := "marks") hX dX7_nameToken_73 75 rfl (by decide +kernel) ?_
            obtain ⟨v11, hv11, hf⟩ := ibd hf
            refine z_si (As := [.ref (gb G 20), .int x1, .int x2, .ref (gsk G 14)]) (rest := []) hX dX7_nameToken_75 78 rfl (t_X7_spells x1 x2 14 hv11) mc_X7_spells ms_X7_spells ml_X7_60 (Nat.le_of_ble_eq_true rfl) (Nat.le_refl _) (Nat.le_refl _) rfl (Nat.le_of_ble_eq_true rfl) ?_
            refine j_if_eq hX dX7_nameToken_78 81 84 rfl rfl (fun h12 => ?_) (fun h12 => ?_)
            · replace hf := itt h12 hf
              refine j_aload_n hX dX7_nameToken_84 85 rfl 0 rfl rfl ?_
              refine j_iload_n hX dX7_nameToken_85 86 rfl 1 rfl rfl ?_
              refine j_iload_n hX dX7_nameToken_86 87 rfl 2 rfl rfl ?_
              refine j_ldcS (i := 15) (tx := "rivals") hX dX7_nameToken_87 89 rfl (by decide +kernel) ?_
              obtain ⟨v13, hv13, hf⟩ := ibd hf
              refine z_si (As := [.ref (gb G 20), .int x1, .int x2, .ref (gsk G 15)]) (rest := []) hX dX7_nameToken_89 92 rfl (t_X7_spells x1 x2 15 hv13) mc_X7_spells ms_X7_spells ml_X7_60 (Nat.le_of_ble_eq_true rfl) (Nat.le_refl _) (Nat.le_refl _) rfl (Nat.le_of_ble_eq_true rfl) ?_
              refine j_if_eq hX dX7_nameToken_92 95 98 rfl rfl (fun h14 => ?_) (fun h14 => ?_)
              · replace hf := itt h14 hf
                refine j_aload_n hX dX7_nameToken_98 99 rfl 0 rfl rfl ?_
                refine j_iload_n hX dX7_nameToken_99 100 rfl 1 rfl rfl ?_
                refine j_iload_n hX dX7_nameToken_100 101 rfl 2 rfl rfl ?_
                refine j_ldcS (i := 16) (tx := "quarters") hX dX7_nameToken_101 103 rfl (by decide +kernel) ?_
                obtain ⟨v15, hv15, hf⟩ := ibd hf
                refine z_si (As := [.ref (gb G 20), .int x1, .int x2, .ref (gsk G 16)]) (rest := []) hX dX7_nameToken_103 106 rfl (t_X7_spells x1 x2 16 hv15) mc_X7_spells ms_X7_spells ml_X7_60 (Nat.le_of_ble_eq_true rfl) (Nat.le_refl _) (Nat.le_refl _) rfl (Nat.le_of_ble_eq_true rfl) ?_
                refine j_if_eq hX dX7_nameToken_106 109 114 rfl rfl (fun h16 => ?_) (fun h16 => ?_)
                · replace hf := itt h16 hf
                  refine j_iconst (v := 3) hX dX7_nameToken_114 115 rfl (by decide) ?_
                  refine j_sub [] rfl ?_
                  exact t_X7_nameToken_115 hX hQ   3 hf
                · replace hf := itf h16 hf
                  refine j_bipush (v := 107) hX dX7_nameToken_109 111 rfl (by decide) ?_
                  refine j_goto hX dX7_nameToken_111 115 rfl ?_
                  refine j_sub [] rfl ?_
                  exact t_X7_nameToken_115 hX hQ   107 hf
              · replace hf := itf h14 hf
                refine j_bipush (v := 106) hX dX7_nameToken_95 97 rfl (by decide) ?_
                replace hf := Option.some.inj hf
                subst hf
                exact j_iret hX hQ dX7_nameToken_97
            · replace hf := itf h12 hf
              refine j_bipush (v := 105) hX dX7_nameToken_81 83 rfl (by decide) ?_
              replace hf := Option.some.inj hf
              subst hf
              exact j_iret hX hQ dX7_nameToken_83
          · replace hf := itf h10 hf
            refine j_bipush (v := 104) hX dX7_nameToken_67 69 rfl (by decide) ?_
            replace hf := Option.some.inj hf
            subst hf
            exact j_iret hX hQ dX7_nameToken_69
        · replace hf := itf h8 hf
          refine j_bipush (v := 103) hX dX7_nameToken_53 55 rfl (by decide) ?_
          replace hf := Option.some.inj hf
          subst hf
          exact j_iret hX hQ dX7_nameToken_55
      · replace hf := itf h6 hf
        refine j_bipush (v := 102) hX dX7_nameToken_39 41 rfl (by decide) ?_
        replace hf := Option.some.inj hf
        subst hf
        exact j_iret hX hQ dX7_nameToken_41
    · replace hf := itf h4 hf
      refine j_bipush (v := 101) hX dX7_nameToken_25 27 rfl (by decide) ?_
      replace hf := Option.some.inj hf
      subst hf
      exact j_iret hX hQ dX7_nameToken_27
  · replace hf := itf h2 hf
    refine j_bipush (v := 100) hX dX7_nameToken_11 13 rfl (by decide) ?_
    replace hf := Option.some.inj hf
    subst hf
    exact j_iret hX hQ dX7_nameToken_13
def g_X7_wordToken_90 (s0 : Int32) : Option (Int32) :=
  some s0
set_option maxRecDepth 100000 in
set_option maxHeartbeats 4000000 in
theorem t_X7_wordToken_90 {Y : YT} {r : Int32}  (hX : CX l G cX7_wordToken 3 RX7 Y) (hQ : EQi G Y 0 0 .int r (WB G p_female p_born p_toldDeath p_lastYear p_father p_mother p_fatherGrade p_motherGrade p_size g_holder g_arms g_from g_size r_marks r_arms r_root r_steps r_grade r_marksAboveOne q_rows q_sizes t_bytes t_length s_tokens s_starts s_size a_code a_codeSize a_at a_token a_fault a_place o_texts o_names o_operands o_size o_open o_refuses o_differs o_fees c_years c_rows c_size x_faultPlace ++ fr))  (s0 : Int32) (hf : g_X7_wordToken_90 s0 = some r) : J l G (rmD 7 0 0) Y 0 0 90 [] [.int s0] (WB G p_female p_born p_toldDeath p_lastYear p_father p_mother p_fatherGrade p_motherGrade p_size g_holder g_arms g_from g_size r_marks r_arms r_root r_steps r_grade r_marksAboveOne q_rows q_sizes t_bytes t_length s_tokens s_starts s_size a_code a_codeSize a_at a_token a_fault a_place o_texts o_names o_operands o_size o_open o_refuses o_differs o_fees c_years c_rows c_size x_faultPlace ++ fr) := by
  unfold g_X7_wordToken_90 at hf
  replace hf := Option.some.inj hf
  subst hf
  exact j_iret hX hQ dX7_wordToken_90
def f_X7_wordToken (fu : Nat) (t_bytes : Nat → Int32) (x1 : Int32) (x2 : Int32) : Option (Int32) :=
  (f_X7_spells fu t_bytes x1 x2 3).bind fun v1 => if v1 = 0 then (f_X7_spells fu t_bytes x1 x2 4).bind fun v3 => if v3 = 0 then (f_X7_spells fu t_bytes x1 x2 5).bind fun v5 => if v5 = 0 then (f_X7_spells fu t_bytes x1 x2 6).bind fun v7 => if v7 = 0 then (f_X7_spells fu t_bytes x1 x2 7).bind fun v9 => if v9 = 0 then (f_X7_spells fu t_bytes x1 x2 8).bind fun v11 => if v11 = 0 then (f_X7_nameToken fu t_bytes x1 x2).bind fun v13 => g_X7_wordToken_90 v13 else g_X7_wordToken_90 9 else some 8 else some 7 else some 6 else some 5 else some 4
set_option maxRecDepth 100000 in
set_option maxHeartbeats 4000000 in
theorem t_X7_wordToken {fu : Nat}  (x1 : Int32) (x2 : Int32) {r : Int32} (hf : f_X7_wordToken fu t_bytes x1 x2 = some r) : Ci l G 7 0 0 yX7_wordToken cX7_wordToken 3 .int [.ref (gb G 20), .int x1, .int x2] (WB G p_female p_born p_toldDeath p_lastYear p_father p_mother p_fatherGrade p_motherGrade p_size g_holder g_arms g_from g_size r_marks r_arms r_root r_steps r_grade r_marksAboveOne q_rows q_sizes t_bytes t_length s_tokens s_starts s_size a_code a_codeSize a_at a_token a_fault a_place o_texts o_names o_operands o_size o_open o_refuses o_differs o_fees c_years c_rows c_size x_faultPlace ++ fr) r (WB G p_female p_born p_toldDeath p_lastYear p_father p_mother p_fatherGrade p_motherGrade p_size g_holder g_arms g_from g_size r_marks r_arms r_root r_steps r_grade r_marksAboveOne q_rows q_sizes t_bytes t_length s_tokens s_starts s_size a_code a_codeSize a_at a_token a_fault a_place o_texts o_names o_operands o_size o_open o_refuses o_differs o_fees c_years c_rows c_size x_faultPlace ++ fr) := by
  refine Ci.of (by decide) (Nat.le_of_ble_eq_true rfl) (fun Y hX hQ => ?_)
  refine j_lv (lv' := [(0, .ref (gb G 20)), (1, .int x1), (2, .int x2)]) rfl ?_
  unfold f_X7_wordToken at hf
  refine j_aload_n hX dX7_wordToken_0 1 rfl 0 rfl rfl ?_
  refine j_iload_n hX dX7_wordToken_1 2 rfl 1 rfl rfl ?_
  refine j_iload_n hX dX7_wordToken_2 3 rfl 2 rfl rfl ?_
  refine j_ldcS (i := 3) (tx := "refuse") hX dX7_wordToken_3 5 rfl (by decide +kernel) ?_
  obtain ⟨v1, hv1, hf⟩ := ibd hf
  refine z_si (As := [.ref (gb G 20), .int x1, .int x2, .ref (gsk G 3)]) (rest := []) hX dX7_wordToken_5 8 rfl (t_X7_spells x1 x2 3 hv1) mc_X7_spells ms_X7_spells ml_X7_60 (Nat.le_of_ble_eq_true rfl) (Nat.le_refl _) (Nat.le_refl _) rfl (Nat.le_of_ble_eq_true rfl) ?_
  refine j_if_eq hX dX7_wordToken_8 11 13 rfl rfl (fun h2 => ?_) (fun h2 => ?_)
  · replace hf := itt h2 hf
    refine j_aload_n hX dX7_wordToken_13 14 rfl 0 rfl rfl ?_
    refine j_iload_n hX dX7_wordToken_14 15 rfl 1 rfl rfl ?_
    refine j_iload_n hX dX7_wordToken_15 16 rfl 2 rfl rfl ?_
    refine j_ldcS (i := 4) (tx := "differ") hX dX7_wordToken_16 18 rfl (by decide +kernel) ?_
    obtain ⟨v3, hv3, hf⟩ := ibd hf
    refine z_si (As := [.ref (gb G 20), .int x1, .int x2, .ref (gsk G 4)]) (rest := []) hX dX7_wordToken_18 21 rfl (t_X7_spells x1 x2 4 hv3) mc_X7_spells ms_X7_spells ml_X7_60 (Nat.le_of_ble_eq_true rfl) (Nat.le_refl _) (Nat.le_refl _) rfl (Nat.le_of_ble_eq_true rfl) ?_
    refine j_if_eq hX dX7_wordToken_21 24 26 rfl rfl (fun h4 => ?_) (fun h4 => ?_)
    · replace hf := itt h4 hf
      refine j_aload_n hX dX7_wordToken_26 27 rfl 0 rfl rfl ?_
      refine j_iload_n hX dX7_wordToken_27 28 rfl 1 rfl rfl ?_
      refine j_iload_n hX dX7_wordToken_28 29 rfl 2 rfl rfl ?_
      refine j_ldcS (i := 5) (tx := "fee") hX dX7_wordToken_29 31 rfl (by decide +kernel) ?_
      obtain ⟨v5, hv5, hf⟩ := ibd hf
      refine z_si (As := [.ref (gb G 20), .int x1, .int x2, .ref (gsk G 5)]) (rest := []) hX dX7_wordToken_31 34 rfl (t_X7_spells x1 x2 5 hv5) mc_X7_spells ms_X7_spells ml_X7_60 (Nat.le_of_ble_eq_true rfl) (Nat.le_refl _) (Nat.le_refl _) rfl (Nat.le_of_ble_eq_true rfl) ?_
      refine j_if_eq hX dX7_wordToken_34 37 40 rfl rfl (fun h6 => ?_) (fun h6 => ?_)
      · replace hf := itt h6 hf
        refine j_aload_n hX dX7_wordToken_40 41 rfl 0 rfl rfl ?_
        refine j_iload_n hX dX7_wordToken_41 42 rfl 1 rfl rfl ?_
        refine j_iload_n hX dX7_wordToken_42 43 rfl 2 rfl rfl ?_
        refine j_ldcS (i := 6) (tx := "and") hX dX7_wordToken_43 45 rfl (by decide +kernel) ?_
        obtain ⟨v7, hv7, hf⟩ := ibd hf
        refine z_si (As := [.ref (gb G 20), .int x1, .int x2, .ref (gsk G 6)]) (rest := []) hX dX7_wordToken_45 48 rfl (t_X7_spells x1 x2 6 hv7) mc_X7_spells ms_X7_spells ml_X7_60 (Nat.le_of_ble_eq_true rfl) (Nat.le_refl _) (Nat.le_refl _) rfl (Nat.le_of_ble_eq_true rfl) ?_
        refine j_if_eq hX dX7_wordToken_48 51 54 rfl rfl (fun h8 => ?_) (fun h8 => ?_)
        · replace hf := itt h8 hf
          refine j_aload_n hX dX7_wordToken_54 55 rfl 0 rfl rfl ?_
          refine j_iload_n hX dX7_wordToken_55 56 rfl 1 rfl rfl ?_
          refine j_iload_n hX dX7_wordToken_56 57 rfl 2 rfl rfl ?_
          refine j_ldcS (i := 7) (tx := "or") hX dX7_wordToken_57 59 rfl (by decide +kernel) ?_
          obtain ⟨v9, hv9, hf⟩ := ibd hf
          refine z_si (As := [.ref (gb G 20), .int x1, .int x2, .ref (gsk G 7)]) (rest := []) hX dX7_wordToken_59 62 rfl (t_X7_spells x1 x2 7 hv9) mc_X7_spells ms_X7_spells ml_X7_60 (Nat.le_of_ble_eq_true rfl) (Nat.le_refl _) (Nat.le_refl _) rfl (Nat.le_of_ble_eq_true rfl) ?_
          refine j_if_eq hX dX7_wordToken_62 65 68 rfl rfl (fun h10 => ?_) (fun h10 => ?_)
          · replace hf := itt h10 hf
            refine j_aload_n hX dX7_wordToken_68 69 rfl 0 rfl rfl ?_
            refine j_iload_n hX dX7_wordToken_69 70 rfl 1 rfl rfl ?_
            refine j_iload_n hX dX7_wordToken_70 71 rfl 2 rfl rfl ?_
            refine j_ldcS (i := 8) (tx := "not") hX dX7_wordToken_71 73 rfl (by decide +kernel) ?_
            obtain ⟨v11, hv11, hf⟩ := ibd hf
            refine z_si (As := [.ref (gb G 20), .int x1, .int x2, .ref (gsk G 8)]) (rest := []) hX dX7_wordToken_73 76 rfl (t_X7_spells x1 x2 8 hv11) mc_X7_spells ms_X7_spells ml_X7_60 (Nat.le_of_ble_eq_true rfl) (Nat.le_refl _) (Nat.le_refl _) rfl (Nat.le_of_ble_eq_true rfl) ?_
            refine j_if_eq hX dX7_wordToken_76 79 84 rfl rfl (fun h12 => ?_) (fun h12 => ?_)
            · replace hf := itt h12 hf
              refine j_aload_n hX dX7_wordToken_84 85 rfl 0 rfl rfl ?_
              refine j_iload_n hX dX7_wordToken_85 86 rfl 1 rfl rfl ?_
              refine j_iload_n hX dX7_wordToken_86 87 rfl 2 rfl rfl ?_
              obtain ⟨v13, hv13, hf⟩ := ibd hf
              refine z_si (As := [.ref (gb G 20), .int x1, .int x2]) (rest := []) hX dX7_wordToken_87 90 rfl (t_X7_nameToken x1 x2 hv13) mc_X7_nameToken ms_X7_nameToken ml_X7_74 (Nat.le_of_ble_eq_true rfl) (Nat.le_refl _) (Nat.le_refl _) rfl (Nat.le_of_ble_eq_true rfl) ?_
              refine j_sub [] rfl ?_
              exact t_X7_wordToken_90 hX hQ   v13 hf
            · replace hf := itf h12 hf
              refine j_bipush (v := 9) hX dX7_wordToken_79 81 rfl (by decide) ?_
              refine j_goto hX dX7_wordToken_81 90 rfl ?_
              refine j_sub [] rfl ?_
              exact t_X7_wordToken_90 hX hQ   9 hf
          · replace hf := itf h10 hf
            refine j_bipush (v := 8) hX dX7_wordToken_65 67 rfl (by decide) ?_
            replace hf := Option.some.inj hf
            subst hf
            exact j_iret hX hQ dX7_wordToken_67
        · replace hf := itf h8 hf
          refine j_bipush (v := 7) hX dX7_wordToken_51 53 rfl (by decide) ?_
          replace hf := Option.some.inj hf
          subst hf
          exact j_iret hX hQ dX7_wordToken_53
      · replace hf := itf h6 hf
        refine j_bipush (v := 6) hX dX7_wordToken_37 39 rfl (by decide) ?_
        replace hf := Option.some.inj hf
        subst hf
        exact j_iret hX hQ dX7_wordToken_39
    · replace hf := itf h4 hf
      refine j_iconst (v := 5) hX dX7_wordToken_24 25 rfl (by decide) ?_
      replace hf := Option.some.inj hf
      subst hf
      exact j_iret hX hQ dX7_wordToken_25
  · replace hf := itf h2 hf
    refine j_iconst (v := 4) hX dX7_wordToken_11 12 rfl (by decide) ?_
    replace hf := Option.some.inj hf
    subst hf
    exact j_iret hX hQ dX7_wordToken_12
def g_X7_scanOne_19 (s_tokens : Nat → Int32) (s_starts : Nat → Int32) (s_size : Int32) (x2 : Int32) : Option (Int32 × (Nat → Int32) × (Nat → Int32) × Int32) :=
  some (x2 + 1, s_tokens, s_starts, s_size)
set_option maxRecDepth 100000 in
set_option maxHeartbeats 4000000 in
theorem t_X7_scanOne_19 {Y : YT} {r : Int32 × (Nat → Int32) × (Nat → Int32) × Int32}  (hX : CX l G cX7_scanOne 6 RX7 Y) (hQ : EQi G Y 0 0 .int r.1 (WB G p_female p_born p_toldDeath p_lastYear p_father p_mother p_fatherGrade p_motherGrade p_size g_holder g_arms g_from g_size r_marks r_arms r_root r_steps r_grade r_marksAboveOne q_rows q_sizes t_bytes t_length r.2.1 r.2.2.1 r.2.2.2 a_code a_codeSize a_at a_token a_fault a_place o_texts o_names o_operands o_size o_open o_refuses o_differs o_fees c_years c_rows c_size x_faultPlace ++ fr))  (x2 : Int32) (hf : g_X7_scanOne_19 s_tokens s_starts s_size x2 = some r) : J l G (rmD 8 0 0) Y 0 0 19 [(2, .int x2)] [] (WB G p_female p_born p_toldDeath p_lastYear p_father p_mother p_fatherGrade p_motherGrade p_size g_holder g_arms g_from g_size r_marks r_arms r_root r_steps r_grade r_marksAboveOne q_rows q_sizes t_bytes t_length s_tokens s_starts s_size a_code a_codeSize a_at a_token a_fault a_place o_texts o_names o_operands o_size o_open o_refuses o_differs o_fees c_years c_rows c_size x_faultPlace ++ fr) := by
  unfold g_X7_scanOne_19 at hf
  refine j_iload_n hX dX7_scanOne_19 20 rfl 0 rfl rfl ?_
  refine j_iconst (v := 1) hX dX7_scanOne_20 21 rfl (by decide) ?_
  refine j_iadd hX dX7_scanOne_21 22 rfl ?_
  replace hf := Option.some.inj hf
  subst hf
  exact j_iret hX hQ dX7_scanOne_22
def g_X7_scanOne_100 (s_tokens : Nat → Int32) (s_starts : Nat → Int32) (s_size : Int32) (x2 : Int32) (s0 : Int32) : Option (Int32 × (Nat → Int32) × (Nat → Int32) × Int32) :=
  (f_X7_put s_tokens s_starts s_size s0 x2).bind fun v10 => some (x2 + 1, v10.1, v10.2.1, v10.2.2)
set_option maxRecDepth 100000 in
set_option maxHeartbeats 4000000 in
theorem t_X7_scanOne_100 {Y : YT} {r : Int32 × (Nat → Int32) × (Nat → Int32) × Int32}  (hX : CX l G cX7_scanOne 6 RX7 Y) (hQ : EQi G Y 0 0 .int r.1 (WB G p_female p_born p_toldDeath p_lastYear p_father p_mother p_fatherGrade p_motherGrade p_size g_holder g_arms g_from g_size r_marks r_arms r_root r_steps r_grade r_marksAboveOne q_rows q_sizes t_bytes t_length r.2.1 r.2.2.1 r.2.2.2 a_code a_codeSize a_at a_token a_fault a_place o_texts o_names o_operands o_size o_open o_refuses o_differs o_fees c_years c_rows c_size x_faultPlace ++ fr))  (x2 : Int32) (s0 : Int32) (hf : g_X7_scanOne_100 s_tokens s_starts s_size x2 s0 = some r) : J l G (rmD 8 0 0) Y 0 0 100 [(2, .int x2)] [.int s0, .ref (gb G 22)] (WB G p_female p_born p_toldDeath p_lastYear p_father p_mother p_fatherGrade p_motherGrade p_size g_holder g_arms g_from g_size r_marks r_arms r_root r_steps r_grade r_marksAboveOne q_rows q_sizes t_bytes t_length s_tokens s_starts s_size a_code a_codeSize a_at a_token a_fault a_place o_texts o_names o_operands o_size o_open o_refuses o_differs o_fees c_years c_rows c_size x_faultPlace ++ fr) := by
  unfold g_X7_scanOne_100 at hf
  refine j_iload_n hX dX7_scanOne_100 101 rfl 0 rfl rfl ?_
  obtain ⟨v10, hv10, hf⟩ := ibd hf
  refine z_v (As := [.int s0, .int x2]) (rest := []) (q0 := 22) hX dX7_scanOne_101 104 rfl (t_X7_put s0 x2 hv10) mc_X7_put mv_X7_put ml_X7_32 rfl rfl (Nat.le_of_ble_eq_true rfl) (Nat.le_refl _) (Nat.le_refl _) rfl (Nat.le_of_ble_eq_true rfl) ?_
  refine j_iload_n hX dX7_scanOne_104 105 rfl 0 rfl rfl ?_
  refine j_iconst (v := 1) hX dX7_scanOne_105 106 rfl (by decide) ?_
  refine j_iadd hX dX7_scanOne_106 107 rfl ?_
  replace hf := Option.some.inj hf
  subst hf
  exact j_iret hX hQ dX7_scanOne_107
def f_X7_scanOne (fu : Nat) (t_bytes : Nat → Int32) (s_tokens : Nat → Int32) (s_starts : Nat → Int32) (s_size : Int32) (x2 : Int32) (x3 : Int32) : Option (Int32 × (Nat → Int32) × (Nat → Int32) × Int32) :=
  if inb x2 400 = true then if (t_bytes (Int32.toNatClampNeg x2)) = 32 then g_X7_scanOne_19 s_tokens s_starts s_size x2 else if (t_bytes (Int32.toNatClampNeg x2)) = 10 then g_X7_scanOne_19 s_tokens s_starts s_size x2 else (f_X7_isLetter (t_bytes (Int32.toNatClampNeg x2))).bind fun v4 => if v4 = 0 then (f_X7_isDigit (t_bytes (Int32.toNatClampNeg x2))).bind fun v6 => if v6 = 0 then (f_X7_isSign (t_bytes (Int32.toNatClampNeg x2))).bind fun v8 => if v8 = 0 then g_X7_scanOne_100 s_tokens s_starts s_size x2 1 else g_X7_scanOne_100 s_tokens s_starts s_size x2 (t_bytes (Int32.toNatClampNeg x2)) else (f_X7_behindDigits fu t_bytes x2 x3).bind fun v11 => (f_X7_numberToken fu t_bytes x2 v11).bind fun v12 => (f_X7_put s_tokens s_starts s_size v12 x2).bind fun v13 => some (v11, v13.1, v13.2.1, v13.2.2) else (f_X7_behindLetters fu t_bytes x2 x3).bind fun v14 => (f_X7_wordToken fu t_bytes x2 v14).bind fun v15 => (f_X7_put s_tokens s_starts s_size v15 x2).bind fun v16 => some (v14, v16.1, v16.2.1, v16.2.2) else none
set_option maxRecDepth 100000 in
set_option maxHeartbeats 4000000 in
theorem t_X7_scanOne {fu : Nat}  (x2 : Int32) (x3 : Int32) {r : Int32 × (Nat → Int32) × (Nat → Int32) × Int32} (hf : f_X7_scanOne fu t_bytes s_tokens s_starts s_size x2 x3 = some r) : Ci l G 8 0 0 yX7_scanOne cX7_scanOne 6 .int [.ref (gb G 22), .ref (gb G 20), .int x2, .int x3] (WB G p_female p_born p_toldDeath p_lastYear p_father p_mother p_fatherGrade p_motherGrade p_size g_holder g_arms g_from g_size r_marks r_arms r_root r_steps r_grade r_marksAboveOne q_rows q_sizes t_bytes t_length s_tokens s_starts s_size a_code a_codeSize a_at a_token a_fault a_place o_texts o_names o_operands o_size o_open o_refuses o_differs o_fees c_years c_rows c_size x_faultPlace ++ fr) r.1 (WB G p_female p_born p_toldDeath p_lastYear p_father p_mother p_fatherGrade p_motherGrade p_size g_holder g_arms g_from g_size r_marks r_arms r_root r_steps r_grade r_marksAboveOne q_rows q_sizes t_bytes t_length r.2.1 r.2.2.1 r.2.2.2 a_code a_codeSize a_at a_token a_fault a_place o_texts o_names o_operands o_size o_open o_refuses o_differs o_fees c_years c_rows c_size x_faultPlace ++ fr) := by
  refine Ci.of (by decide) (Nat.le_of_ble_eq_true rfl) (fun Y hX hQ => ?_)
  refine j_lv (lv' := [(0, .ref (gb G 22)), (1, .ref (gb G 20)), (2, .int x2), (3, .int x3)]) rfl ?_
  unfold f_X7_scanOne at hf
  refine j_aload_n hX dX7_scanOne_0 1 rfl 1 rfl rfl ?_
  refine j_iload_n hX dX7_scanOne_1 2 rfl 2 rfl rfl ?_
  obtain ⟨hb1, hf⟩ := ign hf
  refine j_bald hX dX7_scanOne_2 3 rfl 20 rfl hb1 ?_
  refine j_istore hX dX7_scanOne_3 5 rfl (by decide) (lv' := [(4, .int (t_bytes (Int32.toNatClampNeg x2))), (0, .ref (gb G 22)), (1, .ref (gb G 20)), (2, .int x2), (3, .int x3)]) rfl ?_
  refine j_iload hX dX7_scanOne_5 7 rfl 0 rfl ?_
  refine j_bipush (v := 32) hX dX7_scanOne_7 9 rfl (by decide) ?_
  refine j_icmp_eq hX dX7_scanOne_9 12 19 rfl rfl (fun h2 => ?_) (fun h2 => ?_)
  · replace hf := itt h2 hf
    refine j_sub [3] rfl ?_
    exact t_X7_scanOne_19 hX hQ   x2 hf
  · replace hf := itf h2 hf
    refine j_iload hX dX7_scanOne_12 14 rfl 0 rfl ?_
    refine j_bipush (v := 10) hX dX7_scanOne_14 16 rfl (by decide) ?_
    refine j_icmp_ne hX dX7_scanOne_16 19 23 rfl rfl (fun h3 => ?_) (fun h3 => ?_)
    · replace hf := itf h3 hf
      refine j_iload hX dX7_scanOne_23 25 rfl 0 rfl ?_
      obtain ⟨v4, hv4, hf⟩ := ibd hf
      refine z_si (As := [.int (t_bytes (Int32.toNatClampNeg x2))]) (rest := []) hX dX7_scanOne_25 28 rfl (t_X7_isLetter (t_bytes (Int32.toNatClampNeg x2)) hv4) mc_X7_isLetter ms_X7_isLetter ml_X7_36 (Nat.le_of_ble_eq_true rfl) (Nat.le_refl _) (Nat.le_refl _) rfl (Nat.le_of_ble_eq_true rfl) ?_
      refine j_if_eq hX dX7_scanOne_28 31 54 rfl rfl (fun h5 => ?_) (fun h5 => ?_)
      · replace hf := itt h5 hf
        refine j_iload hX dX7_scanOne_54 56 rfl 0 rfl ?_
        obtain ⟨v6, hv6, hf⟩ := ibd hf
        refine z_si (As := [.int (t_bytes (Int32.toNatClampNeg x2))]) (rest := []) hX dX7_scanOne_56 59 rfl (t_X7_isDigit (t_bytes (Int32.toNatClampNeg x2)) hv6) mc_X7_isDigit ms_X7_isDigit ml_X7_46 (Nat.le_of_ble_eq_true rfl) (Nat.le_refl _) (Nat.le_refl _) rfl (Nat.le_of_ble_eq_true rfl) ?_
        refine j_if_eq hX dX7_scanOne_59 62 85 rfl rfl (fun h7 => ?_) (fun h7 => ?_)
        · replace hf := itt h7 hf
          refine j_aload_n hX dX7_scanOne_85 86 rfl 1 rfl rfl ?_
          refine j_iload hX dX7_scanOne_86 88 rfl 0 rfl ?_
          obtain ⟨v8, hv8, hf⟩ := ibd hf
          refine z_si (As := [.int (t_bytes (Int32.toNatClampNeg x2))]) (rest := [.ref (gb G 22)]) hX dX7_scanOne_88 91 rfl (t_X7_isSign (t_bytes (Int32.toNatClampNeg x2)) hv8) mc_X7_isSign ms_X7_isSign ml_X7_55 (Nat.le_of_ble_eq_true rfl) (Nat.le_refl _) (Nat.le_refl _) rfl (Nat.le_of_ble_eq_true rfl) ?_
          refine j_if_eq hX dX7_scanOne_91 94 99 rfl rfl (fun h9 => ?_) (fun h9 => ?_)
          · replace hf := itt h9 hf
            refine j_iconst (v := 1) hX dX7_scanOne_99 100 rfl (by decide) ?_
            refine j_sub [3] rfl ?_
            exact t_X7_scanOne_100 hX hQ   x2 1 hf
          · replace hf := itf h9 hf
            refine j_iload hX dX7_scanOne_94 96 rfl 0 rfl ?_
            refine j_goto hX dX7_scanOne_96 100 rfl ?_
            refine j_sub [3] rfl ?_
            exact t_X7_scanOne_100 hX hQ   x2 (t_bytes (Int32.toNatClampNeg x2)) hf
        · replace hf := itf h7 hf
          refine j_aload_n hX dX7_scanOne_62 63 rfl 2 rfl rfl ?_
          refine j_iload_n hX dX7_scanOne_63 64 rfl 3 rfl rfl ?_
          refine j_iload_n hX dX7_scanOne_64 65 rfl 4 rfl rfl ?_
          obtain ⟨v11, hv11, hf⟩ := ibd hf
          refine z_si (As := [.ref (gb G 20), .int x2, .int x3]) (rest := []) hX dX7_scanOne_65 68 rfl (t_X7_behindDigits x2 x3 hv11) mc_X7_behindDigits ms_X7_behindDigits ml_X7_49 (Nat.le_of_ble_eq_true rfl) (Nat.le_refl _) (Nat.le_refl _) rfl (Nat.le_of_ble_eq_true rfl) ?_
          refine j_istore hX dX7_scanOne_68 70 rfl (by decide) (lv' := [(5, .int v11), (4, .int (t_bytes (Int32.toNatClampNeg x2))), (0, .ref (gb G 22)), (1, .ref (gb G 20)), (2, .int x2), (3, .int x3)]) rfl ?_
          refine j_aload_n hX dX7_scanOne_70 71 rfl 2 rfl rfl ?_
          refine j_aload_n hX dX7_scanOne_71 72 rfl 3 rfl rfl ?_
          refine j_iload_n hX dX7_scanOne_72 73 rfl 4 rfl rfl ?_
          refine j_iload hX dX7_scanOne_73 75 rfl 0 rfl ?_
          obtain ⟨v12, hv12, hf⟩ := ibd hf
          refine z_si (As := [.ref (gb G 20), .int x2, .int v11]) (rest := [.ref (gb G 22)]) hX dX7_scanOne_75 78 rfl (t_X7_numberToken x2 v11 hv12) mc_X7_numberToken ms_X7_numberToken ml_X7_52 (Nat.le_of_ble_eq_true rfl) (Nat.le_refl _) (Nat.le_refl _) rfl (Nat.le_of_ble_eq_true rfl) ?_
          refine j_iload_n hX dX7_scanOne_78 79 rfl 4 rfl rfl ?_
          obtain ⟨v13, hv13, hf⟩ := ibd hf
          refine z_v (As := [.int v12, .int x2]) (rest := []) (q0 := 22) hX dX7_scanOne_79 82 rfl (t_X7_put v12 x2 hv13) mc_X7_put mv_X7_put ml_X7_32 rfl rfl (Nat.le_of_ble_eq_true rfl) (Nat.le_refl _) (Nat.le_refl _) rfl (Nat.le_of_ble_eq_true rfl) ?_
          refine j_iload hX dX7_scanOne_82 84 rfl 0 rfl ?_
          replace hf := Option.some.inj hf
          subst hf
          exact j_iret hX hQ dX7_scanOne_84
      · replace hf := itf h5 hf
        refine j_aload_n hX dX7_scanOne_31 32 rfl 2 rfl rfl ?_
        refine j_iload_n hX dX7_scanOne_32 33 rfl 3 rfl rfl ?_
        refine j_iload_n hX dX7_scanOne_33 34 rfl 4 rfl rfl ?_
        obtain ⟨v14, hv14, hf⟩ := ibd hf
        refine z_si (As := [.ref (gb G 20), .int x2, .int x3]) (rest := []) hX dX7_scanOne_34 37 rfl (t_X7_behindLetters x2 x3 hv14) mc_X7_behindLetters ms_X7_behindLetters ml_X7_40 (Nat.le_of_ble_eq_true rfl) (Nat.le_refl _) (Nat.le_refl _) rfl (Nat.le_of_ble_eq_true rfl) ?_
        refine j_istore hX dX7_scanOne_37 39 rfl (by decide) (lv' := [(5, .int v14), (4, .int (t_bytes (Int32.toNatClampNeg x2))), (0, .ref (gb G 22)), (1, .ref (gb G 20)), (2, .int x2), (3, .int x3)]) rfl ?_
        refine j_aload_n hX dX7_scanOne_39 40 rfl 2 rfl rfl ?_
        refine j_aload_n hX dX7_scanOne_40 41 rfl 3 rfl rfl ?_
        refine j_iload_n hX dX7_scanOne_41 42 rfl 4 rfl rfl ?_
        refine j_iload hX dX7_scanOne_42 44 rfl 0 rfl ?_
        obtain ⟨v15, hv15, hf⟩ := ibd hf
        refine z_si (As := [.ref (gb G 20), .int x2, .int v14]) (rest := [.ref (gb G 22)]) hX dX7_scanOne_44 47 rfl (t_X7_wordToken x2 v14 hv15) mc_X7_wordToken ms_X7_wordToken ml_X7_43 (Nat.le_of_ble_eq_true rfl) (Nat.le_refl _) (Nat.le_refl _) rfl (Nat.le_of_ble_eq_true rfl) ?_
        refine j_iload_n hX dX7_scanOne_47 48 rfl 4 rfl rfl ?_
        obtain ⟨v16, hv16, hf⟩ := ibd hf
        refine z_v (As := [.int v15, .int x2]) (rest := []) (q0 := 22) hX dX7_scanOne_48 51 rfl (t_X7_put v15 x2 hv16) mc_X7_put mv_X7_put ml_X7_32 rfl rfl (Nat.le_of_ble_eq_true rfl) (Nat.le_refl _) (Nat.le_refl _) rfl (Nat.le_of_ble_eq_true rfl) ?_
        refine j_iload hX dX7_scanOne_51 53 rfl 0 rfl ?_
        replace hf := Option.some.inj hf
        subst hf
        exact j_iret hX hQ dX7_scanOne_53
    · replace hf := itt h3 hf
      refine j_sub [3] rfl ?_
      exact t_X7_scanOne_19 hX hQ   x2 hf
def g_X7_scan_48 (s_tokens : Nat → Int32) (s_starts : Nat → Int32) (s_size : Int32) (x3 : Int32) : Option ((Nat → Int32) × (Nat → Int32) × Int32) :=
  (f_X7_put s_tokens s_starts s_size 0 x3).bind fun v2 => some (v2.1, v2.2.1, v2.2.2)
set_option maxRecDepth 100000 in
set_option maxHeartbeats 4000000 in
theorem t_X7_scan_48 {Y : YT} {r : (Nat → Int32) × (Nat → Int32) × Int32}  (hX : CX l G cX7_scan 6 RX7 Y) (hQ : EQv G Y 0 0 (WB G p_female p_born p_toldDeath p_lastYear p_father p_mother p_fatherGrade p_motherGrade p_size g_holder g_arms g_from g_size r_marks r_arms r_root r_steps r_grade r_marksAboveOne q_rows q_sizes t_bytes t_length r.1 r.2.1 r.2.2 a_code a_codeSize a_at a_token a_fault a_place o_texts o_names o_operands o_size o_open o_refuses o_differs o_fees c_years c_rows c_size x_faultPlace ++ fr))  (x3 : Int32) (hf : g_X7_scan_48 s_tokens s_starts s_size x3 = some r) : J l G (rmD 9 0 0) Y 0 0 48 [(0, .ref (gb G 22)), (3, .int x3)] [] (WB G p_female p_born p_toldDeath p_lastYear p_father p_mother p_fatherGrade p_motherGrade p_size g_holder g_arms g_from g_size r_marks r_arms r_root r_steps r_grade r_marksAboveOne q_rows q_sizes t_bytes t_length s_tokens s_starts s_size a_code a_codeSize a_at a_token a_fault a_place o_texts o_names o_operands o_size o_open o_refuses o_differs o_fees c_years c_rows c_size x_faultPlace ++ fr) := by
  unfold g_X7_scan_48 at hf
  refine j_aload_n hX dX7_scan_48 49 rfl 0 rfl rfl ?_
  refine j_iconst (v := 0) hX dX7_scan_49 50 rfl (by decide) ?_
  refine j_iload_n hX dX7_scan_50 51 rfl 1 rfl rfl ?_
  obtain ⟨v2, hv2, hf⟩ := ibd hf
  refine z_v (As := [.int 0, .int x3]) (rest := []) (q0 := 22) hX dX7_scan_51 54 rfl (t_X7_put 0 x3 hv2) mc_X7_put mv_X7_put ml_X7_32 rfl rfl (Nat.le_of_ble_eq_true rfl) (Nat.le_refl _) (Nat.le_refl _) rfl (Nat.le_of_ble_eq_true rfl) ?_
  replace hf := Option.some.inj hf
  subst hf
  exact j_vret hX hQ dX7_scan_54
def g_X7_scan_18 (fu : Nat) (t_bytes : Nat → Int32) (s_tokens : Nat → Int32) (s_starts : Nat → Int32) (s_size : Int32) (k18 : Int32 → Int32 → Int32 → (Nat → Int32) → (Nat → Int32) → Int32 → Option ((Nat → Int32) × (Nat → Int32) × Int32)) (x3 : Int32) (x4 : Int32) (x5 : Int32) : Option ((Nat → Int32) × (Nat → Int32) × Int32) :=
  if 400 ≤ x5 then g_X7_scan_48 s_tokens s_starts s_size x3 else if x3 ≤ x4 then g_X7_scan_48 s_tokens s_starts s_size x3 else (f_X7_scanOne fu t_bytes s_tokens s_starts s_size x4 x3).bind fun v4 => k18 x3 v4.1 (x5 + 1) v4.2.1 v4.2.2.1 v4.2.2.2
set_option maxRecDepth 100000 in
set_option maxHeartbeats 4000000 in
theorem t_X7_scan_18 {fu : Nat} {Y : YT} {r : (Nat → Int32) × (Nat → Int32) × Int32} {k18 : Int32 → Int32 → Int32 → (Nat → Int32) → (Nat → Int32) → Int32 → Option ((Nat → Int32) × (Nat → Int32) × Int32)} (hX : CX l G cX7_scan 6 RX7 Y) (hQ : EQv G Y 0 0 (WB G p_female p_born p_toldDeath p_lastYear p_father p_mother p_fatherGrade p_motherGrade p_size g_holder g_arms g_from g_size r_marks r_arms r_root r_steps r_grade r_marksAboveOne q_rows q_sizes t_bytes t_length r.1 r.2.1 r.2.2 a_code a_codeSize a_at a_token a_fault a_place o_texts o_names o_operands o_size o_open o_refuses o_differs o_fees c_years c_rows c_size x_faultPlace ++ fr)) (hk18 : ∀ (x3 : Int32) (x4 : Int32) (x5 : Int32) (s_tokens : Nat → Int32) (s_starts : Nat → Int32) (s_size : Int32), k18 x3 x4 x5 s_tokens s_starts s_size = some r → J l G (rmD 9 0 0) Y 0 0 18 [(0, .ref (gb G 22)), (1, .ref (gb G 20)), (3, .int x3), (4, .int x4), (5, .int x5)] [] (WB G p_female p_born p_toldDeath p_lastYear p_father p_mother p_fatherGrade p_motherGrade p_size g_holder g_arms g_from g_size r_marks r_arms r_root r_steps r_grade r_marksAboveOne q_rows q_sizes t_bytes t_length s_tokens s_starts s_size a_code a_codeSize a_at a_token a_fault a_place o_texts o_names o_operands o_size o_open o_refuses o_differs o_fees c_years c_rows c_size x_faultPlace ++ fr)) (x3 : Int32) (x4 : Int32) (x5 : Int32) (hf : g_X7_scan_18 fu t_bytes s_tokens s_starts s_size k18 x3 x4 x5 = some r) : J l G (rmD 9 0 0) Y 0 0 18 [(0, .ref (gb G 22)), (1, .ref (gb G 20)), (3, .int x3), (4, .int x4), (5, .int x5)] [] (WB G p_female p_born p_toldDeath p_lastYear p_father p_mother p_fatherGrade p_motherGrade p_size g_holder g_arms g_from g_size r_marks r_arms r_root r_steps r_grade r_marksAboveOne q_rows q_sizes t_bytes t_length s_tokens s_starts s_size a_code a_codeSize a_at a_token a_fault a_place o_texts o_names o_operands o_size o_open o_refuses o_differs o_fees c_years c_rows c_size x_faultPlace ++ fr) := by
  unfold g_X7_scan_18 at hf
  refine j_iload hX dX7_scan_18 20 rfl 4 rfl ?_
  refine j_sipush (v := 400) hX dX7_scan_20 23 rfl (by decide) ?_
  refine j_icmp_ge hX dX7_scan_23 26 48 rfl rfl (fun h1 => ?_) (fun h1 => ?_)
  · replace hf := itt h1 hf
    refine j_sub [0, 2] rfl ?_
    exact t_X7_scan_48 hX hQ   x3 hf
  · replace hf := itf h1 hf
    refine j_iload hX dX7_scan_26 28 rfl 3 rfl ?_
    refine j_iload_n hX dX7_scan_28 29 rfl 2 rfl rfl ?_
    refine j_icmp_ge hX dX7_scan_29 32 48 rfl rfl (fun h3 => ?_) (fun h3 => ?_)
    · replace hf := itt h3 hf
      refine j_sub [0, 2] rfl ?_
      exact t_X7_scan_48 hX hQ   x3 hf
    · replace hf := itf h3 hf
      refine j_aload_n hX dX7_scan_32 33 rfl 0 rfl rfl ?_
      refine j_aload_n hX dX7_scan_33 34 rfl 1 rfl rfl ?_
      refine j_iload hX dX7_scan_34 36 rfl 3 rfl ?_
      refine j_iload_n hX dX7_scan_36 37 rfl 2 rfl rfl ?_
      obtain ⟨v4, hv4, hf⟩ := ibd hf
      refine z_i (As := [.ref (gb G 20), .int x4, .int x3]) (rest := []) (q0 := 22) hX dX7_scan_37 40 rfl (t_X7_scanOne x4 x3 hv4) mc_X7_scanOne mv_X7_scanOne ml_X7_28 rfl rfl (Nat.le_of_ble_eq_true rfl) (Nat.le_refl _) (Nat.le_refl _) rfl (Nat.le_of_ble_eq_true rfl) ?_
      refine j_istore hX dX7_scan_40 42 rfl (by decide) (lv' := [(4, .int v4.1), (0, .ref (gb G 22)), (1, .ref (gb G 20)), (3, .int x3), (5, .int x5)]) rfl ?_
      refine j_iinc (v := x5 + 1) hX dX7_scan_42 45 rfl 4 rfl rfl (by decide) (lv' := [(5, .int (x5 + 1)), (4, .int v4.1), (0, .ref (gb G 22)), (1, .ref (gb G 20)), (3, .int x3)]) rfl ?_
      refine j_goto hX dX7_scan_45 18 rfl ?_
      refine j_sub [2, 3, 4, 1, 0] rfl ?_
      exact hk18 x3 v4.1 (x5 + 1) v4.2.1 v4.2.2.1 v4.2.2.2 hf
def f_X7_scan_18 (fu : Nat) (t_bytes : Nat → Int32) : Nat → (Int32 × Int32 × Int32 × (Nat → Int32) × (Nat → Int32) × Int32) → Option ((Nat → Int32) × (Nat → Int32) × Int32) :=
  lp (fun k v => g_X7_scan_18 fu t_bytes v.2.2.2.1 v.2.2.2.2.1 v.2.2.2.2.2 (fun x3 x4 x5 s_tokens s_starts s_size => k (x3, x4, x5, s_tokens, s_starts, s_size)) v.1 v.2.1 v.2.2.1)
set_option maxRecDepth 100000 in
set_option maxHeartbeats 4000000 in
theorem u_X7_scan_18 {fu : Nat} {Y : YT} {r : (Nat → Int32) × (Nat → Int32) × Int32}  (hX : CX l G cX7_scan 6 RX7 Y) (hQ : EQv G Y 0 0 (WB G p_female p_born p_toldDeath p_lastYear p_father p_mother p_fatherGrade p_motherGrade p_size g_holder g_arms g_from g_size r_marks r_arms r_root r_steps r_grade r_marksAboveOne q_rows q_sizes t_bytes t_length r.1 r.2.1 r.2.2 a_code a_codeSize a_at a_token a_fault a_place o_texts o_names o_operands o_size o_open o_refuses o_differs o_fees c_years c_rows c_size x_faultPlace ++ fr))  (n : Nat) (v : Int32 × Int32 × Int32 × (Nat → Int32) × (Nat → Int32) × Int32) (hf : f_X7_scan_18 fu t_bytes n v = some r) : J l G (rmD 9 0 0) Y 0 0 18 [(0, .ref (gb G 22)), (1, .ref (gb G 20)), (3, .int v.1), (4, .int v.2.1), (5, .int v.2.2.1)] [] (WB G p_female p_born p_toldDeath p_lastYear p_father p_mother p_fatherGrade p_motherGrade p_size g_holder g_arms g_from g_size r_marks r_arms r_root r_steps r_grade r_marksAboveOne q_rows q_sizes t_bytes t_length v.2.2.2.1 v.2.2.2.2.1 v.2.2.2.2.2 a_code a_codeSize a_at a_token a_fault a_place o_texts o_names o_operands o_size o_open o_refuses o_differs o_fees c_years c_rows c_size x_faultPlace ++ fr) :=
  lp_ind (P := fun v : Int32 × Int32 × Int32 × (Nat → Int32) × (Nat → Int32) × Int32 => J l G (rmD 9 0 0) Y 0 0 18 [(0, .ref (gb G 22)), (1, .ref (gb G 20)), (3, .int v.1), (4, .int v.2.1), (5, .int v.2.2.1)] [] (WB G p_female p_born p_toldDeath p_lastYear p_father p_mother p_fatherGrade p_motherGrade p_size g_holder g_arms g_from g_size r_marks r_arms r_root r_steps r_grade r_marksAboveOne q_rows q_sizes t_bytes t_length v.2.2.2.1 v.2.2.2.2.1 v.2.2.2.2.2 a_code a_codeSize a_at a_token a_fault a_place o_texts o_names o_operands o_size o_open o_refuses o_differs o_fees c_years c_rows c_size x_faultPlace ++ fr)) (fun k hk v hf => t_X7_scan_18 hX hQ   (fun x3 x4 x5 s_tokens s_starts s_size h => hk (x3, x4, x5, s_tokens, s_starts, s_size) h) v.1 v.2.1 v.2.2.1 hf) n v hf
def f_X7_scan (fu : Nat) (t_bytes : Nat → Int32) (s_tokens : Nat → Int32) (s_starts : Nat → Int32) (x2 : Int32) : Option ((Nat → Int32) × (Nat → Int32) × Int32) :=
  f_X7_scan_18 fu t_bytes fu (min32 x2 400, 0, 0, s_tokens, s_starts, 0)
set_option maxRecDepth 100000 in
set_option maxHeartbeats 4000000 in
theorem t_X7_scan {fu : Nat}  (x2 : Int32) {r : (Nat → Int32) × (Nat → Int32) × Int32} (hf : f_X7_scan fu t_bytes s_tokens s_starts x2 = some r) : Cv l G 9 0 0 yX7_scan cX7_scan 6 [.ref (gb G 22), .ref (gb G 20), .int x2] (WB G p_female p_born p_toldDeath p_lastYear p_father p_mother p_fatherGrade p_motherGrade p_size g_holder g_arms g_from g_size r_marks r_arms r_root r_steps r_grade r_marksAboveOne q_rows q_sizes t_bytes t_length s_tokens s_starts s_size a_code a_codeSize a_at a_token a_fault a_place o_texts o_names o_operands o_size o_open o_refuses o_differs o_fees c_years c_rows c_size x_faultPlace ++ fr) (WB G p_female p_born p_toldDeath p_lastYear p_father p_mother p_fatherGrade p_motherGrade p_size g_holder g_arms g_from g_size r_marks r_arms r_root r_steps r_grade r_marksAboveOne q_rows q_sizes t_bytes t_length r.1 r.2.1 r.2.2 a_code a_codeSize a_at a_token a_fault a_place o_texts o_names o_operands o_size o_open o_refuses o_differs o_fees c_years c_rows c_size x_faultPlace ++ fr) := by
  refine Cv.of (by decide) (Nat.le_of_ble_eq_true rfl) (fun Y hX hQ => ?_)
  refine j_lv (lv' := [(0, .ref (gb G 22)), (1, .ref (gb G 20)), (2, .int x2)]) rfl ?_
  unfold f_X7_scan at hf
  refine j_aload_n hX dX7_scan_0 1 rfl 0 rfl rfl ?_
  refine j_iconst (v := 0) hX dX7_scan_1 2 rfl (by decide) ?_
  refine j_put hX dX7_scan_2 5 rfl fg_X7_18 ft_X7_2 22 rfl rfl rfl (Nat.le_of_ble_eq_true rfl) (ws' := (WB G p_female p_born p_toldDeath p_lastYear p_father p_mother p_fatherGrade p_motherGrade p_size g_holder g_arms g_from g_size r_marks r_arms r_root r_steps r_grade r_marksAboveOne q_rows q_sizes t_bytes t_length s_tokens s_starts 0 a_code a_codeSize a_at a_token a_fault a_place o_texts o_names o_operands o_size o_open o_refuses o_differs o_fees c_years c_rows c_size x_faultPlace ++ fr)) rfl ?_
  refine j_iload_n hX dX7_scan_5 6 rfl 2 rfl rfl ?_
  refine j_aload_n hX dX7_scan_6 7 rfl 1 rfl rfl ?_
  refine j_alen (n := 0) (v := 400) hX dX7_scan_7 8 rfl 20 2 rfl rfl rfl ?_
  refine j_min (rest := []) hX dX7_scan_8 11 rfl mm_X7_22 (Nat.le_of_ble_eq_true rfl) (Nat.le_of_ble_eq_true rfl) (Nat.le_refl _) (Nat.le_refl _) ?_
  refine j_istore_n hX dX7_scan_11 12 rfl rfl (by decide) (lv' := [(3, .int (min32 x2 400)), (0, .ref (gb G 22)), (1, .ref (gb G 20)), (2, .int x2)]) rfl ?_
  refine j_iconst (v := 0) hX dX7_scan_12 13 rfl (by decide) ?_
  refine j_istore hX dX7_scan_13 15 rfl (by decide) (lv' := [(4, .int 0), (3, .int (min32 x2 400)), (0, .ref (gb G 22)), (1, .ref (gb G 20)), (2, .int x2)]) rfl ?_
  refine j_iconst (v := 0) hX dX7_scan_15 16 rfl (by decide) ?_
  refine j_istore hX dX7_scan_16 18 rfl (by decide) (lv' := [(5, .int 0), (4, .int 0), (3, .int (min32 x2 400)), (0, .ref (gb G 22)), (1, .ref (gb G 20)), (2, .int x2)]) rfl ?_
  refine j_sub [3, 4, 2, 1, 0] rfl ?_
  exact u_X7_scan_18 hX hQ   fu (min32 x2 400, 0, 0, s_tokens, s_starts, 0) hf
end
