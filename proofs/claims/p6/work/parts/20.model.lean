section
variable {l : Launch} {G : GT} {fr ws : va_W} {kT : Nat} {tA tC tN : Nat → Nat} {tF : Nat → Nat → Int32} {tY : Nat → Int32} {m_code : Int32} {m_people : Int32} {m_grants : Int32} {m_texts : Int32} {m_copies : Int32} {m_taped : Int32} {m_faultPlace : Int32} {m_isFemale : Nat → Int32} {m_born : Nat → Int32} {m_died : Nat → Int32} {m_father : Nat → Int32} {m_mother : Nat → Int32} {m_fatherGrade : Nat → Int32} {m_motherGrade : Nat → Int32} {m_grantTo : Nat → Int32} {m_grantArms : Nat → Int32} {m_grantYear : Nat → Int32} {m_copyYear : Nat → Int32} {m_copyRow : Nat → Int32} {m_tape : Nat → Int32} {m_textYear : Nat → Int32} {m_ruleMany : Nat → Int32} {m_ruleFrom : Nat → Int32} {m_codeRow : Nat → Int32} {m_stack : Nat → Int32} {m_ruleKind : Nat → Int32} {m_codes : Int32} {m_at : Int32} {m_read : Int32} {m_token : Int32} {m_sign : Int32} {m_begins : Int32} {m_ends : Int32} {m_bad : Int32} {m_badPlace : Int32} {m_top : Int32} {m_lineLives : Nat → Int32} {m_markRow : Nat → Int32} {m_quarterMany : Nat → Int32} {m_quarters : Nat → Int32} {m_isUp : Nat → Int32} {m_wasUp : Nat → Int32}
def f_X11_thrown (m_code : Int32) : Option (Int32) :=
  some m_code
set_option maxRecDepth 100000 in
set_option maxHeartbeats 4000000 in
theorem t_X11_thrown   {r : Int32} (hf : f_X11_thrown m_code = some r) : Ci l G 1 0 0 yX11_thrown cX11_thrown 1 .int [.ref (gm G 0)] (WM G m_code m_people m_grants m_texts m_copies m_taped m_faultPlace m_isFemale m_born m_died m_father m_mother m_fatherGrade m_motherGrade m_grantTo m_grantArms m_grantYear m_copyYear m_copyRow m_tape m_textYear m_ruleMany m_ruleFrom m_codeRow m_stack m_ruleKind m_codes m_at m_read m_token m_sign m_begins m_ends m_bad m_badPlace m_top m_lineLives m_markRow m_quarterMany m_quarters m_isUp m_wasUp ++ fr) r (WM G m_code m_people m_grants m_texts m_copies m_taped m_faultPlace m_isFemale m_born m_died m_father m_mother m_fatherGrade m_motherGrade m_grantTo m_grantArms m_grantYear m_copyYear m_copyRow m_tape m_textYear m_ruleMany m_ruleFrom m_codeRow m_stack m_ruleKind m_codes m_at m_read m_token m_sign m_begins m_ends m_bad m_badPlace m_top m_lineLives m_markRow m_quarterMany m_quarters m_isUp m_wasUp ++ fr) := by
  refine Ci.of (by decide) (Nat.le_of_ble_eq_true rfl) (fun Y hX hQ => ?_)
  refine j_lv (lv' := [(0, .ref (gm G 0))]) rfl ?_
  unfold f_X11_thrown at hf
  refine j_aload_n hX dX11_thrown_0 1 rfl 0 rfl rfl ?_
  refine j_get hX dX11_thrown_1 4 rfl fg_X11_110 0 rfl rfl ?_
  replace hf := Option.some.inj hf
  subst hf
  exact j_iret hX hQ dX11_thrown_4
def f_X11_fail  : Option (Int32 × Int32) :=
  some (0, 1)
set_option maxRecDepth 100000 in
set_option maxHeartbeats 4000000 in
theorem t_X11_fail   {r : Int32 × Int32} (hf : f_X11_fail  = some r) : Ci l G 1 0 0 yX11_fail cX11_fail 1 .int [.ref (gm G 0)] (WM G m_code m_people m_grants m_texts m_copies m_taped m_faultPlace m_isFemale m_born m_died m_father m_mother m_fatherGrade m_motherGrade m_grantTo m_grantArms m_grantYear m_copyYear m_copyRow m_tape m_textYear m_ruleMany m_ruleFrom m_codeRow m_stack m_ruleKind m_codes m_at m_read m_token m_sign m_begins m_ends m_bad m_badPlace m_top m_lineLives m_markRow m_quarterMany m_quarters m_isUp m_wasUp ++ fr) r.1 (WM G r.2 m_people m_grants m_texts m_copies m_taped m_faultPlace m_isFemale m_born m_died m_father m_mother m_fatherGrade m_motherGrade m_grantTo m_grantArms m_grantYear m_copyYear m_copyRow m_tape m_textYear m_ruleMany m_ruleFrom m_codeRow m_stack m_ruleKind m_codes m_at m_read m_token m_sign m_begins m_ends m_bad m_badPlace m_top m_lineLives m_markRow m_quarterMany m_quarters m_isUp m_wasUp ++ fr) := by
  refine Ci.of (by decide) (Nat.le_of_ble_eq_true rfl) (fun Y hX hQ => ?_)
  refine j_lv (lv' := [(0, .ref (gm G 0))]) rfl ?_
  unfold f_X11_fail at hf
  refine j_aload_n hX dX11_fail_0 1 rfl 0 rfl rfl ?_
  refine j_iconst (v := 1) hX dX11_fail_1 2 rfl (by decide) ?_
  refine j_put hX dX11_fail_2 5 rfl fg_X11_110 ft_X11_1 0 rfl rfl rfl (Nat.le_of_ble_eq_true rfl) (ws' := (WM G 1 m_people m_grants m_texts m_copies m_taped m_faultPlace m_isFemale m_born m_died m_father m_mother m_fatherGrade m_motherGrade m_grantTo m_grantArms m_grantYear m_copyYear m_copyRow m_tape m_textYear m_ruleMany m_ruleFrom m_codeRow m_stack m_ruleKind m_codes m_at m_read m_token m_sign m_begins m_ends m_bad m_badPlace m_top m_lineLives m_markRow m_quarterMany m_quarters m_isUp m_wasUp ++ fr)) rfl ?_
  refine j_iconst (v := 0) hX dX11_fail_5 6 rfl (by decide) ?_
  replace hf := Option.some.inj hf
  subst hf
  exact j_iret hX hQ dX11_fail_6
def g_X11_is_17 (s0 : Int32) : Option (Int32) :=
  if isB s0 = true then some s0 else none
set_option maxRecDepth 100000 in
set_option maxHeartbeats 4000000 in
theorem t_X11_is_17 {Y : YT} {r : Int32}  (hX : CX l G cX11_is 2 RX11 Y) (hQ : EQi G Y 0 0 .boolean r (WM G m_code m_people m_grants m_texts m_copies m_taped m_faultPlace m_isFemale m_born m_died m_father m_mother m_fatherGrade m_motherGrade m_grantTo m_grantArms m_grantYear m_copyYear m_copyRow m_tape m_textYear m_ruleMany m_ruleFrom m_codeRow m_stack m_ruleKind m_codes m_at m_read m_token m_sign m_begins m_ends m_bad m_badPlace m_top m_lineLives m_markRow m_quarterMany m_quarters m_isUp m_wasUp ++ fr))  (s0 : Int32) (hf : g_X11_is_17 s0 = some r) : J l G (rmD 1 0 0) Y 0 0 17 [] [.int s0] (WM G m_code m_people m_grants m_texts m_copies m_taped m_faultPlace m_isFemale m_born m_died m_father m_mother m_fatherGrade m_motherGrade m_grantTo m_grantArms m_grantYear m_copyYear m_copyRow m_tape m_textYear m_ruleMany m_ruleFrom m_codeRow m_stack m_ruleKind m_codes m_at m_read m_token m_sign m_begins m_ends m_bad m_badPlace m_top m_lineLives m_markRow m_quarterMany m_quarters m_isUp m_wasUp ++ fr) := by
  unfold g_X11_is_17 at hf
  obtain ⟨hb2, hf⟩ := ign hf
  replace hf := Option.some.inj hf
  subst hf
  exact j_zret hX hQ hb2 dX11_is_17
def g_X11_is_16  : Option (Int32) :=
  g_X11_is_17 0
set_option maxRecDepth 100000 in
set_option maxHeartbeats 4000000 in
theorem t_X11_is_16 {Y : YT} {r : Int32}  (hX : CX l G cX11_is 2 RX11 Y) (hQ : EQi G Y 0 0 .boolean r (WM G m_code m_people m_grants m_texts m_copies m_taped m_faultPlace m_isFemale m_born m_died m_father m_mother m_fatherGrade m_motherGrade m_grantTo m_grantArms m_grantYear m_copyYear m_copyRow m_tape m_textYear m_ruleMany m_ruleFrom m_codeRow m_stack m_ruleKind m_codes m_at m_read m_token m_sign m_begins m_ends m_bad m_badPlace m_top m_lineLives m_markRow m_quarterMany m_quarters m_isUp m_wasUp ++ fr))   (hf : g_X11_is_16  = some r) : J l G (rmD 1 0 0) Y 0 0 16 [] [] (WM G m_code m_people m_grants m_texts m_copies m_taped m_faultPlace m_isFemale m_born m_died m_father m_mother m_fatherGrade m_motherGrade m_grantTo m_grantArms m_grantYear m_copyYear m_copyRow m_tape m_textYear m_ruleMany m_ruleFrom m_codeRow m_stack m_ruleKind m_codes m_at m_read m_token m_sign m_begins m_ends m_bad m_badPlace m_top m_lineLives m_markRow m_quarterMany m_quarters m_isUp m_wasUp ++ fr) := by
  unfold g_X11_is_16 at hf
  refine j_iconst (v := 0) hX dX11_is_16 17 rfl (by decide) ?_
  exact t_X11_is_17 hX hQ   0 hf
def f_X11_is (m_people : Int32) (x1 : Int32) : Option (Int32) :=
  if x1 < 0 then g_X11_is_16  else if m_people ≤ x1 then g_X11_is_16  else g_X11_is_17 1
set_option maxRecDepth 100000 in
set_option maxHeartbeats 4000000 in
theorem t_X11_is  (x1 : Int32) {r : Int32} (hf : f_X11_is m_people x1 = some r) : Ci l G 1 0 0 yX11_is cX11_is 2 .boolean [.ref (gm G 0), .int x1] (WM G m_code m_people m_grants m_texts m_copies m_taped m_faultPlace m_isFemale m_born m_died m_father m_mother m_fatherGrade m_motherGrade m_grantTo m_grantArms m_grantYear m_copyYear m_copyRow m_tape m_textYear m_ruleMany m_ruleFrom m_codeRow m_stack m_ruleKind m_codes m_at m_read m_token m_sign m_begins m_ends m_bad m_badPlace m_top m_lineLives m_markRow m_quarterMany m_quarters m_isUp m_wasUp ++ fr) r (WM G m_code m_people m_grants m_texts m_copies m_taped m_faultPlace m_isFemale m_born m_died m_father m_mother m_fatherGrade m_motherGrade m_grantTo m_grantArms m_grantYear m_copyYear m_copyRow m_tape m_textYear m_ruleMany m_ruleFrom m_codeRow m_stack m_ruleKind m_codes m_at m_read m_token m_sign m_begins m_ends m_bad m_badPlace m_top m_lineLives m_markRow m_quarterMany m_quarters m_isUp m_wasUp ++ fr) := by
  refine Ci.of (by decide) (Nat.le_of_ble_eq_true rfl) (fun Y hX hQ => ?_)
  refine j_lv (lv' := [(0, .ref (gm G 0)), (1, .int x1)]) rfl ?_
  unfold f_X11_is at hf
  refine j_iload_n hX dX11_is_0 1 rfl 1 rfl rfl ?_
  refine j_if_lt hX dX11_is_1 4 16 rfl rfl (fun h1 => ?_) (fun h1 => ?_)
  · replace hf := itt h1 hf
    refine j_sub [] rfl ?_
    exact t_X11_is_16 hX hQ    hf
  · replace hf := itf h1 hf
    refine j_iload_n hX dX11_is_4 5 rfl 1 rfl rfl ?_
    refine j_aload_n hX dX11_is_5 6 rfl 0 rfl rfl ?_
    refine j_get hX dX11_is_6 9 rfl fg_X11_113 0 rfl rfl ?_
    refine j_icmp_ge hX dX11_is_9 12 16 rfl rfl (fun h3 => ?_) (fun h3 => ?_)
    · replace hf := itt h3 hf
      refine j_sub [] rfl ?_
      exact t_X11_is_16 hX hQ    hf
    · replace hf := itf h3 hf
      refine j_iconst (v := 1) hX dX11_is_12 13 rfl (by decide) ?_
      refine j_goto hX dX11_is_13 17 rfl ?_
      refine j_sub [] rfl ?_
      exact t_X11_is_17 hX hQ   1 hf
def g_X11_isYear_19 (s0 : Int32) : Option (Int32) :=
  if isB s0 = true then some s0 else none
set_option maxRecDepth 100000 in
set_option maxHeartbeats 4000000 in
theorem t_X11_isYear_19 {Y : YT} {r : Int32}  (hX : CX l G cX11_isYear 1 RX11 Y) (hQ : EQi G Y 0 0 .boolean r ws)  (s0 : Int32) (hf : g_X11_isYear_19 s0 = some r) : J l G (rmD 1 0 0) Y 0 0 19 [] [.int s0] ws := by
  unfold g_X11_isYear_19 at hf
  obtain ⟨hb2, hf⟩ := ign hf
  replace hf := Option.some.inj hf
  subst hf
  exact j_zret hX hQ hb2 dX11_isYear_19
def g_X11_isYear_18  : Option (Int32) :=
  g_X11_isYear_19 0
set_option maxRecDepth 100000 in
set_option maxHeartbeats 4000000 in
theorem t_X11_isYear_18 {Y : YT} {r : Int32}  (hX : CX l G cX11_isYear 1 RX11 Y) (hQ : EQi G Y 0 0 .boolean r ws)   (hf : g_X11_isYear_18  = some r) : J l G (rmD 1 0 0) Y 0 0 18 [] [] ws := by
  unfold g_X11_isYear_18 at hf
  refine j_iconst (v := 0) hX dX11_isYear_18 19 rfl (by decide) ?_
  exact t_X11_isYear_19 hX hQ   0 hf
def f_X11_isYear (x0 : Int32) : Option (Int32) :=
  if x0 < 1000 then g_X11_isYear_18  else if 2000 < x0 then g_X11_isYear_18  else g_X11_isYear_19 1
set_option maxRecDepth 100000 in
set_option maxHeartbeats 4000000 in
theorem t_X11_isYear  (x0 : Int32) {r : Int32} (hf : f_X11_isYear x0 = some r) : Ci l G 1 0 0 yX11_isYear cX11_isYear 1 .boolean [.int x0] ws r ws := by
  refine Ci.of (by decide) (Nat.le_of_ble_eq_true rfl) (fun Y hX hQ => ?_)
  refine j_lv (lv' := [(0, .int x0)]) rfl ?_
  unfold f_X11_isYear at hf
  refine j_iload_n hX dX11_isYear_0 1 rfl 0 rfl rfl ?_
  refine j_sipush (v := 1000) hX dX11_isYear_1 4 rfl (by decide) ?_
  refine j_icmp_lt hX dX11_isYear_4 7 18 rfl rfl (fun h1 => ?_) (fun h1 => ?_)
  · replace hf := itt h1 hf
    refine j_sub [] rfl ?_
    exact t_X11_isYear_18 hX hQ    hf
  · replace hf := itf h1 hf
    refine j_iload_n hX dX11_isYear_7 8 rfl 0 rfl rfl ?_
    refine j_sipush (v := 2000) hX dX11_isYear_8 11 rfl (by decide) ?_
    refine j_icmp_gt hX dX11_isYear_11 14 18 rfl rfl (fun h3 => ?_) (fun h3 => ?_)
    · replace hf := itt h3 hf
      refine j_sub [] rfl ?_
      exact t_X11_isYear_18 hX hQ    hf
    · replace hf := itf h3 hf
      refine j_iconst (v := 1) hX dX11_isYear_14 15 rfl (by decide) ?_
      refine j_goto hX dX11_isYear_15 19 rfl ?_
      refine j_sub [] rfl ?_
      exact t_X11_isYear_19 hX hQ   1 hf
def g_X11_person_46 (m_code : Int32) (m_people : Int32) (m_isFemale : Nat → Int32) (m_born : Nat → Int32) (m_died : Nat → Int32) (m_father : Nat → Int32) (m_mother : Nat → Int32) : Option (Int32 × Int32 × Int32 × (Nat → Int32) × (Nat → Int32) × (Nat → Int32) × (Nat → Int32) × (Nat → Int32)) :=
  some ((-1), m_code, m_people, m_isFemale, m_born, m_died, m_father, m_mother)
set_option maxRecDepth 100000 in
set_option maxHeartbeats 4000000 in
theorem t_X11_person_46 {Y : YT} {r : Int32 × Int32 × Int32 × (Nat → Int32) × (Nat → Int32) × (Nat → Int32) × (Nat → Int32) × (Nat → Int32)}  (hX : CX l G cX11_person 4 RX11 Y) (hQ : EQi G Y 0 0 .int r.1 (WM G r.2.1 r.2.2.1 m_grants m_texts m_copies m_taped m_faultPlace r.2.2.2.1 r.2.2.2.2.1 r.2.2.2.2.2.1 r.2.2.2.2.2.2.1 r.2.2.2.2.2.2.2 m_fatherGrade m_motherGrade m_grantTo m_grantArms m_grantYear m_copyYear m_copyRow m_tape m_textYear m_ruleMany m_ruleFrom m_codeRow m_stack m_ruleKind m_codes m_at m_read m_token m_sign m_begins m_ends m_bad m_badPlace m_top m_lineLives m_markRow m_quarterMany m_quarters m_isUp m_wasUp ++ fr))   (hf : g_X11_person_46 m_code m_people m_isFemale m_born m_died m_father m_mother = some r) : J l G (rmD 2 0 0) Y 0 0 46 [] [] (WM G m_code m_people m_grants m_texts m_copies m_taped m_faultPlace m_isFemale m_born m_died m_father m_mother m_fatherGrade m_motherGrade m_grantTo m_grantArms m_grantYear m_copyYear m_copyRow m_tape m_textYear m_ruleMany m_ruleFrom m_codeRow m_stack m_ruleKind m_codes m_at m_read m_token m_sign m_begins m_ends m_bad m_badPlace m_top m_lineLives m_markRow m_quarterMany m_quarters m_isUp m_wasUp ++ fr) := by
  unfold g_X11_person_46 at hf
  refine j_iconst (v := (-1)) hX dX11_person_46 47 rfl (by decide) ?_
  replace hf := Option.some.inj hf
  subst hf
  exact j_iret hX hQ dX11_person_47
def g_X11_person_48 (m_code : Int32) (m_people : Int32) (m_isFemale : Nat → Int32) (m_born : Nat → Int32) (m_died : Nat → Int32) (m_father : Nat → Int32) (m_mother : Nat → Int32) (x1 : Int32) (x2 : Int32) (x3 : Int32) : Option (Int32 × Int32 × Int32 × (Nat → Int32) × (Nat → Int32) × (Nat → Int32) × (Nat → Int32) × (Nat → Int32)) :=
  if inb m_people 60 = true then if inb m_people 60 = true then if inb m_people 60 = true then if inb m_people 60 = true then if inb m_people 60 = true then some ((m_people + 1) - 1, m_code, m_people + 1, upd m_isFemale (Int32.toNatClampNeg m_people) (vp_nar .boolean x1), upd m_born (Int32.toNatClampNeg m_people) x2, upd m_died (Int32.toNatClampNeg m_people) x3, upd m_father (Int32.toNatClampNeg m_people) ((-1)), upd m_mother (Int32.toNatClampNeg m_people) ((-1))) else none else none else none else none else none
set_option maxRecDepth 100000 in
set_option maxHeartbeats 4000000 in
theorem t_X11_person_48 {Y : YT} {r : Int32 × Int32 × Int32 × (Nat → Int32) × (Nat → Int32) × (Nat → Int32) × (Nat → Int32) × (Nat → Int32)}  (hX : CX l G cX11_person 4 RX11 Y) (hQ : EQi G Y 0 0 .int r.1 (WM G r.2.1 r.2.2.1 m_grants m_texts m_copies m_taped m_faultPlace r.2.2.2.1 r.2.2.2.2.1 r.2.2.2.2.2.1 r.2.2.2.2.2.2.1 r.2.2.2.2.2.2.2 m_fatherGrade m_motherGrade m_grantTo m_grantArms m_grantYear m_copyYear m_copyRow m_tape m_textYear m_ruleMany m_ruleFrom m_codeRow m_stack m_ruleKind m_codes m_at m_read m_token m_sign m_begins m_ends m_bad m_badPlace m_top m_lineLives m_markRow m_quarterMany m_quarters m_isUp m_wasUp ++ fr))  (x1 : Int32) (x2 : Int32) (x3 : Int32) (hf : g_X11_person_48 m_code m_people m_isFemale m_born m_died m_father m_mother x1 x2 x3 = some r) : J l G (rmD 2 0 0) Y 0 0 48 [(0, .ref (gm G 0)), (1, .int x1), (2, .int x2), (3, .int x3)] [] (WM G m_code m_people m_grants m_texts m_copies m_taped m_faultPlace m_isFemale m_born m_died m_father m_mother m_fatherGrade m_motherGrade m_grantTo m_grantArms m_grantYear m_copyYear m_copyRow m_tape m_textYear m_ruleMany m_ruleFrom m_codeRow m_stack m_ruleKind m_codes m_at m_read m_token m_sign m_begins m_ends m_bad m_badPlace m_top m_lineLives m_markRow m_quarterMany m_quarters m_isUp m_wasUp ++ fr) := by
  unfold g_X11_person_48 at hf
  refine j_aload_n hX dX11_person_48 49 rfl 0 rfl rfl ?_
  refine j_get hX dX11_person_49 52 rfl fg_X11_35 0 rfl rfl ?_
  refine j_aload_n hX dX11_person_52 53 rfl 0 rfl rfl ?_
  refine j_get hX dX11_person_53 56 rfl fg_X11_113 0 rfl rfl ?_
  refine j_iload_n hX dX11_person_56 57 rfl 1 rfl rfl ?_
  obtain ⟨hb5, hf⟩ := ign hf
  refine j_zast hX dX11_person_57 58 rfl 2 rfl hb5 (ws' := (WM G m_code m_people m_grants m_texts m_copies m_taped m_faultPlace (upd m_isFemale (Int32.toNatClampNeg m_people) (vp_nar .boolean x1)) m_born m_died m_father m_mother m_fatherGrade m_motherGrade m_grantTo m_grantArms m_grantYear m_copyYear m_copyRow m_tape m_textYear m_ruleMany m_ruleFrom m_codeRow m_stack m_ruleKind m_codes m_at m_read m_token m_sign m_begins m_ends m_bad m_badPlace m_top m_lineLives m_markRow m_quarterMany m_quarters m_isUp m_wasUp ++ fr)) rfl ?_
  refine j_aload_n hX dX11_person_58 59 rfl 0 rfl rfl ?_
  refine j_get hX dX11_person_59 62 rfl fg_X11_39 0 rfl rfl ?_
  refine j_aload_n hX dX11_person_62 63 rfl 0 rfl rfl ?_
  refine j_get hX dX11_person_63 66 rfl fg_X11_113 0 rfl rfl ?_
  refine j_iload_n hX dX11_person_66 67 rfl 2 rfl rfl ?_
  obtain ⟨hb6, hf⟩ := ign hf
  refine j_iast hX dX11_person_67 68 rfl 3 rfl hb6 (ws' := (WM G m_code m_people m_grants m_texts m_copies m_taped m_faultPlace (upd m_isFemale (Int32.toNatClampNeg m_people) (vp_nar .boolean x1)) (upd m_born (Int32.toNatClampNeg m_people) x2) m_died m_father m_mother m_fatherGrade m_motherGrade m_grantTo m_grantArms m_grantYear m_copyYear m_copyRow m_tape m_textYear m_ruleMany m_ruleFrom m_codeRow m_stack m_ruleKind m_codes m_at m_read m_token m_sign m_begins m_ends m_bad m_badPlace m_top m_lineLives m_markRow m_quarterMany m_quarters m_isUp m_wasUp ++ fr)) rfl ?_
  refine j_aload_n hX dX11_person_68 69 rfl 0 rfl rfl ?_
  refine j_get hX dX11_person_69 72 rfl fg_X11_42 0 rfl rfl ?_
  refine j_aload_n hX dX11_person_72 73 rfl 0 rfl rfl ?_
  refine j_get hX dX11_person_73 76 rfl fg_X11_113 0 rfl rfl ?_
  refine j_iload_n hX dX11_person_76 77 rfl 3 rfl rfl ?_
  obtain ⟨hb7, hf⟩ := ign hf
  refine j_iast hX dX11_person_77 78 rfl 4 rfl hb7 (ws' := (WM G m_code m_people m_grants m_texts m_copies m_taped m_faultPlace (upd m_isFemale (Int32.toNatClampNeg m_people) (vp_nar .boolean x1)) (upd m_born (Int32.toNatClampNeg m_people) x2) (upd m_died (Int32.toNatClampNeg m_people) x3) m_father m_mother m_fatherGrade m_motherGrade m_grantTo m_grantArms m_grantYear m_copyYear m_copyRow m_tape m_textYear m_ruleMany m_ruleFrom m_codeRow m_stack m_ruleKind m_codes m_at m_read m_token m_sign m_begins m_ends m_bad m_badPlace m_top m_lineLives m_markRow m_quarterMany m_quarters m_isUp m_wasUp ++ fr)) rfl ?_
  refine j_aload_n hX dX11_person_78 79 rfl 0 rfl rfl ?_
  refine j_get hX dX11_person_79 82 rfl fg_X11_45 0 rfl rfl ?_
  refine j_aload_n hX dX11_person_82 83 rfl 0 rfl rfl ?_
  refine j_get hX dX11_person_83 86 rfl fg_X11_113 0 rfl rfl ?_
  refine j_iconst (v := (-1)) hX dX11_person_86 87 rfl (by decide) ?_
  obtain ⟨hb8, hf⟩ := ign hf
  refine j_iast hX dX11_person_87 88 rfl 5 rfl hb8 (ws' := (WM G m_code m_people m_grants m_texts m_copies m_taped m_faultPlace (upd m_isFemale (Int32.toNatClampNeg m_people) (vp_nar .boolean x1)) (upd m_born (Int32.toNatClampNeg m_people) x2) (upd m_died (Int32.toNatClampNeg m_people) x3) (upd m_father (Int32.toNatClampNeg m_people) ((-1))) m_mother m_fatherGrade m_motherGrade m_grantTo m_grantArms m_grantYear m_copyYear m_copyRow m_tape m_textYear m_ruleMany m_ruleFrom m_codeRow m_stack m_ruleKind m_codes m_at m_read m_token m_sign m_begins m_ends m_bad m_badPlace m_top m_lineLives m_markRow m_quarterMany m_quarters m_isUp m_wasUp ++ fr)) rfl ?_
  refine j_aload_n hX dX11_person_88 89 rfl 0 rfl rfl ?_
  refine j_get hX dX11_person_89 92 rfl fg_X11_48 0 rfl rfl ?_
  refine j_aload_n hX dX11_person_92 93 rfl 0 rfl rfl ?_
  refine j_get hX dX11_person_93 96 rfl fg_X11_113 0 rfl rfl ?_
  refine j_iconst (v := (-1)) hX dX11_person_96 97 rfl (by decide) ?_
  obtain ⟨hb9, hf⟩ := ign hf
  refine j_iast hX dX11_person_97 98 rfl 6 rfl hb9 (ws' := (WM G m_code m_people m_grants m_texts m_copies m_taped m_faultPlace (upd m_isFemale (Int32.toNatClampNeg m_people) (vp_nar .boolean x1)) (upd m_born (Int32.toNatClampNeg m_people) x2) (upd m_died (Int32.toNatClampNeg m_people) x3) (upd m_father (Int32.toNatClampNeg m_people) ((-1))) (upd m_mother (Int32.toNatClampNeg m_people) ((-1))) m_fatherGrade m_motherGrade m_grantTo m_grantArms m_grantYear m_copyYear m_copyRow m_tape m_textYear m_ruleMany m_ruleFrom m_codeRow m_stack m_ruleKind m_codes m_at m_read m_token m_sign m_begins m_ends m_bad m_badPlace m_top m_lineLives m_markRow m_quarterMany m_quarters m_isUp m_wasUp ++ fr)) rfl ?_
  refine j_aload_n hX dX11_person_98 99 rfl 0 rfl rfl ?_
  refine j_dup hX dX11_person_99 100 rfl rfl ?_
  refine j_get hX dX11_person_100 103 rfl fg_X11_113 0 rfl rfl ?_
  refine j_iconst (v := 1) hX dX11_person_103 104 rfl (by decide) ?_
  refine j_iadd hX dX11_person_104 105 rfl ?_
  refine j_put hX dX11_person_105 108 rfl fg_X11_113 ft_X11_2 0 rfl rfl rfl (Nat.le_of_ble_eq_true rfl) (ws' := (WM G m_code (m_people + 1) m_grants m_texts m_copies m_taped m_faultPlace (upd m_isFemale (Int32.toNatClampNeg m_people) (vp_nar .boolean x1)) (upd m_born (Int32.toNatClampNeg m_people) x2) (upd m_died (Int32.toNatClampNeg m_people) x3) (upd m_father (Int32.toNatClampNeg m_people) ((-1))) (upd m_mother (Int32.toNatClampNeg m_people) ((-1))) m_fatherGrade m_motherGrade m_grantTo m_grantArms m_grantYear m_copyYear m_copyRow m_tape m_textYear m_ruleMany m_ruleFrom m_codeRow m_stack m_ruleKind m_codes m_at m_read m_token m_sign m_begins m_ends m_bad m_badPlace m_top m_lineLives m_markRow m_quarterMany m_quarters m_isUp m_wasUp ++ fr)) rfl ?_
  refine j_aload_n hX dX11_person_108 109 rfl 0 rfl rfl ?_
  refine j_get hX dX11_person_109 112 rfl fg_X11_113 0 rfl rfl ?_
  refine j_iconst (v := 1) hX dX11_person_112 113 rfl (by decide) ?_
  refine j_isub hX dX11_person_113 114 rfl ?_
  replace hf := Option.some.inj hf
  subst hf
  exact j_iret hX hQ dX11_person_114
def f_X11_person (m_people : Int32) (m_isFemale : Nat → Int32) (m_born : Nat → Int32) (m_died : Nat → Int32) (m_father : Nat → Int32) (m_mother : Nat → Int32) (x1 : Int32) (x2 : Int32) (x3 : Int32) : Option (Int32 × Int32 × Int32 × (Nat → Int32) × (Nat → Int32) × (Nat → Int32) × (Nat → Int32) × (Nat → Int32)) :=
  if m_people = 60 then g_X11_person_46 0 m_people m_isFemale m_born m_died m_father m_mother else (f_X11_isYear x2).bind fun v2 => if v2 = 0 then g_X11_person_46 0 m_people m_isFemale m_born m_died m_father m_mother else if x3 = ((-1)) then g_X11_person_48 0 m_people m_isFemale m_born m_died m_father m_mother x1 x2 x3 else (f_X11_isYear x3).bind fun v10 => if v10 = 0 then g_X11_person_46 0 m_people m_isFemale m_born m_died m_father m_mother else if x3 < x2 then g_X11_person_46 0 m_people m_isFemale m_born m_died m_father m_mother else if x3 ≤ (x2 + 100) then g_X11_person_48 0 m_people m_isFemale m_born m_died m_father m_mother x1 x2 x3 else g_X11_person_46 0 m_people m_isFemale m_born m_died m_father m_mother
set_option maxRecDepth 100000 in
set_option maxHeartbeats 4000000 in
theorem t_X11_person  (x1 : Int32) (x2 : Int32) (x3 : Int32) {r : Int32 × Int32 × Int32 × (Nat → Int32) × (Nat → Int32) × (Nat → Int32) × (Nat → Int32) × (Nat → Int32)} (hf : f_X11_person m_people m_isFemale m_born m_died m_father m_mother x1 x2 x3 = some r) : Ci l G 2 0 0 yX11_person cX11_person 4 .int [.ref (gm G 0), .int x1, .int x2, .int x3] (WM G m_code m_people m_grants m_texts m_copies m_taped m_faultPlace m_isFemale m_born m_died m_father m_mother m_fatherGrade m_motherGrade m_grantTo m_grantArms m_grantYear m_copyYear m_copyRow m_tape m_textYear m_ruleMany m_ruleFrom m_codeRow m_stack m_ruleKind m_codes m_at m_read m_token m_sign m_begins m_ends m_bad m_badPlace m_top m_lineLives m_markRow m_quarterMany m_quarters m_isUp m_wasUp ++ fr) r.1 (WM G r.2.1 r.2.2.1 m_grants m_texts m_copies m_taped m_faultPlace r.2.2.2.1 r.2.2.2.2.1 r.2.2.2.2.2.1 r.2.2.2.2.2.2.1 r.2.2.2.2.2.2.2 m_fatherGrade m_motherGrade m_grantTo m_grantArms m_grantYear m_copyYear m_copyRow m_tape m_textYear m_ruleMany m_ruleFrom m_codeRow m_stack m_ruleKind m_codes m_at m_read m_token m_sign m_begins m_ends m_bad m_badPlace m_top m_lineLives m_markRow m_quarterMany m_quarters m_isUp m_wasUp ++ fr) := by
  refine Ci.of (by decide) (Nat.le_of_ble_eq_true rfl) (fun Y hX hQ => ?_)
  refine j_lv (lv' := [(0, .ref (gm G 0)), (1, .int x1), (2, .int x2), (3, .int x3)]) rfl ?_
  unfold f_X11_person at hf
  refine j_aload_n hX dX11_person_0 1 rfl 0 rfl rfl ?_
  refine j_iconst (v := 0) hX dX11_person_1 2 rfl (by decide) ?_
  refine j_put hX dX11_person_2 5 rfl fg_X11_110 ft_X11_1 0 rfl rfl rfl (Nat.le_of_ble_eq_true rfl) (ws' := (WM G 0 m_people m_grants m_texts m_copies m_taped m_faultPlace m_isFemale m_born m_died m_father m_mother m_fatherGrade m_motherGrade m_grantTo m_grantArms m_grantYear m_copyYear m_copyRow m_tape m_textYear m_ruleMany m_ruleFrom m_codeRow m_stack m_ruleKind m_codes m_at m_read m_token m_sign m_begins m_ends m_bad m_badPlace m_top m_lineLives m_markRow m_quarterMany m_quarters m_isUp m_wasUp ++ fr)) rfl ?_
  refine j_aload_n hX dX11_person_5 6 rfl 0 rfl rfl ?_
  refine j_get hX dX11_person_6 9 rfl fg_X11_113 0 rfl rfl ?_
  refine j_bipush (v := 60) hX dX11_person_9 11 rfl (by decide) ?_
  refine j_icmp_eq hX dX11_person_11 14 46 rfl rfl (fun h1 => ?_) (fun h1 => ?_)
  · replace hf := itt h1 hf
    refine j_sub [] rfl ?_
    exact t_X11_person_46 hX hQ    hf
  · replace hf := itf h1 hf
    refine j_iload_n hX dX11_person_14 15 rfl 2 rfl rfl ?_
    obtain ⟨v2, hv2, hf⟩ := ibd hf
    refine z_si (As := [.int x2]) (rest := []) hX dX11_person_15 18 rfl (t_X11_isYear x2 hv2) mc_X11_isYear ms_X11_isYear ml_X11_116 (Nat.le_of_ble_eq_true rfl) (Nat.le_refl _) (Nat.le_refl _) rfl (Nat.le_of_ble_eq_true rfl) ?_
    refine j_if_eq hX dX11_person_18 21 46 rfl rfl (fun h3 => ?_) (fun h3 => ?_)
    · replace hf := itt h3 hf
      refine j_sub [] rfl ?_
      exact t_X11_person_46 hX hQ    hf
    · replace hf := itf h3 hf
      refine j_iload_n hX dX11_person_21 22 rfl 3 rfl rfl ?_
      refine j_iconst (v := (-1)) hX dX11_person_22 23 rfl (by decide) ?_
      refine j_icmp_eq hX dX11_person_23 26 48 rfl rfl (fun h4 => ?_) (fun h4 => ?_)
      · replace hf := itt h4 hf
        exact t_X11_person_48 hX hQ   x1 x2 x3 hf
      · replace hf := itf h4 hf
        refine j_iload_n hX dX11_person_26 27 rfl 3 rfl rfl ?_
        obtain ⟨v10, hv10, hf⟩ := ibd hf
        refine z_si (As := [.int x3]) (rest := []) hX dX11_person_27 30 rfl (t_X11_isYear x3 hv10) mc_X11_isYear ms_X11_isYear ml_X11_116 (Nat.le_of_ble_eq_true rfl) (Nat.le_refl _) (Nat.le_refl _) rfl (Nat.le_of_ble_eq_true rfl) ?_
        refine j_if_eq hX dX11_person_30 33 46 rfl rfl (fun h11 => ?_) (fun h11 => ?_)
        · replace hf := itt h11 hf
          refine j_sub [] rfl ?_
          exact t_X11_person_46 hX hQ    hf
        · replace hf := itf h11 hf
          refine j_iload_n hX dX11_person_33 34 rfl 3 rfl rfl ?_
          refine j_iload_n hX dX11_person_34 35 rfl 2 rfl rfl ?_
          refine j_icmp_lt hX dX11_person_35 38 46 rfl rfl (fun h12 => ?_) (fun h12 => ?_)
          · replace hf := itt h12 hf
            refine j_sub [] rfl ?_
            exact t_X11_person_46 hX hQ    hf
          · replace hf := itf h12 hf
            refine j_iload_n hX dX11_person_38 39 rfl 3 rfl rfl ?_
            refine j_iload_n hX dX11_person_39 40 rfl 2 rfl rfl ?_
            refine j_bipush (v := 100) hX dX11_person_40 42 rfl (by decide) ?_
            refine j_iadd hX dX11_person_42 43 rfl ?_
            refine j_icmp_le hX dX11_person_43 46 48 rfl rfl (fun h13 => ?_) (fun h13 => ?_)
            · replace hf := itt h13 hf
              exact t_X11_person_48 hX hQ   x1 x2 x3 hf
            · replace hf := itf h13 hf
              refine j_sub [] rfl ?_
              exact t_X11_person_46 hX hQ    hf
def g_X11_end_28 (s0 : Int32) : Option (Int32) :=
  some s0
set_option maxRecDepth 100000 in
set_option maxHeartbeats 4000000 in
theorem t_X11_end_28 {Y : YT} {r : Int32}  (hX : CX l G cX11_end 2 RX11 Y) (hQ : EQi G Y 0 0 .int r (WM G m_code m_people m_grants m_texts m_copies m_taped m_faultPlace m_isFemale m_born m_died m_father m_mother m_fatherGrade m_motherGrade m_grantTo m_grantArms m_grantYear m_copyYear m_copyRow m_tape m_textYear m_ruleMany m_ruleFrom m_codeRow m_stack m_ruleKind m_codes m_at m_read m_token m_sign m_begins m_ends m_bad m_badPlace m_top m_lineLives m_markRow m_quarterMany m_quarters m_isUp m_wasUp ++ fr))  (s0 : Int32) (hf : g_X11_end_28 s0 = some r) : J l G (rmD 1 0 0) Y 0 0 28 [] [.int s0] (WM G m_code m_people m_grants m_texts m_copies m_taped m_faultPlace m_isFemale m_born m_died m_father m_mother m_fatherGrade m_motherGrade m_grantTo m_grantArms m_grantYear m_copyYear m_copyRow m_tape m_textYear m_ruleMany m_ruleFrom m_codeRow m_stack m_ruleKind m_codes m_at m_read m_token m_sign m_begins m_ends m_bad m_badPlace m_top m_lineLives m_markRow m_quarterMany m_quarters m_isUp m_wasUp ++ fr) := by
  unfold g_X11_end_28 at hf
  replace hf := Option.some.inj hf
  subst hf
  exact j_iret hX hQ dX11_end_28
def f_X11_end (m_born : Nat → Int32) (m_died : Nat → Int32) (x1 : Int32) : Option (Int32) :=
  if inb x1 60 = true then if (m_died (Int32.toNatClampNeg x1)) = ((-1)) then if inb x1 60 = true then g_X11_end_28 ((m_born (Int32.toNatClampNeg x1)) + 100) else none else if inb x1 60 = true then g_X11_end_28 (m_died (Int32.toNatClampNeg x1)) else none else none
set_option maxRecDepth 100000 in
set_option maxHeartbeats 4000000 in
theorem t_X11_end  (x1 : Int32) {r : Int32} (hf : f_X11_end m_born m_died x1 = some r) : Ci l G 1 0 0 yX11_end cX11_end 2 .int [.ref (gm G 0), .int x1] (WM G m_code m_people m_grants m_texts m_copies m_taped m_faultPlace m_isFemale m_born m_died m_father m_mother m_fatherGrade m_motherGrade m_grantTo m_grantArms m_grantYear m_copyYear m_copyRow m_tape m_textYear m_ruleMany m_ruleFrom m_codeRow m_stack m_ruleKind m_codes m_at m_read m_token m_sign m_begins m_ends m_bad m_badPlace m_top m_lineLives m_markRow m_quarterMany m_quarters m_isUp m_wasUp ++ fr) r (WM G m_code m_people m_grants m_texts m_copies m_taped m_faultPlace m_isFemale m_born m_died m_father m_mother m_fatherGrade m_motherGrade m_grantTo m_grantArms m_grantYear m_copyYear m_copyRow m_tape m_textYear m_ruleMany m_ruleFrom m_codeRow m_stack m_ruleKind m_codes m_at m_read m_token m_sign m_begins m_ends m_bad m_badPlace m_top m_lineLives m_markRow m_quarterMany m_quarters m_isUp m_wasUp ++ fr) := by
  refine Ci.of (by decide) (Nat.le_of_ble_eq_true rfl) (fun Y hX hQ => ?_)
  refine j_lv (lv' := [(0, .ref (gm G 0)), (1, .int x1)]) rfl ?_
  unfold f_X11_end at hf
  refine j_aload_n hX dX11_end_0 1 rfl 0 rfl rfl ?_
  refine j_get hX dX11_end_1 4 rfl fg_X11_42 0 rfl rfl ?_
  refine j_iload_n hX dX11_end_4 5 rfl 1 rfl rfl ?_
  obtain ⟨hb1, hf⟩ := ign hf
  refine j_iald hX dX11_end_5 6 rfl 4 rfl hb1 ?_
  refine j_iconst (v := (-1)) hX dX11_end_6 7 rfl (by decide) ?_
  refine j_icmp_ne hX dX11_end_7 10 22 rfl rfl (fun h2 => ?_) (fun h2 => ?_)
  · replace hf := itf h2 hf
    refine j_aload_n hX dX11_end_22 23 rfl 0 rfl rfl ?_
    refine j_get hX dX11_end_23 26 rfl fg_X11_42 0 rfl rfl ?_
    refine j_iload_n hX dX11_end_26 27 rfl 1 rfl rfl ?_
    obtain ⟨hb3, hf⟩ := ign hf
    refine j_iald hX dX11_end_27 28 rfl 4 rfl hb3 ?_
    refine j_sub [] rfl ?_
    exact t_X11_end_28 hX hQ   (m_died (Int32.toNatClampNeg x1)) hf
  · replace hf := itt h2 hf
    refine j_aload_n hX dX11_end_10 11 rfl 0 rfl rfl ?_
    refine j_get hX dX11_end_11 14 rfl fg_X11_39 0 rfl rfl ?_
    refine j_iload_n hX dX11_end_14 15 rfl 1 rfl rfl ?_
    obtain ⟨hb4, hf⟩ := ign hf
    refine j_iald hX dX11_end_15 16 rfl 3 rfl hb4 ?_
    refine j_bipush (v := 100) hX dX11_end_16 18 rfl (by decide) ?_
    refine j_iadd hX dX11_end_18 19 rfl ?_
    refine j_goto hX dX11_end_19 28 rfl ?_
    refine j_sub [] rfl ?_
    exact t_X11_end_28 hX hQ   ((m_born (Int32.toNatClampNeg x1)) + 100) hf
def g_X11_lives_24 (s0 : Int32) : Option (Int32) :=
  if isB s0 = true then some s0 else none
set_option maxRecDepth 100000 in
set_option maxHeartbeats 4000000 in
theorem t_X11_lives_24 {Y : YT} {r : Int32}  (hX : CX l G cX11_lives 3 RX11 Y) (hQ : EQi G Y 0 0 .boolean r (WM G m_code m_people m_grants m_texts m_copies m_taped m_faultPlace m_isFemale m_born m_died m_father m_mother m_fatherGrade m_motherGrade m_grantTo m_grantArms m_grantYear m_copyYear m_copyRow m_tape m_textYear m_ruleMany m_ruleFrom m_codeRow m_stack m_ruleKind m_codes m_at m_read m_token m_sign m_begins m_ends m_bad m_badPlace m_top m_lineLives m_markRow m_quarterMany m_quarters m_isUp m_wasUp ++ fr))  (s0 : Int32) (hf : g_X11_lives_24 s0 = some r) : J l G (rmD 2 0 0) Y 0 0 24 [] [.int s0] (WM G m_code m_people m_grants m_texts m_copies m_taped m_faultPlace m_isFemale m_born m_died m_father m_mother m_fatherGrade m_motherGrade m_grantTo m_grantArms m_grantYear m_copyYear m_copyRow m_tape m_textYear m_ruleMany m_ruleFrom m_codeRow m_stack m_ruleKind m_codes m_at m_read m_token m_sign m_begins m_ends m_bad m_badPlace m_top m_lineLives m_markRow m_quarterMany m_quarters m_isUp m_wasUp ++ fr) := by
  unfold g_X11_lives_24 at hf
  obtain ⟨hb3, hf⟩ := ign hf
  replace hf := Option.some.inj hf
  subst hf
  exact j_zret hX hQ hb3 dX11_lives_24
def g_X11_lives_23  : Option (Int32) :=
  g_X11_lives_24 0
set_option maxRecDepth 100000 in
set_option maxHeartbeats 4000000 in
theorem t_X11_lives_23 {Y : YT} {r : Int32}  (hX : CX l G cX11_lives 3 RX11 Y) (hQ : EQi G Y 0 0 .boolean r (WM G m_code m_people m_grants m_texts m_copies m_taped m_faultPlace m_isFemale m_born m_died m_father m_mother m_fatherGrade m_motherGrade m_grantTo m_grantArms m_grantYear m_copyYear m_copyRow m_tape m_textYear m_ruleMany m_ruleFrom m_codeRow m_stack m_ruleKind m_codes m_at m_read m_token m_sign m_begins m_ends m_bad m_badPlace m_top m_lineLives m_markRow m_quarterMany m_quarters m_isUp m_wasUp ++ fr))   (hf : g_X11_lives_23  = some r) : J l G (rmD 2 0 0) Y 0 0 23 [] [] (WM G m_code m_people m_grants m_texts m_copies m_taped m_faultPlace m_isFemale m_born m_died m_father m_mother m_fatherGrade m_motherGrade m_grantTo m_grantArms m_grantYear m_copyYear m_copyRow m_tape m_textYear m_ruleMany m_ruleFrom m_codeRow m_stack m_ruleKind m_codes m_at m_read m_token m_sign m_begins m_ends m_bad m_badPlace m_top m_lineLives m_markRow m_quarterMany m_quarters m_isUp m_wasUp ++ fr) := by
  unfold g_X11_lives_23 at hf
  refine j_iconst (v := 0) hX dX11_lives_23 24 rfl (by decide) ?_
  exact t_X11_lives_24 hX hQ   0 hf
def f_X11_lives (m_born : Nat → Int32) (m_died : Nat → Int32) (x1 : Int32) (x2 : Int32) : Option (Int32) :=
  if inb x1 60 = true then if x2 < (m_born (Int32.toNatClampNeg x1)) then g_X11_lives_23  else (f_X11_end m_born m_died x1).bind fun v4 => if v4 < x2 then g_X11_lives_23  else g_X11_lives_24 1 else none
set_option maxRecDepth 100000 in
set_option maxHeartbeats 4000000 in
theorem t_X11_lives  (x1 : Int32) (x2 : Int32) {r : Int32} (hf : f_X11_lives m_born m_died x1 x2 = some r) : Ci l G 2 0 0 yX11_lives cX11_lives 3 .boolean [.ref (gm G 0), .int x1, .int x2] (WM G m_code m_people m_grants m_texts m_copies m_taped m_faultPlace m_isFemale m_born m_died m_father m_mother m_fatherGrade m_motherGrade m_grantTo m_grantArms m_grantYear m_copyYear m_copyRow m_tape m_textYear m_ruleMany m_ruleFrom m_codeRow m_stack m_ruleKind m_codes m_at m_read m_token m_sign m_begins m_ends m_bad m_badPlace m_top m_lineLives m_markRow m_quarterMany m_quarters m_isUp m_wasUp ++ fr) r (WM G m_code m_people m_grants m_texts m_copies m_taped m_faultPlace m_isFemale m_born m_died m_father m_mother m_fatherGrade m_motherGrade m_grantTo m_grantArms m_grantYear m_copyYear m_copyRow m_tape m_textYear m_ruleMany m_ruleFrom m_codeRow m_stack m_ruleKind m_codes m_at m_read m_token m_sign m_begins m_ends m_bad m_badPlace m_top m_lineLives m_markRow m_quarterMany m_quarters m_isUp m_wasUp ++ fr) := by
  refine Ci.of (by decide) (Nat.le_of_ble_eq_true rfl) (fun Y hX hQ => ?_)
  refine j_lv (lv' := [(0, .ref (gm G 0)), (1, .int x1), (2, .int x2)]) rfl ?_
  unfold f_X11_lives at hf
  refine j_aload_n hX dX11_lives_0 1 rfl 0 rfl rfl ?_
  refine j_get hX dX11_lives_1 4 rfl fg_X11_39 0 rfl rfl ?_
  refine j_iload_n hX dX11_lives_4 5 rfl 1 rfl rfl ?_
  obtain ⟨hb1, hf⟩ := ign hf
  refine j_iald hX dX11_lives_5 6 rfl 3 rfl hb1 ?_
  refine j_iload_n hX dX11_lives_6 7 rfl 2 rfl rfl ?_
  refine j_icmp_gt hX dX11_lives_7 10 23 rfl rfl (fun h2 => ?_) (fun h2 => ?_)
  · replace hf := itt h2 hf
    refine j_sub [] rfl ?_
    exact t_X11_lives_23 hX hQ    hf
  · replace hf := itf h2 hf
    refine j_iload_n hX dX11_lives_10 11 rfl 2 rfl rfl ?_
    refine j_aload_n hX dX11_lives_11 12 rfl 0 rfl rfl ?_
    refine j_iload_n hX dX11_lives_12 13 rfl 1 rfl rfl ?_
    obtain ⟨v4, hv4, hf⟩ := ibd hf
    refine z_i (As := [.int x1]) (rest := [.int x2]) (q0 := 0) hX dX11_lives_13 16 rfl (t_X11_end x1 hv4) mc_X11_end mv_X11_end ml_X11_120 rfl rfl (Nat.le_of_ble_eq_true rfl) (Nat.le_refl _) (Nat.le_refl _) rfl (Nat.le_of_ble_eq_true rfl) ?_
    refine j_icmp_gt hX dX11_lives_16 19 23 rfl rfl (fun h5 => ?_) (fun h5 => ?_)
    · replace hf := itt h5 hf
      refine j_sub [] rfl ?_
      exact t_X11_lives_23 hX hQ    hf
    · replace hf := itf h5 hf
      refine j_iconst (v := 1) hX dX11_lives_19 20 rfl (by decide) ?_
      refine j_goto hX dX11_lives_20 24 rfl ?_
      refine j_sub [] rfl ?_
      exact t_X11_lives_24 hX hQ   1 hf
def g_X11_parent_30 (m_father : Nat → Int32) (m_mother : Nat → Int32) (m_fatherGrade : Nat → Int32) (m_motherGrade : Nat → Int32) : Option (Int32 × Int32 × (Nat → Int32) × (Nat → Int32) × (Nat → Int32) × (Nat → Int32)) :=
  (f_X11_fail ).bind fun v3 => some (0, v3.2, m_father, m_mother, m_fatherGrade, m_motherGrade)
set_option maxRecDepth 100000 in
set_option maxHeartbeats 4000000 in
theorem t_X11_parent_30 {Y : YT} {r : Int32 × Int32 × (Nat → Int32) × (Nat → Int32) × (Nat → Int32) × (Nat → Int32)}  (hX : CX l G cX11_parent 7 RX11 Y) (hQ : EQi G Y 0 0 .boolean r.1 (WM G r.2.1 m_people m_grants m_texts m_copies m_taped m_faultPlace m_isFemale m_born m_died r.2.2.1 r.2.2.2.1 r.2.2.2.2.1 r.2.2.2.2.2 m_grantTo m_grantArms m_grantYear m_copyYear m_copyRow m_tape m_textYear m_ruleMany m_ruleFrom m_codeRow m_stack m_ruleKind m_codes m_at m_read m_token m_sign m_begins m_ends m_bad m_badPlace m_top m_lineLives m_markRow m_quarterMany m_quarters m_isUp m_wasUp ++ fr))   (hf : g_X11_parent_30 m_father m_mother m_fatherGrade m_motherGrade = some r) : J l G (rmD 3 0 0) Y 0 0 30 [(0, .ref (gm G 0))] [] (WM G m_code m_people m_grants m_texts m_copies m_taped m_faultPlace m_isFemale m_born m_died m_father m_mother m_fatherGrade m_motherGrade m_grantTo m_grantArms m_grantYear m_copyYear m_copyRow m_tape m_textYear m_ruleMany m_ruleFrom m_codeRow m_stack m_ruleKind m_codes m_at m_read m_token m_sign m_begins m_ends m_bad m_badPlace m_top m_lineLives m_markRow m_quarterMany m_quarters m_isUp m_wasUp ++ fr) := by
  unfold g_X11_parent_30 at hf
  refine j_aload_n hX dX11_parent_30 31 rfl 0 rfl rfl ?_
  obtain ⟨v3, hv3, hf⟩ := ibd hf
  refine z_i (As := []) (rest := []) (q0 := 0) hX dX11_parent_31 34 rfl (t_X11_fail  hv3) mc_X11_fail mv_X11_fail ml_X11_127 rfl rfl (Nat.le_of_ble_eq_true rfl) (Nat.le_refl _) (Nat.le_refl _) rfl (Nat.le_of_ble_eq_true rfl) ?_
  refine j_pop hX dX11_parent_34 35 rfl rfl ?_
  refine j_iconst (v := 0) hX dX11_parent_35 36 rfl (by decide) ?_
  replace hf := Option.some.inj hf
  subst hf
  exact j_zret hX hQ rfl dX11_parent_36
def g_X11_parent_241 (m_code : Int32) (m_father : Nat → Int32) (m_mother : Nat → Int32) (m_fatherGrade : Nat → Int32) (m_motherGrade : Nat → Int32) : Option (Int32 × Int32 × (Nat → Int32) × (Nat → Int32) × (Nat → Int32) × (Nat → Int32)) :=
  some (1, m_code, m_father, m_mother, m_fatherGrade, m_motherGrade)
set_option maxRecDepth 100000 in
set_option maxHeartbeats 4000000 in
theorem t_X11_parent_241 {Y : YT} {r : Int32 × Int32 × (Nat → Int32) × (Nat → Int32) × (Nat → Int32) × (Nat → Int32)}  (hX : CX l G cX11_parent 7 RX11 Y) (hQ : EQi G Y 0 0 .boolean r.1 (WM G r.2.1 m_people m_grants m_texts m_copies m_taped m_faultPlace m_isFemale m_born m_died r.2.2.1 r.2.2.2.1 r.2.2.2.2.1 r.2.2.2.2.2 m_grantTo m_grantArms m_grantYear m_copyYear m_copyRow m_tape m_textYear m_ruleMany m_ruleFrom m_codeRow m_stack m_ruleKind m_codes m_at m_read m_token m_sign m_begins m_ends m_bad m_badPlace m_top m_lineLives m_markRow m_quarterMany m_quarters m_isUp m_wasUp ++ fr))   (hf : g_X11_parent_241 m_code m_father m_mother m_fatherGrade m_motherGrade = some r) : J l G (rmD 3 0 0) Y 0 0 241 [] [] (WM G m_code m_people m_grants m_texts m_copies m_taped m_faultPlace m_isFemale m_born m_died m_father m_mother m_fatherGrade m_motherGrade m_grantTo m_grantArms m_grantYear m_copyYear m_copyRow m_tape m_textYear m_ruleMany m_ruleFrom m_codeRow m_stack m_ruleKind m_codes m_at m_read m_token m_sign m_begins m_ends m_bad m_badPlace m_top m_lineLives m_markRow m_quarterMany m_quarters m_isUp m_wasUp ++ fr) := by
  unfold g_X11_parent_241 at hf
  refine j_iconst (v := 1) hX dX11_parent_241 242 rfl (by decide) ?_
  replace hf := Option.some.inj hf
  subst hf
  exact j_zret hX hQ rfl dX11_parent_242
def g_X11_parent_197 (m_code : Int32) (m_father : Nat → Int32) (m_mother : Nat → Int32) (m_fatherGrade : Nat → Int32) (m_motherGrade : Nat → Int32) (x1 : Int32) (x2 : Int32) (x3 : Int32) (x4 : Int32) (x6 : Int32) : Option (Int32 × Int32 × (Nat → Int32) × (Nat → Int32) × (Nat → Int32) × (Nat → Int32)) :=
  if x6 = 0 then some (0, m_code, m_father, m_mother, m_fatherGrade, m_motherGrade) else if x2 = 0 then if inb x1 60 = true then if inb x1 60 = true then g_X11_parent_241 m_code (upd m_father (Int32.toNatClampNeg x1) x3) m_mother (upd m_fatherGrade (Int32.toNatClampNeg x1) x4) m_motherGrade else none else none else if inb x1 60 = true then if inb x1 60 = true then g_X11_parent_241 m_code m_father (upd m_mother (Int32.toNatClampNeg x1) x3) m_fatherGrade (upd m_motherGrade (Int32.toNatClampNeg x1) x4) else none else none
set_option maxRecDepth 100000 in
set_option maxHeartbeats 4000000 in
theorem t_X11_parent_197 {Y : YT} {r : Int32 × Int32 × (Nat → Int32) × (Nat → Int32) × (Nat → Int32) × (Nat → Int32)}  (hX : CX l G cX11_parent 7 RX11 Y) (hQ : EQi G Y 0 0 .boolean r.1 (WM G r.2.1 m_people m_grants m_texts m_copies m_taped m_faultPlace m_isFemale m_born m_died r.2.2.1 r.2.2.2.1 r.2.2.2.2.1 r.2.2.2.2.2 m_grantTo m_grantArms m_grantYear m_copyYear m_copyRow m_tape m_textYear m_ruleMany m_ruleFrom m_codeRow m_stack m_ruleKind m_codes m_at m_read m_token m_sign m_begins m_ends m_bad m_badPlace m_top m_lineLives m_markRow m_quarterMany m_quarters m_isUp m_wasUp ++ fr))  (x1 : Int32) (x2 : Int32) (x3 : Int32) (x4 : Int32) (x6 : Int32) (hf : g_X11_parent_197 m_code m_father m_mother m_fatherGrade m_motherGrade x1 x2 x3 x4 x6 = some r) : J l G (rmD 3 0 0) Y 0 0 197 [(0, .ref (gm G 0)), (1, .int x1), (2, .int x2), (3, .int x3), (4, .int x4), (6, .int x6)] [] (WM G m_code m_people m_grants m_texts m_copies m_taped m_faultPlace m_isFemale m_born m_died m_father m_mother m_fatherGrade m_motherGrade m_grantTo m_grantArms m_grantYear m_copyYear m_copyRow m_tape m_textYear m_ruleMany m_ruleFrom m_codeRow m_stack m_ruleKind m_codes m_at m_read m_token m_sign m_begins m_ends m_bad m_badPlace m_top m_lineLives m_markRow m_quarterMany m_quarters m_isUp m_wasUp ++ fr) := by
  unfold g_X11_parent_197 at hf
  refine j_iload hX dX11_parent_197 199 rfl 5 rfl ?_
  refine j_if_ne hX dX11_parent_199 202 204 rfl rfl (fun h13 => ?_) (fun h13 => ?_)
  · replace hf := itf h13 hf
    refine j_iload_n hX dX11_parent_204 205 rfl 2 rfl rfl ?_
    refine j_if_ne hX dX11_parent_205 208 226 rfl rfl (fun h14 => ?_) (fun h14 => ?_)
    · replace hf := itf h14 hf
      refine j_aload_n hX dX11_parent_226 227 rfl 0 rfl rfl ?_
      refine j_get hX dX11_parent_227 230 rfl fg_X11_48 0 rfl rfl ?_
      refine j_iload_n hX dX11_parent_230 231 rfl 1 rfl rfl ?_
      refine j_iload_n hX dX11_parent_231 232 rfl 3 rfl rfl ?_
      obtain ⟨hb15, hf⟩ := ign hf
      refine j_iast hX dX11_parent_232 233 rfl 6 rfl hb15 (ws' := (WM G m_code m_people m_grants m_texts m_copies m_taped m_faultPlace m_isFemale m_born m_died m_father (upd m_mother (Int32.toNatClampNeg x1) x3) m_fatherGrade m_motherGrade m_grantTo m_grantArms m_grantYear m_copyYear m_copyRow m_tape m_textYear m_ruleMany m_ruleFrom m_codeRow m_stack m_ruleKind m_codes m_at m_read m_token m_sign m_begins m_ends m_bad m_badPlace m_top m_lineLives m_markRow m_quarterMany m_quarters m_isUp m_wasUp ++ fr)) rfl ?_
      refine j_aload_n hX dX11_parent_233 234 rfl 0 rfl rfl ?_
      refine j_get hX dX11_parent_234 237 rfl fg_X11_54 0 rfl rfl ?_
      refine j_iload_n hX dX11_parent_237 238 rfl 1 rfl rfl ?_
      refine j_iload hX dX11_parent_238 240 rfl 4 rfl ?_
      obtain ⟨hb16, hf⟩ := ign hf
      refine j_iast hX dX11_parent_240 241 rfl 8 rfl hb16 (ws' := (WM G m_code m_people m_grants m_texts m_copies m_taped m_faultPlace m_isFemale m_born m_died m_father (upd m_mother (Int32.toNatClampNeg x1) x3) m_fatherGrade (upd m_motherGrade (Int32.toNatClampNeg x1) x4) m_grantTo m_grantArms m_grantYear m_copyYear m_copyRow m_tape m_textYear m_ruleMany m_ruleFrom m_codeRow m_stack m_ruleKind m_codes m_at m_read m_token m_sign m_begins m_ends m_bad m_badPlace m_top m_lineLives m_markRow m_quarterMany m_quarters m_isUp m_wasUp ++ fr)) rfl ?_
      refine j_sub [] rfl ?_
      exact t_X11_parent_241 hX hQ    hf
    · replace hf := itt h14 hf
      refine j_aload_n hX dX11_parent_208 209 rfl 0 rfl rfl ?_
      refine j_get hX dX11_parent_209 212 rfl fg_X11_45 0 rfl rfl ?_
      refine j_iload_n hX dX11_parent_212 213 rfl 1 rfl rfl ?_
      refine j_iload_n hX dX11_parent_213 214 rfl 3 rfl rfl ?_
      obtain ⟨hb17, hf⟩ := ign hf
      refine j_iast hX dX11_parent_214 215 rfl 5 rfl hb17 (ws' := (WM G m_code m_people m_grants m_texts m_copies m_taped m_faultPlace m_isFemale m_born m_died (upd m_father (Int32.toNatClampNeg x1) x3) m_mother m_fatherGrade m_motherGrade m_grantTo m_grantArms m_grantYear m_copyYear m_copyRow m_tape m_textYear m_ruleMany m_ruleFrom m_codeRow m_stack m_ruleKind m_codes m_at m_read m_token m_sign m_begins m_ends m_bad m_badPlace m_top m_lineLives m_markRow m_quarterMany m_quarters m_isUp m_wasUp ++ fr)) rfl ?_
      refine j_aload_n hX dX11_parent_215 216 rfl 0 rfl rfl ?_
      refine j_get hX dX11_parent_216 219 rfl fg_X11_51 0 rfl rfl ?_
      refine j_iload_n hX dX11_parent_219 220 rfl 1 rfl rfl ?_
      refine j_iload hX dX11_parent_220 222 rfl 4 rfl ?_
      obtain ⟨hb18, hf⟩ := ign hf
      refine j_iast hX dX11_parent_222 223 rfl 7 rfl hb18 (ws' := (WM G m_code m_people m_grants m_texts m_copies m_taped m_faultPlace m_isFemale m_born m_died (upd m_father (Int32.toNatClampNeg x1) x3) m_mother (upd m_fatherGrade (Int32.toNatClampNeg x1) x4) m_motherGrade m_grantTo m_grantArms m_grantYear m_copyYear m_copyRow m_tape m_textYear m_ruleMany m_ruleFrom m_codeRow m_stack m_ruleKind m_codes m_at m_read m_token m_sign m_begins m_ends m_bad m_badPlace m_top m_lineLives m_markRow m_quarterMany m_quarters m_isUp m_wasUp ++ fr)) rfl ?_
      refine j_goto hX dX11_parent_223 241 rfl ?_
      refine j_sub [] rfl ?_
      exact t_X11_parent_241 hX hQ    hf
  · replace hf := itt h13 hf
    refine j_iconst (v := 0) hX dX11_parent_202 203 rfl (by decide) ?_
    replace hf := Option.some.inj hf
    subst hf
    exact j_zret hX hQ rfl dX11_parent_203
def g_X11_parent_195 (m_code : Int32) (m_father : Nat → Int32) (m_mother : Nat → Int32) (m_fatherGrade : Nat → Int32) (m_motherGrade : Nat → Int32) (x1 : Int32) (x2 : Int32) (x3 : Int32) (x4 : Int32) (s0 : Int32) : Option (Int32 × Int32 × (Nat → Int32) × (Nat → Int32) × (Nat → Int32) × (Nat → Int32)) :=
  g_X11_parent_197 m_code m_father m_mother m_fatherGrade m_motherGrade x1 x2 x3 x4 s0
set_option maxRecDepth 100000 in
set_option maxHeartbeats 4000000 in
theorem t_X11_parent_195 {Y : YT} {r : Int32 × Int32 × (Nat → Int32) × (Nat → Int32) × (Nat → Int32) × (Nat → Int32)}  (hX : CX l G cX11_parent 7 RX11 Y) (hQ : EQi G Y 0 0 .boolean r.1 (WM G r.2.1 m_people m_grants m_texts m_copies m_taped m_faultPlace m_isFemale m_born m_died r.2.2.1 r.2.2.2.1 r.2.2.2.2.1 r.2.2.2.2.2 m_grantTo m_grantArms m_grantYear m_copyYear m_copyRow m_tape m_textYear m_ruleMany m_ruleFrom m_codeRow m_stack m_ruleKind m_codes m_at m_read m_token m_sign m_begins m_ends m_bad m_badPlace m_top m_lineLives m_markRow m_quarterMany m_quarters m_isUp m_wasUp ++ fr))  (x1 : Int32) (x2 : Int32) (x3 : Int32) (x4 : Int32) (s0 : Int32) (hf : g_X11_parent_195 m_code m_father m_mother m_fatherGrade m_motherGrade x1 x2 x3 x4 s0 = some r) : J l G (rmD 3 0 0) Y 0 0 195 [(0, .ref (gm G 0)), (1, .int x1), (2, .int x2), (3, .int x3), (4, .int x4)] [.int s0] (WM G m_code m_people m_grants m_texts m_copies m_taped m_faultPlace m_isFemale m_born m_died m_father m_mother m_fatherGrade m_motherGrade m_grantTo m_grantArms m_grantYear m_copyYear m_copyRow m_tape m_textYear m_ruleMany m_ruleFrom m_codeRow m_stack m_ruleKind m_codes m_at m_read m_token m_sign m_begins m_ends m_bad m_badPlace m_top m_lineLives m_markRow m_quarterMany m_quarters m_isUp m_wasUp ++ fr) := by
  unfold g_X11_parent_195 at hf
  refine j_istore hX dX11_parent_195 197 rfl (by decide) (lv' := [(6, .int s0), (0, .ref (gm G 0)), (1, .int x1), (2, .int x2), (3, .int x3), (4, .int x4)]) rfl ?_
  refine j_sub [1, 2, 3, 4, 5, 0] rfl ?_
  exact t_X11_parent_197 hX hQ   x1 x2 x3 x4 s0 hf
def g_X11_parent_194 (m_code : Int32) (m_father : Nat → Int32) (m_mother : Nat → Int32) (m_fatherGrade : Nat → Int32) (m_motherGrade : Nat → Int32) (x1 : Int32) (x2 : Int32) (x3 : Int32) (x4 : Int32) : Option (Int32 × Int32 × (Nat → Int32) × (Nat → Int32) × (Nat → Int32) × (Nat → Int32)) :=
  g_X11_parent_195 m_code m_father m_mother m_fatherGrade m_motherGrade x1 x2 x3 x4 0
set_option maxRecDepth 100000 in
set_option maxHeartbeats 4000000 in
theorem t_X11_parent_194 {Y : YT} {r : Int32 × Int32 × (Nat → Int32) × (Nat → Int32) × (Nat → Int32) × (Nat → Int32)}  (hX : CX l G cX11_parent 7 RX11 Y) (hQ : EQi G Y 0 0 .boolean r.1 (WM G r.2.1 m_people m_grants m_texts m_copies m_taped m_faultPlace m_isFemale m_born m_died r.2.2.1 r.2.2.2.1 r.2.2.2.2.1 r.2.2.2.2.2 m_grantTo m_grantArms m_grantYear m_copyYear m_copyRow m_tape m_textYear m_ruleMany m_ruleFrom m_codeRow m_stack m_ruleKind m_codes m_at m_read m_token m_sign m_begins m_ends m_bad m_badPlace m_top m_lineLives m_markRow m_quarterMany m_quarters m_isUp m_wasUp ++ fr))  (x1 : Int32) (x2 : Int32) (x3 : Int32) (x4 : Int32) (hf : g_X11_parent_194 m_code m_father m_mother m_fatherGrade m_motherGrade x1 x2 x3 x4 = some r) : J l G (rmD 3 0 0) Y 0 0 194 [(0, .ref (gm G 0)), (1, .int x1), (2, .int x2), (3, .int x3), (4, .int x4)] [] (WM G m_code m_people m_grants m_texts m_copies m_taped m_faultPlace m_isFemale m_born m_died m_father m_mother m_fatherGrade m_motherGrade m_grantTo m_grantArms m_grantYear m_copyYear m_copyRow m_tape m_textYear m_ruleMany m_ruleFrom m_codeRow m_stack m_ruleKind m_codes m_at m_read m_token m_sign m_begins m_ends m_bad m_badPlace m_top m_lineLives m_markRow m_quarterMany m_quarters m_isUp m_wasUp ++ fr) := by
  unfold g_X11_parent_194 at hf
  refine j_iconst (v := 0) hX dX11_parent_194 195 rfl (by decide) ?_
  exact t_X11_parent_195 hX hQ   x1 x2 x3 x4 0 hf
def g_X11_parent_133 (m_code : Int32) (m_father : Nat → Int32) (m_mother : Nat → Int32) (m_fatherGrade : Nat → Int32) (m_motherGrade : Nat → Int32) (x1 : Int32) (x2 : Int32) (x3 : Int32) (x4 : Int32) (s0 : Int32) : Option (Int32 × Int32 × (Nat → Int32) × (Nat → Int32) × (Nat → Int32) × (Nat → Int32)) :=
  g_X11_parent_197 m_code m_father m_mother m_fatherGrade m_motherGrade x1 x2 x3 x4 s0
set_option maxRecDepth 100000 in
set_option maxHeartbeats 4000000 in
theorem t_X11_parent_133 {Y : YT} {r : Int32 × Int32 × (Nat → Int32) × (Nat → Int32) × (Nat → Int32) × (Nat → Int32)}  (hX : CX l G cX11_parent 7 RX11 Y) (hQ : EQi G Y 0 0 .boolean r.1 (WM G r.2.1 m_people m_grants m_texts m_copies m_taped m_faultPlace m_isFemale m_born m_died r.2.2.1 r.2.2.2.1 r.2.2.2.2.1 r.2.2.2.2.2 m_grantTo m_grantArms m_grantYear m_copyYear m_copyRow m_tape m_textYear m_ruleMany m_ruleFrom m_codeRow m_stack m_ruleKind m_codes m_at m_read m_token m_sign m_begins m_ends m_bad m_badPlace m_top m_lineLives m_markRow m_quarterMany m_quarters m_isUp m_wasUp ++ fr))  (x1 : Int32) (x2 : Int32) (x3 : Int32) (x4 : Int32) (s0 : Int32) (hf : g_X11_parent_133 m_code m_father m_mother m_fatherGrade m_motherGrade x1 x2 x3 x4 s0 = some r) : J l G (rmD 3 0 0) Y 0 0 133 [(0, .ref (gm G 0)), (1, .int x1), (2, .int x2), (3, .int x3), (4, .int x4)] [.int s0] (WM G m_code m_people m_grants m_texts m_copies m_taped m_faultPlace m_isFemale m_born m_died m_father m_mother m_fatherGrade m_motherGrade m_grantTo m_grantArms m_grantYear m_copyYear m_copyRow m_tape m_textYear m_ruleMany m_ruleFrom m_codeRow m_stack m_ruleKind m_codes m_at m_read m_token m_sign m_begins m_ends m_bad m_badPlace m_top m_lineLives m_markRow m_quarterMany m_quarters m_isUp m_wasUp ++ fr) := by
  unfold g_X11_parent_133 at hf
  refine j_istore hX dX11_parent_133 135 rfl (by decide) (lv' := [(6, .int s0), (0, .ref (gm G 0)), (1, .int x1), (2, .int x2), (3, .int x3), (4, .int x4)]) rfl ?_
  refine j_goto hX dX11_parent_135 197 rfl ?_
  refine j_sub [1, 2, 3, 4, 5, 0] rfl ?_
  exact t_X11_parent_197 hX hQ   x1 x2 x3 x4 s0 hf
def g_X11_parent_132 (m_code : Int32) (m_father : Nat → Int32) (m_mother : Nat → Int32) (m_fatherGrade : Nat → Int32) (m_motherGrade : Nat → Int32) (x1 : Int32) (x2 : Int32) (x3 : Int32) (x4 : Int32) : Option (Int32 × Int32 × (Nat → Int32) × (Nat → Int32) × (Nat → Int32) × (Nat → Int32)) :=
  g_X11_parent_133 m_code m_father m_mother m_fatherGrade m_motherGrade x1 x2 x3 x4 0
set_option maxRecDepth 100000 in
set_option maxHeartbeats 4000000 in
theorem t_X11_parent_132 {Y : YT} {r : Int32 × Int32 × (Nat → Int32) × (Nat → Int32) × (Nat → Int32) × (Nat → Int32)}  (hX : CX l G cX11_parent 7 RX11 Y) (hQ : EQi G Y 0 0 .boolean r.1 (WM G r.2.1 m_people m_grants m_texts m_copies m_taped m_faultPlace m_isFemale m_born m_died r.2.2.1 r.2.2.2.1 r.2.2.2.2.1 r.2.2.2.2.2 m_grantTo m_grantArms m_grantYear m_copyYear m_copyRow m_tape m_textYear m_ruleMany m_ruleFrom m_codeRow m_stack m_ruleKind m_codes m_at m_read m_token m_sign m_begins m_ends m_bad m_badPlace m_top m_lineLives m_markRow m_quarterMany m_quarters m_isUp m_wasUp ++ fr))  (x1 : Int32) (x2 : Int32) (x3 : Int32) (x4 : Int32) (hf : g_X11_parent_132 m_code m_father m_mother m_fatherGrade m_motherGrade x1 x2 x3 x4 = some r) : J l G (rmD 3 0 0) Y 0 0 132 [(0, .ref (gm G 0)), (1, .int x1), (2, .int x2), (3, .int x3), (4, .int x4)] [] (WM G m_code m_people m_grants m_texts m_copies m_taped m_faultPlace m_isFemale m_born m_died m_father m_mother m_fatherGrade m_motherGrade m_grantTo m_grantArms m_grantYear m_copyYear m_copyRow m_tape m_textYear m_ruleMany m_ruleFrom m_codeRow m_stack m_ruleKind m_codes m_at m_read m_token m_sign m_begins m_ends m_bad m_badPlace m_top m_lineLives m_markRow m_quarterMany m_quarters m_isUp m_wasUp ++ fr) := by
  unfold g_X11_parent_132 at hf
  refine j_iconst (v := 0) hX dX11_parent_132 133 rfl (by decide) ?_
  exact t_X11_parent_133 hX hQ   x1 x2 x3 x4 0 hf
def g_X11_parent_75 (m_isFemale : Nat → Int32) (m_born : Nat → Int32) (m_died : Nat → Int32) (m_code : Int32) (m_father : Nat → Int32) (m_mother : Nat → Int32) (m_fatherGrade : Nat → Int32) (m_motherGrade : Nat → Int32) (x1 : Int32) (x2 : Int32) (x3 : Int32) (x4 : Int32) (x5 : Int32) (s0 : Int32) : Option (Int32 × Int32 × (Nat → Int32) × (Nat → Int32) × (Nat → Int32) × (Nat → Int32)) :=
  if x2 = 0 then if s0 = 0 then g_X11_parent_132 m_code m_father m_mother m_fatherGrade m_motherGrade x1 x2 x3 x4 else if inb x1 60 = true then if (m_father (Int32.toNatClampNeg x1)) = ((-1)) then if inb x3 60 = true then if (m_isFemale (Int32.toNatClampNeg x3)) = 0 then if x5 < 14 then g_X11_parent_132 m_code m_father m_mother m_fatherGrade m_motherGrade x1 x2 x3 x4 else (f_X11_end m_born m_died x3).bind fun v34 => if inb x1 60 = true then if v34 < ((m_born (Int32.toNatClampNeg x1)) - 1) then g_X11_parent_132 m_code m_father m_mother m_fatherGrade m_motherGrade x1 x2 x3 x4 else g_X11_parent_133 m_code m_father m_mother m_fatherGrade m_motherGrade x1 x2 x3 x4 1 else none else g_X11_parent_132 m_code m_father m_mother m_fatherGrade m_motherGrade x1 x2 x3 x4 else none else g_X11_parent_132 m_code m_father m_mother m_fatherGrade m_motherGrade x1 x2 x3 x4 else none else if s0 = 0 then g_X11_parent_194 m_code m_father m_mother m_fatherGrade m_motherGrade x1 x2 x3 x4 else if inb x1 60 = true then if (m_mother (Int32.toNatClampNeg x1)) = ((-1)) then if inb x3 60 = true then if (m_isFemale (Int32.toNatClampNeg x3)) = 0 then g_X11_parent_194 m_code m_father m_mother m_fatherGrade m_motherGrade x1 x2 x3 x4 else if x5 < 14 then g_X11_parent_194 m_code m_father m_mother m_fatherGrade m_motherGrade x1 x2 x3 x4 else if 50 < x5 then g_X11_parent_194 m_code m_father m_mother m_fatherGrade m_motherGrade x1 x2 x3 x4 else if inb x1 60 = true then (f_X11_lives m_born m_died x3 (m_born (Int32.toNatClampNeg x1))).bind fun v26 => if v26 = 0 then g_X11_parent_194 m_code m_father m_mother m_fatherGrade m_motherGrade x1 x2 x3 x4 else g_X11_parent_195 m_code m_father m_mother m_fatherGrade m_motherGrade x1 x2 x3 x4 1 else none else none else g_X11_parent_194 m_code m_father m_mother m_fatherGrade m_motherGrade x1 x2 x3 x4 else none
set_option maxRecDepth 100000 in
set_option maxHeartbeats 4000000 in
theorem t_X11_parent_75 {Y : YT} {r : Int32 × Int32 × (Nat → Int32) × (Nat → Int32) × (Nat → Int32) × (Nat → Int32)}  (hX : CX l G cX11_parent 7 RX11 Y) (hQ : EQi G Y 0 0 .boolean r.1 (WM G r.2.1 m_people m_grants m_texts m_copies m_taped m_faultPlace m_isFemale m_born m_died r.2.2.1 r.2.2.2.1 r.2.2.2.2.1 r.2.2.2.2.2 m_grantTo m_grantArms m_grantYear m_copyYear m_copyRow m_tape m_textYear m_ruleMany m_ruleFrom m_codeRow m_stack m_ruleKind m_codes m_at m_read m_token m_sign m_begins m_ends m_bad m_badPlace m_top m_lineLives m_markRow m_quarterMany m_quarters m_isUp m_wasUp ++ fr))  (x1 : Int32) (x2 : Int32) (x3 : Int32) (x4 : Int32) (x5 : Int32) (s0 : Int32) (hf : g_X11_parent_75 m_isFemale m_born m_died m_code m_father m_mother m_fatherGrade m_motherGrade x1 x2 x3 x4 x5 s0 = some r) : J l G (rmD 3 0 0) Y 0 0 75 [(0, .ref (gm G 0)), (1, .int x1), (2, .int x2), (3, .int x3), (4, .int x4), (5, .int x5)] [.int s0] (WM G m_code m_people m_grants m_texts m_copies m_taped m_faultPlace m_isFemale m_born m_died m_father m_mother m_fatherGrade m_motherGrade m_grantTo m_grantArms m_grantYear m_copyYear m_copyRow m_tape m_textYear m_ruleMany m_ruleFrom m_codeRow m_stack m_ruleKind m_codes m_at m_read m_token m_sign m_begins m_ends m_bad m_badPlace m_top m_lineLives m_markRow m_quarterMany m_quarters m_isUp m_wasUp ++ fr) := by
  unfold g_X11_parent_75 at hf
  refine j_istore hX dX11_parent_75 77 rfl (by decide) (lv' := [(6, .int s0), (0, .ref (gm G 0)), (1, .int x1), (2, .int x2), (3, .int x3), (4, .int x4), (5, .int x5)]) rfl ?_
  refine j_iload_n hX dX11_parent_77 78 rfl 3 rfl rfl ?_
  refine j_if_ne hX dX11_parent_78 81 138 rfl rfl (fun h11 => ?_) (fun h11 => ?_)
  · replace hf := itf h11 hf
    refine j_iload hX dX11_parent_138 140 rfl 0 rfl ?_
    refine j_if_eq hX dX11_parent_140 143 194 rfl rfl (fun h12 => ?_) (fun h12 => ?_)
    · replace hf := itt h12 hf
      refine j_sub [1, 2, 3, 4, 5] rfl ?_
      exact t_X11_parent_194 hX hQ   x1 x2 x3 x4 hf
    · replace hf := itf h12 hf
      refine j_aload_n hX dX11_parent_143 144 rfl 1 rfl rfl ?_
      refine j_get hX dX11_parent_144 147 rfl fg_X11_48 0 rfl rfl ?_
      refine j_iload_n hX dX11_parent_147 148 rfl 2 rfl rfl ?_
      obtain ⟨hb19, hf⟩ := ign hf
      refine j_iald hX dX11_parent_148 149 rfl 6 rfl hb19 ?_
      refine j_iconst (v := (-1)) hX dX11_parent_149 150 rfl (by decide) ?_
      refine j_icmp_ne hX dX11_parent_150 153 194 rfl rfl (fun h20 => ?_) (fun h20 => ?_)
      · replace hf := itf h20 hf
        refine j_sub [1, 2, 3, 4, 5] rfl ?_
        exact t_X11_parent_194 hX hQ   x1 x2 x3 x4 hf
      · replace hf := itt h20 hf
        refine j_aload_n hX dX11_parent_153 154 rfl 1 rfl rfl ?_
        refine j_get hX dX11_parent_154 157 rfl fg_X11_35 0 rfl rfl ?_
        refine j_iload_n hX dX11_parent_157 158 rfl 4 rfl rfl ?_
        obtain ⟨hb21, hf⟩ := ign hf
        refine j_zald hX dX11_parent_158 159 rfl 2 rfl hb21 ?_
        refine j_if_eq hX dX11_parent_159 162 194 rfl rfl (fun h22 => ?_) (fun h22 => ?_)
        · replace hf := itt h22 hf
          refine j_sub [1, 2, 3, 4, 5] rfl ?_
          exact t_X11_parent_194 hX hQ   x1 x2 x3 x4 hf
        · replace hf := itf h22 hf
          refine j_iload hX dX11_parent_162 164 rfl 6 rfl ?_
          refine j_bipush (v := 14) hX dX11_parent_164 166 rfl (by decide) ?_
          refine j_icmp_lt hX dX11_parent_166 169 194 rfl rfl (fun h23 => ?_) (fun h23 => ?_)
          · replace hf := itt h23 hf
            refine j_sub [1, 2, 3, 4, 5] rfl ?_
            exact t_X11_parent_194 hX hQ   x1 x2 x3 x4 hf
          · replace hf := itf h23 hf
            refine j_iload hX dX11_parent_169 171 rfl 6 rfl ?_
            refine j_bipush (v := 50) hX dX11_parent_171 173 rfl (by decide) ?_
            refine j_icmp_gt hX dX11_parent_173 176 194 rfl rfl (fun h24 => ?_) (fun h24 => ?_)
            · replace hf := itt h24 hf
              refine j_sub [1, 2, 3, 4, 5] rfl ?_
              exact t_X11_parent_194 hX hQ   x1 x2 x3 x4 hf
            · replace hf := itf h24 hf
              refine j_aload_n hX dX11_parent_176 177 rfl 1 rfl rfl ?_
              refine j_iload_n hX dX11_parent_177 178 rfl 4 rfl rfl ?_
              refine j_aload_n hX dX11_parent_178 179 rfl 1 rfl rfl ?_
              refine j_get hX dX11_parent_179 182 rfl fg_X11_39 0 rfl rfl ?_
              refine j_iload_n hX dX11_parent_182 183 rfl 2 rfl rfl ?_
              obtain ⟨hb25, hf⟩ := ign hf
              refine j_iald hX dX11_parent_183 184 rfl 3 rfl hb25 ?_
              obtain ⟨v26, hv26, hf⟩ := ibd hf
              refine z_i (As := [.int x3, .int (m_born (Int32.toNatClampNeg x1))]) (rest := []) (q0 := 0) hX dX11_parent_184 187 rfl (t_X11_lives x3 (m_born (Int32.toNatClampNeg x1)) hv26) mc_X11_lives mv_X11_lives ml_X11_131 rfl rfl (Nat.le_of_ble_eq_true rfl) (Nat.le_refl _) (Nat.le_refl _) rfl (Nat.le_of_ble_eq_true rfl) ?_
              refine j_if_eq hX dX11_parent_187 190 194 rfl rfl (fun h27 => ?_) (fun h27 => ?_)
              · replace hf := itt h27 hf
                refine j_sub [1, 2, 3, 4, 5] rfl ?_
                exact t_X11_parent_194 hX hQ   x1 x2 x3 x4 hf
              · replace hf := itf h27 hf
                refine j_iconst (v := 1) hX dX11_parent_190 191 rfl (by decide) ?_
                refine j_goto hX dX11_parent_191 195 rfl ?_
                refine j_sub [1, 2, 3, 4, 5] rfl ?_
                exact t_X11_parent_195 hX hQ   x1 x2 x3 x4 1 hf
  · replace hf := itt h11 hf
    refine j_iload hX dX11_parent_81 83 rfl 0 rfl ?_
    refine j_if_eq hX dX11_parent_83 86 132 rfl rfl (fun h28 => ?_) (fun h28 => ?_)
    · replace hf := itt h28 hf
      refine j_sub [1, 2, 3, 4, 5] rfl ?_
      exact t_X11_parent_132 hX hQ   x1 x2 x3 x4 hf
    · replace hf := itf h28 hf
      refine j_aload_n hX dX11_parent_86 87 rfl 1 rfl rfl ?_
      refine j_get hX dX11_parent_87 90 rfl fg_X11_45 0 rfl rfl ?_
      refine j_iload_n hX dX11_parent_90 91 rfl 2 rfl rfl ?_
      obtain ⟨hb29, hf⟩ := ign hf
      refine j_iald hX dX11_parent_91 92 rfl 5 rfl hb29 ?_
      refine j_iconst (v := (-1)) hX dX11_parent_92 93 rfl (by decide) ?_
      refine j_icmp_ne hX dX11_parent_93 96 132 rfl rfl (fun h30 => ?_) (fun h30 => ?_)
      · replace hf := itf h30 hf
        refine j_sub [1, 2, 3, 4, 5] rfl ?_
        exact t_X11_parent_132 hX hQ   x1 x2 x3 x4 hf
      · replace hf := itt h30 hf
        refine j_aload_n hX dX11_parent_96 97 rfl 1 rfl rfl ?_
        refine j_get hX dX11_parent_97 100 rfl fg_X11_35 0 rfl rfl ?_
        refine j_iload_n hX dX11_parent_100 101 rfl 4 rfl rfl ?_
        obtain ⟨hb31, hf⟩ := ign hf
        refine j_zald hX dX11_parent_101 102 rfl 2 rfl hb31 ?_
        refine j_if_ne hX dX11_parent_102 105 132 rfl rfl (fun h32 => ?_) (fun h32 => ?_)
        · replace hf := itf h32 hf
          refine j_sub [1, 2, 3, 4, 5] rfl ?_
          exact t_X11_parent_132 hX hQ   x1 x2 x3 x4 hf
        · replace hf := itt h32 hf
          refine j_iload hX dX11_parent_105 107 rfl 6 rfl ?_
          refine j_bipush (v := 14) hX dX11_parent_107 109 rfl (by decide) ?_
          refine j_icmp_lt hX dX11_parent_109 112 132 rfl rfl (fun h33 => ?_) (fun h33 => ?_)
          · replace hf := itt h33 hf
            refine j_sub [1, 2, 3, 4, 5] rfl ?_
            exact t_X11_parent_132 hX hQ   x1 x2 x3 x4 hf
          · replace hf := itf h33 hf
            refine j_aload_n hX dX11_parent_112 113 rfl 1 rfl rfl ?_
            refine j_iload_n hX dX11_parent_113 114 rfl 4 rfl rfl ?_
            obtain ⟨v34, hv34, hf⟩ := ibd hf
            refine z_i (As := [.int x3]) (rest := []) (q0 := 0) hX dX11_parent_114 117 rfl (t_X11_end x3 hv34) mc_X11_end mv_X11_end ml_X11_120 rfl rfl (Nat.le_of_ble_eq_true rfl) (Nat.le_refl _) (Nat.le_refl _) rfl (Nat.le_of_ble_eq_true rfl) ?_
            refine j_aload_n hX dX11_parent_117 118 rfl 1 rfl rfl ?_
            refine j_get hX dX11_parent_118 121 rfl fg_X11_39 0 rfl rfl ?_
            refine j_iload_n hX dX11_parent_121 122 rfl 2 rfl rfl ?_
            obtain ⟨hb35, hf⟩ := ign hf
            refine j_iald hX dX11_parent_122 123 rfl 3 rfl hb35 ?_
            refine j_iconst (v := 1) hX dX11_parent_123 124 rfl (by decide) ?_
            refine j_isub hX dX11_parent_124 125 rfl ?_
            refine j_icmp_lt hX dX11_parent_125 128 132 rfl rfl (fun h36 => ?_) (fun h36 => ?_)
            · replace hf := itt h36 hf
              refine j_sub [1, 2, 3, 4, 5] rfl ?_
              exact t_X11_parent_132 hX hQ   x1 x2 x3 x4 hf
            · replace hf := itf h36 hf
              refine j_iconst (v := 1) hX dX11_parent_128 129 rfl (by decide) ?_
              refine j_goto hX dX11_parent_129 133 rfl ?_
              refine j_sub [1, 2, 3, 4, 5] rfl ?_
              exact t_X11_parent_133 hX hQ   x1 x2 x3 x4 1 hf
def g_X11_parent_74 (m_isFemale : Nat → Int32) (m_born : Nat → Int32) (m_died : Nat → Int32) (m_code : Int32) (m_father : Nat → Int32) (m_mother : Nat → Int32) (m_fatherGrade : Nat → Int32) (m_motherGrade : Nat → Int32) (x1 : Int32) (x2 : Int32) (x3 : Int32) (x4 : Int32) (x5 : Int32) : Option (Int32 × Int32 × (Nat → Int32) × (Nat → Int32) × (Nat → Int32) × (Nat → Int32)) :=
  g_X11_parent_75 m_isFemale m_born m_died m_code m_father m_mother m_fatherGrade m_motherGrade x1 x2 x3 x4 x5 0
set_option maxRecDepth 100000 in
set_option maxHeartbeats 4000000 in
theorem t_X11_parent_74 {Y : YT} {r : Int32 × Int32 × (Nat → Int32) × (Nat → Int32) × (Nat → Int32) × (Nat → Int32)}  (hX : CX l G cX11_parent 7 RX11 Y) (hQ : EQi G Y 0 0 .boolean r.1 (WM G r.2.1 m_people m_grants m_texts m_copies m_taped m_faultPlace m_isFemale m_born m_died r.2.2.1 r.2.2.2.1 r.2.2.2.2.1 r.2.2.2.2.2 m_grantTo m_grantArms m_grantYear m_copyYear m_copyRow m_tape m_textYear m_ruleMany m_ruleFrom m_codeRow m_stack m_ruleKind m_codes m_at m_read m_token m_sign m_begins m_ends m_bad m_badPlace m_top m_lineLives m_markRow m_quarterMany m_quarters m_isUp m_wasUp ++ fr))  (x1 : Int32) (x2 : Int32) (x3 : Int32) (x4 : Int32) (x5 : Int32) (hf : g_X11_parent_74 m_isFemale m_born m_died m_code m_father m_mother m_fatherGrade m_motherGrade x1 x2 x3 x4 x5 = some r) : J l G (rmD 3 0 0) Y 0 0 74 [(0, .ref (gm G 0)), (1, .int x1), (2, .int x2), (3, .int x3), (4, .int x4), (5, .int x5)] [] (WM G m_code m_people m_grants m_texts m_copies m_taped m_faultPlace m_isFemale m_born m_died m_father m_mother m_fatherGrade m_motherGrade m_grantTo m_grantArms m_grantYear m_copyYear m_copyRow m_tape m_textYear m_ruleMany m_ruleFrom m_codeRow m_stack m_ruleKind m_codes m_at m_read m_token m_sign m_begins m_ends m_bad m_badPlace m_top m_lineLives m_markRow m_quarterMany m_quarters m_isUp m_wasUp ++ fr) := by
  unfold g_X11_parent_74 at hf
  refine j_iconst (v := 0) hX dX11_parent_74 75 rfl (by decide) ?_
  exact t_X11_parent_75 hX hQ   x1 x2 x3 x4 x5 0 hf
def f_X11_parent (m_people : Int32) (m_isFemale : Nat → Int32) (m_born : Nat → Int32) (m_died : Nat → Int32) (m_father : Nat → Int32) (m_mother : Nat → Int32) (m_fatherGrade : Nat → Int32) (m_motherGrade : Nat → Int32) (x1 : Int32) (x2 : Int32) (x3 : Int32) (x4 : Int32) : Option (Int32 × Int32 × (Nat → Int32) × (Nat → Int32) × (Nat → Int32) × (Nat → Int32)) :=
  (f_X11_is m_people x1).bind fun v1 => if v1 = 0 then g_X11_parent_30 m_father m_mother m_fatherGrade m_motherGrade else (f_X11_is m_people x3).bind fun v4 => if v4 = 0 then g_X11_parent_30 m_father m_mother m_fatherGrade m_motherGrade else if x2 < 0 then g_X11_parent_30 m_father m_mother m_fatherGrade m_motherGrade else if x2 ≤ 1 then if inb x1 60 = true then if inb x3 60 = true then if x4 < 1 then g_X11_parent_74 m_isFemale m_born m_died 0 m_father m_mother m_fatherGrade m_motherGrade x1 x2 x3 x4 ((m_born (Int32.toNatClampNeg x1)) - (m_born (Int32.toNatClampNeg x3))) else if 9 < x4 then g_X11_parent_74 m_isFemale m_born m_died 0 m_father m_mother m_fatherGrade m_motherGrade x1 x2 x3 x4 ((m_born (Int32.toNatClampNeg x1)) - (m_born (Int32.toNatClampNeg x3))) else if x1 ≤ x3 then g_X11_parent_74 m_isFemale m_born m_died 0 m_father m_mother m_fatherGrade m_motherGrade x1 x2 x3 x4 ((m_born (Int32.toNatClampNeg x1)) - (m_born (Int32.toNatClampNeg x3))) else g_X11_parent_75 m_isFemale m_born m_died 0 m_father m_mother m_fatherGrade m_motherGrade x1 x2 x3 x4 ((m_born (Int32.toNatClampNeg x1)) - (m_born (Int32.toNatClampNeg x3))) 1 else none else none else g_X11_parent_30 m_father m_mother m_fatherGrade m_motherGrade
set_option maxRecDepth 100000 in
set_option maxHeartbeats 4000000 in
theorem t_X11_parent  (x1 : Int32) (x2 : Int32) (x3 : Int32) (x4 : Int32) {r : Int32 × Int32 × (Nat → Int32) × (Nat → Int32) × (Nat → Int32) × (Nat → Int32)} (hf : f_X11_parent m_people m_isFemale m_born m_died m_father m_mother m_fatherGrade m_motherGrade x1 x2 x3 x4 = some r) : Ci l G 3 0 0 yX11_parent cX11_parent 7 .boolean [.ref (gm G 0), .int x1, .int x2, .int x3, .int x4] (WM G m_code m_people m_grants m_texts m_copies m_taped m_faultPlace m_isFemale m_born m_died m_father m_mother m_fatherGrade m_motherGrade m_grantTo m_grantArms m_grantYear m_copyYear m_copyRow m_tape m_textYear m_ruleMany m_ruleFrom m_codeRow m_stack m_ruleKind m_codes m_at m_read m_token m_sign m_begins m_ends m_bad m_badPlace m_top m_lineLives m_markRow m_quarterMany m_quarters m_isUp m_wasUp ++ fr) r.1 (WM G r.2.1 m_people m_grants m_texts m_copies m_taped m_faultPlace m_isFemale m_born m_died r.2.2.1 r.2.2.2.1 r.2.2.2.2.1 r.2.2.2.2.2 m_grantTo m_grantArms m_grantYear m_copyYear m_copyRow m_tape m_textYear m_ruleMany m_ruleFrom m_codeRow m_stack m_ruleKind m_codes m_at m_read m_token m_sign m_begins m_ends m_bad m_badPlace m_top m_lineLives m_markRow m_quarterMany m_quarters m_isUp m_wasUp ++ fr) := by
  refine Ci.of (by decide) (Nat.le_of_ble_eq_true rfl) (fun Y hX hQ => ?_)
  refine j_lv (lv' := [(0, .ref (gm G 0)), (1, .int x1), (2, .int x2), (3, .int x3), (4, .int x4)]) rfl ?_
  unfold f_X11_parent at hf
  refine j_aload_n hX dX11_parent_0 1 rfl 0 rfl rfl ?_
  refine j_iconst (v := 0) hX dX11_parent_1 2 rfl (by decide) ?_
  refine j_put hX dX11_parent_2 5 rfl fg_X11_110 ft_X11_1 0 rfl rfl rfl (Nat.le_of_ble_eq_true rfl) (ws' := (WM G 0 m_people m_grants m_texts m_copies m_taped m_faultPlace m_isFemale m_born m_died m_father m_mother m_fatherGrade m_motherGrade m_grantTo m_grantArms m_grantYear m_copyYear m_copyRow m_tape m_textYear m_ruleMany m_ruleFrom m_codeRow m_stack m_ruleKind m_codes m_at m_read m_token m_sign m_begins m_ends m_bad m_badPlace m_top m_lineLives m_markRow m_quarterMany m_quarters m_isUp m_wasUp ++ fr)) rfl ?_
  refine j_aload_n hX dX11_parent_5 6 rfl 0 rfl rfl ?_
  refine j_iload_n hX dX11_parent_6 7 rfl 1 rfl rfl ?_
  obtain ⟨v1, hv1, hf⟩ := ibd hf
  refine z_i (As := [.int x1]) (rest := []) (q0 := 0) hX dX11_parent_7 10 rfl (t_X11_is x1 hv1) mc_X11_is mv_X11_is ml_X11_124 rfl rfl (Nat.le_of_ble_eq_true rfl) (Nat.le_refl _) (Nat.le_refl _) rfl (Nat.le_of_ble_eq_true rfl) ?_
  refine j_if_eq hX dX11_parent_10 13 30 rfl rfl (fun h2 => ?_) (fun h2 => ?_)
  · replace hf := itt h2 hf
    refine j_sub [0] rfl ?_
    exact t_X11_parent_30 hX hQ    hf
  · replace hf := itf h2 hf
    refine j_aload_n hX dX11_parent_13 14 rfl 0 rfl rfl ?_
    refine j_iload_n hX dX11_parent_14 15 rfl 3 rfl rfl ?_
    obtain ⟨v4, hv4, hf⟩ := ibd hf
    refine z_i (As := [.int x3]) (rest := []) (q0 := 0) hX dX11_parent_15 18 rfl (t_X11_is x3 hv4) mc_X11_is mv_X11_is ml_X11_124 rfl rfl (Nat.le_of_ble_eq_true rfl) (Nat.le_refl _) (Nat.le_refl _) rfl (Nat.le_of_ble_eq_true rfl) ?_
    refine j_if_eq hX dX11_parent_18 21 30 rfl rfl (fun h5 => ?_) (fun h5 => ?_)
    · replace hf := itt h5 hf
      refine j_sub [0] rfl ?_
      exact t_X11_parent_30 hX hQ    hf
    · replace hf := itf h5 hf
      refine j_iload_n hX dX11_parent_21 22 rfl 2 rfl rfl ?_
      refine j_if_lt hX dX11_parent_22 25 30 rfl rfl (fun h6 => ?_) (fun h6 => ?_)
      · replace hf := itt h6 hf
        refine j_sub [0] rfl ?_
        exact t_X11_parent_30 hX hQ    hf
      · replace hf := itf h6 hf
        refine j_iload_n hX dX11_parent_25 26 rfl 2 rfl rfl ?_
        refine j_iconst (v := 1) hX dX11_parent_26 27 rfl (by decide) ?_
        refine j_icmp_le hX dX11_parent_27 30 37 rfl rfl (fun h7 => ?_) (fun h7 => ?_)
        · replace hf := itt h7 hf
          refine j_aload_n hX dX11_parent_37 38 rfl 0 rfl rfl ?_
          refine j_get hX dX11_parent_38 41 rfl fg_X11_39 0 rfl rfl ?_
          refine j_iload_n hX dX11_parent_41 42 rfl 1 rfl rfl ?_
          obtain ⟨hb8, hf⟩ := ign hf
          refine j_iald hX dX11_parent_42 43 rfl 3 rfl hb8 ?_
          refine j_aload_n hX dX11_parent_43 44 rfl 0 rfl rfl ?_
          refine j_get hX dX11_parent_44 47 rfl fg_X11_39 0 rfl rfl ?_
          refine j_iload_n hX dX11_parent_47 48 rfl 3 rfl rfl ?_
          obtain ⟨hb9, hf⟩ := ign hf
          refine j_iald hX dX11_parent_48 49 rfl 3 rfl hb9 ?_
          refine j_isub hX dX11_parent_49 50 rfl ?_
          refine j_istore hX dX11_parent_50 52 rfl (by decide) (lv' := [(5, .int ((m_born (Int32.toNatClampNeg x1)) - (m_born (Int32.toNatClampNeg x3)))), (0, .ref (gm G 0)), (1, .int x1), (2, .int x2), (3, .int x3), (4, .int x4)]) rfl ?_
          refine j_iload hX dX11_parent_52 54 rfl 5 rfl ?_
          refine j_iconst (v := 1) hX dX11_parent_54 55 rfl (by decide) ?_
          refine j_icmp_lt hX dX11_parent_55 58 74 rfl rfl (fun h10 => ?_) (fun h10 => ?_)
          · replace hf := itt h10 hf
            refine j_sub [1, 2, 3, 4, 5, 0] rfl ?_
            exact t_X11_parent_74 hX hQ   x1 x2 x3 x4 ((m_born (Int32.toNatClampNeg x1)) - (m_born (Int32.toNatClampNeg x3))) hf
          · replace hf := itf h10 hf
            refine j_iload hX dX11_parent_58 60 rfl 5 rfl ?_
            refine j_bipush (v := 9) hX dX11_parent_60 62 rfl (by decide) ?_
            refine j_icmp_gt hX dX11_parent_62 65 74 rfl rfl (fun h37 => ?_) (fun h37 => ?_)
            · replace hf := itt h37 hf
              refine j_sub [1, 2, 3, 4, 5, 0] rfl ?_
              exact t_X11_parent_74 hX hQ   x1 x2 x3 x4 ((m_born (Int32.toNatClampNeg x1)) - (m_born (Int32.toNatClampNeg x3))) hf
            · replace hf := itf h37 hf
              refine j_iload_n hX dX11_parent_65 66 rfl 4 rfl rfl ?_
              refine j_iload_n hX dX11_parent_66 67 rfl 2 rfl rfl ?_
              refine j_icmp_ge hX dX11_parent_67 70 74 rfl rfl (fun h38 => ?_) (fun h38 => ?_)
              · replace hf := itt h38 hf
                refine j_sub [1, 2, 3, 4, 5, 0] rfl ?_
                exact t_X11_parent_74 hX hQ   x1 x2 x3 x4 ((m_born (Int32.toNatClampNeg x1)) - (m_born (Int32.toNatClampNeg x3))) hf
              · replace hf := itf h38 hf
                refine j_iconst (v := 1) hX dX11_parent_70 71 rfl (by decide) ?_
                refine j_goto hX dX11_parent_71 75 rfl ?_
                refine j_sub [1, 2, 3, 4, 5, 0] rfl ?_
                exact t_X11_parent_75 hX hQ   x1 x2 x3 x4 ((m_born (Int32.toNatClampNeg x1)) - (m_born (Int32.toNatClampNeg x3))) 1 hf
        · replace hf := itf h7 hf
          refine j_sub [0] rfl ?_
          exact t_X11_parent_30 hX hQ    hf
def g_X11_grant_45 (m_code : Int32) (m_grants : Int32) (m_grantTo : Nat → Int32) (m_grantArms : Nat → Int32) (m_grantYear : Nat → Int32) : Option (Int32 × Int32 × Int32 × (Nat → Int32) × (Nat → Int32) × (Nat → Int32)) :=
  some ((-1), m_code, m_grants, m_grantTo, m_grantArms, m_grantYear)
set_option maxRecDepth 100000 in
set_option maxHeartbeats 4000000 in
theorem t_X11_grant_45 {Y : YT} {r : Int32 × Int32 × Int32 × (Nat → Int32) × (Nat → Int32) × (Nat → Int32)}  (hX : CX l G cX11_grant 4 RX11 Y) (hQ : EQi G Y 0 0 .int r.1 (WM G r.2.1 m_people r.2.2.1 m_texts m_copies m_taped m_faultPlace m_isFemale m_born m_died m_father m_mother m_fatherGrade m_motherGrade r.2.2.2.1 r.2.2.2.2.1 r.2.2.2.2.2 m_copyYear m_copyRow m_tape m_textYear m_ruleMany m_ruleFrom m_codeRow m_stack m_ruleKind m_codes m_at m_read m_token m_sign m_begins m_ends m_bad m_badPlace m_top m_lineLives m_markRow m_quarterMany m_quarters m_isUp m_wasUp ++ fr))   (hf : g_X11_grant_45 m_code m_grants m_grantTo m_grantArms m_grantYear = some r) : J l G (rmD 2 0 0) Y 0 0 45 [] [] (WM G m_code m_people m_grants m_texts m_copies m_taped m_faultPlace m_isFemale m_born m_died m_father m_mother m_fatherGrade m_motherGrade m_grantTo m_grantArms m_grantYear m_copyYear m_copyRow m_tape m_textYear m_ruleMany m_ruleFrom m_codeRow m_stack m_ruleKind m_codes m_at m_read m_token m_sign m_begins m_ends m_bad m_badPlace m_top m_lineLives m_markRow m_quarterMany m_quarters m_isUp m_wasUp ++ fr) := by
  unfold g_X11_grant_45 at hf
  refine j_iconst (v := (-1)) hX dX11_grant_45 46 rfl (by decide) ?_
  replace hf := Option.some.inj hf
  subst hf
  exact j_iret hX hQ dX11_grant_46
def f_X11_grant (m_people : Int32) (m_grants : Int32) (m_grantTo : Nat → Int32) (m_grantArms : Nat → Int32) (m_grantYear : Nat → Int32) (x1 : Int32) (x2 : Int32) (x3 : Int32) : Option (Int32 × Int32 × Int32 × (Nat → Int32) × (Nat → Int32) × (Nat → Int32)) :=
  (f_X11_is m_people x1).bind fun v1 => if v1 = 0 then (f_X11_fail ).bind fun v11 => some (v11.1, v11.2, m_grants, m_grantTo, m_grantArms, m_grantYear) else if m_grants = 40 then g_X11_grant_45 0 m_grants m_grantTo m_grantArms m_grantYear else if x2 < 1 then g_X11_grant_45 0 m_grants m_grantTo m_grantArms m_grantYear else if 99 < x2 then g_X11_grant_45 0 m_grants m_grantTo m_grantArms m_grantYear else (f_X11_isYear x3).bind fun v6 => if v6 = 0 then g_X11_grant_45 0 m_grants m_grantTo m_grantArms m_grantYear else if inb m_grants 40 = true then if inb m_grants 40 = true then if inb m_grants 40 = true then some ((m_grants + 1) - 1, 0, m_grants + 1, upd m_grantTo (Int32.toNatClampNeg m_grants) x1, upd m_grantArms (Int32.toNatClampNeg m_grants) x2, upd m_grantYear (Int32.toNatClampNeg m_grants) x3) else none else none else none
set_option maxRecDepth 100000 in
set_option maxHeartbeats 4000000 in
theorem t_X11_grant  (x1 : Int32) (x2 : Int32) (x3 : Int32) {r : Int32 × Int32 × Int32 × (Nat → Int32) × (Nat → Int32) × (Nat → Int32)} (hf : f_X11_grant m_people m_grants m_grantTo m_grantArms m_grantYear x1 x2 x3 = some r) : Ci l G 2 0 0 yX11_grant cX11_grant 4 .int [.ref (gm G 0), .int x1, .int x2, .int x3] (WM G m_code m_people m_grants m_texts m_copies m_taped m_faultPlace m_isFemale m_born m_died m_father m_mother m_fatherGrade m_motherGrade m_grantTo m_grantArms m_grantYear m_copyYear m_copyRow m_tape m_textYear m_ruleMany m_ruleFrom m_codeRow m_stack m_ruleKind m_codes m_at m_read m_token m_sign m_begins m_ends m_bad m_badPlace m_top m_lineLives m_markRow m_quarterMany m_quarters m_isUp m_wasUp ++ fr) r.1 (WM G r.2.1 m_people r.2.2.1 m_texts m_copies m_taped m_faultPlace m_isFemale m_born m_died m_father m_mother m_fatherGrade m_motherGrade r.2.2.2.1 r.2.2.2.2.1 r.2.2.2.2.2 m_copyYear m_copyRow m_tape m_textYear m_ruleMany m_ruleFrom m_codeRow m_stack m_ruleKind m_codes m_at m_read m_token m_sign m_begins m_ends m_bad m_badPlace m_top m_lineLives m_markRow m_quarterMany m_quarters m_isUp m_wasUp ++ fr) := by
  refine Ci.of (by decide) (Nat.le_of_ble_eq_true rfl) (fun Y hX hQ => ?_)
  refine j_lv (lv' := [(0, .ref (gm G 0)), (1, .int x1), (2, .int x2), (3, .int x3)]) rfl ?_
  unfold f_X11_grant at hf
  refine j_aload_n hX dX11_grant_0 1 rfl 0 rfl rfl ?_
  refine j_iconst (v := 0) hX dX11_grant_1 2 rfl (by decide) ?_
  refine j_put hX dX11_grant_2 5 rfl fg_X11_110 ft_X11_1 0 rfl rfl rfl (Nat.le_of_ble_eq_true rfl) (ws' := (WM G 0 m_people m_grants m_texts m_copies m_taped m_faultPlace m_isFemale m_born m_died m_father m_mother m_fatherGrade m_motherGrade m_grantTo m_grantArms m_grantYear m_copyYear m_copyRow m_tape m_textYear m_ruleMany m_ruleFrom m_codeRow m_stack m_ruleKind m_codes m_at m_read m_token m_sign m_begins m_ends m_bad m_badPlace m_top m_lineLives m_markRow m_quarterMany m_quarters m_isUp m_wasUp ++ fr)) rfl ?_
  refine j_aload_n hX dX11_grant_5 6 rfl 0 rfl rfl ?_
  refine j_iload_n hX dX11_grant_6 7 rfl 1 rfl rfl ?_
  obtain ⟨v1, hv1, hf⟩ := ibd hf
  refine z_i (As := [.int x1]) (rest := []) (q0 := 0) hX dX11_grant_7 10 rfl (t_X11_is x1 hv1) mc_X11_is mv_X11_is ml_X11_124 rfl rfl (Nat.le_of_ble_eq_true rfl) (Nat.le_refl _) (Nat.le_refl _) rfl (Nat.le_of_ble_eq_true rfl) ?_
  refine j_if_ne hX dX11_grant_10 13 18 rfl rfl (fun h2 => ?_) (fun h2 => ?_)
  · replace hf := itf h2 hf
    refine j_aload_n hX dX11_grant_18 19 rfl 0 rfl rfl ?_
    refine j_get hX dX11_grant_19 22 rfl fg_X11_135 0 rfl rfl ?_
    refine j_bipush (v := 40) hX dX11_grant_22 24 rfl (by decide) ?_
    refine j_icmp_eq hX dX11_grant_24 27 45 rfl rfl (fun h3 => ?_) (fun h3 => ?_)
    · replace hf := itt h3 hf
      refine j_sub [] rfl ?_
      exact t_X11_grant_45 hX hQ    hf
    · replace hf := itf h3 hf
      refine j_iload_n hX dX11_grant_27 28 rfl 2 rfl rfl ?_
      refine j_iconst (v := 1) hX dX11_grant_28 29 rfl (by decide) ?_
      refine j_icmp_lt hX dX11_grant_29 32 45 rfl rfl (fun h4 => ?_) (fun h4 => ?_)
      · replace hf := itt h4 hf
        refine j_sub [] rfl ?_
        exact t_X11_grant_45 hX hQ    hf
      · replace hf := itf h4 hf
        refine j_iload_n hX dX11_grant_32 33 rfl 2 rfl rfl ?_
        refine j_bipush (v := 99) hX dX11_grant_33 35 rfl (by decide) ?_
        refine j_icmp_gt hX dX11_grant_35 38 45 rfl rfl (fun h5 => ?_) (fun h5 => ?_)
        · replace hf := itt h5 hf
          refine j_sub [] rfl ?_
          exact t_X11_grant_45 hX hQ    hf
        · replace hf := itf h5 hf
          refine j_iload_n hX dX11_grant_38 39 rfl 3 rfl rfl ?_
          obtain ⟨v6, hv6, hf⟩ := ibd hf
          refine z_si (As := [.int x3]) (rest := []) hX dX11_grant_39 42 rfl (t_X11_isYear x3 hv6) mc_X11_isYear ms_X11_isYear ml_X11_116 (Nat.le_of_ble_eq_true rfl) (Nat.le_refl _) (Nat.le_refl _) rfl (Nat.le_of_ble_eq_true rfl) ?_
          refine j_if_ne hX dX11_grant_42 45 47 rfl rfl (fun h7 => ?_) (fun h7 => ?_)
          · replace hf := itf h7 hf
            refine j_aload_n hX dX11_grant_47 48 rfl 0 rfl rfl ?_
            refine j_get hX dX11_grant_48 51 rfl fg_X11_57 0 rfl rfl ?_
            refine j_aload_n hX dX11_grant_51 52 rfl 0 rfl rfl ?_
            refine j_get hX dX11_grant_52 55 rfl fg_X11_135 0 rfl rfl ?_
            refine j_iload_n hX dX11_grant_55 56 rfl 1 rfl rfl ?_
            obtain ⟨hb8, hf⟩ := ign hf
            refine j_iast hX dX11_grant_56 57 rfl 9 rfl hb8 (ws' := (WM G 0 m_people m_grants m_texts m_copies m_taped m_faultPlace m_isFemale m_born m_died m_father m_mother m_fatherGrade m_motherGrade (upd m_grantTo (Int32.toNatClampNeg m_grants) x1) m_grantArms m_grantYear m_copyYear m_copyRow m_tape m_textYear m_ruleMany m_ruleFrom m_codeRow m_stack m_ruleKind m_codes m_at m_read m_token m_sign m_begins m_ends m_bad m_badPlace m_top m_lineLives m_markRow m_quarterMany m_quarters m_isUp m_wasUp ++ fr)) rfl ?_
            refine j_aload_n hX dX11_grant_57 58 rfl 0 rfl rfl ?_
            refine j_get hX dX11_grant_58 61 rfl fg_X11_60 0 rfl rfl ?_
            refine j_aload_n hX dX11_grant_61 62 rfl 0 rfl rfl ?_
            refine j_get hX dX11_grant_62 65 rfl fg_X11_135 0 rfl rfl ?_
            refine j_iload_n hX dX11_grant_65 66 rfl 2 rfl rfl ?_
            obtain ⟨hb9, hf⟩ := ign hf
            refine j_iast hX dX11_grant_66 67 rfl 10 rfl hb9 (ws' := (WM G 0 m_people m_grants m_texts m_copies m_taped m_faultPlace m_isFemale m_born m_died m_father m_mother m_fatherGrade m_motherGrade (upd m_grantTo (Int32.toNatClampNeg m_grants) x1) (upd m_grantArms (Int32.toNatClampNeg m_grants) x2) m_grantYear m_copyYear m_copyRow m_tape m_textYear m_ruleMany m_ruleFrom m_codeRow m_stack m_ruleKind m_codes m_at m_read m_token m_sign m_begins m_ends m_bad m_badPlace m_top m_lineLives m_markRow m_quarterMany m_quarters m_isUp m_wasUp ++ fr)) rfl ?_
            refine j_aload_n hX dX11_grant_67 68 rfl 0 rfl rfl ?_
            refine j_get hX dX11_grant_68 71 rfl fg_X11_63 0 rfl rfl ?_
            refine j_aload_n hX dX11_grant_71 72 rfl 0 rfl rfl ?_
            refine j_get hX dX11_grant_72 75 rfl fg_X11_135 0 rfl rfl ?_
            refine j_iload_n hX dX11_grant_75 76 rfl 3 rfl rfl ?_
            obtain ⟨hb10, hf⟩ := ign hf
            refine j_iast hX dX11_grant_76 77 rfl 11 rfl hb10 (ws' := (WM G 0 m_people m_grants m_texts m_copies m_taped m_faultPlace m_isFemale m_born m_died m_father m_mother m_fatherGrade m_motherGrade (upd m_grantTo (Int32.toNatClampNeg m_grants) x1) (upd m_grantArms (Int32.toNatClampNeg m_grants) x2) (upd m_grantYear (Int32.toNatClampNeg m_grants) x3) m_copyYear m_copyRow m_tape m_textYear m_ruleMany m_ruleFrom m_codeRow m_stack m_ruleKind m_codes m_at m_read m_token m_sign m_begins m_ends m_bad m_badPlace m_top m_lineLives m_markRow m_quarterMany m_quarters m_isUp m_wasUp ++ fr)) rfl ?_
            refine j_aload_n hX dX11_grant_77 78 rfl 0 rfl rfl ?_
            refine j_dup hX dX11_grant_78 79 rfl rfl ?_
            refine j_get hX dX11_grant_79 82 rfl fg_X11_135 0 rfl rfl ?_
            refine j_iconst (v := 1) hX dX11_grant_82 83 rfl (by decide) ?_
            refine j_iadd hX dX11_grant_83 84 rfl ?_
            refine j_put hX dX11_grant_84 87 rfl fg_X11_135 ft_X11_3 0 rfl rfl rfl (Nat.le_of_ble_eq_true rfl) (ws' := (WM G 0 m_people (m_grants + 1) m_texts m_copies m_taped m_faultPlace m_isFemale m_born m_died m_father m_mother m_fatherGrade m_motherGrade (upd m_grantTo (Int32.toNatClampNeg m_grants) x1) (upd m_grantArms (Int32.toNatClampNeg m_grants) x2) (upd m_grantYear (Int32.toNatClampNeg m_grants) x3) m_copyYear m_copyRow m_tape m_textYear m_ruleMany m_ruleFrom m_codeRow m_stack m_ruleKind m_codes m_at m_read m_token m_sign m_begins m_ends m_bad m_badPlace m_top m_lineLives m_markRow m_quarterMany m_quarters m_isUp m_wasUp ++ fr)) rfl ?_
            refine j_aload_n hX dX11_grant_87 88 rfl 0 rfl rfl ?_
            refine j_get hX dX11_grant_88 91 rfl fg_X11_135 0 rfl rfl ?_
            refine j_iconst (v := 1) hX dX11_grant_91 92 rfl (by decide) ?_
            refine j_isub hX dX11_grant_92 93 rfl ?_
            replace hf := Option.some.inj hf
            subst hf
            exact j_iret hX hQ dX11_grant_93
          · replace hf := itt h7 hf
            refine j_sub [] rfl ?_
            exact t_X11_grant_45 hX hQ    hf
  · replace hf := itt h2 hf
    refine j_aload_n hX dX11_grant_13 14 rfl 0 rfl rfl ?_
    obtain ⟨v11, hv11, hf⟩ := ibd hf
    refine z_i (As := []) (rest := []) (q0 := 0) hX dX11_grant_14 17 rfl (t_X11_fail  hv11) mc_X11_fail mv_X11_fail ml_X11_127 rfl rfl (Nat.le_of_ble_eq_true rfl) (Nat.le_refl _) (Nat.le_refl _) rfl (Nat.le_of_ble_eq_true rfl) ?_
    replace hf := Option.some.inj hf
    subst hf
    exact j_iret hX hQ dX11_grant_17
def g_X11_isChild_25 (s0 : Int32) : Option (Int32) :=
  if isB s0 = true then some s0 else none
set_option maxRecDepth 100000 in
set_option maxHeartbeats 4000000 in
theorem t_X11_isChild_25 {Y : YT} {r : Int32}  (hX : CX l G cX11_isChild 3 RX11 Y) (hQ : EQi G Y 0 0 .boolean r (WM G m_code m_people m_grants m_texts m_copies m_taped m_faultPlace m_isFemale m_born m_died m_father m_mother m_fatherGrade m_motherGrade m_grantTo m_grantArms m_grantYear m_copyYear m_copyRow m_tape m_textYear m_ruleMany m_ruleFrom m_codeRow m_stack m_ruleKind m_codes m_at m_read m_token m_sign m_begins m_ends m_bad m_badPlace m_top m_lineLives m_markRow m_quarterMany m_quarters m_isUp m_wasUp ++ fr))  (s0 : Int32) (hf : g_X11_isChild_25 s0 = some r) : J l G (rmD 1 0 0) Y 0 0 25 [] [.int s0] (WM G m_code m_people m_grants m_texts m_copies m_taped m_faultPlace m_isFemale m_born m_died m_father m_mother m_fatherGrade m_motherGrade m_grantTo m_grantArms m_grantYear m_copyYear m_copyRow m_tape m_textYear m_ruleMany m_ruleFrom m_codeRow m_stack m_ruleKind m_codes m_at m_read m_token m_sign m_begins m_ends m_bad m_badPlace m_top m_lineLives m_markRow m_quarterMany m_quarters m_isUp m_wasUp ++ fr) := by
  unfold g_X11_isChild_25 at hf
  obtain ⟨hb3, hf⟩ := ign hf
  replace hf := Option.some.inj hf
  subst hf
  exact j_zret hX hQ hb3 dX11_isChild_25
def g_X11_isChild_20  : Option (Int32) :=
  g_X11_isChild_25 1
set_option maxRecDepth 100000 in
set_option maxHeartbeats 4000000 in
theorem t_X11_isChild_20 {Y : YT} {r : Int32}  (hX : CX l G cX11_isChild 3 RX11 Y) (hQ : EQi G Y 0 0 .boolean r (WM G m_code m_people m_grants m_texts m_copies m_taped m_faultPlace m_isFemale m_born m_died m_father m_mother m_fatherGrade m_motherGrade m_grantTo m_grantArms m_grantYear m_copyYear m_copyRow m_tape m_textYear m_ruleMany m_ruleFrom m_codeRow m_stack m_ruleKind m_codes m_at m_read m_token m_sign m_begins m_ends m_bad m_badPlace m_top m_lineLives m_markRow m_quarterMany m_quarters m_isUp m_wasUp ++ fr))   (hf : g_X11_isChild_20  = some r) : J l G (rmD 1 0 0) Y 0 0 20 [] [] (WM G m_code m_people m_grants m_texts m_copies m_taped m_faultPlace m_isFemale m_born m_died m_father m_mother m_fatherGrade m_motherGrade m_grantTo m_grantArms m_grantYear m_copyYear m_copyRow m_tape m_textYear m_ruleMany m_ruleFrom m_codeRow m_stack m_ruleKind m_codes m_at m_read m_token m_sign m_begins m_ends m_bad m_badPlace m_top m_lineLives m_markRow m_quarterMany m_quarters m_isUp m_wasUp ++ fr) := by
  unfold g_X11_isChild_20 at hf
  refine j_iconst (v := 1) hX dX11_isChild_20 21 rfl (by decide) ?_
  refine j_goto hX dX11_isChild_21 25 rfl ?_
  exact t_X11_isChild_25 hX hQ   1 hf
def f_X11_isChild (m_father : Nat → Int32) (m_mother : Nat → Int32) (x1 : Int32) (x2 : Int32) : Option (Int32) :=
  if inb x1 60 = true then if (m_father (Int32.toNatClampNeg x1)) = x2 then g_X11_isChild_20  else if inb x1 60 = true then if (m_mother (Int32.toNatClampNeg x1)) = x2 then g_X11_isChild_20  else g_X11_isChild_25 0 else none else none
set_option maxRecDepth 100000 in
set_option maxHeartbeats 4000000 in
theorem t_X11_isChild  (x1 : Int32) (x2 : Int32) {r : Int32} (hf : f_X11_isChild m_father m_mother x1 x2 = some r) : Ci l G 1 0 0 yX11_isChild cX11_isChild 3 .boolean [.ref (gm G 0), .int x1, .int x2] (WM G m_code m_people m_grants m_texts m_copies m_taped m_faultPlace m_isFemale m_born m_died m_father m_mother m_fatherGrade m_motherGrade m_grantTo m_grantArms m_grantYear m_copyYear m_copyRow m_tape m_textYear m_ruleMany m_ruleFrom m_codeRow m_stack m_ruleKind m_codes m_at m_read m_token m_sign m_begins m_ends m_bad m_badPlace m_top m_lineLives m_markRow m_quarterMany m_quarters m_isUp m_wasUp ++ fr) r (WM G m_code m_people m_grants m_texts m_copies m_taped m_faultPlace m_isFemale m_born m_died m_father m_mother m_fatherGrade m_motherGrade m_grantTo m_grantArms m_grantYear m_copyYear m_copyRow m_tape m_textYear m_ruleMany m_ruleFrom m_codeRow m_stack m_ruleKind m_codes m_at m_read m_token m_sign m_begins m_ends m_bad m_badPlace m_top m_lineLives m_markRow m_quarterMany m_quarters m_isUp m_wasUp ++ fr) := by
  refine Ci.of (by decide) (Nat.le_of_ble_eq_true rfl) (fun Y hX hQ => ?_)
  refine j_lv (lv' := [(0, .ref (gm G 0)), (1, .int x1), (2, .int x2)]) rfl ?_
  unfold f_X11_isChild at hf
  refine j_aload_n hX dX11_isChild_0 1 rfl 0 rfl rfl ?_
  refine j_get hX dX11_isChild_1 4 rfl fg_X11_45 0 rfl rfl ?_
  refine j_iload_n hX dX11_isChild_4 5 rfl 1 rfl rfl ?_
  obtain ⟨hb1, hf⟩ := ign hf
  refine j_iald hX dX11_isChild_5 6 rfl 5 rfl hb1 ?_
  refine j_iload_n hX dX11_isChild_6 7 rfl 2 rfl rfl ?_
  refine j_icmp_eq hX dX11_isChild_7 10 20 rfl rfl (fun h2 => ?_) (fun h2 => ?_)
  · replace hf := itt h2 hf
    refine j_sub [] rfl ?_
    exact t_X11_isChild_20 hX hQ    hf
  · replace hf := itf h2 hf
    refine j_aload_n hX dX11_isChild_10 11 rfl 0 rfl rfl ?_
    refine j_get hX dX11_isChild_11 14 rfl fg_X11_48 0 rfl rfl ?_
    refine j_iload_n hX dX11_isChild_14 15 rfl 1 rfl rfl ?_
    obtain ⟨hb4, hf⟩ := ign hf
    refine j_iald hX dX11_isChild_15 16 rfl 6 rfl hb4 ?_
    refine j_iload_n hX dX11_isChild_16 17 rfl 2 rfl rfl ?_
    refine j_icmp_ne hX dX11_isChild_17 20 24 rfl rfl (fun h5 => ?_) (fun h5 => ?_)
    · replace hf := itf h5 hf
      refine j_iconst (v := 0) hX dX11_isChild_24 25 rfl (by decide) ?_
      refine j_sub [] rfl ?_
      exact t_X11_isChild_25 hX hQ   0 hf
    · replace hf := itt h5 hf
      refine j_sub [] rfl ?_
      exact t_X11_isChild_20 hX hQ    hf
def g_X11_about_160 (m_code : Int32) (s0 : Int32) : Option (Int32 × Int32) :=
  some (s0, m_code)
set_option maxRecDepth 100000 in
set_option maxHeartbeats 4000000 in
theorem t_X11_about_160 {Y : YT} {r : Int32 × Int32}  (hX : CX l G cX11_about 5 RX11 Y) (hQ : EQi G Y 0 0 .int r.1 (WM G r.2 m_people m_grants m_texts m_copies m_taped m_faultPlace m_isFemale m_born m_died m_father m_mother m_fatherGrade m_motherGrade m_grantTo m_grantArms m_grantYear m_copyYear m_copyRow m_tape m_textYear m_ruleMany m_ruleFrom m_codeRow m_stack m_ruleKind m_codes m_at m_read m_token m_sign m_begins m_ends m_bad m_badPlace m_top m_lineLives m_markRow m_quarterMany m_quarters m_isUp m_wasUp ++ fr))  (s0 : Int32) (hf : g_X11_about_160 m_code s0 = some r) : J l G (rmD 2 0 0) Y 0 0 160 [] [.int s0] (WM G m_code m_people m_grants m_texts m_copies m_taped m_faultPlace m_isFemale m_born m_died m_father m_mother m_fatherGrade m_motherGrade m_grantTo m_grantArms m_grantYear m_copyYear m_copyRow m_tape m_textYear m_ruleMany m_ruleFrom m_codeRow m_stack m_ruleKind m_codes m_at m_read m_token m_sign m_begins m_ends m_bad m_badPlace m_top m_lineLives m_markRow m_quarterMany m_quarters m_isUp m_wasUp ++ fr) := by
  unfold g_X11_about_160 at hf
  replace hf := Option.some.inj hf
  subst hf
  exact j_iret hX hQ dX11_about_160
def g_X11_about_48 (m_code : Int32) (k23 : Int32 → Int32 → Int32 → Int32 → Int32 → Option (Int32 × Int32)) (x1 : Int32) (x2 : Int32) (x4 : Int32) (s0 : Int32) (s1 : Int32) : Option (Int32 × Int32) :=
  k23 x1 x2 (s1 + s0) (x4 + 1) m_code
set_option maxRecDepth 100000 in
set_option maxHeartbeats 4000000 in
theorem t_X11_about_48 {Y : YT} {r : Int32 × Int32} {k23 : Int32 → Int32 → Int32 → Int32 → Int32 → Option (Int32 × Int32)} (hX : CX l G cX11_about 5 RX11 Y) (hQ : EQi G Y 0 0 .int r.1 (WM G r.2 m_people m_grants m_texts m_copies m_taped m_faultPlace m_isFemale m_born m_died m_father m_mother m_fatherGrade m_motherGrade m_grantTo m_grantArms m_grantYear m_copyYear m_copyRow m_tape m_textYear m_ruleMany m_ruleFrom m_codeRow m_stack m_ruleKind m_codes m_at m_read m_token m_sign m_begins m_ends m_bad m_badPlace m_top m_lineLives m_markRow m_quarterMany m_quarters m_isUp m_wasUp ++ fr)) (hk23 : ∀ (x1 : Int32) (x2 : Int32) (x3 : Int32) (x4 : Int32) (m_code : Int32), k23 x1 x2 x3 x4 m_code = some r → J l G (rmD 2 0 0) Y 0 0 23 [(0, .ref (gm G 0)), (1, .int x1), (2, .int x2), (3, .int x3), (4, .int x4)] [] (WM G m_code m_people m_grants m_texts m_copies m_taped m_faultPlace m_isFemale m_born m_died m_father m_mother m_fatherGrade m_motherGrade m_grantTo m_grantArms m_grantYear m_copyYear m_copyRow m_tape m_textYear m_ruleMany m_ruleFrom m_codeRow m_stack m_ruleKind m_codes m_at m_read m_token m_sign m_begins m_ends m_bad m_badPlace m_top m_lineLives m_markRow m_quarterMany m_quarters m_isUp m_wasUp ++ fr)) (x1 : Int32) (x2 : Int32) (x4 : Int32) (s0 : Int32) (s1 : Int32) (hf : g_X11_about_48 m_code k23 x1 x2 x4 s0 s1 = some r) : J l G (rmD 2 0 0) Y 0 0 48 [(0, .ref (gm G 0)), (1, .int x1), (2, .int x2), (4, .int x4)] [.int s0, .int s1] (WM G m_code m_people m_grants m_texts m_copies m_taped m_faultPlace m_isFemale m_born m_died m_father m_mother m_fatherGrade m_motherGrade m_grantTo m_grantArms m_grantYear m_copyYear m_copyRow m_tape m_textYear m_ruleMany m_ruleFrom m_codeRow m_stack m_ruleKind m_codes m_at m_read m_token m_sign m_begins m_ends m_bad m_badPlace m_top m_lineLives m_markRow m_quarterMany m_quarters m_isUp m_wasUp ++ fr) := by
  unfold g_X11_about_48 at hf
  refine j_iadd hX dX11_about_48 49 rfl ?_
  refine j_istore_n hX dX11_about_49 50 rfl rfl (by decide) (lv' := [(3, .int (s1 + s0)), (0, .ref (gm G 0)), (1, .int x1), (2, .int x2), (4, .int x4)]) rfl ?_
  refine j_iinc (v := x4 + 1) hX dX11_about_50 53 rfl 4 rfl rfl (by decide) (lv' := [(4, .int (x4 + 1)), (3, .int (s1 + s0)), (0, .ref (gm G 0)), (1, .int x1), (2, .int x2)]) rfl ?_
  refine j_goto hX dX11_about_53 23 rfl ?_
  refine j_sub [2, 3, 4, 1, 0] rfl ?_
  exact hk23 x1 x2 (s1 + s0) (x4 + 1) m_code hf
def g_X11_about_23 (m_people : Int32) (m_isFemale : Nat → Int32) (m_born : Nat → Int32) (m_died : Nat → Int32) (m_father : Nat → Int32) (m_mother : Nat → Int32) (m_fatherGrade : Nat → Int32) (m_motherGrade : Nat → Int32) (m_code : Int32) (k23 : Int32 → Int32 → Int32 → Int32 → Int32 → Option (Int32 × Int32)) (x1 : Int32) (x2 : Int32) (x3 : Int32) (x4 : Int32) : Option (Int32 × Int32) :=
  if m_people ≤ x4 then if x2 = 0 then if inb x1 60 = true then some (m_born (Int32.toNatClampNeg x1), m_code) else none else if x2 = 1 then if inb x1 60 = true then some (m_died (Int32.toNatClampNeg x1), m_code) else none else if x2 = 2 then if inb x1 60 = true then some (m_father (Int32.toNatClampNeg x1), m_code) else none else if x2 = 3 then if inb x1 60 = true then some (m_mother (Int32.toNatClampNeg x1), m_code) else none else if x2 = 4 then if inb x1 60 = true then some (m_fatherGrade (Int32.toNatClampNeg x1), m_code) else none else if x2 = 5 then if inb x1 60 = true then some (m_motherGrade (Int32.toNatClampNeg x1), m_code) else none else if x2 = 6 then if inb x1 60 = true then if (m_isFemale (Int32.toNatClampNeg x1)) = 0 then g_X11_about_160 m_code 0 else g_X11_about_160 m_code 1 else none else if x2 = 7 then some (x3, m_code) else (f_X11_fail ).bind fun v20 => some (v20.1, v20.2) else (f_X11_isChild m_father m_mother x4 x1).bind fun v21 => if v21 = 0 then g_X11_about_48 m_code k23 x1 x2 x4 0 x3 else g_X11_about_48 m_code k23 x1 x2 x4 1 x3
set_option maxRecDepth 100000 in
set_option maxHeartbeats 4000000 in
theorem t_X11_about_23 {Y : YT} {r : Int32 × Int32} {k23 : Int32 → Int32 → Int32 → Int32 → Int32 → Option (Int32 × Int32)} (hX : CX l G cX11_about 5 RX11 Y) (hQ : EQi G Y 0 0 .int r.1 (WM G r.2 m_people m_grants m_texts m_copies m_taped m_faultPlace m_isFemale m_born m_died m_father m_mother m_fatherGrade m_motherGrade m_grantTo m_grantArms m_grantYear m_copyYear m_copyRow m_tape m_textYear m_ruleMany m_ruleFrom m_codeRow m_stack m_ruleKind m_codes m_at m_read m_token m_sign m_begins m_ends m_bad m_badPlace m_top m_lineLives m_markRow m_quarterMany m_quarters m_isUp m_wasUp ++ fr)) (hk23 : ∀ (x1 : Int32) (x2 : Int32) (x3 : Int32) (x4 : Int32) (m_code : Int32), k23 x1 x2 x3 x4 m_code = some r → J l G (rmD 2 0 0) Y 0 0 23 [(0, .ref (gm G 0)), (1, .int x1), (2, .int x2), (3, .int x3), (4, .int x4)] [] (WM G m_code m_people m_grants m_texts m_copies m_taped m_faultPlace m_isFemale m_born m_died m_father m_mother m_fatherGrade m_motherGrade m_grantTo m_grantArms m_grantYear m_copyYear m_copyRow m_tape m_textYear m_ruleMany m_ruleFrom m_codeRow m_stack m_ruleKind m_codes m_at m_read m_token m_sign m_begins m_ends m_bad m_badPlace m_top m_lineLives m_markRow m_quarterMany m_quarters m_isUp m_wasUp ++ fr)) (x1 : Int32) (x2 : Int32) (x3 : Int32) (x4 : Int32) (hf : g_X11_about_23 m_people m_isFemale m_born m_died m_father m_mother m_fatherGrade m_motherGrade m_code k23 x1 x2 x3 x4 = some r) : J l G (rmD 2 0 0) Y 0 0 23 [(0, .ref (gm G 0)), (1, .int x1), (2, .int x2), (3, .int x3), (4, .int x4)] [] (WM G m_code m_people m_grants m_texts m_copies m_taped m_faultPlace m_isFemale m_born m_died m_father m_mother m_fatherGrade m_motherGrade m_grantTo m_grantArms m_grantYear m_copyYear m_copyRow m_tape m_textYear m_ruleMany m_ruleFrom m_codeRow m_stack m_ruleKind m_codes m_at m_read m_token m_sign m_begins m_ends m_bad m_badPlace m_top m_lineLives m_markRow m_quarterMany m_quarters m_isUp m_wasUp ++ fr) := by
  unfold g_X11_about_23 at hf
  refine j_iload hX dX11_about_23 25 rfl 4 rfl ?_
  refine j_aload_n hX dX11_about_25 26 rfl 0 rfl rfl ?_
  refine j_get hX dX11_about_26 29 rfl fg_X11_113 0 rfl rfl ?_
  refine j_icmp_ge hX dX11_about_29 32 56 rfl rfl (fun h3 => ?_) (fun h3 => ?_)
  · replace hf := itt h3 hf
    refine j_iload_n hX dX11_about_56 57 rfl 2 rfl rfl ?_
    by_cases h4 : x2 = 0
    · replace hf := itt h4 hf
      refine j_tab hX dX11_about_57 (by decide) 104 (by rw [h4]; rfl) ?_
      refine j_aload_n hX dX11_about_104 105 rfl 0 rfl rfl ?_
      refine j_get hX dX11_about_105 108 rfl fg_X11_39 0 rfl rfl ?_
      refine j_iload_n hX dX11_about_108 109 rfl 1 rfl rfl ?_
      obtain ⟨hb5, hf⟩ := ign hf
      refine j_iald hX dX11_about_109 110 rfl 3 rfl hb5 ?_
      replace hf := Option.some.inj hf
      subst hf
      exact j_iret hX hQ dX11_about_110
    replace hf := itf h4 hf
    by_cases h6 : x2 = 1
    · replace hf := itt h6 hf
      refine j_tab hX dX11_about_57 (by decide) 111 (by rw [h6]; rfl) ?_
      refine j_aload_n hX dX11_about_111 112 rfl 0 rfl rfl ?_
      refine j_get hX dX11_about_112 115 rfl fg_X11_42 0 rfl rfl ?_
      refine j_iload_n hX dX11_about_115 116 rfl 1 rfl rfl ?_
      obtain ⟨hb7, hf⟩ := ign hf
      refine j_iald hX dX11_about_116 117 rfl 4 rfl hb7 ?_
      replace hf := Option.some.inj hf
      subst hf
      exact j_iret hX hQ dX11_about_117
    replace hf := itf h6 hf
    by_cases h8 : x2 = 2
    · replace hf := itt h8 hf
      refine j_tab hX dX11_about_57 (by decide) 118 (by rw [h8]; rfl) ?_
      refine j_aload_n hX dX11_about_118 119 rfl 0 rfl rfl ?_
      refine j_get hX dX11_about_119 122 rfl fg_X11_45 0 rfl rfl ?_
      refine j_iload_n hX dX11_about_122 123 rfl 1 rfl rfl ?_
      obtain ⟨hb9, hf⟩ := ign hf
      refine j_iald hX dX11_about_123 124 rfl 5 rfl hb9 ?_
      replace hf := Option.some.inj hf
      subst hf
      exact j_iret hX hQ dX11_about_124
    replace hf := itf h8 hf
    by_cases h10 : x2 = 3
    · replace hf := itt h10 hf
      refine j_tab hX dX11_about_57 (by decide) 125 (by rw [h10]; rfl) ?_
      refine j_aload_n hX dX11_about_125 126 rfl 0 rfl rfl ?_
      refine j_get hX dX11_about_126 129 rfl fg_X11_48 0 rfl rfl ?_
      refine j_iload_n hX dX11_about_129 130 rfl 1 rfl rfl ?_
      obtain ⟨hb11, hf⟩ := ign hf
      refine j_iald hX dX11_about_130 131 rfl 6 rfl hb11 ?_
      replace hf := Option.some.inj hf
      subst hf
      exact j_iret hX hQ dX11_about_131
    replace hf := itf h10 hf
    by_cases h12 : x2 = 4
    · replace hf := itt h12 hf
      refine j_tab hX dX11_about_57 (by decide) 132 (by rw [h12]; rfl) ?_
      refine j_aload_n hX dX11_about_132 133 rfl 0 rfl rfl ?_
      refine j_get hX dX11_about_133 136 rfl fg_X11_51 0 rfl rfl ?_
      refine j_iload_n hX dX11_about_136 137 rfl 1 rfl rfl ?_
      obtain ⟨hb13, hf⟩ := ign hf
      refine j_iald hX dX11_about_137 138 rfl 7 rfl hb13 ?_
      replace hf := Option.some.inj hf
      subst hf
      exact j_iret hX hQ dX11_about_138
    replace hf := itf h12 hf
    by_cases h14 : x2 = 5
    · replace hf := itt h14 hf
      refine j_tab hX dX11_about_57 (by decide) 139 (by rw [h14]; rfl) ?_
      refine j_aload_n hX dX11_about_139 140 rfl 0 rfl rfl ?_
      refine j_get hX dX11_about_140 143 rfl fg_X11_54 0 rfl rfl ?_
      refine j_iload_n hX dX11_about_143 144 rfl 1 rfl rfl ?_
      obtain ⟨hb15, hf⟩ := ign hf
      refine j_iald hX dX11_about_144 145 rfl 8 rfl hb15 ?_
      replace hf := Option.some.inj hf
      subst hf
      exact j_iret hX hQ dX11_about_145
    replace hf := itf h14 hf
    by_cases h16 : x2 = 6
    · replace hf := itt h16 hf
      refine j_tab hX dX11_about_57 (by decide) 146 (by rw [h16]; rfl) ?_
      refine j_aload_n hX dX11_about_146 147 rfl 0 rfl rfl ?_
      refine j_get hX dX11_about_147 150 rfl fg_X11_35 0 rfl rfl ?_
      refine j_iload_n hX dX11_about_150 151 rfl 1 rfl rfl ?_
      obtain ⟨hb17, hf⟩ := ign hf
      refine j_zald hX dX11_about_151 152 rfl 2 rfl hb17 ?_
      refine j_if_eq hX dX11_about_152 155 159 rfl rfl (fun h18 => ?_) (fun h18 => ?_)
      · replace hf := itt h18 hf
        refine j_iconst (v := 0) hX dX11_about_159 160 rfl (by decide) ?_
        refine j_sub [] rfl ?_
        exact t_X11_about_160 hX hQ   0 hf
      · replace hf := itf h18 hf
        refine j_iconst (v := 1) hX dX11_about_155 156 rfl (by decide) ?_
        refine j_goto hX dX11_about_156 160 rfl ?_
        refine j_sub [] rfl ?_
        exact t_X11_about_160 hX hQ   1 hf
    replace hf := itf h16 hf
    by_cases h19 : x2 = 7
    · replace hf := itt h19 hf
      refine j_tab hX dX11_about_57 (by decide) 161 (by rw [h19]; rfl) ?_
      refine j_iload_n hX dX11_about_161 162 rfl 3 rfl rfl ?_
      replace hf := Option.some.inj hf
      subst hf
      exact j_iret hX hQ dX11_about_162
    replace hf := itf h19 hf
    replace h4 := ne_ti (m := 0) h4 rfl
    replace h6 := ne_ti (m := 1) h6 rfl
    replace h8 := ne_ti (m := 2) h8 rfl
    replace h10 := ne_ti (m := 3) h10 rfl
    replace h12 := ne_ti (m := 4) h12 rfl
    replace h14 := ne_ti (m := 5) h14 rfl
    replace h16 := ne_ti (m := 6) h16 rfl
    replace h19 := ne_ti (m := 7) h19 rfl
    refine j_tab hX dX11_about_57 (by decide) 163 (by unfold tsel; rw [if_pos (by omega)]; rfl) ?_
    refine j_aload_n hX dX11_about_163 164 rfl 0 rfl rfl ?_
    obtain ⟨v20, hv20, hf⟩ := ibd hf
    refine z_i (As := []) (rest := []) (q0 := 0) hX dX11_about_164 167 rfl (t_X11_fail  hv20) mc_X11_fail mv_X11_fail ml_X11_127 rfl rfl (Nat.le_of_ble_eq_true rfl) (Nat.le_refl _) (Nat.le_refl _) rfl (Nat.le_of_ble_eq_true rfl) ?_
    replace hf := Option.some.inj hf
    subst hf
    exact j_iret hX hQ dX11_about_167
  · replace hf := itf h3 hf
    refine j_iload_n hX dX11_about_32 33 rfl 3 rfl rfl ?_
    refine j_aload_n hX dX11_about_33 34 rfl 0 rfl rfl ?_
    refine j_iload hX dX11_about_34 36 rfl 4 rfl ?_
    refine j_iload_n hX dX11_about_36 37 rfl 1 rfl rfl ?_
    obtain ⟨v21, hv21, hf⟩ := ibd hf
    refine z_i (As := [.int x4, .int x1]) (rest := [.int x3]) (q0 := 0) hX dX11_about_37 40 rfl (t_X11_isChild x4 x1 hv21) mc_X11_isChild mv_X11_isChild ml_X11_138 rfl rfl (Nat.le_of_ble_eq_true rfl) (Nat.le_refl _) (Nat.le_refl _) rfl (Nat.le_of_ble_eq_true rfl) ?_
    refine j_if_eq hX dX11_about_40 43 47 rfl rfl (fun h22 => ?_) (fun h22 => ?_)
    · replace hf := itt h22 hf
      refine j_iconst (v := 0) hX dX11_about_47 48 rfl (by decide) ?_
      refine j_sub [0, 1, 2, 4] rfl ?_
      exact t_X11_about_48 hX hQ  hk23 x1 x2 x4 0 x3 hf
    · replace hf := itf h22 hf
      refine j_iconst (v := 1) hX dX11_about_43 44 rfl (by decide) ?_
      refine j_goto hX dX11_about_44 48 rfl ?_
      refine j_sub [0, 1, 2, 4] rfl ?_
      exact t_X11_about_48 hX hQ  hk23 x1 x2 x4 1 x3 hf
def f_X11_about_23 (m_people : Int32) (m_isFemale : Nat → Int32) (m_born : Nat → Int32) (m_died : Nat → Int32) (m_father : Nat → Int32) (m_mother : Nat → Int32) (m_fatherGrade : Nat → Int32) (m_motherGrade : Nat → Int32) : Nat → (Int32 × Int32 × Int32 × Int32 × Int32) → Option (Int32 × Int32) :=
  lp (fun k v => g_X11_about_23 m_people m_isFemale m_born m_died m_father m_mother m_fatherGrade m_motherGrade v.2.2.2.2 (fun x1 x2 x3 x4 m_code => k (x1, x2, x3, x4, m_code)) v.1 v.2.1 v.2.2.1 v.2.2.2.1)
set_option maxRecDepth 100000 in
set_option maxHeartbeats 4000000 in
theorem u_X11_about_23 {Y : YT} {r : Int32 × Int32}  (hX : CX l G cX11_about 5 RX11 Y) (hQ : EQi G Y 0 0 .int r.1 (WM G r.2 m_people m_grants m_texts m_copies m_taped m_faultPlace m_isFemale m_born m_died m_father m_mother m_fatherGrade m_motherGrade m_grantTo m_grantArms m_grantYear m_copyYear m_copyRow m_tape m_textYear m_ruleMany m_ruleFrom m_codeRow m_stack m_ruleKind m_codes m_at m_read m_token m_sign m_begins m_ends m_bad m_badPlace m_top m_lineLives m_markRow m_quarterMany m_quarters m_isUp m_wasUp ++ fr))  (n : Nat) (v : Int32 × Int32 × Int32 × Int32 × Int32) (hf : f_X11_about_23 m_people m_isFemale m_born m_died m_father m_mother m_fatherGrade m_motherGrade n v = some r) : J l G (rmD 2 0 0) Y 0 0 23 [(0, .ref (gm G 0)), (1, .int v.1), (2, .int v.2.1), (3, .int v.2.2.1), (4, .int v.2.2.2.1)] [] (WM G v.2.2.2.2 m_people m_grants m_texts m_copies m_taped m_faultPlace m_isFemale m_born m_died m_father m_mother m_fatherGrade m_motherGrade m_grantTo m_grantArms m_grantYear m_copyYear m_copyRow m_tape m_textYear m_ruleMany m_ruleFrom m_codeRow m_stack m_ruleKind m_codes m_at m_read m_token m_sign m_begins m_ends m_bad m_badPlace m_top m_lineLives m_markRow m_quarterMany m_quarters m_isUp m_wasUp ++ fr) :=
  lp_ind (P := fun v : Int32 × Int32 × Int32 × Int32 × Int32 => J l G (rmD 2 0 0) Y 0 0 23 [(0, .ref (gm G 0)), (1, .int v.1), (2, .int v.2.1), (3, .int v.2.2.1), (4, .int v.2.2.2.1)] [] (WM G v.2.2.2.2 m_people m_grants m_texts m_copies m_taped m_faultPlace m_isFemale m_born m_died m_father m_mother m_fatherGrade m_motherGrade m_grantTo m_grantArms m_grantYear m_copyYear m_copyRow m_tape m_textYear m_ruleMany m_ruleFrom m_codeRow m_stack m_ruleKind m_codes m_at m_read m_token m_sign m_begins m_ends m_bad m_badPlace m_top m_lineLives m_markRow m_quarterMany m_quarters m_isUp m_wasUp ++ fr)) (fun k hk v hf => t_X11_about_23 hX hQ   (fun x1 x2 x3 x4 m_code h => hk (x1, x2, x3, x4, m_code) h) v.1 v.2.1 v.2.2.1 v.2.2.2.1 hf) n v hf
def f_X11_about (fu : Nat) (m_people : Int32) (m_isFemale : Nat → Int32) (m_born : Nat → Int32) (m_died : Nat → Int32) (m_father : Nat → Int32) (m_mother : Nat → Int32) (m_fatherGrade : Nat → Int32) (m_motherGrade : Nat → Int32) (x1 : Int32) (x2 : Int32) : Option (Int32 × Int32) :=
  (f_X11_is m_people x1).bind fun v1 => if v1 = 0 then (f_X11_fail ).bind fun v23 => some (v23.1, v23.2) else f_X11_about_23 m_people m_isFemale m_born m_died m_father m_mother m_fatherGrade m_motherGrade fu (x1, x2, 0, 0, 0)
set_option maxRecDepth 100000 in
set_option maxHeartbeats 4000000 in
theorem t_X11_about {fu : Nat}  (x1 : Int32) (x2 : Int32) {r : Int32 × Int32} (hf : f_X11_about fu m_people m_isFemale m_born m_died m_father m_mother m_fatherGrade m_motherGrade x1 x2 = some r) : Ci l G 2 0 0 yX11_about cX11_about 5 .int [.ref (gm G 0), .int x1, .int x2] (WM G m_code m_people m_grants m_texts m_copies m_taped m_faultPlace m_isFemale m_born m_died m_father m_mother m_fatherGrade m_motherGrade m_grantTo m_grantArms m_grantYear m_copyYear m_copyRow m_tape m_textYear m_ruleMany m_ruleFrom m_codeRow m_stack m_ruleKind m_codes m_at m_read m_token m_sign m_begins m_ends m_bad m_badPlace m_top m_lineLives m_markRow m_quarterMany m_quarters m_isUp m_wasUp ++ fr) r.1 (WM G r.2 m_people m_grants m_texts m_copies m_taped m_faultPlace m_isFemale m_born m_died m_father m_mother m_fatherGrade m_motherGrade m_grantTo m_grantArms m_grantYear m_copyYear m_copyRow m_tape m_textYear m_ruleMany m_ruleFrom m_codeRow m_stack m_ruleKind m_codes m_at m_read m_token m_sign m_begins m_ends m_bad m_badPlace m_top m_lineLives m_markRow m_quarterMany m_quarters m_isUp m_wasUp ++ fr) := by
  refine Ci.of (by decide) (Nat.le_of_ble_eq_true rfl) (fun Y hX hQ => ?_)
  refine j_lv (lv' := [(0, .ref (gm G 0)), (1, .int x1), (2, .int x2)]) rfl ?_
  unfold f_X11_about at hf
  refine j_aload_n hX dX11_about_0 1 rfl 0 rfl rfl ?_
  refine j_iconst (v := 0) hX dX11_about_1 2 rfl (by decide) ?_
  refine j_put hX dX11_about_2 5 rfl fg_X11_110 ft_X11_1 0 rfl rfl rfl (Nat.le_of_ble_eq_true rfl) (ws' := (WM G 0 m_people m_grants m_texts m_copies m_taped m_faultPlace m_isFemale m_born m_died m_father m_mother m_fatherGrade m_motherGrade m_grantTo m_grantArms m_grantYear m_copyYear m_copyRow m_tape m_textYear m_ruleMany m_ruleFrom m_codeRow m_stack m_ruleKind m_codes m_at m_read m_token m_sign m_begins m_ends m_bad m_badPlace m_top m_lineLives m_markRow m_quarterMany m_quarters m_isUp m_wasUp ++ fr)) rfl ?_
  refine j_aload_n hX dX11_about_5 6 rfl 0 rfl rfl ?_
  refine j_iload_n hX dX11_about_6 7 rfl 1 rfl rfl ?_
  obtain ⟨v1, hv1, hf⟩ := ibd hf
  refine z_i (As := [.int x1]) (rest := []) (q0 := 0) hX dX11_about_7 10 rfl (t_X11_is x1 hv1) mc_X11_is mv_X11_is ml_X11_124 rfl rfl (Nat.le_of_ble_eq_true rfl) (Nat.le_refl _) (Nat.le_refl _) rfl (Nat.le_of_ble_eq_true rfl) ?_
  refine j_if_ne hX dX11_about_10 13 18 rfl rfl (fun h2 => ?_) (fun h2 => ?_)
  · replace hf := itf h2 hf
    refine j_iconst (v := 0) hX dX11_about_18 19 rfl (by decide) ?_
    refine j_istore_n hX dX11_about_19 20 rfl rfl (by decide) (lv' := [(3, .int 0), (0, .ref (gm G 0)), (1, .int x1), (2, .int x2)]) rfl ?_
    refine j_iconst (v := 0) hX dX11_about_20 21 rfl (by decide) ?_
    refine j_istore hX dX11_about_21 23 rfl (by decide) (lv' := [(4, .int 0), (3, .int 0), (0, .ref (gm G 0)), (1, .int x1), (2, .int x2)]) rfl ?_
    refine j_sub [2, 3, 4, 1, 0] rfl ?_
    exact u_X11_about_23 hX hQ   fu (x1, x2, 0, 0, 0) hf
  · replace hf := itt h2 hf
    refine j_aload_n hX dX11_about_13 14 rfl 0 rfl rfl ?_
    obtain ⟨v23, hv23, hf⟩ := ibd hf
    refine z_i (As := []) (rest := []) (q0 := 0) hX dX11_about_14 17 rfl (t_X11_fail  hv23) mc_X11_fail mv_X11_fail ml_X11_127 rfl rfl (Nat.le_of_ble_eq_true rfl) (Nat.le_refl _) (Nat.le_refl _) rfl (Nat.le_of_ble_eq_true rfl) ?_
    replace hf := Option.some.inj hf
    subst hf
    exact j_iret hX hQ dX11_about_17
def g_X11_own_81 (s0 : Int32) : Option (Int32) :=
  some s0
set_option maxRecDepth 100000 in
set_option maxHeartbeats 4000000 in
theorem t_X11_own_81 {Y : YT} {r : Int32}  (hX : CX l G cX11_own 5 RX11 Y) (hQ : EQi G Y 0 0 .int r (WM G m_code m_people m_grants m_texts m_copies m_taped m_faultPlace m_isFemale m_born m_died m_father m_mother m_fatherGrade m_motherGrade m_grantTo m_grantArms m_grantYear m_copyYear m_copyRow m_tape m_textYear m_ruleMany m_ruleFrom m_codeRow m_stack m_ruleKind m_codes m_at m_read m_token m_sign m_begins m_ends m_bad m_badPlace m_top m_lineLives m_markRow m_quarterMany m_quarters m_isUp m_wasUp ++ fr))  (s0 : Int32) (hf : g_X11_own_81 s0 = some r) : J l G (rmD 1 0 0) Y 0 0 81 [] [.int s0] (WM G m_code m_people m_grants m_texts m_copies m_taped m_faultPlace m_isFemale m_born m_died m_father m_mother m_fatherGrade m_motherGrade m_grantTo m_grantArms m_grantYear m_copyYear m_copyRow m_tape m_textYear m_ruleMany m_ruleFrom m_codeRow m_stack m_ruleKind m_codes m_at m_read m_token m_sign m_begins m_ends m_bad m_badPlace m_top m_lineLives m_markRow m_quarterMany m_quarters m_isUp m_wasUp ++ fr) := by
  unfold g_X11_own_81 at hf
  replace hf := Option.some.inj hf
  subst hf
  exact j_iret hX hQ dX11_own_81
def g_X11_own_60 (k5 : Int32 → Int32 → Int32 → Int32 → Option (Int32)) (x1 : Int32) (x2 : Int32) (x3 : Int32) (x4 : Int32) : Option (Int32) :=
  k5 x1 x2 x3 (x4 + 1)
set_option maxRecDepth 100000 in
set_option maxHeartbeats 4000000 in
theorem t_X11_own_60 {Y : YT} {r : Int32} {k5 : Int32 → Int32 → Int32 → Int32 → Option (Int32)} (hX : CX l G cX11_own 5 RX11 Y) (hQ : EQi G Y 0 0 .int r (WM G m_code m_people m_grants m_texts m_copies m_taped m_faultPlace m_isFemale m_born m_died m_father m_mother m_fatherGrade m_motherGrade m_grantTo m_grantArms m_grantYear m_copyYear m_copyRow m_tape m_textYear m_ruleMany m_ruleFrom m_codeRow m_stack m_ruleKind m_codes m_at m_read m_token m_sign m_begins m_ends m_bad m_badPlace m_top m_lineLives m_markRow m_quarterMany m_quarters m_isUp m_wasUp ++ fr)) (hk5 : ∀ (x1 : Int32) (x2 : Int32) (x3 : Int32) (x4 : Int32), k5 x1 x2 x3 x4  = some r → J l G (rmD 1 0 0) Y 0 0 5 [(0, .ref (gm G 0)), (1, .int x1), (2, .int x2), (3, .int x3), (4, .int x4)] [] (WM G m_code m_people m_grants m_texts m_copies m_taped m_faultPlace m_isFemale m_born m_died m_father m_mother m_fatherGrade m_motherGrade m_grantTo m_grantArms m_grantYear m_copyYear m_copyRow m_tape m_textYear m_ruleMany m_ruleFrom m_codeRow m_stack m_ruleKind m_codes m_at m_read m_token m_sign m_begins m_ends m_bad m_badPlace m_top m_lineLives m_markRow m_quarterMany m_quarters m_isUp m_wasUp ++ fr)) (x1 : Int32) (x2 : Int32) (x3 : Int32) (x4 : Int32) (hf : g_X11_own_60 k5 x1 x2 x3 x4 = some r) : J l G (rmD 1 0 0) Y 0 0 60 [(0, .ref (gm G 0)), (1, .int x1), (2, .int x2), (3, .int x3), (4, .int x4)] [] (WM G m_code m_people m_grants m_texts m_copies m_taped m_faultPlace m_isFemale m_born m_died m_father m_mother m_fatherGrade m_motherGrade m_grantTo m_grantArms m_grantYear m_copyYear m_copyRow m_tape m_textYear m_ruleMany m_ruleFrom m_codeRow m_stack m_ruleKind m_codes m_at m_read m_token m_sign m_begins m_ends m_bad m_badPlace m_top m_lineLives m_markRow m_quarterMany m_quarters m_isUp m_wasUp ++ fr) := by
  unfold g_X11_own_60 at hf
  refine j_iinc (v := x4 + 1) hX dX11_own_60 63 rfl 4 rfl rfl (by decide) (lv' := [(4, .int (x4 + 1)), (0, .ref (gm G 0)), (1, .int x1), (2, .int x2), (3, .int x3)]) rfl ?_
  refine j_goto hX dX11_own_63 5 rfl ?_
  refine j_sub [1, 2, 3, 4, 0] rfl ?_
  exact hk5 x1 x2 x3 (x4 + 1) hf
def g_X11_own_57 (k5 : Int32 → Int32 → Int32 → Int32 → Option (Int32)) (x1 : Int32) (x2 : Int32) (x4 : Int32) : Option (Int32) :=
  g_X11_own_60 k5 x1 x2 x4 x4
set_option maxRecDepth 100000 in
set_option maxHeartbeats 4000000 in
theorem t_X11_own_57 {Y : YT} {r : Int32} {k5 : Int32 → Int32 → Int32 → Int32 → Option (Int32)} (hX : CX l G cX11_own 5 RX11 Y) (hQ : EQi G Y 0 0 .int r (WM G m_code m_people m_grants m_texts m_copies m_taped m_faultPlace m_isFemale m_born m_died m_father m_mother m_fatherGrade m_motherGrade m_grantTo m_grantArms m_grantYear m_copyYear m_copyRow m_tape m_textYear m_ruleMany m_ruleFrom m_codeRow m_stack m_ruleKind m_codes m_at m_read m_token m_sign m_begins m_ends m_bad m_badPlace m_top m_lineLives m_markRow m_quarterMany m_quarters m_isUp m_wasUp ++ fr)) (hk5 : ∀ (x1 : Int32) (x2 : Int32) (x3 : Int32) (x4 : Int32), k5 x1 x2 x3 x4  = some r → J l G (rmD 1 0 0) Y 0 0 5 [(0, .ref (gm G 0)), (1, .int x1), (2, .int x2), (3, .int x3), (4, .int x4)] [] (WM G m_code m_people m_grants m_texts m_copies m_taped m_faultPlace m_isFemale m_born m_died m_father m_mother m_fatherGrade m_motherGrade m_grantTo m_grantArms m_grantYear m_copyYear m_copyRow m_tape m_textYear m_ruleMany m_ruleFrom m_codeRow m_stack m_ruleKind m_codes m_at m_read m_token m_sign m_begins m_ends m_bad m_badPlace m_top m_lineLives m_markRow m_quarterMany m_quarters m_isUp m_wasUp ++ fr)) (x1 : Int32) (x2 : Int32) (x4 : Int32) (hf : g_X11_own_57 k5 x1 x2 x4 = some r) : J l G (rmD 1 0 0) Y 0 0 57 [(0, .ref (gm G 0)), (1, .int x1), (2, .int x2), (4, .int x4)] [] (WM G m_code m_people m_grants m_texts m_copies m_taped m_faultPlace m_isFemale m_born m_died m_father m_mother m_fatherGrade m_motherGrade m_grantTo m_grantArms m_grantYear m_copyYear m_copyRow m_tape m_textYear m_ruleMany m_ruleFrom m_codeRow m_stack m_ruleKind m_codes m_at m_read m_token m_sign m_begins m_ends m_bad m_badPlace m_top m_lineLives m_markRow m_quarterMany m_quarters m_isUp m_wasUp ++ fr) := by
  unfold g_X11_own_57 at hf
  refine j_iload hX dX11_own_57 59 rfl 3 rfl ?_
  refine j_istore_n hX dX11_own_59 60 rfl rfl (by decide) (lv' := [(3, .int x4), (0, .ref (gm G 0)), (1, .int x1), (2, .int x2), (4, .int x4)]) rfl ?_
  refine j_sub [1, 2, 3, 0, 4] rfl ?_
  exact t_X11_own_60 hX hQ  hk5 x1 x2 x4 x4 hf
def g_X11_own_5 (m_grants : Int32) (m_grantTo : Nat → Int32) (m_grantArms : Nat → Int32) (m_grantYear : Nat → Int32) (k5 : Int32 → Int32 → Int32 → Int32 → Option (Int32)) (x1 : Int32) (x2 : Int32) (x3 : Int32) (x4 : Int32) : Option (Int32) :=
  if m_grants ≤ x4 then if x3 = ((-1)) then g_X11_own_81 ((-1)) else if inb x3 40 = true then g_X11_own_81 (m_grantArms (Int32.toNatClampNeg x3)) else none else if inb x4 40 = true then if (m_grantTo (Int32.toNatClampNeg x4)) = x1 then if inb x4 40 = true then if x2 < (m_grantYear (Int32.toNatClampNeg x4)) then g_X11_own_60 k5 x1 x2 x3 x4 else if x3 = ((-1)) then g_X11_own_57 k5 x1 x2 x4 else if inb x4 40 = true then if inb x3 40 = true then if (m_grantYear (Int32.toNatClampNeg x4)) < (m_grantYear (Int32.toNatClampNeg x3)) then g_X11_own_60 k5 x1 x2 x3 x4 else g_X11_own_57 k5 x1 x2 x4 else none else none else none else g_X11_own_60 k5 x1 x2 x3 x4 else none
set_option maxRecDepth 100000 in
set_option maxHeartbeats 4000000 in
theorem t_X11_own_5 {Y : YT} {r : Int32} {k5 : Int32 → Int32 → Int32 → Int32 → Option (Int32)} (hX : CX l G cX11_own 5 RX11 Y) (hQ : EQi G Y 0 0 .int r (WM G m_code m_people m_grants m_texts m_copies m_taped m_faultPlace m_isFemale m_born m_died m_father m_mother m_fatherGrade m_motherGrade m_grantTo m_grantArms m_grantYear m_copyYear m_copyRow m_tape m_textYear m_ruleMany m_ruleFrom m_codeRow m_stack m_ruleKind m_codes m_at m_read m_token m_sign m_begins m_ends m_bad m_badPlace m_top m_lineLives m_markRow m_quarterMany m_quarters m_isUp m_wasUp ++ fr)) (hk5 : ∀ (x1 : Int32) (x2 : Int32) (x3 : Int32) (x4 : Int32), k5 x1 x2 x3 x4  = some r → J l G (rmD 1 0 0) Y 0 0 5 [(0, .ref (gm G 0)), (1, .int x1), (2, .int x2), (3, .int x3), (4, .int x4)] [] (WM G m_code m_people m_grants m_texts m_copies m_taped m_faultPlace m_isFemale m_born m_died m_father m_mother m_fatherGrade m_motherGrade m_grantTo m_grantArms m_grantYear m_copyYear m_copyRow m_tape m_textYear m_ruleMany m_ruleFrom m_codeRow m_stack m_ruleKind m_codes m_at m_read m_token m_sign m_begins m_ends m_bad m_badPlace m_top m_lineLives m_markRow m_quarterMany m_quarters m_isUp m_wasUp ++ fr)) (x1 : Int32) (x2 : Int32) (x3 : Int32) (x4 : Int32) (hf : g_X11_own_5 m_grants m_grantTo m_grantArms m_grantYear k5 x1 x2 x3 x4 = some r) : J l G (rmD 1 0 0) Y 0 0 5 [(0, .ref (gm G 0)), (1, .int x1), (2, .int x2), (3, .int x3), (4, .int x4)] [] (WM G m_code m_people m_grants m_texts m_copies m_taped m_faultPlace m_isFemale m_born m_died m_father m_mother m_fatherGrade m_motherGrade m_grantTo m_grantArms m_grantYear m_copyYear m_copyRow m_tape m_textYear m_ruleMany m_ruleFrom m_codeRow m_stack m_ruleKind m_codes m_at m_read m_token m_sign m_begins m_ends m_bad m_badPlace m_top m_lineLives m_markRow m_quarterMany m_quarters m_isUp m_wasUp ++ fr) := by
  unfold g_X11_own_5 at hf
  refine j_iload hX dX11_own_5 7 rfl 4 rfl ?_
  refine j_aload_n hX dX11_own_7 8 rfl 0 rfl rfl ?_
  refine j_get hX dX11_own_8 11 rfl fg_X11_135 0 rfl rfl ?_
  refine j_icmp_ge hX dX11_own_11 14 66 rfl rfl (fun h1 => ?_) (fun h1 => ?_)
  · replace hf := itt h1 hf
    refine j_iload_n hX dX11_own_66 67 rfl 3 rfl rfl ?_
    refine j_iconst (v := (-1)) hX dX11_own_67 68 rfl (by decide) ?_
    refine j_icmp_ne hX dX11_own_68 71 75 rfl rfl (fun h2 => ?_) (fun h2 => ?_)
    · replace hf := itf h2 hf
      refine j_aload_n hX dX11_own_75 76 rfl 0 rfl rfl ?_
      refine j_get hX dX11_own_76 79 rfl fg_X11_60 0 rfl rfl ?_
      refine j_iload_n hX dX11_own_79 80 rfl 3 rfl rfl ?_
      obtain ⟨hb3, hf⟩ := ign hf
      refine j_iald hX dX11_own_80 81 rfl 10 rfl hb3 ?_
      refine j_sub [] rfl ?_
      exact t_X11_own_81 hX hQ   (m_grantArms (Int32.toNatClampNeg x3)) hf
    · replace hf := itt h2 hf
      refine j_iconst (v := (-1)) hX dX11_own_71 72 rfl (by decide) ?_
      refine j_goto hX dX11_own_72 81 rfl ?_
      refine j_sub [] rfl ?_
      exact t_X11_own_81 hX hQ   ((-1)) hf
  · replace hf := itf h1 hf
    refine j_aload_n hX dX11_own_14 15 rfl 0 rfl rfl ?_
    refine j_get hX dX11_own_15 18 rfl fg_X11_57 0 rfl rfl ?_
    refine j_iload hX dX11_own_18 20 rfl 4 rfl ?_
    obtain ⟨hb4, hf⟩ := ign hf
    refine j_iald hX dX11_own_20 21 rfl 9 rfl hb4 ?_
    refine j_iload_n hX dX11_own_21 22 rfl 1 rfl rfl ?_
    refine j_icmp_ne hX dX11_own_22 25 60 rfl rfl (fun h5 => ?_) (fun h5 => ?_)
    · replace hf := itf h5 hf
      exact t_X11_own_60 hX hQ  hk5 x1 x2 x3 x4 hf
    · replace hf := itt h5 hf
      refine j_aload_n hX dX11_own_25 26 rfl 0 rfl rfl ?_
      refine j_get hX dX11_own_26 29 rfl fg_X11_63 0 rfl rfl ?_
      refine j_iload hX dX11_own_29 31 rfl 4 rfl ?_
      obtain ⟨hb6, hf⟩ := ign hf
      refine j_iald hX dX11_own_31 32 rfl 11 rfl hb6 ?_
      refine j_iload_n hX dX11_own_32 33 rfl 2 rfl rfl ?_
      refine j_icmp_gt hX dX11_own_33 36 60 rfl rfl (fun h7 => ?_) (fun h7 => ?_)
      · replace hf := itt h7 hf
        exact t_X11_own_60 hX hQ  hk5 x1 x2 x3 x4 hf
      · replace hf := itf h7 hf
        refine j_iload_n hX dX11_own_36 37 rfl 3 rfl rfl ?_
        refine j_iconst (v := (-1)) hX dX11_own_37 38 rfl (by decide) ?_
        refine j_icmp_eq hX dX11_own_38 41 57 rfl rfl (fun h8 => ?_) (fun h8 => ?_)
        · replace hf := itt h8 hf
          refine j_sub [0, 1, 2, 4] rfl ?_
          exact t_X11_own_57 hX hQ  hk5 x1 x2 x4 hf
        · replace hf := itf h8 hf
          refine j_aload_n hX dX11_own_41 42 rfl 0 rfl rfl ?_
          refine j_get hX dX11_own_42 45 rfl fg_X11_63 0 rfl rfl ?_
          refine j_iload hX dX11_own_45 47 rfl 4 rfl ?_
          obtain ⟨hb9, hf⟩ := ign hf
          refine j_iald hX dX11_own_47 48 rfl 11 rfl hb9 ?_
          refine j_aload_n hX dX11_own_48 49 rfl 0 rfl rfl ?_
          refine j_get hX dX11_own_49 52 rfl fg_X11_63 0 rfl rfl ?_
          refine j_iload_n hX dX11_own_52 53 rfl 3 rfl rfl ?_
          obtain ⟨hb10, hf⟩ := ign hf
          refine j_iald hX dX11_own_53 54 rfl 11 rfl hb10 ?_
          refine j_icmp_lt hX dX11_own_54 57 60 rfl rfl (fun h11 => ?_) (fun h11 => ?_)
          · replace hf := itt h11 hf
            exact t_X11_own_60 hX hQ  hk5 x1 x2 x3 x4 hf
          · replace hf := itf h11 hf
            refine j_sub [0, 1, 2, 4] rfl ?_
            exact t_X11_own_57 hX hQ  hk5 x1 x2 x4 hf
def f_X11_own_5 (m_grants : Int32) (m_grantTo : Nat → Int32) (m_grantArms : Nat → Int32) (m_grantYear : Nat → Int32) : Nat → (Int32 × Int32 × Int32 × Int32) → Option (Int32) :=
  lp (fun k v => g_X11_own_5 m_grants m_grantTo m_grantArms m_grantYear (fun x1 x2 x3 x4 => k (x1, x2, x3, x4)) v.1 v.2.1 v.2.2.1 v.2.2.2)
set_option maxRecDepth 100000 in
set_option maxHeartbeats 4000000 in
theorem u_X11_own_5 {Y : YT} {r : Int32}  (hX : CX l G cX11_own 5 RX11 Y) (hQ : EQi G Y 0 0 .int r (WM G m_code m_people m_grants m_texts m_copies m_taped m_faultPlace m_isFemale m_born m_died m_father m_mother m_fatherGrade m_motherGrade m_grantTo m_grantArms m_grantYear m_copyYear m_copyRow m_tape m_textYear m_ruleMany m_ruleFrom m_codeRow m_stack m_ruleKind m_codes m_at m_read m_token m_sign m_begins m_ends m_bad m_badPlace m_top m_lineLives m_markRow m_quarterMany m_quarters m_isUp m_wasUp ++ fr))  (n : Nat) (v : Int32 × Int32 × Int32 × Int32) (hf : f_X11_own_5 m_grants m_grantTo m_grantArms m_grantYear n v = some r) : J l G (rmD 1 0 0) Y 0 0 5 [(0, .ref (gm G 0)), (1, .int v.1), (2, .int v.2.1), (3, .int v.2.2.1), (4, .int v.2.2.2)] [] (WM G m_code m_people m_grants m_texts m_copies m_taped m_faultPlace m_isFemale m_born m_died m_father m_mother m_fatherGrade m_motherGrade m_grantTo m_grantArms m_grantYear m_copyYear m_copyRow m_tape m_textYear m_ruleMany m_ruleFrom m_codeRow m_stack m_ruleKind m_codes m_at m_read m_token m_sign m_begins m_ends m_bad m_badPlace m_top m_lineLives m_markRow m_quarterMany m_quarters m_isUp m_wasUp ++ fr) :=
  lp_ind (P := fun v : Int32 × Int32 × Int32 × Int32 => J l G (rmD 1 0 0) Y 0 0 5 [(0, .ref (gm G 0)), (1, .int v.1), (2, .int v.2.1), (3, .int v.2.2.1), (4, .int v.2.2.2)] [] (WM G m_code m_people m_grants m_texts m_copies m_taped m_faultPlace m_isFemale m_born m_died m_father m_mother m_fatherGrade m_motherGrade m_grantTo m_grantArms m_grantYear m_copyYear m_copyRow m_tape m_textYear m_ruleMany m_ruleFrom m_codeRow m_stack m_ruleKind m_codes m_at m_read m_token m_sign m_begins m_ends m_bad m_badPlace m_top m_lineLives m_markRow m_quarterMany m_quarters m_isUp m_wasUp ++ fr)) (fun k hk v hf => t_X11_own_5 hX hQ   (fun x1 x2 x3 x4 h => hk (x1, x2, x3, x4) h) v.1 v.2.1 v.2.2.1 v.2.2.2 hf) n v hf
def f_X11_own (fu : Nat) (m_grants : Int32) (m_grantTo : Nat → Int32) (m_grantArms : Nat → Int32) (m_grantYear : Nat → Int32) (x1 : Int32) (x2 : Int32) : Option (Int32) :=
  f_X11_own_5 m_grants m_grantTo m_grantArms m_grantYear fu (x1, x2, (-1), 0)
set_option maxRecDepth 100000 in
set_option maxHeartbeats 4000000 in
theorem t_X11_own {fu : Nat}  (x1 : Int32) (x2 : Int32) {r : Int32} (hf : f_X11_own fu m_grants m_grantTo m_grantArms m_grantYear x1 x2 = some r) : Ci l G 1 0 0 yX11_own cX11_own 5 .int [.ref (gm G 0), .int x1, .int x2] (WM G m_code m_people m_grants m_texts m_copies m_taped m_faultPlace m_isFemale m_born m_died m_father m_mother m_fatherGrade m_motherGrade m_grantTo m_grantArms m_grantYear m_copyYear m_copyRow m_tape m_textYear m_ruleMany m_ruleFrom m_codeRow m_stack m_ruleKind m_codes m_at m_read m_token m_sign m_begins m_ends m_bad m_badPlace m_top m_lineLives m_markRow m_quarterMany m_quarters m_isUp m_wasUp ++ fr) r (WM G m_code m_people m_grants m_texts m_copies m_taped m_faultPlace m_isFemale m_born m_died m_father m_mother m_fatherGrade m_motherGrade m_grantTo m_grantArms m_grantYear m_copyYear m_copyRow m_tape m_textYear m_ruleMany m_ruleFrom m_codeRow m_stack m_ruleKind m_codes m_at m_read m_token m_sign m_begins m_ends m_bad m_badPlace m_top m_lineLives m_markRow m_quarterMany m_quarters m_isUp m_wasUp ++ fr) := by
  refine Ci.of (by decide) (Nat.le_of_ble_eq_true rfl) (fun Y hX hQ => ?_)
  refine j_lv (lv' := [(0, .ref (gm G 0)), (1, .int x1), (2, .int x2)]) rfl ?_
  unfold f_X11_own at hf
  refine j_iconst (v := (-1)) hX dX11_own_0 1 rfl (by decide) ?_
  refine j_istore_n hX dX11_own_1 2 rfl rfl (by decide) (lv' := [(3, .int ((-1))), (0, .ref (gm G 0)), (1, .int x1), (2, .int x2)]) rfl ?_
  refine j_iconst (v := 0) hX dX11_own_2 3 rfl (by decide) ?_
  refine j_istore hX dX11_own_3 5 rfl (by decide) (lv' := [(4, .int 0), (3, .int ((-1))), (0, .ref (gm G 0)), (1, .int x1), (2, .int x2)]) rfl ?_
  refine j_sub [2, 3, 4, 1, 0] rfl ?_
  exact u_X11_own_5 hX hQ   fu (x1, x2, (-1), 0) hf
def g_X11_rootOf_27 (x3 : Int32) : Option (Int32) :=
  some x3
set_option maxRecDepth 100000 in
set_option maxHeartbeats 4000000 in
theorem t_X11_rootOf_27 {Y : YT} {r : Int32}  (hX : CX l G cX11_rootOf 4 RX11 Y) (hQ : EQi G Y 0 0 .int r (WM G m_code m_people m_grants m_texts m_copies m_taped m_faultPlace m_isFemale m_born m_died m_father m_mother m_fatherGrade m_motherGrade m_grantTo m_grantArms m_grantYear m_copyYear m_copyRow m_tape m_textYear m_ruleMany m_ruleFrom m_codeRow m_stack m_ruleKind m_codes m_at m_read m_token m_sign m_begins m_ends m_bad m_badPlace m_top m_lineLives m_markRow m_quarterMany m_quarters m_isUp m_wasUp ++ fr))  (x3 : Int32) (hf : g_X11_rootOf_27 x3 = some r) : J l G (rmD 2 0 0) Y 0 0 27 [(3, .int x3)] [] (WM G m_code m_people m_grants m_texts m_copies m_taped m_faultPlace m_isFemale m_born m_died m_father m_mother m_fatherGrade m_motherGrade m_grantTo m_grantArms m_grantYear m_copyYear m_copyRow m_tape m_textYear m_ruleMany m_ruleFrom m_codeRow m_stack m_ruleKind m_codes m_at m_read m_token m_sign m_begins m_ends m_bad m_badPlace m_top m_lineLives m_markRow m_quarterMany m_quarters m_isUp m_wasUp ++ fr) := by
  unfold g_X11_rootOf_27 at hf
  refine j_iload_n hX dX11_rootOf_27 28 rfl 0 rfl rfl ?_
  replace hf := Option.some.inj hf
  subst hf
  exact j_iret hX hQ dX11_rootOf_28
def g_X11_rootOf_2 (fu : Nat) (m_grants : Int32) (m_father : Nat → Int32) (m_grantTo : Nat → Int32) (m_grantArms : Nat → Int32) (m_grantYear : Nat → Int32) (k2 : Int32 → Int32 → Option (Int32)) (x2 : Int32) (x3 : Int32) : Option (Int32) :=
  if x3 = ((-1)) then g_X11_rootOf_27 x3 else (f_X11_own fu m_grants m_grantTo m_grantArms m_grantYear x3 x2).bind fun v2 => if v2 = ((-1)) then if inb x3 60 = true then k2 x2 (m_father (Int32.toNatClampNeg x3)) else none else g_X11_rootOf_27 x3
set_option maxRecDepth 100000 in
set_option maxHeartbeats 4000000 in
theorem t_X11_rootOf_2 {fu : Nat} {Y : YT} {r : Int32} {k2 : Int32 → Int32 → Option (Int32)} (hX : CX l G cX11_rootOf 4 RX11 Y) (hQ : EQi G Y 0 0 .int r (WM G m_code m_people m_grants m_texts m_copies m_taped m_faultPlace m_isFemale m_born m_died m_father m_mother m_fatherGrade m_motherGrade m_grantTo m_grantArms m_grantYear m_copyYear m_copyRow m_tape m_textYear m_ruleMany m_ruleFrom m_codeRow m_stack m_ruleKind m_codes m_at m_read m_token m_sign m_begins m_ends m_bad m_badPlace m_top m_lineLives m_markRow m_quarterMany m_quarters m_isUp m_wasUp ++ fr)) (hk2 : ∀ (x2 : Int32) (x3 : Int32), k2 x2 x3  = some r → J l G (rmD 2 0 0) Y 0 0 2 [(0, .ref (gm G 0)), (2, .int x2), (3, .int x3)] [] (WM G m_code m_people m_grants m_texts m_copies m_taped m_faultPlace m_isFemale m_born m_died m_father m_mother m_fatherGrade m_motherGrade m_grantTo m_grantArms m_grantYear m_copyYear m_copyRow m_tape m_textYear m_ruleMany m_ruleFrom m_codeRow m_stack m_ruleKind m_codes m_at m_read m_token m_sign m_begins m_ends m_bad m_badPlace m_top m_lineLives m_markRow m_quarterMany m_quarters m_isUp m_wasUp ++ fr)) (x2 : Int32) (x3 : Int32) (hf : g_X11_rootOf_2 fu m_grants m_father m_grantTo m_grantArms m_grantYear k2 x2 x3 = some r) : J l G (rmD 2 0 0) Y 0 0 2 [(0, .ref (gm G 0)), (2, .int x2), (3, .int x3)] [] (WM G m_code m_people m_grants m_texts m_copies m_taped m_faultPlace m_isFemale m_born m_died m_father m_mother m_fatherGrade m_motherGrade m_grantTo m_grantArms m_grantYear m_copyYear m_copyRow m_tape m_textYear m_ruleMany m_ruleFrom m_codeRow m_stack m_ruleKind m_codes m_at m_read m_token m_sign m_begins m_ends m_bad m_badPlace m_top m_lineLives m_markRow m_quarterMany m_quarters m_isUp m_wasUp ++ fr) := by
  unfold g_X11_rootOf_2 at hf
  refine j_iload_n hX dX11_rootOf_2 3 rfl 2 rfl rfl ?_
  refine j_iconst (v := (-1)) hX dX11_rootOf_3 4 rfl (by decide) ?_
  refine j_icmp_eq hX dX11_rootOf_4 7 27 rfl rfl (fun h1 => ?_) (fun h1 => ?_)
  · replace hf := itt h1 hf
    refine j_sub [2] rfl ?_
    exact t_X11_rootOf_27 hX hQ   x3 hf
  · replace hf := itf h1 hf
    refine j_aload_n hX dX11_rootOf_7 8 rfl 0 rfl rfl ?_
    refine j_iload_n hX dX11_rootOf_8 9 rfl 2 rfl rfl ?_
    refine j_iload_n hX dX11_rootOf_9 10 rfl 1 rfl rfl ?_
    obtain ⟨v2, hv2, hf⟩ := ibd hf
    refine z_i (As := [.int x3, .int x2]) (rest := []) (q0 := 0) hX dX11_rootOf_10 13 rfl (t_X11_own x3 x2 hv2) mc_X11_own mv_X11_own ml_X11_141 rfl rfl (Nat.le_of_ble_eq_true rfl) (Nat.le_refl _) (Nat.le_refl _) rfl (Nat.le_of_ble_eq_true rfl) ?_
    refine j_iconst (v := (-1)) hX dX11_rootOf_13 14 rfl (by decide) ?_
    refine j_icmp_ne hX dX11_rootOf_14 17 27 rfl rfl (fun h3 => ?_) (fun h3 => ?_)
    · replace hf := itf h3 hf
      refine j_sub [2] rfl ?_
      exact t_X11_rootOf_27 hX hQ   x3 hf
    · replace hf := itt h3 hf
      refine j_aload_n hX dX11_rootOf_17 18 rfl 0 rfl rfl ?_
      refine j_get hX dX11_rootOf_18 21 rfl fg_X11_45 0 rfl rfl ?_
      refine j_iload_n hX dX11_rootOf_21 22 rfl 2 rfl rfl ?_
      obtain ⟨hb4, hf⟩ := ign hf
      refine j_iald hX dX11_rootOf_22 23 rfl 5 rfl hb4 ?_
      refine j_istore_n hX dX11_rootOf_23 24 rfl rfl (by decide) (lv' := [(3, .int (m_father (Int32.toNatClampNeg x3))), (0, .ref (gm G 0)), (2, .int x2)]) rfl ?_
      refine j_goto hX dX11_rootOf_24 2 rfl ?_
      refine j_sub [1, 2, 0] rfl ?_
      exact hk2 x2 (m_father (Int32.toNatClampNeg x3)) hf
def f_X11_rootOf_2 (fu : Nat) (m_grants : Int32) (m_father : Nat → Int32) (m_grantTo : Nat → Int32) (m_grantArms : Nat → Int32) (m_grantYear : Nat → Int32) : Nat → (Int32 × Int32) → Option (Int32) :=
  lp (fun k v => g_X11_rootOf_2 fu m_grants m_father m_grantTo m_grantArms m_grantYear (fun x2 x3 => k (x2, x3)) v.1 v.2)
set_option maxRecDepth 100000 in
set_option maxHeartbeats 4000000 in
theorem u_X11_rootOf_2 {fu : Nat} {Y : YT} {r : Int32}  (hX : CX l G cX11_rootOf 4 RX11 Y) (hQ : EQi G Y 0 0 .int r (WM G m_code m_people m_grants m_texts m_copies m_taped m_faultPlace m_isFemale m_born m_died m_father m_mother m_fatherGrade m_motherGrade m_grantTo m_grantArms m_grantYear m_copyYear m_copyRow m_tape m_textYear m_ruleMany m_ruleFrom m_codeRow m_stack m_ruleKind m_codes m_at m_read m_token m_sign m_begins m_ends m_bad m_badPlace m_top m_lineLives m_markRow m_quarterMany m_quarters m_isUp m_wasUp ++ fr))  (n : Nat) (v : Int32 × Int32) (hf : f_X11_rootOf_2 fu m_grants m_father m_grantTo m_grantArms m_grantYear n v = some r) : J l G (rmD 2 0 0) Y 0 0 2 [(0, .ref (gm G 0)), (2, .int v.1), (3, .int v.2)] [] (WM G m_code m_people m_grants m_texts m_copies m_taped m_faultPlace m_isFemale m_born m_died m_father m_mother m_fatherGrade m_motherGrade m_grantTo m_grantArms m_grantYear m_copyYear m_copyRow m_tape m_textYear m_ruleMany m_ruleFrom m_codeRow m_stack m_ruleKind m_codes m_at m_read m_token m_sign m_begins m_ends m_bad m_badPlace m_top m_lineLives m_markRow m_quarterMany m_quarters m_isUp m_wasUp ++ fr) :=
  lp_ind (P := fun v : Int32 × Int32 => J l G (rmD 2 0 0) Y 0 0 2 [(0, .ref (gm G 0)), (2, .int v.1), (3, .int v.2)] [] (WM G m_code m_people m_grants m_texts m_copies m_taped m_faultPlace m_isFemale m_born m_died m_father m_mother m_fatherGrade m_motherGrade m_grantTo m_grantArms m_grantYear m_copyYear m_copyRow m_tape m_textYear m_ruleMany m_ruleFrom m_codeRow m_stack m_ruleKind m_codes m_at m_read m_token m_sign m_begins m_ends m_bad m_badPlace m_top m_lineLives m_markRow m_quarterMany m_quarters m_isUp m_wasUp ++ fr)) (fun k hk v hf => t_X11_rootOf_2 hX hQ   (fun x2 x3 h => hk (x2, x3) h) v.1 v.2 hf) n v hf
def f_X11_rootOf (fu : Nat) (m_grants : Int32) (m_father : Nat → Int32) (m_grantTo : Nat → Int32) (m_grantArms : Nat → Int32) (m_grantYear : Nat → Int32) (x1 : Int32) (x2 : Int32) : Option (Int32) :=
  f_X11_rootOf_2 fu m_grants m_father m_grantTo m_grantArms m_grantYear fu (x2, x1)
set_option maxRecDepth 100000 in
set_option maxHeartbeats 4000000 in
theorem t_X11_rootOf {fu : Nat}  (x1 : Int32) (x2 : Int32) {r : Int32} (hf : f_X11_rootOf fu m_grants m_father m_grantTo m_grantArms m_grantYear x1 x2 = some r) : Ci l G 2 0 0 yX11_rootOf cX11_rootOf 4 .int [.ref (gm G 0), .int x1, .int x2] (WM G m_code m_people m_grants m_texts m_copies m_taped m_faultPlace m_isFemale m_born m_died m_father m_mother m_fatherGrade m_motherGrade m_grantTo m_grantArms m_grantYear m_copyYear m_copyRow m_tape m_textYear m_ruleMany m_ruleFrom m_codeRow m_stack m_ruleKind m_codes m_at m_read m_token m_sign m_begins m_ends m_bad m_badPlace m_top m_lineLives m_markRow m_quarterMany m_quarters m_isUp m_wasUp ++ fr) r (WM G m_code m_people m_grants m_texts m_copies m_taped m_faultPlace m_isFemale m_born m_died m_father m_mother m_fatherGrade m_motherGrade m_grantTo m_grantArms m_grantYear m_copyYear m_copyRow m_tape m_textYear m_ruleMany m_ruleFrom m_codeRow m_stack m_ruleKind m_codes m_at m_read m_token m_sign m_begins m_ends m_bad m_badPlace m_top m_lineLives m_markRow m_quarterMany m_quarters m_isUp m_wasUp ++ fr) := by
  refine Ci.of (by decide) (Nat.le_of_ble_eq_true rfl) (fun Y hX hQ => ?_)
  refine j_lv (lv' := [(0, .ref (gm G 0)), (1, .int x1), (2, .int x2)]) rfl ?_
  unfold f_X11_rootOf at hf
  refine j_iload_n hX dX11_rootOf_0 1 rfl 1 rfl rfl ?_
  refine j_istore_n hX dX11_rootOf_1 2 rfl rfl (by decide) (lv' := [(3, .int x1), (0, .ref (gm G 0)), (1, .int x1), (2, .int x2)]) rfl ?_
  refine j_sub [1, 3, 0] rfl ?_
  exact u_X11_rootOf_2 hX hQ   fu (x2, x1) hf
def g_X11_armsOf_22 (s0 : Int32) : Option (Int32) :=
  some s0
set_option maxRecDepth 100000 in
set_option maxHeartbeats 4000000 in
theorem t_X11_armsOf_22 {Y : YT} {r : Int32}  (hX : CX l G cX11_armsOf 4 RX11 Y) (hQ : EQi G Y 0 0 .int r (WM G m_code m_people m_grants m_texts m_copies m_taped m_faultPlace m_isFemale m_born m_died m_father m_mother m_fatherGrade m_motherGrade m_grantTo m_grantArms m_grantYear m_copyYear m_copyRow m_tape m_textYear m_ruleMany m_ruleFrom m_codeRow m_stack m_ruleKind m_codes m_at m_read m_token m_sign m_begins m_ends m_bad m_badPlace m_top m_lineLives m_markRow m_quarterMany m_quarters m_isUp m_wasUp ++ fr))  (s0 : Int32) (hf : g_X11_armsOf_22 s0 = some r) : J l G (rmD 3 0 0) Y 0 0 22 [] [.int s0] (WM G m_code m_people m_grants m_texts m_copies m_taped m_faultPlace m_isFemale m_born m_died m_father m_mother m_fatherGrade m_motherGrade m_grantTo m_grantArms m_grantYear m_copyYear m_copyRow m_tape m_textYear m_ruleMany m_ruleFrom m_codeRow m_stack m_ruleKind m_codes m_at m_read m_token m_sign m_begins m_ends m_bad m_badPlace m_top m_lineLives m_markRow m_quarterMany m_quarters m_isUp m_wasUp ++ fr) := by
  unfold g_X11_armsOf_22 at hf
  replace hf := Option.some.inj hf
  subst hf
  exact j_iret hX hQ dX11_armsOf_22
def f_X11_armsOf (fu : Nat) (m_grants : Int32) (m_father : Nat → Int32) (m_grantTo : Nat → Int32) (m_grantArms : Nat → Int32) (m_grantYear : Nat → Int32) (x1 : Int32) (x2 : Int32) : Option (Int32) :=
  (f_X11_rootOf fu m_grants m_father m_grantTo m_grantArms m_grantYear x1 x2).bind fun v1 => if v1 = ((-1)) then g_X11_armsOf_22 ((-1)) else (f_X11_own fu m_grants m_grantTo m_grantArms m_grantYear v1 x2).bind fun v3 => g_X11_armsOf_22 v3
set_option maxRecDepth 100000 in
set_option maxHeartbeats 4000000 in
theorem t_X11_armsOf {fu : Nat}  (x1 : Int32) (x2 : Int32) {r : Int32} (hf : f_X11_armsOf fu m_grants m_father m_grantTo m_grantArms m_grantYear x1 x2 = some r) : Ci l G 3 0 0 yX11_armsOf cX11_armsOf 4 .int [.ref (gm G 0), .int x1, .int x2] (WM G m_code m_people m_grants m_texts m_copies m_taped m_faultPlace m_isFemale m_born m_died m_father m_mother m_fatherGrade m_motherGrade m_grantTo m_grantArms m_grantYear m_copyYear m_copyRow m_tape m_textYear m_ruleMany m_ruleFrom m_codeRow m_stack m_ruleKind m_codes m_at m_read m_token m_sign m_begins m_ends m_bad m_badPlace m_top m_lineLives m_markRow m_quarterMany m_quarters m_isUp m_wasUp ++ fr) r (WM G m_code m_people m_grants m_texts m_copies m_taped m_faultPlace m_isFemale m_born m_died m_father m_mother m_fatherGrade m_motherGrade m_grantTo m_grantArms m_grantYear m_copyYear m_copyRow m_tape m_textYear m_ruleMany m_ruleFrom m_codeRow m_stack m_ruleKind m_codes m_at m_read m_token m_sign m_begins m_ends m_bad m_badPlace m_top m_lineLives m_markRow m_quarterMany m_quarters m_isUp m_wasUp ++ fr) := by
  refine Ci.of (by decide) (Nat.le_of_ble_eq_true rfl) (fun Y hX hQ => ?_)
  refine j_lv (lv' := [(0, .ref (gm G 0)), (1, .int x1), (2, .int x2)]) rfl ?_
  unfold f_X11_armsOf at hf
  refine j_aload_n hX dX11_armsOf_0 1 rfl 0 rfl rfl ?_
  refine j_iload_n hX dX11_armsOf_1 2 rfl 1 rfl rfl ?_
  refine j_iload_n hX dX11_armsOf_2 3 rfl 2 rfl rfl ?_
  obtain ⟨v1, hv1, hf⟩ := ibd hf
  refine z_i (As := [.int x1, .int x2]) (rest := []) (q0 := 0) hX dX11_armsOf_3 6 rfl (t_X11_rootOf x1 x2 hv1) mc_X11_rootOf mv_X11_rootOf ml_X11_145 rfl rfl (Nat.le_of_ble_eq_true rfl) (Nat.le_refl _) (Nat.le_refl _) rfl (Nat.le_of_ble_eq_true rfl) ?_
  refine j_istore_n hX dX11_armsOf_6 7 rfl rfl (by decide) (lv' := [(3, .int v1), (0, .ref (gm G 0)), (1, .int x1), (2, .int x2)]) rfl ?_
  refine j_iload_n hX dX11_armsOf_7 8 rfl 0 rfl rfl ?_
  refine j_iconst (v := (-1)) hX dX11_armsOf_8 9 rfl (by decide) ?_
  refine j_icmp_ne hX dX11_armsOf_9 12 16 rfl rfl (fun h2 => ?_) (fun h2 => ?_)
  · replace hf := itf h2 hf
    refine j_aload_n hX dX11_armsOf_16 17 rfl 1 rfl rfl ?_
    refine j_iload_n hX dX11_armsOf_17 18 rfl 0 rfl rfl ?_
    refine j_iload_n hX dX11_armsOf_18 19 rfl 3 rfl rfl ?_
    obtain ⟨v3, hv3, hf⟩ := ibd hf
    refine z_i (As := [.int v1, .int x2]) (rest := []) (q0 := 0) hX dX11_armsOf_19 22 rfl (t_X11_own v1 x2 hv3) mc_X11_own mv_X11_own ml_X11_141 rfl rfl (Nat.le_of_ble_eq_true rfl) (Nat.le_refl _) (Nat.le_refl _) rfl (Nat.le_of_ble_eq_true rfl) ?_
    refine j_sub [] rfl ?_
    exact t_X11_armsOf_22 hX hQ   v3 hf
  · replace hf := itt h2 hf
    refine j_iconst (v := (-1)) hX dX11_armsOf_12 13 rfl (by decide) ?_
    refine j_goto hX dX11_armsOf_13 22 rfl ?_
    refine j_sub [] rfl ?_
    exact t_X11_armsOf_22 hX hQ   ((-1)) hf
def g_X11_stepsOf_39 (x4 : Int32) : Option (Int32) :=
  some x4
set_option maxRecDepth 100000 in
set_option maxHeartbeats 4000000 in
theorem t_X11_stepsOf_39 {Y : YT} {r : Int32}  (hX : CX l G cX11_stepsOf 6 RX11 Y) (hQ : EQi G Y 0 0 .int r (WM G m_code m_people m_grants m_texts m_copies m_taped m_faultPlace m_isFemale m_born m_died m_father m_mother m_fatherGrade m_motherGrade m_grantTo m_grantArms m_grantYear m_copyYear m_copyRow m_tape m_textYear m_ruleMany m_ruleFrom m_codeRow m_stack m_ruleKind m_codes m_at m_read m_token m_sign m_begins m_ends m_bad m_badPlace m_top m_lineLives m_markRow m_quarterMany m_quarters m_isUp m_wasUp ++ fr))  (x4 : Int32) (hf : g_X11_stepsOf_39 x4 = some r) : J l G (rmD 3 0 0) Y 0 0 39 [(4, .int x4)] [] (WM G m_code m_people m_grants m_texts m_copies m_taped m_faultPlace m_isFemale m_born m_died m_father m_mother m_fatherGrade m_motherGrade m_grantTo m_grantArms m_grantYear m_copyYear m_copyRow m_tape m_textYear m_ruleMany m_ruleFrom m_codeRow m_stack m_ruleKind m_codes m_at m_read m_token m_sign m_begins m_ends m_bad m_badPlace m_top m_lineLives m_markRow m_quarterMany m_quarters m_isUp m_wasUp ++ fr) := by
  unfold g_X11_stepsOf_39 at hf
  refine j_iload hX dX11_stepsOf_39 41 rfl 0 rfl ?_
  replace hf := Option.some.inj hf
  subst hf
  exact j_iret hX hQ dX11_stepsOf_41
def g_X11_stepsOf_13 (m_father : Nat → Int32) (k13 : Int32 → Int32 → Int32 → Option (Int32)) (x3 : Int32) (x4 : Int32) (x5 : Int32) : Option (Int32) :=
  if x3 = ((-1)) then g_X11_stepsOf_39 x4 else if x5 = x3 then g_X11_stepsOf_39 x4 else if inb x5 60 = true then k13 x3 (x4 + 1) (m_father (Int32.toNatClampNeg x5)) else none
set_option maxRecDepth 100000 in
set_option maxHeartbeats 4000000 in
theorem t_X11_stepsOf_13 {Y : YT} {r : Int32} {k13 : Int32 → Int32 → Int32 → Option (Int32)} (hX : CX l G cX11_stepsOf 6 RX11 Y) (hQ : EQi G Y 0 0 .int r (WM G m_code m_people m_grants m_texts m_copies m_taped m_faultPlace m_isFemale m_born m_died m_father m_mother m_fatherGrade m_motherGrade m_grantTo m_grantArms m_grantYear m_copyYear m_copyRow m_tape m_textYear m_ruleMany m_ruleFrom m_codeRow m_stack m_ruleKind m_codes m_at m_read m_token m_sign m_begins m_ends m_bad m_badPlace m_top m_lineLives m_markRow m_quarterMany m_quarters m_isUp m_wasUp ++ fr)) (hk13 : ∀ (x3 : Int32) (x4 : Int32) (x5 : Int32), k13 x3 x4 x5  = some r → J l G (rmD 3 0 0) Y 0 0 13 [(0, .ref (gm G 0)), (3, .int x3), (4, .int x4), (5, .int x5)] [] (WM G m_code m_people m_grants m_texts m_copies m_taped m_faultPlace m_isFemale m_born m_died m_father m_mother m_fatherGrade m_motherGrade m_grantTo m_grantArms m_grantYear m_copyYear m_copyRow m_tape m_textYear m_ruleMany m_ruleFrom m_codeRow m_stack m_ruleKind m_codes m_at m_read m_token m_sign m_begins m_ends m_bad m_badPlace m_top m_lineLives m_markRow m_quarterMany m_quarters m_isUp m_wasUp ++ fr)) (x3 : Int32) (x4 : Int32) (x5 : Int32) (hf : g_X11_stepsOf_13 m_father k13 x3 x4 x5 = some r) : J l G (rmD 3 0 0) Y 0 0 13 [(0, .ref (gm G 0)), (3, .int x3), (4, .int x4), (5, .int x5)] [] (WM G m_code m_people m_grants m_texts m_copies m_taped m_faultPlace m_isFemale m_born m_died m_father m_mother m_fatherGrade m_motherGrade m_grantTo m_grantArms m_grantYear m_copyYear m_copyRow m_tape m_textYear m_ruleMany m_ruleFrom m_codeRow m_stack m_ruleKind m_codes m_at m_read m_token m_sign m_begins m_ends m_bad m_badPlace m_top m_lineLives m_markRow m_quarterMany m_quarters m_isUp m_wasUp ++ fr) := by
  unfold g_X11_stepsOf_13 at hf
  refine j_iload_n hX dX11_stepsOf_13 14 rfl 1 rfl rfl ?_
  refine j_iconst (v := (-1)) hX dX11_stepsOf_14 15 rfl (by decide) ?_
  refine j_icmp_eq hX dX11_stepsOf_15 18 39 rfl rfl (fun h2 => ?_) (fun h2 => ?_)
  · replace hf := itt h2 hf
    refine j_sub [2] rfl ?_
    exact t_X11_stepsOf_39 hX hQ   x4 hf
  · replace hf := itf h2 hf
    refine j_iload hX dX11_stepsOf_18 20 rfl 3 rfl ?_
    refine j_iload_n hX dX11_stepsOf_20 21 rfl 1 rfl rfl ?_
    refine j_icmp_eq hX dX11_stepsOf_21 24 39 rfl rfl (fun h3 => ?_) (fun h3 => ?_)
    · replace hf := itt h3 hf
      refine j_sub [2] rfl ?_
      exact t_X11_stepsOf_39 hX hQ   x4 hf
    · replace hf := itf h3 hf
      refine j_iinc (v := x4 + 1) hX dX11_stepsOf_24 27 rfl 2 rfl rfl (by decide) (lv' := [(4, .int (x4 + 1)), (0, .ref (gm G 0)), (3, .int x3), (5, .int x5)]) rfl ?_
      refine j_aload_n hX dX11_stepsOf_27 28 rfl 1 rfl rfl ?_
      refine j_get hX dX11_stepsOf_28 31 rfl fg_X11_45 0 rfl rfl ?_
      refine j_iload hX dX11_stepsOf_31 33 rfl 3 rfl ?_
      obtain ⟨hb4, hf⟩ := ign hf
      refine j_iald hX dX11_stepsOf_33 34 rfl 5 rfl hb4 ?_
      refine j_istore hX dX11_stepsOf_34 36 rfl (by decide) (lv' := [(5, .int (m_father (Int32.toNatClampNeg x5))), (4, .int (x4 + 1)), (0, .ref (gm G 0)), (3, .int x3)]) rfl ?_
      refine j_goto hX dX11_stepsOf_36 13 rfl ?_
      refine j_sub [2, 3, 1, 0] rfl ?_
      exact hk13 x3 (x4 + 1) (m_father (Int32.toNatClampNeg x5)) hf
def f_X11_stepsOf_13 (m_father : Nat → Int32) : Nat → (Int32 × Int32 × Int32) → Option (Int32) :=
  lp (fun k v => g_X11_stepsOf_13 m_father (fun x3 x4 x5 => k (x3, x4, x5)) v.1 v.2.1 v.2.2)
set_option maxRecDepth 100000 in
set_option maxHeartbeats 4000000 in
theorem u_X11_stepsOf_13 {Y : YT} {r : Int32}  (hX : CX l G cX11_stepsOf 6 RX11 Y) (hQ : EQi G Y 0 0 .int r (WM G m_code m_people m_grants m_texts m_copies m_taped m_faultPlace m_isFemale m_born m_died m_father m_mother m_fatherGrade m_motherGrade m_grantTo m_grantArms m_grantYear m_copyYear m_copyRow m_tape m_textYear m_ruleMany m_ruleFrom m_codeRow m_stack m_ruleKind m_codes m_at m_read m_token m_sign m_begins m_ends m_bad m_badPlace m_top m_lineLives m_markRow m_quarterMany m_quarters m_isUp m_wasUp ++ fr))  (n : Nat) (v : Int32 × Int32 × Int32) (hf : f_X11_stepsOf_13 m_father n v = some r) : J l G (rmD 3 0 0) Y 0 0 13 [(0, .ref (gm G 0)), (3, .int v.1), (4, .int v.2.1), (5, .int v.2.2)] [] (WM G m_code m_people m_grants m_texts m_copies m_taped m_faultPlace m_isFemale m_born m_died m_father m_mother m_fatherGrade m_motherGrade m_grantTo m_grantArms m_grantYear m_copyYear m_copyRow m_tape m_textYear m_ruleMany m_ruleFrom m_codeRow m_stack m_ruleKind m_codes m_at m_read m_token m_sign m_begins m_ends m_bad m_badPlace m_top m_lineLives m_markRow m_quarterMany m_quarters m_isUp m_wasUp ++ fr) :=
  lp_ind (P := fun v : Int32 × Int32 × Int32 => J l G (rmD 3 0 0) Y 0 0 13 [(0, .ref (gm G 0)), (3, .int v.1), (4, .int v.2.1), (5, .int v.2.2)] [] (WM G m_code m_people m_grants m_texts m_copies m_taped m_faultPlace m_isFemale m_born m_died m_father m_mother m_fatherGrade m_motherGrade m_grantTo m_grantArms m_grantYear m_copyYear m_copyRow m_tape m_textYear m_ruleMany m_ruleFrom m_codeRow m_stack m_ruleKind m_codes m_at m_read m_token m_sign m_begins m_ends m_bad m_badPlace m_top m_lineLives m_markRow m_quarterMany m_quarters m_isUp m_wasUp ++ fr)) (fun k hk v hf => t_X11_stepsOf_13 hX hQ   (fun x3 x4 x5 h => hk (x3, x4, x5) h) v.1 v.2.1 v.2.2 hf) n v hf
def f_X11_stepsOf (fu : Nat) (m_grants : Int32) (m_father : Nat → Int32) (m_grantTo : Nat → Int32) (m_grantArms : Nat → Int32) (m_grantYear : Nat → Int32) (x1 : Int32) (x2 : Int32) : Option (Int32) :=
  (f_X11_rootOf fu m_grants m_father m_grantTo m_grantArms m_grantYear x1 x2).bind fun v1 => f_X11_stepsOf_13 m_father fu (v1, 0, x1)
set_option maxRecDepth 100000 in
set_option maxHeartbeats 4000000 in
theorem t_X11_stepsOf {fu : Nat}  (x1 : Int32) (x2 : Int32) {r : Int32} (hf : f_X11_stepsOf fu m_grants m_father m_grantTo m_grantArms m_grantYear x1 x2 = some r) : Ci l G 3 0 0 yX11_stepsOf cX11_stepsOf 6 .int [.ref (gm G 0), .int x1, .int x2] (WM G m_code m_people m_grants m_texts m_copies m_taped m_faultPlace m_isFemale m_born m_died m_father m_mother m_fatherGrade m_motherGrade m_grantTo m_grantArms m_grantYear m_copyYear m_copyRow m_tape m_textYear m_ruleMany m_ruleFrom m_codeRow m_stack m_ruleKind m_codes m_at m_read m_token m_sign m_begins m_ends m_bad m_badPlace m_top m_lineLives m_markRow m_quarterMany m_quarters m_isUp m_wasUp ++ fr) r (WM G m_code m_people m_grants m_texts m_copies m_taped m_faultPlace m_isFemale m_born m_died m_father m_mother m_fatherGrade m_motherGrade m_grantTo m_grantArms m_grantYear m_copyYear m_copyRow m_tape m_textYear m_ruleMany m_ruleFrom m_codeRow m_stack m_ruleKind m_codes m_at m_read m_token m_sign m_begins m_ends m_bad m_badPlace m_top m_lineLives m_markRow m_quarterMany m_quarters m_isUp m_wasUp ++ fr) := by
  refine Ci.of (by decide) (Nat.le_of_ble_eq_true rfl) (fun Y hX hQ => ?_)
  refine j_lv (lv' := [(0, .ref (gm G 0)), (1, .int x1), (2, .int x2)]) rfl ?_
  unfold f_X11_stepsOf at hf
  refine j_aload_n hX dX11_stepsOf_0 1 rfl 0 rfl rfl ?_
  refine j_iload_n hX dX11_stepsOf_1 2 rfl 1 rfl rfl ?_
  refine j_iload_n hX dX11_stepsOf_2 3 rfl 2 rfl rfl ?_
  obtain ⟨v1, hv1, hf⟩ := ibd hf
  refine z_i (As := [.int x1, .int x2]) (rest := []) (q0 := 0) hX dX11_stepsOf_3 6 rfl (t_X11_rootOf x1 x2 hv1) mc_X11_rootOf mv_X11_rootOf ml_X11_145 rfl rfl (Nat.le_of_ble_eq_true rfl) (Nat.le_refl _) (Nat.le_refl _) rfl (Nat.le_of_ble_eq_true rfl) ?_
  refine j_istore_n hX dX11_stepsOf_6 7 rfl rfl (by decide) (lv' := [(3, .int v1), (0, .ref (gm G 0)), (1, .int x1), (2, .int x2)]) rfl ?_
  refine j_iconst (v := 0) hX dX11_stepsOf_7 8 rfl (by decide) ?_
  refine j_istore hX dX11_stepsOf_8 10 rfl (by decide) (lv' := [(4, .int 0), (3, .int v1), (0, .ref (gm G 0)), (1, .int x1), (2, .int x2)]) rfl ?_
  refine j_iload_n hX dX11_stepsOf_10 11 rfl 3 rfl rfl ?_
  refine j_istore hX dX11_stepsOf_11 13 rfl (by decide) (lv' := [(5, .int x1), (4, .int 0), (3, .int v1), (0, .ref (gm G 0)), (1, .int x1), (2, .int x2)]) rfl ?_
  refine j_sub [3, 2, 1, 0] rfl ?_
  exact u_X11_stepsOf_13 hX hQ   fu (v1, 0, x1) hf
def g_X11_gradeOf_51 (x4 : Int32) : Option (Int32) :=
  some x4
set_option maxRecDepth 100000 in
set_option maxHeartbeats 4000000 in
theorem t_X11_gradeOf_51 {Y : YT} {r : Int32}  (hX : CX l G cX11_gradeOf 6 RX11 Y) (hQ : EQi G Y 0 0 .int r (WM G m_code m_people m_grants m_texts m_copies m_taped m_faultPlace m_isFemale m_born m_died m_father m_mother m_fatherGrade m_motherGrade m_grantTo m_grantArms m_grantYear m_copyYear m_copyRow m_tape m_textYear m_ruleMany m_ruleFrom m_codeRow m_stack m_ruleKind m_codes m_at m_read m_token m_sign m_begins m_ends m_bad m_badPlace m_top m_lineLives m_markRow m_quarterMany m_quarters m_isUp m_wasUp ++ fr))  (x4 : Int32) (hf : g_X11_gradeOf_51 x4 = some r) : J l G (rmD 3 0 0) Y 0 0 51 [(4, .int x4)] [] (WM G m_code m_people m_grants m_texts m_copies m_taped m_faultPlace m_isFemale m_born m_died m_father m_mother m_fatherGrade m_motherGrade m_grantTo m_grantArms m_grantYear m_copyYear m_copyRow m_tape m_textYear m_ruleMany m_ruleFrom m_codeRow m_stack m_ruleKind m_codes m_at m_read m_token m_sign m_begins m_ends m_bad m_badPlace m_top m_lineLives m_markRow m_quarterMany m_quarters m_isUp m_wasUp ++ fr) := by
  unfold g_X11_gradeOf_51 at hf
  refine j_iload hX dX11_gradeOf_51 53 rfl 0 rfl ?_
  replace hf := Option.some.inj hf
  subst hf
  exact j_iret hX hQ dX11_gradeOf_53
def g_X11_gradeOf_14 (m_father : Nat → Int32) (m_fatherGrade : Nat → Int32) (k14 : Int32 → Int32 → Int32 → Option (Int32)) (x3 : Int32) (x4 : Int32) (x5 : Int32) : Option (Int32) :=
  if x3 = ((-1)) then g_X11_gradeOf_51 x4 else if x5 = x3 then g_X11_gradeOf_51 x4 else if inb x5 60 = true then if inb x5 60 = true then k14 x3 (min32 x4 (m_fatherGrade (Int32.toNatClampNeg x5))) (m_father (Int32.toNatClampNeg x5)) else none else none
set_option maxRecDepth 100000 in
set_option maxHeartbeats 4000000 in
theorem t_X11_gradeOf_14 {Y : YT} {r : Int32} {k14 : Int32 → Int32 → Int32 → Option (Int32)} (hX : CX l G cX11_gradeOf 6 RX11 Y) (hQ : EQi G Y 0 0 .int r (WM G m_code m_people m_grants m_texts m_copies m_taped m_faultPlace m_isFemale m_born m_died m_father m_mother m_fatherGrade m_motherGrade m_grantTo m_grantArms m_grantYear m_copyYear m_copyRow m_tape m_textYear m_ruleMany m_ruleFrom m_codeRow m_stack m_ruleKind m_codes m_at m_read m_token m_sign m_begins m_ends m_bad m_badPlace m_top m_lineLives m_markRow m_quarterMany m_quarters m_isUp m_wasUp ++ fr)) (hk14 : ∀ (x3 : Int32) (x4 : Int32) (x5 : Int32), k14 x3 x4 x5  = some r → J l G (rmD 3 0 0) Y 0 0 14 [(0, .ref (gm G 0)), (3, .int x3), (4, .int x4), (5, .int x5)] [] (WM G m_code m_people m_grants m_texts m_copies m_taped m_faultPlace m_isFemale m_born m_died m_father m_mother m_fatherGrade m_motherGrade m_grantTo m_grantArms m_grantYear m_copyYear m_copyRow m_tape m_textYear m_ruleMany m_ruleFrom m_codeRow m_stack m_ruleKind m_codes m_at m_read m_token m_sign m_begins m_ends m_bad m_badPlace m_top m_lineLives m_markRow m_quarterMany m_quarters m_isUp m_wasUp ++ fr)) (x3 : Int32) (x4 : Int32) (x5 : Int32) (hf : g_X11_gradeOf_14 m_father m_fatherGrade k14 x3 x4 x5 = some r) : J l G (rmD 3 0 0) Y 0 0 14 [(0, .ref (gm G 0)), (3, .int x3), (4, .int x4), (5, .int x5)] [] (WM G m_code m_people m_grants m_texts m_copies m_taped m_faultPlace m_isFemale m_born m_died m_father m_mother m_fatherGrade m_motherGrade m_grantTo m_grantArms m_grantYear m_copyYear m_copyRow m_tape m_textYear m_ruleMany m_ruleFrom m_codeRow m_stack m_ruleKind m_codes m_at m_read m_token m_sign m_begins m_ends m_bad m_badPlace m_top m_lineLives m_markRow m_quarterMany m_quarters m_isUp m_wasUp ++ fr) := by
  unfold g_X11_gradeOf_14 at hf
  refine j_iload_n hX dX11_gradeOf_14 15 rfl 1 rfl rfl ?_
  refine j_iconst (v := (-1)) hX dX11_gradeOf_15 16 rfl (by decide) ?_
  refine j_icmp_eq hX dX11_gradeOf_16 19 51 rfl rfl (fun h2 => ?_) (fun h2 => ?_)
  · replace hf := itt h2 hf
    refine j_sub [2] rfl ?_
    exact t_X11_gradeOf_51 hX hQ   x4 hf
  · replace hf := itf h2 hf
    refine j_iload hX dX11_gradeOf_19 21 rfl 3 rfl ?_
    refine j_iload_n hX dX11_gradeOf_21 22 rfl 1 rfl rfl ?_
    refine j_icmp_eq hX dX11_gradeOf_22 25 51 rfl rfl (fun h3 => ?_) (fun h3 => ?_)
    · replace hf := itt h3 hf
      refine j_sub [2] rfl ?_
      exact t_X11_gradeOf_51 hX hQ   x4 hf
    · replace hf := itf h3 hf
      refine j_iload hX dX11_gradeOf_25 27 rfl 2 rfl ?_
      refine j_aload_n hX dX11_gradeOf_27 28 rfl 0 rfl rfl ?_
      refine j_get hX dX11_gradeOf_28 31 rfl fg_X11_51 0 rfl rfl ?_
      refine j_iload hX dX11_gradeOf_31 33 rfl 3 rfl ?_
      obtain ⟨hb4, hf⟩ := ign hf
      refine j_iald hX dX11_gradeOf_33 34 rfl 7 rfl hb4 ?_
      refine j_min (rest := []) hX dX11_gradeOf_34 37 rfl mm_X11_148 (Nat.le_of_ble_eq_true rfl) (Nat.le_of_ble_eq_true rfl) (Nat.le_refl _) (Nat.le_refl _) ?_
      refine j_istore hX dX11_gradeOf_37 39 rfl (by decide) (lv' := [(4, .int (min32 x4 (m_fatherGrade (Int32.toNatClampNeg x5)))), (0, .ref (gm G 0)), (3, .int x3), (5, .int x5)]) rfl ?_
      refine j_aload_n hX dX11_gradeOf_39 40 rfl 1 rfl rfl ?_
      refine j_get hX dX11_gradeOf_40 43 rfl fg_X11_45 0 rfl rfl ?_
      refine j_iload hX dX11_gradeOf_43 45 rfl 3 rfl ?_
      obtain ⟨hb5, hf⟩ := ign hf
      refine j_iald hX dX11_gradeOf_45 46 rfl 5 rfl hb5 ?_
      refine j_istore hX dX11_gradeOf_46 48 rfl (by decide) (lv' := [(5, .int (m_father (Int32.toNatClampNeg x5))), (4, .int (min32 x4 (m_fatherGrade (Int32.toNatClampNeg x5)))), (0, .ref (gm G 0)), (3, .int x3)]) rfl ?_
      refine j_goto hX dX11_gradeOf_48 14 rfl ?_
      refine j_sub [2, 3, 1, 0] rfl ?_
      exact hk14 x3 (min32 x4 (m_fatherGrade (Int32.toNatClampNeg x5))) (m_father (Int32.toNatClampNeg x5)) hf
def f_X11_gradeOf_14 (m_father : Nat → Int32) (m_fatherGrade : Nat → Int32) : Nat → (Int32 × Int32 × Int32) → Option (Int32) :=
  lp (fun k v => g_X11_gradeOf_14 m_father m_fatherGrade (fun x3 x4 x5 => k (x3, x4, x5)) v.1 v.2.1 v.2.2)
set_option maxRecDepth 100000 in
set_option maxHeartbeats 4000000 in
theorem u_X11_gradeOf_14 {Y : YT} {r : Int32}  (hX : CX l G cX11_gradeOf 6 RX11 Y) (hQ : EQi G Y 0 0 .int r (WM G m_code m_people m_grants m_texts m_copies m_taped m_faultPlace m_isFemale m_born m_died m_father m_mother m_fatherGrade m_motherGrade m_grantTo m_grantArms m_grantYear m_copyYear m_copyRow m_tape m_textYear m_ruleMany m_ruleFrom m_codeRow m_stack m_ruleKind m_codes m_at m_read m_token m_sign m_begins m_ends m_bad m_badPlace m_top m_lineLives m_markRow m_quarterMany m_quarters m_isUp m_wasUp ++ fr))  (n : Nat) (v : Int32 × Int32 × Int32) (hf : f_X11_gradeOf_14 m_father m_fatherGrade n v = some r) : J l G (rmD 3 0 0) Y 0 0 14 [(0, .ref (gm G 0)), (3, .int v.1), (4, .int v.2.1), (5, .int v.2.2)] [] (WM G m_code m_people m_grants m_texts m_copies m_taped m_faultPlace m_isFemale m_born m_died m_father m_mother m_fatherGrade m_motherGrade m_grantTo m_grantArms m_grantYear m_copyYear m_copyRow m_tape m_textYear m_ruleMany m_ruleFrom m_codeRow m_stack m_ruleKind m_codes m_at m_read m_token m_sign m_begins m_ends m_bad m_badPlace m_top m_lineLives m_markRow m_quarterMany m_quarters m_isUp m_wasUp ++ fr) :=
  lp_ind (P := fun v : Int32 × Int32 × Int32 => J l G (rmD 3 0 0) Y 0 0 14 [(0, .ref (gm G 0)), (3, .int v.1), (4, .int v.2.1), (5, .int v.2.2)] [] (WM G m_code m_people m_grants m_texts m_copies m_taped m_faultPlace m_isFemale m_born m_died m_father m_mother m_fatherGrade m_motherGrade m_grantTo m_grantArms m_grantYear m_copyYear m_copyRow m_tape m_textYear m_ruleMany m_ruleFrom m_codeRow m_stack m_ruleKind m_codes m_at m_read m_token m_sign m_begins m_ends m_bad m_badPlace m_top m_lineLives m_markRow m_quarterMany m_quarters m_isUp m_wasUp ++ fr)) (fun k hk v hf => t_X11_gradeOf_14 hX hQ   (fun x3 x4 x5 h => hk (x3, x4, x5) h) v.1 v.2.1 v.2.2 hf) n v hf
def f_X11_gradeOf (fu : Nat) (m_grants : Int32) (m_father : Nat → Int32) (m_fatherGrade : Nat → Int32) (m_grantTo : Nat → Int32) (m_grantArms : Nat → Int32) (m_grantYear : Nat → Int32) (x1 : Int32) (x2 : Int32) : Option (Int32) :=
  (f_X11_rootOf fu m_grants m_father m_grantTo m_grantArms m_grantYear x1 x2).bind fun v1 => f_X11_gradeOf_14 m_father m_fatherGrade fu (v1, 9, x1)
set_option maxRecDepth 100000 in
set_option maxHeartbeats 4000000 in
theorem t_X11_gradeOf {fu : Nat}  (x1 : Int32) (x2 : Int32) {r : Int32} (hf : f_X11_gradeOf fu m_grants m_father m_fatherGrade m_grantTo m_grantArms m_grantYear x1 x2 = some r) : Ci l G 3 0 0 yX11_gradeOf cX11_gradeOf 6 .int [.ref (gm G 0), .int x1, .int x2] (WM G m_code m_people m_grants m_texts m_copies m_taped m_faultPlace m_isFemale m_born m_died m_father m_mother m_fatherGrade m_motherGrade m_grantTo m_grantArms m_grantYear m_copyYear m_copyRow m_tape m_textYear m_ruleMany m_ruleFrom m_codeRow m_stack m_ruleKind m_codes m_at m_read m_token m_sign m_begins m_ends m_bad m_badPlace m_top m_lineLives m_markRow m_quarterMany m_quarters m_isUp m_wasUp ++ fr) r (WM G m_code m_people m_grants m_texts m_copies m_taped m_faultPlace m_isFemale m_born m_died m_father m_mother m_fatherGrade m_motherGrade m_grantTo m_grantArms m_grantYear m_copyYear m_copyRow m_tape m_textYear m_ruleMany m_ruleFrom m_codeRow m_stack m_ruleKind m_codes m_at m_read m_token m_sign m_begins m_ends m_bad m_badPlace m_top m_lineLives m_markRow m_quarterMany m_quarters m_isUp m_wasUp ++ fr) := by
  refine Ci.of (by decide) (Nat.le_of_ble_eq_true rfl) (fun Y hX hQ => ?_)
  refine j_lv (lv' := [(0, .ref (gm G 0)), (1, .int x1), (2, .int x2)]) rfl ?_
  unfold f_X11_gradeOf at hf
  refine j_aload_n hX dX11_gradeOf_0 1 rfl 0 rfl rfl ?_
  refine j_iload_n hX dX11_gradeOf_1 2 rfl 1 rfl rfl ?_
  refine j_iload_n hX dX11_gradeOf_2 3 rfl 2 rfl rfl ?_
  obtain ⟨v1, hv1, hf⟩ := ibd hf
  refine z_i (As := [.int x1, .int x2]) (rest := []) (q0 := 0) hX dX11_gradeOf_3 6 rfl (t_X11_rootOf x1 x2 hv1) mc_X11_rootOf mv_X11_rootOf ml_X11_145 rfl rfl (Nat.le_of_ble_eq_true rfl) (Nat.le_refl _) (Nat.le_refl _) rfl (Nat.le_of_ble_eq_true rfl) ?_
  refine j_istore_n hX dX11_gradeOf_6 7 rfl rfl (by decide) (lv' := [(3, .int v1), (0, .ref (gm G 0)), (1, .int x1), (2, .int x2)]) rfl ?_
  refine j_bipush (v := 9) hX dX11_gradeOf_7 9 rfl (by decide) ?_
  refine j_istore hX dX11_gradeOf_9 11 rfl (by decide) (lv' := [(4, .int 9), (3, .int v1), (0, .ref (gm G 0)), (1, .int x1), (2, .int x2)]) rfl ?_
  refine j_iload_n hX dX11_gradeOf_11 12 rfl 3 rfl rfl ?_
  refine j_istore hX dX11_gradeOf_12 14 rfl (by decide) (lv' := [(5, .int x1), (4, .int 9), (3, .int v1), (0, .ref (gm G 0)), (1, .int x1), (2, .int x2)]) rfl ?_
  refine j_sub [3, 2, 1, 0] rfl ?_
  exact u_X11_gradeOf_14 hX hQ   fu (v1, 9, x1) hf
def g_X11_lines_105 (m_lineLives : Nat → Int32) (k7 : Int32 → Int32 → (Nat → Int32) → Option ((Nat → Int32))) (x1 : Int32) (x2 : Int32) (s0 : Int32) (s1 : Int32) : Option ((Nat → Int32)) :=
  if inb s1 60 = true then k7 x1 (x2 + (-1)) (upd m_lineLives (Int32.toNatClampNeg s1) (vp_nar .boolean s0)) else none
set_option maxRecDepth 100000 in
set_option maxHeartbeats 4000000 in
theorem t_X11_lines_105 {Y : YT} {r : (Nat → Int32)} {k7 : Int32 → Int32 → (Nat → Int32) → Option ((Nat → Int32))} (hX : CX l G cX11_lines 5 RX11 Y) (hQ : EQv G Y 0 0 (WM G m_code m_people m_grants m_texts m_copies m_taped m_faultPlace m_isFemale m_born m_died m_father m_mother m_fatherGrade m_motherGrade m_grantTo m_grantArms m_grantYear m_copyYear m_copyRow m_tape m_textYear m_ruleMany m_ruleFrom m_codeRow m_stack m_ruleKind m_codes m_at m_read m_token m_sign m_begins m_ends m_bad m_badPlace m_top r m_markRow m_quarterMany m_quarters m_isUp m_wasUp ++ fr)) (hk7 : ∀ (x1 : Int32) (x2 : Int32) (m_lineLives : Nat → Int32), k7 x1 x2 m_lineLives = some r → J l G (rmD 3 0 0) Y 0 0 7 [(0, .ref (gm G 0)), (1, .int x1), (2, .int x2)] [] (WM G m_code m_people m_grants m_texts m_copies m_taped m_faultPlace m_isFemale m_born m_died m_father m_mother m_fatherGrade m_motherGrade m_grantTo m_grantArms m_grantYear m_copyYear m_copyRow m_tape m_textYear m_ruleMany m_ruleFrom m_codeRow m_stack m_ruleKind m_codes m_at m_read m_token m_sign m_begins m_ends m_bad m_badPlace m_top m_lineLives m_markRow m_quarterMany m_quarters m_isUp m_wasUp ++ fr)) (x1 : Int32) (x2 : Int32) (s0 : Int32) (s1 : Int32) (hf : g_X11_lines_105 m_lineLives k7 x1 x2 s0 s1 = some r) : J l G (rmD 3 0 0) Y 0 0 105 [(0, .ref (gm G 0)), (1, .int x1), (2, .int x2)] [.int s0, .int s1, .ref (gm G 21)] (WM G m_code m_people m_grants m_texts m_copies m_taped m_faultPlace m_isFemale m_born m_died m_father m_mother m_fatherGrade m_motherGrade m_grantTo m_grantArms m_grantYear m_copyYear m_copyRow m_tape m_textYear m_ruleMany m_ruleFrom m_codeRow m_stack m_ruleKind m_codes m_at m_read m_token m_sign m_begins m_ends m_bad m_badPlace m_top m_lineLives m_markRow m_quarterMany m_quarters m_isUp m_wasUp ++ fr) := by
  unfold g_X11_lines_105 at hf
  obtain ⟨hb5, hf⟩ := ign hf
  refine j_zast hX dX11_lines_105 106 rfl 21 rfl hb5 (ws' := (WM G m_code m_people m_grants m_texts m_copies m_taped m_faultPlace m_isFemale m_born m_died m_father m_mother m_fatherGrade m_motherGrade m_grantTo m_grantArms m_grantYear m_copyYear m_copyRow m_tape m_textYear m_ruleMany m_ruleFrom m_codeRow m_stack m_ruleKind m_codes m_at m_read m_token m_sign m_begins m_ends m_bad m_badPlace m_top (upd m_lineLives (Int32.toNatClampNeg s1) (vp_nar .boolean s0)) m_markRow m_quarterMany m_quarters m_isUp m_wasUp ++ fr)) rfl ?_
  refine j_iinc (v := x2 + (-1)) hX dX11_lines_106 109 rfl 2 rfl rfl (by decide) (lv' := [(2, .int (x2 + (-1))), (0, .ref (gm G 0)), (1, .int x1)]) rfl ?_
  refine j_goto hX dX11_lines_109 7 rfl ?_
  refine j_sub [1, 2, 0] rfl ?_
  exact hk7 x1 (x2 + (-1)) (upd m_lineLives (Int32.toNatClampNeg s1) (vp_nar .boolean s0)) hf
def g_X11_lines_104 (m_lineLives : Nat → Int32) (k7 : Int32 → Int32 → (Nat → Int32) → Option ((Nat → Int32))) (x1 : Int32) (x2 : Int32) (s0 : Int32) : Option ((Nat → Int32)) :=
  g_X11_lines_105 m_lineLives k7 x1 x2 0 s0
set_option maxRecDepth 100000 in
set_option maxHeartbeats 4000000 in
theorem t_X11_lines_104 {Y : YT} {r : (Nat → Int32)} {k7 : Int32 → Int32 → (Nat → Int32) → Option ((Nat → Int32))} (hX : CX l G cX11_lines 5 RX11 Y) (hQ : EQv G Y 0 0 (WM G m_code m_people m_grants m_texts m_copies m_taped m_faultPlace m_isFemale m_born m_died m_father m_mother m_fatherGrade m_motherGrade m_grantTo m_grantArms m_grantYear m_copyYear m_copyRow m_tape m_textYear m_ruleMany m_ruleFrom m_codeRow m_stack m_ruleKind m_codes m_at m_read m_token m_sign m_begins m_ends m_bad m_badPlace m_top r m_markRow m_quarterMany m_quarters m_isUp m_wasUp ++ fr)) (hk7 : ∀ (x1 : Int32) (x2 : Int32) (m_lineLives : Nat → Int32), k7 x1 x2 m_lineLives = some r → J l G (rmD 3 0 0) Y 0 0 7 [(0, .ref (gm G 0)), (1, .int x1), (2, .int x2)] [] (WM G m_code m_people m_grants m_texts m_copies m_taped m_faultPlace m_isFemale m_born m_died m_father m_mother m_fatherGrade m_motherGrade m_grantTo m_grantArms m_grantYear m_copyYear m_copyRow m_tape m_textYear m_ruleMany m_ruleFrom m_codeRow m_stack m_ruleKind m_codes m_at m_read m_token m_sign m_begins m_ends m_bad m_badPlace m_top m_lineLives m_markRow m_quarterMany m_quarters m_isUp m_wasUp ++ fr)) (x1 : Int32) (x2 : Int32) (s0 : Int32) (hf : g_X11_lines_104 m_lineLives k7 x1 x2 s0 = some r) : J l G (rmD 3 0 0) Y 0 0 104 [(0, .ref (gm G 0)), (1, .int x1), (2, .int x2)] [.int s0, .ref (gm G 21)] (WM G m_code m_people m_grants m_texts m_copies m_taped m_faultPlace m_isFemale m_born m_died m_father m_mother m_fatherGrade m_motherGrade m_grantTo m_grantArms m_grantYear m_copyYear m_copyRow m_tape m_textYear m_ruleMany m_ruleFrom m_codeRow m_stack m_ruleKind m_codes m_at m_read m_token m_sign m_begins m_ends m_bad m_badPlace m_top m_lineLives m_markRow m_quarterMany m_quarters m_isUp m_wasUp ++ fr) := by
  unfold g_X11_lines_104 at hf
  refine j_iconst (v := 0) hX dX11_lines_104 105 rfl (by decide) ?_
  exact t_X11_lines_105 hX hQ  hk7 x1 x2 0 s0 hf
def g_X11_lines_76 (m_lineLives : Nat → Int32) (k23 : Int32 → Int32 → Int32 → Int32 → (Nat → Int32) → Option ((Nat → Int32))) (x1 : Int32) (x2 : Int32) (x3 : Int32) (x4 : Int32) : Option ((Nat → Int32)) :=
  k23 x1 x2 x3 (x4 + 1) m_lineLives
set_option maxRecDepth 100000 in
set_option maxHeartbeats 4000000 in
theorem t_X11_lines_76 {Y : YT} {r : (Nat → Int32)} {k7 : Int32 → Int32 → (Nat → Int32) → Option ((Nat → Int32))} {k23 : Int32 → Int32 → Int32 → Int32 → (Nat → Int32) → Option ((Nat → Int32))} (hX : CX l G cX11_lines 5 RX11 Y) (hQ : EQv G Y 0 0 (WM G m_code m_people m_grants m_texts m_copies m_taped m_faultPlace m_isFemale m_born m_died m_father m_mother m_fatherGrade m_motherGrade m_grantTo m_grantArms m_grantYear m_copyYear m_copyRow m_tape m_textYear m_ruleMany m_ruleFrom m_codeRow m_stack m_ruleKind m_codes m_at m_read m_token m_sign m_begins m_ends m_bad m_badPlace m_top r m_markRow m_quarterMany m_quarters m_isUp m_wasUp ++ fr)) (hk7 : ∀ (x1 : Int32) (x2 : Int32) (m_lineLives : Nat → Int32), k7 x1 x2 m_lineLives = some r → J l G (rmD 3 0 0) Y 0 0 7 [(0, .ref (gm G 0)), (1, .int x1), (2, .int x2)] [] (WM G m_code m_people m_grants m_texts m_copies m_taped m_faultPlace m_isFemale m_born m_died m_father m_mother m_fatherGrade m_motherGrade m_grantTo m_grantArms m_grantYear m_copyYear m_copyRow m_tape m_textYear m_ruleMany m_ruleFrom m_codeRow m_stack m_ruleKind m_codes m_at m_read m_token m_sign m_begins m_ends m_bad m_badPlace m_top m_lineLives m_markRow m_quarterMany m_quarters m_isUp m_wasUp ++ fr)) (hk23 : ∀ (x1 : Int32) (x2 : Int32) (x3 : Int32) (x4 : Int32) (m_lineLives : Nat → Int32), k23 x1 x2 x3 x4 m_lineLives = some r → J l G (rmD 3 0 0) Y 0 0 23 [(0, .ref (gm G 0)), (1, .int x1), (2, .int x2), (3, .int x3), (4, .int x4)] [] (WM G m_code m_people m_grants m_texts m_copies m_taped m_faultPlace m_isFemale m_born m_died m_father m_mother m_fatherGrade m_motherGrade m_grantTo m_grantArms m_grantYear m_copyYear m_copyRow m_tape m_textYear m_ruleMany m_ruleFrom m_codeRow m_stack m_ruleKind m_codes m_at m_read m_token m_sign m_begins m_ends m_bad m_badPlace m_top m_lineLives m_markRow m_quarterMany m_quarters m_isUp m_wasUp ++ fr)) (x1 : Int32) (x2 : Int32) (x3 : Int32) (x4 : Int32) (hf : g_X11_lines_76 m_lineLives k23 x1 x2 x3 x4 = some r) : J l G (rmD 3 0 0) Y 0 0 76 [(0, .ref (gm G 0)), (1, .int x1), (2, .int x2), (3, .int x3), (4, .int x4)] [] (WM G m_code m_people m_grants m_texts m_copies m_taped m_faultPlace m_isFemale m_born m_died m_father m_mother m_fatherGrade m_motherGrade m_grantTo m_grantArms m_grantYear m_copyYear m_copyRow m_tape m_textYear m_ruleMany m_ruleFrom m_codeRow m_stack m_ruleKind m_codes m_at m_read m_token m_sign m_begins m_ends m_bad m_badPlace m_top m_lineLives m_markRow m_quarterMany m_quarters m_isUp m_wasUp ++ fr) := by
  unfold g_X11_lines_76 at hf
  refine j_iinc (v := x4 + 1) hX dX11_lines_76 79 rfl 4 rfl rfl (by decide) (lv' := [(4, .int (x4 + 1)), (0, .ref (gm G 0)), (1, .int x1), (2, .int x2), (3, .int x3)]) rfl ?_
  refine j_goto hX dX11_lines_79 23 rfl ?_
  refine j_sub [1, 2, 3, 4, 0] rfl ?_
  exact hk23 x1 x2 x3 (x4 + 1) m_lineLives hf
def g_X11_lines_23 (m_people : Int32) (m_isFemale : Nat → Int32) (m_born : Nat → Int32) (m_father : Nat → Int32) (m_lineLives : Nat → Int32) (k7 : Int32 → Int32 → (Nat → Int32) → Option ((Nat → Int32))) (k23 : Int32 → Int32 → Int32 → Int32 → (Nat → Int32) → Option ((Nat → Int32))) (x1 : Int32) (x2 : Int32) (x3 : Int32) (x4 : Int32) : Option ((Nat → Int32)) :=
  if m_people ≤ x4 then if x3 = 0 then g_X11_lines_104 m_lineLives k7 x1 x2 x2 else if inb x2 60 = true then if (m_isFemale (Int32.toNatClampNeg x2)) = 0 then g_X11_lines_105 m_lineLives k7 x1 x2 1 x2 else g_X11_lines_104 m_lineLives k7 x1 x2 x2 else none else if inb x4 60 = true then if (m_father (Int32.toNatClampNeg x4)) = x2 then if inb x4 60 = true then if (m_isFemale (Int32.toNatClampNeg x4)) = 0 then if inb x4 60 = true then if x1 < (m_born (Int32.toNatClampNeg x4)) then g_X11_lines_76 m_lineLives k23 x1 x2 x3 x4 else if inb x4 60 = true then if (m_lineLives (Int32.toNatClampNeg x4)) = 0 then g_X11_lines_76 m_lineLives k23 x1 x2 x3 x4 else g_X11_lines_76 m_lineLives k23 x1 x2 1 x4 else none else none else g_X11_lines_76 m_lineLives k23 x1 x2 x3 x4 else none else g_X11_lines_76 m_lineLives k23 x1 x2 x3 x4 else none
set_option maxRecDepth 100000 in
set_option maxHeartbeats 4000000 in
theorem t_X11_lines_23 {Y : YT} {r : (Nat → Int32)} {k7 : Int32 → Int32 → (Nat → Int32) → Option ((Nat → Int32))} {k23 : Int32 → Int32 → Int32 → Int32 → (Nat → Int32) → Option ((Nat → Int32))} (hX : CX l G cX11_lines 5 RX11 Y) (hQ : EQv G Y 0 0 (WM G m_code m_people m_grants m_texts m_copies m_taped m_faultPlace m_isFemale m_born m_died m_father m_mother m_fatherGrade m_motherGrade m_grantTo m_grantArms m_grantYear m_copyYear m_copyRow m_tape m_textYear m_ruleMany m_ruleFrom m_codeRow m_stack m_ruleKind m_codes m_at m_read m_token m_sign m_begins m_ends m_bad m_badPlace m_top r m_markRow m_quarterMany m_quarters m_isUp m_wasUp ++ fr)) (hk7 : ∀ (x1 : Int32) (x2 : Int32) (m_lineLives : Nat → Int32), k7 x1 x2 m_lineLives = some r → J l G (rmD 3 0 0) Y 0 0 7 [(0, .ref (gm G 0)), (1, .int x1), (2, .int x2)] [] (WM G m_code m_people m_grants m_texts m_copies m_taped m_faultPlace m_isFemale m_born m_died m_father m_mother m_fatherGrade m_motherGrade m_grantTo m_grantArms m_grantYear m_copyYear m_copyRow m_tape m_textYear m_ruleMany m_ruleFrom m_codeRow m_stack m_ruleKind m_codes m_at m_read m_token m_sign m_begins m_ends m_bad m_badPlace m_top m_lineLives m_markRow m_quarterMany m_quarters m_isUp m_wasUp ++ fr)) (hk23 : ∀ (x1 : Int32) (x2 : Int32) (x3 : Int32) (x4 : Int32) (m_lineLives : Nat → Int32), k23 x1 x2 x3 x4 m_lineLives = some r → J l G (rmD 3 0 0) Y 0 0 23 [(0, .ref (gm G 0)), (1, .int x1), (2, .int x2), (3, .int x3), (4, .int x4)] [] (WM G m_code m_people m_grants m_texts m_copies m_taped m_faultPlace m_isFemale m_born m_died m_father m_mother m_fatherGrade m_motherGrade m_grantTo m_grantArms m_grantYear m_copyYear m_copyRow m_tape m_textYear m_ruleMany m_ruleFrom m_codeRow m_stack m_ruleKind m_codes m_at m_read m_token m_sign m_begins m_ends m_bad m_badPlace m_top m_lineLives m_markRow m_quarterMany m_quarters m_isUp m_wasUp ++ fr)) (x1 : Int32) (x2 : Int32) (x3 : Int32) (x4 : Int32) (hf : g_X11_lines_23 m_people m_isFemale m_born m_father m_lineLives k7 k23 x1 x2 x3 x4 = some r) : J l G (rmD 3 0 0) Y 0 0 23 [(0, .ref (gm G 0)), (1, .int x1), (2, .int x2), (3, .int x3), (4, .int x4)] [] (WM G m_code m_people m_grants m_texts m_copies m_taped m_faultPlace m_isFemale m_born m_died m_father m_mother m_fatherGrade m_motherGrade m_grantTo m_grantArms m_grantYear m_copyYear m_copyRow m_tape m_textYear m_ruleMany m_ruleFrom m_codeRow m_stack m_ruleKind m_codes m_at m_read m_token m_sign m_begins m_ends m_bad m_badPlace m_top m_lineLives m_markRow m_quarterMany m_quarters m_isUp m_wasUp ++ fr) := by
  unfold g_X11_lines_23 at hf
  refine j_iload hX dX11_lines_23 25 rfl 4 rfl ?_
  refine j_aload_n hX dX11_lines_25 26 rfl 0 rfl rfl ?_
  refine j_get hX dX11_lines_26 29 rfl fg_X11_113 0 rfl rfl ?_
  refine j_icmp_ge hX dX11_lines_29 32 82 rfl rfl (fun h3 => ?_) (fun h3 => ?_)
  · replace hf := itt h3 hf
    refine j_aload_n hX dX11_lines_82 83 rfl 0 rfl rfl ?_
    refine j_get hX dX11_lines_83 86 rfl fg_X11_93 0 rfl rfl ?_
    refine j_iload_n hX dX11_lines_86 87 rfl 2 rfl rfl ?_
    refine j_iload_n hX dX11_lines_87 88 rfl 3 rfl rfl ?_
    refine j_if_eq hX dX11_lines_88 91 104 rfl rfl (fun h4 => ?_) (fun h4 => ?_)
    · replace hf := itt h4 hf
      refine j_sub [0, 1, 2] rfl ?_
      exact t_X11_lines_104 hX hQ  hk7 x1 x2 x2 hf
    · replace hf := itf h4 hf
      refine j_aload_n hX dX11_lines_91 92 rfl 0 rfl rfl ?_
      refine j_get hX dX11_lines_92 95 rfl fg_X11_35 0 rfl rfl ?_
      refine j_iload_n hX dX11_lines_95 96 rfl 2 rfl rfl ?_
      obtain ⟨hb6, hf⟩ := ign hf
      refine j_zald hX dX11_lines_96 97 rfl 2 rfl hb6 ?_
      refine j_if_ne hX dX11_lines_97 100 104 rfl rfl (fun h7 => ?_) (fun h7 => ?_)
      · replace hf := itf h7 hf
        refine j_sub [0, 1, 2] rfl ?_
        exact t_X11_lines_104 hX hQ  hk7 x1 x2 x2 hf
      · replace hf := itt h7 hf
        refine j_iconst (v := 1) hX dX11_lines_100 101 rfl (by decide) ?_
        refine j_goto hX dX11_lines_101 105 rfl ?_
        refine j_sub [0, 1, 2] rfl ?_
        exact t_X11_lines_105 hX hQ  hk7 x1 x2 1 x2 hf
  · replace hf := itf h3 hf
    refine j_aload_n hX dX11_lines_32 33 rfl 0 rfl rfl ?_
    refine j_get hX dX11_lines_33 36 rfl fg_X11_45 0 rfl rfl ?_
    refine j_iload hX dX11_lines_36 38 rfl 4 rfl ?_
    obtain ⟨hb8, hf⟩ := ign hf
    refine j_iald hX dX11_lines_38 39 rfl 5 rfl hb8 ?_
    refine j_iload_n hX dX11_lines_39 40 rfl 2 rfl rfl ?_
    refine j_icmp_ne hX dX11_lines_40 43 76 rfl rfl (fun h9 => ?_) (fun h9 => ?_)
    · replace hf := itf h9 hf
      exact t_X11_lines_76 hX hQ  hk7 hk23 x1 x2 x3 x4 hf
    · replace hf := itt h9 hf
      refine j_aload_n hX dX11_lines_43 44 rfl 0 rfl rfl ?_
      refine j_get hX dX11_lines_44 47 rfl fg_X11_35 0 rfl rfl ?_
      refine j_iload hX dX11_lines_47 49 rfl 4 rfl ?_
      obtain ⟨hb10, hf⟩ := ign hf
      refine j_zald hX dX11_lines_49 50 rfl 2 rfl hb10 ?_
      refine j_if_ne hX dX11_lines_50 53 76 rfl rfl (fun h11 => ?_) (fun h11 => ?_)
      · replace hf := itf h11 hf
        exact t_X11_lines_76 hX hQ  hk7 hk23 x1 x2 x3 x4 hf
      · replace hf := itt h11 hf
        refine j_aload_n hX dX11_lines_53 54 rfl 0 rfl rfl ?_
        refine j_get hX dX11_lines_54 57 rfl fg_X11_39 0 rfl rfl ?_
        refine j_iload hX dX11_lines_57 59 rfl 4 rfl ?_
        obtain ⟨hb12, hf⟩ := ign hf
        refine j_iald hX dX11_lines_59 60 rfl 3 rfl hb12 ?_
        refine j_iload_n hX dX11_lines_60 61 rfl 1 rfl rfl ?_
        refine j_icmp_gt hX dX11_lines_61 64 76 rfl rfl (fun h13 => ?_) (fun h13 => ?_)
        · replace hf := itt h13 hf
          exact t_X11_lines_76 hX hQ  hk7 hk23 x1 x2 x3 x4 hf
        · replace hf := itf h13 hf
          refine j_aload_n hX dX11_lines_64 65 rfl 0 rfl rfl ?_
          refine j_get hX dX11_lines_65 68 rfl fg_X11_93 0 rfl rfl ?_
          refine j_iload hX dX11_lines_68 70 rfl 4 rfl ?_
          obtain ⟨hb14, hf⟩ := ign hf
          refine j_zald hX dX11_lines_70 71 rfl 21 rfl hb14 ?_
          refine j_if_eq hX dX11_lines_71 74 76 rfl rfl (fun h15 => ?_) (fun h15 => ?_)
          · replace hf := itt h15 hf
            exact t_X11_lines_76 hX hQ  hk7 hk23 x1 x2 x3 x4 hf
          · replace hf := itf h15 hf
            refine j_iconst (v := 1) hX dX11_lines_74 75 rfl (by decide) ?_
            refine j_istore_n hX dX11_lines_75 76 rfl rfl (by decide) (lv' := [(3, .int 1), (0, .ref (gm G 0)), (1, .int x1), (2, .int x2), (4, .int x4)]) rfl ?_
            refine j_sub [1, 2, 3, 0, 4] rfl ?_
            exact t_X11_lines_76 hX hQ  hk7 hk23 x1 x2 1 x4 hf
def f_X11_lines_23 (m_people : Int32) (m_isFemale : Nat → Int32) (m_born : Nat → Int32) (m_father : Nat → Int32) (k7 : Int32 → Int32 → (Nat → Int32) → Option ((Nat → Int32))) : Nat → (Int32 × Int32 × Int32 × Int32 × (Nat → Int32)) → Option ((Nat → Int32)) :=
  lp (fun k v => g_X11_lines_23 m_people m_isFemale m_born m_father v.2.2.2.2 k7 (fun x1 x2 x3 x4 m_lineLives => k (x1, x2, x3, x4, m_lineLives)) v.1 v.2.1 v.2.2.1 v.2.2.2.1)
set_option maxRecDepth 100000 in
set_option maxHeartbeats 4000000 in
theorem u_X11_lines_23 {Y : YT} {r : (Nat → Int32)} {k7 : Int32 → Int32 → (Nat → Int32) → Option ((Nat → Int32))} (hX : CX l G cX11_lines 5 RX11 Y) (hQ : EQv G Y 0 0 (WM G m_code m_people m_grants m_texts m_copies m_taped m_faultPlace m_isFemale m_born m_died m_father m_mother m_fatherGrade m_motherGrade m_grantTo m_grantArms m_grantYear m_copyYear m_copyRow m_tape m_textYear m_ruleMany m_ruleFrom m_codeRow m_stack m_ruleKind m_codes m_at m_read m_token m_sign m_begins m_ends m_bad m_badPlace m_top r m_markRow m_quarterMany m_quarters m_isUp m_wasUp ++ fr)) (hk7 : ∀ (x1 : Int32) (x2 : Int32) (m_lineLives : Nat → Int32), k7 x1 x2 m_lineLives = some r → J l G (rmD 3 0 0) Y 0 0 7 [(0, .ref (gm G 0)), (1, .int x1), (2, .int x2)] [] (WM G m_code m_people m_grants m_texts m_copies m_taped m_faultPlace m_isFemale m_born m_died m_father m_mother m_fatherGrade m_motherGrade m_grantTo m_grantArms m_grantYear m_copyYear m_copyRow m_tape m_textYear m_ruleMany m_ruleFrom m_codeRow m_stack m_ruleKind m_codes m_at m_read m_token m_sign m_begins m_ends m_bad m_badPlace m_top m_lineLives m_markRow m_quarterMany m_quarters m_isUp m_wasUp ++ fr)) (n : Nat) (v : Int32 × Int32 × Int32 × Int32 × (Nat → Int32)) (hf : f_X11_lines_23 m_people m_isFemale m_born m_father k7 n v = some r) : J l G (rmD 3 0 0) Y 0 0 23 [(0, .ref (gm G 0)), (1, .int v.1), (2, .int v.2.1), (3, .int v.2.2.1), (4, .int v.2.2.2.1)] [] (WM G m_code m_people m_grants m_texts m_copies m_taped m_faultPlace m_isFemale m_born m_died m_father m_mother m_fatherGrade m_motherGrade m_grantTo m_grantArms m_grantYear m_copyYear m_copyRow m_tape m_textYear m_ruleMany m_ruleFrom m_codeRow m_stack m_ruleKind m_codes m_at m_read m_token m_sign m_begins m_ends m_bad m_badPlace m_top v.2.2.2.2 m_markRow m_quarterMany m_quarters m_isUp m_wasUp ++ fr) :=
  lp_ind (P := fun v : Int32 × Int32 × Int32 × Int32 × (Nat → Int32) => J l G (rmD 3 0 0) Y 0 0 23 [(0, .ref (gm G 0)), (1, .int v.1), (2, .int v.2.1), (3, .int v.2.2.1), (4, .int v.2.2.2.1)] [] (WM G m_code m_people m_grants m_texts m_copies m_taped m_faultPlace m_isFemale m_born m_died m_father m_mother m_fatherGrade m_motherGrade m_grantTo m_grantArms m_grantYear m_copyYear m_copyRow m_tape m_textYear m_ruleMany m_ruleFrom m_codeRow m_stack m_ruleKind m_codes m_at m_read m_token m_sign m_begins m_ends m_bad m_badPlace m_top v.2.2.2.2 m_markRow m_quarterMany m_quarters m_isUp m_wasUp ++ fr)) (fun k hk v hf => t_X11_lines_23 hX hQ  hk7 (fun x1 x2 x3 x4 m_lineLives h => hk (x1, x2, x3, x4, m_lineLives) h) v.1 v.2.1 v.2.2.1 v.2.2.2.1 hf) n v hf
def g_X11_lines_7 (fu : Nat) (m_people : Int32) (m_isFemale : Nat → Int32) (m_born : Nat → Int32) (m_died : Nat → Int32) (m_father : Nat → Int32) (m_lineLives : Nat → Int32) (k7 : Int32 → Int32 → (Nat → Int32) → Option ((Nat → Int32))) (x1 : Int32) (x2 : Int32) : Option ((Nat → Int32)) :=
  if x2 < 0 then some m_lineLives else (f_X11_lives m_born m_died x2 x1).bind fun v2 => f_X11_lines_23 m_people m_isFemale m_born m_father k7 fu (x1, x2, v2, x2 + 1, m_lineLives)
set_option maxRecDepth 100000 in
set_option maxHeartbeats 4000000 in
theorem t_X11_lines_7 {fu : Nat} {Y : YT} {r : (Nat → Int32)} {k7 : Int32 → Int32 → (Nat → Int32) → Option ((Nat → Int32))} (hX : CX l G cX11_lines 5 RX11 Y) (hQ : EQv G Y 0 0 (WM G m_code m_people m_grants m_texts m_copies m_taped m_faultPlace m_isFemale m_born m_died m_father m_mother m_fatherGrade m_motherGrade m_grantTo m_grantArms m_grantYear m_copyYear m_copyRow m_tape m_textYear m_ruleMany m_ruleFrom m_codeRow m_stack m_ruleKind m_codes m_at m_read m_token m_sign m_begins m_ends m_bad m_badPlace m_top r m_markRow m_quarterMany m_quarters m_isUp m_wasUp ++ fr)) (hk7 : ∀ (x1 : Int32) (x2 : Int32) (m_lineLives : Nat → Int32), k7 x1 x2 m_lineLives = some r → J l G (rmD 3 0 0) Y 0 0 7 [(0, .ref (gm G 0)), (1, .int x1), (2, .int x2)] [] (WM G m_code m_people m_grants m_texts m_copies m_taped m_faultPlace m_isFemale m_born m_died m_father m_mother m_fatherGrade m_motherGrade m_grantTo m_grantArms m_grantYear m_copyYear m_copyRow m_tape m_textYear m_ruleMany m_ruleFrom m_codeRow m_stack m_ruleKind m_codes m_at m_read m_token m_sign m_begins m_ends m_bad m_badPlace m_top m_lineLives m_markRow m_quarterMany m_quarters m_isUp m_wasUp ++ fr)) (x1 : Int32) (x2 : Int32) (hf : g_X11_lines_7 fu m_people m_isFemale m_born m_died m_father m_lineLives k7 x1 x2 = some r) : J l G (rmD 3 0 0) Y 0 0 7 [(0, .ref (gm G 0)), (1, .int x1), (2, .int x2)] [] (WM G m_code m_people m_grants m_texts m_copies m_taped m_faultPlace m_isFemale m_born m_died m_father m_mother m_fatherGrade m_motherGrade m_grantTo m_grantArms m_grantYear m_copyYear m_copyRow m_tape m_textYear m_ruleMany m_ruleFrom m_codeRow m_stack m_ruleKind m_codes m_at m_read m_token m_sign m_begins m_ends m_bad m_badPlace m_top m_lineLives m_markRow m_quarterMany m_quarters m_isUp m_wasUp ++ fr) := by
  unfold g_X11_lines_7 at hf
  refine j_iload_n hX dX11_lines_7 8 rfl 2 rfl rfl ?_
  refine j_if_lt hX dX11_lines_8 11 112 rfl rfl (fun h1 => ?_) (fun h1 => ?_)
  · replace hf := itt h1 hf
    replace hf := Option.some.inj hf
    subst hf
    exact j_vret hX hQ dX11_lines_112
  · replace hf := itf h1 hf
    refine j_aload_n hX dX11_lines_11 12 rfl 0 rfl rfl ?_
    refine j_iload_n hX dX11_lines_12 13 rfl 2 rfl rfl ?_
    refine j_iload_n hX dX11_lines_13 14 rfl 1 rfl rfl ?_
    obtain ⟨v2, hv2, hf⟩ := ibd hf
    refine z_i (As := [.int x2, .int x1]) (rest := []) (q0 := 0) hX dX11_lines_14 17 rfl (t_X11_lives x2 x1 hv2) mc_X11_lives mv_X11_lives ml_X11_131 rfl rfl (Nat.le_of_ble_eq_true rfl) (Nat.le_refl _) (Nat.le_refl _) rfl (Nat.le_of_ble_eq_true rfl) ?_
    refine j_istore_n hX dX11_lines_17 18 rfl rfl (by decide) (lv' := [(3, .int v2), (0, .ref (gm G 0)), (1, .int x1), (2, .int x2)]) rfl ?_
    refine j_iload_n hX dX11_lines_18 19 rfl 3 rfl rfl ?_
    refine j_iconst (v := 1) hX dX11_lines_19 20 rfl (by decide) ?_
    refine j_iadd hX dX11_lines_20 21 rfl ?_
    refine j_istore hX dX11_lines_21 23 rfl (by decide) (lv' := [(4, .int (x2 + 1)), (3, .int v2), (0, .ref (gm G 0)), (1, .int x1), (2, .int x2)]) rfl ?_
    refine j_sub [2, 3, 4, 1, 0] rfl ?_
    exact u_X11_lines_23 hX hQ  hk7 fu (x1, x2, v2, x2 + 1, m_lineLives) hf
def f_X11_lines_7 (fu : Nat) (m_people : Int32) (m_isFemale : Nat → Int32) (m_born : Nat → Int32) (m_died : Nat → Int32) (m_father : Nat → Int32) : Nat → (Int32 × Int32 × (Nat → Int32)) → Option ((Nat → Int32)) :=
  lp (fun k v => g_X11_lines_7 fu m_people m_isFemale m_born m_died m_father v.2.2 (fun x1 x2 m_lineLives => k (x1, x2, m_lineLives)) v.1 v.2.1)
set_option maxRecDepth 100000 in
set_option maxHeartbeats 4000000 in
theorem u_X11_lines_7 {fu : Nat} {Y : YT} {r : (Nat → Int32)}  (hX : CX l G cX11_lines 5 RX11 Y) (hQ : EQv G Y 0 0 (WM G m_code m_people m_grants m_texts m_copies m_taped m_faultPlace m_isFemale m_born m_died m_father m_mother m_fatherGrade m_motherGrade m_grantTo m_grantArms m_grantYear m_copyYear m_copyRow m_tape m_textYear m_ruleMany m_ruleFrom m_codeRow m_stack m_ruleKind m_codes m_at m_read m_token m_sign m_begins m_ends m_bad m_badPlace m_top r m_markRow m_quarterMany m_quarters m_isUp m_wasUp ++ fr))  (n : Nat) (v : Int32 × Int32 × (Nat → Int32)) (hf : f_X11_lines_7 fu m_people m_isFemale m_born m_died m_father n v = some r) : J l G (rmD 3 0 0) Y 0 0 7 [(0, .ref (gm G 0)), (1, .int v.1), (2, .int v.2.1)] [] (WM G m_code m_people m_grants m_texts m_copies m_taped m_faultPlace m_isFemale m_born m_died m_father m_mother m_fatherGrade m_motherGrade m_grantTo m_grantArms m_grantYear m_copyYear m_copyRow m_tape m_textYear m_ruleMany m_ruleFrom m_codeRow m_stack m_ruleKind m_codes m_at m_read m_token m_sign m_begins m_ends m_bad m_badPlace m_top v.2.2 m_markRow m_quarterMany m_quarters m_isUp m_wasUp ++ fr) :=
  lp_ind (P := fun v : Int32 × Int32 × (Nat → Int32) => J l G (rmD 3 0 0) Y 0 0 7 [(0, .ref (gm G 0)), (1, .int v.1), (2, .int v.2.1)] [] (WM G m_code m_people m_grants m_texts m_copies m_taped m_faultPlace m_isFemale m_born m_died m_father m_mother m_fatherGrade m_motherGrade m_grantTo m_grantArms m_grantYear m_copyYear m_copyRow m_tape m_textYear m_ruleMany m_ruleFrom m_codeRow m_stack m_ruleKind m_codes m_at m_read m_token m_sign m_begins m_ends m_bad m_badPlace m_top v.2.2 m_markRow m_quarterMany m_quarters m_isUp m_wasUp ++ fr)) (fun k hk v hf => t_X11_lines_7 hX hQ   (fun x1 x2 m_lineLives h => hk (x1, x2, m_lineLives) h) v.1 v.2.1 hf) n v hf
def f_X11_lines (fu : Nat) (m_people : Int32) (m_isFemale : Nat → Int32) (m_born : Nat → Int32) (m_died : Nat → Int32) (m_father : Nat → Int32) (m_lineLives : Nat → Int32) (x1 : Int32) : Option ((Nat → Int32)) :=
  f_X11_lines_7 fu m_people m_isFemale m_born m_died m_father fu (x1, m_people - 1, m_lineLives)
set_option maxRecDepth 100000 in
set_option maxHeartbeats 4000000 in
theorem t_X11_lines {fu : Nat}  (x1 : Int32) {r : (Nat → Int32)} (hf : f_X11_lines fu m_people m_isFemale m_born m_died m_father m_lineLives x1 = some r) : Cv l G 3 0 0 yX11_lines cX11_lines 5 [.ref (gm G 0), .int x1] (WM G m_code m_people m_grants m_texts m_copies m_taped m_faultPlace m_isFemale m_born m_died m_father m_mother m_fatherGrade m_motherGrade m_grantTo m_grantArms m_grantYear m_copyYear m_copyRow m_tape m_textYear m_ruleMany m_ruleFrom m_codeRow m_stack m_ruleKind m_codes m_at m_read m_token m_sign m_begins m_ends m_bad m_badPlace m_top m_lineLives m_markRow m_quarterMany m_quarters m_isUp m_wasUp ++ fr) (WM G m_code m_people m_grants m_texts m_copies m_taped m_faultPlace m_isFemale m_born m_died m_father m_mother m_fatherGrade m_motherGrade m_grantTo m_grantArms m_grantYear m_copyYear m_copyRow m_tape m_textYear m_ruleMany m_ruleFrom m_codeRow m_stack m_ruleKind m_codes m_at m_read m_token m_sign m_begins m_ends m_bad m_badPlace m_top r m_markRow m_quarterMany m_quarters m_isUp m_wasUp ++ fr) := by
  refine Cv.of (by decide) (Nat.le_of_ble_eq_true rfl) (fun Y hX hQ => ?_)
  refine j_lv (lv' := [(0, .ref (gm G 0)), (1, .int x1)]) rfl ?_
  unfold f_X11_lines at hf
  refine j_aload_n hX dX11_lines_0 1 rfl 0 rfl rfl ?_
  refine j_get hX dX11_lines_1 4 rfl fg_X11_113 0 rfl rfl ?_
  refine j_iconst (v := 1) hX dX11_lines_4 5 rfl (by decide) ?_
  refine j_isub hX dX11_lines_5 6 rfl ?_
  refine j_istore_n hX dX11_lines_6 7 rfl rfl (by decide) (lv' := [(2, .int (m_people - 1)), (0, .ref (gm G 0)), (1, .int x1)]) rfl ?_
  refine j_sub [1, 2, 0] rfl ?_
  exact u_X11_lines_7 hX hQ   fu (x1, m_people - 1, m_lineLives) hf
def g_X11_isAhead_40 (s0 : Int32) : Option (Int32) :=
  if isB s0 = true then some s0 else none
set_option maxRecDepth 100000 in
set_option maxHeartbeats 4000000 in
theorem t_X11_isAhead_40 {Y : YT} {r : Int32}  (hX : CX l G cX11_isAhead 3 RX11 Y) (hQ : EQi G Y 0 0 .boolean r (WM G m_code m_people m_grants m_texts m_copies m_taped m_faultPlace m_isFemale m_born m_died m_father m_mother m_fatherGrade m_motherGrade m_grantTo m_grantArms m_grantYear m_copyYear m_copyRow m_tape m_textYear m_ruleMany m_ruleFrom m_codeRow m_stack m_ruleKind m_codes m_at m_read m_token m_sign m_begins m_ends m_bad m_badPlace m_top m_lineLives m_markRow m_quarterMany m_quarters m_isUp m_wasUp ++ fr))  (s0 : Int32) (hf : g_X11_isAhead_40 s0 = some r) : J l G (rmD 1 0 0) Y 0 0 40 [] [.int s0] (WM G m_code m_people m_grants m_texts m_copies m_taped m_faultPlace m_isFemale m_born m_died m_father m_mother m_fatherGrade m_motherGrade m_grantTo m_grantArms m_grantYear m_copyYear m_copyRow m_tape m_textYear m_ruleMany m_ruleFrom m_codeRow m_stack m_ruleKind m_codes m_at m_read m_token m_sign m_begins m_ends m_bad m_badPlace m_top m_lineLives m_markRow m_quarterMany m_quarters m_isUp m_wasUp ++ fr) := by
  unfold g_X11_isAhead_40 at hf
  obtain ⟨hb4, hf⟩ := ign hf
  replace hf := Option.some.inj hf
  subst hf
  exact j_zret hX hQ hb4 dX11_isAhead_40
def g_X11_isAhead_35  : Option (Int32) :=
  g_X11_isAhead_40 1
set_option maxRecDepth 100000 in
set_option maxHeartbeats 4000000 in
theorem t_X11_isAhead_35 {Y : YT} {r : Int32}  (hX : CX l G cX11_isAhead 3 RX11 Y) (hQ : EQi G Y 0 0 .boolean r (WM G m_code m_people m_grants m_texts m_copies m_taped m_faultPlace m_isFemale m_born m_died m_father m_mother m_fatherGrade m_motherGrade m_grantTo m_grantArms m_grantYear m_copyYear m_copyRow m_tape m_textYear m_ruleMany m_ruleFrom m_codeRow m_stack m_ruleKind m_codes m_at m_read m_token m_sign m_begins m_ends m_bad m_badPlace m_top m_lineLives m_markRow m_quarterMany m_quarters m_isUp m_wasUp ++ fr))   (hf : g_X11_isAhead_35  = some r) : J l G (rmD 1 0 0) Y 0 0 35 [] [] (WM G m_code m_people m_grants m_texts m_copies m_taped m_faultPlace m_isFemale m_born m_died m_father m_mother m_fatherGrade m_motherGrade m_grantTo m_grantArms m_grantYear m_copyYear m_copyRow m_tape m_textYear m_ruleMany m_ruleFrom m_codeRow m_stack m_ruleKind m_codes m_at m_read m_token m_sign m_begins m_ends m_bad m_badPlace m_top m_lineLives m_markRow m_quarterMany m_quarters m_isUp m_wasUp ++ fr) := by
  unfold g_X11_isAhead_35 at hf
  refine j_iconst (v := 1) hX dX11_isAhead_35 36 rfl (by decide) ?_
  refine j_goto hX dX11_isAhead_36 40 rfl ?_
  exact t_X11_isAhead_40 hX hQ   1 hf
def g_X11_isAhead_39  : Option (Int32) :=
  g_X11_isAhead_40 0
set_option maxRecDepth 100000 in
set_option maxHeartbeats 4000000 in
theorem t_X11_isAhead_39 {Y : YT} {r : Int32}  (hX : CX l G cX11_isAhead 3 RX11 Y) (hQ : EQi G Y 0 0 .boolean r (WM G m_code m_people m_grants m_texts m_copies m_taped m_faultPlace m_isFemale m_born m_died m_father m_mother m_fatherGrade m_motherGrade m_grantTo m_grantArms m_grantYear m_copyYear m_copyRow m_tape m_textYear m_ruleMany m_ruleFrom m_codeRow m_stack m_ruleKind m_codes m_at m_read m_token m_sign m_begins m_ends m_bad m_badPlace m_top m_lineLives m_markRow m_quarterMany m_quarters m_isUp m_wasUp ++ fr))   (hf : g_X11_isAhead_39  = some r) : J l G (rmD 1 0 0) Y 0 0 39 [] [] (WM G m_code m_people m_grants m_texts m_copies m_taped m_faultPlace m_isFemale m_born m_died m_father m_mother m_fatherGrade m_motherGrade m_grantTo m_grantArms m_grantYear m_copyYear m_copyRow m_tape m_textYear m_ruleMany m_ruleFrom m_codeRow m_stack m_ruleKind m_codes m_at m_read m_token m_sign m_begins m_ends m_bad m_badPlace m_top m_lineLives m_markRow m_quarterMany m_quarters m_isUp m_wasUp ++ fr) := by
  unfold g_X11_isAhead_39 at hf
  refine j_iconst (v := 0) hX dX11_isAhead_39 40 rfl (by decide) ?_
  exact t_X11_isAhead_40 hX hQ   0 hf
def f_X11_isAhead (m_born : Nat → Int32) (x1 : Int32) (x2 : Int32) : Option (Int32) :=
  if inb x1 60 = true then if inb x2 60 = true then if (m_born (Int32.toNatClampNeg x1)) < (m_born (Int32.toNatClampNeg x2)) then g_X11_isAhead_35  else if inb x1 60 = true then if inb x2 60 = true then if (m_born (Int32.toNatClampNeg x1)) = (m_born (Int32.toNatClampNeg x2)) then if x2 ≤ x1 then g_X11_isAhead_39  else g_X11_isAhead_35  else g_X11_isAhead_39  else none else none else none else none
set_option maxRecDepth 100000 in
set_option maxHeartbeats 4000000 in
theorem t_X11_isAhead  (x1 : Int32) (x2 : Int32) {r : Int32} (hf : f_X11_isAhead m_born x1 x2 = some r) : Ci l G 1 0 0 yX11_isAhead cX11_isAhead 3 .boolean [.ref (gm G 0), .int x1, .int x2] (WM G m_code m_people m_grants m_texts m_copies m_taped m_faultPlace m_isFemale m_born m_died m_father m_mother m_fatherGrade m_motherGrade m_grantTo m_grantArms m_grantYear m_copyYear m_copyRow m_tape m_textYear m_ruleMany m_ruleFrom m_codeRow m_stack m_ruleKind m_codes m_at m_read m_token m_sign m_begins m_ends m_bad m_badPlace m_top m_lineLives m_markRow m_quarterMany m_quarters m_isUp m_wasUp ++ fr) r (WM G m_code m_people m_grants m_texts m_copies m_taped m_faultPlace m_isFemale m_born m_died m_father m_mother m_fatherGrade m_motherGrade m_grantTo m_grantArms m_grantYear m_copyYear m_copyRow m_tape m_textYear m_ruleMany m_ruleFrom m_codeRow m_stack m_ruleKind m_codes m_at m_read m_token m_sign m_begins m_ends m_bad m_badPlace m_top m_lineLives m_markRow m_quarterMany m_quarters m_isUp m_wasUp ++ fr) := by
  refine Ci.of (by decide) (Nat.le_of_ble_eq_true rfl) (fun Y hX hQ => ?_)
  refine j_lv (lv' := [(0, .ref (gm G 0)), (1, .int x1), (2, .int x2)]) rfl ?_
  unfold f_X11_isAhead at hf
  refine j_aload_n hX dX11_isAhead_0 1 rfl 0 rfl rfl ?_
  refine j_get hX dX11_isAhead_1 4 rfl fg_X11_39 0 rfl rfl ?_
  refine j_iload_n hX dX11_isAhead_4 5 rfl 1 rfl rfl ?_
  obtain ⟨hb1, hf⟩ := ign hf
  refine j_iald hX dX11_isAhead_5 6 rfl 3 rfl hb1 ?_
  refine j_aload_n hX dX11_isAhead_6 7 rfl 0 rfl rfl ?_
  refine j_get hX dX11_isAhead_7 10 rfl fg_X11_39 0 rfl rfl ?_
  refine j_iload_n hX dX11_isAhead_10 11 rfl 2 rfl rfl ?_
  obtain ⟨hb2, hf⟩ := ign hf
  refine j_iald hX dX11_isAhead_11 12 rfl 3 rfl hb2 ?_
  refine j_icmp_lt hX dX11_isAhead_12 15 35 rfl rfl (fun h3 => ?_) (fun h3 => ?_)
  · replace hf := itt h3 hf
    refine j_sub [] rfl ?_
    exact t_X11_isAhead_35 hX hQ    hf
  · replace hf := itf h3 hf
    refine j_aload_n hX dX11_isAhead_15 16 rfl 0 rfl rfl ?_
    refine j_get hX dX11_isAhead_16 19 rfl fg_X11_39 0 rfl rfl ?_
    refine j_iload_n hX dX11_isAhead_19 20 rfl 1 rfl rfl ?_
    obtain ⟨hb5, hf⟩ := ign hf
    refine j_iald hX dX11_isAhead_20 21 rfl 3 rfl hb5 ?_
    refine j_aload_n hX dX11_isAhead_21 22 rfl 0 rfl rfl ?_
    refine j_get hX dX11_isAhead_22 25 rfl fg_X11_39 0 rfl rfl ?_
    refine j_iload_n hX dX11_isAhead_25 26 rfl 2 rfl rfl ?_
    obtain ⟨hb6, hf⟩ := ign hf
    refine j_iald hX dX11_isAhead_26 27 rfl 3 rfl hb6 ?_
    refine j_icmp_ne hX dX11_isAhead_27 30 39 rfl rfl (fun h7 => ?_) (fun h7 => ?_)
    · replace hf := itf h7 hf
      refine j_sub [] rfl ?_
      exact t_X11_isAhead_39 hX hQ    hf
    · replace hf := itt h7 hf
      refine j_iload_n hX dX11_isAhead_30 31 rfl 1 rfl rfl ?_
      refine j_iload_n hX dX11_isAhead_31 32 rfl 2 rfl rfl ?_
      refine j_icmp_ge hX dX11_isAhead_32 35 39 rfl rfl (fun h8 => ?_) (fun h8 => ?_)
      · replace hf := itt h8 hf
        refine j_sub [] rfl ?_
        exact t_X11_isAhead_39 hX hQ    hf
      · replace hf := itf h8 hf
        refine j_sub [] rfl ?_
        exact t_X11_isAhead_35 hX hQ    hf
def g_X11_placeOf_80 (k5 : Int32 → Int32 → Int32 → Int32 → Option (Int32)) (x1 : Int32) (x2 : Int32) (x3 : Int32) (x4 : Int32) : Option (Int32) :=
  k5 x1 x2 x3 (x4 + 1)
set_option maxRecDepth 100000 in
set_option maxHeartbeats 4000000 in
theorem t_X11_placeOf_80 {Y : YT} {r : Int32} {k5 : Int32 → Int32 → Int32 → Int32 → Option (Int32)} (hX : CX l G cX11_placeOf 5 RX11 Y) (hQ : EQi G Y 0 0 .int r (WM G m_code m_people m_grants m_texts m_copies m_taped m_faultPlace m_isFemale m_born m_died m_father m_mother m_fatherGrade m_motherGrade m_grantTo m_grantArms m_grantYear m_copyYear m_copyRow m_tape m_textYear m_ruleMany m_ruleFrom m_codeRow m_stack m_ruleKind m_codes m_at m_read m_token m_sign m_begins m_ends m_bad m_badPlace m_top m_lineLives m_markRow m_quarterMany m_quarters m_isUp m_wasUp ++ fr)) (hk5 : ∀ (x1 : Int32) (x2 : Int32) (x3 : Int32) (x4 : Int32), k5 x1 x2 x3 x4  = some r → J l G (rmD 2 0 0) Y 0 0 5 [(0, .ref (gm G 0)), (1, .int x1), (2, .int x2), (3, .int x3), (4, .int x4)] [] (WM G m_code m_people m_grants m_texts m_copies m_taped m_faultPlace m_isFemale m_born m_died m_father m_mother m_fatherGrade m_motherGrade m_grantTo m_grantArms m_grantYear m_copyYear m_copyRow m_tape m_textYear m_ruleMany m_ruleFrom m_codeRow m_stack m_ruleKind m_codes m_at m_read m_token m_sign m_begins m_ends m_bad m_badPlace m_top m_lineLives m_markRow m_quarterMany m_quarters m_isUp m_wasUp ++ fr)) (x1 : Int32) (x2 : Int32) (x3 : Int32) (x4 : Int32) (hf : g_X11_placeOf_80 k5 x1 x2 x3 x4 = some r) : J l G (rmD 2 0 0) Y 0 0 80 [(0, .ref (gm G 0)), (1, .int x1), (2, .int x2), (3, .int x3), (4, .int x4)] [] (WM G m_code m_people m_grants m_texts m_copies m_taped m_faultPlace m_isFemale m_born m_died m_father m_mother m_fatherGrade m_motherGrade m_grantTo m_grantArms m_grantYear m_copyYear m_copyRow m_tape m_textYear m_ruleMany m_ruleFrom m_codeRow m_stack m_ruleKind m_codes m_at m_read m_token m_sign m_begins m_ends m_bad m_badPlace m_top m_lineLives m_markRow m_quarterMany m_quarters m_isUp m_wasUp ++ fr) := by
  unfold g_X11_placeOf_80 at hf
  refine j_iinc (v := x4 + 1) hX dX11_placeOf_80 83 rfl 4 rfl rfl (by decide) (lv' := [(4, .int (x4 + 1)), (0, .ref (gm G 0)), (1, .int x1), (2, .int x2), (3, .int x3)]) rfl ?_
  refine j_goto hX dX11_placeOf_83 5 rfl ?_
  refine j_sub [1, 2, 3, 4, 0] rfl ?_
  exact hk5 x1 x2 x3 (x4 + 1) hf
def g_X11_placeOf_5 (m_people : Int32) (m_isFemale : Nat → Int32) (m_born : Nat → Int32) (m_father : Nat → Int32) (m_lineLives : Nat → Int32) (k5 : Int32 → Int32 → Int32 → Int32 → Option (Int32)) (x1 : Int32) (x2 : Int32) (x3 : Int32) (x4 : Int32) : Option (Int32) :=
  if m_people ≤ x4 then some x3 else if x4 = x1 then g_X11_placeOf_80 k5 x1 x2 x3 x4 else if inb x4 60 = true then if inb x1 60 = true then if (m_father (Int32.toNatClampNeg x4)) = (m_father (Int32.toNatClampNeg x1)) then if inb x4 60 = true then if (m_isFemale (Int32.toNatClampNeg x4)) = 0 then if inb x4 60 = true then if x2 < (m_born (Int32.toNatClampNeg x4)) then g_X11_placeOf_80 k5 x1 x2 x3 x4 else if inb x4 60 = true then if (m_lineLives (Int32.toNatClampNeg x4)) = 0 then g_X11_placeOf_80 k5 x1 x2 x3 x4 else (f_X11_isAhead m_born x4 x1).bind fun v12 => if v12 = 0 then g_X11_placeOf_80 k5 x1 x2 x3 x4 else g_X11_placeOf_80 k5 x1 x2 (x3 + 1) x4 else none else none else g_X11_placeOf_80 k5 x1 x2 x3 x4 else none else g_X11_placeOf_80 k5 x1 x2 x3 x4 else none else none
set_option maxRecDepth 100000 in
set_option maxHeartbeats 4000000 in
theorem t_X11_placeOf_5 {Y : YT} {r : Int32} {k5 : Int32 → Int32 → Int32 → Int32 → Option (Int32)} (hX : CX l G cX11_placeOf 5 RX11 Y) (hQ : EQi G Y 0 0 .int r (WM G m_code m_people m_grants m_texts m_copies m_taped m_faultPlace m_isFemale m_born m_died m_father m_mother m_fatherGrade m_motherGrade m_grantTo m_grantArms m_grantYear m_copyYear m_copyRow m_tape m_textYear m_ruleMany m_ruleFrom m_codeRow m_stack m_ruleKind m_codes m_at m_read m_token m_sign m_begins m_ends m_bad m_badPlace m_top m_lineLives m_markRow m_quarterMany m_quarters m_isUp m_wasUp ++ fr)) (hk5 : ∀ (x1 : Int32) (x2 : Int32) (x3 : Int32) (x4 : Int32), k5 x1 x2 x3 x4  = some r → J l G (rmD 2 0 0) Y 0 0 5 [(0, .ref (gm G 0)), (1, .int x1), (2, .int x2), (3, .int x3), (4, .int x4)] [] (WM G m_code m_people m_grants m_texts m_copies m_taped m_faultPlace m_isFemale m_born m_died m_father m_mother m_fatherGrade m_motherGrade m_grantTo m_grantArms m_grantYear m_copyYear m_copyRow m_tape m_textYear m_ruleMany m_ruleFrom m_codeRow m_stack m_ruleKind m_codes m_at m_read m_token m_sign m_begins m_ends m_bad m_badPlace m_top m_lineLives m_markRow m_quarterMany m_quarters m_isUp m_wasUp ++ fr)) (x1 : Int32) (x2 : Int32) (x3 : Int32) (x4 : Int32) (hf : g_X11_placeOf_5 m_people m_isFemale m_born m_father m_lineLives k5 x1 x2 x3 x4 = some r) : J l G (rmD 2 0 0) Y 0 0 5 [(0, .ref (gm G 0)), (1, .int x1), (2, .int x2), (3, .int x3), (4, .int x4)] [] (WM G m_code m_people m_grants m_texts m_copies m_taped m_faultPlace m_isFemale m_born m_died m_father m_mother m_fatherGrade m_motherGrade m_grantTo m_grantArms m_grantYear m_copyYear m_copyRow m_tape m_textYear m_ruleMany m_ruleFrom m_codeRow m_stack m_ruleKind m_codes m_at m_read m_token m_sign m_begins m_ends m_bad m_badPlace m_top m_lineLives m_markRow m_quarterMany m_quarters m_isUp m_wasUp ++ fr) := by
  unfold g_X11_placeOf_5 at hf
  refine j_iload hX dX11_placeOf_5 7 rfl 4 rfl ?_
  refine j_aload_n hX dX11_placeOf_7 8 rfl 0 rfl rfl ?_
  refine j_get hX dX11_placeOf_8 11 rfl fg_X11_113 0 rfl rfl ?_
  refine j_icmp_ge hX dX11_placeOf_11 14 86 rfl rfl (fun h1 => ?_) (fun h1 => ?_)
  · replace hf := itt h1 hf
    refine j_iload_n hX dX11_placeOf_86 87 rfl 3 rfl rfl ?_
    replace hf := Option.some.inj hf
    subst hf
    exact j_iret hX hQ dX11_placeOf_87
  · replace hf := itf h1 hf
    refine j_iload hX dX11_placeOf_14 16 rfl 4 rfl ?_
    refine j_iload_n hX dX11_placeOf_16 17 rfl 1 rfl rfl ?_
    refine j_icmp_eq hX dX11_placeOf_17 20 80 rfl rfl (fun h2 => ?_) (fun h2 => ?_)
    · replace hf := itt h2 hf
      exact t_X11_placeOf_80 hX hQ  hk5 x1 x2 x3 x4 hf
    · replace hf := itf h2 hf
      refine j_aload_n hX dX11_placeOf_20 21 rfl 0 rfl rfl ?_
      refine j_get hX dX11_placeOf_21 24 rfl fg_X11_45 0 rfl rfl ?_
      refine j_iload hX dX11_placeOf_24 26 rfl 4 rfl ?_
      obtain ⟨hb3, hf⟩ := ign hf
      refine j_iald hX dX11_placeOf_26 27 rfl 5 rfl hb3 ?_
      refine j_aload_n hX dX11_placeOf_27 28 rfl 0 rfl rfl ?_
      refine j_get hX dX11_placeOf_28 31 rfl fg_X11_45 0 rfl rfl ?_
      refine j_iload_n hX dX11_placeOf_31 32 rfl 1 rfl rfl ?_
      obtain ⟨hb4, hf⟩ := ign hf
      refine j_iald hX dX11_placeOf_32 33 rfl 5 rfl hb4 ?_
      refine j_icmp_ne hX dX11_placeOf_33 36 80 rfl rfl (fun h5 => ?_) (fun h5 => ?_)
      · replace hf := itf h5 hf
        exact t_X11_placeOf_80 hX hQ  hk5 x1 x2 x3 x4 hf
      · replace hf := itt h5 hf
        refine j_aload_n hX dX11_placeOf_36 37 rfl 0 rfl rfl ?_
        refine j_get hX dX11_placeOf_37 40 rfl fg_X11_35 0 rfl rfl ?_
        refine j_iload hX dX11_placeOf_40 42 rfl 4 rfl ?_
        obtain ⟨hb6, hf⟩ := ign hf
        refine j_zald hX dX11_placeOf_42 43 rfl 2 rfl hb6 ?_
        refine j_if_ne hX dX11_placeOf_43 46 80 rfl rfl (fun h7 => ?_) (fun h7 => ?_)
        · replace hf := itf h7 hf
          exact t_X11_placeOf_80 hX hQ  hk5 x1 x2 x3 x4 hf
        · replace hf := itt h7 hf
          refine j_aload_n hX dX11_placeOf_46 47 rfl 0 rfl rfl ?_
          refine j_get hX dX11_placeOf_47 50 rfl fg_X11_39 0 rfl rfl ?_
          refine j_iload hX dX11_placeOf_50 52 rfl 4 rfl ?_
          obtain ⟨hb8, hf⟩ := ign hf
          refine j_iald hX dX11_placeOf_52 53 rfl 3 rfl hb8 ?_
          refine j_iload_n hX dX11_placeOf_53 54 rfl 2 rfl rfl ?_
          refine j_icmp_gt hX dX11_placeOf_54 57 80 rfl rfl (fun h9 => ?_) (fun h9 => ?_)
          · replace hf := itt h9 hf
            exact t_X11_placeOf_80 hX hQ  hk5 x1 x2 x3 x4 hf
          · replace hf := itf h9 hf
            refine j_aload_n hX dX11_placeOf_57 58 rfl 0 rfl rfl ?_
            refine j_get hX dX11_placeOf_58 61 rfl fg_X11_93 0 rfl rfl ?_
            refine j_iload hX dX11_placeOf_61 63 rfl 4 rfl ?_
            obtain ⟨hb10, hf⟩ := ign hf
            refine j_zald hX dX11_placeOf_63 64 rfl 21 rfl hb10 ?_
            refine j_if_eq hX dX11_placeOf_64 67 80 rfl rfl (fun h11 => ?_) (fun h11 => ?_)
            · replace hf := itt h11 hf
              exact t_X11_placeOf_80 hX hQ  hk5 x1 x2 x3 x4 hf
            · replace hf := itf h11 hf
              refine j_aload_n hX dX11_placeOf_67 68 rfl 0 rfl rfl ?_
              refine j_iload hX dX11_placeOf_68 70 rfl 4 rfl ?_
              refine j_iload_n hX dX11_placeOf_70 71 rfl 1 rfl rfl ?_
              obtain ⟨v12, hv12, hf⟩ := ibd hf
              refine z_i (As := [.int x4, .int x1]) (rest := []) (q0 := 0) hX dX11_placeOf_71 74 rfl (t_X11_isAhead x4 x1 hv12) mc_X11_isAhead mv_X11_isAhead ml_X11_153 rfl rfl (Nat.le_of_ble_eq_true rfl) (Nat.le_refl _) (Nat.le_refl _) rfl (Nat.le_of_ble_eq_true rfl) ?_
              refine j_if_eq hX dX11_placeOf_74 77 80 rfl rfl (fun h13 => ?_) (fun h13 => ?_)
              · replace hf := itt h13 hf
                exact t_X11_placeOf_80 hX hQ  hk5 x1 x2 x3 x4 hf
              · replace hf := itf h13 hf
                refine j_iinc (v := x3 + 1) hX dX11_placeOf_77 80 rfl 3 rfl rfl (by decide) (lv' := [(3, .int (x3 + 1)), (0, .ref (gm G 0)), (1, .int x1), (2, .int x2), (4, .int x4)]) rfl ?_
                refine j_sub [1, 2, 3, 0, 4] rfl ?_
                exact t_X11_placeOf_80 hX hQ  hk5 x1 x2 (x3 + 1) x4 hf
def f_X11_placeOf_5 (m_people : Int32) (m_isFemale : Nat → Int32) (m_born : Nat → Int32) (m_father : Nat → Int32) (m_lineLives : Nat → Int32) : Nat → (Int32 × Int32 × Int32 × Int32) → Option (Int32) :=
  lp (fun k v => g_X11_placeOf_5 m_people m_isFemale m_born m_father m_lineLives (fun x1 x2 x3 x4 => k (x1, x2, x3, x4)) v.1 v.2.1 v.2.2.1 v.2.2.2)
set_option maxRecDepth 100000 in
set_option maxHeartbeats 4000000 in
theorem u_X11_placeOf_5 {Y : YT} {r : Int32}  (hX : CX l G cX11_placeOf 5 RX11 Y) (hQ : EQi G Y 0 0 .int r (WM G m_code m_people m_grants m_texts m_copies m_taped m_faultPlace m_isFemale m_born m_died m_father m_mother m_fatherGrade m_motherGrade m_grantTo m_grantArms m_grantYear m_copyYear m_copyRow m_tape m_textYear m_ruleMany m_ruleFrom m_codeRow m_stack m_ruleKind m_codes m_at m_read m_token m_sign m_begins m_ends m_bad m_badPlace m_top m_lineLives m_markRow m_quarterMany m_quarters m_isUp m_wasUp ++ fr))  (n : Nat) (v : Int32 × Int32 × Int32 × Int32) (hf : f_X11_placeOf_5 m_people m_isFemale m_born m_father m_lineLives n v = some r) : J l G (rmD 2 0 0) Y 0 0 5 [(0, .ref (gm G 0)), (1, .int v.1), (2, .int v.2.1), (3, .int v.2.2.1), (4, .int v.2.2.2)] [] (WM G m_code m_people m_grants m_texts m_copies m_taped m_faultPlace m_isFemale m_born m_died m_father m_mother m_fatherGrade m_motherGrade m_grantTo m_grantArms m_grantYear m_copyYear m_copyRow m_tape m_textYear m_ruleMany m_ruleFrom m_codeRow m_stack m_ruleKind m_codes m_at m_read m_token m_sign m_begins m_ends m_bad m_badPlace m_top m_lineLives m_markRow m_quarterMany m_quarters m_isUp m_wasUp ++ fr) :=
  lp_ind (P := fun v : Int32 × Int32 × Int32 × Int32 => J l G (rmD 2 0 0) Y 0 0 5 [(0, .ref (gm G 0)), (1, .int v.1), (2, .int v.2.1), (3, .int v.2.2.1), (4, .int v.2.2.2)] [] (WM G m_code m_people m_grants m_texts m_copies m_taped m_faultPlace m_isFemale m_born m_died m_father m_mother m_fatherGrade m_motherGrade m_grantTo m_grantArms m_grantYear m_copyYear m_copyRow m_tape m_textYear m_ruleMany m_ruleFrom m_codeRow m_stack m_ruleKind m_codes m_at m_read m_token m_sign m_begins m_ends m_bad m_badPlace m_top m_lineLives m_markRow m_quarterMany m_quarters m_isUp m_wasUp ++ fr)) (fun k hk v hf => t_X11_placeOf_5 hX hQ   (fun x1 x2 x3 x4 h => hk (x1, x2, x3, x4) h) v.1 v.2.1 v.2.2.1 v.2.2.2 hf) n v hf
def f_X11_placeOf (fu : Nat) (m_people : Int32) (m_isFemale : Nat → Int32) (m_born : Nat → Int32) (m_father : Nat → Int32) (m_lineLives : Nat → Int32) (x1 : Int32) (x2 : Int32) : Option (Int32) :=
  f_X11_placeOf_5 m_people m_isFemale m_born m_father m_lineLives fu (x1, x2, 1, 0)
set_option maxRecDepth 100000 in
set_option maxHeartbeats 4000000 in
theorem t_X11_placeOf {fu : Nat}  (x1 : Int32) (x2 : Int32) {r : Int32} (hf : f_X11_placeOf fu m_people m_isFemale m_born m_father m_lineLives x1 x2 = some r) : Ci l G 2 0 0 yX11_placeOf cX11_placeOf 5 .int [.ref (gm G 0), .int x1, .int x2] (WM G m_code m_people m_grants m_texts m_copies m_taped m_faultPlace m_isFemale m_born m_died m_father m_mother m_fatherGrade m_motherGrade m_grantTo m_grantArms m_grantYear m_copyYear m_copyRow m_tape m_textYear m_ruleMany m_ruleFrom m_codeRow m_stack m_ruleKind m_codes m_at m_read m_token m_sign m_begins m_ends m_bad m_badPlace m_top m_lineLives m_markRow m_quarterMany m_quarters m_isUp m_wasUp ++ fr) r (WM G m_code m_people m_grants m_texts m_copies m_taped m_faultPlace m_isFemale m_born m_died m_father m_mother m_fatherGrade m_motherGrade m_grantTo m_grantArms m_grantYear m_copyYear m_copyRow m_tape m_textYear m_ruleMany m_ruleFrom m_codeRow m_stack m_ruleKind m_codes m_at m_read m_token m_sign m_begins m_ends m_bad m_badPlace m_top m_lineLives m_markRow m_quarterMany m_quarters m_isUp m_wasUp ++ fr) := by
  refine Ci.of (by decide) (Nat.le_of_ble_eq_true rfl) (fun Y hX hQ => ?_)
  refine j_lv (lv' := [(0, .ref (gm G 0)), (1, .int x1), (2, .int x2)]) rfl ?_
  unfold f_X11_placeOf at hf
  refine j_iconst (v := 1) hX dX11_placeOf_0 1 rfl (by decide) ?_
  refine j_istore_n hX dX11_placeOf_1 2 rfl rfl (by decide) (lv' := [(3, .int 1), (0, .ref (gm G 0)), (1, .int x1), (2, .int x2)]) rfl ?_
  refine j_iconst (v := 0) hX dX11_placeOf_2 3 rfl (by decide) ?_
  refine j_istore hX dX11_placeOf_3 5 rfl (by decide) (lv' := [(4, .int 0), (3, .int 1), (0, .ref (gm G 0)), (1, .int x1), (2, .int x2)]) rfl ?_
  refine j_sub [2, 3, 4, 1, 0] rfl ?_
  exact u_X11_placeOf_5 hX hQ   fu (x1, x2, 1, 0) hf
def g_X11_marksOf_20 (fu : Nat) (m_people : Int32) (m_isFemale : Nat → Int32) (m_born : Nat → Int32) (m_father : Nat → Int32) (m_lineLives : Nat → Int32) (m_markRow : Nat → Int32) (k20 : Int32 → Int32 → Int32 → Int32 → (Nat → Int32) → (Nat → Int32) → Option (Int32 × (Nat → Int32) × (Nat → Int32))) (x2 : Int32) (x3 : Int32) (x4 : Int32) (x5 : Int32) : Option (Int32 × (Nat → Int32) × (Nat → Int32)) :=
  if x5 < 0 then some (x3, m_lineLives, m_markRow) else (f_X11_placeOf fu m_people m_isFemale m_born m_father m_lineLives x4 x2).bind fun v4 => if inb x5 60 = true then if inb x4 60 = true then k20 x2 x3 (m_father (Int32.toNatClampNeg x4)) (x5 + (-1)) m_lineLives (upd m_markRow (Int32.toNatClampNeg x5) v4) else none else none
set_option maxRecDepth 100000 in
set_option maxHeartbeats 4000000 in
theorem t_X11_marksOf_20 {fu : Nat} {Y : YT} {r : Int32 × (Nat → Int32) × (Nat → Int32)} {k20 : Int32 → Int32 → Int32 → Int32 → (Nat → Int32) → (Nat → Int32) → Option (Int32 × (Nat → Int32) × (Nat → Int32))} (hX : CX l G cX11_marksOf 6 RX11 Y) (hQ : EQi G Y 0 0 .int r.1 (WM G m_code m_people m_grants m_texts m_copies m_taped m_faultPlace m_isFemale m_born m_died m_father m_mother m_fatherGrade m_motherGrade m_grantTo m_grantArms m_grantYear m_copyYear m_copyRow m_tape m_textYear m_ruleMany m_ruleFrom m_codeRow m_stack m_ruleKind m_codes m_at m_read m_token m_sign m_begins m_ends m_bad m_badPlace m_top r.2.1 r.2.2 m_quarterMany m_quarters m_isUp m_wasUp ++ fr)) (hk20 : ∀ (x2 : Int32) (x3 : Int32) (x4 : Int32) (x5 : Int32) (m_lineLives : Nat → Int32) (m_markRow : Nat → Int32), k20 x2 x3 x4 x5 m_lineLives m_markRow = some r → J l G (rmD 4 0 0) Y 0 0 20 [(0, .ref (gm G 0)), (2, .int x2), (3, .int x3), (4, .int x4), (5, .int x5)] [] (WM G m_code m_people m_grants m_texts m_copies m_taped m_faultPlace m_isFemale m_born m_died m_father m_mother m_fatherGrade m_motherGrade m_grantTo m_grantArms m_grantYear m_copyYear m_copyRow m_tape m_textYear m_ruleMany m_ruleFrom m_codeRow m_stack m_ruleKind m_codes m_at m_read m_token m_sign m_begins m_ends m_bad m_badPlace m_top m_lineLives m_markRow m_quarterMany m_quarters m_isUp m_wasUp ++ fr)) (x2 : Int32) (x3 : Int32) (x4 : Int32) (x5 : Int32) (hf : g_X11_marksOf_20 fu m_people m_isFemale m_born m_father m_lineLives m_markRow k20 x2 x3 x4 x5 = some r) : J l G (rmD 4 0 0) Y 0 0 20 [(0, .ref (gm G 0)), (2, .int x2), (3, .int x3), (4, .int x4), (5, .int x5)] [] (WM G m_code m_people m_grants m_texts m_copies m_taped m_faultPlace m_isFemale m_born m_died m_father m_mother m_fatherGrade m_motherGrade m_grantTo m_grantArms m_grantYear m_copyYear m_copyRow m_tape m_textYear m_ruleMany m_ruleFrom m_codeRow m_stack m_ruleKind m_codes m_at m_read m_token m_sign m_begins m_ends m_bad m_badPlace m_top m_lineLives m_markRow m_quarterMany m_quarters m_isUp m_wasUp ++ fr) := by
  unfold g_X11_marksOf_20 at hf
  refine j_iload hX dX11_marksOf_20 22 rfl 4 rfl ?_
  refine j_if_lt hX dX11_marksOf_22 25 54 rfl rfl (fun h3 => ?_) (fun h3 => ?_)
  · replace hf := itt h3 hf
    refine j_iload_n hX dX11_marksOf_54 55 rfl 2 rfl rfl ?_
    replace hf := Option.some.inj hf
    subst hf
    exact j_iret hX hQ dX11_marksOf_55
  · replace hf := itf h3 hf
    refine j_aload_n hX dX11_marksOf_25 26 rfl 0 rfl rfl ?_
    refine j_get hX dX11_marksOf_26 29 rfl fg_X11_96 0 rfl rfl ?_
    refine j_iload hX dX11_marksOf_29 31 rfl 4 rfl ?_
    refine j_aload_n hX dX11_marksOf_31 32 rfl 0 rfl rfl ?_
    refine j_iload hX dX11_marksOf_32 34 rfl 3 rfl ?_
    refine j_iload_n hX dX11_marksOf_34 35 rfl 1 rfl rfl ?_
    obtain ⟨v4, hv4, hf⟩ := ibd hf
    refine z_i (As := [.int x4, .int x2]) (rest := [.int x5, .ref (gm G 22)]) (q0 := 0) hX dX11_marksOf_35 38 rfl (t_X11_placeOf x4 x2 hv4) mc_X11_placeOf mv_X11_placeOf ml_X11_163 rfl rfl (Nat.le_of_ble_eq_true rfl) (Nat.le_refl _) (Nat.le_refl _) rfl (Nat.le_of_ble_eq_true rfl) ?_
    obtain ⟨hb5, hf⟩ := ign hf
    refine j_iast hX dX11_marksOf_38 39 rfl 22 rfl hb5 (ws' := (WM G m_code m_people m_grants m_texts m_copies m_taped m_faultPlace m_isFemale m_born m_died m_father m_mother m_fatherGrade m_motherGrade m_grantTo m_grantArms m_grantYear m_copyYear m_copyRow m_tape m_textYear m_ruleMany m_ruleFrom m_codeRow m_stack m_ruleKind m_codes m_at m_read m_token m_sign m_begins m_ends m_bad m_badPlace m_top m_lineLives (upd m_markRow (Int32.toNatClampNeg x5) v4) m_quarterMany m_quarters m_isUp m_wasUp ++ fr)) rfl ?_
    refine j_aload_n hX dX11_marksOf_39 40 rfl 0 rfl rfl ?_
    refine j_get hX dX11_marksOf_40 43 rfl fg_X11_45 0 rfl rfl ?_
    refine j_iload hX dX11_marksOf_43 45 rfl 3 rfl ?_
    obtain ⟨hb6, hf⟩ := ign hf
    refine j_iald hX dX11_marksOf_45 46 rfl 5 rfl hb6 ?_
    refine j_istore hX dX11_marksOf_46 48 rfl (by decide) (lv' := [(4, .int (m_father (Int32.toNatClampNeg x4))), (0, .ref (gm G 0)), (2, .int x2), (3, .int x3), (5, .int x5)]) rfl ?_
    refine j_iinc (v := x5 + (-1)) hX dX11_marksOf_48 51 rfl 4 rfl rfl (by decide) (lv' := [(5, .int (x5 + (-1))), (4, .int (m_father (Int32.toNatClampNeg x4))), (0, .ref (gm G 0)), (2, .int x2), (3, .int x3)]) rfl ?_
    refine j_goto hX dX11_marksOf_51 20 rfl ?_
    refine j_sub [2, 3, 4, 1, 0] rfl ?_
    exact hk20 x2 x3 (m_father (Int32.toNatClampNeg x4)) (x5 + (-1)) m_lineLives (upd m_markRow (Int32.toNatClampNeg x5) v4) hf
def f_X11_marksOf_20 (fu : Nat) (m_people : Int32) (m_isFemale : Nat → Int32) (m_born : Nat → Int32) (m_father : Nat → Int32) : Nat → (Int32 × Int32 × Int32 × Int32 × (Nat → Int32) × (Nat → Int32)) → Option (Int32 × (Nat → Int32) × (Nat → Int32)) :=
  lp (fun k v => g_X11_marksOf_20 fu m_people m_isFemale m_born m_father v.2.2.2.2.1 v.2.2.2.2.2 (fun x2 x3 x4 x5 m_lineLives m_markRow => k (x2, x3, x4, x5, m_lineLives, m_markRow)) v.1 v.2.1 v.2.2.1 v.2.2.2.1)
set_option maxRecDepth 100000 in
set_option maxHeartbeats 4000000 in
theorem u_X11_marksOf_20 {fu : Nat} {Y : YT} {r : Int32 × (Nat → Int32) × (Nat → Int32)}  (hX : CX l G cX11_marksOf 6 RX11 Y) (hQ : EQi G Y 0 0 .int r.1 (WM G m_code m_people m_grants m_texts m_copies m_taped m_faultPlace m_isFemale m_born m_died m_father m_mother m_fatherGrade m_motherGrade m_grantTo m_grantArms m_grantYear m_copyYear m_copyRow m_tape m_textYear m_ruleMany m_ruleFrom m_codeRow m_stack m_ruleKind m_codes m_at m_read m_token m_sign m_begins m_ends m_bad m_badPlace m_top r.2.1 r.2.2 m_quarterMany m_quarters m_isUp m_wasUp ++ fr))  (n : Nat) (v : Int32 × Int32 × Int32 × Int32 × (Nat → Int32) × (Nat → Int32)) (hf : f_X11_marksOf_20 fu m_people m_isFemale m_born m_father n v = some r) : J l G (rmD 4 0 0) Y 0 0 20 [(0, .ref (gm G 0)), (2, .int v.1), (3, .int v.2.1), (4, .int v.2.2.1), (5, .int v.2.2.2.1)] [] (WM G m_code m_people m_grants m_texts m_copies m_taped m_faultPlace m_isFemale m_born m_died m_father m_mother m_fatherGrade m_motherGrade m_grantTo m_grantArms m_grantYear m_copyYear m_copyRow m_tape m_textYear m_ruleMany m_ruleFrom m_codeRow m_stack m_ruleKind m_codes m_at m_read m_token m_sign m_begins m_ends m_bad m_badPlace m_top v.2.2.2.2.1 v.2.2.2.2.2 m_quarterMany m_quarters m_isUp m_wasUp ++ fr) :=
  lp_ind (P := fun v : Int32 × Int32 × Int32 × Int32 × (Nat → Int32) × (Nat → Int32) => J l G (rmD 4 0 0) Y 0 0 20 [(0, .ref (gm G 0)), (2, .int v.1), (3, .int v.2.1), (4, .int v.2.2.1), (5, .int v.2.2.2.1)] [] (WM G m_code m_people m_grants m_texts m_copies m_taped m_faultPlace m_isFemale m_born m_died m_father m_mother m_fatherGrade m_motherGrade m_grantTo m_grantArms m_grantYear m_copyYear m_copyRow m_tape m_textYear m_ruleMany m_ruleFrom m_codeRow m_stack m_ruleKind m_codes m_at m_read m_token m_sign m_begins m_ends m_bad m_badPlace m_top v.2.2.2.2.1 v.2.2.2.2.2 m_quarterMany m_quarters m_isUp m_wasUp ++ fr)) (fun k hk v hf => t_X11_marksOf_20 hX hQ   (fun x2 x3 x4 x5 m_lineLives m_markRow h => hk (x2, x3, x4, x5, m_lineLives, m_markRow) h) v.1 v.2.1 v.2.2.1 v.2.2.2.1 hf) n v hf
def f_X11_marksOf (fu : Nat) (m_people : Int32) (m_grants : Int32) (m_isFemale : Nat → Int32) (m_born : Nat → Int32) (m_died : Nat → Int32) (m_father : Nat → Int32) (m_grantTo : Nat → Int32) (m_grantArms : Nat → Int32) (m_grantYear : Nat → Int32) (m_lineLives : Nat → Int32) (m_markRow : Nat → Int32) (x1 : Int32) (x2 : Int32) : Option (Int32 × (Nat → Int32) × (Nat → Int32)) :=
  (f_X11_lines fu m_people m_isFemale m_born m_died m_father m_lineLives x2).bind fun v1 => (f_X11_stepsOf fu m_grants m_father m_grantTo m_grantArms m_grantYear x1 x2).bind fun v2 => f_X11_marksOf_20 fu m_people m_isFemale m_born m_father fu (x2, v2, x1, v2 - 1, v1, m_markRow)
set_option maxRecDepth 100000 in
set_option maxHeartbeats 4000000 in
theorem t_X11_marksOf {fu : Nat}  (x1 : Int32) (x2 : Int32) {r : Int32 × (Nat → Int32) × (Nat → Int32)} (hf : f_X11_marksOf fu m_people m_grants m_isFemale m_born m_died m_father m_grantTo m_grantArms m_grantYear m_lineLives m_markRow x1 x2 = some r) : Ci l G 4 0 0 yX11_marksOf cX11_marksOf 6 .int [.ref (gm G 0), .int x1, .int x2] (WM G m_code m_people m_grants m_texts m_copies m_taped m_faultPlace m_isFemale m_born m_died m_father m_mother m_fatherGrade m_motherGrade m_grantTo m_grantArms m_grantYear m_copyYear m_copyRow m_tape m_textYear m_ruleMany m_ruleFrom m_codeRow m_stack m_ruleKind m_codes m_at m_read m_token m_sign m_begins m_ends m_bad m_badPlace m_top m_lineLives m_markRow m_quarterMany m_quarters m_isUp m_wasUp ++ fr) r.1 (WM G m_code m_people m_grants m_texts m_copies m_taped m_faultPlace m_isFemale m_born m_died m_father m_mother m_fatherGrade m_motherGrade m_grantTo m_grantArms m_grantYear m_copyYear m_copyRow m_tape m_textYear m_ruleMany m_ruleFrom m_codeRow m_stack m_ruleKind m_codes m_at m_read m_token m_sign m_begins m_ends m_bad m_badPlace m_top r.2.1 r.2.2 m_quarterMany m_quarters m_isUp m_wasUp ++ fr) := by
  refine Ci.of (by decide) (Nat.le_of_ble_eq_true rfl) (fun Y hX hQ => ?_)
  refine j_lv (lv' := [(0, .ref (gm G 0)), (1, .int x1), (2, .int x2)]) rfl ?_
  unfold f_X11_marksOf at hf
  refine j_aload_n hX dX11_marksOf_0 1 rfl 0 rfl rfl ?_
  refine j_iload_n hX dX11_marksOf_1 2 rfl 2 rfl rfl ?_
  obtain ⟨v1, hv1, hf⟩ := ibd hf
  refine z_v (As := [.int x2]) (rest := []) (q0 := 0) hX dX11_marksOf_2 5 rfl (t_X11_lines x2 hv1) mc_X11_lines mv_X11_lines ml_X11_156 rfl rfl (Nat.le_of_ble_eq_true rfl) (Nat.le_refl _) (Nat.le_refl _) rfl (Nat.le_of_ble_eq_true rfl) ?_
  refine j_aload_n hX dX11_marksOf_5 6 rfl 0 rfl rfl ?_
  refine j_iload_n hX dX11_marksOf_6 7 rfl 1 rfl rfl ?_
  refine j_iload_n hX dX11_marksOf_7 8 rfl 2 rfl rfl ?_
  obtain ⟨v2, hv2, hf⟩ := ibd hf
  refine z_i (As := [.int x1, .int x2]) (rest := []) (q0 := 0) hX dX11_marksOf_8 11 rfl (t_X11_stepsOf x1 x2 hv2) mc_X11_stepsOf mv_X11_stepsOf ml_X11_160 rfl rfl (Nat.le_of_ble_eq_true rfl) (Nat.le_refl _) (Nat.le_refl _) rfl (Nat.le_of_ble_eq_true rfl) ?_
  refine j_istore_n hX dX11_marksOf_11 12 rfl rfl (by decide) (lv' := [(3, .int v2), (0, .ref (gm G 0)), (1, .int x1), (2, .int x2)]) rfl ?_
  refine j_iload_n hX dX11_marksOf_12 13 rfl 2 rfl rfl ?_
  refine j_istore hX dX11_marksOf_13 15 rfl (by decide) (lv' := [(4, .int x1), (3, .int v2), (0, .ref (gm G 0)), (1, .int x1), (2, .int x2)]) rfl ?_
  refine j_iload_n hX dX11_marksOf_15 16 rfl 1 rfl rfl ?_
  refine j_iconst (v := 1) hX dX11_marksOf_16 17 rfl (by decide) ?_
  refine j_isub hX dX11_marksOf_17 18 rfl ?_
  refine j_istore hX dX11_marksOf_18 20 rfl (by decide) (lv' := [(5, .int (v2 - 1)), (4, .int x1), (3, .int v2), (0, .ref (gm G 0)), (1, .int x1), (2, .int x2)]) rfl ?_
  refine j_sub [3, 5, 2, 1, 0] rfl ?_
  exact u_X11_marksOf_20 hX hQ   fu (x2, v2, x1, v2 - 1, v1, m_markRow) hf
def g_X11_marksAbove_37 (m_lineLives : Nat → Int32) (m_markRow : Nat → Int32) (k13 : Int32 → Int32 → Int32 → (Nat → Int32) → (Nat → Int32) → Option (Int32 × (Nat → Int32) × (Nat → Int32))) (x3 : Int32) (x5 : Int32) (s0 : Int32) (s1 : Int32) : Option (Int32 × (Nat → Int32) × (Nat → Int32)) :=
  k13 x3 (s1 + s0) (x5 + 1) m_lineLives m_markRow
set_option maxRecDepth 100000 in
set_option maxHeartbeats 4000000 in
theorem t_X11_marksAbove_37 {Y : YT} {r : Int32 × (Nat → Int32) × (Nat → Int32)} {k13 : Int32 → Int32 → Int32 → (Nat → Int32) → (Nat → Int32) → Option (Int32 × (Nat → Int32) × (Nat → Int32))} (hX : CX l G cX11_marksAbove 6 RX11 Y) (hQ : EQi G Y 0 0 .int r.1 (WM G m_code m_people m_grants m_texts m_copies m_taped m_faultPlace m_isFemale m_born m_died m_father m_mother m_fatherGrade m_motherGrade m_grantTo m_grantArms m_grantYear m_copyYear m_copyRow m_tape m_textYear m_ruleMany m_ruleFrom m_codeRow m_stack m_ruleKind m_codes m_at m_read m_token m_sign m_begins m_ends m_bad m_badPlace m_top r.2.1 r.2.2 m_quarterMany m_quarters m_isUp m_wasUp ++ fr)) (hk13 : ∀ (x3 : Int32) (x4 : Int32) (x5 : Int32) (m_lineLives : Nat → Int32) (m_markRow : Nat → Int32), k13 x3 x4 x5 m_lineLives m_markRow = some r → J l G (rmD 5 0 0) Y 0 0 13 [(0, .ref (gm G 0)), (3, .int x3), (4, .int x4), (5, .int x5)] [] (WM G m_code m_people m_grants m_texts m_copies m_taped m_faultPlace m_isFemale m_born m_died m_father m_mother m_fatherGrade m_motherGrade m_grantTo m_grantArms m_grantYear m_copyYear m_copyRow m_tape m_textYear m_ruleMany m_ruleFrom m_codeRow m_stack m_ruleKind m_codes m_at m_read m_token m_sign m_begins m_ends m_bad m_badPlace m_top m_lineLives m_markRow m_quarterMany m_quarters m_isUp m_wasUp ++ fr)) (x3 : Int32) (x5 : Int32) (s0 : Int32) (s1 : Int32) (hf : g_X11_marksAbove_37 m_lineLives m_markRow k13 x3 x5 s0 s1 = some r) : J l G (rmD 5 0 0) Y 0 0 37 [(0, .ref (gm G 0)), (3, .int x3), (5, .int x5)] [.int s0, .int s1] (WM G m_code m_people m_grants m_texts m_copies m_taped m_faultPlace m_isFemale m_born m_died m_father m_mother m_fatherGrade m_motherGrade m_grantTo m_grantArms m_grantYear m_copyYear m_copyRow m_tape m_textYear m_ruleMany m_ruleFrom m_codeRow m_stack m_ruleKind m_codes m_at m_read m_token m_sign m_begins m_ends m_bad m_badPlace m_top m_lineLives m_markRow m_quarterMany m_quarters m_isUp m_wasUp ++ fr) := by
  unfold g_X11_marksAbove_37 at hf
  refine j_iadd hX dX11_marksAbove_37 38 rfl ?_
  refine j_istore hX dX11_marksAbove_38 40 rfl (by decide) (lv' := [(4, .int (s1 + s0)), (0, .ref (gm G 0)), (3, .int x3), (5, .int x5)]) rfl ?_
  refine j_iinc (v := x5 + 1) hX dX11_marksAbove_40 43 rfl 3 rfl rfl (by decide) (lv' := [(5, .int (x5 + 1)), (4, .int (s1 + s0)), (0, .ref (gm G 0)), (3, .int x3)]) rfl ?_
  refine j_goto hX dX11_marksAbove_43 13 rfl ?_
  refine j_sub [2, 3, 1, 0] rfl ?_
  exact hk13 x3 (s1 + s0) (x5 + 1) m_lineLives m_markRow hf
def g_X11_marksAbove_13 (m_lineLives : Nat → Int32) (m_markRow : Nat → Int32) (k13 : Int32 → Int32 → Int32 → (Nat → Int32) → (Nat → Int32) → Option (Int32 × (Nat → Int32) × (Nat → Int32))) (x3 : Int32) (x4 : Int32) (x5 : Int32) : Option (Int32 × (Nat → Int32) × (Nat → Int32)) :=
  if x3 ≤ x5 then some (x4, m_lineLives, m_markRow) else if inb x5 60 = true then if (m_markRow (Int32.toNatClampNeg x5)) ≤ 1 then g_X11_marksAbove_37 m_lineLives m_markRow k13 x3 x5 0 x4 else g_X11_marksAbove_37 m_lineLives m_markRow k13 x3 x5 1 x4 else none
set_option maxRecDepth 100000 in
set_option maxHeartbeats 4000000 in
theorem t_X11_marksAbove_13 {Y : YT} {r : Int32 × (Nat → Int32) × (Nat → Int32)} {k13 : Int32 → Int32 → Int32 → (Nat → Int32) → (Nat → Int32) → Option (Int32 × (Nat → Int32) × (Nat → Int32))} (hX : CX l G cX11_marksAbove 6 RX11 Y) (hQ : EQi G Y 0 0 .int r.1 (WM G m_code m_people m_grants m_texts m_copies m_taped m_faultPlace m_isFemale m_born m_died m_father m_mother m_fatherGrade m_motherGrade m_grantTo m_grantArms m_grantYear m_copyYear m_copyRow m_tape m_textYear m_ruleMany m_ruleFrom m_codeRow m_stack m_ruleKind m_codes m_at m_read m_token m_sign m_begins m_ends m_bad m_badPlace m_top r.2.1 r.2.2 m_quarterMany m_quarters m_isUp m_wasUp ++ fr)) (hk13 : ∀ (x3 : Int32) (x4 : Int32) (x5 : Int32) (m_lineLives : Nat → Int32) (m_markRow : Nat → Int32), k13 x3 x4 x5 m_lineLives m_markRow = some r → J l G (rmD 5 0 0) Y 0 0 13 [(0, .ref (gm G 0)), (3, .int x3), (4, .int x4), (5, .int x5)] [] (WM G m_code m_people m_grants m_texts m_copies m_taped m_faultPlace m_isFemale m_born m_died m_father m_mother m_fatherGrade m_motherGrade m_grantTo m_grantArms m_grantYear m_copyYear m_copyRow m_tape m_textYear m_ruleMany m_ruleFrom m_codeRow m_stack m_ruleKind m_codes m_at m_read m_token m_sign m_begins m_ends m_bad m_badPlace m_top m_lineLives m_markRow m_quarterMany m_quarters m_isUp m_wasUp ++ fr)) (x3 : Int32) (x4 : Int32) (x5 : Int32) (hf : g_X11_marksAbove_13 m_lineLives m_markRow k13 x3 x4 x5 = some r) : J l G (rmD 5 0 0) Y 0 0 13 [(0, .ref (gm G 0)), (3, .int x3), (4, .int x4), (5, .int x5)] [] (WM G m_code m_people m_grants m_texts m_copies m_taped m_faultPlace m_isFemale m_born m_died m_father m_mother m_fatherGrade m_motherGrade m_grantTo m_grantArms m_grantYear m_copyYear m_copyRow m_tape m_textYear m_ruleMany m_ruleFrom m_codeRow m_stack m_ruleKind m_codes m_at m_read m_token m_sign m_begins m_ends m_bad m_badPlace m_top m_lineLives m_markRow m_quarterMany m_quarters m_isUp m_wasUp ++ fr) := by
  unfold g_X11_marksAbove_13 at hf
  refine j_iload hX dX11_marksAbove_13 15 rfl 3 rfl ?_
  refine j_iload_n hX dX11_marksAbove_15 16 rfl 1 rfl rfl ?_
  refine j_icmp_ge hX dX11_marksAbove_16 19 46 rfl rfl (fun h2 => ?_) (fun h2 => ?_)
  · replace hf := itt h2 hf
    refine j_iload hX dX11_marksAbove_46 48 rfl 2 rfl ?_
    replace hf := Option.some.inj hf
    subst hf
    exact j_iret hX hQ dX11_marksAbove_48
  · replace hf := itf h2 hf
    refine j_iload hX dX11_marksAbove_19 21 rfl 2 rfl ?_
    refine j_aload_n hX dX11_marksAbove_21 22 rfl 0 rfl rfl ?_
    refine j_get hX dX11_marksAbove_22 25 rfl fg_X11_96 0 rfl rfl ?_
    refine j_iload hX dX11_marksAbove_25 27 rfl 3 rfl ?_
    obtain ⟨hb3, hf⟩ := ign hf
    refine j_iald hX dX11_marksAbove_27 28 rfl 22 rfl hb3 ?_
    refine j_iconst (v := 1) hX dX11_marksAbove_28 29 rfl (by decide) ?_
    refine j_icmp_le hX dX11_marksAbove_29 32 36 rfl rfl (fun h4 => ?_) (fun h4 => ?_)
    · replace hf := itt h4 hf
      refine j_iconst (v := 0) hX dX11_marksAbove_36 37 rfl (by decide) ?_
      refine j_sub [0, 1, 3] rfl ?_
      exact t_X11_marksAbove_37 hX hQ  hk13 x3 x5 0 x4 hf
    · replace hf := itf h4 hf
      refine j_iconst (v := 1) hX dX11_marksAbove_32 33 rfl (by decide) ?_
      refine j_goto hX dX11_marksAbove_33 37 rfl ?_
      refine j_sub [0, 1, 3] rfl ?_
      exact t_X11_marksAbove_37 hX hQ  hk13 x3 x5 1 x4 hf
def f_X11_marksAbove_13  : Nat → (Int32 × Int32 × Int32 × (Nat → Int32) × (Nat → Int32)) → Option (Int32 × (Nat → Int32) × (Nat → Int32)) :=
  lp (fun k v => g_X11_marksAbove_13 v.2.2.2.1 v.2.2.2.2 (fun x3 x4 x5 m_lineLives m_markRow => k (x3, x4, x5, m_lineLives, m_markRow)) v.1 v.2.1 v.2.2.1)
set_option maxRecDepth 100000 in
set_option maxHeartbeats 4000000 in
theorem u_X11_marksAbove_13 {Y : YT} {r : Int32 × (Nat → Int32) × (Nat → Int32)}  (hX : CX l G cX11_marksAbove 6 RX11 Y) (hQ : EQi G Y 0 0 .int r.1 (WM G m_code m_people m_grants m_texts m_copies m_taped m_faultPlace m_isFemale m_born m_died m_father m_mother m_fatherGrade m_motherGrade m_grantTo m_grantArms m_grantYear m_copyYear m_copyRow m_tape m_textYear m_ruleMany m_ruleFrom m_codeRow m_stack m_ruleKind m_codes m_at m_read m_token m_sign m_begins m_ends m_bad m_badPlace m_top r.2.1 r.2.2 m_quarterMany m_quarters m_isUp m_wasUp ++ fr))  (n : Nat) (v : Int32 × Int32 × Int32 × (Nat → Int32) × (Nat → Int32)) (hf : f_X11_marksAbove_13  n v = some r) : J l G (rmD 5 0 0) Y 0 0 13 [(0, .ref (gm G 0)), (3, .int v.1), (4, .int v.2.1), (5, .int v.2.2.1)] [] (WM G m_code m_people m_grants m_texts m_copies m_taped m_faultPlace m_isFemale m_born m_died m_father m_mother m_fatherGrade m_motherGrade m_grantTo m_grantArms m_grantYear m_copyYear m_copyRow m_tape m_textYear m_ruleMany m_ruleFrom m_codeRow m_stack m_ruleKind m_codes m_at m_read m_token m_sign m_begins m_ends m_bad m_badPlace m_top v.2.2.2.1 v.2.2.2.2 m_quarterMany m_quarters m_isUp m_wasUp ++ fr) :=
  lp_ind (P := fun v : Int32 × Int32 × Int32 × (Nat → Int32) × (Nat → Int32) => J l G (rmD 5 0 0) Y 0 0 13 [(0, .ref (gm G 0)), (3, .int v.1), (4, .int v.2.1), (5, .int v.2.2.1)] [] (WM G m_code m_people m_grants m_texts m_copies m_taped m_faultPlace m_isFemale m_born m_died m_father m_mother m_fatherGrade m_motherGrade m_grantTo m_grantArms m_grantYear m_copyYear m_copyRow m_tape m_textYear m_ruleMany m_ruleFrom m_codeRow m_stack m_ruleKind m_codes m_at m_read m_token m_sign m_begins m_ends m_bad m_badPlace m_top v.2.2.2.1 v.2.2.2.2 m_quarterMany m_quarters m_isUp m_wasUp ++ fr)) (fun k hk v hf => t_X11_marksAbove_13 hX hQ   (fun x3 x4 x5 m_lineLives m_markRow h => hk (x3, x4, x5, m_lineLives, m_markRow) h) v.1 v.2.1 v.2.2.1 hf) n v hf
def f_X11_marksAbove (fu : Nat) (m_people : Int32) (m_grants : Int32) (m_isFemale : Nat → Int32) (m_born : Nat → Int32) (m_died : Nat → Int32) (m_father : Nat → Int32) (m_grantTo : Nat → Int32) (m_grantArms : Nat → Int32) (m_grantYear : Nat → Int32) (m_lineLives : Nat → Int32) (m_markRow : Nat → Int32) (x1 : Int32) (x2 : Int32) : Option (Int32 × (Nat → Int32) × (Nat → Int32)) :=
  (f_X11_marksOf fu m_people m_grants m_isFemale m_born m_died m_father m_grantTo m_grantArms m_grantYear m_lineLives m_markRow x1 x2).bind fun v1 => f_X11_marksAbove_13  fu (v1.1, 0, 0, v1.2.1, v1.2.2)
set_option maxRecDepth 100000 in
set_option maxHeartbeats 4000000 in
theorem t_X11_marksAbove {fu : Nat}  (x1 : Int32) (x2 : Int32) {r : Int32 × (Nat → Int32) × (Nat → Int32)} (hf : f_X11_marksAbove fu m_people m_grants m_isFemale m_born m_died m_father m_grantTo m_grantArms m_grantYear m_lineLives m_markRow x1 x2 = some r) : Ci l G 5 0 0 yX11_marksAbove cX11_marksAbove 6 .int [.ref (gm G 0), .int x1, .int x2] (WM G m_code m_people m_grants m_texts m_copies m_taped m_faultPlace m_isFemale m_born m_died m_father m_mother m_fatherGrade m_motherGrade m_grantTo m_grantArms m_grantYear m_copyYear m_copyRow m_tape m_textYear m_ruleMany m_ruleFrom m_codeRow m_stack m_ruleKind m_codes m_at m_read m_token m_sign m_begins m_ends m_bad m_badPlace m_top m_lineLives m_markRow m_quarterMany m_quarters m_isUp m_wasUp ++ fr) r.1 (WM G m_code m_people m_grants m_texts m_copies m_taped m_faultPlace m_isFemale m_born m_died m_father m_mother m_fatherGrade m_motherGrade m_grantTo m_grantArms m_grantYear m_copyYear m_copyRow m_tape m_textYear m_ruleMany m_ruleFrom m_codeRow m_stack m_ruleKind m_codes m_at m_read m_token m_sign m_begins m_ends m_bad m_badPlace m_top r.2.1 r.2.2 m_quarterMany m_quarters m_isUp m_wasUp ++ fr) := by
  refine Ci.of (by decide) (Nat.le_of_ble_eq_true rfl) (fun Y hX hQ => ?_)
  refine j_lv (lv' := [(0, .ref (gm G 0)), (1, .int x1), (2, .int x2)]) rfl ?_
  unfold f_X11_marksAbove at hf
  refine j_aload_n hX dX11_marksAbove_0 1 rfl 0 rfl rfl ?_
  refine j_iload_n hX dX11_marksAbove_1 2 rfl 1 rfl rfl ?_
  refine j_iload_n hX dX11_marksAbove_2 3 rfl 2 rfl rfl ?_
  obtain ⟨v1, hv1, hf⟩ := ibd hf
  refine z_i (As := [.int x1, .int x2]) (rest := []) (q0 := 0) hX dX11_marksAbove_3 6 rfl (t_X11_marksOf x1 x2 hv1) mc_X11_marksOf mv_X11_marksOf ml_X11_166 rfl rfl (Nat.le_of_ble_eq_true rfl) (Nat.le_refl _) (Nat.le_refl _) rfl (Nat.le_of_ble_eq_true rfl) ?_
  refine j_istore_n hX dX11_marksAbove_6 7 rfl rfl (by decide) (lv' := [(3, .int v1.1), (0, .ref (gm G 0)), (1, .int x1), (2, .int x2)]) rfl ?_
  refine j_iconst (v := 0) hX dX11_marksAbove_7 8 rfl (by decide) ?_
  refine j_istore hX dX11_marksAbove_8 10 rfl (by decide) (lv' := [(4, .int 0), (3, .int v1.1), (0, .ref (gm G 0)), (1, .int x1), (2, .int x2)]) rfl ?_
  refine j_iconst (v := 0) hX dX11_marksAbove_10 11 rfl (by decide) ?_
  refine j_istore hX dX11_marksAbove_11 13 rfl (by decide) (lv' := [(5, .int 0), (4, .int 0), (3, .int v1.1), (0, .ref (gm G 0)), (1, .int x1), (2, .int x2)]) rfl ?_
  refine j_sub [3, 2, 1, 0] rfl ?_
  exact u_X11_marksAbove_13 hX hQ   fu (v1.1, 0, 0, v1.2.1, v1.2.2) hf
def g_X11_isHeiress_30 (m_lineLives : Nat → Int32) : Option (Int32 × (Nat → Int32)) :=
  some (0, m_lineLives)
set_option maxRecDepth 100000 in
set_option maxHeartbeats 4000000 in
theorem t_X11_isHeiress_30 {Y : YT} {r : Int32 × (Nat → Int32)}  (hX : CX l G cX11_isHeiress 5 RX11 Y) (hQ : EQi G Y 0 0 .boolean r.1 (WM G m_code m_people m_grants m_texts m_copies m_taped m_faultPlace m_isFemale m_born m_died m_father m_mother m_fatherGrade m_motherGrade m_grantTo m_grantArms m_grantYear m_copyYear m_copyRow m_tape m_textYear m_ruleMany m_ruleFrom m_codeRow m_stack m_ruleKind m_codes m_at m_read m_token m_sign m_begins m_ends m_bad m_badPlace m_top r.2 m_markRow m_quarterMany m_quarters m_isUp m_wasUp ++ fr))   (hf : g_X11_isHeiress_30 m_lineLives = some r) : J l G (rmD 4 0 0) Y 0 0 30 [] [] (WM G m_code m_people m_grants m_texts m_copies m_taped m_faultPlace m_isFemale m_born m_died m_father m_mother m_fatherGrade m_motherGrade m_grantTo m_grantArms m_grantYear m_copyYear m_copyRow m_tape m_textYear m_ruleMany m_ruleFrom m_codeRow m_stack m_ruleKind m_codes m_at m_read m_token m_sign m_begins m_ends m_bad m_badPlace m_top m_lineLives m_markRow m_quarterMany m_quarters m_isUp m_wasUp ++ fr) := by
  unfold g_X11_isHeiress_30 at hf
  refine j_iconst (v := 0) hX dX11_isHeiress_30 31 rfl (by decide) ?_
  replace hf := Option.some.inj hf
  subst hf
  exact j_zret hX hQ rfl dX11_isHeiress_31
def g_X11_isHeiress_93 (m_lineLives : Nat → Int32) (k40 : Int32 → Int32 → Int32 → (Nat → Int32) → Option (Int32 × (Nat → Int32))) (x2 : Int32) (x3 : Int32) (x4 : Int32) : Option (Int32 × (Nat → Int32)) :=
  k40 x2 x3 (x4 + 1) m_lineLives
set_option maxRecDepth 100000 in
set_option maxHeartbeats 4000000 in
theorem t_X11_isHeiress_93 {Y : YT} {r : Int32 × (Nat → Int32)} {k40 : Int32 → Int32 → Int32 → (Nat → Int32) → Option (Int32 × (Nat → Int32))} (hX : CX l G cX11_isHeiress 5 RX11 Y) (hQ : EQi G Y 0 0 .boolean r.1 (WM G m_code m_people m_grants m_texts m_copies m_taped m_faultPlace m_isFemale m_born m_died m_father m_mother m_fatherGrade m_motherGrade m_grantTo m_grantArms m_grantYear m_copyYear m_copyRow m_tape m_textYear m_ruleMany m_ruleFrom m_codeRow m_stack m_ruleKind m_codes m_at m_read m_token m_sign m_begins m_ends m_bad m_badPlace m_top r.2 m_markRow m_quarterMany m_quarters m_isUp m_wasUp ++ fr)) (hk40 : ∀ (x2 : Int32) (x3 : Int32) (x4 : Int32) (m_lineLives : Nat → Int32), k40 x2 x3 x4 m_lineLives = some r → J l G (rmD 4 0 0) Y 0 0 40 [(0, .ref (gm G 0)), (2, .int x2), (3, .int x3), (4, .int x4)] [] (WM G m_code m_people m_grants m_texts m_copies m_taped m_faultPlace m_isFemale m_born m_died m_father m_mother m_fatherGrade m_motherGrade m_grantTo m_grantArms m_grantYear m_copyYear m_copyRow m_tape m_textYear m_ruleMany m_ruleFrom m_codeRow m_stack m_ruleKind m_codes m_at m_read m_token m_sign m_begins m_ends m_bad m_badPlace m_top m_lineLives m_markRow m_quarterMany m_quarters m_isUp m_wasUp ++ fr)) (x2 : Int32) (x3 : Int32) (x4 : Int32) (hf : g_X11_isHeiress_93 m_lineLives k40 x2 x3 x4 = some r) : J l G (rmD 4 0 0) Y 0 0 93 [(0, .ref (gm G 0)), (2, .int x2), (3, .int x3), (4, .int x4)] [] (WM G m_code m_people m_grants m_texts m_copies m_taped m_faultPlace m_isFemale m_born m_died m_father m_mother m_fatherGrade m_motherGrade m_grantTo m_grantArms m_grantYear m_copyYear m_copyRow m_tape m_textYear m_ruleMany m_ruleFrom m_codeRow m_stack m_ruleKind m_codes m_at m_read m_token m_sign m_begins m_ends m_bad m_badPlace m_top m_lineLives m_markRow m_quarterMany m_quarters m_isUp m_wasUp ++ fr) := by
  unfold g_X11_isHeiress_93 at hf
  refine j_iinc (v := x4 + 1) hX dX11_isHeiress_93 96 rfl 3 rfl rfl (by decide) (lv' := [(4, .int (x4 + 1)), (0, .ref (gm G 0)), (2, .int x2), (3, .int x3)]) rfl ?_
  refine j_goto hX dX11_isHeiress_96 40 rfl ?_
  refine j_sub [1, 2, 3, 0] rfl ?_
  exact hk40 x2 x3 (x4 + 1) m_lineLives hf
def g_X11_isHeiress_40 (m_people : Int32) (m_isFemale : Nat → Int32) (m_born : Nat → Int32) (m_father : Nat → Int32) (m_lineLives : Nat → Int32) (k40 : Int32 → Int32 → Int32 → (Nat → Int32) → Option (Int32 × (Nat → Int32))) (x2 : Int32) (x3 : Int32) (x4 : Int32) : Option (Int32 × (Nat → Int32)) :=
  if m_people ≤ x4 then some (1, m_lineLives) else if inb x4 60 = true then if (m_father (Int32.toNatClampNeg x4)) = x3 then if inb x4 60 = true then if (m_isFemale (Int32.toNatClampNeg x4)) = 0 then if inb x4 60 = true then if x2 < (m_born (Int32.toNatClampNeg x4)) then g_X11_isHeiress_93 m_lineLives k40 x2 x3 x4 else if inb x4 60 = true then if (m_lineLives (Int32.toNatClampNeg x4)) = 0 then g_X11_isHeiress_93 m_lineLives k40 x2 x3 x4 else some (0, m_lineLives) else none else none else g_X11_isHeiress_93 m_lineLives k40 x2 x3 x4 else none else g_X11_isHeiress_93 m_lineLives k40 x2 x3 x4 else none
set_option maxRecDepth 100000 in
set_option maxHeartbeats 4000000 in
theorem t_X11_isHeiress_40 {Y : YT} {r : Int32 × (Nat → Int32)} {k40 : Int32 → Int32 → Int32 → (Nat → Int32) → Option (Int32 × (Nat → Int32))} (hX : CX l G cX11_isHeiress 5 RX11 Y) (hQ : EQi G Y 0 0 .boolean r.1 (WM G m_code m_people m_grants m_texts m_copies m_taped m_faultPlace m_isFemale m_born m_died m_father m_mother m_fatherGrade m_motherGrade m_grantTo m_grantArms m_grantYear m_copyYear m_copyRow m_tape m_textYear m_ruleMany m_ruleFrom m_codeRow m_stack m_ruleKind m_codes m_at m_read m_token m_sign m_begins m_ends m_bad m_badPlace m_top r.2 m_markRow m_quarterMany m_quarters m_isUp m_wasUp ++ fr)) (hk40 : ∀ (x2 : Int32) (x3 : Int32) (x4 : Int32) (m_lineLives : Nat → Int32), k40 x2 x3 x4 m_lineLives = some r → J l G (rmD 4 0 0) Y 0 0 40 [(0, .ref (gm G 0)), (2, .int x2), (3, .int x3), (4, .int x4)] [] (WM G m_code m_people m_grants m_texts m_copies m_taped m_faultPlace m_isFemale m_born m_died m_father m_mother m_fatherGrade m_motherGrade m_grantTo m_grantArms m_grantYear m_copyYear m_copyRow m_tape m_textYear m_ruleMany m_ruleFrom m_codeRow m_stack m_ruleKind m_codes m_at m_read m_token m_sign m_begins m_ends m_bad m_badPlace m_top m_lineLives m_markRow m_quarterMany m_quarters m_isUp m_wasUp ++ fr)) (x2 : Int32) (x3 : Int32) (x4 : Int32) (hf : g_X11_isHeiress_40 m_people m_isFemale m_born m_father m_lineLives k40 x2 x3 x4 = some r) : J l G (rmD 4 0 0) Y 0 0 40 [(0, .ref (gm G 0)), (2, .int x2), (3, .int x3), (4, .int x4)] [] (WM G m_code m_people m_grants m_texts m_copies m_taped m_faultPlace m_isFemale m_born m_died m_father m_mother m_fatherGrade m_motherGrade m_grantTo m_grantArms m_grantYear m_copyYear m_copyRow m_tape m_textYear m_ruleMany m_ruleFrom m_codeRow m_stack m_ruleKind m_codes m_at m_read m_token m_sign m_begins m_ends m_bad m_badPlace m_top m_lineLives m_markRow m_quarterMany m_quarters m_isUp m_wasUp ++ fr) := by
  unfold g_X11_isHeiress_40 at hf
  refine j_iload hX dX11_isHeiress_40 42 rfl 3 rfl ?_
  refine j_aload_n hX dX11_isHeiress_42 43 rfl 0 rfl rfl ?_
  refine j_get hX dX11_isHeiress_43 46 rfl fg_X11_113 0 rfl rfl ?_
  refine j_icmp_ge hX dX11_isHeiress_46 49 99 rfl rfl (fun h8 => ?_) (fun h8 => ?_)
  · replace hf := itt h8 hf
    refine j_iconst (v := 1) hX dX11_isHeiress_99 100 rfl (by decide) ?_
    replace hf := Option.some.inj hf
    subst hf
    exact j_zret hX hQ rfl dX11_isHeiress_100
  · replace hf := itf h8 hf
    refine j_aload_n hX dX11_isHeiress_49 50 rfl 0 rfl rfl ?_
    refine j_get hX dX11_isHeiress_50 53 rfl fg_X11_45 0 rfl rfl ?_
    refine j_iload hX dX11_isHeiress_53 55 rfl 3 rfl ?_
    obtain ⟨hb9, hf⟩ := ign hf
    refine j_iald hX dX11_isHeiress_55 56 rfl 5 rfl hb9 ?_
    refine j_iload_n hX dX11_isHeiress_56 57 rfl 2 rfl rfl ?_
    refine j_icmp_ne hX dX11_isHeiress_57 60 93 rfl rfl (fun h10 => ?_) (fun h10 => ?_)
    · replace hf := itf h10 hf
      exact t_X11_isHeiress_93 hX hQ  hk40 x2 x3 x4 hf
    · replace hf := itt h10 hf
      refine j_aload_n hX dX11_isHeiress_60 61 rfl 0 rfl rfl ?_
      refine j_get hX dX11_isHeiress_61 64 rfl fg_X11_35 0 rfl rfl ?_
      refine j_iload hX dX11_isHeiress_64 66 rfl 3 rfl ?_
      obtain ⟨hb11, hf⟩ := ign hf
      refine j_zald hX dX11_isHeiress_66 67 rfl 2 rfl hb11 ?_
      refine j_if_ne hX dX11_isHeiress_67 70 93 rfl rfl (fun h12 => ?_) (fun h12 => ?_)
      · replace hf := itf h12 hf
        exact t_X11_isHeiress_93 hX hQ  hk40 x2 x3 x4 hf
      · replace hf := itt h12 hf
        refine j_aload_n hX dX11_isHeiress_70 71 rfl 0 rfl rfl ?_
        refine j_get hX dX11_isHeiress_71 74 rfl fg_X11_39 0 rfl rfl ?_
        refine j_iload hX dX11_isHeiress_74 76 rfl 3 rfl ?_
        obtain ⟨hb13, hf⟩ := ign hf
        refine j_iald hX dX11_isHeiress_76 77 rfl 3 rfl hb13 ?_
        refine j_iload_n hX dX11_isHeiress_77 78 rfl 1 rfl rfl ?_
        refine j_icmp_gt hX dX11_isHeiress_78 81 93 rfl rfl (fun h14 => ?_) (fun h14 => ?_)
        · replace hf := itt h14 hf
          exact t_X11_isHeiress_93 hX hQ  hk40 x2 x3 x4 hf
        · replace hf := itf h14 hf
          refine j_aload_n hX dX11_isHeiress_81 82 rfl 0 rfl rfl ?_
          refine j_get hX dX11_isHeiress_82 85 rfl fg_X11_93 0 rfl rfl ?_
          refine j_iload hX dX11_isHeiress_85 87 rfl 3 rfl ?_
          obtain ⟨hb15, hf⟩ := ign hf
          refine j_zald hX dX11_isHeiress_87 88 rfl 21 rfl hb15 ?_
          refine j_if_eq hX dX11_isHeiress_88 91 93 rfl rfl (fun h16 => ?_) (fun h16 => ?_)
          · replace hf := itt h16 hf
            exact t_X11_isHeiress_93 hX hQ  hk40 x2 x3 x4 hf
          · replace hf := itf h16 hf
            refine j_iconst (v := 0) hX dX11_isHeiress_91 92 rfl (by decide) ?_
            replace hf := Option.some.inj hf
            subst hf
            exact j_zret hX hQ rfl dX11_isHeiress_92
def f_X11_isHeiress_40 (m_people : Int32) (m_isFemale : Nat → Int32) (m_born : Nat → Int32) (m_father : Nat → Int32) : Nat → (Int32 × Int32 × Int32 × (Nat → Int32)) → Option (Int32 × (Nat → Int32)) :=
  lp (fun k v => g_X11_isHeiress_40 m_people m_isFemale m_born m_father v.2.2.2 (fun x2 x3 x4 m_lineLives => k (x2, x3, x4, m_lineLives)) v.1 v.2.1 v.2.2.1)
set_option maxRecDepth 100000 in
set_option maxHeartbeats 4000000 in
theorem u_X11_isHeiress_40 {Y : YT} {r : Int32 × (Nat → Int32)}  (hX : CX l G cX11_isHeiress 5 RX11 Y) (hQ : EQi G Y 0 0 .boolean r.1 (WM G m_code m_people m_grants m_texts m_copies m_taped m_faultPlace m_isFemale m_born m_died m_father m_mother m_fatherGrade m_motherGrade m_grantTo m_grantArms m_grantYear m_copyYear m_copyRow m_tape m_textYear m_ruleMany m_ruleFrom m_codeRow m_stack m_ruleKind m_codes m_at m_read m_token m_sign m_begins m_ends m_bad m_badPlace m_top r.2 m_markRow m_quarterMany m_quarters m_isUp m_wasUp ++ fr))  (n : Nat) (v : Int32 × Int32 × Int32 × (Nat → Int32)) (hf : f_X11_isHeiress_40 m_people m_isFemale m_born m_father n v = some r) : J l G (rmD 4 0 0) Y 0 0 40 [(0, .ref (gm G 0)), (2, .int v.1), (3, .int v.2.1), (4, .int v.2.2.1)] [] (WM G m_code m_people m_grants m_texts m_copies m_taped m_faultPlace m_isFemale m_born m_died m_father m_mother m_fatherGrade m_motherGrade m_grantTo m_grantArms m_grantYear m_copyYear m_copyRow m_tape m_textYear m_ruleMany m_ruleFrom m_codeRow m_stack m_ruleKind m_codes m_at m_read m_token m_sign m_begins m_ends m_bad m_badPlace m_top v.2.2.2 m_markRow m_quarterMany m_quarters m_isUp m_wasUp ++ fr) :=
  lp_ind (P := fun v : Int32 × Int32 × Int32 × (Nat → Int32) => J l G (rmD 4 0 0) Y 0 0 40 [(0, .ref (gm G 0)), (2, .int v.1), (3, .int v.2.1), (4, .int v.2.2.1)] [] (WM G m_code m_people m_grants m_texts m_copies m_taped m_faultPlace m_isFemale m_born m_died m_father m_mother m_fatherGrade m_motherGrade m_grantTo m_grantArms m_grantYear m_copyYear m_copyRow m_tape m_textYear m_ruleMany m_ruleFrom m_codeRow m_stack m_ruleKind m_codes m_at m_read m_token m_sign m_begins m_ends m_bad m_badPlace m_top v.2.2.2 m_markRow m_quarterMany m_quarters m_isUp m_wasUp ++ fr)) (fun k hk v hf => t_X11_isHeiress_40 hX hQ   (fun x2 x3 x4 m_lineLives h => hk (x2, x3, x4, m_lineLives) h) v.1 v.2.1 v.2.2.1 hf) n v hf
def f_X11_isHeiress (fu : Nat) (m_people : Int32) (m_isFemale : Nat → Int32) (m_born : Nat → Int32) (m_died : Nat → Int32) (m_father : Nat → Int32) (m_lineLives : Nat → Int32) (x1 : Int32) (x2 : Int32) : Option (Int32 × (Nat → Int32)) :=
  if inb x1 60 = true then if inb x1 60 = true then if (m_isFemale (Int32.toNatClampNeg x1)) = 0 then g_X11_isHeiress_30 m_lineLives else if (m_father (Int32.toNatClampNeg x1)) = ((-1)) then g_X11_isHeiress_30 m_lineLives else (f_X11_end m_born m_died (m_father (Int32.toNatClampNeg x1))).bind fun v5 => if v5 ≤ x2 then (f_X11_lines fu m_people m_isFemale m_born m_died m_father m_lineLives x2).bind fun v7 => f_X11_isHeiress_40 m_people m_isFemale m_born m_father fu (x2, m_father (Int32.toNatClampNeg x1), 0, v7) else g_X11_isHeiress_30 m_lineLives else none else none
set_option maxRecDepth 100000 in
set_option maxHeartbeats 4000000 in
theorem t_X11_isHeiress {fu : Nat}  (x1 : Int32) (x2 : Int32) {r : Int32 × (Nat → Int32)} (hf : f_X11_isHeiress fu m_people m_isFemale m_born m_died m_father m_lineLives x1 x2 = some r) : Ci l G 4 0 0 yX11_isHeiress cX11_isHeiress 5 .boolean [.ref (gm G 0), .int x1, .int x2] (WM G m_code m_people m_grants m_texts m_copies m_taped m_faultPlace m_isFemale m_born m_died m_father m_mother m_fatherGrade m_motherGrade m_grantTo m_grantArms m_grantYear m_copyYear m_copyRow m_tape m_textYear m_ruleMany m_ruleFrom m_codeRow m_stack m_ruleKind m_codes m_at m_read m_token m_sign m_begins m_ends m_bad m_badPlace m_top m_lineLives m_markRow m_quarterMany m_quarters m_isUp m_wasUp ++ fr) r.1 (WM G m_code m_people m_grants m_texts m_copies m_taped m_faultPlace m_isFemale m_born m_died m_father m_mother m_fatherGrade m_motherGrade m_grantTo m_grantArms m_grantYear m_copyYear m_copyRow m_tape m_textYear m_ruleMany m_ruleFrom m_codeRow m_stack m_ruleKind m_codes m_at m_read m_token m_sign m_begins m_ends m_bad m_badPlace m_top r.2 m_markRow m_quarterMany m_quarters m_isUp m_wasUp ++ fr) := by
  refine Ci.of (by decide) (Nat.le_of_ble_eq_true rfl) (fun Y hX hQ => ?_)
  refine j_lv (lv' := [(0, .ref (gm G 0)), (1, .int x1), (2, .int x2)]) rfl ?_
  unfold f_X11_isHeiress at hf
  refine j_aload_n hX dX11_isHeiress_0 1 rfl 0 rfl rfl ?_
  refine j_get hX dX11_isHeiress_1 4 rfl fg_X11_45 0 rfl rfl ?_
  refine j_iload_n hX dX11_isHeiress_4 5 rfl 1 rfl rfl ?_
  obtain ⟨hb1, hf⟩ := ign hf
  refine j_iald hX dX11_isHeiress_5 6 rfl 5 rfl hb1 ?_
  refine j_istore_n hX dX11_isHeiress_6 7 rfl rfl (by decide) (lv' := [(3, .int (m_father (Int32.toNatClampNeg x1))), (0, .ref (gm G 0)), (1, .int x1), (2, .int x2)]) rfl ?_
  refine j_aload_n hX dX11_isHeiress_7 8 rfl 1 rfl rfl ?_
  refine j_get hX dX11_isHeiress_8 11 rfl fg_X11_35 0 rfl rfl ?_
  refine j_iload_n hX dX11_isHeiress_11 12 rfl 2 rfl rfl ?_
  obtain ⟨hb2, hf⟩ := ign hf
  refine j_zald hX dX11_isHeiress_12 13 rfl 2 rfl hb2 ?_
  refine j_if_eq hX dX11_isHeiress_13 16 30 rfl rfl (fun h3 => ?_) (fun h3 => ?_)
  · replace hf := itt h3 hf
    refine j_sub [] rfl ?_
    exact t_X11_isHeiress_30 hX hQ    hf
  · replace hf := itf h3 hf
    refine j_iload_n hX dX11_isHeiress_16 17 rfl 0 rfl rfl ?_
    refine j_iconst (v := (-1)) hX dX11_isHeiress_17 18 rfl (by decide) ?_
    refine j_icmp_eq hX dX11_isHeiress_18 21 30 rfl rfl (fun h4 => ?_) (fun h4 => ?_)
    · replace hf := itt h4 hf
      refine j_sub [] rfl ?_
      exact t_X11_isHeiress_30 hX hQ    hf
    · replace hf := itf h4 hf
      refine j_aload_n hX dX11_isHeiress_21 22 rfl 1 rfl rfl ?_
      refine j_iload_n hX dX11_isHeiress_22 23 rfl 0 rfl rfl ?_
      obtain ⟨v5, hv5, hf⟩ := ibd hf
      refine z_i (As := [.int (m_father (Int32.toNatClampNeg x1))]) (rest := []) (q0 := 0) hX dX11_isHeiress_23 26 rfl (t_X11_end (m_father (Int32.toNatClampNeg x1)) hv5) mc_X11_end mv_X11_end ml_X11_120 rfl rfl (Nat.le_of_ble_eq_true rfl) (Nat.le_refl _) (Nat.le_refl _) rfl (Nat.le_of_ble_eq_true rfl) ?_
      refine j_iload_n hX dX11_isHeiress_26 27 rfl 3 rfl rfl ?_
      refine j_icmp_le hX dX11_isHeiress_27 30 32 rfl rfl (fun h6 => ?_) (fun h6 => ?_)
      · replace hf := itt h6 hf
        refine j_aload_n hX dX11_isHeiress_32 33 rfl 1 rfl rfl ?_
        refine j_iload_n hX dX11_isHeiress_33 34 rfl 3 rfl rfl ?_
        obtain ⟨v7, hv7, hf⟩ := ibd hf
        refine z_v (As := [.int x2]) (rest := []) (q0 := 0) hX dX11_isHeiress_34 37 rfl (t_X11_lines x2 hv7) mc_X11_lines mv_X11_lines ml_X11_156 rfl rfl (Nat.le_of_ble_eq_true rfl) (Nat.le_refl _) (Nat.le_refl _) rfl (Nat.le_of_ble_eq_true rfl) ?_
        refine j_iconst (v := 0) hX dX11_isHeiress_37 38 rfl (by decide) ?_
        refine j_istore hX dX11_isHeiress_38 40 rfl (by decide) (lv' := [(4, .int 0), (3, .int (m_father (Int32.toNatClampNeg x1))), (0, .ref (gm G 0)), (1, .int x1), (2, .int x2)]) rfl ?_
        refine j_sub [2, 4, 1, 0] rfl ?_
        exact u_X11_isHeiress_40 hX hQ   fu (x2, m_father (Int32.toNatClampNeg x1), 0, v7) hf
      · replace hf := itf h6 hf
        refine j_sub [] rfl ?_
        exact t_X11_isHeiress_30 hX hQ    hf
def g_X11_bears_98 (m_code : Int32) (m_lineLives : Nat → Int32) (m_markRow : Nat → Int32) (s0 : Int32) : Option (Int32 × Int32 × (Nat → Int32) × (Nat → Int32)) :=
  some (s0, m_code, m_lineLives, m_markRow)
set_option maxRecDepth 100000 in
set_option maxHeartbeats 4000000 in
theorem t_X11_bears_98 {Y : YT} {r : Int32 × Int32 × (Nat → Int32) × (Nat → Int32)}  (hX : CX l G cX11_bears 5 RX11 Y) (hQ : EQi G Y 0 0 .int r.1 (WM G r.2.1 m_people m_grants m_texts m_copies m_taped m_faultPlace m_isFemale m_born m_died m_father m_mother m_fatherGrade m_motherGrade m_grantTo m_grantArms m_grantYear m_copyYear m_copyRow m_tape m_textYear m_ruleMany m_ruleFrom m_codeRow m_stack m_ruleKind m_codes m_at m_read m_token m_sign m_begins m_ends m_bad m_badPlace m_top r.2.2.1 r.2.2.2 m_quarterMany m_quarters m_isUp m_wasUp ++ fr))  (s0 : Int32) (hf : g_X11_bears_98 m_code m_lineLives m_markRow s0 = some r) : J l G (rmD 6 0 0) Y 0 0 98 [] [.int s0] (WM G m_code m_people m_grants m_texts m_copies m_taped m_faultPlace m_isFemale m_born m_died m_father m_mother m_fatherGrade m_motherGrade m_grantTo m_grantArms m_grantYear m_copyYear m_copyRow m_tape m_textYear m_ruleMany m_ruleFrom m_codeRow m_stack m_ruleKind m_codes m_at m_read m_token m_sign m_begins m_ends m_bad m_badPlace m_top m_lineLives m_markRow m_quarterMany m_quarters m_isUp m_wasUp ++ fr) := by
  unfold g_X11_bears_98 at hf
  replace hf := Option.some.inj hf
  subst hf
  exact j_iret hX hQ dX11_bears_98
def g_X11_bears_115 (m_code : Int32) (m_lineLives : Nat → Int32) (m_markRow : Nat → Int32) (s0 : Int32) : Option (Int32 × Int32 × (Nat → Int32) × (Nat → Int32)) :=
  some (s0, m_code, m_lineLives, m_markRow)
set_option maxRecDepth 100000 in
set_option maxHeartbeats 4000000 in
theorem t_X11_bears_115 {Y : YT} {r : Int32 × Int32 × (Nat → Int32) × (Nat → Int32)}  (hX : CX l G cX11_bears 5 RX11 Y) (hQ : EQi G Y 0 0 .int r.1 (WM G r.2.1 m_people m_grants m_texts m_copies m_taped m_faultPlace m_isFemale m_born m_died m_father m_mother m_fatherGrade m_motherGrade m_grantTo m_grantArms m_grantYear m_copyYear m_copyRow m_tape m_textYear m_ruleMany m_ruleFrom m_codeRow m_stack m_ruleKind m_codes m_at m_read m_token m_sign m_begins m_ends m_bad m_badPlace m_top r.2.2.1 r.2.2.2 m_quarterMany m_quarters m_isUp m_wasUp ++ fr))  (s0 : Int32) (hf : g_X11_bears_115 m_code m_lineLives m_markRow s0 = some r) : J l G (rmD 6 0 0) Y 0 0 115 [] [.int s0] (WM G m_code m_people m_grants m_texts m_copies m_taped m_faultPlace m_isFemale m_born m_died m_father m_mother m_fatherGrade m_motherGrade m_grantTo m_grantArms m_grantYear m_copyYear m_copyRow m_tape m_textYear m_ruleMany m_ruleFrom m_codeRow m_stack m_ruleKind m_codes m_at m_read m_token m_sign m_begins m_ends m_bad m_badPlace m_top m_lineLives m_markRow m_quarterMany m_quarters m_isUp m_wasUp ++ fr) := by
  unfold g_X11_bears_115 at hf
  replace hf := Option.some.inj hf
  subst hf
  exact j_iret hX hQ dX11_bears_115
def g_X11_bears_130 (m_code : Int32) (m_lineLives : Nat → Int32) (m_markRow : Nat → Int32) (s0 : Int32) : Option (Int32 × Int32 × (Nat → Int32) × (Nat → Int32)) :=
  some (s0, m_code, m_lineLives, m_markRow)
set_option maxRecDepth 100000 in
set_option maxHeartbeats 4000000 in
theorem t_X11_bears_130 {Y : YT} {r : Int32 × Int32 × (Nat → Int32) × (Nat → Int32)}  (hX : CX l G cX11_bears 5 RX11 Y) (hQ : EQi G Y 0 0 .int r.1 (WM G r.2.1 m_people m_grants m_texts m_copies m_taped m_faultPlace m_isFemale m_born m_died m_father m_mother m_fatherGrade m_motherGrade m_grantTo m_grantArms m_grantYear m_copyYear m_copyRow m_tape m_textYear m_ruleMany m_ruleFrom m_codeRow m_stack m_ruleKind m_codes m_at m_read m_token m_sign m_begins m_ends m_bad m_badPlace m_top r.2.2.1 r.2.2.2 m_quarterMany m_quarters m_isUp m_wasUp ++ fr))  (s0 : Int32) (hf : g_X11_bears_130 m_code m_lineLives m_markRow s0 = some r) : J l G (rmD 6 0 0) Y 0 0 130 [] [.int s0] (WM G m_code m_people m_grants m_texts m_copies m_taped m_faultPlace m_isFemale m_born m_died m_father m_mother m_fatherGrade m_motherGrade m_grantTo m_grantArms m_grantYear m_copyYear m_copyRow m_tape m_textYear m_ruleMany m_ruleFrom m_codeRow m_stack m_ruleKind m_codes m_at m_read m_token m_sign m_begins m_ends m_bad m_badPlace m_top m_lineLives m_markRow m_quarterMany m_quarters m_isUp m_wasUp ++ fr) := by
  unfold g_X11_bears_130 at hf
  replace hf := Option.some.inj hf
  subst hf
  exact j_iret hX hQ dX11_bears_130
def g_X11_bears_150 (m_code : Int32) (m_lineLives : Nat → Int32) (m_markRow : Nat → Int32) (s0 : Int32) : Option (Int32 × Int32 × (Nat → Int32) × (Nat → Int32)) :=
  some (s0, m_code, m_lineLives, m_markRow)
set_option maxRecDepth 100000 in
set_option maxHeartbeats 4000000 in
theorem t_X11_bears_150 {Y : YT} {r : Int32 × Int32 × (Nat → Int32) × (Nat → Int32)}  (hX : CX l G cX11_bears 5 RX11 Y) (hQ : EQi G Y 0 0 .int r.1 (WM G r.2.1 m_people m_grants m_texts m_copies m_taped m_faultPlace m_isFemale m_born m_died m_father m_mother m_fatherGrade m_motherGrade m_grantTo m_grantArms m_grantYear m_copyYear m_copyRow m_tape m_textYear m_ruleMany m_ruleFrom m_codeRow m_stack m_ruleKind m_codes m_at m_read m_token m_sign m_begins m_ends m_bad m_badPlace m_top r.2.2.1 r.2.2.2 m_quarterMany m_quarters m_isUp m_wasUp ++ fr))  (s0 : Int32) (hf : g_X11_bears_150 m_code m_lineLives m_markRow s0 = some r) : J l G (rmD 6 0 0) Y 0 0 150 [] [.int s0] (WM G m_code m_people m_grants m_texts m_copies m_taped m_faultPlace m_isFemale m_born m_died m_father m_mother m_fatherGrade m_motherGrade m_grantTo m_grantArms m_grantYear m_copyYear m_copyRow m_tape m_textYear m_ruleMany m_ruleFrom m_codeRow m_stack m_ruleKind m_codes m_at m_read m_token m_sign m_begins m_ends m_bad m_badPlace m_top m_lineLives m_markRow m_quarterMany m_quarters m_isUp m_wasUp ++ fr) := by
  unfold g_X11_bears_150 at hf
  replace hf := Option.some.inj hf
  subst hf
  exact j_iret hX hQ dX11_bears_150
def g_X11_bears_165 (m_code : Int32) (m_lineLives : Nat → Int32) (m_markRow : Nat → Int32) (s0 : Int32) : Option (Int32 × Int32 × (Nat → Int32) × (Nat → Int32)) :=
  some (s0, m_code, m_lineLives, m_markRow)
set_option maxRecDepth 100000 in
set_option maxHeartbeats 4000000 in
theorem t_X11_bears_165 {Y : YT} {r : Int32 × Int32 × (Nat → Int32) × (Nat → Int32)}  (hX : CX l G cX11_bears 5 RX11 Y) (hQ : EQi G Y 0 0 .int r.1 (WM G r.2.1 m_people m_grants m_texts m_copies m_taped m_faultPlace m_isFemale m_born m_died m_father m_mother m_fatherGrade m_motherGrade m_grantTo m_grantArms m_grantYear m_copyYear m_copyRow m_tape m_textYear m_ruleMany m_ruleFrom m_codeRow m_stack m_ruleKind m_codes m_at m_read m_token m_sign m_begins m_ends m_bad m_badPlace m_top r.2.2.1 r.2.2.2 m_quarterMany m_quarters m_isUp m_wasUp ++ fr))  (s0 : Int32) (hf : g_X11_bears_165 m_code m_lineLives m_markRow s0 = some r) : J l G (rmD 6 0 0) Y 0 0 165 [] [.int s0] (WM G m_code m_people m_grants m_texts m_copies m_taped m_faultPlace m_isFemale m_born m_died m_father m_mother m_fatherGrade m_motherGrade m_grantTo m_grantArms m_grantYear m_copyYear m_copyRow m_tape m_textYear m_ruleMany m_ruleFrom m_codeRow m_stack m_ruleKind m_codes m_at m_read m_token m_sign m_begins m_ends m_bad m_badPlace m_top m_lineLives m_markRow m_quarterMany m_quarters m_isUp m_wasUp ++ fr) := by
  unfold g_X11_bears_165 at hf
  replace hf := Option.some.inj hf
  subst hf
  exact j_iret hX hQ dX11_bears_165
def g_X11_bears_186 (m_code : Int32) (m_lineLives : Nat → Int32) (m_markRow : Nat → Int32) (s0 : Int32) : Option (Int32 × Int32 × (Nat → Int32) × (Nat → Int32)) :=
  some (s0, m_code, m_lineLives, m_markRow)
set_option maxRecDepth 100000 in
set_option maxHeartbeats 4000000 in
theorem t_X11_bears_186 {Y : YT} {r : Int32 × Int32 × (Nat → Int32) × (Nat → Int32)}  (hX : CX l G cX11_bears 5 RX11 Y) (hQ : EQi G Y 0 0 .int r.1 (WM G r.2.1 m_people m_grants m_texts m_copies m_taped m_faultPlace m_isFemale m_born m_died m_father m_mother m_fatherGrade m_motherGrade m_grantTo m_grantArms m_grantYear m_copyYear m_copyRow m_tape m_textYear m_ruleMany m_ruleFrom m_codeRow m_stack m_ruleKind m_codes m_at m_read m_token m_sign m_begins m_ends m_bad m_badPlace m_top r.2.2.1 r.2.2.2 m_quarterMany m_quarters m_isUp m_wasUp ++ fr))  (s0 : Int32) (hf : g_X11_bears_186 m_code m_lineLives m_markRow s0 = some r) : J l G (rmD 6 0 0) Y 0 0 186 [] [.int s0] (WM G m_code m_people m_grants m_texts m_copies m_taped m_faultPlace m_isFemale m_born m_died m_father m_mother m_fatherGrade m_motherGrade m_grantTo m_grantArms m_grantYear m_copyYear m_copyRow m_tape m_textYear m_ruleMany m_ruleFrom m_codeRow m_stack m_ruleKind m_codes m_at m_read m_token m_sign m_begins m_ends m_bad m_badPlace m_top m_lineLives m_markRow m_quarterMany m_quarters m_isUp m_wasUp ++ fr) := by
  unfold g_X11_bears_186 at hf
  replace hf := Option.some.inj hf
  subst hf
  exact j_iret hX hQ dX11_bears_186
def g_X11_bears_185 (m_code : Int32) (m_lineLives : Nat → Int32) (m_markRow : Nat → Int32) : Option (Int32 × Int32 × (Nat → Int32) × (Nat → Int32)) :=
  g_X11_bears_186 m_code m_lineLives m_markRow 0
set_option maxRecDepth 100000 in
set_option maxHeartbeats 4000000 in
theorem t_X11_bears_185 {Y : YT} {r : Int32 × Int32 × (Nat → Int32) × (Nat → Int32)}  (hX : CX l G cX11_bears 5 RX11 Y) (hQ : EQi G Y 0 0 .int r.1 (WM G r.2.1 m_people m_grants m_texts m_copies m_taped m_faultPlace m_isFemale m_born m_died m_father m_mother m_fatherGrade m_motherGrade m_grantTo m_grantArms m_grantYear m_copyYear m_copyRow m_tape m_textYear m_ruleMany m_ruleFrom m_codeRow m_stack m_ruleKind m_codes m_at m_read m_token m_sign m_begins m_ends m_bad m_badPlace m_top r.2.2.1 r.2.2.2 m_quarterMany m_quarters m_isUp m_wasUp ++ fr))   (hf : g_X11_bears_185 m_code m_lineLives m_markRow = some r) : J l G (rmD 6 0 0) Y 0 0 185 [] [] (WM G m_code m_people m_grants m_texts m_copies m_taped m_faultPlace m_isFemale m_born m_died m_father m_mother m_fatherGrade m_motherGrade m_grantTo m_grantArms m_grantYear m_copyYear m_copyRow m_tape m_textYear m_ruleMany m_ruleFrom m_codeRow m_stack m_ruleKind m_codes m_at m_read m_token m_sign m_begins m_ends m_bad m_badPlace m_top m_lineLives m_markRow m_quarterMany m_quarters m_isUp m_wasUp ++ fr) := by
  unfold g_X11_bears_185 at hf
  refine j_iconst (v := 0) hX dX11_bears_185 186 rfl (by decide) ?_
  exact t_X11_bears_186 hX hQ   0 hf
def f_X11_bears (fu : Nat) (m_people : Int32) (m_grants : Int32) (m_isFemale : Nat → Int32) (m_born : Nat → Int32) (m_died : Nat → Int32) (m_father : Nat → Int32) (m_fatherGrade : Nat → Int32) (m_grantTo : Nat → Int32) (m_grantArms : Nat → Int32) (m_grantYear : Nat → Int32) (m_lineLives : Nat → Int32) (m_markRow : Nat → Int32) (x1 : Int32) (x2 : Int32) (x3 : Int32) : Option (Int32 × Int32 × (Nat → Int32) × (Nat → Int32)) :=
  (f_X11_is m_people x1).bind fun v1 => if v1 = 0 then (f_X11_fail ).bind fun v28 => some (v28.1, v28.2, m_lineLives, m_markRow) else (f_X11_rootOf fu m_grants m_father m_grantTo m_grantArms m_grantYear x1 x2).bind fun v3 => if x3 = 0 then (f_X11_armsOf fu m_grants m_father m_grantTo m_grantArms m_grantYear x1 x2).bind fun v5 => some (v5, 0, m_lineLives, m_markRow) else if x3 = 1 then some (v3, 0, m_lineLives, m_markRow) else if x3 = 2 then if v3 = ((-1)) then g_X11_bears_98 0 m_lineLives m_markRow ((-1)) else (f_X11_stepsOf fu m_grants m_father m_grantTo m_grantArms m_grantYear x1 x2).bind fun v9 => g_X11_bears_98 0 m_lineLives m_markRow v9 else if x3 = 3 then if v3 = ((-1)) then g_X11_bears_115 0 m_lineLives m_markRow ((-1)) else (f_X11_gradeOf fu m_grants m_father m_fatherGrade m_grantTo m_grantArms m_grantYear x1 x2).bind fun v12 => g_X11_bears_115 0 m_lineLives m_markRow v12 else if x3 = 4 then (f_X11_lives m_born m_died x1 x2).bind fun v14 => if v14 = 0 then g_X11_bears_130 0 m_lineLives m_markRow 0 else g_X11_bears_130 0 m_lineLives m_markRow 1 else if x3 = 5 then (f_X11_lines fu m_people m_isFemale m_born m_died m_father m_lineLives x2).bind fun v17 => if inb x1 60 = true then if (v17 (Int32.toNatClampNeg x1)) = 0 then g_X11_bears_150 0 v17 m_markRow 0 else g_X11_bears_150 0 v17 m_markRow 1 else none else if x3 = 6 then (f_X11_isHeiress fu m_people m_isFemale m_born m_died m_father m_lineLives x1 x2).bind fun v21 => if v21.1 = 0 then g_X11_bears_165 0 v21.2 m_markRow 0 else g_X11_bears_165 0 v21.2 m_markRow 1 else if x3 = 7 then if v3 = ((-1)) then g_X11_bears_185 0 m_lineLives m_markRow else (f_X11_marksAbove fu m_people m_grants m_isFemale m_born m_died m_father m_grantTo m_grantArms m_grantYear m_lineLives m_markRow x1 x2).bind fun v25 => if v25.1 = 0 then g_X11_bears_186 0 v25.2.1 v25.2.2 1 else g_X11_bears_185 0 v25.2.1 v25.2.2 else (f_X11_fail ).bind fun v27 => some (v27.1, v27.2, m_lineLives, m_markRow)
set_option maxRecDepth 100000 in
set_option maxHeartbeats 4000000 in
theorem t_X11_bears {fu : Nat}  (x1 : Int32) (x2 : Int32) (x3 : Int32) {r : Int32 × Int32 × (Nat → Int32) × (Nat → Int32)} (hf : f_X11_bears fu m_people m_grants m_isFemale m_born m_died m_father m_fatherGrade m_grantTo m_grantArms m_grantYear m_lineLives m_markRow x1 x2 x3 = some r) : Ci l G 6 0 0 yX11_bears cX11_bears 5 .int [.ref (gm G 0), .int x1, .int x2, .int x3] (WM G m_code m_people m_grants m_texts m_copies m_taped m_faultPlace m_isFemale m_born m_died m_father m_mother m_fatherGrade m_motherGrade m_grantTo m_grantArms m_grantYear m_copyYear m_copyRow m_tape m_textYear m_ruleMany m_ruleFrom m_codeRow m_stack m_ruleKind m_codes m_at m_read m_token m_sign m_begins m_ends m_bad m_badPlace m_top m_lineLives m_markRow m_quarterMany m_quarters m_isUp m_wasUp ++ fr) r.1 (WM G r.2.1 m_people m_grants m_texts m_copies m_taped m_faultPlace m_isFemale m_born m_died m_father m_mother m_fatherGrade m_motherGrade m_grantTo m_grantArms m_grantYear m_copyYear m_copyRow m_tape m_textYear m_ruleMany m_ruleFrom m_codeRow m_stack m_ruleKind m_codes m_at m_read m_token m_sign m_begins m_ends m_bad m_badPlace m_top r.2.2.1 r.2.2.2 m_quarterMany m_quarters m_isUp m_wasUp ++ fr) := by
  refine Ci.of (by decide) (Nat.le_of_ble_eq_true rfl) (fun Y hX hQ => ?_)
  refine j_lv (lv' := [(0, .ref (gm G 0)), (1, .int x1), (2, .int x2), (3, .int x3)]) rfl ?_
  unfold f_X11_bears at hf
  refine j_aload_n hX dX11_bears_0 1 rfl 0 rfl rfl ?_
  refine j_iconst (v := 0) hX dX11_bears_1 2 rfl (by decide) ?_
  refine j_put hX dX11_bears_2 5 rfl fg_X11_110 ft_X11_1 0 rfl rfl rfl (Nat.le_of_ble_eq_true rfl) (ws' := (WM G 0 m_people m_grants m_texts m_copies m_taped m_faultPlace m_isFemale m_born m_died m_father m_mother m_fatherGrade m_motherGrade m_grantTo m_grantArms m_grantYear m_copyYear m_copyRow m_tape m_textYear m_ruleMany m_ruleFrom m_codeRow m_stack m_ruleKind m_codes m_at m_read m_token m_sign m_begins m_ends m_bad m_badPlace m_top m_lineLives m_markRow m_quarterMany m_quarters m_isUp m_wasUp ++ fr)) rfl ?_
  refine j_aload_n hX dX11_bears_5 6 rfl 0 rfl rfl ?_
  refine j_iload_n hX dX11_bears_6 7 rfl 1 rfl rfl ?_
  obtain ⟨v1, hv1, hf⟩ := ibd hf
  refine z_i (As := [.int x1]) (rest := []) (q0 := 0) hX dX11_bears_7 10 rfl (t_X11_is x1 hv1) mc_X11_is mv_X11_is ml_X11_124 rfl rfl (Nat.le_of_ble_eq_true rfl) (Nat.le_refl _) (Nat.le_refl _) rfl (Nat.le_of_ble_eq_true rfl) ?_
  refine j_if_ne hX dX11_bears_10 13 18 rfl rfl (fun h2 => ?_) (fun h2 => ?_)
  · replace hf := itf h2 hf
    refine j_aload_n hX dX11_bears_18 19 rfl 0 rfl rfl ?_
    refine j_iload_n hX dX11_bears_19 20 rfl 1 rfl rfl ?_
    refine j_iload_n hX dX11_bears_20 21 rfl 2 rfl rfl ?_
    obtain ⟨v3, hv3, hf⟩ := ibd hf
    refine z_i (As := [.int x1, .int x2]) (rest := []) (q0 := 0) hX dX11_bears_21 24 rfl (t_X11_rootOf x1 x2 hv3) mc_X11_rootOf mv_X11_rootOf ml_X11_145 rfl rfl (Nat.le_of_ble_eq_true rfl) (Nat.le_refl _) (Nat.le_refl _) rfl (Nat.le_of_ble_eq_true rfl) ?_
    refine j_istore hX dX11_bears_24 26 rfl (by decide) (lv' := [(4, .int v3), (0, .ref (gm G 0)), (1, .int x1), (2, .int x2), (3, .int x3)]) rfl ?_
    refine j_iload_n hX dX11_bears_26 27 rfl 4 rfl rfl ?_
    by_cases h4 : x3 = 0
    · replace hf := itt h4 hf
      refine j_tab hX dX11_bears_27 (by decide) 72 (by rw [h4]; rfl) ?_
      refine j_aload_n hX dX11_bears_72 73 rfl 1 rfl rfl ?_
      refine j_iload_n hX dX11_bears_73 74 rfl 2 rfl rfl ?_
      refine j_iload_n hX dX11_bears_74 75 rfl 3 rfl rfl ?_
      obtain ⟨v5, hv5, hf⟩ := ibd hf
      refine z_i (As := [.int x1, .int x2]) (rest := []) (q0 := 0) hX dX11_bears_75 78 rfl (t_X11_armsOf x1 x2 hv5) mc_X11_armsOf mv_X11_armsOf ml_X11_169 rfl rfl (Nat.le_of_ble_eq_true rfl) (Nat.le_refl _) (Nat.le_refl _) rfl (Nat.le_of_ble_eq_true rfl) ?_
      replace hf := Option.some.inj hf
      subst hf
      exact j_iret hX hQ dX11_bears_78
    replace hf := itf h4 hf
    by_cases h6 : x3 = 1
    · replace hf := itt h6 hf
      refine j_tab hX dX11_bears_27 (by decide) 79 (by rw [h6]; rfl) ?_
      refine j_iload hX dX11_bears_79 81 rfl 0 rfl ?_
      replace hf := Option.some.inj hf
      subst hf
      exact j_iret hX hQ dX11_bears_81
    replace hf := itf h6 hf
    by_cases h7 : x3 = 2
    · replace hf := itt h7 hf
      refine j_tab hX dX11_bears_27 (by decide) 82 (by rw [h7]; rfl) ?_
      refine j_iload hX dX11_bears_82 84 rfl 0 rfl ?_
      refine j_iconst (v := (-1)) hX dX11_bears_84 85 rfl (by decide) ?_
      refine j_icmp_ne hX dX11_bears_85 88 92 rfl rfl (fun h8 => ?_) (fun h8 => ?_)
      · replace hf := itf h8 hf
        refine j_aload_n hX dX11_bears_92 93 rfl 1 rfl rfl ?_
        refine j_iload_n hX dX11_bears_93 94 rfl 2 rfl rfl ?_
        refine j_iload_n hX dX11_bears_94 95 rfl 3 rfl rfl ?_
        obtain ⟨v9, hv9, hf⟩ := ibd hf
        refine z_i (As := [.int x1, .int x2]) (rest := []) (q0 := 0) hX dX11_bears_95 98 rfl (t_X11_stepsOf x1 x2 hv9) mc_X11_stepsOf mv_X11_stepsOf ml_X11_160 rfl rfl (Nat.le_of_ble_eq_true rfl) (Nat.le_refl _) (Nat.le_refl _) rfl (Nat.le_of_ble_eq_true rfl) ?_
        refine j_sub [] rfl ?_
        exact t_X11_bears_98 hX hQ   v9 hf
      · replace hf := itt h8 hf
        refine j_iconst (v := (-1)) hX dX11_bears_88 89 rfl (by decide) ?_
        refine j_goto hX dX11_bears_89 98 rfl ?_
        refine j_sub [] rfl ?_
        exact t_X11_bears_98 hX hQ   ((-1)) hf
    replace hf := itf h7 hf
    by_cases h10 : x3 = 3
    · replace hf := itt h10 hf
      refine j_tab hX dX11_bears_27 (by decide) 99 (by rw [h10]; rfl) ?_
      refine j_iload hX dX11_bears_99 101 rfl 0 rfl ?_
      refine j_iconst (v := (-1)) hX dX11_bears_101 102 rfl (by decide) ?_
      refine j_icmp_ne hX dX11_bears_102 105 109 rfl rfl (fun h11 => ?_) (fun h11 => ?_)
      · replace hf := itf h11 hf
        refine j_aload_n hX dX11_bears_109 110 rfl 1 rfl rfl ?_
        refine j_iload_n hX dX11_bears_110 111 rfl 2 rfl rfl ?_
        refine j_iload_n hX dX11_bears_111 112 rfl 3 rfl rfl ?_
        obtain ⟨v12, hv12, hf⟩ := ibd hf
        refine z_i (As := [.int x1, .int x2]) (rest := []) (q0 := 0) hX dX11_bears_112 115 rfl (t_X11_gradeOf x1 x2 hv12) mc_X11_gradeOf mv_X11_gradeOf ml_X11_172 rfl rfl (Nat.le_of_ble_eq_true rfl) (Nat.le_refl _) (Nat.le_refl _) rfl (Nat.le_of_ble_eq_true rfl) ?_
        refine j_sub [] rfl ?_
        exact t_X11_bears_115 hX hQ   v12 hf
      · replace hf := itt h11 hf
        refine j_iconst (v := (-1)) hX dX11_bears_105 106 rfl (by decide) ?_
        refine j_goto hX dX11_bears_106 115 rfl ?_
        refine j_sub [] rfl ?_
        exact t_X11_bears_115 hX hQ   ((-1)) hf
    replace hf := itf h10 hf
    by_cases h13 : x3 = 4
    · replace hf := itt h13 hf
      refine j_tab hX dX11_bears_27 (by decide) 116 (by rw [h13]; rfl) ?_
      refine j_aload_n hX dX11_bears_116 117 rfl 1 rfl rfl ?_
      refine j_iload_n hX dX11_bears_117 118 rfl 2 rfl rfl ?_
      refine j_iload_n hX dX11_bears_118 119 rfl 3 rfl rfl ?_
      obtain ⟨v14, hv14, hf⟩ := ibd hf
      refine z_i (As := [.int x1, .int x2]) (rest := []) (q0 := 0) hX dX11_bears_119 122 rfl (t_X11_lives x1 x2 hv14) mc_X11_lives mv_X11_lives ml_X11_131 rfl rfl (Nat.le_of_ble_eq_true rfl) (Nat.le_refl _) (Nat.le_refl _) rfl (Nat.le_of_ble_eq_true rfl) ?_
      refine j_if_eq hX dX11_bears_122 125 129 rfl rfl (fun h15 => ?_) (fun h15 => ?_)
      · replace hf := itt h15 hf
        refine j_iconst (v := 0) hX dX11_bears_129 130 rfl (by decide) ?_
        refine j_sub [] rfl ?_
        exact t_X11_bears_130 hX hQ   0 hf
      · replace hf := itf h15 hf
        refine j_iconst (v := 1) hX dX11_bears_125 126 rfl (by decide) ?_
        refine j_goto hX dX11_bears_126 130 rfl ?_
        refine j_sub [] rfl ?_
        exact t_X11_bears_130 hX hQ   1 hf
    replace hf := itf h13 hf
    by_cases h16 : x3 = 5
    · replace hf := itt h16 hf
      refine j_tab hX dX11_bears_27 (by decide) 131 (by rw [h16]; rfl) ?_
      refine j_aload_n hX dX11_bears_131 132 rfl 1 rfl rfl ?_
      refine j_iload_n hX dX11_bears_132 133 rfl 3 rfl rfl ?_
      obtain ⟨v17, hv17, hf⟩ := ibd hf
      refine z_v (As := [.int x2]) (rest := []) (q0 := 0) hX dX11_bears_133 136 rfl (t_X11_lines x2 hv17) mc_X11_lines mv_X11_lines ml_X11_156 rfl rfl (Nat.le_of_ble_eq_true rfl) (Nat.le_refl _) (Nat.le_refl _) rfl (Nat.le_of_ble_eq_true rfl) ?_
      refine j_aload_n hX dX11_bears_136 137 rfl 1 rfl rfl ?_
      refine j_get hX dX11_bears_137 140 rfl fg_X11_93 0 rfl rfl ?_
      refine j_iload_n hX dX11_bears_140 141 rfl 2 rfl rfl ?_
      obtain ⟨hb18, hf⟩ := ign hf
      refine j_zald hX dX11_bears_141 142 rfl 21 rfl hb18 ?_
      refine j_if_eq hX dX11_bears_142 145 149 rfl rfl (fun h19 => ?_) (fun h19 => ?_)
      · replace hf := itt h19 hf
        refine j_iconst (v := 0) hX dX11_bears_149 150 rfl (by decide) ?_
        refine j_sub [] rfl ?_
        exact t_X11_bears_150 hX hQ   0 hf
      · replace hf := itf h19 hf
        refine j_iconst (v := 1) hX dX11_bears_145 146 rfl (by decide) ?_
        refine j_goto hX dX11_bears_146 150 rfl ?_
        refine j_sub [] rfl ?_
        exact t_X11_bears_150 hX hQ   1 hf
    replace hf := itf h16 hf
    by_cases h20 : x3 = 6
    · replace hf := itt h20 hf
      refine j_tab hX dX11_bears_27 (by decide) 151 (by rw [h20]; rfl) ?_
      refine j_aload_n hX dX11_bears_151 152 rfl 1 rfl rfl ?_
      refine j_iload_n hX dX11_bears_152 153 rfl 2 rfl rfl ?_
      refine j_iload_n hX dX11_bears_153 154 rfl 3 rfl rfl ?_
      obtain ⟨v21, hv21, hf⟩ := ibd hf
      refine z_i (As := [.int x1, .int x2]) (rest := []) (q0 := 0) hX dX11_bears_154 157 rfl (t_X11_isHeiress x1 x2 hv21) mc_X11_isHeiress mv_X11_isHeiress ml_X11_175 rfl rfl (Nat.le_of_ble_eq_true rfl) (Nat.le_refl _) (Nat.le_refl _) rfl (Nat.le_of_ble_eq_true rfl) ?_
      refine j_if_eq hX dX11_bears_157 160 164 rfl rfl (fun h22 => ?_) (fun h22 => ?_)
      · replace hf := itt h22 hf
        refine j_iconst (v := 0) hX dX11_bears_164 165 rfl (by decide) ?_
        refine j_sub [] rfl ?_
        exact t_X11_bears_165 hX hQ   0 hf
      · replace hf := itf h22 hf
        refine j_iconst (v := 1) hX dX11_bears_160 161 rfl (by decide) ?_
        refine j_goto hX dX11_bears_161 165 rfl ?_
        refine j_sub [] rfl ?_
        exact t_X11_bears_165 hX hQ   1 hf
    replace hf := itf h20 hf
    by_cases h23 : x3 = 7
    · replace hf := itt h23 hf
      refine j_tab hX dX11_bears_27 (by decide) 166 (by rw [h23]; rfl) ?_
      refine j_iload hX dX11_bears_166 168 rfl 0 rfl ?_
      refine j_iconst (v := (-1)) hX dX11_bears_168 169 rfl (by decide) ?_
      refine j_icmp_eq hX dX11_bears_169 172 185 rfl rfl (fun h24 => ?_) (fun h24 => ?_)
      · replace hf := itt h24 hf
        refine j_sub [] rfl ?_
        exact t_X11_bears_185 hX hQ    hf
      · replace hf := itf h24 hf
        refine j_aload_n hX dX11_bears_172 173 rfl 1 rfl rfl ?_
        refine j_iload_n hX dX11_bears_173 174 rfl 2 rfl rfl ?_
        refine j_iload_n hX dX11_bears_174 175 rfl 3 rfl rfl ?_
        obtain ⟨v25, hv25, hf⟩ := ibd hf
        refine z_i (As := [.int x1, .int x2]) (rest := []) (q0 := 0) hX dX11_bears_175 178 rfl (t_X11_marksAbove x1 x2 hv25) mc_X11_marksAbove mv_X11_marksAbove ml_X11_178 rfl rfl (Nat.le_of_ble_eq_true rfl) (Nat.le_refl _) (Nat.le_refl _) rfl (Nat.le_of_ble_eq_true rfl) ?_
        refine j_if_ne hX dX11_bears_178 181 185 rfl rfl (fun h26 => ?_) (fun h26 => ?_)
        · replace hf := itf h26 hf
          refine j_sub [] rfl ?_
          exact t_X11_bears_185 hX hQ    hf
        · replace hf := itt h26 hf
          refine j_iconst (v := 1) hX dX11_bears_181 182 rfl (by decide) ?_
          refine j_goto hX dX11_bears_182 186 rfl ?_
          refine j_sub [] rfl ?_
          exact t_X11_bears_186 hX hQ   1 hf
    replace hf := itf h23 hf
    replace h4 := ne_ti (m := 0) h4 rfl
    replace h6 := ne_ti (m := 1) h6 rfl
    replace h7 := ne_ti (m := 2) h7 rfl
    replace h10 := ne_ti (m := 3) h10 rfl
    replace h13 := ne_ti (m := 4) h13 rfl
    replace h16 := ne_ti (m := 5) h16 rfl
    replace h20 := ne_ti (m := 6) h20 rfl
    replace h23 := ne_ti (m := 7) h23 rfl
    refine j_tab hX dX11_bears_27 (by decide) 187 (by unfold tsel; rw [if_pos (by omega)]; rfl) ?_
    refine j_aload_n hX dX11_bears_187 188 rfl 1 rfl rfl ?_
    obtain ⟨v27, hv27, hf⟩ := ibd hf
    refine z_i (As := []) (rest := []) (q0 := 0) hX dX11_bears_188 191 rfl (t_X11_fail  hv27) mc_X11_fail mv_X11_fail ml_X11_127 rfl rfl (Nat.le_of_ble_eq_true rfl) (Nat.le_refl _) (Nat.le_refl _) rfl (Nat.le_of_ble_eq_true rfl) ?_
    replace hf := Option.some.inj hf
    subst hf
    exact j_iret hX hQ dX11_bears_191
  · replace hf := itt h2 hf
    refine j_aload_n hX dX11_bears_13 14 rfl 0 rfl rfl ?_
    obtain ⟨v28, hv28, hf⟩ := ibd hf
    refine z_i (As := []) (rest := []) (q0 := 0) hX dX11_bears_14 17 rfl (t_X11_fail  hv28) mc_X11_fail mv_X11_fail ml_X11_127 rfl rfl (Nat.le_of_ble_eq_true rfl) (Nat.le_refl _) (Nat.le_refl _) rfl (Nat.le_of_ble_eq_true rfl) ?_
    replace hf := Option.some.inj hf
    subst hf
    exact j_iret hX hQ dX11_bears_17
def g_X11_mark_37 (m_lineLives : Nat → Int32) (m_markRow : Nat → Int32) : Option (Int32 × Int32 × (Nat → Int32) × (Nat → Int32)) :=
  (f_X11_fail ).bind fun v3 => some (v3.1, v3.2, m_lineLives, m_markRow)
set_option maxRecDepth 100000 in
set_option maxHeartbeats 4000000 in
theorem t_X11_mark_37 {Y : YT} {r : Int32 × Int32 × (Nat → Int32) × (Nat → Int32)}  (hX : CX l G cX11_mark 4 RX11 Y) (hQ : EQi G Y 0 0 .int r.1 (WM G r.2.1 m_people m_grants m_texts m_copies m_taped m_faultPlace m_isFemale m_born m_died m_father m_mother m_fatherGrade m_motherGrade m_grantTo m_grantArms m_grantYear m_copyYear m_copyRow m_tape m_textYear m_ruleMany m_ruleFrom m_codeRow m_stack m_ruleKind m_codes m_at m_read m_token m_sign m_begins m_ends m_bad m_badPlace m_top r.2.2.1 r.2.2.2 m_quarterMany m_quarters m_isUp m_wasUp ++ fr))   (hf : g_X11_mark_37 m_lineLives m_markRow = some r) : J l G (rmD 5 0 0) Y 0 0 37 [(0, .ref (gm G 0))] [] (WM G m_code m_people m_grants m_texts m_copies m_taped m_faultPlace m_isFemale m_born m_died m_father m_mother m_fatherGrade m_motherGrade m_grantTo m_grantArms m_grantYear m_copyYear m_copyRow m_tape m_textYear m_ruleMany m_ruleFrom m_codeRow m_stack m_ruleKind m_codes m_at m_read m_token m_sign m_begins m_ends m_bad m_badPlace m_top m_lineLives m_markRow m_quarterMany m_quarters m_isUp m_wasUp ++ fr) := by
  unfold g_X11_mark_37 at hf
  refine j_aload_n hX dX11_mark_37 38 rfl 0 rfl rfl ?_
  obtain ⟨v3, hv3, hf⟩ := ibd hf
  refine z_i (As := []) (rest := []) (q0 := 0) hX dX11_mark_38 41 rfl (t_X11_fail  hv3) mc_X11_fail mv_X11_fail ml_X11_127 rfl rfl (Nat.le_of_ble_eq_true rfl) (Nat.le_refl _) (Nat.le_refl _) rfl (Nat.le_of_ble_eq_true rfl) ?_
  replace hf := Option.some.inj hf
  subst hf
  exact j_iret hX hQ dX11_mark_41
def f_X11_mark (fu : Nat) (m_people : Int32) (m_grants : Int32) (m_isFemale : Nat → Int32) (m_born : Nat → Int32) (m_died : Nat → Int32) (m_father : Nat → Int32) (m_grantTo : Nat → Int32) (m_grantArms : Nat → Int32) (m_grantYear : Nat → Int32) (m_lineLives : Nat → Int32) (m_markRow : Nat → Int32) (x1 : Int32) (x2 : Int32) (x3 : Int32) : Option (Int32 × Int32 × (Nat → Int32) × (Nat → Int32)) :=
  (f_X11_is m_people x1).bind fun v1 => if v1 = 0 then g_X11_mark_37 m_lineLives m_markRow else (f_X11_rootOf fu m_grants m_father m_grantTo m_grantArms m_grantYear x1 x2).bind fun v4 => if v4 = ((-1)) then g_X11_mark_37 m_lineLives m_markRow else if x3 < 0 then g_X11_mark_37 m_lineLives m_markRow else (f_X11_marksOf fu m_people m_grants m_isFemale m_born m_died m_father m_grantTo m_grantArms m_grantYear m_lineLives m_markRow x1 x2).bind fun v7 => if x3 < v7.1 then if inb x3 60 = true then some (v7.2.2 (Int32.toNatClampNeg x3), 0, v7.2.1, v7.2.2) else none else g_X11_mark_37 v7.2.1 v7.2.2
set_option maxRecDepth 100000 in
set_option maxHeartbeats 4000000 in
theorem t_X11_mark {fu : Nat}  (x1 : Int32) (x2 : Int32) (x3 : Int32) {r : Int32 × Int32 × (Nat → Int32) × (Nat → Int32)} (hf : f_X11_mark fu m_people m_grants m_isFemale m_born m_died m_father m_grantTo m_grantArms m_grantYear m_lineLives m_markRow x1 x2 x3 = some r) : Ci l G 5 0 0 yX11_mark cX11_mark 4 .int [.ref (gm G 0), .int x1, .int x2, .int x3] (WM G m_code m_people m_grants m_texts m_copies m_taped m_faultPlace m_isFemale m_born m_died m_father m_mother m_fatherGrade m_motherGrade m_grantTo m_grantArms m_grantYear m_copyYear m_copyRow m_tape m_textYear m_ruleMany m_ruleFrom m_codeRow m_stack m_ruleKind m_codes m_at m_read m_token m_sign m_begins m_ends m_bad m_badPlace m_top m_lineLives m_markRow m_quarterMany m_quarters m_isUp m_wasUp ++ fr) r.1 (WM G r.2.1 m_people m_grants m_texts m_copies m_taped m_faultPlace m_isFemale m_born m_died m_father m_mother m_fatherGrade m_motherGrade m_grantTo m_grantArms m_grantYear m_copyYear m_copyRow m_tape m_textYear m_ruleMany m_ruleFrom m_codeRow m_stack m_ruleKind m_codes m_at m_read m_token m_sign m_begins m_ends m_bad m_badPlace m_top r.2.2.1 r.2.2.2 m_quarterMany m_quarters m_isUp m_wasUp ++ fr) := by
  refine Ci.of (by decide) (Nat.le_of_ble_eq_true rfl) (fun Y hX hQ => ?_)
  refine j_lv (lv' := [(0, .ref (gm G 0)), (1, .int x1), (2, .int x2), (3, .int x3)]) rfl ?_
  unfold f_X11_mark at hf
  refine j_aload_n hX dX11_mark_0 1 rfl 0 rfl rfl ?_
  refine j_iconst (v := 0) hX dX11_mark_1 2 rfl (by decide) ?_
  refine j_put hX dX11_mark_2 5 rfl fg_X11_110 ft_X11_1 0 rfl rfl rfl (Nat.le_of_ble_eq_true rfl) (ws' := (WM G 0 m_people m_grants m_texts m_copies m_taped m_faultPlace m_isFemale m_born m_died m_father m_mother m_fatherGrade m_motherGrade m_grantTo m_grantArms m_grantYear m_copyYear m_copyRow m_tape m_textYear m_ruleMany m_ruleFrom m_codeRow m_stack m_ruleKind m_codes m_at m_read m_token m_sign m_begins m_ends m_bad m_badPlace m_top m_lineLives m_markRow m_quarterMany m_quarters m_isUp m_wasUp ++ fr)) rfl ?_
  refine j_aload_n hX dX11_mark_5 6 rfl 0 rfl rfl ?_
  refine j_iload_n hX dX11_mark_6 7 rfl 1 rfl rfl ?_
  obtain ⟨v1, hv1, hf⟩ := ibd hf
  refine z_i (As := [.int x1]) (rest := []) (q0 := 0) hX dX11_mark_7 10 rfl (t_X11_is x1 hv1) mc_X11_is mv_X11_is ml_X11_124 rfl rfl (Nat.le_of_ble_eq_true rfl) (Nat.le_refl _) (Nat.le_refl _) rfl (Nat.le_of_ble_eq_true rfl) ?_
  refine j_if_eq hX dX11_mark_10 13 37 rfl rfl (fun h2 => ?_) (fun h2 => ?_)
  · replace hf := itt h2 hf
    refine j_sub [0] rfl ?_
    exact t_X11_mark_37 hX hQ    hf
  · replace hf := itf h2 hf
    refine j_aload_n hX dX11_mark_13 14 rfl 0 rfl rfl ?_
    refine j_iload_n hX dX11_mark_14 15 rfl 1 rfl rfl ?_
    refine j_iload_n hX dX11_mark_15 16 rfl 2 rfl rfl ?_
    obtain ⟨v4, hv4, hf⟩ := ibd hf
    refine z_i (As := [.int x1, .int x2]) (rest := []) (q0 := 0) hX dX11_mark_16 19 rfl (t_X11_rootOf x1 x2 hv4) mc_X11_rootOf mv_X11_rootOf ml_X11_145 rfl rfl (Nat.le_of_ble_eq_true rfl) (Nat.le_refl _) (Nat.le_refl _) rfl (Nat.le_of_ble_eq_true rfl) ?_
    refine j_iconst (v := (-1)) hX dX11_mark_19 20 rfl (by decide) ?_
    refine j_icmp_eq hX dX11_mark_20 23 37 rfl rfl (fun h5 => ?_) (fun h5 => ?_)
    · replace hf := itt h5 hf
      refine j_sub [0] rfl ?_
      exact t_X11_mark_37 hX hQ    hf
    · replace hf := itf h5 hf
      refine j_iload_n hX dX11_mark_23 24 rfl 3 rfl rfl ?_
      refine j_if_lt hX dX11_mark_24 27 37 rfl rfl (fun h6 => ?_) (fun h6 => ?_)
      · replace hf := itt h6 hf
        refine j_sub [0] rfl ?_
        exact t_X11_mark_37 hX hQ    hf
      · replace hf := itf h6 hf
        refine j_iload_n hX dX11_mark_27 28 rfl 3 rfl rfl ?_
        refine j_aload_n hX dX11_mark_28 29 rfl 0 rfl rfl ?_
        refine j_iload_n hX dX11_mark_29 30 rfl 1 rfl rfl ?_
        refine j_iload_n hX dX11_mark_30 31 rfl 2 rfl rfl ?_
        obtain ⟨v7, hv7, hf⟩ := ibd hf
        refine z_i (As := [.int x1, .int x2]) (rest := [.int x3]) (q0 := 0) hX dX11_mark_31 34 rfl (t_X11_marksOf x1 x2 hv7) mc_X11_marksOf mv_X11_marksOf ml_X11_166 rfl rfl (Nat.le_of_ble_eq_true rfl) (Nat.le_refl _) (Nat.le_refl _) rfl (Nat.le_of_ble_eq_true rfl) ?_
        refine j_icmp_lt hX dX11_mark_34 37 42 rfl rfl (fun h8 => ?_) (fun h8 => ?_)
        · replace hf := itt h8 hf
          refine j_aload_n hX dX11_mark_42 43 rfl 0 rfl rfl ?_
          refine j_get hX dX11_mark_43 46 rfl fg_X11_96 0 rfl rfl ?_
          refine j_iload_n hX dX11_mark_46 47 rfl 3 rfl rfl ?_
          obtain ⟨hb9, hf⟩ := ign hf
          refine j_iald hX dX11_mark_47 48 rfl 22 rfl hb9 ?_
          replace hf := Option.some.inj hf
          subst hf
          exact j_iret hX hQ dX11_mark_48
        · replace hf := itf h8 hf
          refine j_sub [0] rfl ?_
          exact t_X11_mark_37 hX hQ    hf
def g_X11_head_117 (m_code : Int32) (m_lineLives : Nat → Int32) (x3 : Int32) : Option (Int32 × Int32 × (Nat → Int32)) :=
  some (x3, m_code, m_lineLives)
set_option maxRecDepth 100000 in
set_option maxHeartbeats 4000000 in
theorem t_X11_head_117 {Y : YT} {r : Int32 × Int32 × (Nat → Int32)}  (hX : CX l G cX11_head 6 RX11 Y) (hQ : EQi G Y 0 0 .int r.1 (WM G r.2.1 m_people m_grants m_texts m_copies m_taped m_faultPlace m_isFemale m_born m_died m_father m_mother m_fatherGrade m_motherGrade m_grantTo m_grantArms m_grantYear m_copyYear m_copyRow m_tape m_textYear m_ruleMany m_ruleFrom m_codeRow m_stack m_ruleKind m_codes m_at m_read m_token m_sign m_begins m_ends m_bad m_badPlace m_top r.2.2 m_markRow m_quarterMany m_quarters m_isUp m_wasUp ++ fr))  (x3 : Int32) (hf : g_X11_head_117 m_code m_lineLives x3 = some r) : J l G (rmD 4 0 0) Y 0 0 117 [(3, .int x3)] [] (WM G m_code m_people m_grants m_texts m_copies m_taped m_faultPlace m_isFemale m_born m_died m_father m_mother m_fatherGrade m_motherGrade m_grantTo m_grantArms m_grantYear m_copyYear m_copyRow m_tape m_textYear m_ruleMany m_ruleFrom m_codeRow m_stack m_ruleKind m_codes m_at m_read m_token m_sign m_begins m_ends m_bad m_badPlace m_top m_lineLives m_markRow m_quarterMany m_quarters m_isUp m_wasUp ++ fr) := by
  unfold g_X11_head_117 at hf
  refine j_iload_n hX dX11_head_117 118 rfl 0 rfl rfl ?_
  replace hf := Option.some.inj hf
  subst hf
  exact j_iret hX hQ dX11_head_118
def g_X11_head_105 (m_code : Int32) (m_lineLives : Nat → Int32) (k45 : Int32 → Int32 → Int32 → Int32 → Int32 → (Nat → Int32) → Option (Int32 × Int32 × (Nat → Int32))) (x2 : Int32) (x3 : Int32) (x4 : Int32) (x5 : Int32) : Option (Int32 × Int32 × (Nat → Int32)) :=
  k45 x2 x3 x4 (x5 + 1) m_code m_lineLives
set_option maxRecDepth 100000 in
set_option maxHeartbeats 4000000 in
theorem t_X11_head_105 {Y : YT} {r : Int32 × Int32 × (Nat → Int32)} {k25 : Int32 → Int32 → Int32 → (Nat → Int32) → Option (Int32 × Int32 × (Nat → Int32))} {k45 : Int32 → Int32 → Int32 → Int32 → Int32 → (Nat → Int32) → Option (Int32 × Int32 × (Nat → Int32))} (hX : CX l G cX11_head 6 RX11 Y) (hQ : EQi G Y 0 0 .int r.1 (WM G r.2.1 m_people m_grants m_texts m_copies m_taped m_faultPlace m_isFemale m_born m_died m_father m_mother m_fatherGrade m_motherGrade m_grantTo m_grantArms m_grantYear m_copyYear m_copyRow m_tape m_textYear m_ruleMany m_ruleFrom m_codeRow m_stack m_ruleKind m_codes m_at m_read m_token m_sign m_begins m_ends m_bad m_badPlace m_top r.2.2 m_markRow m_quarterMany m_quarters m_isUp m_wasUp ++ fr)) (hk25 : ∀ (x2 : Int32) (x3 : Int32) (m_code : Int32) (m_lineLives : Nat → Int32), k25 x2 x3 m_code m_lineLives = some r → J l G (rmD 4 0 0) Y 0 0 25 [(0, .ref (gm G 0)), (2, .int x2), (3, .int x3)] [] (WM G m_code m_people m_grants m_texts m_copies m_taped m_faultPlace m_isFemale m_born m_died m_father m_mother m_fatherGrade m_motherGrade m_grantTo m_grantArms m_grantYear m_copyYear m_copyRow m_tape m_textYear m_ruleMany m_ruleFrom m_codeRow m_stack m_ruleKind m_codes m_at m_read m_token m_sign m_begins m_ends m_bad m_badPlace m_top m_lineLives m_markRow m_quarterMany m_quarters m_isUp m_wasUp ++ fr)) (hk45 : ∀ (x2 : Int32) (x3 : Int32) (x4 : Int32) (x5 : Int32) (m_code : Int32) (m_lineLives : Nat → Int32), k45 x2 x3 x4 x5 m_code m_lineLives = some r → J l G (rmD 4 0 0) Y 0 0 45 [(0, .ref (gm G 0)), (2, .int x2), (3, .int x3), (4, .int x4), (5, .int x5)] [] (WM G m_code m_people m_grants m_texts m_copies m_taped m_faultPlace m_isFemale m_born m_died m_father m_mother m_fatherGrade m_motherGrade m_grantTo m_grantArms m_grantYear m_copyYear m_copyRow m_tape m_textYear m_ruleMany m_ruleFrom m_codeRow m_stack m_ruleKind m_codes m_at m_read m_token m_sign m_begins m_ends m_bad m_badPlace m_top m_lineLives m_markRow m_quarterMany m_quarters m_isUp m_wasUp ++ fr)) (x2 : Int32) (x3 : Int32) (x4 : Int32) (x5 : Int32) (hf : g_X11_head_105 m_code m_lineLives k45 x2 x3 x4 x5 = some r) : J l G (rmD 4 0 0) Y 0 0 105 [(0, .ref (gm G 0)), (2, .int x2), (3, .int x3), (4, .int x4), (5, .int x5)] [] (WM G m_code m_people m_grants m_texts m_copies m_taped m_faultPlace m_isFemale m_born m_died m_father m_mother m_fatherGrade m_motherGrade m_grantTo m_grantArms m_grantYear m_copyYear m_copyRow m_tape m_textYear m_ruleMany m_ruleFrom m_codeRow m_stack m_ruleKind m_codes m_at m_read m_token m_sign m_begins m_ends m_bad m_badPlace m_top m_lineLives m_markRow m_quarterMany m_quarters m_isUp m_wasUp ++ fr) := by
  unfold g_X11_head_105 at hf
  refine j_iinc (v := x5 + 1) hX dX11_head_105 108 rfl 4 rfl rfl (by decide) (lv' := [(5, .int (x5 + 1)), (0, .ref (gm G 0)), (2, .int x2), (3, .int x3), (4, .int x4)]) rfl ?_
  refine j_goto hX dX11_head_108 45 rfl ?_
  refine j_sub [1, 2, 3, 4, 0] rfl ?_
  exact hk45 x2 x3 x4 (x5 + 1) m_code m_lineLives hf
def g_X11_head_101 (m_code : Int32) (m_lineLives : Nat → Int32) (k45 : Int32 → Int32 → Int32 → Int32 → Int32 → (Nat → Int32) → Option (Int32 × Int32 × (Nat → Int32))) (x2 : Int32) (x3 : Int32) (x5 : Int32) : Option (Int32 × Int32 × (Nat → Int32)) :=
  g_X11_head_105 m_code m_lineLives k45 x2 x3 x5 x5
set_option maxRecDepth 100000 in
set_option maxHeartbeats 4000000 in
theorem t_X11_head_101 {Y : YT} {r : Int32 × Int32 × (Nat → Int32)} {k25 : Int32 → Int32 → Int32 → (Nat → Int32) → Option (Int32 × Int32 × (Nat → Int32))} {k45 : Int32 → Int32 → Int32 → Int32 → Int32 → (Nat → Int32) → Option (Int32 × Int32 × (Nat → Int32))} (hX : CX l G cX11_head 6 RX11 Y) (hQ : EQi G Y 0 0 .int r.1 (WM G r.2.1 m_people m_grants m_texts m_copies m_taped m_faultPlace m_isFemale m_born m_died m_father m_mother m_fatherGrade m_motherGrade m_grantTo m_grantArms m_grantYear m_copyYear m_copyRow m_tape m_textYear m_ruleMany m_ruleFrom m_codeRow m_stack m_ruleKind m_codes m_at m_read m_token m_sign m_begins m_ends m_bad m_badPlace m_top r.2.2 m_markRow m_quarterMany m_quarters m_isUp m_wasUp ++ fr)) (hk25 : ∀ (x2 : Int32) (x3 : Int32) (m_code : Int32) (m_lineLives : Nat → Int32), k25 x2 x3 m_code m_lineLives = some r → J l G (rmD 4 0 0) Y 0 0 25 [(0, .ref (gm G 0)), (2, .int x2), (3, .int x3)] [] (WM G m_code m_people m_grants m_texts m_copies m_taped m_faultPlace m_isFemale m_born m_died m_father m_mother m_fatherGrade m_motherGrade m_grantTo m_grantArms m_grantYear m_copyYear m_copyRow m_tape m_textYear m_ruleMany m_ruleFrom m_codeRow m_stack m_ruleKind m_codes m_at m_read m_token m_sign m_begins m_ends m_bad m_badPlace m_top m_lineLives m_markRow m_quarterMany m_quarters m_isUp m_wasUp ++ fr)) (hk45 : ∀ (x2 : Int32) (x3 : Int32) (x4 : Int32) (x5 : Int32) (m_code : Int32) (m_lineLives : Nat → Int32), k45 x2 x3 x4 x5 m_code m_lineLives = some r → J l G (rmD 4 0 0) Y 0 0 45 [(0, .ref (gm G 0)), (2, .int x2), (3, .int x3), (4, .int x4), (5, .int x5)] [] (WM G m_code m_people m_grants m_texts m_copies m_taped m_faultPlace m_isFemale m_born m_died m_father m_mother m_fatherGrade m_motherGrade m_grantTo m_grantArms m_grantYear m_copyYear m_copyRow m_tape m_textYear m_ruleMany m_ruleFrom m_codeRow m_stack m_ruleKind m_codes m_at m_read m_token m_sign m_begins m_ends m_bad m_badPlace m_top m_lineLives m_markRow m_quarterMany m_quarters m_isUp m_wasUp ++ fr)) (x2 : Int32) (x3 : Int32) (x5 : Int32) (hf : g_X11_head_101 m_code m_lineLives k45 x2 x3 x5 = some r) : J l G (rmD 4 0 0) Y 0 0 101 [(0, .ref (gm G 0)), (2, .int x2), (3, .int x3), (5, .int x5)] [] (WM G m_code m_people m_grants m_texts m_copies m_taped m_faultPlace m_isFemale m_born m_died m_father m_mother m_fatherGrade m_motherGrade m_grantTo m_grantArms m_grantYear m_copyYear m_copyRow m_tape m_textYear m_ruleMany m_ruleFrom m_codeRow m_stack m_ruleKind m_codes m_at m_read m_token m_sign m_begins m_ends m_bad m_badPlace m_top m_lineLives m_markRow m_quarterMany m_quarters m_isUp m_wasUp ++ fr) := by
  unfold g_X11_head_101 at hf
  refine j_iload hX dX11_head_101 103 rfl 3 rfl ?_
  refine j_istore hX dX11_head_103 105 rfl (by decide) (lv' := [(4, .int x5), (0, .ref (gm G 0)), (2, .int x2), (3, .int x3), (5, .int x5)]) rfl ?_
  refine j_sub [1, 2, 3, 0, 4] rfl ?_
  exact t_X11_head_105 hX hQ  hk25 hk45 x2 x3 x5 x5 hf
def g_X11_head_45 (m_people : Int32) (m_isFemale : Nat → Int32) (m_born : Nat → Int32) (m_father : Nat → Int32) (m_mother : Nat → Int32) (m_code : Int32) (m_lineLives : Nat → Int32) (k25 : Int32 → Int32 → Int32 → (Nat → Int32) → Option (Int32 × Int32 × (Nat → Int32))) (k45 : Int32 → Int32 → Int32 → Int32 → Int32 → (Nat → Int32) → Option (Int32 × Int32 × (Nat → Int32))) (x2 : Int32) (x3 : Int32) (x4 : Int32) (x5 : Int32) : Option (Int32 × Int32 × (Nat → Int32)) :=
  if m_people ≤ x5 then k25 x2 x4 m_code m_lineLives else (f_X11_isChild m_father m_mother x5 x3).bind fun v8 => if v8 = 0 then g_X11_head_105 m_code m_lineLives k45 x2 x3 x4 x5 else if inb x5 60 = true then if (m_isFemale (Int32.toNatClampNeg x5)) = 0 then if inb x5 60 = true then if (m_lineLives (Int32.toNatClampNeg x5)) = 0 then g_X11_head_105 m_code m_lineLives k45 x2 x3 x4 x5 else if x4 = ((-1)) then g_X11_head_101 m_code m_lineLives k45 x2 x3 x5 else (f_X11_isAhead m_born x5 x4).bind fun v15 => if v15 = 0 then g_X11_head_105 m_code m_lineLives k45 x2 x3 x4 x5 else g_X11_head_101 m_code m_lineLives k45 x2 x3 x5 else none else g_X11_head_105 m_code m_lineLives k45 x2 x3 x4 x5 else none
set_option maxRecDepth 100000 in
set_option maxHeartbeats 4000000 in
theorem t_X11_head_45 {Y : YT} {r : Int32 × Int32 × (Nat → Int32)} {k25 : Int32 → Int32 → Int32 → (Nat → Int32) → Option (Int32 × Int32 × (Nat → Int32))} {k45 : Int32 → Int32 → Int32 → Int32 → Int32 → (Nat → Int32) → Option (Int32 × Int32 × (Nat → Int32))} (hX : CX l G cX11_head 6 RX11 Y) (hQ : EQi G Y 0 0 .int r.1 (WM G r.2.1 m_people m_grants m_texts m_copies m_taped m_faultPlace m_isFemale m_born m_died m_father m_mother m_fatherGrade m_motherGrade m_grantTo m_grantArms m_grantYear m_copyYear m_copyRow m_tape m_textYear m_ruleMany m_ruleFrom m_codeRow m_stack m_ruleKind m_codes m_at m_read m_token m_sign m_begins m_ends m_bad m_badPlace m_top r.2.2 m_markRow m_quarterMany m_quarters m_isUp m_wasUp ++ fr)) (hk25 : ∀ (x2 : Int32) (x3 : Int32) (m_code : Int32) (m_lineLives : Nat → Int32), k25 x2 x3 m_code m_lineLives = some r → J l G (rmD 4 0 0) Y 0 0 25 [(0, .ref (gm G 0)), (2, .int x2), (3, .int x3)] [] (WM G m_code m_people m_grants m_texts m_copies m_taped m_faultPlace m_isFemale m_born m_died m_father m_mother m_fatherGrade m_motherGrade m_grantTo m_grantArms m_grantYear m_copyYear m_copyRow m_tape m_textYear m_ruleMany m_ruleFrom m_codeRow m_stack m_ruleKind m_codes m_at m_read m_token m_sign m_begins m_ends m_bad m_badPlace m_top m_lineLives m_markRow m_quarterMany m_quarters m_isUp m_wasUp ++ fr)) (hk45 : ∀ (x2 : Int32) (x3 : Int32) (x4 : Int32) (x5 : Int32) (m_code : Int32) (m_lineLives : Nat → Int32), k45 x2 x3 x4 x5 m_code m_lineLives = some r → J l G (rmD 4 0 0) Y 0 0 45 [(0, .ref (gm G 0)), (2, .int x2), (3, .int x3), (4, .int x4), (5, .int x5)] [] (WM G m_code m_people m_grants m_texts m_copies m_taped m_faultPlace m_isFemale m_born m_died m_father m_mother m_fatherGrade m_motherGrade m_grantTo m_grantArms m_grantYear m_copyYear m_copyRow m_tape m_textYear m_ruleMany m_ruleFrom m_codeRow m_stack m_ruleKind m_codes m_at m_read m_token m_sign m_begins m_ends m_bad m_badPlace m_top m_lineLives m_markRow m_quarterMany m_quarters m_isUp m_wasUp ++ fr)) (x2 : Int32) (x3 : Int32) (x4 : Int32) (x5 : Int32) (hf : g_X11_head_45 m_people m_isFemale m_born m_father m_mother m_code m_lineLives k25 k45 x2 x3 x4 x5 = some r) : J l G (rmD 4 0 0) Y 0 0 45 [(0, .ref (gm G 0)), (2, .int x2), (3, .int x3), (4, .int x4), (5, .int x5)] [] (WM G m_code m_people m_grants m_texts m_copies m_taped m_faultPlace m_isFemale m_born m_died m_father m_mother m_fatherGrade m_motherGrade m_grantTo m_grantArms m_grantYear m_copyYear m_copyRow m_tape m_textYear m_ruleMany m_ruleFrom m_codeRow m_stack m_ruleKind m_codes m_at m_read m_token m_sign m_begins m_ends m_bad m_badPlace m_top m_lineLives m_markRow m_quarterMany m_quarters m_isUp m_wasUp ++ fr) := by
  unfold g_X11_head_45 at hf
  refine j_iload hX dX11_head_45 47 rfl 4 rfl ?_
  refine j_aload_n hX dX11_head_47 48 rfl 0 rfl rfl ?_
  refine j_get hX dX11_head_48 51 rfl fg_X11_113 0 rfl rfl ?_
  refine j_icmp_ge hX dX11_head_51 54 111 rfl rfl (fun h7 => ?_) (fun h7 => ?_)
  · replace hf := itt h7 hf
    refine j_iload hX dX11_head_111 113 rfl 3 rfl ?_
    refine j_istore_n hX dX11_head_113 114 rfl rfl (by decide) (lv' := [(3, .int x4), (0, .ref (gm G 0)), (2, .int x2), (4, .int x4), (5, .int x5)]) rfl ?_
    refine j_goto hX dX11_head_114 25 rfl ?_
    refine j_sub [1, 2, 0] rfl ?_
    exact hk25 x2 x4 m_code m_lineLives hf
  · replace hf := itf h7 hf
    refine j_aload_n hX dX11_head_54 55 rfl 0 rfl rfl ?_
    refine j_iload hX dX11_head_55 57 rfl 4 rfl ?_
    refine j_iload_n hX dX11_head_57 58 rfl 2 rfl rfl ?_
    obtain ⟨v8, hv8, hf⟩ := ibd hf
    refine z_i (As := [.int x5, .int x3]) (rest := []) (q0 := 0) hX dX11_head_58 61 rfl (t_X11_isChild x5 x3 hv8) mc_X11_isChild mv_X11_isChild ml_X11_138 rfl rfl (Nat.le_of_ble_eq_true rfl) (Nat.le_refl _) (Nat.le_refl _) rfl (Nat.le_of_ble_eq_true rfl) ?_
    refine j_if_eq hX dX11_head_61 64 105 rfl rfl (fun h9 => ?_) (fun h9 => ?_)
    · replace hf := itt h9 hf
      exact t_X11_head_105 hX hQ  hk25 hk45 x2 x3 x4 x5 hf
    · replace hf := itf h9 hf
      refine j_aload_n hX dX11_head_64 65 rfl 0 rfl rfl ?_
      refine j_get hX dX11_head_65 68 rfl fg_X11_35 0 rfl rfl ?_
      refine j_iload hX dX11_head_68 70 rfl 4 rfl ?_
      obtain ⟨hb10, hf⟩ := ign hf
      refine j_zald hX dX11_head_70 71 rfl 2 rfl hb10 ?_
      refine j_if_ne hX dX11_head_71 74 105 rfl rfl (fun h11 => ?_) (fun h11 => ?_)
      · replace hf := itf h11 hf
        exact t_X11_head_105 hX hQ  hk25 hk45 x2 x3 x4 x5 hf
      · replace hf := itt h11 hf
        refine j_aload_n hX dX11_head_74 75 rfl 0 rfl rfl ?_
        refine j_get hX dX11_head_75 78 rfl fg_X11_93 0 rfl rfl ?_
        refine j_iload hX dX11_head_78 80 rfl 4 rfl ?_
        obtain ⟨hb12, hf⟩ := ign hf
        refine j_zald hX dX11_head_80 81 rfl 21 rfl hb12 ?_
        refine j_if_eq hX dX11_head_81 84 105 rfl rfl (fun h13 => ?_) (fun h13 => ?_)
        · replace hf := itt h13 hf
          exact t_X11_head_105 hX hQ  hk25 hk45 x2 x3 x4 x5 hf
        · replace hf := itf h13 hf
          refine j_iload hX dX11_head_84 86 rfl 3 rfl ?_
          refine j_iconst (v := (-1)) hX dX11_head_86 87 rfl (by decide) ?_
          refine j_icmp_eq hX dX11_head_87 90 101 rfl rfl (fun h14 => ?_) (fun h14 => ?_)
          · replace hf := itt h14 hf
            refine j_sub [0, 1, 2, 4] rfl ?_
            exact t_X11_head_101 hX hQ  hk25 hk45 x2 x3 x5 hf
          · replace hf := itf h14 hf
            refine j_aload_n hX dX11_head_90 91 rfl 0 rfl rfl ?_
            refine j_iload hX dX11_head_91 93 rfl 4 rfl ?_
            refine j_iload hX dX11_head_93 95 rfl 3 rfl ?_
            obtain ⟨v15, hv15, hf⟩ := ibd hf
            refine z_i (As := [.int x5, .int x4]) (rest := []) (q0 := 0) hX dX11_head_95 98 rfl (t_X11_isAhead x5 x4 hv15) mc_X11_isAhead mv_X11_isAhead ml_X11_153 rfl rfl (Nat.le_of_ble_eq_true rfl) (Nat.le_refl _) (Nat.le_refl _) rfl (Nat.le_of_ble_eq_true rfl) ?_
            refine j_if_eq hX dX11_head_98 101 105 rfl rfl (fun h16 => ?_) (fun h16 => ?_)
            · replace hf := itt h16 hf
              exact t_X11_head_105 hX hQ  hk25 hk45 x2 x3 x4 x5 hf
            · replace hf := itf h16 hf
              refine j_sub [0, 1, 2, 4] rfl ?_
              exact t_X11_head_101 hX hQ  hk25 hk45 x2 x3 x5 hf
def f_X11_head_45 (m_people : Int32) (m_isFemale : Nat → Int32) (m_born : Nat → Int32) (m_father : Nat → Int32) (m_mother : Nat → Int32) (k25 : Int32 → Int32 → Int32 → (Nat → Int32) → Option (Int32 × Int32 × (Nat → Int32))) : Nat → (Int32 × Int32 × Int32 × Int32 × Int32 × (Nat → Int32)) → Option (Int32 × Int32 × (Nat → Int32)) :=
  lp (fun k v => g_X11_head_45 m_people m_isFemale m_born m_father m_mother v.2.2.2.2.1 v.2.2.2.2.2 k25 (fun x2 x3 x4 x5 m_code m_lineLives => k (x2, x3, x4, x5, m_code, m_lineLives)) v.1 v.2.1 v.2.2.1 v.2.2.2.1)
set_option maxRecDepth 100000 in
set_option maxHeartbeats 4000000 in
theorem u_X11_head_45 {Y : YT} {r : Int32 × Int32 × (Nat → Int32)} {k25 : Int32 → Int32 → Int32 → (Nat → Int32) → Option (Int32 × Int32 × (Nat → Int32))} (hX : CX l G cX11_head 6 RX11 Y) (hQ : EQi G Y 0 0 .int r.1 (WM G r.2.1 m_people m_grants m_texts m_copies m_taped m_faultPlace m_isFemale m_born m_died m_father m_mother m_fatherGrade m_motherGrade m_grantTo m_grantArms m_grantYear m_copyYear m_copyRow m_tape m_textYear m_ruleMany m_ruleFrom m_codeRow m_stack m_ruleKind m_codes m_at m_read m_token m_sign m_begins m_ends m_bad m_badPlace m_top r.2.2 m_markRow m_quarterMany m_quarters m_isUp m_wasUp ++ fr)) (hk25 : ∀ (x2 : Int32) (x3 : Int32) (m_code : Int32) (m_lineLives : Nat → Int32), k25 x2 x3 m_code m_lineLives = some r → J l G (rmD 4 0 0) Y 0 0 25 [(0, .ref (gm G 0)), (2, .int x2), (3, .int x3)] [] (WM G m_code m_people m_grants m_texts m_copies m_taped m_faultPlace m_isFemale m_born m_died m_father m_mother m_fatherGrade m_motherGrade m_grantTo m_grantArms m_grantYear m_copyYear m_copyRow m_tape m_textYear m_ruleMany m_ruleFrom m_codeRow m_stack m_ruleKind m_codes m_at m_read m_token m_sign m_begins m_ends m_bad m_badPlace m_top m_lineLives m_markRow m_quarterMany m_quarters m_isUp m_wasUp ++ fr)) (n : Nat) (v : Int32 × Int32 × Int32 × Int32 × Int32 × (Nat → Int32)) (hf : f_X11_head_45 m_people m_isFemale m_born m_father m_mother k25 n v = some r) : J l G (rmD 4 0 0) Y 0 0 45 [(0, .ref (gm G 0)), (2, .int v.1), (3, .int v.2.1), (4, .int v.2.2.1), (5, .int v.2.2.2.1)] [] (WM G v.2.2.2.2.1 m_people m_grants m_texts m_copies m_taped m_faultPlace m_isFemale m_born m_died m_father m_mother m_fatherGrade m_motherGrade m_grantTo m_grantArms m_grantYear m_copyYear m_copyRow m_tape m_textYear m_ruleMany m_ruleFrom m_codeRow m_stack m_ruleKind m_codes m_at m_read m_token m_sign m_begins m_ends m_bad m_badPlace m_top v.2.2.2.2.2 m_markRow m_quarterMany m_quarters m_isUp m_wasUp ++ fr) :=
  lp_ind (P := fun v : Int32 × Int32 × Int32 × Int32 × Int32 × (Nat → Int32) => J l G (rmD 4 0 0) Y 0 0 45 [(0, .ref (gm G 0)), (2, .int v.1), (3, .int v.2.1), (4, .int v.2.2.1), (5, .int v.2.2.2.1)] [] (WM G v.2.2.2.2.1 m_people m_grants m_texts m_copies m_taped m_faultPlace m_isFemale m_born m_died m_father m_mother m_fatherGrade m_motherGrade m_grantTo m_grantArms m_grantYear m_copyYear m_copyRow m_tape m_textYear m_ruleMany m_ruleFrom m_codeRow m_stack m_ruleKind m_codes m_at m_read m_token m_sign m_begins m_ends m_bad m_badPlace m_top v.2.2.2.2.2 m_markRow m_quarterMany m_quarters m_isUp m_wasUp ++ fr)) (fun k hk v hf => t_X11_head_45 hX hQ  hk25 (fun x2 x3 x4 x5 m_code m_lineLives h => hk (x2, x3, x4, x5, m_code, m_lineLives) h) v.1 v.2.1 v.2.2.1 v.2.2.2.1 hf) n v hf
def g_X11_head_25 (fu : Nat) (m_people : Int32) (m_isFemale : Nat → Int32) (m_born : Nat → Int32) (m_died : Nat → Int32) (m_father : Nat → Int32) (m_mother : Nat → Int32) (m_code : Int32) (m_lineLives : Nat → Int32) (k25 : Int32 → Int32 → Int32 → (Nat → Int32) → Option (Int32 × Int32 × (Nat → Int32))) (x2 : Int32) (x3 : Int32) : Option (Int32 × Int32 × (Nat → Int32)) :=
  if x3 = ((-1)) then g_X11_head_117 m_code m_lineLives x3 else (f_X11_lives m_born m_died x3 x2).bind fun v5 => if v5 = 0 then f_X11_head_45 m_people m_isFemale m_born m_father m_mother k25 fu (x2, x3, (-1), 0, m_code, m_lineLives) else g_X11_head_117 m_code m_lineLives x3
set_option maxRecDepth 100000 in
set_option maxHeartbeats 4000000 in
theorem t_X11_head_25 {fu : Nat} {Y : YT} {r : Int32 × Int32 × (Nat → Int32)} {k25 : Int32 → Int32 → Int32 → (Nat → Int32) → Option (Int32 × Int32 × (Nat → Int32))} (hX : CX l G cX11_head 6 RX11 Y) (hQ : EQi G Y 0 0 .int r.1 (WM G r.2.1 m_people m_grants m_texts m_copies m_taped m_faultPlace m_isFemale m_born m_died m_father m_mother m_fatherGrade m_motherGrade m_grantTo m_grantArms m_grantYear m_copyYear m_copyRow m_tape m_textYear m_ruleMany m_ruleFrom m_codeRow m_stack m_ruleKind m_codes m_at m_read m_token m_sign m_begins m_ends m_bad m_badPlace m_top r.2.2 m_markRow m_quarterMany m_quarters m_isUp m_wasUp ++ fr)) (hk25 : ∀ (x2 : Int32) (x3 : Int32) (m_code : Int32) (m_lineLives : Nat → Int32), k25 x2 x3 m_code m_lineLives = some r → J l G (rmD 4 0 0) Y 0 0 25 [(0, .ref (gm G 0)), (2, .int x2), (3, .int x3)] [] (WM G m_code m_people m_grants m_texts m_copies m_taped m_faultPlace m_isFemale m_born m_died m_father m_mother m_fatherGrade m_motherGrade m_grantTo m_grantArms m_grantYear m_copyYear m_copyRow m_tape m_textYear m_ruleMany m_ruleFrom m_codeRow m_stack m_ruleKind m_codes m_at m_read m_token m_sign m_begins m_ends m_bad m_badPlace m_top m_lineLives m_markRow m_quarterMany m_quarters m_isUp m_wasUp ++ fr)) (x2 : Int32) (x3 : Int32) (hf : g_X11_head_25 fu m_people m_isFemale m_born m_died m_father m_mother m_code m_lineLives k25 x2 x3 = some r) : J l G (rmD 4 0 0) Y 0 0 25 [(0, .ref (gm G 0)), (2, .int x2), (3, .int x3)] [] (WM G m_code m_people m_grants m_texts m_copies m_taped m_faultPlace m_isFemale m_born m_died m_father m_mother m_fatherGrade m_motherGrade m_grantTo m_grantArms m_grantYear m_copyYear m_copyRow m_tape m_textYear m_ruleMany m_ruleFrom m_codeRow m_stack m_ruleKind m_codes m_at m_read m_token m_sign m_begins m_ends m_bad m_badPlace m_top m_lineLives m_markRow m_quarterMany m_quarters m_isUp m_wasUp ++ fr) := by
  unfold g_X11_head_25 at hf
  refine j_iload_n hX dX11_head_25 26 rfl 2 rfl rfl ?_
  refine j_iconst (v := (-1)) hX dX11_head_26 27 rfl (by decide) ?_
  refine j_icmp_eq hX dX11_head_27 30 117 rfl rfl (fun h4 => ?_) (fun h4 => ?_)
  · replace hf := itt h4 hf
    refine j_sub [2] rfl ?_
    exact t_X11_head_117 hX hQ   x3 hf
  · replace hf := itf h4 hf
    refine j_aload_n hX dX11_head_30 31 rfl 0 rfl rfl ?_
    refine j_iload_n hX dX11_head_31 32 rfl 2 rfl rfl ?_
    refine j_iload_n hX dX11_head_32 33 rfl 1 rfl rfl ?_
    obtain ⟨v5, hv5, hf⟩ := ibd hf
    refine z_i (As := [.int x3, .int x2]) (rest := []) (q0 := 0) hX dX11_head_33 36 rfl (t_X11_lives x3 x2 hv5) mc_X11_lives mv_X11_lives ml_X11_131 rfl rfl (Nat.le_of_ble_eq_true rfl) (Nat.le_refl _) (Nat.le_refl _) rfl (Nat.le_of_ble_eq_true rfl) ?_
    refine j_if_ne hX dX11_head_36 39 117 rfl rfl (fun h6 => ?_) (fun h6 => ?_)
    · replace hf := itf h6 hf
      refine j_sub [2] rfl ?_
      exact t_X11_head_117 hX hQ   x3 hf
    · replace hf := itt h6 hf
      refine j_iconst (v := (-1)) hX dX11_head_39 40 rfl (by decide) ?_
      refine j_istore hX dX11_head_40 42 rfl (by decide) (lv' := [(4, .int ((-1))), (0, .ref (gm G 0)), (2, .int x2), (3, .int x3)]) rfl ?_
      refine j_iconst (v := 0) hX dX11_head_42 43 rfl (by decide) ?_
      refine j_istore hX dX11_head_43 45 rfl (by decide) (lv' := [(5, .int 0), (4, .int ((-1))), (0, .ref (gm G 0)), (2, .int x2), (3, .int x3)]) rfl ?_
      refine j_sub [2, 3, 4, 1, 0] rfl ?_
      exact u_X11_head_45 hX hQ  hk25 fu (x2, x3, (-1), 0, m_code, m_lineLives) hf
def f_X11_head_25 (fu : Nat) (m_people : Int32) (m_isFemale : Nat → Int32) (m_born : Nat → Int32) (m_died : Nat → Int32) (m_father : Nat → Int32) (m_mother : Nat → Int32) : Nat → (Int32 × Int32 × Int32 × (Nat → Int32)) → Option (Int32 × Int32 × (Nat → Int32)) :=
  lp (fun k v => g_X11_head_25 fu m_people m_isFemale m_born m_died m_father m_mother v.2.2.1 v.2.2.2 (fun x2 x3 m_code m_lineLives => k (x2, x3, m_code, m_lineLives)) v.1 v.2.1)
set_option maxRecDepth 100000 in
set_option maxHeartbeats 4000000 in
theorem u_X11_head_25 {fu : Nat} {Y : YT} {r : Int32 × Int32 × (Nat → Int32)}  (hX : CX l G cX11_head 6 RX11 Y) (hQ : EQi G Y 0 0 .int r.1 (WM G r.2.1 m_people m_grants m_texts m_copies m_taped m_faultPlace m_isFemale m_born m_died m_father m_mother m_fatherGrade m_motherGrade m_grantTo m_grantArms m_grantYear m_copyYear m_copyRow m_tape m_textYear m_ruleMany m_ruleFrom m_codeRow m_stack m_ruleKind m_codes m_at m_read m_token m_sign m_begins m_ends m_bad m_badPlace m_top r.2.2 m_markRow m_quarterMany m_quarters m_isUp m_wasUp ++ fr))  (n : Nat) (v : Int32 × Int32 × Int32 × (Nat → Int32)) (hf : f_X11_head_25 fu m_people m_isFemale m_born m_died m_father m_mother n v = some r) : J l G (rmD 4 0 0) Y 0 0 25 [(0, .ref (gm G 0)), (2, .int v.1), (3, .int v.2.1)] [] (WM G v.2.2.1 m_people m_grants m_texts m_copies m_taped m_faultPlace m_isFemale m_born m_died m_father m_mother m_fatherGrade m_motherGrade m_grantTo m_grantArms m_grantYear m_copyYear m_copyRow m_tape m_textYear m_ruleMany m_ruleFrom m_codeRow m_stack m_ruleKind m_codes m_at m_read m_token m_sign m_begins m_ends m_bad m_badPlace m_top v.2.2.2 m_markRow m_quarterMany m_quarters m_isUp m_wasUp ++ fr) :=
  lp_ind (P := fun v : Int32 × Int32 × Int32 × (Nat → Int32) => J l G (rmD 4 0 0) Y 0 0 25 [(0, .ref (gm G 0)), (2, .int v.1), (3, .int v.2.1)] [] (WM G v.2.2.1 m_people m_grants m_texts m_copies m_taped m_faultPlace m_isFemale m_born m_died m_father m_mother m_fatherGrade m_motherGrade m_grantTo m_grantArms m_grantYear m_copyYear m_copyRow m_tape m_textYear m_ruleMany m_ruleFrom m_codeRow m_stack m_ruleKind m_codes m_at m_read m_token m_sign m_begins m_ends m_bad m_badPlace m_top v.2.2.2 m_markRow m_quarterMany m_quarters m_isUp m_wasUp ++ fr)) (fun k hk v hf => t_X11_head_25 hX hQ   (fun x2 x3 m_code m_lineLives h => hk (x2, x3, m_code, m_lineLives) h) v.1 v.2.1 hf) n v hf
def f_X11_head (fu : Nat) (m_people : Int32) (m_isFemale : Nat → Int32) (m_born : Nat → Int32) (m_died : Nat → Int32) (m_father : Nat → Int32) (m_mother : Nat → Int32) (m_lineLives : Nat → Int32) (x1 : Int32) (x2 : Int32) : Option (Int32 × Int32 × (Nat → Int32)) :=
  (f_X11_is m_people x1).bind fun v1 => if v1 = 0 then (f_X11_fail ).bind fun v17 => some (v17.1, v17.2, m_lineLives) else (f_X11_lines fu m_people m_isFemale m_born m_died m_father m_lineLives x2).bind fun v3 => f_X11_head_25 fu m_people m_isFemale m_born m_died m_father m_mother fu (x2, x1, 0, v3)
set_option maxRecDepth 100000 in
set_option maxHeartbeats 4000000 in
theorem t_X11_head {fu : Nat}  (x1 : Int32) (x2 : Int32) {r : Int32 × Int32 × (Nat → Int32)} (hf : f_X11_head fu m_people m_isFemale m_born m_died m_father m_mother m_lineLives x1 x2 = some r) : Ci l G 4 0 0 yX11_head cX11_head 6 .int [.ref (gm G 0), .int x1, .int x2] (WM G m_code m_people m_grants m_texts m_copies m_taped m_faultPlace m_isFemale m_born m_died m_father m_mother m_fatherGrade m_motherGrade m_grantTo m_grantArms m_grantYear m_copyYear m_copyRow m_tape m_textYear m_ruleMany m_ruleFrom m_codeRow m_stack m_ruleKind m_codes m_at m_read m_token m_sign m_begins m_ends m_bad m_badPlace m_top m_lineLives m_markRow m_quarterMany m_quarters m_isUp m_wasUp ++ fr) r.1 (WM G r.2.1 m_people m_grants m_texts m_copies m_taped m_faultPlace m_isFemale m_born m_died m_father m_mother m_fatherGrade m_motherGrade m_grantTo m_grantArms m_grantYear m_copyYear m_copyRow m_tape m_textYear m_ruleMany m_ruleFrom m_codeRow m_stack m_ruleKind m_codes m_at m_read m_token m_sign m_begins m_ends m_bad m_badPlace m_top r.2.2 m_markRow m_quarterMany m_quarters m_isUp m_wasUp ++ fr) := by
  refine Ci.of (by decide) (Nat.le_of_ble_eq_true rfl) (fun Y hX hQ => ?_)
  refine j_lv (lv' := [(0, .ref (gm G 0)), (1, .int x1), (2, .int x2)]) rfl ?_
  unfold f_X11_head at hf
  refine j_aload_n hX dX11_head_0 1 rfl 0 rfl rfl ?_
  refine j_iconst (v := 0) hX dX11_head_1 2 rfl (by decide) ?_
  refine j_put hX dX11_head_2 5 rfl fg_X11_110 ft_X11_1 0 rfl rfl rfl (Nat.le_of_ble_eq_true rfl) (ws' := (WM G 0 m_people m_grants m_texts m_copies m_taped m_faultPlace m_isFemale m_born m_died m_father m_mother m_fatherGrade m_motherGrade m_grantTo m_grantArms m_grantYear m_copyYear m_copyRow m_tape m_textYear m_ruleMany m_ruleFrom m_codeRow m_stack m_ruleKind m_codes m_at m_read m_token m_sign m_begins m_ends m_bad m_badPlace m_top m_lineLives m_markRow m_quarterMany m_quarters m_isUp m_wasUp ++ fr)) rfl ?_
  refine j_aload_n hX dX11_head_5 6 rfl 0 rfl rfl ?_
  refine j_iload_n hX dX11_head_6 7 rfl 1 rfl rfl ?_
  obtain ⟨v1, hv1, hf⟩ := ibd hf
  refine z_i (As := [.int x1]) (rest := []) (q0 := 0) hX dX11_head_7 10 rfl (t_X11_is x1 hv1) mc_X11_is mv_X11_is ml_X11_124 rfl rfl (Nat.le_of_ble_eq_true rfl) (Nat.le_refl _) (Nat.le_refl _) rfl (Nat.le_of_ble_eq_true rfl) ?_
  refine j_if_ne hX dX11_head_10 13 18 rfl rfl (fun h2 => ?_) (fun h2 => ?_)
  · replace hf := itf h2 hf
    refine j_aload_n hX dX11_head_18 19 rfl 0 rfl rfl ?_
    refine j_iload_n hX dX11_head_19 20 rfl 2 rfl rfl ?_
    obtain ⟨v3, hv3, hf⟩ := ibd hf
    refine z_v (As := [.int x2]) (rest := []) (q0 := 0) hX dX11_head_20 23 rfl (t_X11_lines x2 hv3) mc_X11_lines mv_X11_lines ml_X11_156 rfl rfl (Nat.le_of_ble_eq_true rfl) (Nat.le_refl _) (Nat.le_refl _) rfl (Nat.le_of_ble_eq_true rfl) ?_
    refine j_iload_n hX dX11_head_23 24 rfl 1 rfl rfl ?_
    refine j_istore_n hX dX11_head_24 25 rfl rfl (by decide) (lv' := [(3, .int x1), (0, .ref (gm G 0)), (1, .int x1), (2, .int x2)]) rfl ?_
    refine j_sub [1, 3, 0] rfl ?_
    exact u_X11_head_25 hX hQ   fu (x2, x1, 0, v3) hf
  · replace hf := itt h2 hf
    refine j_aload_n hX dX11_head_13 14 rfl 0 rfl rfl ?_
    obtain ⟨v17, hv17, hf⟩ := ibd hf
    refine z_i (As := []) (rest := []) (q0 := 0) hX dX11_head_14 17 rfl (t_X11_fail  hv17) mc_X11_fail mv_X11_fail ml_X11_127 rfl rfl (Nat.le_of_ble_eq_true rfl) (Nat.le_refl _) (Nat.le_refl _) rfl (Nat.le_of_ble_eq_true rfl) ?_
    replace hf := Option.some.inj hf
    subst hf
    exact j_iret hX hQ dX11_head_17
def g_X11_put_56 (m_quarterMany : Nat → Int32) (m_quarters : Nat → Int32) (k20 : Int32 → Int32 → Int32 → Int32 → (Nat → Int32) → (Nat → Int32) → Option ((Nat → Int32) × (Nat → Int32))) (x1 : Int32) (x2 : Int32) (x4 : Int32) (s0 : Int32) : Option ((Nat → Int32) × (Nat → Int32)) :=
  k20 x1 x2 s0 (x4 + 1) m_quarterMany m_quarters
set_option maxRecDepth 100000 in
set_option maxHeartbeats 4000000 in
theorem t_X11_put_56 {Y : YT} {r : (Nat → Int32) × (Nat → Int32)} {k20 : Int32 → Int32 → Int32 → Int32 → (Nat → Int32) → (Nat → Int32) → Option ((Nat → Int32) × (Nat → Int32))} (hX : CX l G cX11_put 5 RX11 Y) (hQ : EQv G Y 0 0 (WM G m_code m_people m_grants m_texts m_copies m_taped m_faultPlace m_isFemale m_born m_died m_father m_mother m_fatherGrade m_motherGrade m_grantTo m_grantArms m_grantYear m_copyYear m_copyRow m_tape m_textYear m_ruleMany m_ruleFrom m_codeRow m_stack m_ruleKind m_codes m_at m_read m_token m_sign m_begins m_ends m_bad m_badPlace m_top m_lineLives m_markRow r.1 r.2 m_isUp m_wasUp ++ fr)) (hk20 : ∀ (x1 : Int32) (x2 : Int32) (x3 : Int32) (x4 : Int32) (m_quarterMany : Nat → Int32) (m_quarters : Nat → Int32), k20 x1 x2 x3 x4 m_quarterMany m_quarters = some r → J l G (rmD 1 0 0) Y 0 0 20 [(0, .ref (gm G 0)), (1, .int x1), (2, .int x2), (3, .int x3), (4, .int x4)] [] (WM G m_code m_people m_grants m_texts m_copies m_taped m_faultPlace m_isFemale m_born m_died m_father m_mother m_fatherGrade m_motherGrade m_grantTo m_grantArms m_grantYear m_copyYear m_copyRow m_tape m_textYear m_ruleMany m_ruleFrom m_codeRow m_stack m_ruleKind m_codes m_at m_read m_token m_sign m_begins m_ends m_bad m_badPlace m_top m_lineLives m_markRow m_quarterMany m_quarters m_isUp m_wasUp ++ fr)) (x1 : Int32) (x2 : Int32) (x4 : Int32) (s0 : Int32) (hf : g_X11_put_56 m_quarterMany m_quarters k20 x1 x2 x4 s0 = some r) : J l G (rmD 1 0 0) Y 0 0 56 [(0, .ref (gm G 0)), (1, .int x1), (2, .int x2), (4, .int x4)] [.int s0] (WM G m_code m_people m_grants m_texts m_copies m_taped m_faultPlace m_isFemale m_born m_died m_father m_mother m_fatherGrade m_motherGrade m_grantTo m_grantArms m_grantYear m_copyYear m_copyRow m_tape m_textYear m_ruleMany m_ruleFrom m_codeRow m_stack m_ruleKind m_codes m_at m_read m_token m_sign m_begins m_ends m_bad m_badPlace m_top m_lineLives m_markRow m_quarterMany m_quarters m_isUp m_wasUp ++ fr) := by
  unfold g_X11_put_56 at hf
  refine j_istore_n hX dX11_put_56 57 rfl rfl (by decide) (lv' := [(3, .int s0), (0, .ref (gm G 0)), (1, .int x1), (2, .int x2), (4, .int x4)]) rfl ?_
  refine j_iinc (v := x4 + 1) hX dX11_put_57 60 rfl 4 rfl rfl (by decide) (lv' := [(4, .int (x4 + 1)), (3, .int s0), (0, .ref (gm G 0)), (1, .int x1), (2, .int x2)]) rfl ?_
  refine j_goto hX dX11_put_60 20 rfl ?_
  refine j_sub [2, 3, 4, 1, 0] rfl ?_
  exact hk20 x1 x2 s0 (x4 + 1) m_quarterMany m_quarters hf
def g_X11_put_51 (m_quarterMany : Nat → Int32) (m_quarters : Nat → Int32) (k20 : Int32 → Int32 → Int32 → Int32 → (Nat → Int32) → (Nat → Int32) → Option ((Nat → Int32) × (Nat → Int32))) (x1 : Int32) (x2 : Int32) (x4 : Int32) : Option ((Nat → Int32) × (Nat → Int32)) :=
  g_X11_put_56 m_quarterMany m_quarters k20 x1 x2 x4 1
set_option maxRecDepth 100000 in
set_option maxHeartbeats 4000000 in
theorem t_X11_put_51 {Y : YT} {r : (Nat → Int32) × (Nat → Int32)} {k20 : Int32 → Int32 → Int32 → Int32 → (Nat → Int32) → (Nat → Int32) → Option ((Nat → Int32) × (Nat → Int32))} (hX : CX l G cX11_put 5 RX11 Y) (hQ : EQv G Y 0 0 (WM G m_code m_people m_grants m_texts m_copies m_taped m_faultPlace m_isFemale m_born m_died m_father m_mother m_fatherGrade m_motherGrade m_grantTo m_grantArms m_grantYear m_copyYear m_copyRow m_tape m_textYear m_ruleMany m_ruleFrom m_codeRow m_stack m_ruleKind m_codes m_at m_read m_token m_sign m_begins m_ends m_bad m_badPlace m_top m_lineLives m_markRow r.1 r.2 m_isUp m_wasUp ++ fr)) (hk20 : ∀ (x1 : Int32) (x2 : Int32) (x3 : Int32) (x4 : Int32) (m_quarterMany : Nat → Int32) (m_quarters : Nat → Int32), k20 x1 x2 x3 x4 m_quarterMany m_quarters = some r → J l G (rmD 1 0 0) Y 0 0 20 [(0, .ref (gm G 0)), (1, .int x1), (2, .int x2), (3, .int x3), (4, .int x4)] [] (WM G m_code m_people m_grants m_texts m_copies m_taped m_faultPlace m_isFemale m_born m_died m_father m_mother m_fatherGrade m_motherGrade m_grantTo m_grantArms m_grantYear m_copyYear m_copyRow m_tape m_textYear m_ruleMany m_ruleFrom m_codeRow m_stack m_ruleKind m_codes m_at m_read m_token m_sign m_begins m_ends m_bad m_badPlace m_top m_lineLives m_markRow m_quarterMany m_quarters m_isUp m_wasUp ++ fr)) (x1 : Int32) (x2 : Int32) (x4 : Int32) (hf : g_X11_put_51 m_quarterMany m_quarters k20 x1 x2 x4 = some r) : J l G (rmD 1 0 0) Y 0 0 51 [(0, .ref (gm G 0)), (1, .int x1), (2, .int x2), (4, .int x4)] [] (WM G m_code m_people m_grants m_texts m_copies m_taped m_faultPlace m_isFemale m_born m_died m_father m_mother m_fatherGrade m_motherGrade m_grantTo m_grantArms m_grantYear m_copyYear m_copyRow m_tape m_textYear m_ruleMany m_ruleFrom m_codeRow m_stack m_ruleKind m_codes m_at m_read m_token m_sign m_begins m_ends m_bad m_badPlace m_top m_lineLives m_markRow m_quarterMany m_quarters m_isUp m_wasUp ++ fr) := by
  unfold g_X11_put_51 at hf
  refine j_iconst (v := 1) hX dX11_put_51 52 rfl (by decide) ?_
  refine j_goto hX dX11_put_52 56 rfl ?_
  exact t_X11_put_56 hX hQ  hk20 x1 x2 x4 1 hf
def g_X11_put_20 (m_quarterMany : Nat → Int32) (m_quarters : Nat → Int32) (k20 : Int32 → Int32 → Int32 → Int32 → (Nat → Int32) → (Nat → Int32) → Option ((Nat → Int32) × (Nat → Int32))) (x1 : Int32) (x2 : Int32) (x3 : Int32) (x4 : Int32) : Option ((Nat → Int32) × (Nat → Int32)) :=
  if inb x1 60 = true then if (m_quarterMany (Int32.toNatClampNeg x1)) ≤ x4 then if x3 = 0 then if inb x1 60 = true then if inb ((12 * x1) + (m_quarterMany (Int32.toNatClampNeg x1))) 720 = true then if inb x1 60 = true then if inb x1 60 = true then some (upd m_quarterMany (Int32.toNatClampNeg x1) ((m_quarterMany (Int32.toNatClampNeg x1)) + 1), upd m_quarters (Int32.toNatClampNeg ((12 * x1) + (m_quarterMany (Int32.toNatClampNeg x1)))) x2) else none else none else none else none else some (m_quarterMany, m_quarters) else if x3 = 0 then if inb ((12 * x1) + x4) 720 = true then if (m_quarters (Int32.toNatClampNeg ((12 * x1) + x4))) = x2 then g_X11_put_51 m_quarterMany m_quarters k20 x1 x2 x4 else g_X11_put_56 m_quarterMany m_quarters k20 x1 x2 x4 0 else none else g_X11_put_51 m_quarterMany m_quarters k20 x1 x2 x4 else none
set_option maxRecDepth 100000 in
set_option maxHeartbeats 4000000 in
theorem t_X11_put_20 {Y : YT} {r : (Nat → Int32) × (Nat → Int32)} {k20 : Int32 → Int32 → Int32 → Int32 → (Nat → Int32) → (Nat → Int32) → Option ((Nat → Int32) × (Nat → Int32))} (hX : CX l G cX11_put 5 RX11 Y) (hQ : EQv G Y 0 0 (WM G m_code m_people m_grants m_texts m_copies m_taped m_faultPlace m_isFemale m_born m_died m_father m_mother m_fatherGrade m_motherGrade m_grantTo m_grantArms m_grantYear m_copyYear m_copyRow m_tape m_textYear m_ruleMany m_ruleFrom m_codeRow m_stack m_ruleKind m_codes m_at m_read m_token m_sign m_begins m_ends m_bad m_badPlace m_top m_lineLives m_markRow r.1 r.2 m_isUp m_wasUp ++ fr)) (hk20 : ∀ (x1 : Int32) (x2 : Int32) (x3 : Int32) (x4 : Int32) (m_quarterMany : Nat → Int32) (m_quarters : Nat → Int32), k20 x1 x2 x3 x4 m_quarterMany m_quarters = some r → J l G (rmD 1 0 0) Y 0 0 20 [(0, .ref (gm G 0)), (1, .int x1), (2, .int x2), (3, .int x3), (4, .int x4)] [] (WM G m_code m_people m_grants m_texts m_copies m_taped m_faultPlace m_isFemale m_born m_died m_father m_mother m_fatherGrade m_motherGrade m_grantTo m_grantArms m_grantYear m_copyYear m_copyRow m_tape m_textYear m_ruleMany m_ruleFrom m_codeRow m_stack m_ruleKind m_codes m_at m_read m_token m_sign m_begins m_ends m_bad m_badPlace m_top m_lineLives m_markRow m_quarterMany m_quarters m_isUp m_wasUp ++ fr)) (x1 : Int32) (x2 : Int32) (x3 : Int32) (x4 : Int32) (hf : g_X11_put_20 m_quarterMany m_quarters k20 x1 x2 x3 x4 = some r) : J l G (rmD 1 0 0) Y 0 0 20 [(0, .ref (gm G 0)), (1, .int x1), (2, .int x2), (3, .int x3), (4, .int x4)] [] (WM G m_code m_people m_grants m_texts m_copies m_taped m_faultPlace m_isFemale m_born m_died m_father m_mother m_fatherGrade m_motherGrade m_grantTo m_grantArms m_grantYear m_copyYear m_copyRow m_tape m_textYear m_ruleMany m_ruleFrom m_codeRow m_stack m_ruleKind m_codes m_at m_read m_token m_sign m_begins m_ends m_bad m_badPlace m_top m_lineLives m_markRow m_quarterMany m_quarters m_isUp m_wasUp ++ fr) := by
  unfold g_X11_put_20 at hf
  refine j_iload hX dX11_put_20 22 rfl 4 rfl ?_
  refine j_aload_n hX dX11_put_22 23 rfl 0 rfl rfl ?_
  refine j_get hX dX11_put_23 26 rfl fg_X11_99 0 rfl rfl ?_
  refine j_iload_n hX dX11_put_26 27 rfl 1 rfl rfl ?_
  obtain ⟨hb3, hf⟩ := ign hf
  refine j_iald hX dX11_put_27 28 rfl 23 rfl hb3 ?_
  refine j_icmp_ge hX dX11_put_28 31 63 rfl rfl (fun h4 => ?_) (fun h4 => ?_)
  · replace hf := itt h4 hf
    refine j_iload_n hX dX11_put_63 64 rfl 3 rfl rfl ?_
    refine j_if_eq hX dX11_put_64 67 68 rfl rfl (fun h5 => ?_) (fun h5 => ?_)
    · replace hf := itt h5 hf
      refine j_aload_n hX dX11_put_68 69 rfl 0 rfl rfl ?_
      refine j_get hX dX11_put_69 72 rfl fg_X11_102 0 rfl rfl ?_
      refine j_bipush (v := 12) hX dX11_put_72 74 rfl (by decide) ?_
      refine j_iload_n hX dX11_put_74 75 rfl 1 rfl rfl ?_
      refine j_imul hX dX11_put_75 76 rfl ?_
      refine j_aload_n hX dX11_put_76 77 rfl 0 rfl rfl ?_
      refine j_get hX dX11_put_77 80 rfl fg_X11_99 0 rfl rfl ?_
      refine j_iload_n hX dX11_put_80 81 rfl 1 rfl rfl ?_
      obtain ⟨hb6, hf⟩ := ign hf
      refine j_iald hX dX11_put_81 82 rfl 23 rfl hb6 ?_
      refine j_iadd hX dX11_put_82 83 rfl ?_
      refine j_iload_n hX dX11_put_83 84 rfl 2 rfl rfl ?_
      obtain ⟨hb7, hf⟩ := ign hf
      refine j_iast hX dX11_put_84 85 rfl 24 rfl hb7 (ws' := (WM G m_code m_people m_grants m_texts m_copies m_taped m_faultPlace m_isFemale m_born m_died m_father m_mother m_fatherGrade m_motherGrade m_grantTo m_grantArms m_grantYear m_copyYear m_copyRow m_tape m_textYear m_ruleMany m_ruleFrom m_codeRow m_stack m_ruleKind m_codes m_at m_read m_token m_sign m_begins m_ends m_bad m_badPlace m_top m_lineLives m_markRow m_quarterMany (upd m_quarters (Int32.toNatClampNeg ((12 * x1) + (m_quarterMany (Int32.toNatClampNeg x1)))) x2) m_isUp m_wasUp ++ fr)) rfl ?_
      refine j_aload_n hX dX11_put_85 86 rfl 0 rfl rfl ?_
      refine j_get hX dX11_put_86 89 rfl fg_X11_99 0 rfl rfl ?_
      refine j_iload_n hX dX11_put_89 90 rfl 1 rfl rfl ?_
      refine j_dup2 hX dX11_put_90 91 rfl rfl rfl ?_
      obtain ⟨hb8, hf⟩ := ign hf
      refine j_iald hX dX11_put_91 92 rfl 23 rfl hb8 ?_
      refine j_iconst (v := 1) hX dX11_put_92 93 rfl (by decide) ?_
      refine j_iadd hX dX11_put_93 94 rfl ?_
      obtain ⟨hb9, hf⟩ := ign hf
      refine j_iast hX dX11_put_94 95 rfl 23 rfl hb9 (ws' := (WM G m_code m_people m_grants m_texts m_copies m_taped m_faultPlace m_isFemale m_born m_died m_father m_mother m_fatherGrade m_motherGrade m_grantTo m_grantArms m_grantYear m_copyYear m_copyRow m_tape m_textYear m_ruleMany m_ruleFrom m_codeRow m_stack m_ruleKind m_codes m_at m_read m_token m_sign m_begins m_ends m_bad m_badPlace m_top m_lineLives m_markRow (upd m_quarterMany (Int32.toNatClampNeg x1) ((m_quarterMany (Int32.toNatClampNeg x1)) + 1)) (upd m_quarters (Int32.toNatClampNeg ((12 * x1) + (m_quarterMany (Int32.toNatClampNeg x1)))) x2) m_isUp m_wasUp ++ fr)) rfl ?_
      replace hf := Option.some.inj hf
      subst hf
      exact j_vret hX hQ dX11_put_95
    · replace hf := itf h5 hf
      replace hf := Option.some.inj hf
      subst hf
      exact j_vret hX hQ dX11_put_67
  · replace hf := itf h4 hf
    refine j_iload_n hX dX11_put_31 32 rfl 3 rfl rfl ?_
    refine j_if_ne hX dX11_put_32 35 51 rfl rfl (fun h10 => ?_) (fun h10 => ?_)
    · replace hf := itf h10 hf
      refine j_sub [0, 1, 2, 4] rfl ?_
      exact t_X11_put_51 hX hQ  hk20 x1 x2 x4 hf
    · replace hf := itt h10 hf
      refine j_aload_n hX dX11_put_35 36 rfl 0 rfl rfl ?_
      refine j_get hX dX11_put_36 39 rfl fg_X11_102 0 rfl rfl ?_
      refine j_bipush (v := 12) hX dX11_put_39 41 rfl (by decide) ?_
      refine j_iload_n hX dX11_put_41 42 rfl 1 rfl rfl ?_
      refine j_imul hX dX11_put_42 43 rfl ?_
      refine j_iload hX dX11_put_43 45 rfl 4 rfl ?_
      refine j_iadd hX dX11_put_45 46 rfl ?_
      obtain ⟨hb11, hf⟩ := ign hf
      refine j_iald hX dX11_put_46 47 rfl 24 rfl hb11 ?_
      refine j_iload_n hX dX11_put_47 48 rfl 2 rfl rfl ?_
      refine j_icmp_ne hX dX11_put_48 51 55 rfl rfl (fun h12 => ?_) (fun h12 => ?_)
      · replace hf := itf h12 hf
        refine j_iconst (v := 0) hX dX11_put_55 56 rfl (by decide) ?_
        refine j_sub [0, 1, 2, 4] rfl ?_
        exact t_X11_put_56 hX hQ  hk20 x1 x2 x4 0 hf
      · replace hf := itt h12 hf
        refine j_sub [0, 1, 2, 4] rfl ?_
        exact t_X11_put_51 hX hQ  hk20 x1 x2 x4 hf
def f_X11_put_20  : Nat → (Int32 × Int32 × Int32 × Int32 × (Nat → Int32) × (Nat → Int32)) → Option ((Nat → Int32) × (Nat → Int32)) :=
  lp (fun k v => g_X11_put_20 v.2.2.2.2.1 v.2.2.2.2.2 (fun x1 x2 x3 x4 m_quarterMany m_quarters => k (x1, x2, x3, x4, m_quarterMany, m_quarters)) v.1 v.2.1 v.2.2.1 v.2.2.2.1)
set_option maxRecDepth 100000 in
set_option maxHeartbeats 4000000 in
theorem u_X11_put_20 {Y : YT} {r : (Nat → Int32) × (Nat → Int32)}  (hX : CX l G cX11_put 5 RX11 Y) (hQ : EQv G Y 0 0 (WM G m_code m_people m_grants m_texts m_copies m_taped m_faultPlace m_isFemale m_born m_died m_father m_mother m_fatherGrade m_motherGrade m_grantTo m_grantArms m_grantYear m_copyYear m_copyRow m_tape m_textYear m_ruleMany m_ruleFrom m_codeRow m_stack m_ruleKind m_codes m_at m_read m_token m_sign m_begins m_ends m_bad m_badPlace m_top m_lineLives m_markRow r.1 r.2 m_isUp m_wasUp ++ fr))  (n : Nat) (v : Int32 × Int32 × Int32 × Int32 × (Nat → Int32) × (Nat → Int32)) (hf : f_X11_put_20  n v = some r) : J l G (rmD 1 0 0) Y 0 0 20 [(0, .ref (gm G 0)), (1, .int v.1), (2, .int v.2.1), (3, .int v.2.2.1), (4, .int v.2.2.2.1)] [] (WM G m_code m_people m_grants m_texts m_copies m_taped m_faultPlace m_isFemale m_born m_died m_father m_mother m_fatherGrade m_motherGrade m_grantTo m_grantArms m_grantYear m_copyYear m_copyRow m_tape m_textYear m_ruleMany m_ruleFrom m_codeRow m_stack m_ruleKind m_codes m_at m_read m_token m_sign m_begins m_ends m_bad m_badPlace m_top m_lineLives m_markRow v.2.2.2.2.1 v.2.2.2.2.2 m_isUp m_wasUp ++ fr) :=
  lp_ind (P := fun v : Int32 × Int32 × Int32 × Int32 × (Nat → Int32) × (Nat → Int32) => J l G (rmD 1 0 0) Y 0 0 20 [(0, .ref (gm G 0)), (1, .int v.1), (2, .int v.2.1), (3, .int v.2.2.1), (4, .int v.2.2.2.1)] [] (WM G m_code m_people m_grants m_texts m_copies m_taped m_faultPlace m_isFemale m_born m_died m_father m_mother m_fatherGrade m_motherGrade m_grantTo m_grantArms m_grantYear m_copyYear m_copyRow m_tape m_textYear m_ruleMany m_ruleFrom m_codeRow m_stack m_ruleKind m_codes m_at m_read m_token m_sign m_begins m_ends m_bad m_badPlace m_top m_lineLives m_markRow v.2.2.2.2.1 v.2.2.2.2.2 m_isUp m_wasUp ++ fr)) (fun k hk v hf => t_X11_put_20 hX hQ   (fun x1 x2 x3 x4 m_quarterMany m_quarters h => hk (x1, x2, x3, x4, m_quarterMany, m_quarters) h) v.1 v.2.1 v.2.2.1 v.2.2.2.1 hf) n v hf
def g_X11_put_16 (fu : Nat) (m_quarterMany : Nat → Int32) (m_quarters : Nat → Int32) (x1 : Int32) (x2 : Int32) (s0 : Int32) : Option ((Nat → Int32) × (Nat → Int32)) :=
  f_X11_put_20  fu (x1, x2, s0, 0, m_quarterMany, m_quarters)
set_option maxRecDepth 100000 in
set_option maxHeartbeats 4000000 in
theorem t_X11_put_16 {fu : Nat} {Y : YT} {r : (Nat → Int32) × (Nat → Int32)}  (hX : CX l G cX11_put 5 RX11 Y) (hQ : EQv G Y 0 0 (WM G m_code m_people m_grants m_texts m_copies m_taped m_faultPlace m_isFemale m_born m_died m_father m_mother m_fatherGrade m_motherGrade m_grantTo m_grantArms m_grantYear m_copyYear m_copyRow m_tape m_textYear m_ruleMany m_ruleFrom m_codeRow m_stack m_ruleKind m_codes m_at m_read m_token m_sign m_begins m_ends m_bad m_badPlace m_top m_lineLives m_markRow r.1 r.2 m_isUp m_wasUp ++ fr))  (x1 : Int32) (x2 : Int32) (s0 : Int32) (hf : g_X11_put_16 fu m_quarterMany m_quarters x1 x2 s0 = some r) : J l G (rmD 1 0 0) Y 0 0 16 [(0, .ref (gm G 0)), (1, .int x1), (2, .int x2)] [.int s0] (WM G m_code m_people m_grants m_texts m_copies m_taped m_faultPlace m_isFemale m_born m_died m_father m_mother m_fatherGrade m_motherGrade m_grantTo m_grantArms m_grantYear m_copyYear m_copyRow m_tape m_textYear m_ruleMany m_ruleFrom m_codeRow m_stack m_ruleKind m_codes m_at m_read m_token m_sign m_begins m_ends m_bad m_badPlace m_top m_lineLives m_markRow m_quarterMany m_quarters m_isUp m_wasUp ++ fr) := by
  unfold g_X11_put_16 at hf
  refine j_istore_n hX dX11_put_16 17 rfl rfl (by decide) (lv' := [(3, .int s0), (0, .ref (gm G 0)), (1, .int x1), (2, .int x2)]) rfl ?_
  refine j_iconst (v := 0) hX dX11_put_17 18 rfl (by decide) ?_
  refine j_istore hX dX11_put_18 20 rfl (by decide) (lv' := [(4, .int 0), (3, .int s0), (0, .ref (gm G 0)), (1, .int x1), (2, .int x2)]) rfl ?_
  refine j_sub [2, 3, 4, 1, 0] rfl ?_
  exact u_X11_put_20 hX hQ   fu (x1, x2, s0, 0, m_quarterMany, m_quarters) hf
def f_X11_put (fu : Nat) (m_quarterMany : Nat → Int32) (m_quarters : Nat → Int32) (x1 : Int32) (x2 : Int32) : Option ((Nat → Int32) × (Nat → Int32)) :=
  if inb x1 60 = true then if (m_quarterMany (Int32.toNatClampNeg x1)) = 12 then g_X11_put_16 fu m_quarterMany m_quarters x1 x2 1 else g_X11_put_16 fu m_quarterMany m_quarters x1 x2 0 else none
set_option maxRecDepth 100000 in
set_option maxHeartbeats 4000000 in
theorem t_X11_put {fu : Nat}  (x1 : Int32) (x2 : Int32) {r : (Nat → Int32) × (Nat → Int32)} (hf : f_X11_put fu m_quarterMany m_quarters x1 x2 = some r) : Cv l G 1 0 0 yX11_put cX11_put 5 [.ref (gm G 0), .int x1, .int x2] (WM G m_code m_people m_grants m_texts m_copies m_taped m_faultPlace m_isFemale m_born m_died m_father m_mother m_fatherGrade m_motherGrade m_grantTo m_grantArms m_grantYear m_copyYear m_copyRow m_tape m_textYear m_ruleMany m_ruleFrom m_codeRow m_stack m_ruleKind m_codes m_at m_read m_token m_sign m_begins m_ends m_bad m_badPlace m_top m_lineLives m_markRow m_quarterMany m_quarters m_isUp m_wasUp ++ fr) (WM G m_code m_people m_grants m_texts m_copies m_taped m_faultPlace m_isFemale m_born m_died m_father m_mother m_fatherGrade m_motherGrade m_grantTo m_grantArms m_grantYear m_copyYear m_copyRow m_tape m_textYear m_ruleMany m_ruleFrom m_codeRow m_stack m_ruleKind m_codes m_at m_read m_token m_sign m_begins m_ends m_bad m_badPlace m_top m_lineLives m_markRow r.1 r.2 m_isUp m_wasUp ++ fr) := by
  refine Cv.of (by decide) (Nat.le_of_ble_eq_true rfl) (fun Y hX hQ => ?_)
  refine j_lv (lv' := [(0, .ref (gm G 0)), (1, .int x1), (2, .int x2)]) rfl ?_
  unfold f_X11_put at hf
  refine j_aload_n hX dX11_put_0 1 rfl 0 rfl rfl ?_
  refine j_get hX dX11_put_1 4 rfl fg_X11_99 0 rfl rfl ?_
  refine j_iload_n hX dX11_put_4 5 rfl 1 rfl rfl ?_
  obtain ⟨hb1, hf⟩ := ign hf
  refine j_iald hX dX11_put_5 6 rfl 23 rfl hb1 ?_
  refine j_bipush (v := 12) hX dX11_put_6 8 rfl (by decide) ?_
  refine j_icmp_ne hX dX11_put_8 11 15 rfl rfl (fun h2 => ?_) (fun h2 => ?_)
  · replace hf := itf h2 hf
    refine j_iconst (v := 0) hX dX11_put_15 16 rfl (by decide) ?_
    exact t_X11_put_16 hX hQ   x1 x2 0 hf
  · replace hf := itt h2 hf
    refine j_iconst (v := 1) hX dX11_put_11 12 rfl (by decide) ?_
    refine j_goto hX dX11_put_12 16 rfl ?_
    exact t_X11_put_16 hX hQ   x1 x2 1 hf
def g_X11_brings_36 (m_lineLives : Nat → Int32) (s0 : Int32) : Option (Int32 × (Nat → Int32)) :=
  if isB s0 = true then some (s0, m_lineLives) else none
set_option maxRecDepth 100000 in
set_option maxHeartbeats 4000000 in
theorem t_X11_brings_36 {Y : YT} {r : Int32 × (Nat → Int32)}  (hX : CX l G cX11_brings 3 RX11 Y) (hQ : EQi G Y 0 0 .boolean r.1 (WM G m_code m_people m_grants m_texts m_copies m_taped m_faultPlace m_isFemale m_born m_died m_father m_mother m_fatherGrade m_motherGrade m_grantTo m_grantArms m_grantYear m_copyYear m_copyRow m_tape m_textYear m_ruleMany m_ruleFrom m_codeRow m_stack m_ruleKind m_codes m_at m_read m_token m_sign m_begins m_ends m_bad m_badPlace m_top r.2 m_markRow m_quarterMany m_quarters m_isUp m_wasUp ++ fr))  (s0 : Int32) (hf : g_X11_brings_36 m_lineLives s0 = some r) : J l G (rmD 5 0 0) Y 0 0 36 [] [.int s0] (WM G m_code m_people m_grants m_texts m_copies m_taped m_faultPlace m_isFemale m_born m_died m_father m_mother m_fatherGrade m_motherGrade m_grantTo m_grantArms m_grantYear m_copyYear m_copyRow m_tape m_textYear m_ruleMany m_ruleFrom m_codeRow m_stack m_ruleKind m_codes m_at m_read m_token m_sign m_begins m_ends m_bad m_badPlace m_top m_lineLives m_markRow m_quarterMany m_quarters m_isUp m_wasUp ++ fr) := by
  unfold g_X11_brings_36 at hf
  obtain ⟨hb3, hf⟩ := ign hf
  replace hf := Option.some.inj hf
  subst hf
  exact j_zret hX hQ hb3 dX11_brings_36
def g_X11_brings_31 (m_lineLives : Nat → Int32) : Option (Int32 × (Nat → Int32)) :=
  g_X11_brings_36 m_lineLives 1
set_option maxRecDepth 100000 in
set_option maxHeartbeats 4000000 in
theorem t_X11_brings_31 {Y : YT} {r : Int32 × (Nat → Int32)}  (hX : CX l G cX11_brings 3 RX11 Y) (hQ : EQi G Y 0 0 .boolean r.1 (WM G m_code m_people m_grants m_texts m_copies m_taped m_faultPlace m_isFemale m_born m_died m_father m_mother m_fatherGrade m_motherGrade m_grantTo m_grantArms m_grantYear m_copyYear m_copyRow m_tape m_textYear m_ruleMany m_ruleFrom m_codeRow m_stack m_ruleKind m_codes m_at m_read m_token m_sign m_begins m_ends m_bad m_badPlace m_top r.2 m_markRow m_quarterMany m_quarters m_isUp m_wasUp ++ fr))   (hf : g_X11_brings_31 m_lineLives = some r) : J l G (rmD 5 0 0) Y 0 0 31 [] [] (WM G m_code m_people m_grants m_texts m_copies m_taped m_faultPlace m_isFemale m_born m_died m_father m_mother m_fatherGrade m_motherGrade m_grantTo m_grantArms m_grantYear m_copyYear m_copyRow m_tape m_textYear m_ruleMany m_ruleFrom m_codeRow m_stack m_ruleKind m_codes m_at m_read m_token m_sign m_begins m_ends m_bad m_badPlace m_top m_lineLives m_markRow m_quarterMany m_quarters m_isUp m_wasUp ++ fr) := by
  unfold g_X11_brings_31 at hf
  refine j_iconst (v := 1) hX dX11_brings_31 32 rfl (by decide) ?_
  refine j_goto hX dX11_brings_32 36 rfl ?_
  exact t_X11_brings_36 hX hQ   1 hf
def g_X11_brings_35 (m_lineLives : Nat → Int32) : Option (Int32 × (Nat → Int32)) :=
  g_X11_brings_36 m_lineLives 0
set_option maxRecDepth 100000 in
set_option maxHeartbeats 4000000 in
theorem t_X11_brings_35 {Y : YT} {r : Int32 × (Nat → Int32)}  (hX : CX l G cX11_brings 3 RX11 Y) (hQ : EQi G Y 0 0 .boolean r.1 (WM G m_code m_people m_grants m_texts m_copies m_taped m_faultPlace m_isFemale m_born m_died m_father m_mother m_fatherGrade m_motherGrade m_grantTo m_grantArms m_grantYear m_copyYear m_copyRow m_tape m_textYear m_ruleMany m_ruleFrom m_codeRow m_stack m_ruleKind m_codes m_at m_read m_token m_sign m_begins m_ends m_bad m_badPlace m_top r.2 m_markRow m_quarterMany m_quarters m_isUp m_wasUp ++ fr))   (hf : g_X11_brings_35 m_lineLives = some r) : J l G (rmD 5 0 0) Y 0 0 35 [] [] (WM G m_code m_people m_grants m_texts m_copies m_taped m_faultPlace m_isFemale m_born m_died m_father m_mother m_fatherGrade m_motherGrade m_grantTo m_grantArms m_grantYear m_copyYear m_copyRow m_tape m_textYear m_ruleMany m_ruleFrom m_codeRow m_stack m_ruleKind m_codes m_at m_read m_token m_sign m_begins m_ends m_bad m_badPlace m_top m_lineLives m_markRow m_quarterMany m_quarters m_isUp m_wasUp ++ fr) := by
  unfold g_X11_brings_35 at hf
  refine j_iconst (v := 0) hX dX11_brings_35 36 rfl (by decide) ?_
  exact t_X11_brings_36 hX hQ   0 hf
def f_X11_brings (fu : Nat) (m_people : Int32) (m_isFemale : Nat → Int32) (m_born : Nat → Int32) (m_died : Nat → Int32) (m_father : Nat → Int32) (m_lineLives : Nat → Int32) (x1 : Int32) (x2 : Int32) : Option (Int32 × (Nat → Int32)) :=
  (f_X11_isHeiress fu m_people m_isFemale m_born m_died m_father m_lineLives x1 x2).bind fun v1 => if v1.1 = 0 then (f_X11_end m_born m_died x1).bind fun v4 => if x2 < v4 then g_X11_brings_35 v1.2 else (f_X11_end m_born m_died x1).bind fun v6 => (f_X11_isHeiress fu m_people m_isFemale m_born m_died m_father v1.2 x1 v6).bind fun v7 => if v7.1 = 0 then g_X11_brings_35 v7.2 else g_X11_brings_31 v7.2 else g_X11_brings_31 v1.2
set_option maxRecDepth 100000 in
set_option maxHeartbeats 4000000 in
theorem t_X11_brings {fu : Nat}  (x1 : Int32) (x2 : Int32) {r : Int32 × (Nat → Int32)} (hf : f_X11_brings fu m_people m_isFemale m_born m_died m_father m_lineLives x1 x2 = some r) : Ci l G 5 0 0 yX11_brings cX11_brings 3 .boolean [.ref (gm G 0), .int x1, .int x2] (WM G m_code m_people m_grants m_texts m_copies m_taped m_faultPlace m_isFemale m_born m_died m_father m_mother m_fatherGrade m_motherGrade m_grantTo m_grantArms m_grantYear m_copyYear m_copyRow m_tape m_textYear m_ruleMany m_ruleFrom m_codeRow m_stack m_ruleKind m_codes m_at m_read m_token m_sign m_begins m_ends m_bad m_badPlace m_top m_lineLives m_markRow m_quarterMany m_quarters m_isUp m_wasUp ++ fr) r.1 (WM G m_code m_people m_grants m_texts m_copies m_taped m_faultPlace m_isFemale m_born m_died m_father m_mother m_fatherGrade m_motherGrade m_grantTo m_grantArms m_grantYear m_copyYear m_copyRow m_tape m_textYear m_ruleMany m_ruleFrom m_codeRow m_stack m_ruleKind m_codes m_at m_read m_token m_sign m_begins m_ends m_bad m_badPlace m_top r.2 m_markRow m_quarterMany m_quarters m_isUp m_wasUp ++ fr) := by
  refine Ci.of (by decide) (Nat.le_of_ble_eq_true rfl) (fun Y hX hQ => ?_)
  refine j_lv (lv' := [(0, .ref (gm G 0)), (1, .int x1), (2, .int x2)]) rfl ?_
  unfold f_X11_brings at hf
  refine j_aload_n hX dX11_brings_0 1 rfl 0 rfl rfl ?_
  refine j_iload_n hX dX11_brings_1 2 rfl 1 rfl rfl ?_
  refine j_iload_n hX dX11_brings_2 3 rfl 2 rfl rfl ?_
  obtain ⟨v1, hv1, hf⟩ := ibd hf
  refine z_i (As := [.int x1, .int x2]) (rest := []) (q0 := 0) hX dX11_brings_3 6 rfl (t_X11_isHeiress x1 x2 hv1) mc_X11_isHeiress mv_X11_isHeiress ml_X11_175 rfl rfl (Nat.le_of_ble_eq_true rfl) (Nat.le_refl _) (Nat.le_refl _) rfl (Nat.le_of_ble_eq_true rfl) ?_
  refine j_if_ne hX dX11_brings_6 9 31 rfl rfl (fun h2 => ?_) (fun h2 => ?_)
  · replace hf := itf h2 hf
    refine j_sub [] rfl ?_
    exact t_X11_brings_31 hX hQ    hf
  · replace hf := itt h2 hf
    refine j_aload_n hX dX11_brings_9 10 rfl 0 rfl rfl ?_
    refine j_iload_n hX dX11_brings_10 11 rfl 1 rfl rfl ?_
    obtain ⟨v4, hv4, hf⟩ := ibd hf
    refine z_i (As := [.int x1]) (rest := []) (q0 := 0) hX dX11_brings_11 14 rfl (t_X11_end x1 hv4) mc_X11_end mv_X11_end ml_X11_120 rfl rfl (Nat.le_of_ble_eq_true rfl) (Nat.le_refl _) (Nat.le_refl _) rfl (Nat.le_of_ble_eq_true rfl) ?_
    refine j_iload_n hX dX11_brings_14 15 rfl 2 rfl rfl ?_
    refine j_icmp_gt hX dX11_brings_15 18 35 rfl rfl (fun h5 => ?_) (fun h5 => ?_)
    · replace hf := itt h5 hf
      refine j_sub [] rfl ?_
      exact t_X11_brings_35 hX hQ    hf
    · replace hf := itf h5 hf
      refine j_aload_n hX dX11_brings_18 19 rfl 0 rfl rfl ?_
      refine j_iload_n hX dX11_brings_19 20 rfl 1 rfl rfl ?_
      refine j_aload_n hX dX11_brings_20 21 rfl 0 rfl rfl ?_
      refine j_iload_n hX dX11_brings_21 22 rfl 1 rfl rfl ?_
      obtain ⟨v6, hv6, hf⟩ := ibd hf
      refine z_i (As := [.int x1]) (rest := [.int x1, .ref (gm G 0)]) (q0 := 0) hX dX11_brings_22 25 rfl (t_X11_end x1 hv6) mc_X11_end mv_X11_end ml_X11_120 rfl rfl (Nat.le_of_ble_eq_true rfl) (Nat.le_refl _) (Nat.le_refl _) rfl (Nat.le_of_ble_eq_true rfl) ?_
      obtain ⟨v7, hv7, hf⟩ := ibd hf
      refine z_i (As := [.int x1, .int v6]) (rest := []) (q0 := 0) hX dX11_brings_25 28 rfl (t_X11_isHeiress x1 v6 hv7) mc_X11_isHeiress mv_X11_isHeiress ml_X11_175 rfl rfl (Nat.le_of_ble_eq_true rfl) (Nat.le_refl _) (Nat.le_refl _) rfl (Nat.le_of_ble_eq_true rfl) ?_
      refine j_if_eq hX dX11_brings_28 31 35 rfl rfl (fun h8 => ?_) (fun h8 => ?_)
      · replace hf := itt h8 hf
        refine j_sub [] rfl ?_
        exact t_X11_brings_35 hX hQ    hf
      · replace hf := itf h8 hf
        refine j_sub [] rfl ?_
        exact t_X11_brings_31 hX hQ    hf
def g_X11_quartersOf_154 (m_lineLives : Nat → Int32) (m_quarterMany : Nat → Int32) (m_quarters : Nat → Int32) (k2 : Int32 → Int32 → Int32 → (Nat → Int32) → (Nat → Int32) → (Nat → Int32) → Option (Int32 × (Nat → Int32) × (Nat → Int32) × (Nat → Int32))) (x1 : Int32) (x2 : Int32) (x3 : Int32) : Option (Int32 × (Nat → Int32) × (Nat → Int32) × (Nat → Int32)) :=
  k2 x1 x2 (x3 + 1) m_lineLives m_quarterMany m_quarters
set_option maxRecDepth 100000 in
set_option maxHeartbeats 4000000 in
theorem t_X11_quartersOf_154 {Y : YT} {r : Int32 × (Nat → Int32) × (Nat → Int32) × (Nat → Int32)} {k2 : Int32 → Int32 → Int32 → (Nat → Int32) → (Nat → Int32) → (Nat → Int32) → Option (Int32 × (Nat → Int32) × (Nat → Int32) × (Nat → Int32))} (hX : CX l G cX11_quartersOf 8 RX11 Y) (hQ : EQi G Y 0 0 .int r.1 (WM G m_code m_people m_grants m_texts m_copies m_taped m_faultPlace m_isFemale m_born m_died m_father m_mother m_fatherGrade m_motherGrade m_grantTo m_grantArms m_grantYear m_copyYear m_copyRow m_tape m_textYear m_ruleMany m_ruleFrom m_codeRow m_stack m_ruleKind m_codes m_at m_read m_token m_sign m_begins m_ends m_bad m_badPlace m_top r.2.1 m_markRow r.2.2.1 r.2.2.2 m_isUp m_wasUp ++ fr)) (hk2 : ∀ (x1 : Int32) (x2 : Int32) (x3 : Int32) (m_lineLives : Nat → Int32) (m_quarterMany : Nat → Int32) (m_quarters : Nat → Int32), k2 x1 x2 x3 m_lineLives m_quarterMany m_quarters = some r → J l G (rmD 6 0 0) Y 0 0 2 [(0, .ref (gm G 0)), (1, .int x1), (2, .int x2), (3, .int x3)] [] (WM G m_code m_people m_grants m_texts m_copies m_taped m_faultPlace m_isFemale m_born m_died m_father m_mother m_fatherGrade m_motherGrade m_grantTo m_grantArms m_grantYear m_copyYear m_copyRow m_tape m_textYear m_ruleMany m_ruleFrom m_codeRow m_stack m_ruleKind m_codes m_at m_read m_token m_sign m_begins m_ends m_bad m_badPlace m_top m_lineLives m_markRow m_quarterMany m_quarters m_isUp m_wasUp ++ fr)) (x1 : Int32) (x2 : Int32) (x3 : Int32) (hf : g_X11_quartersOf_154 m_lineLives m_quarterMany m_quarters k2 x1 x2 x3 = some r) : J l G (rmD 6 0 0) Y 0 0 154 [(0, .ref (gm G 0)), (1, .int x1), (2, .int x2), (3, .int x3)] [] (WM G m_code m_people m_grants m_texts m_copies m_taped m_faultPlace m_isFemale m_born m_died m_father m_mother m_fatherGrade m_motherGrade m_grantTo m_grantArms m_grantYear m_copyYear m_copyRow m_tape m_textYear m_ruleMany m_ruleFrom m_codeRow m_stack m_ruleKind m_codes m_at m_read m_token m_sign m_begins m_ends m_bad m_badPlace m_top m_lineLives m_markRow m_quarterMany m_quarters m_isUp m_wasUp ++ fr) := by
  unfold g_X11_quartersOf_154 at hf
  refine j_iinc (v := x3 + 1) hX dX11_quartersOf_154 157 rfl 3 rfl rfl (by decide) (lv' := [(3, .int (x3 + 1)), (0, .ref (gm G 0)), (1, .int x1), (2, .int x2)]) rfl ?_
  refine j_goto hX dX11_quartersOf_157 2 rfl ?_
  refine j_sub [1, 2, 3, 0] rfl ?_
  exact hk2 x1 x2 (x3 + 1) m_lineLives m_quarterMany m_quarters hf
def g_X11_quartersOf_118 (fu : Nat) (m_lineLives : Nat → Int32) (m_quarterMany : Nat → Int32) (m_quarters : Nat → Int32) (k2 : Int32 → Int32 → Int32 → (Nat → Int32) → (Nat → Int32) → (Nat → Int32) → Option (Int32 × (Nat → Int32) × (Nat → Int32) × (Nat → Int32))) (k118 : Int32 → Int32 → Int32 → Int32 → Int32 → (Nat → Int32) → (Nat → Int32) → (Nat → Int32) → Option (Int32 × (Nat → Int32) × (Nat → Int32) × (Nat → Int32))) (x1 : Int32) (x2 : Int32) (x3 : Int32) (x6 : Int32) (x7 : Int32) : Option (Int32 × (Nat → Int32) × (Nat → Int32) × (Nat → Int32)) :=
  if inb x6 60 = true then if (m_quarterMany (Int32.toNatClampNeg x6)) ≤ x7 then g_X11_quartersOf_154 m_lineLives m_quarterMany m_quarters k2 x1 x2 x3 else if inb ((12 * x6) + x7) 720 = true then (f_X11_put fu m_quarterMany m_quarters x3 (m_quarters (Int32.toNatClampNeg ((12 * x6) + x7)))).bind fun v15 => k118 x1 x2 x3 x6 (x7 + 1) m_lineLives v15.1 v15.2 else none else none
set_option maxRecDepth 100000 in
set_option maxHeartbeats 4000000 in
theorem t_X11_quartersOf_118 {fu : Nat} {Y : YT} {r : Int32 × (Nat → Int32) × (Nat → Int32) × (Nat → Int32)} {k2 : Int32 → Int32 → Int32 → (Nat → Int32) → (Nat → Int32) → (Nat → Int32) → Option (Int32 × (Nat → Int32) × (Nat → Int32) × (Nat → Int32))} {k118 : Int32 → Int32 → Int32 → Int32 → Int32 → (Nat → Int32) → (Nat → Int32) → (Nat → Int32) → Option (Int32 × (Nat → Int32) × (Nat → Int32) × (Nat → Int32))} (hX : CX l G cX11_quartersOf 8 RX11 Y) (hQ : EQi G Y 0 0 .int r.1 (WM G m_code m_people m_grants m_texts m_copies m_taped m_faultPlace m_isFemale m_born m_died m_father m_mother m_fatherGrade m_motherGrade m_grantTo m_grantArms m_grantYear m_copyYear m_copyRow m_tape m_textYear m_ruleMany m_ruleFrom m_codeRow m_stack m_ruleKind m_codes m_at m_read m_token m_sign m_begins m_ends m_bad m_badPlace m_top r.2.1 m_markRow r.2.2.1 r.2.2.2 m_isUp m_wasUp ++ fr)) (hk2 : ∀ (x1 : Int32) (x2 : Int32) (x3 : Int32) (m_lineLives : Nat → Int32) (m_quarterMany : Nat → Int32) (m_quarters : Nat → Int32), k2 x1 x2 x3 m_lineLives m_quarterMany m_quarters = some r → J l G (rmD 6 0 0) Y 0 0 2 [(0, .ref (gm G 0)), (1, .int x1), (2, .int x2), (3, .int x3)] [] (WM G m_code m_people m_grants m_texts m_copies m_taped m_faultPlace m_isFemale m_born m_died m_father m_mother m_fatherGrade m_motherGrade m_grantTo m_grantArms m_grantYear m_copyYear m_copyRow m_tape m_textYear m_ruleMany m_ruleFrom m_codeRow m_stack m_ruleKind m_codes m_at m_read m_token m_sign m_begins m_ends m_bad m_badPlace m_top m_lineLives m_markRow m_quarterMany m_quarters m_isUp m_wasUp ++ fr)) (hk118 : ∀ (x1 : Int32) (x2 : Int32) (x3 : Int32) (x6 : Int32) (x7 : Int32) (m_lineLives : Nat → Int32) (m_quarterMany : Nat → Int32) (m_quarters : Nat → Int32), k118 x1 x2 x3 x6 x7 m_lineLives m_quarterMany m_quarters = some r → J l G (rmD 6 0 0) Y 0 0 118 [(0, .ref (gm G 0)), (1, .int x1), (2, .int x2), (3, .int x3), (6, .int x6), (7, .int x7)] [] (WM G m_code m_people m_grants m_texts m_copies m_taped m_faultPlace m_isFemale m_born m_died m_father m_mother m_fatherGrade m_motherGrade m_grantTo m_grantArms m_grantYear m_copyYear m_copyRow m_tape m_textYear m_ruleMany m_ruleFrom m_codeRow m_stack m_ruleKind m_codes m_at m_read m_token m_sign m_begins m_ends m_bad m_badPlace m_top m_lineLives m_markRow m_quarterMany m_quarters m_isUp m_wasUp ++ fr)) (x1 : Int32) (x2 : Int32) (x3 : Int32) (x6 : Int32) (x7 : Int32) (hf : g_X11_quartersOf_118 fu m_lineLives m_quarterMany m_quarters k2 k118 x1 x2 x3 x6 x7 = some r) : J l G (rmD 6 0 0) Y 0 0 118 [(0, .ref (gm G 0)), (1, .int x1), (2, .int x2), (3, .int x3), (6, .int x6), (7, .int x7)] [] (WM G m_code m_people m_grants m_texts m_copies m_taped m_faultPlace m_isFemale m_born m_died m_father m_mother m_fatherGrade m_motherGrade m_grantTo m_grantArms m_grantYear m_copyYear m_copyRow m_tape m_textYear m_ruleMany m_ruleFrom m_codeRow m_stack m_ruleKind m_codes m_at m_read m_token m_sign m_begins m_ends m_bad m_badPlace m_top m_lineLives m_markRow m_quarterMany m_quarters m_isUp m_wasUp ++ fr) := by
  unfold g_X11_quartersOf_118 at hf
  refine j_iload hX dX11_quartersOf_118 120 rfl 5 rfl ?_
  refine j_aload_n hX dX11_quartersOf_120 121 rfl 0 rfl rfl ?_
  refine j_get hX dX11_quartersOf_121 124 rfl fg_X11_99 0 rfl rfl ?_
  refine j_iload hX dX11_quartersOf_124 126 rfl 4 rfl ?_
  obtain ⟨hb12, hf⟩ := ign hf
  refine j_iald hX dX11_quartersOf_126 127 rfl 23 rfl hb12 ?_
  refine j_icmp_ge hX dX11_quartersOf_127 130 154 rfl rfl (fun h13 => ?_) (fun h13 => ?_)
  · replace hf := itt h13 hf
    refine j_sub [0, 1, 2, 3] rfl ?_
    exact t_X11_quartersOf_154 hX hQ  hk2 x1 x2 x3 hf
  · replace hf := itf h13 hf
    refine j_aload_n hX dX11_quartersOf_130 131 rfl 0 rfl rfl ?_
    refine j_iload_n hX dX11_quartersOf_131 132 rfl 3 rfl rfl ?_
    refine j_aload_n hX dX11_quartersOf_132 133 rfl 0 rfl rfl ?_
    refine j_get hX dX11_quartersOf_133 136 rfl fg_X11_102 0 rfl rfl ?_
    refine j_bipush (v := 12) hX dX11_quartersOf_136 138 rfl (by decide) ?_
    refine j_iload hX dX11_quartersOf_138 140 rfl 4 rfl ?_
    refine j_imul hX dX11_quartersOf_140 141 rfl ?_
    refine j_iload hX dX11_quartersOf_141 143 rfl 5 rfl ?_
    refine j_iadd hX dX11_quartersOf_143 144 rfl ?_
    obtain ⟨hb14, hf⟩ := ign hf
    refine j_iald hX dX11_quartersOf_144 145 rfl 24 rfl hb14 ?_
    obtain ⟨v15, hv15, hf⟩ := ibd hf
    refine z_v (As := [.int x3, .int (m_quarters (Int32.toNatClampNeg ((12 * x6) + x7)))]) (rest := []) (q0 := 0) hX dX11_quartersOf_145 148 rfl (t_X11_put x3 (m_quarters (Int32.toNatClampNeg ((12 * x6) + x7))) hv15) mc_X11_put mv_X11_put ml_X11_181 rfl rfl (Nat.le_of_ble_eq_true rfl) (Nat.le_refl _) (Nat.le_refl _) rfl (Nat.le_of_ble_eq_true rfl) ?_
    refine j_iinc (v := x7 + 1) hX dX11_quartersOf_148 151 rfl 5 rfl rfl (by decide) (lv' := [(7, .int (x7 + 1)), (0, .ref (gm G 0)), (1, .int x1), (2, .int x2), (3, .int x3), (6, .int x6)]) rfl ?_
    refine j_goto hX dX11_quartersOf_151 118 rfl ?_
    refine j_sub [1, 2, 3, 4, 5, 0] rfl ?_
    exact hk118 x1 x2 x3 x6 (x7 + 1) m_lineLives v15.1 v15.2 hf
def f_X11_quartersOf_118 (fu : Nat) (k2 : Int32 → Int32 → Int32 → (Nat → Int32) → (Nat → Int32) → (Nat → Int32) → Option (Int32 × (Nat → Int32) × (Nat → Int32) × (Nat → Int32))) : Nat → (Int32 × Int32 × Int32 × Int32 × Int32 × (Nat → Int32) × (Nat → Int32) × (Nat → Int32)) → Option (Int32 × (Nat → Int32) × (Nat → Int32) × (Nat → Int32)) :=
  lp (fun k v => g_X11_quartersOf_118 fu v.2.2.2.2.2.1 v.2.2.2.2.2.2.1 v.2.2.2.2.2.2.2 k2 (fun x1 x2 x3 x6 x7 m_lineLives m_quarterMany m_quarters => k (x1, x2, x3, x6, x7, m_lineLives, m_quarterMany, m_quarters)) v.1 v.2.1 v.2.2.1 v.2.2.2.1 v.2.2.2.2.1)
set_option maxRecDepth 100000 in
set_option maxHeartbeats 4000000 in
theorem u_X11_quartersOf_118 {fu : Nat} {Y : YT} {r : Int32 × (Nat → Int32) × (Nat → Int32) × (Nat → Int32)} {k2 : Int32 → Int32 → Int32 → (Nat → Int32) → (Nat → Int32) → (Nat → Int32) → Option (Int32 × (Nat → Int32) × (Nat → Int32) × (Nat → Int32))} (hX : CX l G cX11_quartersOf 8 RX11 Y) (hQ : EQi G Y 0 0 .int r.1 (WM G m_code m_people m_grants m_texts m_copies m_taped m_faultPlace m_isFemale m_born m_died m_father m_mother m_fatherGrade m_motherGrade m_grantTo m_grantArms m_grantYear m_copyYear m_copyRow m_tape m_textYear m_ruleMany m_ruleFrom m_codeRow m_stack m_ruleKind m_codes m_at m_read m_token m_sign m_begins m_ends m_bad m_badPlace m_top r.2.1 m_markRow r.2.2.1 r.2.2.2 m_isUp m_wasUp ++ fr)) (hk2 : ∀ (x1 : Int32) (x2 : Int32) (x3 : Int32) (m_lineLives : Nat → Int32) (m_quarterMany : Nat → Int32) (m_quarters : Nat → Int32), k2 x1 x2 x3 m_lineLives m_quarterMany m_quarters = some r → J l G (rmD 6 0 0) Y 0 0 2 [(0, .ref (gm G 0)), (1, .int x1), (2, .int x2), (3, .int x3)] [] (WM G m_code m_people m_grants m_texts m_copies m_taped m_faultPlace m_isFemale m_born m_died m_father m_mother m_fatherGrade m_motherGrade m_grantTo m_grantArms m_grantYear m_copyYear m_copyRow m_tape m_textYear m_ruleMany m_ruleFrom m_codeRow m_stack m_ruleKind m_codes m_at m_read m_token m_sign m_begins m_ends m_bad m_badPlace m_top m_lineLives m_markRow m_quarterMany m_quarters m_isUp m_wasUp ++ fr)) (n : Nat) (v : Int32 × Int32 × Int32 × Int32 × Int32 × (Nat → Int32) × (Nat → Int32) × (Nat → Int32)) (hf : f_X11_quartersOf_118 fu k2 n v = some r) : J l G (rmD 6 0 0) Y 0 0 118 [(0, .ref (gm G 0)), (1, .int v.1), (2, .int v.2.1), (3, .int v.2.2.1), (6, .int v.2.2.2.1), (7, .int v.2.2.2.2.1)] [] (WM G m_code m_people m_grants m_texts m_copies m_taped m_faultPlace m_isFemale m_born m_died m_father m_mother m_fatherGrade m_motherGrade m_grantTo m_grantArms m_grantYear m_copyYear m_copyRow m_tape m_textYear m_ruleMany m_ruleFrom m_codeRow m_stack m_ruleKind m_codes m_at m_read m_token m_sign m_begins m_ends m_bad m_badPlace m_top v.2.2.2.2.2.1 m_markRow v.2.2.2.2.2.2.1 v.2.2.2.2.2.2.2 m_isUp m_wasUp ++ fr) :=
  lp_ind (P := fun v : Int32 × Int32 × Int32 × Int32 × Int32 × (Nat → Int32) × (Nat → Int32) × (Nat → Int32) => J l G (rmD 6 0 0) Y 0 0 118 [(0, .ref (gm G 0)), (1, .int v.1), (2, .int v.2.1), (3, .int v.2.2.1), (6, .int v.2.2.2.1), (7, .int v.2.2.2.2.1)] [] (WM G m_code m_people m_grants m_texts m_copies m_taped m_faultPlace m_isFemale m_born m_died m_father m_mother m_fatherGrade m_motherGrade m_grantTo m_grantArms m_grantYear m_copyYear m_copyRow m_tape m_textYear m_ruleMany m_ruleFrom m_codeRow m_stack m_ruleKind m_codes m_at m_read m_token m_sign m_begins m_ends m_bad m_badPlace m_top v.2.2.2.2.2.1 m_markRow v.2.2.2.2.2.2.1 v.2.2.2.2.2.2.2 m_isUp m_wasUp ++ fr)) (fun k hk v hf => t_X11_quartersOf_118 hX hQ  hk2 (fun x1 x2 x3 x6 x7 m_lineLives m_quarterMany m_quarters h => hk (x1, x2, x3, x6, x7, m_lineLives, m_quarterMany, m_quarters) h) v.1 v.2.1 v.2.2.1 v.2.2.2.1 v.2.2.2.2.1 hf) n v hf
def g_X11_quartersOf_88 (fu : Nat) (m_people : Int32) (m_isFemale : Nat → Int32) (m_born : Nat → Int32) (m_died : Nat → Int32) (m_father : Nat → Int32) (m_mother : Nat → Int32) (m_lineLives : Nat → Int32) (m_quarterMany : Nat → Int32) (m_quarters : Nat → Int32) (k2 : Int32 → Int32 → Int32 → (Nat → Int32) → (Nat → Int32) → (Nat → Int32) → Option (Int32 × (Nat → Int32) × (Nat → Int32) × (Nat → Int32))) (x1 : Int32) (x2 : Int32) (x3 : Int32) : Option (Int32 × (Nat → Int32) × (Nat → Int32) × (Nat → Int32)) :=
  if inb x3 60 = true then if (m_mother (Int32.toNatClampNeg x3)) = ((-1)) then g_X11_quartersOf_154 m_lineLives m_quarterMany m_quarters k2 x1 x2 x3 else (f_X11_brings fu m_people m_isFemale m_born m_died m_father m_lineLives (m_mother (Int32.toNatClampNeg x3)) x2).bind fun v10 => if v10.1 = 0 then g_X11_quartersOf_154 v10.2 m_quarterMany m_quarters k2 x1 x2 x3 else f_X11_quartersOf_118 fu k2 fu (x1, x2, x3, m_mother (Int32.toNatClampNeg x3), 0, v10.2, m_quarterMany, m_quarters) else none
set_option maxRecDepth 100000 in
set_option maxHeartbeats 4000000 in
theorem t_X11_quartersOf_88 {fu : Nat} {Y : YT} {r : Int32 × (Nat → Int32) × (Nat → Int32) × (Nat → Int32)} {k2 : Int32 → Int32 → Int32 → (Nat → Int32) → (Nat → Int32) → (Nat → Int32) → Option (Int32 × (Nat → Int32) × (Nat → Int32) × (Nat → Int32))} (hX : CX l G cX11_quartersOf 8 RX11 Y) (hQ : EQi G Y 0 0 .int r.1 (WM G m_code m_people m_grants m_texts m_copies m_taped m_faultPlace m_isFemale m_born m_died m_father m_mother m_fatherGrade m_motherGrade m_grantTo m_grantArms m_grantYear m_copyYear m_copyRow m_tape m_textYear m_ruleMany m_ruleFrom m_codeRow m_stack m_ruleKind m_codes m_at m_read m_token m_sign m_begins m_ends m_bad m_badPlace m_top r.2.1 m_markRow r.2.2.1 r.2.2.2 m_isUp m_wasUp ++ fr)) (hk2 : ∀ (x1 : Int32) (x2 : Int32) (x3 : Int32) (m_lineLives : Nat → Int32) (m_quarterMany : Nat → Int32) (m_quarters : Nat → Int32), k2 x1 x2 x3 m_lineLives m_quarterMany m_quarters = some r → J l G (rmD 6 0 0) Y 0 0 2 [(0, .ref (gm G 0)), (1, .int x1), (2, .int x2), (3, .int x3)] [] (WM G m_code m_people m_grants m_texts m_copies m_taped m_faultPlace m_isFemale m_born m_died m_father m_mother m_fatherGrade m_motherGrade m_grantTo m_grantArms m_grantYear m_copyYear m_copyRow m_tape m_textYear m_ruleMany m_ruleFrom m_codeRow m_stack m_ruleKind m_codes m_at m_read m_token m_sign m_begins m_ends m_bad m_badPlace m_top m_lineLives m_markRow m_quarterMany m_quarters m_isUp m_wasUp ++ fr)) (x1 : Int32) (x2 : Int32) (x3 : Int32) (hf : g_X11_quartersOf_88 fu m_people m_isFemale m_born m_died m_father m_mother m_lineLives m_quarterMany m_quarters k2 x1 x2 x3 = some r) : J l G (rmD 6 0 0) Y 0 0 88 [(0, .ref (gm G 0)), (1, .int x1), (2, .int x2), (3, .int x3)] [] (WM G m_code m_people m_grants m_texts m_copies m_taped m_faultPlace m_isFemale m_born m_died m_father m_mother m_fatherGrade m_motherGrade m_grantTo m_grantArms m_grantYear m_copyYear m_copyRow m_tape m_textYear m_ruleMany m_ruleFrom m_codeRow m_stack m_ruleKind m_codes m_at m_read m_token m_sign m_begins m_ends m_bad m_badPlace m_top m_lineLives m_markRow m_quarterMany m_quarters m_isUp m_wasUp ++ fr) := by
  unfold g_X11_quartersOf_88 at hf
  refine j_aload_n hX dX11_quartersOf_88 89 rfl 0 rfl rfl ?_
  refine j_get hX dX11_quartersOf_89 92 rfl fg_X11_48 0 rfl rfl ?_
  refine j_iload_n hX dX11_quartersOf_92 93 rfl 3 rfl rfl ?_
  obtain ⟨hb8, hf⟩ := ign hf
  refine j_iald hX dX11_quartersOf_93 94 rfl 6 rfl hb8 ?_
  refine j_istore hX dX11_quartersOf_94 96 rfl (by decide) (lv' := [(6, .int (m_mother (Int32.toNatClampNeg x3))), (0, .ref (gm G 0)), (1, .int x1), (2, .int x2), (3, .int x3)]) rfl ?_
  refine j_iload hX dX11_quartersOf_96 98 rfl 0 rfl ?_
  refine j_iconst (v := (-1)) hX dX11_quartersOf_98 99 rfl (by decide) ?_
  refine j_icmp_eq hX dX11_quartersOf_99 102 154 rfl rfl (fun h9 => ?_) (fun h9 => ?_)
  · replace hf := itt h9 hf
    refine j_sub [1, 2, 3, 4] rfl ?_
    exact t_X11_quartersOf_154 hX hQ  hk2 x1 x2 x3 hf
  · replace hf := itf h9 hf
    refine j_aload_n hX dX11_quartersOf_102 103 rfl 1 rfl rfl ?_
    refine j_iload hX dX11_quartersOf_103 105 rfl 0 rfl ?_
    refine j_iload_n hX dX11_quartersOf_105 106 rfl 3 rfl rfl ?_
    obtain ⟨v10, hv10, hf⟩ := ibd hf
    refine z_i (As := [.int (m_mother (Int32.toNatClampNeg x3)), .int x2]) (rest := []) (q0 := 0) hX dX11_quartersOf_106 109 rfl (t_X11_brings (m_mother (Int32.toNatClampNeg x3)) x2 hv10) mc_X11_brings mv_X11_brings ml_X11_185 rfl rfl (Nat.le_of_ble_eq_true rfl) (Nat.le_refl _) (Nat.le_refl _) rfl (Nat.le_of_ble_eq_true rfl) ?_
    refine j_if_ne hX dX11_quartersOf_109 112 115 rfl rfl (fun h11 => ?_) (fun h11 => ?_)
    · replace hf := itf h11 hf
      refine j_iconst (v := 0) hX dX11_quartersOf_115 116 rfl (by decide) ?_
      refine j_istore hX dX11_quartersOf_116 118 rfl (by decide) (lv' := [(7, .int 0), (6, .int (m_mother (Int32.toNatClampNeg x3))), (0, .ref (gm G 0)), (1, .int x1), (2, .int x2), (3, .int x3)]) rfl ?_
      refine j_sub [2, 3, 4, 5, 1, 0] rfl ?_
      exact u_X11_quartersOf_118 hX hQ  hk2 fu (x1, x2, x3, m_mother (Int32.toNatClampNeg x3), 0, v10.2, m_quarterMany, m_quarters) hf
    · replace hf := itt h11 hf
      refine j_goto hX dX11_quartersOf_112 154 rfl ?_
      refine j_sub [1, 2, 3, 4] rfl ?_
      exact t_X11_quartersOf_154 hX hQ  hk2 x1 x2 x3 hf
def g_X11_quartersOf_67 (fu : Nat) (m_people : Int32) (m_grants : Int32) (m_isFemale : Nat → Int32) (m_born : Nat → Int32) (m_died : Nat → Int32) (m_father : Nat → Int32) (m_mother : Nat → Int32) (m_grantTo : Nat → Int32) (m_grantArms : Nat → Int32) (m_grantYear : Nat → Int32) (m_lineLives : Nat → Int32) (m_quarterMany : Nat → Int32) (m_quarters : Nat → Int32) (k2 : Int32 → Int32 → Int32 → (Nat → Int32) → (Nat → Int32) → (Nat → Int32) → Option (Int32 × (Nat → Int32) × (Nat → Int32) × (Nat → Int32))) (x1 : Int32) (x2 : Int32) (x3 : Int32) : Option (Int32 × (Nat → Int32) × (Nat → Int32) × (Nat → Int32)) :=
  (f_X11_own fu m_grants m_grantTo m_grantArms m_grantYear x3 x2).bind fun v6 => if v6 = ((-1)) then g_X11_quartersOf_88 fu m_people m_isFemale m_born m_died m_father m_mother m_lineLives m_quarterMany m_quarters k2 x1 x2 x3 else (f_X11_put fu m_quarterMany m_quarters x3 v6).bind fun v16 => g_X11_quartersOf_88 fu m_people m_isFemale m_born m_died m_father m_mother m_lineLives v16.1 v16.2 k2 x1 x2 x3
set_option maxRecDepth 100000 in
set_option maxHeartbeats 4000000 in
theorem t_X11_quartersOf_67 {fu : Nat} {Y : YT} {r : Int32 × (Nat → Int32) × (Nat → Int32) × (Nat → Int32)} {k2 : Int32 → Int32 → Int32 → (Nat → Int32) → (Nat → Int32) → (Nat → Int32) → Option (Int32 × (Nat → Int32) × (Nat → Int32) × (Nat → Int32))} (hX : CX l G cX11_quartersOf 8 RX11 Y) (hQ : EQi G Y 0 0 .int r.1 (WM G m_code m_people m_grants m_texts m_copies m_taped m_faultPlace m_isFemale m_born m_died m_father m_mother m_fatherGrade m_motherGrade m_grantTo m_grantArms m_grantYear m_copyYear m_copyRow m_tape m_textYear m_ruleMany m_ruleFrom m_codeRow m_stack m_ruleKind m_codes m_at m_read m_token m_sign m_begins m_ends m_bad m_badPlace m_top r.2.1 m_markRow r.2.2.1 r.2.2.2 m_isUp m_wasUp ++ fr)) (hk2 : ∀ (x1 : Int32) (x2 : Int32) (x3 : Int32) (m_lineLives : Nat → Int32) (m_quarterMany : Nat → Int32) (m_quarters : Nat → Int32), k2 x1 x2 x3 m_lineLives m_quarterMany m_quarters = some r → J l G (rmD 6 0 0) Y 0 0 2 [(0, .ref (gm G 0)), (1, .int x1), (2, .int x2), (3, .int x3)] [] (WM G m_code m_people m_grants m_texts m_copies m_taped m_faultPlace m_isFemale m_born m_died m_father m_mother m_fatherGrade m_motherGrade m_grantTo m_grantArms m_grantYear m_copyYear m_copyRow m_tape m_textYear m_ruleMany m_ruleFrom m_codeRow m_stack m_ruleKind m_codes m_at m_read m_token m_sign m_begins m_ends m_bad m_badPlace m_top m_lineLives m_markRow m_quarterMany m_quarters m_isUp m_wasUp ++ fr)) (x1 : Int32) (x2 : Int32) (x3 : Int32) (hf : g_X11_quartersOf_67 fu m_people m_grants m_isFemale m_born m_died m_father m_mother m_grantTo m_grantArms m_grantYear m_lineLives m_quarterMany m_quarters k2 x1 x2 x3 = some r) : J l G (rmD 6 0 0) Y 0 0 67 [(0, .ref (gm G 0)), (1, .int x1), (2, .int x2), (3, .int x3)] [] (WM G m_code m_people m_grants m_texts m_copies m_taped m_faultPlace m_isFemale m_born m_died m_father m_mother m_fatherGrade m_motherGrade m_grantTo m_grantArms m_grantYear m_copyYear m_copyRow m_tape m_textYear m_ruleMany m_ruleFrom m_codeRow m_stack m_ruleKind m_codes m_at m_read m_token m_sign m_begins m_ends m_bad m_badPlace m_top m_lineLives m_markRow m_quarterMany m_quarters m_isUp m_wasUp ++ fr) := by
  unfold g_X11_quartersOf_67 at hf
  refine j_aload_n hX dX11_quartersOf_67 68 rfl 0 rfl rfl ?_
  refine j_iload_n hX dX11_quartersOf_68 69 rfl 3 rfl rfl ?_
  refine j_iload_n hX dX11_quartersOf_69 70 rfl 2 rfl rfl ?_
  obtain ⟨v6, hv6, hf⟩ := ibd hf
  refine z_i (As := [.int x3, .int x2]) (rest := []) (q0 := 0) hX dX11_quartersOf_70 73 rfl (t_X11_own x3 x2 hv6) mc_X11_own mv_X11_own ml_X11_141 rfl rfl (Nat.le_of_ble_eq_true rfl) (Nat.le_refl _) (Nat.le_refl _) rfl (Nat.le_of_ble_eq_true rfl) ?_
  refine j_istore hX dX11_quartersOf_73 75 rfl (by decide) (lv' := [(5, .int v6), (0, .ref (gm G 0)), (1, .int x1), (2, .int x2), (3, .int x3)]) rfl ?_
  refine j_iload hX dX11_quartersOf_75 77 rfl 0 rfl ?_
  refine j_iconst (v := (-1)) hX dX11_quartersOf_77 78 rfl (by decide) ?_
  refine j_icmp_eq hX dX11_quartersOf_78 81 88 rfl rfl (fun h7 => ?_) (fun h7 => ?_)
  · replace hf := itt h7 hf
    refine j_sub [1, 2, 3, 4] rfl ?_
    exact t_X11_quartersOf_88 hX hQ  hk2 x1 x2 x3 hf
  · replace hf := itf h7 hf
    refine j_aload_n hX dX11_quartersOf_81 82 rfl 1 rfl rfl ?_
    refine j_iload_n hX dX11_quartersOf_82 83 rfl 4 rfl rfl ?_
    refine j_iload hX dX11_quartersOf_83 85 rfl 0 rfl ?_
    obtain ⟨v16, hv16, hf⟩ := ibd hf
    refine z_v (As := [.int x3, .int v6]) (rest := []) (q0 := 0) hX dX11_quartersOf_85 88 rfl (t_X11_put x3 v6 hv16) mc_X11_put mv_X11_put ml_X11_181 rfl rfl (Nat.le_of_ble_eq_true rfl) (Nat.le_refl _) (Nat.le_refl _) rfl (Nat.le_of_ble_eq_true rfl) ?_
    refine j_sub [1, 2, 3, 4] rfl ?_
    exact t_X11_quartersOf_88 hX hQ  hk2 x1 x2 x3 hf
def g_X11_quartersOf_25 (fu : Nat) (m_people : Int32) (m_grants : Int32) (m_isFemale : Nat → Int32) (m_born : Nat → Int32) (m_died : Nat → Int32) (m_father : Nat → Int32) (m_mother : Nat → Int32) (m_grantTo : Nat → Int32) (m_grantArms : Nat → Int32) (m_grantYear : Nat → Int32) (m_lineLives : Nat → Int32) (m_quarterMany : Nat → Int32) (m_quarters : Nat → Int32) (k2 : Int32 → Int32 → Int32 → (Nat → Int32) → (Nat → Int32) → (Nat → Int32) → Option (Int32 × (Nat → Int32) × (Nat → Int32) × (Nat → Int32))) (k25 : Int32 → Int32 → Int32 → Int32 → Int32 → (Nat → Int32) → (Nat → Int32) → (Nat → Int32) → Option (Int32 × (Nat → Int32) × (Nat → Int32) × (Nat → Int32))) (x1 : Int32) (x2 : Int32) (x3 : Int32) (x4 : Int32) (x5 : Int32) : Option (Int32 × (Nat → Int32) × (Nat → Int32) × (Nat → Int32)) :=
  if x4 = ((-1)) then g_X11_quartersOf_67 fu m_people m_grants m_isFemale m_born m_died m_father m_mother m_grantTo m_grantArms m_grantYear m_lineLives m_quarterMany m_quarters k2 x1 x2 x3 else if inb x4 60 = true then if (m_quarterMany (Int32.toNatClampNeg x4)) ≤ x5 then g_X11_quartersOf_67 fu m_people m_grants m_isFemale m_born m_died m_father m_mother m_grantTo m_grantArms m_grantYear m_lineLives m_quarterMany m_quarters k2 x1 x2 x3 else if inb ((12 * x4) + x5) 720 = true then (f_X11_put fu m_quarterMany m_quarters x3 (m_quarters (Int32.toNatClampNeg ((12 * x4) + x5)))).bind fun v20 => k25 x1 x2 x3 x4 (x5 + 1) m_lineLives v20.1 v20.2 else none else none
set_option maxRecDepth 100000 in
set_option maxHeartbeats 4000000 in
theorem t_X11_quartersOf_25 {fu : Nat} {Y : YT} {r : Int32 × (Nat → Int32) × (Nat → Int32) × (Nat → Int32)} {k2 : Int32 → Int32 → Int32 → (Nat → Int32) → (Nat → Int32) → (Nat → Int32) → Option (Int32 × (Nat → Int32) × (Nat → Int32) × (Nat → Int32))} {k25 : Int32 → Int32 → Int32 → Int32 → Int32 → (Nat → Int32) → (Nat → Int32) → (Nat → Int32) → Option (Int32 × (Nat → Int32) × (Nat → Int32) × (Nat → Int32))} (hX : CX l G cX11_quartersOf 8 RX11 Y) (hQ : EQi G Y 0 0 .int r.1 (WM G m_code m_people m_grants m_texts m_copies m_taped m_faultPlace m_isFemale m_born m_died m_father m_mother m_fatherGrade m_motherGrade m_grantTo m_grantArms m_grantYear m_copyYear m_copyRow m_tape m_textYear m_ruleMany m_ruleFrom m_codeRow m_stack m_ruleKind m_codes m_at m_read m_token m_sign m_begins m_ends m_bad m_badPlace m_top r.2.1 m_markRow r.2.2.1 r.2.2.2 m_isUp m_wasUp ++ fr)) (hk2 : ∀ (x1 : Int32) (x2 : Int32) (x3 : Int32) (m_lineLives : Nat → Int32) (m_quarterMany : Nat → Int32) (m_quarters : Nat → Int32), k2 x1 x2 x3 m_lineLives m_quarterMany m_quarters = some r → J l G (rmD 6 0 0) Y 0 0 2 [(0, .ref (gm G 0)), (1, .int x1), (2, .int x2), (3, .int x3)] [] (WM G m_code m_people m_grants m_texts m_copies m_taped m_faultPlace m_isFemale m_born m_died m_father m_mother m_fatherGrade m_motherGrade m_grantTo m_grantArms m_grantYear m_copyYear m_copyRow m_tape m_textYear m_ruleMany m_ruleFrom m_codeRow m_stack m_ruleKind m_codes m_at m_read m_token m_sign m_begins m_ends m_bad m_badPlace m_top m_lineLives m_markRow m_quarterMany m_quarters m_isUp m_wasUp ++ fr)) (hk25 : ∀ (x1 : Int32) (x2 : Int32) (x3 : Int32) (x4 : Int32) (x5 : Int32) (m_lineLives : Nat → Int32) (m_quarterMany : Nat → Int32) (m_quarters : Nat → Int32), k25 x1 x2 x3 x4 x5 m_lineLives m_quarterMany m_quarters = some r → J l G (rmD 6 0 0) Y 0 0 25 [(0, .ref (gm G 0)), (1, .int x1), (2, .int x2), (3, .int x3), (4, .int x4), (5, .int x5)] [] (WM G m_code m_people m_grants m_texts m_copies m_taped m_faultPlace m_isFemale m_born m_died m_father m_mother m_fatherGrade m_motherGrade m_grantTo m_grantArms m_grantYear m_copyYear m_copyRow m_tape m_textYear m_ruleMany m_ruleFrom m_codeRow m_stack m_ruleKind m_codes m_at m_read m_token m_sign m_begins m_ends m_bad m_badPlace m_top m_lineLives m_markRow m_quarterMany m_quarters m_isUp m_wasUp ++ fr)) (x1 : Int32) (x2 : Int32) (x3 : Int32) (x4 : Int32) (x5 : Int32) (hf : g_X11_quartersOf_25 fu m_people m_grants m_isFemale m_born m_died m_father m_mother m_grantTo m_grantArms m_grantYear m_lineLives m_quarterMany m_quarters k2 k25 x1 x2 x3 x4 x5 = some r) : J l G (rmD 6 0 0) Y 0 0 25 [(0, .ref (gm G 0)), (1, .int x1), (2, .int x2), (3, .int x3), (4, .int x4), (5, .int x5)] [] (WM G m_code m_people m_grants m_texts m_copies m_taped m_faultPlace m_isFemale m_born m_died m_father m_mother m_fatherGrade m_motherGrade m_grantTo m_grantArms m_grantYear m_copyYear m_copyRow m_tape m_textYear m_ruleMany m_ruleFrom m_codeRow m_stack m_ruleKind m_codes m_at m_read m_token m_sign m_begins m_ends m_bad m_badPlace m_top m_lineLives m_markRow m_quarterMany m_quarters m_isUp m_wasUp ++ fr) := by
  unfold g_X11_quartersOf_25 at hf
  refine j_iload hX dX11_quartersOf_25 27 rfl 4 rfl ?_
  refine j_iconst (v := (-1)) hX dX11_quartersOf_27 28 rfl (by decide) ?_
  refine j_icmp_eq hX dX11_quartersOf_28 31 67 rfl rfl (fun h5 => ?_) (fun h5 => ?_)
  · replace hf := itt h5 hf
    refine j_sub [0, 1, 2, 3] rfl ?_
    exact t_X11_quartersOf_67 hX hQ  hk2 x1 x2 x3 hf
  · replace hf := itf h5 hf
    refine j_iload hX dX11_quartersOf_31 33 rfl 5 rfl ?_
    refine j_aload_n hX dX11_quartersOf_33 34 rfl 0 rfl rfl ?_
    refine j_get hX dX11_quartersOf_34 37 rfl fg_X11_99 0 rfl rfl ?_
    refine j_iload hX dX11_quartersOf_37 39 rfl 4 rfl ?_
    obtain ⟨hb17, hf⟩ := ign hf
    refine j_iald hX dX11_quartersOf_39 40 rfl 23 rfl hb17 ?_
    refine j_icmp_ge hX dX11_quartersOf_40 43 67 rfl rfl (fun h18 => ?_) (fun h18 => ?_)
    · replace hf := itt h18 hf
      refine j_sub [0, 1, 2, 3] rfl ?_
      exact t_X11_quartersOf_67 hX hQ  hk2 x1 x2 x3 hf
    · replace hf := itf h18 hf
      refine j_aload_n hX dX11_quartersOf_43 44 rfl 0 rfl rfl ?_
      refine j_iload_n hX dX11_quartersOf_44 45 rfl 3 rfl rfl ?_
      refine j_aload_n hX dX11_quartersOf_45 46 rfl 0 rfl rfl ?_
      refine j_get hX dX11_quartersOf_46 49 rfl fg_X11_102 0 rfl rfl ?_
      refine j_bipush (v := 12) hX dX11_quartersOf_49 51 rfl (by decide) ?_
      refine j_iload hX dX11_quartersOf_51 53 rfl 4 rfl ?_
      refine j_imul hX dX11_quartersOf_53 54 rfl ?_
      refine j_iload hX dX11_quartersOf_54 56 rfl 5 rfl ?_
      refine j_iadd hX dX11_quartersOf_56 57 rfl ?_
      obtain ⟨hb19, hf⟩ := ign hf
      refine j_iald hX dX11_quartersOf_57 58 rfl 24 rfl hb19 ?_
      obtain ⟨v20, hv20, hf⟩ := ibd hf
      refine z_v (As := [.int x3, .int (m_quarters (Int32.toNatClampNeg ((12 * x4) + x5)))]) (rest := []) (q0 := 0) hX dX11_quartersOf_58 61 rfl (t_X11_put x3 (m_quarters (Int32.toNatClampNeg ((12 * x4) + x5))) hv20) mc_X11_put mv_X11_put ml_X11_181 rfl rfl (Nat.le_of_ble_eq_true rfl) (Nat.le_refl _) (Nat.le_refl _) rfl (Nat.le_of_ble_eq_true rfl) ?_
      refine j_iinc (v := x5 + 1) hX dX11_quartersOf_61 64 rfl 5 rfl rfl (by decide) (lv' := [(5, .int (x5 + 1)), (0, .ref (gm G 0)), (1, .int x1), (2, .int x2), (3, .int x3), (4, .int x4)]) rfl ?_
      refine j_goto hX dX11_quartersOf_64 25 rfl ?_
      refine j_sub [1, 2, 3, 4, 5, 0] rfl ?_
      exact hk25 x1 x2 x3 x4 (x5 + 1) m_lineLives v20.1 v20.2 hf
def f_X11_quartersOf_25 (fu : Nat) (m_people : Int32) (m_grants : Int32) (m_isFemale : Nat → Int32) (m_born : Nat → Int32) (m_died : Nat → Int32) (m_father : Nat → Int32) (m_mother : Nat → Int32) (m_grantTo : Nat → Int32) (m_grantArms : Nat → Int32) (m_grantYear : Nat → Int32) (k2 : Int32 → Int32 → Int32 → (Nat → Int32) → (Nat → Int32) → (Nat → Int32) → Option (Int32 × (Nat → Int32) × (Nat → Int32) × (Nat → Int32))) : Nat → (Int32 × Int32 × Int32 × Int32 × Int32 × (Nat → Int32) × (Nat → Int32) × (Nat → Int32)) → Option (Int32 × (Nat → Int32) × (Nat → Int32) × (Nat → Int32)) :=
  lp (fun k v => g_X11_quartersOf_25 fu m_people m_grants m_isFemale m_born m_died m_father m_mother m_grantTo m_grantArms m_grantYear v.2.2.2.2.2.1 v.2.2.2.2.2.2.1 v.2.2.2.2.2.2.2 k2 (fun x1 x2 x3 x4 x5 m_lineLives m_quarterMany m_quarters => k (x1, x2, x3, x4, x5, m_lineLives, m_quarterMany, m_quarters)) v.1 v.2.1 v.2.2.1 v.2.2.2.1 v.2.2.2.2.1)
set_option maxRecDepth 100000 in
set_option maxHeartbeats 4000000 in
theorem u_X11_quartersOf_25 {fu : Nat} {Y : YT} {r : Int32 × (Nat → Int32) × (Nat → Int32) × (Nat → Int32)} {k2 : Int32 → Int32 → Int32 → (Nat → Int32) → (Nat → Int32) → (Nat → Int32) → Option (Int32 × (Nat → Int32) × (Nat → Int32) × (Nat → Int32))} (hX : CX l G cX11_quartersOf 8 RX11 Y) (hQ : EQi G Y 0 0 .int r.1 (WM G m_code m_people m_grants m_texts m_copies m_taped m_faultPlace m_isFemale m_born m_died m_father m_mother m_fatherGrade m_motherGrade m_grantTo m_grantArms m_grantYear m_copyYear m_copyRow m_tape m_textYear m_ruleMany m_ruleFrom m_codeRow m_stack m_ruleKind m_codes m_at m_read m_token m_sign m_begins m_ends m_bad m_badPlace m_top r.2.1 m_markRow r.2.2.1 r.2.2.2 m_isUp m_wasUp ++ fr)) (hk2 : ∀ (x1 : Int32) (x2 : Int32) (x3 : Int32) (m_lineLives : Nat → Int32) (m_quarterMany : Nat → Int32) (m_quarters : Nat → Int32), k2 x1 x2 x3 m_lineLives m_quarterMany m_quarters = some r → J l G (rmD 6 0 0) Y 0 0 2 [(0, .ref (gm G 0)), (1, .int x1), (2, .int x2), (3, .int x3)] [] (WM G m_code m_people m_grants m_texts m_copies m_taped m_faultPlace m_isFemale m_born m_died m_father m_mother m_fatherGrade m_motherGrade m_grantTo m_grantArms m_grantYear m_copyYear m_copyRow m_tape m_textYear m_ruleMany m_ruleFrom m_codeRow m_stack m_ruleKind m_codes m_at m_read m_token m_sign m_begins m_ends m_bad m_badPlace m_top m_lineLives m_markRow m_quarterMany m_quarters m_isUp m_wasUp ++ fr)) (n : Nat) (v : Int32 × Int32 × Int32 × Int32 × Int32 × (Nat → Int32) × (Nat → Int32) × (Nat → Int32)) (hf : f_X11_quartersOf_25 fu m_people m_grants m_isFemale m_born m_died m_father m_mother m_grantTo m_grantArms m_grantYear k2 n v = some r) : J l G (rmD 6 0 0) Y 0 0 25 [(0, .ref (gm G 0)), (1, .int v.1), (2, .int v.2.1), (3, .int v.2.2.1), (4, .int v.2.2.2.1), (5, .int v.2.2.2.2.1)] [] (WM G m_code m_people m_grants m_texts m_copies m_taped m_faultPlace m_isFemale m_born m_died m_father m_mother m_fatherGrade m_motherGrade m_grantTo m_grantArms m_grantYear m_copyYear m_copyRow m_tape m_textYear m_ruleMany m_ruleFrom m_codeRow m_stack m_ruleKind m_codes m_at m_read m_token m_sign m_begins m_ends m_bad m_badPlace m_top v.2.2.2.2.2.1 m_markRow v.2.2.2.2.2.2.1 v.2.2.2.2.2.2.2 m_isUp m_wasUp ++ fr) :=
  lp_ind (P := fun v : Int32 × Int32 × Int32 × Int32 × Int32 × (Nat → Int32) × (Nat → Int32) × (Nat → Int32) => J l G (rmD 6 0 0) Y 0 0 25 [(0, .ref (gm G 0)), (1, .int v.1), (2, .int v.2.1), (3, .int v.2.2.1), (4, .int v.2.2.2.1), (5, .int v.2.2.2.2.1)] [] (WM G m_code m_people m_grants m_texts m_copies m_taped m_faultPlace m_isFemale m_born m_died m_father m_mother m_fatherGrade m_motherGrade m_grantTo m_grantArms m_grantYear m_copyYear m_copyRow m_tape m_textYear m_ruleMany m_ruleFrom m_codeRow m_stack m_ruleKind m_codes m_at m_read m_token m_sign m_begins m_ends m_bad m_badPlace m_top v.2.2.2.2.2.1 m_markRow v.2.2.2.2.2.2.1 v.2.2.2.2.2.2.2 m_isUp m_wasUp ++ fr)) (fun k hk v hf => t_X11_quartersOf_25 hX hQ  hk2 (fun x1 x2 x3 x4 x5 m_lineLives m_quarterMany m_quarters h => hk (x1, x2, x3, x4, x5, m_lineLives, m_quarterMany, m_quarters) h) v.1 v.2.1 v.2.2.1 v.2.2.2.1 v.2.2.2.2.1 hf) n v hf
def g_X11_quartersOf_2 (fu : Nat) (m_people : Int32) (m_grants : Int32) (m_isFemale : Nat → Int32) (m_born : Nat → Int32) (m_died : Nat → Int32) (m_father : Nat → Int32) (m_mother : Nat → Int32) (m_grantTo : Nat → Int32) (m_grantArms : Nat → Int32) (m_grantYear : Nat → Int32) (m_lineLives : Nat → Int32) (m_quarterMany : Nat → Int32) (m_quarters : Nat → Int32) (k2 : Int32 → Int32 → Int32 → (Nat → Int32) → (Nat → Int32) → (Nat → Int32) → Option (Int32 × (Nat → Int32) × (Nat → Int32) × (Nat → Int32))) (x1 : Int32) (x2 : Int32) (x3 : Int32) : Option (Int32 × (Nat → Int32) × (Nat → Int32) × (Nat → Int32)) :=
  if x1 < x3 then if inb x1 60 = true then some (m_quarterMany (Int32.toNatClampNeg x1), m_lineLives, m_quarterMany, m_quarters) else none else if inb x3 60 = true then if inb x3 60 = true then f_X11_quartersOf_25 fu m_people m_grants m_isFemale m_born m_died m_father m_mother m_grantTo m_grantArms m_grantYear k2 fu (x1, x2, x3, m_father (Int32.toNatClampNeg x3), 0, m_lineLives, upd m_quarterMany (Int32.toNatClampNeg x3) 0, m_quarters) else none else none
set_option maxRecDepth 100000 in
set_option maxHeartbeats 4000000 in
theorem t_X11_quartersOf_2 {fu : Nat} {Y : YT} {r : Int32 × (Nat → Int32) × (Nat → Int32) × (Nat → Int32)} {k2 : Int32 → Int32 → Int32 → (Nat → Int32) → (Nat → Int32) → (Nat → Int32) → Option (Int32 × (Nat → Int32) × (Nat → Int32) × (Nat → Int32))} (hX : CX l G cX11_quartersOf 8 RX11 Y) (hQ : EQi G Y 0 0 .int r.1 (WM G m_code m_people m_grants m_texts m_copies m_taped m_faultPlace m_isFemale m_born m_died m_father m_mother m_fatherGrade m_motherGrade m_grantTo m_grantArms m_grantYear m_copyYear m_copyRow m_tape m_textYear m_ruleMany m_ruleFrom m_codeRow m_stack m_ruleKind m_codes m_at m_read m_token m_sign m_begins m_ends m_bad m_badPlace m_top r.2.1 m_markRow r.2.2.1 r.2.2.2 m_isUp m_wasUp ++ fr)) (hk2 : ∀ (x1 : Int32) (x2 : Int32) (x3 : Int32) (m_lineLives : Nat → Int32) (m_quarterMany : Nat → Int32) (m_quarters : Nat → Int32), k2 x1 x2 x3 m_lineLives m_quarterMany m_quarters = some r → J l G (rmD 6 0 0) Y 0 0 2 [(0, .ref (gm G 0)), (1, .int x1), (2, .int x2), (3, .int x3)] [] (WM G m_code m_people m_grants m_texts m_copies m_taped m_faultPlace m_isFemale m_born m_died m_father m_mother m_fatherGrade m_motherGrade m_grantTo m_grantArms m_grantYear m_copyYear m_copyRow m_tape m_textYear m_ruleMany m_ruleFrom m_codeRow m_stack m_ruleKind m_codes m_at m_read m_token m_sign m_begins m_ends m_bad m_badPlace m_top m_lineLives m_markRow m_quarterMany m_quarters m_isUp m_wasUp ++ fr)) (x1 : Int32) (x2 : Int32) (x3 : Int32) (hf : g_X11_quartersOf_2 fu m_people m_grants m_isFemale m_born m_died m_father m_mother m_grantTo m_grantArms m_grantYear m_lineLives m_quarterMany m_quarters k2 x1 x2 x3 = some r) : J l G (rmD 6 0 0) Y 0 0 2 [(0, .ref (gm G 0)), (1, .int x1), (2, .int x2), (3, .int x3)] [] (WM G m_code m_people m_grants m_texts m_copies m_taped m_faultPlace m_isFemale m_born m_died m_father m_mother m_fatherGrade m_motherGrade m_grantTo m_grantArms m_grantYear m_copyYear m_copyRow m_tape m_textYear m_ruleMany m_ruleFrom m_codeRow m_stack m_ruleKind m_codes m_at m_read m_token m_sign m_begins m_ends m_bad m_badPlace m_top m_lineLives m_markRow m_quarterMany m_quarters m_isUp m_wasUp ++ fr) := by
  unfold g_X11_quartersOf_2 at hf
  refine j_iload_n hX dX11_quartersOf_2 3 rfl 3 rfl rfl ?_
  refine j_iload_n hX dX11_quartersOf_3 4 rfl 1 rfl rfl ?_
  refine j_icmp_gt hX dX11_quartersOf_4 7 160 rfl rfl (fun h1 => ?_) (fun h1 => ?_)
  · replace hf := itt h1 hf
    refine j_aload_n hX dX11_quartersOf_160 161 rfl 0 rfl rfl ?_
    refine j_get hX dX11_quartersOf_161 164 rfl fg_X11_99 0 rfl rfl ?_
    refine j_iload_n hX dX11_quartersOf_164 165 rfl 1 rfl rfl ?_
    obtain ⟨hb2, hf⟩ := ign hf
    refine j_iald hX dX11_quartersOf_165 166 rfl 23 rfl hb2 ?_
    replace hf := Option.some.inj hf
    subst hf
    exact j_iret hX hQ dX11_quartersOf_166
  · replace hf := itf h1 hf
    refine j_aload_n hX dX11_quartersOf_7 8 rfl 0 rfl rfl ?_
    refine j_get hX dX11_quartersOf_8 11 rfl fg_X11_99 0 rfl rfl ?_
    refine j_iload_n hX dX11_quartersOf_11 12 rfl 3 rfl rfl ?_
    refine j_iconst (v := 0) hX dX11_quartersOf_12 13 rfl (by decide) ?_
    obtain ⟨hb3, hf⟩ := ign hf
    refine j_iast hX dX11_quartersOf_13 14 rfl 23 rfl hb3 (ws' := (WM G m_code m_people m_grants m_texts m_copies m_taped m_faultPlace m_isFemale m_born m_died m_father m_mother m_fatherGrade m_motherGrade m_grantTo m_grantArms m_grantYear m_copyYear m_copyRow m_tape m_textYear m_ruleMany m_ruleFrom m_codeRow m_stack m_ruleKind m_codes m_at m_read m_token m_sign m_begins m_ends m_bad m_badPlace m_top m_lineLives m_markRow (upd m_quarterMany (Int32.toNatClampNeg x3) 0) m_quarters m_isUp m_wasUp ++ fr)) rfl ?_
    refine j_aload_n hX dX11_quartersOf_14 15 rfl 0 rfl rfl ?_
    refine j_get hX dX11_quartersOf_15 18 rfl fg_X11_45 0 rfl rfl ?_
    refine j_iload_n hX dX11_quartersOf_18 19 rfl 3 rfl rfl ?_
    obtain ⟨hb4, hf⟩ := ign hf
    refine j_iald hX dX11_quartersOf_19 20 rfl 5 rfl hb4 ?_
    refine j_istore hX dX11_quartersOf_20 22 rfl (by decide) (lv' := [(4, .int (m_father (Int32.toNatClampNeg x3))), (0, .ref (gm G 0)), (1, .int x1), (2, .int x2), (3, .int x3)]) rfl ?_
    refine j_iconst (v := 0) hX dX11_quartersOf_22 23 rfl (by decide) ?_
    refine j_istore hX dX11_quartersOf_23 25 rfl (by decide) (lv' := [(5, .int 0), (4, .int (m_father (Int32.toNatClampNeg x3))), (0, .ref (gm G 0)), (1, .int x1), (2, .int x2), (3, .int x3)]) rfl ?_
    refine j_sub [2, 3, 4, 5, 1, 0] rfl ?_
    exact u_X11_quartersOf_25 hX hQ  hk2 fu (x1, x2, x3, m_father (Int32.toNatClampNeg x3), 0, m_lineLives, upd m_quarterMany (Int32.toNatClampNeg x3) 0, m_quarters) hf
def f_X11_quartersOf_2 (fu : Nat) (m_people : Int32) (m_grants : Int32) (m_isFemale : Nat → Int32) (m_born : Nat → Int32) (m_died : Nat → Int32) (m_father : Nat → Int32) (m_mother : Nat → Int32) (m_grantTo : Nat → Int32) (m_grantArms : Nat → Int32) (m_grantYear : Nat → Int32) : Nat → (Int32 × Int32 × Int32 × (Nat → Int32) × (Nat → Int32) × (Nat → Int32)) → Option (Int32 × (Nat → Int32) × (Nat → Int32) × (Nat → Int32)) :=
  lp (fun k v => g_X11_quartersOf_2 fu m_people m_grants m_isFemale m_born m_died m_father m_mother m_grantTo m_grantArms m_grantYear v.2.2.2.1 v.2.2.2.2.1 v.2.2.2.2.2 (fun x1 x2 x3 m_lineLives m_quarterMany m_quarters => k (x1, x2, x3, m_lineLives, m_quarterMany, m_quarters)) v.1 v.2.1 v.2.2.1)
set_option maxRecDepth 100000 in
set_option maxHeartbeats 4000000 in
theorem u_X11_quartersOf_2 {fu : Nat} {Y : YT} {r : Int32 × (Nat → Int32) × (Nat → Int32) × (Nat → Int32)}  (hX : CX l G cX11_quartersOf 8 RX11 Y) (hQ : EQi G Y 0 0 .int r.1 (WM G m_code m_people m_grants m_texts m_copies m_taped m_faultPlace m_isFemale m_born m_died m_father m_mother m_fatherGrade m_motherGrade m_grantTo m_grantArms m_grantYear m_copyYear m_copyRow m_tape m_textYear m_ruleMany m_ruleFrom m_codeRow m_stack m_ruleKind m_codes m_at m_read m_token m_sign m_begins m_ends m_bad m_badPlace m_top r.2.1 m_markRow r.2.2.1 r.2.2.2 m_isUp m_wasUp ++ fr))  (n : Nat) (v : Int32 × Int32 × Int32 × (Nat → Int32) × (Nat → Int32) × (Nat → Int32)) (hf : f_X11_quartersOf_2 fu m_people m_grants m_isFemale m_born m_died m_father m_mother m_grantTo m_grantArms m_grantYear n v = some r) : J l G (rmD 6 0 0) Y 0 0 2 [(0, .ref (gm G 0)), (1, .int v.1), (2, .int v.2.1), (3, .int v.2.2.1)] [] (WM G m_code m_people m_grants m_texts m_copies m_taped m_faultPlace m_isFemale m_born m_died m_father m_mother m_fatherGrade m_motherGrade m_grantTo m_grantArms m_grantYear m_copyYear m_copyRow m_tape m_textYear m_ruleMany m_ruleFrom m_codeRow m_stack m_ruleKind m_codes m_at m_read m_token m_sign m_begins m_ends m_bad m_badPlace m_top v.2.2.2.1 m_markRow v.2.2.2.2.1 v.2.2.2.2.2 m_isUp m_wasUp ++ fr) :=
  lp_ind (P := fun v : Int32 × Int32 × Int32 × (Nat → Int32) × (Nat → Int32) × (Nat → Int32) => J l G (rmD 6 0 0) Y 0 0 2 [(0, .ref (gm G 0)), (1, .int v.1), (2, .int v.2.1), (3, .int v.2.2.1)] [] (WM G m_code m_people m_grants m_texts m_copies m_taped m_faultPlace m_isFemale m_born m_died m_father m_mother m_fatherGrade m_motherGrade m_grantTo m_grantArms m_grantYear m_copyYear m_copyRow m_tape m_textYear m_ruleMany m_ruleFrom m_codeRow m_stack m_ruleKind m_codes m_at m_read m_token m_sign m_begins m_ends m_bad m_badPlace m_top v.2.2.2.1 m_markRow v.2.2.2.2.1 v.2.2.2.2.2 m_isUp m_wasUp ++ fr)) (fun k hk v hf => t_X11_quartersOf_2 hX hQ   (fun x1 x2 x3 m_lineLives m_quarterMany m_quarters h => hk (x1, x2, x3, m_lineLives, m_quarterMany, m_quarters) h) v.1 v.2.1 v.2.2.1 hf) n v hf
def f_X11_quartersOf (fu : Nat) (m_people : Int32) (m_grants : Int32) (m_isFemale : Nat → Int32) (m_born : Nat → Int32) (m_died : Nat → Int32) (m_father : Nat → Int32) (m_mother : Nat → Int32) (m_grantTo : Nat → Int32) (m_grantArms : Nat → Int32) (m_grantYear : Nat → Int32) (m_lineLives : Nat → Int32) (m_quarterMany : Nat → Int32) (m_quarters : Nat → Int32) (x1 : Int32) (x2 : Int32) : Option (Int32 × (Nat → Int32) × (Nat → Int32) × (Nat → Int32)) :=
  f_X11_quartersOf_2 fu m_people m_grants m_isFemale m_born m_died m_father m_mother m_grantTo m_grantArms m_grantYear fu (x1, x2, 0, m_lineLives, m_quarterMany, m_quarters)
set_option maxRecDepth 100000 in
set_option maxHeartbeats 4000000 in
theorem t_X11_quartersOf {fu : Nat}  (x1 : Int32) (x2 : Int32) {r : Int32 × (Nat → Int32) × (Nat → Int32) × (Nat → Int32)} (hf : f_X11_quartersOf fu m_people m_grants m_isFemale m_born m_died m_father m_mother m_grantTo m_grantArms m_grantYear m_lineLives m_quarterMany m_quarters x1 x2 = some r) : Ci l G 6 0 0 yX11_quartersOf cX11_quartersOf 8 .int [.ref (gm G 0), .int x1, .int x2] (WM G m_code m_people m_grants m_texts m_copies m_taped m_faultPlace m_isFemale m_born m_died m_father m_mother m_fatherGrade m_motherGrade m_grantTo m_grantArms m_grantYear m_copyYear m_copyRow m_tape m_textYear m_ruleMany m_ruleFrom m_codeRow m_stack m_ruleKind m_codes m_at m_read m_token m_sign m_begins m_ends m_bad m_badPlace m_top m_lineLives m_markRow m_quarterMany m_quarters m_isUp m_wasUp ++ fr) r.1 (WM G m_code m_people m_grants m_texts m_copies m_taped m_faultPlace m_isFemale m_born m_died m_father m_mother m_fatherGrade m_motherGrade m_grantTo m_grantArms m_grantYear m_copyYear m_copyRow m_tape m_textYear m_ruleMany m_ruleFrom m_codeRow m_stack m_ruleKind m_codes m_at m_read m_token m_sign m_begins m_ends m_bad m_badPlace m_top r.2.1 m_markRow r.2.2.1 r.2.2.2 m_isUp m_wasUp ++ fr) := by
  refine Ci.of (by decide) (Nat.le_of_ble_eq_true rfl) (fun Y hX hQ => ?_)
  refine j_lv (lv' := [(0, .ref (gm G 0)), (1, .int x1), (2, .int x2)]) rfl ?_
  unfold f_X11_quartersOf at hf
  refine j_iconst (v := 0) hX dX11_quartersOf_0 1 rfl (by decide) ?_
  refine j_istore_n hX dX11_quartersOf_1 2 rfl rfl (by decide) (lv' := [(3, .int 0), (0, .ref (gm G 0)), (1, .int x1), (2, .int x2)]) rfl ?_
  refine j_sub [1, 2, 3, 0] rfl ?_
  exact u_X11_quartersOf_2 hX hQ   fu (x1, x2, 0, m_lineLives, m_quarterMany, m_quarters) hf
def g_X11_quarter_64 (m_code : Int32) (m_lineLives : Nat → Int32) (m_quarterMany : Nat → Int32) (m_quarters : Nat → Int32) (s0 : Int32) : Option (Int32 × Int32 × (Nat → Int32) × (Nat → Int32) × (Nat → Int32)) :=
  some (s0, m_code, m_lineLives, m_quarterMany, m_quarters)
set_option maxRecDepth 100000 in
set_option maxHeartbeats 4000000 in
theorem t_X11_quarter_64 {Y : YT} {r : Int32 × Int32 × (Nat → Int32) × (Nat → Int32) × (Nat → Int32)}  (hX : CX l G cX11_quarter 5 RX11 Y) (hQ : EQi G Y 0 0 .int r.1 (WM G r.2.1 m_people m_grants m_texts m_copies m_taped m_faultPlace m_isFemale m_born m_died m_father m_mother m_fatherGrade m_motherGrade m_grantTo m_grantArms m_grantYear m_copyYear m_copyRow m_tape m_textYear m_ruleMany m_ruleFrom m_codeRow m_stack m_ruleKind m_codes m_at m_read m_token m_sign m_begins m_ends m_bad m_badPlace m_top r.2.2.1 m_markRow r.2.2.2.1 r.2.2.2.2 m_isUp m_wasUp ++ fr))  (s0 : Int32) (hf : g_X11_quarter_64 m_code m_lineLives m_quarterMany m_quarters s0 = some r) : J l G (rmD 7 0 0) Y 0 0 64 [] [.int s0] (WM G m_code m_people m_grants m_texts m_copies m_taped m_faultPlace m_isFemale m_born m_died m_father m_mother m_fatherGrade m_motherGrade m_grantTo m_grantArms m_grantYear m_copyYear m_copyRow m_tape m_textYear m_ruleMany m_ruleFrom m_codeRow m_stack m_ruleKind m_codes m_at m_read m_token m_sign m_begins m_ends m_bad m_badPlace m_top m_lineLives m_markRow m_quarterMany m_quarters m_isUp m_wasUp ++ fr) := by
  unfold g_X11_quarter_64 at hf
  replace hf := Option.some.inj hf
  subst hf
  exact j_iret hX hQ dX11_quarter_64
def g_X11_quarter_46 (m_lineLives : Nat → Int32) (m_quarterMany : Nat → Int32) (m_quarters : Nat → Int32) : Option (Int32 × Int32 × (Nat → Int32) × (Nat → Int32) × (Nat → Int32)) :=
  (f_X11_fail ).bind fun v6 => g_X11_quarter_64 v6.2 m_lineLives m_quarterMany m_quarters v6.1
set_option maxRecDepth 100000 in
set_option maxHeartbeats 4000000 in
theorem t_X11_quarter_46 {Y : YT} {r : Int32 × Int32 × (Nat → Int32) × (Nat → Int32) × (Nat → Int32)}  (hX : CX l G cX11_quarter 5 RX11 Y) (hQ : EQi G Y 0 0 .int r.1 (WM G r.2.1 m_people m_grants m_texts m_copies m_taped m_faultPlace m_isFemale m_born m_died m_father m_mother m_fatherGrade m_motherGrade m_grantTo m_grantArms m_grantYear m_copyYear m_copyRow m_tape m_textYear m_ruleMany m_ruleFrom m_codeRow m_stack m_ruleKind m_codes m_at m_read m_token m_sign m_begins m_ends m_bad m_badPlace m_top r.2.2.1 m_markRow r.2.2.2.1 r.2.2.2.2 m_isUp m_wasUp ++ fr))   (hf : g_X11_quarter_46 m_lineLives m_quarterMany m_quarters = some r) : J l G (rmD 7 0 0) Y 0 0 46 [(0, .ref (gm G 0))] [] (WM G m_code m_people m_grants m_texts m_copies m_taped m_faultPlace m_isFemale m_born m_died m_father m_mother m_fatherGrade m_motherGrade m_grantTo m_grantArms m_grantYear m_copyYear m_copyRow m_tape m_textYear m_ruleMany m_ruleFrom m_codeRow m_stack m_ruleKind m_codes m_at m_read m_token m_sign m_begins m_ends m_bad m_badPlace m_top m_lineLives m_markRow m_quarterMany m_quarters m_isUp m_wasUp ++ fr) := by
  unfold g_X11_quarter_46 at hf
  refine j_aload_n hX dX11_quarter_46 47 rfl 0 rfl rfl ?_
  obtain ⟨v6, hv6, hf⟩ := ibd hf
  refine z_i (As := []) (rest := []) (q0 := 0) hX dX11_quarter_47 50 rfl (t_X11_fail  hv6) mc_X11_fail mv_X11_fail ml_X11_127 rfl rfl (Nat.le_of_ble_eq_true rfl) (Nat.le_refl _) (Nat.le_refl _) rfl (Nat.le_of_ble_eq_true rfl) ?_
  refine j_goto hX dX11_quarter_50 64 rfl ?_
  refine j_sub [] rfl ?_
  exact t_X11_quarter_64 hX hQ   v6.1 hf
def f_X11_quarter (fu : Nat) (m_people : Int32) (m_grants : Int32) (m_isFemale : Nat → Int32) (m_born : Nat → Int32) (m_died : Nat → Int32) (m_father : Nat → Int32) (m_mother : Nat → Int32) (m_grantTo : Nat → Int32) (m_grantArms : Nat → Int32) (m_grantYear : Nat → Int32) (m_lineLives : Nat → Int32) (m_quarterMany : Nat → Int32) (m_quarters : Nat → Int32) (x1 : Int32) (x2 : Int32) (x3 : Int32) : Option (Int32 × Int32 × (Nat → Int32) × (Nat → Int32) × (Nat → Int32)) :=
  (f_X11_is m_people x1).bind fun v1 => if v1 = 0 then (f_X11_fail ).bind fun v9 => some (v9.1, v9.2, m_lineLives, m_quarterMany, m_quarters) else (f_X11_quartersOf fu m_people m_grants m_isFemale m_born m_died m_father m_mother m_grantTo m_grantArms m_grantYear m_lineLives m_quarterMany m_quarters x1 x2).bind fun v3 => if x3 = ((-1)) then g_X11_quarter_64 0 v3.2.1 v3.2.2.1 v3.2.2.2 v3.1 else if x3 < 0 then g_X11_quarter_46 v3.2.1 v3.2.2.1 v3.2.2.2 else if x3 < v3.1 then if inb ((12 * x1) + x3) 720 = true then g_X11_quarter_64 0 v3.2.1 v3.2.2.1 v3.2.2.2 (v3.2.2.2 (Int32.toNatClampNeg ((12 * x1) + x3))) else none else g_X11_quarter_46 v3.2.1 v3.2.2.1 v3.2.2.2
set_option maxRecDepth 100000 in
set_option maxHeartbeats 4000000 in
theorem t_X11_quarter {fu : Nat}  (x1 : Int32) (x2 : Int32) (x3 : Int32) {r : Int32 × Int32 × (Nat → Int32) × (Nat → Int32) × (Nat → Int32)} (hf : f_X11_quarter fu m_people m_grants m_isFemale m_born m_died m_father m_mother m_grantTo m_grantArms m_grantYear m_lineLives m_quarterMany m_quarters x1 x2 x3 = some r) : Ci l G 7 0 0 yX11_quarter cX11_quarter 5 .int [.ref (gm G 0), .int x1, .int x2, .int x3] (WM G m_code m_people m_grants m_texts m_copies m_taped m_faultPlace m_isFemale m_born m_died m_father m_mother m_fatherGrade m_motherGrade m_grantTo m_grantArms m_grantYear m_copyYear m_copyRow m_tape m_textYear m_ruleMany m_ruleFrom m_codeRow m_stack m_ruleKind m_codes m_at m_read m_token m_sign m_begins m_ends m_bad m_badPlace m_top m_lineLives m_markRow m_quarterMany m_quarters m_isUp m_wasUp ++ fr) r.1 (WM G r.2.1 m_people m_grants m_texts m_copies m_taped m_faultPlace m_isFemale m_born m_died m_father m_mother m_fatherGrade m_motherGrade m_grantTo m_grantArms m_grantYear m_copyYear m_copyRow m_tape m_textYear m_ruleMany m_ruleFrom m_codeRow m_stack m_ruleKind m_codes m_at m_read m_token m_sign m_begins m_ends m_bad m_badPlace m_top r.2.2.1 m_markRow r.2.2.2.1 r.2.2.2.2 m_isUp m_wasUp ++ fr) := by
  refine Ci.of (by decide) (Nat.le_of_ble_eq_true rfl) (fun Y hX hQ => ?_)
  refine j_lv (lv' := [(0, .ref (gm G 0)), (1, .int x1), (2, .int x2), (3, .int x3)]) rfl ?_
  unfold f_X11_quarter at hf
  refine j_aload_n hX dX11_quarter_0 1 rfl 0 rfl rfl ?_
  refine j_iconst (v := 0) hX dX11_quarter_1 2 rfl (by decide) ?_
  refine j_put hX dX11_quarter_2 5 rfl fg_X11_110 ft_X11_1 0 rfl rfl rfl (Nat.le_of_ble_eq_true rfl) (ws' := (WM G 0 m_people m_grants m_texts m_copies m_taped m_faultPlace m_isFemale m_born m_died m_father m_mother m_fatherGrade m_motherGrade m_grantTo m_grantArms m_grantYear m_copyYear m_copyRow m_tape m_textYear m_ruleMany m_ruleFrom m_codeRow m_stack m_ruleKind m_codes m_at m_read m_token m_sign m_begins m_ends m_bad m_badPlace m_top m_lineLives m_markRow m_quarterMany m_quarters m_isUp m_wasUp ++ fr)) rfl ?_
  refine j_aload_n hX dX11_quarter_5 6 rfl 0 rfl rfl ?_
  refine j_iload_n hX dX11_quarter_6 7 rfl 1 rfl rfl ?_
  obtain ⟨v1, hv1, hf⟩ := ibd hf
  refine z_i (As := [.int x1]) (rest := []) (q0 := 0) hX dX11_quarter_7 10 rfl (t_X11_is x1 hv1) mc_X11_is mv_X11_is ml_X11_124 rfl rfl (Nat.le_of_ble_eq_true rfl) (Nat.le_refl _) (Nat.le_refl _) rfl (Nat.le_of_ble_eq_true rfl) ?_
  refine j_if_ne hX dX11_quarter_10 13 18 rfl rfl (fun h2 => ?_) (fun h2 => ?_)
  · replace hf := itf h2 hf
    refine j_aload_n hX dX11_quarter_18 19 rfl 0 rfl rfl ?_
    refine j_iload_n hX dX11_quarter_19 20 rfl 1 rfl rfl ?_
    refine j_iload_n hX dX11_quarter_20 21 rfl 2 rfl rfl ?_
    obtain ⟨v3, hv3, hf⟩ := ibd hf
    refine z_i (As := [.int x1, .int x2]) (rest := []) (q0 := 0) hX dX11_quarter_21 24 rfl (t_X11_quartersOf x1 x2 hv3) mc_X11_quartersOf mv_X11_quartersOf ml_X11_188 rfl rfl (Nat.le_of_ble_eq_true rfl) (Nat.le_refl _) (Nat.le_refl _) rfl (Nat.le_of_ble_eq_true rfl) ?_
    refine j_istore hX dX11_quarter_24 26 rfl (by decide) (lv' := [(4, .int v3.1), (0, .ref (gm G 0)), (1, .int x1), (2, .int x2), (3, .int x3)]) rfl ?_
    refine j_iload_n hX dX11_quarter_26 27 rfl 4 rfl rfl ?_
    refine j_iconst (v := (-1)) hX dX11_quarter_27 28 rfl (by decide) ?_
    refine j_icmp_ne hX dX11_quarter_28 31 36 rfl rfl (fun h4 => ?_) (fun h4 => ?_)
    · replace hf := itf h4 hf
      refine j_iload_n hX dX11_quarter_36 37 rfl 4 rfl rfl ?_
      refine j_if_lt hX dX11_quarter_37 40 46 rfl rfl (fun h5 => ?_) (fun h5 => ?_)
      · replace hf := itt h5 hf
        refine j_sub [1] rfl ?_
        exact t_X11_quarter_46 hX hQ    hf
      · replace hf := itf h5 hf
        refine j_iload_n hX dX11_quarter_40 41 rfl 4 rfl rfl ?_
        refine j_iload hX dX11_quarter_41 43 rfl 0 rfl ?_
        refine j_icmp_lt hX dX11_quarter_43 46 53 rfl rfl (fun h7 => ?_) (fun h7 => ?_)
        · replace hf := itt h7 hf
          refine j_aload_n hX dX11_quarter_53 54 rfl 1 rfl rfl ?_
          refine j_get hX dX11_quarter_54 57 rfl fg_X11_102 0 rfl rfl ?_
          refine j_bipush (v := 12) hX dX11_quarter_57 59 rfl (by decide) ?_
          refine j_iload_n hX dX11_quarter_59 60 rfl 2 rfl rfl ?_
          refine j_imul hX dX11_quarter_60 61 rfl ?_
          refine j_iload_n hX dX11_quarter_61 62 rfl 4 rfl rfl ?_
          refine j_iadd hX dX11_quarter_62 63 rfl ?_
          obtain ⟨hb8, hf⟩ := ign hf
          refine j_iald hX dX11_quarter_63 64 rfl 24 rfl hb8 ?_
          refine j_sub [] rfl ?_
          exact t_X11_quarter_64 hX hQ   (v3.2.2.2 (Int32.toNatClampNeg ((12 * x1) + x3))) hf
        · replace hf := itf h7 hf
          refine j_sub [1] rfl ?_
          exact t_X11_quarter_46 hX hQ    hf
    · replace hf := itt h4 hf
      refine j_iload hX dX11_quarter_31 33 rfl 0 rfl ?_
      refine j_goto hX dX11_quarter_33 64 rfl ?_
      refine j_sub [] rfl ?_
      exact t_X11_quarter_64 hX hQ   v3.1 hf
  · replace hf := itt h2 hf
    refine j_aload_n hX dX11_quarter_13 14 rfl 0 rfl rfl ?_
    obtain ⟨v9, hv9, hf⟩ := ibd hf
    refine z_i (As := []) (rest := []) (q0 := 0) hX dX11_quarter_14 17 rfl (t_X11_fail  hv9) mc_X11_fail mv_X11_fail ml_X11_127 rfl rfl (Nat.le_of_ble_eq_true rfl) (Nat.le_refl _) (Nat.le_refl _) rfl (Nat.le_of_ble_eq_true rfl) ?_
    replace hf := Option.some.inj hf
    subst hf
    exact j_iret hX hQ dX11_quarter_17
def g_X11_rivalsOf_65 (x4 : Int32) : Option (Int32) :=
  some x4
set_option maxRecDepth 100000 in
set_option maxHeartbeats 4000000 in
theorem t_X11_rivalsOf_65 {Y : YT} {r : Int32}  (hX : CX l G cX11_rivalsOf 6 RX11 Y) (hQ : EQi G Y 0 0 .int r (WM G m_code m_people m_grants m_texts m_copies m_taped m_faultPlace m_isFemale m_born m_died m_father m_mother m_fatherGrade m_motherGrade m_grantTo m_grantArms m_grantYear m_copyYear m_copyRow m_tape m_textYear m_ruleMany m_ruleFrom m_codeRow m_stack m_ruleKind m_codes m_at m_read m_token m_sign m_begins m_ends m_bad m_badPlace m_top m_lineLives m_markRow m_quarterMany m_quarters m_isUp m_wasUp ++ fr))  (x4 : Int32) (hf : g_X11_rivalsOf_65 x4 = some r) : J l G (rmD 3 0 0) Y 0 0 65 [(4, .int x4)] [] (WM G m_code m_people m_grants m_texts m_copies m_taped m_faultPlace m_isFemale m_born m_died m_father m_mother m_fatherGrade m_motherGrade m_grantTo m_grantArms m_grantYear m_copyYear m_copyRow m_tape m_textYear m_ruleMany m_ruleFrom m_codeRow m_stack m_ruleKind m_codes m_at m_read m_token m_sign m_begins m_ends m_bad m_badPlace m_top m_lineLives m_markRow m_quarterMany m_quarters m_isUp m_wasUp ++ fr) := by
  unfold g_X11_rivalsOf_65 at hf
  refine j_iload hX dX11_rivalsOf_65 67 rfl 0 rfl ?_
  replace hf := Option.some.inj hf
  subst hf
  exact j_iret hX hQ dX11_rivalsOf_67
def g_X11_rivalsOf_56 (k13 : Int32 → Int32 → Int32 → Int32 → Option (Int32)) (x2 : Int32) (x3 : Int32) (x5 : Int32) (s0 : Int32) (s1 : Int32) : Option (Int32) :=
  k13 x2 x3 (s1 + s0) (x5 + 1)
set_option maxRecDepth 100000 in
set_option maxHeartbeats 4000000 in
theorem t_X11_rivalsOf_56 {Y : YT} {r : Int32} {k13 : Int32 → Int32 → Int32 → Int32 → Option (Int32)} (hX : CX l G cX11_rivalsOf 6 RX11 Y) (hQ : EQi G Y 0 0 .int r (WM G m_code m_people m_grants m_texts m_copies m_taped m_faultPlace m_isFemale m_born m_died m_father m_mother m_fatherGrade m_motherGrade m_grantTo m_grantArms m_grantYear m_copyYear m_copyRow m_tape m_textYear m_ruleMany m_ruleFrom m_codeRow m_stack m_ruleKind m_codes m_at m_read m_token m_sign m_begins m_ends m_bad m_badPlace m_top m_lineLives m_markRow m_quarterMany m_quarters m_isUp m_wasUp ++ fr)) (hk13 : ∀ (x2 : Int32) (x3 : Int32) (x4 : Int32) (x5 : Int32), k13 x2 x3 x4 x5  = some r → J l G (rmD 3 0 0) Y 0 0 13 [(0, .ref (gm G 0)), (2, .int x2), (3, .int x3), (4, .int x4), (5, .int x5)] [] (WM G m_code m_people m_grants m_texts m_copies m_taped m_faultPlace m_isFemale m_born m_died m_father m_mother m_fatherGrade m_motherGrade m_grantTo m_grantArms m_grantYear m_copyYear m_copyRow m_tape m_textYear m_ruleMany m_ruleFrom m_codeRow m_stack m_ruleKind m_codes m_at m_read m_token m_sign m_begins m_ends m_bad m_badPlace m_top m_lineLives m_markRow m_quarterMany m_quarters m_isUp m_wasUp ++ fr)) (x2 : Int32) (x3 : Int32) (x5 : Int32) (s0 : Int32) (s1 : Int32) (hf : g_X11_rivalsOf_56 k13 x2 x3 x5 s0 s1 = some r) : J l G (rmD 3 0 0) Y 0 0 56 [(0, .ref (gm G 0)), (2, .int x2), (3, .int x3), (5, .int x5)] [.int s0, .int s1] (WM G m_code m_people m_grants m_texts m_copies m_taped m_faultPlace m_isFemale m_born m_died m_father m_mother m_fatherGrade m_motherGrade m_grantTo m_grantArms m_grantYear m_copyYear m_copyRow m_tape m_textYear m_ruleMany m_ruleFrom m_codeRow m_stack m_ruleKind m_codes m_at m_read m_token m_sign m_begins m_ends m_bad m_badPlace m_top m_lineLives m_markRow m_quarterMany m_quarters m_isUp m_wasUp ++ fr) := by
  unfold g_X11_rivalsOf_56 at hf
  refine j_iadd hX dX11_rivalsOf_56 57 rfl ?_
  refine j_istore hX dX11_rivalsOf_57 59 rfl (by decide) (lv' := [(4, .int (s1 + s0)), (0, .ref (gm G 0)), (2, .int x2), (3, .int x3), (5, .int x5)]) rfl ?_
  refine j_iinc (v := x5 + 1) hX dX11_rivalsOf_59 62 rfl 4 rfl rfl (by decide) (lv' := [(5, .int (x5 + 1)), (4, .int (s1 + s0)), (0, .ref (gm G 0)), (2, .int x2), (3, .int x3)]) rfl ?_
  refine j_goto hX dX11_rivalsOf_62 13 rfl ?_
  refine j_sub [2, 3, 4, 1, 0] rfl ?_
  exact hk13 x2 x3 (s1 + s0) (x5 + 1) hf
def g_X11_rivalsOf_55 (k13 : Int32 → Int32 → Int32 → Int32 → Option (Int32)) (x2 : Int32) (x3 : Int32) (x5 : Int32) (s0 : Int32) : Option (Int32) :=
  g_X11_rivalsOf_56 k13 x2 x3 x5 0 s0
set_option maxRecDepth 100000 in
set_option maxHeartbeats 4000000 in
theorem t_X11_rivalsOf_55 {Y : YT} {r : Int32} {k13 : Int32 → Int32 → Int32 → Int32 → Option (Int32)} (hX : CX l G cX11_rivalsOf 6 RX11 Y) (hQ : EQi G Y 0 0 .int r (WM G m_code m_people m_grants m_texts m_copies m_taped m_faultPlace m_isFemale m_born m_died m_father m_mother m_fatherGrade m_motherGrade m_grantTo m_grantArms m_grantYear m_copyYear m_copyRow m_tape m_textYear m_ruleMany m_ruleFrom m_codeRow m_stack m_ruleKind m_codes m_at m_read m_token m_sign m_begins m_ends m_bad m_badPlace m_top m_lineLives m_markRow m_quarterMany m_quarters m_isUp m_wasUp ++ fr)) (hk13 : ∀ (x2 : Int32) (x3 : Int32) (x4 : Int32) (x5 : Int32), k13 x2 x3 x4 x5  = some r → J l G (rmD 3 0 0) Y 0 0 13 [(0, .ref (gm G 0)), (2, .int x2), (3, .int x3), (4, .int x4), (5, .int x5)] [] (WM G m_code m_people m_grants m_texts m_copies m_taped m_faultPlace m_isFemale m_born m_died m_father m_mother m_fatherGrade m_motherGrade m_grantTo m_grantArms m_grantYear m_copyYear m_copyRow m_tape m_textYear m_ruleMany m_ruleFrom m_codeRow m_stack m_ruleKind m_codes m_at m_read m_token m_sign m_begins m_ends m_bad m_badPlace m_top m_lineLives m_markRow m_quarterMany m_quarters m_isUp m_wasUp ++ fr)) (x2 : Int32) (x3 : Int32) (x5 : Int32) (s0 : Int32) (hf : g_X11_rivalsOf_55 k13 x2 x3 x5 s0 = some r) : J l G (rmD 3 0 0) Y 0 0 55 [(0, .ref (gm G 0)), (2, .int x2), (3, .int x3), (5, .int x5)] [.int s0] (WM G m_code m_people m_grants m_texts m_copies m_taped m_faultPlace m_isFemale m_born m_died m_father m_mother m_fatherGrade m_motherGrade m_grantTo m_grantArms m_grantYear m_copyYear m_copyRow m_tape m_textYear m_ruleMany m_ruleFrom m_codeRow m_stack m_ruleKind m_codes m_at m_read m_token m_sign m_begins m_ends m_bad m_badPlace m_top m_lineLives m_markRow m_quarterMany m_quarters m_isUp m_wasUp ++ fr) := by
  unfold g_X11_rivalsOf_55 at hf
  refine j_iconst (v := 0) hX dX11_rivalsOf_55 56 rfl (by decide) ?_
  exact t_X11_rivalsOf_56 hX hQ  hk13 x2 x3 x5 0 s0 hf
def g_X11_rivalsOf_13 (fu : Nat) (m_people : Int32) (m_grants : Int32) (m_grantTo : Nat → Int32) (m_grantArms : Nat → Int32) (m_grantYear : Nat → Int32) (k13 : Int32 → Int32 → Int32 → Int32 → Option (Int32)) (x2 : Int32) (x3 : Int32) (x4 : Int32) (x5 : Int32) : Option (Int32) :=
  if m_people ≤ x5 then g_X11_rivalsOf_65 x4 else if x3 = ((-1)) then g_X11_rivalsOf_65 x4 else if x5 = x3 then g_X11_rivalsOf_55 k13 x2 x3 x5 x4 else (f_X11_own fu m_grants m_grantTo m_grantArms m_grantYear x5 x2).bind fun v5 => (f_X11_own fu m_grants m_grantTo m_grantArms m_grantYear x3 x2).bind fun v6 => if v5 = v6 then g_X11_rivalsOf_56 k13 x2 x3 x5 1 x4 else g_X11_rivalsOf_55 k13 x2 x3 x5 x4
set_option maxRecDepth 100000 in
set_option maxHeartbeats 4000000 in
theorem t_X11_rivalsOf_13 {fu : Nat} {Y : YT} {r : Int32} {k13 : Int32 → Int32 → Int32 → Int32 → Option (Int32)} (hX : CX l G cX11_rivalsOf 6 RX11 Y) (hQ : EQi G Y 0 0 .int r (WM G m_code m_people m_grants m_texts m_copies m_taped m_faultPlace m_isFemale m_born m_died m_father m_mother m_fatherGrade m_motherGrade m_grantTo m_grantArms m_grantYear m_copyYear m_copyRow m_tape m_textYear m_ruleMany m_ruleFrom m_codeRow m_stack m_ruleKind m_codes m_at m_read m_token m_sign m_begins m_ends m_bad m_badPlace m_top m_lineLives m_markRow m_quarterMany m_quarters m_isUp m_wasUp ++ fr)) (hk13 : ∀ (x2 : Int32) (x3 : Int32) (x4 : Int32) (x5 : Int32), k13 x2 x3 x4 x5  = some r → J l G (rmD 3 0 0) Y 0 0 13 [(0, .ref (gm G 0)), (2, .int x2), (3, .int x3), (4, .int x4), (5, .int x5)] [] (WM G m_code m_people m_grants m_texts m_copies m_taped m_faultPlace m_isFemale m_born m_died m_father m_mother m_fatherGrade m_motherGrade m_grantTo m_grantArms m_grantYear m_copyYear m_copyRow m_tape m_textYear m_ruleMany m_ruleFrom m_codeRow m_stack m_ruleKind m_codes m_at m_read m_token m_sign m_begins m_ends m_bad m_badPlace m_top m_lineLives m_markRow m_quarterMany m_quarters m_isUp m_wasUp ++ fr)) (x2 : Int32) (x3 : Int32) (x4 : Int32) (x5 : Int32) (hf : g_X11_rivalsOf_13 fu m_people m_grants m_grantTo m_grantArms m_grantYear k13 x2 x3 x4 x5 = some r) : J l G (rmD 3 0 0) Y 0 0 13 [(0, .ref (gm G 0)), (2, .int x2), (3, .int x3), (4, .int x4), (5, .int x5)] [] (WM G m_code m_people m_grants m_texts m_copies m_taped m_faultPlace m_isFemale m_born m_died m_father m_mother m_fatherGrade m_motherGrade m_grantTo m_grantArms m_grantYear m_copyYear m_copyRow m_tape m_textYear m_ruleMany m_ruleFrom m_codeRow m_stack m_ruleKind m_codes m_at m_read m_token m_sign m_begins m_ends m_bad m_badPlace m_top m_lineLives m_markRow m_quarterMany m_quarters m_isUp m_wasUp ++ fr) := by
  unfold g_X11_rivalsOf_13 at hf
  refine j_iload hX dX11_rivalsOf_13 15 rfl 4 rfl ?_
  refine j_aload_n hX dX11_rivalsOf_15 16 rfl 0 rfl rfl ?_
  refine j_get hX dX11_rivalsOf_16 19 rfl fg_X11_113 0 rfl rfl ?_
  refine j_icmp_ge hX dX11_rivalsOf_19 22 65 rfl rfl (fun h2 => ?_) (fun h2 => ?_)
  · replace hf := itt h2 hf
    refine j_sub [3] rfl ?_
    exact t_X11_rivalsOf_65 hX hQ   x4 hf
  · replace hf := itf h2 hf
    refine j_iload_n hX dX11_rivalsOf_22 23 rfl 2 rfl rfl ?_
    refine j_iconst (v := (-1)) hX dX11_rivalsOf_23 24 rfl (by decide) ?_
    refine j_icmp_eq hX dX11_rivalsOf_24 27 65 rfl rfl (fun h3 => ?_) (fun h3 => ?_)
    · replace hf := itt h3 hf
      refine j_sub [3] rfl ?_
      exact t_X11_rivalsOf_65 hX hQ   x4 hf
    · replace hf := itf h3 hf
      refine j_iload hX dX11_rivalsOf_27 29 rfl 3 rfl ?_
      refine j_iload hX dX11_rivalsOf_29 31 rfl 4 rfl ?_
      refine j_iload_n hX dX11_rivalsOf_31 32 rfl 2 rfl rfl ?_
      refine j_icmp_eq hX dX11_rivalsOf_32 35 55 rfl rfl (fun h4 => ?_) (fun h4 => ?_)
      · replace hf := itt h4 hf
        refine j_sub [0, 1, 2, 4] rfl ?_
        exact t_X11_rivalsOf_55 hX hQ  hk13 x2 x3 x5 x4 hf
      · replace hf := itf h4 hf
        refine j_aload_n hX dX11_rivalsOf_35 36 rfl 0 rfl rfl ?_
        refine j_iload hX dX11_rivalsOf_36 38 rfl 4 rfl ?_
        refine j_iload_n hX dX11_rivalsOf_38 39 rfl 1 rfl rfl ?_
        obtain ⟨v5, hv5, hf⟩ := ibd hf
        refine z_i (As := [.int x5, .int x2]) (rest := [.int x4]) (q0 := 0) hX dX11_rivalsOf_39 42 rfl (t_X11_own x5 x2 hv5) mc_X11_own mv_X11_own ml_X11_141 rfl rfl (Nat.le_of_ble_eq_true rfl) (Nat.le_refl _) (Nat.le_refl _) rfl (Nat.le_of_ble_eq_true rfl) ?_
        refine j_aload_n hX dX11_rivalsOf_42 43 rfl 0 rfl rfl ?_
        refine j_iload_n hX dX11_rivalsOf_43 44 rfl 2 rfl rfl ?_
        refine j_iload_n hX dX11_rivalsOf_44 45 rfl 1 rfl rfl ?_
        obtain ⟨v6, hv6, hf⟩ := ibd hf
        refine z_i (As := [.int x3, .int x2]) (rest := [.int v5, .int x4]) (q0 := 0) hX dX11_rivalsOf_45 48 rfl (t_X11_own x3 x2 hv6) mc_X11_own mv_X11_own ml_X11_141 rfl rfl (Nat.le_of_ble_eq_true rfl) (Nat.le_refl _) (Nat.le_refl _) rfl (Nat.le_of_ble_eq_true rfl) ?_
        refine j_icmp_ne hX dX11_rivalsOf_48 51 55 rfl rfl (fun h7 => ?_) (fun h7 => ?_)
        · replace hf := itf h7 hf
          refine j_sub [0, 1, 2, 4] rfl ?_
          exact t_X11_rivalsOf_55 hX hQ  hk13 x2 x3 x5 x4 hf
        · replace hf := itt h7 hf
          refine j_iconst (v := 1) hX dX11_rivalsOf_51 52 rfl (by decide) ?_
          refine j_goto hX dX11_rivalsOf_52 56 rfl ?_
          refine j_sub [0, 1, 2, 4] rfl ?_
          exact t_X11_rivalsOf_56 hX hQ  hk13 x2 x3 x5 1 x4 hf
def f_X11_rivalsOf_13 (fu : Nat) (m_people : Int32) (m_grants : Int32) (m_grantTo : Nat → Int32) (m_grantArms : Nat → Int32) (m_grantYear : Nat → Int32) : Nat → (Int32 × Int32 × Int32 × Int32) → Option (Int32) :=
  lp (fun k v => g_X11_rivalsOf_13 fu m_people m_grants m_grantTo m_grantArms m_grantYear (fun x2 x3 x4 x5 => k (x2, x3, x4, x5)) v.1 v.2.1 v.2.2.1 v.2.2.2)
set_option maxRecDepth 100000 in
set_option maxHeartbeats 4000000 in
theorem u_X11_rivalsOf_13 {fu : Nat} {Y : YT} {r : Int32}  (hX : CX l G cX11_rivalsOf 6 RX11 Y) (hQ : EQi G Y 0 0 .int r (WM G m_code m_people m_grants m_texts m_copies m_taped m_faultPlace m_isFemale m_born m_died m_father m_mother m_fatherGrade m_motherGrade m_grantTo m_grantArms m_grantYear m_copyYear m_copyRow m_tape m_textYear m_ruleMany m_ruleFrom m_codeRow m_stack m_ruleKind m_codes m_at m_read m_token m_sign m_begins m_ends m_bad m_badPlace m_top m_lineLives m_markRow m_quarterMany m_quarters m_isUp m_wasUp ++ fr))  (n : Nat) (v : Int32 × Int32 × Int32 × Int32) (hf : f_X11_rivalsOf_13 fu m_people m_grants m_grantTo m_grantArms m_grantYear n v = some r) : J l G (rmD 3 0 0) Y 0 0 13 [(0, .ref (gm G 0)), (2, .int v.1), (3, .int v.2.1), (4, .int v.2.2.1), (5, .int v.2.2.2)] [] (WM G m_code m_people m_grants m_texts m_copies m_taped m_faultPlace m_isFemale m_born m_died m_father m_mother m_fatherGrade m_motherGrade m_grantTo m_grantArms m_grantYear m_copyYear m_copyRow m_tape m_textYear m_ruleMany m_ruleFrom m_codeRow m_stack m_ruleKind m_codes m_at m_read m_token m_sign m_begins m_ends m_bad m_badPlace m_top m_lineLives m_markRow m_quarterMany m_quarters m_isUp m_wasUp ++ fr) :=
  lp_ind (P := fun v : Int32 × Int32 × Int32 × Int32 => J l G (rmD 3 0 0) Y 0 0 13 [(0, .ref (gm G 0)), (2, .int v.1), (3, .int v.2.1), (4, .int v.2.2.1), (5, .int v.2.2.2)] [] (WM G m_code m_people m_grants m_texts m_copies m_taped m_faultPlace m_isFemale m_born m_died m_father m_mother m_fatherGrade m_motherGrade m_grantTo m_grantArms m_grantYear m_copyYear m_copyRow m_tape m_textYear m_ruleMany m_ruleFrom m_codeRow m_stack m_ruleKind m_codes m_at m_read m_token m_sign m_begins m_ends m_bad m_badPlace m_top m_lineLives m_markRow m_quarterMany m_quarters m_isUp m_wasUp ++ fr)) (fun k hk v hf => t_X11_rivalsOf_13 hX hQ   (fun x2 x3 x4 x5 h => hk (x2, x3, x4, x5) h) v.1 v.2.1 v.2.2.1 v.2.2.2 hf) n v hf
def f_X11_rivalsOf (fu : Nat) (m_people : Int32) (m_grants : Int32) (m_father : Nat → Int32) (m_grantTo : Nat → Int32) (m_grantArms : Nat → Int32) (m_grantYear : Nat → Int32) (x1 : Int32) (x2 : Int32) : Option (Int32) :=
  (f_X11_rootOf fu m_grants m_father m_grantTo m_grantArms m_grantYear x1 x2).bind fun v1 => f_X11_rivalsOf_13 fu m_people m_grants m_grantTo m_grantArms m_grantYear fu (x2, v1, 0, 0)
set_option maxRecDepth 100000 in
set_option maxHeartbeats 4000000 in
theorem t_X11_rivalsOf {fu : Nat}  (x1 : Int32) (x2 : Int32) {r : Int32} (hf : f_X11_rivalsOf fu m_people m_grants m_father m_grantTo m_grantArms m_grantYear x1 x2 = some r) : Ci l G 3 0 0 yX11_rivalsOf cX11_rivalsOf 6 .int [.ref (gm G 0), .int x1, .int x2] (WM G m_code m_people m_grants m_texts m_copies m_taped m_faultPlace m_isFemale m_born m_died m_father m_mother m_fatherGrade m_motherGrade m_grantTo m_grantArms m_grantYear m_copyYear m_copyRow m_tape m_textYear m_ruleMany m_ruleFrom m_codeRow m_stack m_ruleKind m_codes m_at m_read m_token m_sign m_begins m_ends m_bad m_badPlace m_top m_lineLives m_markRow m_quarterMany m_quarters m_isUp m_wasUp ++ fr) r (WM G m_code m_people m_grants m_texts m_copies m_taped m_faultPlace m_isFemale m_born m_died m_father m_mother m_fatherGrade m_motherGrade m_grantTo m_grantArms m_grantYear m_copyYear m_copyRow m_tape m_textYear m_ruleMany m_ruleFrom m_codeRow m_stack m_ruleKind m_codes m_at m_read m_token m_sign m_begins m_ends m_bad m_badPlace m_top m_lineLives m_markRow m_quarterMany m_quarters m_isUp m_wasUp ++ fr) := by
  refine Ci.of (by decide) (Nat.le_of_ble_eq_true rfl) (fun Y hX hQ => ?_)
  refine j_lv (lv' := [(0, .ref (gm G 0)), (1, .int x1), (2, .int x2)]) rfl ?_
  unfold f_X11_rivalsOf at hf
  refine j_aload_n hX dX11_rivalsOf_0 1 rfl 0 rfl rfl ?_
  refine j_iload_n hX dX11_rivalsOf_1 2 rfl 1 rfl rfl ?_
  refine j_iload_n hX dX11_rivalsOf_2 3 rfl 2 rfl rfl ?_
  obtain ⟨v1, hv1, hf⟩ := ibd hf
  refine z_i (As := [.int x1, .int x2]) (rest := []) (q0 := 0) hX dX11_rivalsOf_3 6 rfl (t_X11_rootOf x1 x2 hv1) mc_X11_rootOf mv_X11_rootOf ml_X11_145 rfl rfl (Nat.le_of_ble_eq_true rfl) (Nat.le_refl _) (Nat.le_refl _) rfl (Nat.le_of_ble_eq_true rfl) ?_
  refine j_istore_n hX dX11_rivalsOf_6 7 rfl rfl (by decide) (lv' := [(3, .int v1), (0, .ref (gm G 0)), (1, .int x1), (2, .int x2)]) rfl ?_
  refine j_iconst (v := 0) hX dX11_rivalsOf_7 8 rfl (by decide) ?_
  refine j_istore hX dX11_rivalsOf_8 10 rfl (by decide) (lv' := [(4, .int 0), (3, .int v1), (0, .ref (gm G 0)), (1, .int x1), (2, .int x2)]) rfl ?_
  refine j_iconst (v := 0) hX dX11_rivalsOf_10 11 rfl (by decide) ?_
  refine j_istore hX dX11_rivalsOf_11 13 rfl (by decide) (lv' := [(5, .int 0), (4, .int 0), (3, .int v1), (0, .ref (gm G 0)), (1, .int x1), (2, .int x2)]) rfl ?_
  refine j_sub [3, 5, 2, 1, 0] rfl ?_
  exact u_X11_rivalsOf_13 hX hQ   fu (x2, v1, 0, 0) hf
def g_X11_rivals_26 (m_code : Int32) (s0 : Int32) : Option (Int32 × Int32) :=
  some (s0, m_code)
set_option maxRecDepth 100000 in
set_option maxHeartbeats 4000000 in
theorem t_X11_rivals_26 {Y : YT} {r : Int32 × Int32}  (hX : CX l G cX11_rivals 3 RX11 Y) (hQ : EQi G Y 0 0 .int r.1 (WM G r.2 m_people m_grants m_texts m_copies m_taped m_faultPlace m_isFemale m_born m_died m_father m_mother m_fatherGrade m_motherGrade m_grantTo m_grantArms m_grantYear m_copyYear m_copyRow m_tape m_textYear m_ruleMany m_ruleFrom m_codeRow m_stack m_ruleKind m_codes m_at m_read m_token m_sign m_begins m_ends m_bad m_badPlace m_top m_lineLives m_markRow m_quarterMany m_quarters m_isUp m_wasUp ++ fr))  (s0 : Int32) (hf : g_X11_rivals_26 m_code s0 = some r) : J l G (rmD 4 0 0) Y 0 0 26 [] [.int s0] (WM G m_code m_people m_grants m_texts m_copies m_taped m_faultPlace m_isFemale m_born m_died m_father m_mother m_fatherGrade m_motherGrade m_grantTo m_grantArms m_grantYear m_copyYear m_copyRow m_tape m_textYear m_ruleMany m_ruleFrom m_codeRow m_stack m_ruleKind m_codes m_at m_read m_token m_sign m_begins m_ends m_bad m_badPlace m_top m_lineLives m_markRow m_quarterMany m_quarters m_isUp m_wasUp ++ fr) := by
  unfold g_X11_rivals_26 at hf
  replace hf := Option.some.inj hf
  subst hf
  exact j_iret hX hQ dX11_rivals_26
def f_X11_rivals (fu : Nat) (m_people : Int32) (m_grants : Int32) (m_father : Nat → Int32) (m_grantTo : Nat → Int32) (m_grantArms : Nat → Int32) (m_grantYear : Nat → Int32) (x1 : Int32) (x2 : Int32) : Option (Int32 × Int32) :=
  (f_X11_is m_people x1).bind fun v1 => if v1 = 0 then (f_X11_fail ).bind fun v3 => g_X11_rivals_26 v3.2 v3.1 else (f_X11_rivalsOf fu m_people m_grants m_father m_grantTo m_grantArms m_grantYear x1 x2).bind fun v4 => g_X11_rivals_26 0 v4
set_option maxRecDepth 100000 in
set_option maxHeartbeats 4000000 in
theorem t_X11_rivals {fu : Nat}  (x1 : Int32) (x2 : Int32) {r : Int32 × Int32} (hf : f_X11_rivals fu m_people m_grants m_father m_grantTo m_grantArms m_grantYear x1 x2 = some r) : Ci l G 4 0 0 yX11_rivals cX11_rivals 3 .int [.ref (gm G 0), .int x1, .int x2] (WM G m_code m_people m_grants m_texts m_copies m_taped m_faultPlace m_isFemale m_born m_died m_father m_mother m_fatherGrade m_motherGrade m_grantTo m_grantArms m_grantYear m_copyYear m_copyRow m_tape m_textYear m_ruleMany m_ruleFrom m_codeRow m_stack m_ruleKind m_codes m_at m_read m_token m_sign m_begins m_ends m_bad m_badPlace m_top m_lineLives m_markRow m_quarterMany m_quarters m_isUp m_wasUp ++ fr) r.1 (WM G r.2 m_people m_grants m_texts m_copies m_taped m_faultPlace m_isFemale m_born m_died m_father m_mother m_fatherGrade m_motherGrade m_grantTo m_grantArms m_grantYear m_copyYear m_copyRow m_tape m_textYear m_ruleMany m_ruleFrom m_codeRow m_stack m_ruleKind m_codes m_at m_read m_token m_sign m_begins m_ends m_bad m_badPlace m_top m_lineLives m_markRow m_quarterMany m_quarters m_isUp m_wasUp ++ fr) := by
  refine Ci.of (by decide) (Nat.le_of_ble_eq_true rfl) (fun Y hX hQ => ?_)
  refine j_lv (lv' := [(0, .ref (gm G 0)), (1, .int x1), (2, .int x2)]) rfl ?_
  unfold f_X11_rivals at hf
  refine j_aload_n hX dX11_rivals_0 1 rfl 0 rfl rfl ?_
  refine j_iconst (v := 0) hX dX11_rivals_1 2 rfl (by decide) ?_
  refine j_put hX dX11_rivals_2 5 rfl fg_X11_110 ft_X11_1 0 rfl rfl rfl (Nat.le_of_ble_eq_true rfl) (ws' := (WM G 0 m_people m_grants m_texts m_copies m_taped m_faultPlace m_isFemale m_born m_died m_father m_mother m_fatherGrade m_motherGrade m_grantTo m_grantArms m_grantYear m_copyYear m_copyRow m_tape m_textYear m_ruleMany m_ruleFrom m_codeRow m_stack m_ruleKind m_codes m_at m_read m_token m_sign m_begins m_ends m_bad m_badPlace m_top m_lineLives m_markRow m_quarterMany m_quarters m_isUp m_wasUp ++ fr)) rfl ?_
  refine j_aload_n hX dX11_rivals_5 6 rfl 0 rfl rfl ?_
  refine j_iload_n hX dX11_rivals_6 7 rfl 1 rfl rfl ?_
  obtain ⟨v1, hv1, hf⟩ := ibd hf
  refine z_i (As := [.int x1]) (rest := []) (q0 := 0) hX dX11_rivals_7 10 rfl (t_X11_is x1 hv1) mc_X11_is mv_X11_is ml_X11_124 rfl rfl (Nat.le_of_ble_eq_true rfl) (Nat.le_refl _) (Nat.le_refl _) rfl (Nat.le_of_ble_eq_true rfl) ?_
  refine j_if_eq hX dX11_rivals_10 13 22 rfl rfl (fun h2 => ?_) (fun h2 => ?_)
  · replace hf := itt h2 hf
    refine j_aload_n hX dX11_rivals_22 23 rfl 0 rfl rfl ?_
    obtain ⟨v3, hv3, hf⟩ := ibd hf
    refine z_i (As := []) (rest := []) (q0 := 0) hX dX11_rivals_23 26 rfl (t_X11_fail  hv3) mc_X11_fail mv_X11_fail ml_X11_127 rfl rfl (Nat.le_of_ble_eq_true rfl) (Nat.le_refl _) (Nat.le_refl _) rfl (Nat.le_of_ble_eq_true rfl) ?_
    refine j_sub [] rfl ?_
    exact t_X11_rivals_26 hX hQ   v3.1 hf
  · replace hf := itf h2 hf
    refine j_aload_n hX dX11_rivals_13 14 rfl 0 rfl rfl ?_
    refine j_iload_n hX dX11_rivals_14 15 rfl 1 rfl rfl ?_
    refine j_iload_n hX dX11_rivals_15 16 rfl 2 rfl rfl ?_
    obtain ⟨v4, hv4, hf⟩ := ibd hf
    refine z_i (As := [.int x1, .int x2]) (rest := []) (q0 := 0) hX dX11_rivals_16 19 rfl (t_X11_rivalsOf x1 x2 hv4) mc_X11_rivalsOf mv_X11_rivalsOf ml_X11_191 rfl rfl (Nat.le_of_ble_eq_true rfl) (Nat.le_refl _) (Nat.le_refl _) rfl (Nat.le_of_ble_eq_true rfl) ?_
    refine j_goto hX dX11_rivals_19 26 rfl ?_
    refine j_sub [] rfl ?_
    exact t_X11_rivals_26 hX hQ   v4 hf
def g_X11_up_92 (m_isUp : Nat → Int32) (k32 : Int32 → (Nat → Int32) → Option ((Nat → Int32))) (x2 : Int32) : Option ((Nat → Int32)) :=
  k32 (x2 + (-1)) m_isUp
set_option maxRecDepth 100000 in
set_option maxHeartbeats 4000000 in
theorem t_X11_up_92 {Y : YT} {r : (Nat → Int32)} {k32 : Int32 → (Nat → Int32) → Option ((Nat → Int32))} (hX : CX l G cX11_up 3 RX11 Y) (hQ : EQv G Y 0 0 (WM G m_code m_people m_grants m_texts m_copies m_taped m_faultPlace m_isFemale m_born m_died m_father m_mother m_fatherGrade m_motherGrade m_grantTo m_grantArms m_grantYear m_copyYear m_copyRow m_tape m_textYear m_ruleMany m_ruleFrom m_codeRow m_stack m_ruleKind m_codes m_at m_read m_token m_sign m_begins m_ends m_bad m_badPlace m_top m_lineLives m_markRow m_quarterMany m_quarters r m_wasUp ++ fr)) (hk32 : ∀ (x2 : Int32) (m_isUp : Nat → Int32), k32 x2 m_isUp = some r → J l G (rmD 1 0 0) Y 0 0 32 [(0, .ref (gm G 0)), (2, .int x2)] [] (WM G m_code m_people m_grants m_texts m_copies m_taped m_faultPlace m_isFemale m_born m_died m_father m_mother m_fatherGrade m_motherGrade m_grantTo m_grantArms m_grantYear m_copyYear m_copyRow m_tape m_textYear m_ruleMany m_ruleFrom m_codeRow m_stack m_ruleKind m_codes m_at m_read m_token m_sign m_begins m_ends m_bad m_badPlace m_top m_lineLives m_markRow m_quarterMany m_quarters m_isUp m_wasUp ++ fr)) (x2 : Int32) (hf : g_X11_up_92 m_isUp k32 x2 = some r) : J l G (rmD 1 0 0) Y 0 0 92 [(0, .ref (gm G 0)), (2, .int x2)] [] (WM G m_code m_people m_grants m_texts m_copies m_taped m_faultPlace m_isFemale m_born m_died m_father m_mother m_fatherGrade m_motherGrade m_grantTo m_grantArms m_grantYear m_copyYear m_copyRow m_tape m_textYear m_ruleMany m_ruleFrom m_codeRow m_stack m_ruleKind m_codes m_at m_read m_token m_sign m_begins m_ends m_bad m_badPlace m_top m_lineLives m_markRow m_quarterMany m_quarters m_isUp m_wasUp ++ fr) := by
  unfold g_X11_up_92 at hf
  refine j_iinc (v := x2 + (-1)) hX dX11_up_92 95 rfl 1 rfl rfl (by decide) (lv' := [(2, .int (x2 + (-1))), (0, .ref (gm G 0))]) rfl ?_
  refine j_goto hX dX11_up_95 32 rfl ?_
  refine j_sub [1, 0] rfl ?_
  exact hk32 (x2 + (-1)) m_isUp hf
def g_X11_up_70 (m_mother : Nat → Int32) (m_isUp : Nat → Int32) (k32 : Int32 → (Nat → Int32) → Option ((Nat → Int32))) (x2 : Int32) : Option ((Nat → Int32)) :=
  if inb x2 60 = true then if (m_mother (Int32.toNatClampNeg x2)) = ((-1)) then g_X11_up_92 m_isUp k32 x2 else if inb x2 60 = true then if inb (m_mother (Int32.toNatClampNeg x2)) 60 = true then g_X11_up_92 (upd m_isUp (Int32.toNatClampNeg (m_mother (Int32.toNatClampNeg x2))) (vp_nar .boolean 1)) k32 x2 else none else none else none
set_option maxRecDepth 100000 in
set_option maxHeartbeats 4000000 in
theorem t_X11_up_70 {Y : YT} {r : (Nat → Int32)} {k32 : Int32 → (Nat → Int32) → Option ((Nat → Int32))} (hX : CX l G cX11_up 3 RX11 Y) (hQ : EQv G Y 0 0 (WM G m_code m_people m_grants m_texts m_copies m_taped m_faultPlace m_isFemale m_born m_died m_father m_mother m_fatherGrade m_motherGrade m_grantTo m_grantArms m_grantYear m_copyYear m_copyRow m_tape m_textYear m_ruleMany m_ruleFrom m_codeRow m_stack m_ruleKind m_codes m_at m_read m_token m_sign m_begins m_ends m_bad m_badPlace m_top m_lineLives m_markRow m_quarterMany m_quarters r m_wasUp ++ fr)) (hk32 : ∀ (x2 : Int32) (m_isUp : Nat → Int32), k32 x2 m_isUp = some r → J l G (rmD 1 0 0) Y 0 0 32 [(0, .ref (gm G 0)), (2, .int x2)] [] (WM G m_code m_people m_grants m_texts m_copies m_taped m_faultPlace m_isFemale m_born m_died m_father m_mother m_fatherGrade m_motherGrade m_grantTo m_grantArms m_grantYear m_copyYear m_copyRow m_tape m_textYear m_ruleMany m_ruleFrom m_codeRow m_stack m_ruleKind m_codes m_at m_read m_token m_sign m_begins m_ends m_bad m_badPlace m_top m_lineLives m_markRow m_quarterMany m_quarters m_isUp m_wasUp ++ fr)) (x2 : Int32) (hf : g_X11_up_70 m_mother m_isUp k32 x2 = some r) : J l G (rmD 1 0 0) Y 0 0 70 [(0, .ref (gm G 0)), (2, .int x2)] [] (WM G m_code m_people m_grants m_texts m_copies m_taped m_faultPlace m_isFemale m_born m_died m_father m_mother m_fatherGrade m_motherGrade m_grantTo m_grantArms m_grantYear m_copyYear m_copyRow m_tape m_textYear m_ruleMany m_ruleFrom m_codeRow m_stack m_ruleKind m_codes m_at m_read m_token m_sign m_begins m_ends m_bad m_badPlace m_top m_lineLives m_markRow m_quarterMany m_quarters m_isUp m_wasUp ++ fr) := by
  unfold g_X11_up_70 at hf
  refine j_aload_n hX dX11_up_70 71 rfl 0 rfl rfl ?_
  refine j_get hX dX11_up_71 74 rfl fg_X11_48 0 rfl rfl ?_
  refine j_iload_n hX dX11_up_74 75 rfl 1 rfl rfl ?_
  obtain ⟨hb7, hf⟩ := ign hf
  refine j_iald hX dX11_up_75 76 rfl 6 rfl hb7 ?_
  refine j_iconst (v := (-1)) hX dX11_up_76 77 rfl (by decide) ?_
  refine j_icmp_eq hX dX11_up_77 80 92 rfl rfl (fun h8 => ?_) (fun h8 => ?_)
  · replace hf := itt h8 hf
    exact t_X11_up_92 hX hQ  hk32 x2 hf
  · replace hf := itf h8 hf
    refine j_aload_n hX dX11_up_80 81 rfl 0 rfl rfl ?_
    refine j_get hX dX11_up_81 84 rfl fg_X11_104 0 rfl rfl ?_
    refine j_aload_n hX dX11_up_84 85 rfl 0 rfl rfl ?_
    refine j_get hX dX11_up_85 88 rfl fg_X11_48 0 rfl rfl ?_
    refine j_iload_n hX dX11_up_88 89 rfl 1 rfl rfl ?_
    obtain ⟨hb9, hf⟩ := ign hf
    refine j_iald hX dX11_up_89 90 rfl 6 rfl hb9 ?_
    refine j_iconst (v := 1) hX dX11_up_90 91 rfl (by decide) ?_
    obtain ⟨hb10, hf⟩ := ign hf
    refine j_zast hX dX11_up_91 92 rfl 25 rfl hb10 (ws' := (WM G m_code m_people m_grants m_texts m_copies m_taped m_faultPlace m_isFemale m_born m_died m_father m_mother m_fatherGrade m_motherGrade m_grantTo m_grantArms m_grantYear m_copyYear m_copyRow m_tape m_textYear m_ruleMany m_ruleFrom m_codeRow m_stack m_ruleKind m_codes m_at m_read m_token m_sign m_begins m_ends m_bad m_badPlace m_top m_lineLives m_markRow m_quarterMany m_quarters (upd m_isUp (Int32.toNatClampNeg (m_mother (Int32.toNatClampNeg x2))) (vp_nar .boolean 1)) m_wasUp ++ fr)) rfl ?_
    exact t_X11_up_92 hX hQ  hk32 x2 hf
def g_X11_up_32 (m_father : Nat → Int32) (m_mother : Nat → Int32) (m_isUp : Nat → Int32) (k32 : Int32 → (Nat → Int32) → Option ((Nat → Int32))) (x2 : Int32) : Option ((Nat → Int32)) :=
  if x2 < 0 then some m_isUp else if inb x2 60 = true then if (m_isUp (Int32.toNatClampNeg x2)) = 0 then g_X11_up_92 m_isUp k32 x2 else if inb x2 60 = true then if (m_father (Int32.toNatClampNeg x2)) = ((-1)) then g_X11_up_70 m_mother m_isUp k32 x2 else if inb x2 60 = true then if inb (m_father (Int32.toNatClampNeg x2)) 60 = true then g_X11_up_70 m_mother (upd m_isUp (Int32.toNatClampNeg (m_father (Int32.toNatClampNeg x2))) (vp_nar .boolean 1)) k32 x2 else none else none else none else none
set_option maxRecDepth 100000 in
set_option maxHeartbeats 4000000 in
theorem t_X11_up_32 {Y : YT} {r : (Nat → Int32)} {k32 : Int32 → (Nat → Int32) → Option ((Nat → Int32))} (hX : CX l G cX11_up 3 RX11 Y) (hQ : EQv G Y 0 0 (WM G m_code m_people m_grants m_texts m_copies m_taped m_faultPlace m_isFemale m_born m_died m_father m_mother m_fatherGrade m_motherGrade m_grantTo m_grantArms m_grantYear m_copyYear m_copyRow m_tape m_textYear m_ruleMany m_ruleFrom m_codeRow m_stack m_ruleKind m_codes m_at m_read m_token m_sign m_begins m_ends m_bad m_badPlace m_top m_lineLives m_markRow m_quarterMany m_quarters r m_wasUp ++ fr)) (hk32 : ∀ (x2 : Int32) (m_isUp : Nat → Int32), k32 x2 m_isUp = some r → J l G (rmD 1 0 0) Y 0 0 32 [(0, .ref (gm G 0)), (2, .int x2)] [] (WM G m_code m_people m_grants m_texts m_copies m_taped m_faultPlace m_isFemale m_born m_died m_father m_mother m_fatherGrade m_motherGrade m_grantTo m_grantArms m_grantYear m_copyYear m_copyRow m_tape m_textYear m_ruleMany m_ruleFrom m_codeRow m_stack m_ruleKind m_codes m_at m_read m_token m_sign m_begins m_ends m_bad m_badPlace m_top m_lineLives m_markRow m_quarterMany m_quarters m_isUp m_wasUp ++ fr)) (x2 : Int32) (hf : g_X11_up_32 m_father m_mother m_isUp k32 x2 = some r) : J l G (rmD 1 0 0) Y 0 0 32 [(0, .ref (gm G 0)), (2, .int x2)] [] (WM G m_code m_people m_grants m_texts m_copies m_taped m_faultPlace m_isFemale m_born m_died m_father m_mother m_fatherGrade m_motherGrade m_grantTo m_grantArms m_grantYear m_copyYear m_copyRow m_tape m_textYear m_ruleMany m_ruleFrom m_codeRow m_stack m_ruleKind m_codes m_at m_read m_token m_sign m_begins m_ends m_bad m_badPlace m_top m_lineLives m_markRow m_quarterMany m_quarters m_isUp m_wasUp ++ fr) := by
  unfold g_X11_up_32 at hf
  refine j_iload_n hX dX11_up_32 33 rfl 1 rfl rfl ?_
  refine j_if_lt hX dX11_up_33 36 98 rfl rfl (fun h2 => ?_) (fun h2 => ?_)
  · replace hf := itt h2 hf
    replace hf := Option.some.inj hf
    subst hf
    exact j_vret hX hQ dX11_up_98
  · replace hf := itf h2 hf
    refine j_aload_n hX dX11_up_36 37 rfl 0 rfl rfl ?_
    refine j_get hX dX11_up_37 40 rfl fg_X11_104 0 rfl rfl ?_
    refine j_iload_n hX dX11_up_40 41 rfl 1 rfl rfl ?_
    obtain ⟨hb3, hf⟩ := ign hf
    refine j_zald hX dX11_up_41 42 rfl 25 rfl hb3 ?_
    refine j_if_ne hX dX11_up_42 45 48 rfl rfl (fun h4 => ?_) (fun h4 => ?_)
    · replace hf := itf h4 hf
      refine j_aload_n hX dX11_up_48 49 rfl 0 rfl rfl ?_
      refine j_get hX dX11_up_49 52 rfl fg_X11_45 0 rfl rfl ?_
      refine j_iload_n hX dX11_up_52 53 rfl 1 rfl rfl ?_
      obtain ⟨hb5, hf⟩ := ign hf
      refine j_iald hX dX11_up_53 54 rfl 5 rfl hb5 ?_
      refine j_iconst (v := (-1)) hX dX11_up_54 55 rfl (by decide) ?_
      refine j_icmp_eq hX dX11_up_55 58 70 rfl rfl (fun h6 => ?_) (fun h6 => ?_)
      · replace hf := itt h6 hf
        exact t_X11_up_70 hX hQ  hk32 x2 hf
      · replace hf := itf h6 hf
        refine j_aload_n hX dX11_up_58 59 rfl 0 rfl rfl ?_
        refine j_get hX dX11_up_59 62 rfl fg_X11_104 0 rfl rfl ?_
        refine j_aload_n hX dX11_up_62 63 rfl 0 rfl rfl ?_
        refine j_get hX dX11_up_63 66 rfl fg_X11_45 0 rfl rfl ?_
        refine j_iload_n hX dX11_up_66 67 rfl 1 rfl rfl ?_
        obtain ⟨hb11, hf⟩ := ign hf
        refine j_iald hX dX11_up_67 68 rfl 5 rfl hb11 ?_
        refine j_iconst (v := 1) hX dX11_up_68 69 rfl (by decide) ?_
        obtain ⟨hb12, hf⟩ := ign hf
        refine j_zast hX dX11_up_69 70 rfl 25 rfl hb12 (ws' := (WM G m_code m_people m_grants m_texts m_copies m_taped m_faultPlace m_isFemale m_born m_died m_father m_mother m_fatherGrade m_motherGrade m_grantTo m_grantArms m_grantYear m_copyYear m_copyRow m_tape m_textYear m_ruleMany m_ruleFrom m_codeRow m_stack m_ruleKind m_codes m_at m_read m_token m_sign m_begins m_ends m_bad m_badPlace m_top m_lineLives m_markRow m_quarterMany m_quarters (upd m_isUp (Int32.toNatClampNeg (m_father (Int32.toNatClampNeg x2))) (vp_nar .boolean 1)) m_wasUp ++ fr)) rfl ?_
        exact t_X11_up_70 hX hQ  hk32 x2 hf
    · replace hf := itt h4 hf
      refine j_goto hX dX11_up_45 92 rfl ?_
      exact t_X11_up_92 hX hQ  hk32 x2 hf
def f_X11_up_32 (m_father : Nat → Int32) (m_mother : Nat → Int32) : Nat → (Int32 × (Nat → Int32)) → Option ((Nat → Int32)) :=
  lp (fun k v => g_X11_up_32 m_father m_mother v.2 (fun x2 m_isUp => k (x2, m_isUp)) v.1)
set_option maxRecDepth 100000 in
set_option maxHeartbeats 4000000 in
theorem u_X11_up_32 {Y : YT} {r : (Nat → Int32)}  (hX : CX l G cX11_up 3 RX11 Y) (hQ : EQv G Y 0 0 (WM G m_code m_people m_grants m_texts m_copies m_taped m_faultPlace m_isFemale m_born m_died m_father m_mother m_fatherGrade m_motherGrade m_grantTo m_grantArms m_grantYear m_copyYear m_copyRow m_tape m_textYear m_ruleMany m_ruleFrom m_codeRow m_stack m_ruleKind m_codes m_at m_read m_token m_sign m_begins m_ends m_bad m_badPlace m_top m_lineLives m_markRow m_quarterMany m_quarters r m_wasUp ++ fr))  (n : Nat) (v : Int32 × (Nat → Int32)) (hf : f_X11_up_32 m_father m_mother n v = some r) : J l G (rmD 1 0 0) Y 0 0 32 [(0, .ref (gm G 0)), (2, .int v.1)] [] (WM G m_code m_people m_grants m_texts m_copies m_taped m_faultPlace m_isFemale m_born m_died m_father m_mother m_fatherGrade m_motherGrade m_grantTo m_grantArms m_grantYear m_copyYear m_copyRow m_tape m_textYear m_ruleMany m_ruleFrom m_codeRow m_stack m_ruleKind m_codes m_at m_read m_token m_sign m_begins m_ends m_bad m_badPlace m_top m_lineLives m_markRow m_quarterMany m_quarters v.2 m_wasUp ++ fr) :=
  lp_ind (P := fun v : Int32 × (Nat → Int32) => J l G (rmD 1 0 0) Y 0 0 32 [(0, .ref (gm G 0)), (2, .int v.1)] [] (WM G m_code m_people m_grants m_texts m_copies m_taped m_faultPlace m_isFemale m_born m_died m_father m_mother m_fatherGrade m_motherGrade m_grantTo m_grantArms m_grantYear m_copyYear m_copyRow m_tape m_textYear m_ruleMany m_ruleFrom m_codeRow m_stack m_ruleKind m_codes m_at m_read m_token m_sign m_begins m_ends m_bad m_badPlace m_top m_lineLives m_markRow m_quarterMany m_quarters v.2 m_wasUp ++ fr)) (fun k hk v hf => t_X11_up_32 hX hQ   (fun x2 m_isUp h => hk (x2, m_isUp) h) v.1 hf) n v hf
def g_X11_up_23 (m_isUp : Nat → Int32) (k2 : Int32 → Int32 → (Nat → Int32) → Option ((Nat → Int32))) (x1 : Int32) (x2 : Int32) (s0 : Int32) (s1 : Int32) : Option ((Nat → Int32)) :=
  if inb s1 60 = true then k2 x1 (x2 + 1) (upd m_isUp (Int32.toNatClampNeg s1) (vp_nar .boolean s0)) else none
set_option maxRecDepth 100000 in
set_option maxHeartbeats 4000000 in
theorem t_X11_up_23 {Y : YT} {r : (Nat → Int32)} {k2 : Int32 → Int32 → (Nat → Int32) → Option ((Nat → Int32))} (hX : CX l G cX11_up 3 RX11 Y) (hQ : EQv G Y 0 0 (WM G m_code m_people m_grants m_texts m_copies m_taped m_faultPlace m_isFemale m_born m_died m_father m_mother m_fatherGrade m_motherGrade m_grantTo m_grantArms m_grantYear m_copyYear m_copyRow m_tape m_textYear m_ruleMany m_ruleFrom m_codeRow m_stack m_ruleKind m_codes m_at m_read m_token m_sign m_begins m_ends m_bad m_badPlace m_top m_lineLives m_markRow m_quarterMany m_quarters r m_wasUp ++ fr)) (hk2 : ∀ (x1 : Int32) (x2 : Int32) (m_isUp : Nat → Int32), k2 x1 x2 m_isUp = some r → J l G (rmD 1 0 0) Y 0 0 2 [(0, .ref (gm G 0)), (1, .int x1), (2, .int x2)] [] (WM G m_code m_people m_grants m_texts m_copies m_taped m_faultPlace m_isFemale m_born m_died m_father m_mother m_fatherGrade m_motherGrade m_grantTo m_grantArms m_grantYear m_copyYear m_copyRow m_tape m_textYear m_ruleMany m_ruleFrom m_codeRow m_stack m_ruleKind m_codes m_at m_read m_token m_sign m_begins m_ends m_bad m_badPlace m_top m_lineLives m_markRow m_quarterMany m_quarters m_isUp m_wasUp ++ fr)) (x1 : Int32) (x2 : Int32) (s0 : Int32) (s1 : Int32) (hf : g_X11_up_23 m_isUp k2 x1 x2 s0 s1 = some r) : J l G (rmD 1 0 0) Y 0 0 23 [(0, .ref (gm G 0)), (1, .int x1), (2, .int x2)] [.int s0, .int s1, .ref (gm G 25)] (WM G m_code m_people m_grants m_texts m_copies m_taped m_faultPlace m_isFemale m_born m_died m_father m_mother m_fatherGrade m_motherGrade m_grantTo m_grantArms m_grantYear m_copyYear m_copyRow m_tape m_textYear m_ruleMany m_ruleFrom m_codeRow m_stack m_ruleKind m_codes m_at m_read m_token m_sign m_begins m_ends m_bad m_badPlace m_top m_lineLives m_markRow m_quarterMany m_quarters m_isUp m_wasUp ++ fr) := by
  unfold g_X11_up_23 at hf
  obtain ⟨hb14, hf⟩ := ign hf
  refine j_zast hX dX11_up_23 24 rfl 25 rfl hb14 (ws' := (WM G m_code m_people m_grants m_texts m_copies m_taped m_faultPlace m_isFemale m_born m_died m_father m_mother m_fatherGrade m_motherGrade m_grantTo m_grantArms m_grantYear m_copyYear m_copyRow m_tape m_textYear m_ruleMany m_ruleFrom m_codeRow m_stack m_ruleKind m_codes m_at m_read m_token m_sign m_begins m_ends m_bad m_badPlace m_top m_lineLives m_markRow m_quarterMany m_quarters (upd m_isUp (Int32.toNatClampNeg s1) (vp_nar .boolean s0)) m_wasUp ++ fr)) rfl ?_
  refine j_iinc (v := x2 + 1) hX dX11_up_24 27 rfl 2 rfl rfl (by decide) (lv' := [(2, .int (x2 + 1)), (0, .ref (gm G 0)), (1, .int x1)]) rfl ?_
  refine j_goto hX dX11_up_27 2 rfl ?_
  refine j_sub [1, 2, 0] rfl ?_
  exact hk2 x1 (x2 + 1) (upd m_isUp (Int32.toNatClampNeg s1) (vp_nar .boolean s0)) hf
def g_X11_up_2 (fu : Nat) (m_father : Nat → Int32) (m_mother : Nat → Int32) (m_isUp : Nat → Int32) (k2 : Int32 → Int32 → (Nat → Int32) → Option ((Nat → Int32))) (x1 : Int32) (x2 : Int32) : Option ((Nat → Int32)) :=
  if 60 ≤ x2 then f_X11_up_32 m_father m_mother fu (x1, m_isUp) else if x2 = x1 then g_X11_up_23 m_isUp k2 x1 x2 1 x2 else g_X11_up_23 m_isUp k2 x1 x2 0 x2
set_option maxRecDepth 100000 in
set_option maxHeartbeats 4000000 in
theorem t_X11_up_2 {fu : Nat} {Y : YT} {r : (Nat → Int32)} {k2 : Int32 → Int32 → (Nat → Int32) → Option ((Nat → Int32))} (hX : CX l G cX11_up 3 RX11 Y) (hQ : EQv G Y 0 0 (WM G m_code m_people m_grants m_texts m_copies m_taped m_faultPlace m_isFemale m_born m_died m_father m_mother m_fatherGrade m_motherGrade m_grantTo m_grantArms m_grantYear m_copyYear m_copyRow m_tape m_textYear m_ruleMany m_ruleFrom m_codeRow m_stack m_ruleKind m_codes m_at m_read m_token m_sign m_begins m_ends m_bad m_badPlace m_top m_lineLives m_markRow m_quarterMany m_quarters r m_wasUp ++ fr)) (hk2 : ∀ (x1 : Int32) (x2 : Int32) (m_isUp : Nat → Int32), k2 x1 x2 m_isUp = some r → J l G (rmD 1 0 0) Y 0 0 2 [(0, .ref (gm G 0)), (1, .int x1), (2, .int x2)] [] (WM G m_code m_people m_grants m_texts m_copies m_taped m_faultPlace m_isFemale m_born m_died m_father m_mother m_fatherGrade m_motherGrade m_grantTo m_grantArms m_grantYear m_copyYear m_copyRow m_tape m_textYear m_ruleMany m_ruleFrom m_codeRow m_stack m_ruleKind m_codes m_at m_read m_token m_sign m_begins m_ends m_bad m_badPlace m_top m_lineLives m_markRow m_quarterMany m_quarters m_isUp m_wasUp ++ fr)) (x1 : Int32) (x2 : Int32) (hf : g_X11_up_2 fu m_father m_mother m_isUp k2 x1 x2 = some r) : J l G (rmD 1 0 0) Y 0 0 2 [(0, .ref (gm G 0)), (1, .int x1), (2, .int x2)] [] (WM G m_code m_people m_grants m_texts m_copies m_taped m_faultPlace m_isFemale m_born m_died m_father m_mother m_fatherGrade m_motherGrade m_grantTo m_grantArms m_grantYear m_copyYear m_copyRow m_tape m_textYear m_ruleMany m_ruleFrom m_codeRow m_stack m_ruleKind m_codes m_at m_read m_token m_sign m_begins m_ends m_bad m_badPlace m_top m_lineLives m_markRow m_quarterMany m_quarters m_isUp m_wasUp ++ fr) := by
  unfold g_X11_up_2 at hf
  refine j_iload_n hX dX11_up_2 3 rfl 2 rfl rfl ?_
  refine j_bipush (v := 60) hX dX11_up_3 5 rfl (by decide) ?_
  refine j_icmp_ge hX dX11_up_5 8 30 rfl rfl (fun h1 => ?_) (fun h1 => ?_)
  · replace hf := itt h1 hf
    refine j_iload_n hX dX11_up_30 31 rfl 1 rfl rfl ?_
    refine j_istore_n hX dX11_up_31 32 rfl rfl (by decide) (lv' := [(2, .int x1), (0, .ref (gm G 0)), (1, .int x1)]) rfl ?_
    refine j_sub [1, 0] rfl ?_
    exact u_X11_up_32 hX hQ   fu (x1, m_isUp) hf
  · replace hf := itf h1 hf
    refine j_aload_n hX dX11_up_8 9 rfl 0 rfl rfl ?_
    refine j_get hX dX11_up_9 12 rfl fg_X11_104 0 rfl rfl ?_
    refine j_iload_n hX dX11_up_12 13 rfl 2 rfl rfl ?_
    refine j_iload_n hX dX11_up_13 14 rfl 2 rfl rfl ?_
    refine j_iload_n hX dX11_up_14 15 rfl 1 rfl rfl ?_
    refine j_icmp_ne hX dX11_up_15 18 22 rfl rfl (fun h13 => ?_) (fun h13 => ?_)
    · replace hf := itf h13 hf
      refine j_iconst (v := 0) hX dX11_up_22 23 rfl (by decide) ?_
      exact t_X11_up_23 hX hQ  hk2 x1 x2 0 x2 hf
    · replace hf := itt h13 hf
      refine j_iconst (v := 1) hX dX11_up_18 19 rfl (by decide) ?_
      refine j_goto hX dX11_up_19 23 rfl ?_
      exact t_X11_up_23 hX hQ  hk2 x1 x2 1 x2 hf
def f_X11_up_2 (fu : Nat) (m_father : Nat → Int32) (m_mother : Nat → Int32) : Nat → (Int32 × Int32 × (Nat → Int32)) → Option ((Nat → Int32)) :=
  lp (fun k v => g_X11_up_2 fu m_father m_mother v.2.2 (fun x1 x2 m_isUp => k (x1, x2, m_isUp)) v.1 v.2.1)
set_option maxRecDepth 100000 in
set_option maxHeartbeats 4000000 in
theorem u_X11_up_2 {fu : Nat} {Y : YT} {r : (Nat → Int32)}  (hX : CX l G cX11_up 3 RX11 Y) (hQ : EQv G Y 0 0 (WM G m_code m_people m_grants m_texts m_copies m_taped m_faultPlace m_isFemale m_born m_died m_father m_mother m_fatherGrade m_motherGrade m_grantTo m_grantArms m_grantYear m_copyYear m_copyRow m_tape m_textYear m_ruleMany m_ruleFrom m_codeRow m_stack m_ruleKind m_codes m_at m_read m_token m_sign m_begins m_ends m_bad m_badPlace m_top m_lineLives m_markRow m_quarterMany m_quarters r m_wasUp ++ fr))  (n : Nat) (v : Int32 × Int32 × (Nat → Int32)) (hf : f_X11_up_2 fu m_father m_mother n v = some r) : J l G (rmD 1 0 0) Y 0 0 2 [(0, .ref (gm G 0)), (1, .int v.1), (2, .int v.2.1)] [] (WM G m_code m_people m_grants m_texts m_copies m_taped m_faultPlace m_isFemale m_born m_died m_father m_mother m_fatherGrade m_motherGrade m_grantTo m_grantArms m_grantYear m_copyYear m_copyRow m_tape m_textYear m_ruleMany m_ruleFrom m_codeRow m_stack m_ruleKind m_codes m_at m_read m_token m_sign m_begins m_ends m_bad m_badPlace m_top m_lineLives m_markRow m_quarterMany m_quarters v.2.2 m_wasUp ++ fr) :=
  lp_ind (P := fun v : Int32 × Int32 × (Nat → Int32) => J l G (rmD 1 0 0) Y 0 0 2 [(0, .ref (gm G 0)), (1, .int v.1), (2, .int v.2.1)] [] (WM G m_code m_people m_grants m_texts m_copies m_taped m_faultPlace m_isFemale m_born m_died m_father m_mother m_fatherGrade m_motherGrade m_grantTo m_grantArms m_grantYear m_copyYear m_copyRow m_tape m_textYear m_ruleMany m_ruleFrom m_codeRow m_stack m_ruleKind m_codes m_at m_read m_token m_sign m_begins m_ends m_bad m_badPlace m_top m_lineLives m_markRow m_quarterMany m_quarters v.2.2 m_wasUp ++ fr)) (fun k hk v hf => t_X11_up_2 hX hQ   (fun x1 x2 m_isUp h => hk (x1, x2, m_isUp) h) v.1 v.2.1 hf) n v hf
def f_X11_up (fu : Nat) (m_father : Nat → Int32) (m_mother : Nat → Int32) (m_isUp : Nat → Int32) (x1 : Int32) : Option ((Nat → Int32)) :=
  f_X11_up_2 fu m_father m_mother fu (x1, 0, m_isUp)
set_option maxRecDepth 100000 in
set_option maxHeartbeats 4000000 in
theorem t_X11_up {fu : Nat}  (x1 : Int32) {r : (Nat → Int32)} (hf : f_X11_up fu m_father m_mother m_isUp x1 = some r) : Cv l G 1 0 0 yX11_up cX11_up 3 [.ref (gm G 0), .int x1] (WM G m_code m_people m_grants m_texts m_copies m_taped m_faultPlace m_isFemale m_born m_died m_father m_mother m_fatherGrade m_motherGrade m_grantTo m_grantArms m_grantYear m_copyYear m_copyRow m_tape m_textYear m_ruleMany m_ruleFrom m_codeRow m_stack m_ruleKind m_codes m_at m_read m_token m_sign m_begins m_ends m_bad m_badPlace m_top m_lineLives m_markRow m_quarterMany m_quarters m_isUp m_wasUp ++ fr) (WM G m_code m_people m_grants m_texts m_copies m_taped m_faultPlace m_isFemale m_born m_died m_father m_mother m_fatherGrade m_motherGrade m_grantTo m_grantArms m_grantYear m_copyYear m_copyRow m_tape m_textYear m_ruleMany m_ruleFrom m_codeRow m_stack m_ruleKind m_codes m_at m_read m_token m_sign m_begins m_ends m_bad m_badPlace m_top m_lineLives m_markRow m_quarterMany m_quarters r m_wasUp ++ fr) := by
  refine Cv.of (by decide) (Nat.le_of_ble_eq_true rfl) (fun Y hX hQ => ?_)
  refine j_lv (lv' := [(0, .ref (gm G 0)), (1, .int x1)]) rfl ?_
  unfold f_X11_up at hf
  refine j_iconst (v := 0) hX dX11_up_0 1 rfl (by decide) ?_
  refine j_istore_n hX dX11_up_1 2 rfl rfl (by decide) (lv' := [(2, .int 0), (0, .ref (gm G 0)), (1, .int x1)]) rfl ?_
  refine j_sub [1, 2, 0] rfl ?_
  exact u_X11_up_2 hX hQ   fu (x1, 0, m_isUp) hf
def g_X11_common_21 (m_isUp : Nat → Int32) (m_wasUp : Nat → Int32) : Option (Int32 × Int32 × (Nat → Int32) × (Nat → Int32)) :=
  (f_X11_fail ).bind fun v3 => some (v3.1, v3.2, m_isUp, m_wasUp)
set_option maxRecDepth 100000 in
set_option maxHeartbeats 4000000 in
theorem t_X11_common_21 {Y : YT} {r : Int32 × Int32 × (Nat → Int32) × (Nat → Int32)}  (hX : CX l G cX11_common 5 RX11 Y) (hQ : EQi G Y 0 0 .int r.1 (WM G r.2.1 m_people m_grants m_texts m_copies m_taped m_faultPlace m_isFemale m_born m_died m_father m_mother m_fatherGrade m_motherGrade m_grantTo m_grantArms m_grantYear m_copyYear m_copyRow m_tape m_textYear m_ruleMany m_ruleFrom m_codeRow m_stack m_ruleKind m_codes m_at m_read m_token m_sign m_begins m_ends m_bad m_badPlace m_top m_lineLives m_markRow m_quarterMany m_quarters r.2.2.1 r.2.2.2 ++ fr))   (hf : g_X11_common_21 m_isUp m_wasUp = some r) : J l G (rmD 2 0 0) Y 0 0 21 [(0, .ref (gm G 0))] [] (WM G m_code m_people m_grants m_texts m_copies m_taped m_faultPlace m_isFemale m_born m_died m_father m_mother m_fatherGrade m_motherGrade m_grantTo m_grantArms m_grantYear m_copyYear m_copyRow m_tape m_textYear m_ruleMany m_ruleFrom m_codeRow m_stack m_ruleKind m_codes m_at m_read m_token m_sign m_begins m_ends m_bad m_badPlace m_top m_lineLives m_markRow m_quarterMany m_quarters m_isUp m_wasUp ++ fr) := by
  unfold g_X11_common_21 at hf
  refine j_aload_n hX dX11_common_21 22 rfl 0 rfl rfl ?_
  obtain ⟨v3, hv3, hf⟩ := ibd hf
  refine z_i (As := []) (rest := []) (q0 := 0) hX dX11_common_22 25 rfl (t_X11_fail  hv3) mc_X11_fail mv_X11_fail ml_X11_127 rfl rfl (Nat.le_of_ble_eq_true rfl) (Nat.le_refl _) (Nat.le_refl _) rfl (Nat.le_of_ble_eq_true rfl) ?_
  replace hf := Option.some.inj hf
  subst hf
  exact j_iret hX hQ dX11_common_25
def g_X11_common_99 (m_code : Int32) (m_isUp : Nat → Int32) (m_wasUp : Nat → Int32) (k67 : Int32 → Int32 → Int32 → (Nat → Int32) → (Nat → Int32) → Option (Int32 × Int32 × (Nat → Int32) × (Nat → Int32))) (x3 : Int32) (x4 : Int32) : Option (Int32 × Int32 × (Nat → Int32) × (Nat → Int32)) :=
  k67 x3 (x4 + 1) m_code m_isUp m_wasUp
set_option maxRecDepth 100000 in
set_option maxHeartbeats 4000000 in
theorem t_X11_common_99 {Y : YT} {r : Int32 × Int32 × (Nat → Int32) × (Nat → Int32)} {k67 : Int32 → Int32 → Int32 → (Nat → Int32) → (Nat → Int32) → Option (Int32 × Int32 × (Nat → Int32) × (Nat → Int32))} (hX : CX l G cX11_common 5 RX11 Y) (hQ : EQi G Y 0 0 .int r.1 (WM G r.2.1 m_people m_grants m_texts m_copies m_taped m_faultPlace m_isFemale m_born m_died m_father m_mother m_fatherGrade m_motherGrade m_grantTo m_grantArms m_grantYear m_copyYear m_copyRow m_tape m_textYear m_ruleMany m_ruleFrom m_codeRow m_stack m_ruleKind m_codes m_at m_read m_token m_sign m_begins m_ends m_bad m_badPlace m_top m_lineLives m_markRow m_quarterMany m_quarters r.2.2.1 r.2.2.2 ++ fr)) (hk67 : ∀ (x3 : Int32) (x4 : Int32) (m_code : Int32) (m_isUp : Nat → Int32) (m_wasUp : Nat → Int32), k67 x3 x4 m_code m_isUp m_wasUp = some r → J l G (rmD 2 0 0) Y 0 0 67 [(0, .ref (gm G 0)), (3, .int x3), (4, .int x4)] [] (WM G m_code m_people m_grants m_texts m_copies m_taped m_faultPlace m_isFemale m_born m_died m_father m_mother m_fatherGrade m_motherGrade m_grantTo m_grantArms m_grantYear m_copyYear m_copyRow m_tape m_textYear m_ruleMany m_ruleFrom m_codeRow m_stack m_ruleKind m_codes m_at m_read m_token m_sign m_begins m_ends m_bad m_badPlace m_top m_lineLives m_markRow m_quarterMany m_quarters m_isUp m_wasUp ++ fr)) (x3 : Int32) (x4 : Int32) (hf : g_X11_common_99 m_code m_isUp m_wasUp k67 x3 x4 = some r) : J l G (rmD 2 0 0) Y 0 0 99 [(0, .ref (gm G 0)), (3, .int x3), (4, .int x4)] [] (WM G m_code m_people m_grants m_texts m_copies m_taped m_faultPlace m_isFemale m_born m_died m_father m_mother m_fatherGrade m_motherGrade m_grantTo m_grantArms m_grantYear m_copyYear m_copyRow m_tape m_textYear m_ruleMany m_ruleFrom m_codeRow m_stack m_ruleKind m_codes m_at m_read m_token m_sign m_begins m_ends m_bad m_badPlace m_top m_lineLives m_markRow m_quarterMany m_quarters m_isUp m_wasUp ++ fr) := by
  unfold g_X11_common_99 at hf
  refine j_iinc (v := x4 + 1) hX dX11_common_99 102 rfl 2 rfl rfl (by decide) (lv' := [(4, .int (x4 + 1)), (0, .ref (gm G 0)), (3, .int x3)]) rfl ?_
  refine j_goto hX dX11_common_102 67 rfl ?_
  refine j_sub [1, 2, 0] rfl ?_
  exact hk67 x3 (x4 + 1) m_code m_isUp m_wasUp hf
def g_X11_common_67 (m_people : Int32) (m_code : Int32) (m_isUp : Nat → Int32) (m_wasUp : Nat → Int32) (k67 : Int32 → Int32 → Int32 → (Nat → Int32) → (Nat → Int32) → Option (Int32 × Int32 × (Nat → Int32) × (Nat → Int32))) (x3 : Int32) (x4 : Int32) : Option (Int32 × Int32 × (Nat → Int32) × (Nat → Int32)) :=
  if m_people ≤ x4 then some (x3, m_code, m_isUp, m_wasUp) else if inb x4 60 = true then if (m_isUp (Int32.toNatClampNeg x4)) = 0 then g_X11_common_99 m_code m_isUp m_wasUp k67 x3 x4 else if inb x4 60 = true then if (m_wasUp (Int32.toNatClampNeg x4)) = 0 then g_X11_common_99 m_code m_isUp m_wasUp k67 x3 x4 else g_X11_common_99 m_code m_isUp m_wasUp k67 x4 x4 else none else none
set_option maxRecDepth 100000 in
set_option maxHeartbeats 4000000 in
theorem t_X11_common_67 {Y : YT} {r : Int32 × Int32 × (Nat → Int32) × (Nat → Int32)} {k67 : Int32 → Int32 → Int32 → (Nat → Int32) → (Nat → Int32) → Option (Int32 × Int32 × (Nat → Int32) × (Nat → Int32))} (hX : CX l G cX11_common 5 RX11 Y) (hQ : EQi G Y 0 0 .int r.1 (WM G r.2.1 m_people m_grants m_texts m_copies m_taped m_faultPlace m_isFemale m_born m_died m_father m_mother m_fatherGrade m_motherGrade m_grantTo m_grantArms m_grantYear m_copyYear m_copyRow m_tape m_textYear m_ruleMany m_ruleFrom m_codeRow m_stack m_ruleKind m_codes m_at m_read m_token m_sign m_begins m_ends m_bad m_badPlace m_top m_lineLives m_markRow m_quarterMany m_quarters r.2.2.1 r.2.2.2 ++ fr)) (hk67 : ∀ (x3 : Int32) (x4 : Int32) (m_code : Int32) (m_isUp : Nat → Int32) (m_wasUp : Nat → Int32), k67 x3 x4 m_code m_isUp m_wasUp = some r → J l G (rmD 2 0 0) Y 0 0 67 [(0, .ref (gm G 0)), (3, .int x3), (4, .int x4)] [] (WM G m_code m_people m_grants m_texts m_copies m_taped m_faultPlace m_isFemale m_born m_died m_father m_mother m_fatherGrade m_motherGrade m_grantTo m_grantArms m_grantYear m_copyYear m_copyRow m_tape m_textYear m_ruleMany m_ruleFrom m_codeRow m_stack m_ruleKind m_codes m_at m_read m_token m_sign m_begins m_ends m_bad m_badPlace m_top m_lineLives m_markRow m_quarterMany m_quarters m_isUp m_wasUp ++ fr)) (x3 : Int32) (x4 : Int32) (hf : g_X11_common_67 m_people m_code m_isUp m_wasUp k67 x3 x4 = some r) : J l G (rmD 2 0 0) Y 0 0 67 [(0, .ref (gm G 0)), (3, .int x3), (4, .int x4)] [] (WM G m_code m_people m_grants m_texts m_copies m_taped m_faultPlace m_isFemale m_born m_died m_father m_mother m_fatherGrade m_motherGrade m_grantTo m_grantArms m_grantYear m_copyYear m_copyRow m_tape m_textYear m_ruleMany m_ruleFrom m_codeRow m_stack m_ruleKind m_codes m_at m_read m_token m_sign m_begins m_ends m_bad m_badPlace m_top m_lineLives m_markRow m_quarterMany m_quarters m_isUp m_wasUp ++ fr) := by
  unfold g_X11_common_67 at hf
  refine j_iload hX dX11_common_67 69 rfl 2 rfl ?_
  refine j_aload_n hX dX11_common_69 70 rfl 0 rfl rfl ?_
  refine j_get hX dX11_common_70 73 rfl fg_X11_113 0 rfl rfl ?_
  refine j_icmp_ge hX dX11_common_73 76 105 rfl rfl (fun h9 => ?_) (fun h9 => ?_)
  · replace hf := itt h9 hf
    refine j_iload_n hX dX11_common_105 106 rfl 1 rfl rfl ?_
    replace hf := Option.some.inj hf
    subst hf
    exact j_iret hX hQ dX11_common_106
  · replace hf := itf h9 hf
    refine j_aload_n hX dX11_common_76 77 rfl 0 rfl rfl ?_
    refine j_get hX dX11_common_77 80 rfl fg_X11_104 0 rfl rfl ?_
    refine j_iload hX dX11_common_80 82 rfl 2 rfl ?_
    obtain ⟨hb10, hf⟩ := ign hf
    refine j_zald hX dX11_common_82 83 rfl 25 rfl hb10 ?_
    refine j_if_eq hX dX11_common_83 86 99 rfl rfl (fun h11 => ?_) (fun h11 => ?_)
    · replace hf := itt h11 hf
      exact t_X11_common_99 hX hQ  hk67 x3 x4 hf
    · replace hf := itf h11 hf
      refine j_aload_n hX dX11_common_86 87 rfl 0 rfl rfl ?_
      refine j_get hX dX11_common_87 90 rfl fg_X11_107 0 rfl rfl ?_
      refine j_iload hX dX11_common_90 92 rfl 2 rfl ?_
      obtain ⟨hb12, hf⟩ := ign hf
      refine j_zald hX dX11_common_92 93 rfl 26 rfl hb12 ?_
      refine j_if_eq hX dX11_common_93 96 99 rfl rfl (fun h13 => ?_) (fun h13 => ?_)
      · replace hf := itt h13 hf
        exact t_X11_common_99 hX hQ  hk67 x3 x4 hf
      · replace hf := itf h13 hf
        refine j_iload hX dX11_common_96 98 rfl 2 rfl ?_
        refine j_istore_n hX dX11_common_98 99 rfl rfl (by decide) (lv' := [(3, .int x4), (0, .ref (gm G 0)), (4, .int x4)]) rfl ?_
        refine j_sub [1, 0, 2] rfl ?_
        exact t_X11_common_99 hX hQ  hk67 x4 x4 hf
def f_X11_common_67 (m_people : Int32) : Nat → (Int32 × Int32 × Int32 × (Nat → Int32) × (Nat → Int32)) → Option (Int32 × Int32 × (Nat → Int32) × (Nat → Int32)) :=
  lp (fun k v => g_X11_common_67 m_people v.2.2.1 v.2.2.2.1 v.2.2.2.2 (fun x3 x4 m_code m_isUp m_wasUp => k (x3, x4, m_code, m_isUp, m_wasUp)) v.1 v.2.1)
set_option maxRecDepth 100000 in
set_option maxHeartbeats 4000000 in
theorem u_X11_common_67 {Y : YT} {r : Int32 × Int32 × (Nat → Int32) × (Nat → Int32)}  (hX : CX l G cX11_common 5 RX11 Y) (hQ : EQi G Y 0 0 .int r.1 (WM G r.2.1 m_people m_grants m_texts m_copies m_taped m_faultPlace m_isFemale m_born m_died m_father m_mother m_fatherGrade m_motherGrade m_grantTo m_grantArms m_grantYear m_copyYear m_copyRow m_tape m_textYear m_ruleMany m_ruleFrom m_codeRow m_stack m_ruleKind m_codes m_at m_read m_token m_sign m_begins m_ends m_bad m_badPlace m_top m_lineLives m_markRow m_quarterMany m_quarters r.2.2.1 r.2.2.2 ++ fr))  (n : Nat) (v : Int32 × Int32 × Int32 × (Nat → Int32) × (Nat → Int32)) (hf : f_X11_common_67 m_people n v = some r) : J l G (rmD 2 0 0) Y 0 0 67 [(0, .ref (gm G 0)), (3, .int v.1), (4, .int v.2.1)] [] (WM G v.2.2.1 m_people m_grants m_texts m_copies m_taped m_faultPlace m_isFemale m_born m_died m_father m_mother m_fatherGrade m_motherGrade m_grantTo m_grantArms m_grantYear m_copyYear m_copyRow m_tape m_textYear m_ruleMany m_ruleFrom m_codeRow m_stack m_ruleKind m_codes m_at m_read m_token m_sign m_begins m_ends m_bad m_badPlace m_top m_lineLives m_markRow m_quarterMany m_quarters v.2.2.2.1 v.2.2.2.2 ++ fr) :=
  lp_ind (P := fun v : Int32 × Int32 × Int32 × (Nat → Int32) × (Nat → Int32) => J l G (rmD 2 0 0) Y 0 0 67 [(0, .ref (gm G 0)), (3, .int v.1), (4, .int v.2.1)] [] (WM G v.2.2.1 m_people m_grants m_texts m_copies m_taped m_faultPlace m_isFemale m_born m_died m_father m_mother m_fatherGrade m_motherGrade m_grantTo m_grantArms m_grantYear m_copyYear m_copyRow m_tape m_textYear m_ruleMany m_ruleFrom m_codeRow m_stack m_ruleKind m_codes m_at m_read m_token m_sign m_begins m_ends m_bad m_badPlace m_top m_lineLives m_markRow m_quarterMany m_quarters v.2.2.2.1 v.2.2.2.2 ++ fr)) (fun k hk v hf => t_X11_common_67 hX hQ   (fun x3 x4 m_code m_isUp m_wasUp h => hk (x3, x4, m_code, m_isUp, m_wasUp) h) v.1 v.2.1 hf) n v hf
def g_X11_common_33 (fu : Nat) (m_people : Int32) (m_father : Nat → Int32) (m_mother : Nat → Int32) (m_code : Int32) (m_isUp : Nat → Int32) (m_wasUp : Nat → Int32) (k33 : Int32 → Int32 → Int32 → (Nat → Int32) → (Nat → Int32) → Option (Int32 × Int32 × (Nat → Int32) × (Nat → Int32))) (x2 : Int32) (x3 : Int32) : Option (Int32 × Int32 × (Nat → Int32) × (Nat → Int32)) :=
  if 60 ≤ x3 then (f_X11_up fu m_father m_mother m_isUp x2).bind fun v8 => f_X11_common_67 m_people fu ((-1), 0, m_code, v8, m_wasUp) else if inb x3 60 = true then if inb x3 60 = true then k33 x2 (x3 + 1) m_code m_isUp (upd m_wasUp (Int32.toNatClampNeg x3) (vp_nar .boolean (m_isUp (Int32.toNatClampNeg x3)))) else none else none
set_option maxRecDepth 100000 in
set_option maxHeartbeats 4000000 in
theorem t_X11_common_33 {fu : Nat} {Y : YT} {r : Int32 × Int32 × (Nat → Int32) × (Nat → Int32)} {k33 : Int32 → Int32 → Int32 → (Nat → Int32) → (Nat → Int32) → Option (Int32 × Int32 × (Nat → Int32) × (Nat → Int32))} (hX : CX l G cX11_common 5 RX11 Y) (hQ : EQi G Y 0 0 .int r.1 (WM G r.2.1 m_people m_grants m_texts m_copies m_taped m_faultPlace m_isFemale m_born m_died m_father m_mother m_fatherGrade m_motherGrade m_grantTo m_grantArms m_grantYear m_copyYear m_copyRow m_tape m_textYear m_ruleMany m_ruleFrom m_codeRow m_stack m_ruleKind m_codes m_at m_read m_token m_sign m_begins m_ends m_bad m_badPlace m_top m_lineLives m_markRow m_quarterMany m_quarters r.2.2.1 r.2.2.2 ++ fr)) (hk33 : ∀ (x2 : Int32) (x3 : Int32) (m_code : Int32) (m_isUp : Nat → Int32) (m_wasUp : Nat → Int32), k33 x2 x3 m_code m_isUp m_wasUp = some r → J l G (rmD 2 0 0) Y 0 0 33 [(0, .ref (gm G 0)), (2, .int x2), (3, .int x3)] [] (WM G m_code m_people m_grants m_texts m_copies m_taped m_faultPlace m_isFemale m_born m_died m_father m_mother m_fatherGrade m_motherGrade m_grantTo m_grantArms m_grantYear m_copyYear m_copyRow m_tape m_textYear m_ruleMany m_ruleFrom m_codeRow m_stack m_ruleKind m_codes m_at m_read m_token m_sign m_begins m_ends m_bad m_badPlace m_top m_lineLives m_markRow m_quarterMany m_quarters m_isUp m_wasUp ++ fr)) (x2 : Int32) (x3 : Int32) (hf : g_X11_common_33 fu m_people m_father m_mother m_code m_isUp m_wasUp k33 x2 x3 = some r) : J l G (rmD 2 0 0) Y 0 0 33 [(0, .ref (gm G 0)), (2, .int x2), (3, .int x3)] [] (WM G m_code m_people m_grants m_texts m_copies m_taped m_faultPlace m_isFemale m_born m_died m_father m_mother m_fatherGrade m_motherGrade m_grantTo m_grantArms m_grantYear m_copyYear m_copyRow m_tape m_textYear m_ruleMany m_ruleFrom m_codeRow m_stack m_ruleKind m_codes m_at m_read m_token m_sign m_begins m_ends m_bad m_badPlace m_top m_lineLives m_markRow m_quarterMany m_quarters m_isUp m_wasUp ++ fr) := by
  unfold g_X11_common_33 at hf
  refine j_iload_n hX dX11_common_33 34 rfl 2 rfl rfl ?_
  refine j_bipush (v := 60) hX dX11_common_34 36 rfl (by decide) ?_
  refine j_icmp_ge hX dX11_common_36 39 57 rfl rfl (fun h7 => ?_) (fun h7 => ?_)
  · replace hf := itt h7 hf
    refine j_aload_n hX dX11_common_57 58 rfl 0 rfl rfl ?_
    refine j_iload_n hX dX11_common_58 59 rfl 1 rfl rfl ?_
    obtain ⟨v8, hv8, hf⟩ := ibd hf
    refine z_v (As := [.int x2]) (rest := []) (q0 := 0) hX dX11_common_59 62 rfl (t_X11_up x2 hv8) mc_X11_up mv_X11_up ml_X11_194 rfl rfl (Nat.le_of_ble_eq_true rfl) (Nat.le_refl _) (Nat.le_refl _) rfl (Nat.le_of_ble_eq_true rfl) ?_
    refine j_iconst (v := (-1)) hX dX11_common_62 63 rfl (by decide) ?_
    refine j_istore_n hX dX11_common_63 64 rfl rfl (by decide) (lv' := [(3, .int ((-1))), (0, .ref (gm G 0)), (2, .int x2)]) rfl ?_
    refine j_iconst (v := 0) hX dX11_common_64 65 rfl (by decide) ?_
    refine j_istore hX dX11_common_65 67 rfl (by decide) (lv' := [(4, .int 0), (3, .int ((-1))), (0, .ref (gm G 0)), (2, .int x2)]) rfl ?_
    refine j_sub [2, 1, 0] rfl ?_
    exact u_X11_common_67 hX hQ   fu ((-1), 0, m_code, v8, m_wasUp) hf
  · replace hf := itf h7 hf
    refine j_aload_n hX dX11_common_39 40 rfl 0 rfl rfl ?_
    refine j_get hX dX11_common_40 43 rfl fg_X11_107 0 rfl rfl ?_
    refine j_iload_n hX dX11_common_43 44 rfl 2 rfl rfl ?_
    refine j_aload_n hX dX11_common_44 45 rfl 0 rfl rfl ?_
    refine j_get hX dX11_common_45 48 rfl fg_X11_104 0 rfl rfl ?_
    refine j_iload_n hX dX11_common_48 49 rfl 2 rfl rfl ?_
    obtain ⟨hb14, hf⟩ := ign hf
    refine j_zald hX dX11_common_49 50 rfl 25 rfl hb14 ?_
    obtain ⟨hb15, hf⟩ := ign hf
    refine j_zast hX dX11_common_50 51 rfl 26 rfl hb15 (ws' := (WM G m_code m_people m_grants m_texts m_copies m_taped m_faultPlace m_isFemale m_born m_died m_father m_mother m_fatherGrade m_motherGrade m_grantTo m_grantArms m_grantYear m_copyYear m_copyRow m_tape m_textYear m_ruleMany m_ruleFrom m_codeRow m_stack m_ruleKind m_codes m_at m_read m_token m_sign m_begins m_ends m_bad m_badPlace m_top m_lineLives m_markRow m_quarterMany m_quarters m_isUp (upd m_wasUp (Int32.toNatClampNeg x3) (vp_nar .boolean (m_isUp (Int32.toNatClampNeg x3)))) ++ fr)) rfl ?_
    refine j_iinc (v := x3 + 1) hX dX11_common_51 54 rfl 2 rfl rfl (by decide) (lv' := [(3, .int (x3 + 1)), (0, .ref (gm G 0)), (2, .int x2)]) rfl ?_
    refine j_goto hX dX11_common_54 33 rfl ?_
    refine j_sub [1, 2, 0] rfl ?_
    exact hk33 x2 (x3 + 1) m_code m_isUp (upd m_wasUp (Int32.toNatClampNeg x3) (vp_nar .boolean (m_isUp (Int32.toNatClampNeg x3)))) hf
def f_X11_common_33 (fu : Nat) (m_people : Int32) (m_father : Nat → Int32) (m_mother : Nat → Int32) : Nat → (Int32 × Int32 × Int32 × (Nat → Int32) × (Nat → Int32)) → Option (Int32 × Int32 × (Nat → Int32) × (Nat → Int32)) :=
  lp (fun k v => g_X11_common_33 fu m_people m_father m_mother v.2.2.1 v.2.2.2.1 v.2.2.2.2 (fun x2 x3 m_code m_isUp m_wasUp => k (x2, x3, m_code, m_isUp, m_wasUp)) v.1 v.2.1)
set_option maxRecDepth 100000 in
set_option maxHeartbeats 4000000 in
theorem u_X11_common_33 {fu : Nat} {Y : YT} {r : Int32 × Int32 × (Nat → Int32) × (Nat → Int32)}  (hX : CX l G cX11_common 5 RX11 Y) (hQ : EQi G Y 0 0 .int r.1 (WM G r.2.1 m_people m_grants m_texts m_copies m_taped m_faultPlace m_isFemale m_born m_died m_father m_mother m_fatherGrade m_motherGrade m_grantTo m_grantArms m_grantYear m_copyYear m_copyRow m_tape m_textYear m_ruleMany m_ruleFrom m_codeRow m_stack m_ruleKind m_codes m_at m_read m_token m_sign m_begins m_ends m_bad m_badPlace m_top m_lineLives m_markRow m_quarterMany m_quarters r.2.2.1 r.2.2.2 ++ fr))  (n : Nat) (v : Int32 × Int32 × Int32 × (Nat → Int32) × (Nat → Int32)) (hf : f_X11_common_33 fu m_people m_father m_mother n v = some r) : J l G (rmD 2 0 0) Y 0 0 33 [(0, .ref (gm G 0)), (2, .int v.1), (3, .int v.2.1)] [] (WM G v.2.2.1 m_people m_grants m_texts m_copies m_taped m_faultPlace m_isFemale m_born m_died m_father m_mother m_fatherGrade m_motherGrade m_grantTo m_grantArms m_grantYear m_copyYear m_copyRow m_tape m_textYear m_ruleMany m_ruleFrom m_codeRow m_stack m_ruleKind m_codes m_at m_read m_token m_sign m_begins m_ends m_bad m_badPlace m_top m_lineLives m_markRow m_quarterMany m_quarters v.2.2.2.1 v.2.2.2.2 ++ fr) :=
  lp_ind (P := fun v : Int32 × Int32 × Int32 × (Nat → Int32) × (Nat → Int32) => J l G (rmD 2 0 0) Y 0 0 33 [(0, .ref (gm G 0)), (2, .int v.1), (3, .int v.2.1)] [] (WM G v.2.2.1 m_people m_grants m_texts m_copies m_taped m_faultPlace m_isFemale m_born m_died m_father m_mother m_fatherGrade m_motherGrade m_grantTo m_grantArms m_grantYear m_copyYear m_copyRow m_tape m_textYear m_ruleMany m_ruleFrom m_codeRow m_stack m_ruleKind m_codes m_at m_read m_token m_sign m_begins m_ends m_bad m_badPlace m_top m_lineLives m_markRow m_quarterMany m_quarters v.2.2.2.1 v.2.2.2.2 ++ fr)) (fun k hk v hf => t_X11_common_33 hX hQ   (fun x2 x3 m_code m_isUp m_wasUp h => hk (x2, x3, m_code, m_isUp, m_wasUp) h) v.1 v.2.1 hf) n v hf
def f_X11_common (fu : Nat) (m_people : Int32) (m_father : Nat → Int32) (m_mother : Nat → Int32) (m_isUp : Nat → Int32) (m_wasUp : Nat → Int32) (x1 : Int32) (x2 : Int32) : Option (Int32 × Int32 × (Nat → Int32) × (Nat → Int32)) :=
  (f_X11_is m_people x1).bind fun v1 => if v1 = 0 then g_X11_common_21 m_isUp m_wasUp else (f_X11_is m_people x2).bind fun v4 => if v4 = 0 then g_X11_common_21 m_isUp m_wasUp else (f_X11_up fu m_father m_mother m_isUp x1).bind fun v6 => f_X11_common_33 fu m_people m_father m_mother fu (x2, 0, 0, v6, m_wasUp)
set_option maxRecDepth 100000 in
set_option maxHeartbeats 4000000 in
theorem t_X11_common {fu : Nat}  (x1 : Int32) (x2 : Int32) {r : Int32 × Int32 × (Nat → Int32) × (Nat → Int32)} (hf : f_X11_common fu m_people m_father m_mother m_isUp m_wasUp x1 x2 = some r) : Ci l G 2 0 0 yX11_common cX11_common 5 .int [.ref (gm G 0), .int x1, .int x2] (WM G m_code m_people m_grants m_texts m_copies m_taped m_faultPlace m_isFemale m_born m_died m_father m_mother m_fatherGrade m_motherGrade m_grantTo m_grantArms m_grantYear m_copyYear m_copyRow m_tape m_textYear m_ruleMany m_ruleFrom m_codeRow m_stack m_ruleKind m_codes m_at m_read m_token m_sign m_begins m_ends m_bad m_badPlace m_top m_lineLives m_markRow m_quarterMany m_quarters m_isUp m_wasUp ++ fr) r.1 (WM G r.2.1 m_people m_grants m_texts m_copies m_taped m_faultPlace m_isFemale m_born m_died m_father m_mother m_fatherGrade m_motherGrade m_grantTo m_grantArms m_grantYear m_copyYear m_copyRow m_tape m_textYear m_ruleMany m_ruleFrom m_codeRow m_stack m_ruleKind m_codes m_at m_read m_token m_sign m_begins m_ends m_bad m_badPlace m_top m_lineLives m_markRow m_quarterMany m_quarters r.2.2.1 r.2.2.2 ++ fr) := by
  refine Ci.of (by decide) (Nat.le_of_ble_eq_true rfl) (fun Y hX hQ => ?_)
  refine j_lv (lv' := [(0, .ref (gm G 0)), (1, .int x1), (2, .int x2)]) rfl ?_
  unfold f_X11_common at hf
  refine j_aload_n hX dX11_common_0 1 rfl 0 rfl rfl ?_
  refine j_iconst (v := 0) hX dX11_common_1 2 rfl (by decide) ?_
  refine j_put hX dX11_common_2 5 rfl fg_X11_110 ft_X11_1 0 rfl rfl rfl (Nat.le_of_ble_eq_true rfl) (ws' := (WM G 0 m_people m_grants m_texts m_copies m_taped m_faultPlace m_isFemale m_born m_died m_father m_mother m_fatherGrade m_motherGrade m_grantTo m_grantArms m_grantYear m_copyYear m_copyRow m_tape m_textYear m_ruleMany m_ruleFrom m_codeRow m_stack m_ruleKind m_codes m_at m_read m_token m_sign m_begins m_ends m_bad m_badPlace m_top m_lineLives m_markRow m_quarterMany m_quarters m_isUp m_wasUp ++ fr)) rfl ?_
  refine j_aload_n hX dX11_common_5 6 rfl 0 rfl rfl ?_
  refine j_iload_n hX dX11_common_6 7 rfl 1 rfl rfl ?_
  obtain ⟨v1, hv1, hf⟩ := ibd hf
  refine z_i (As := [.int x1]) (rest := []) (q0 := 0) hX dX11_common_7 10 rfl (t_X11_is x1 hv1) mc_X11_is mv_X11_is ml_X11_124 rfl rfl (Nat.le_of_ble_eq_true rfl) (Nat.le_refl _) (Nat.le_refl _) rfl (Nat.le_of_ble_eq_true rfl) ?_
  refine j_if_eq hX dX11_common_10 13 21 rfl rfl (fun h2 => ?_) (fun h2 => ?_)
  · replace hf := itt h2 hf
    refine j_sub [0] rfl ?_
    exact t_X11_common_21 hX hQ    hf
  · replace hf := itf h2 hf
    refine j_aload_n hX dX11_common_13 14 rfl 0 rfl rfl ?_
    refine j_iload_n hX dX11_common_14 15 rfl 2 rfl rfl ?_
    obtain ⟨v4, hv4, hf⟩ := ibd hf
    refine z_i (As := [.int x2]) (rest := []) (q0 := 0) hX dX11_common_15 18 rfl (t_X11_is x2 hv4) mc_X11_is mv_X11_is ml_X11_124 rfl rfl (Nat.le_of_ble_eq_true rfl) (Nat.le_refl _) (Nat.le_refl _) rfl (Nat.le_of_ble_eq_true rfl) ?_
    refine j_if_ne hX dX11_common_18 21 26 rfl rfl (fun h5 => ?_) (fun h5 => ?_)
    · replace hf := itf h5 hf
      refine j_aload_n hX dX11_common_26 27 rfl 0 rfl rfl ?_
      refine j_iload_n hX dX11_common_27 28 rfl 1 rfl rfl ?_
      obtain ⟨v6, hv6, hf⟩ := ibd hf
      refine z_v (As := [.int x1]) (rest := []) (q0 := 0) hX dX11_common_28 31 rfl (t_X11_up x1 hv6) mc_X11_up mv_X11_up ml_X11_194 rfl rfl (Nat.le_of_ble_eq_true rfl) (Nat.le_refl _) (Nat.le_refl _) rfl (Nat.le_of_ble_eq_true rfl) ?_
      refine j_iconst (v := 0) hX dX11_common_31 32 rfl (by decide) ?_
      refine j_istore_n hX dX11_common_32 33 rfl rfl (by decide) (lv' := [(3, .int 0), (0, .ref (gm G 0)), (1, .int x1), (2, .int x2)]) rfl ?_
      refine j_sub [1, 3, 0] rfl ?_
      exact u_X11_common_33 hX hQ   fu (x2, 0, 0, v6, m_wasUp) hf
    · replace hf := itt h5 hf
      refine j_sub [0] rfl ?_
      exact t_X11_common_21 hX hQ    hf
def g_X11_feed_76 (m_code : Int32) (m_taped : Int32) (m_tape : Nat → Int32) (k23 : Int32 → Int32 → Int32 → Int32 → Int32 → Int32 → Int32 → Int32 → (Nat → Int32) → Option (Int32 × Int32 × Int32 × (Nat → Int32))) (x1 : Int32) (x2 : Int32) (x3 : Int32) (x4 : Int32) (x5 : Int32) (x6 : Int32) (s0 : Int32) : Option (Int32 × Int32 × Int32 × (Nat → Int32)) :=
  if inb m_taped 400 = true then k23 x1 x2 x3 x4 x5 (x6 + 1) m_code (m_taped + 1) (upd m_tape (Int32.toNatClampNeg m_taped) ((s0 >>> ((24 - (8 * (x6 - x6 / 4 * 4))) &&& 31)) &&& 255)) else none
set_option maxRecDepth 100000 in
set_option maxHeartbeats 4000000 in
theorem t_X11_feed_76 {Y : YT} {r : Int32 × Int32 × Int32 × (Nat → Int32)} {k23 : Int32 → Int32 → Int32 → Int32 → Int32 → Int32 → Int32 → Int32 → (Nat → Int32) → Option (Int32 × Int32 × Int32 × (Nat → Int32))} (hX : CX l G cX11_feed 8 RX11 Y) (hQ : EQi G Y 0 0 .int r.1 (WM G r.2.1 m_people m_grants m_texts m_copies r.2.2.1 m_faultPlace m_isFemale m_born m_died m_father m_mother m_fatherGrade m_motherGrade m_grantTo m_grantArms m_grantYear m_copyYear m_copyRow r.2.2.2 m_textYear m_ruleMany m_ruleFrom m_codeRow m_stack m_ruleKind m_codes m_at m_read m_token m_sign m_begins m_ends m_bad m_badPlace m_top m_lineLives m_markRow m_quarterMany m_quarters m_isUp m_wasUp ++ fr)) (hk23 : ∀ (x1 : Int32) (x2 : Int32) (x3 : Int32) (x4 : Int32) (x5 : Int32) (x6 : Int32) (m_code : Int32) (m_taped : Int32) (m_tape : Nat → Int32), k23 x1 x2 x3 x4 x5 x6 m_code m_taped m_tape = some r → J l G (rmD 1 0 0) Y 0 0 23 [(0, .ref (gm G 0)), (1, .int x1), (2, .int x2), (3, .int x3), (4, .int x4), (5, .int x5), (6, .int x6)] [] (WM G m_code m_people m_grants m_texts m_copies m_taped m_faultPlace m_isFemale m_born m_died m_father m_mother m_fatherGrade m_motherGrade m_grantTo m_grantArms m_grantYear m_copyYear m_copyRow m_tape m_textYear m_ruleMany m_ruleFrom m_codeRow m_stack m_ruleKind m_codes m_at m_read m_token m_sign m_begins m_ends m_bad m_badPlace m_top m_lineLives m_markRow m_quarterMany m_quarters m_isUp m_wasUp ++ fr)) (x1 : Int32) (x2 : Int32) (x3 : Int32) (x4 : Int32) (x5 : Int32) (x6 : Int32) (s0 : Int32) (hf : g_X11_feed_76 m_code m_taped m_tape k23 x1 x2 x3 x4 x5 x6 s0 = some r) : J l G (rmD 1 0 0) Y 0 0 76 [(0, .ref (gm G 0)), (1, .int x1), (2, .int x2), (3, .int x3), (4, .int x4), (5, .int x5), (6, .int x6)] [.int s0] (WM G m_code m_people m_grants m_texts m_copies m_taped m_faultPlace m_isFemale m_born m_died m_father m_mother m_fatherGrade m_motherGrade m_grantTo m_grantArms m_grantYear m_copyYear m_copyRow m_tape m_textYear m_ruleMany m_ruleFrom m_codeRow m_stack m_ruleKind m_codes m_at m_read m_token m_sign m_begins m_ends m_bad m_badPlace m_top m_lineLives m_markRow m_quarterMany m_quarters m_isUp m_wasUp ++ fr) := by
  unfold g_X11_feed_76 at hf
  refine j_istore hX dX11_feed_76 78 rfl (by decide) (lv' := [(7, .int s0), (0, .ref (gm G 0)), (1, .int x1), (2, .int x2), (3, .int x3), (4, .int x4), (5, .int x5), (6, .int x6)]) rfl ?_
  refine j_aload_n hX dX11_feed_78 79 rfl 1 rfl rfl ?_
  refine j_get hX dX11_feed_79 82 rfl fg_X11_72 0 rfl rfl ?_
  refine j_aload_n hX dX11_feed_82 83 rfl 1 rfl rfl ?_
  refine j_get hX dX11_feed_83 86 rfl fg_X11_197 0 rfl rfl ?_
  refine j_iload hX dX11_feed_86 88 rfl 0 rfl ?_
  refine j_bipush (v := 24) hX dX11_feed_88 90 rfl (by decide) ?_
  refine j_bipush (v := 8) hX dX11_feed_90 92 rfl (by decide) ?_
  refine j_iload hX dX11_feed_92 94 rfl 7 rfl ?_
  refine j_iconst (v := 4) hX dX11_feed_94 95 rfl (by decide) ?_
  refine j_irem hX dX11_feed_95 96 rfl (by decide) ?_
  refine j_imul hX dX11_feed_96 97 rfl ?_
  refine j_isub hX dX11_feed_97 98 rfl ?_
  refine j_ishr hX dX11_feed_98 99 rfl ?_
  refine j_sipush (v := 255) hX dX11_feed_99 102 rfl (by decide) ?_
  refine j_iand hX dX11_feed_102 103 rfl ?_
  obtain ⟨hb7, hf⟩ := ign hf
  refine j_iast hX dX11_feed_103 104 rfl 14 rfl hb7 (ws' := (WM G m_code m_people m_grants m_texts m_copies m_taped m_faultPlace m_isFemale m_born m_died m_father m_mother m_fatherGrade m_motherGrade m_grantTo m_grantArms m_grantYear m_copyYear m_copyRow (upd m_tape (Int32.toNatClampNeg m_taped) ((s0 >>> ((24 - (8 * (x6 - x6 / 4 * 4))) &&& 31)) &&& 255)) m_textYear m_ruleMany m_ruleFrom m_codeRow m_stack m_ruleKind m_codes m_at m_read m_token m_sign m_begins m_ends m_bad m_badPlace m_top m_lineLives m_markRow m_quarterMany m_quarters m_isUp m_wasUp ++ fr)) rfl ?_
  refine j_aload_n hX dX11_feed_104 105 rfl 1 rfl rfl ?_
  refine j_dup hX dX11_feed_105 106 rfl rfl ?_
  refine j_get hX dX11_feed_106 109 rfl fg_X11_197 0 rfl rfl ?_
  refine j_iconst (v := 1) hX dX11_feed_109 110 rfl (by decide) ?_
  refine j_iadd hX dX11_feed_110 111 rfl ?_
  refine j_put hX dX11_feed_111 114 rfl fg_X11_197 ft_X11_6 0 rfl rfl rfl (Nat.le_of_ble_eq_true rfl) (ws' := (WM G m_code m_people m_grants m_texts m_copies (m_taped + 1) m_faultPlace m_isFemale m_born m_died m_father m_mother m_fatherGrade m_motherGrade m_grantTo m_grantArms m_grantYear m_copyYear m_copyRow (upd m_tape (Int32.toNatClampNeg m_taped) ((s0 >>> ((24 - (8 * (x6 - x6 / 4 * 4))) &&& 31)) &&& 255)) m_textYear m_ruleMany m_ruleFrom m_codeRow m_stack m_ruleKind m_codes m_at m_read m_token m_sign m_begins m_ends m_bad m_badPlace m_top m_lineLives m_markRow m_quarterMany m_quarters m_isUp m_wasUp ++ fr)) rfl ?_
  refine j_iinc (v := x6 + 1) hX dX11_feed_114 117 rfl 7 rfl rfl (by decide) (lv' := [(6, .int (x6 + 1)), (7, .int s0), (0, .ref (gm G 0)), (1, .int x1), (2, .int x2), (3, .int x3), (4, .int x4), (5, .int x5)]) rfl ?_
  refine j_goto hX dX11_feed_117 23 rfl ?_
  refine j_sub [2, 3, 4, 5, 6, 7, 0] rfl ?_
  exact hk23 x1 x2 x3 x4 x5 (x6 + 1) m_code (m_taped + 1) (upd m_tape (Int32.toNatClampNeg m_taped) ((s0 >>> ((24 - (8 * (x6 - x6 / 4 * 4))) &&& 31)) &&& 255)) hf
def g_X11_feed_23 (m_code : Int32) (m_taped : Int32) (m_tape : Nat → Int32) (k23 : Int32 → Int32 → Int32 → Int32 → Int32 → Int32 → Int32 → Int32 → (Nat → Int32) → Option (Int32 × Int32 × Int32 × (Nat → Int32))) (x1 : Int32) (x2 : Int32) (x3 : Int32) (x4 : Int32) (x5 : Int32) (x6 : Int32) : Option (Int32 × Int32 × Int32 × (Nat → Int32)) :=
  if 20 ≤ x6 then some (m_taped, m_code, m_taped, m_tape) else if 4 ≤ x6 then if 8 ≤ x6 then if 12 ≤ x6 then if 16 ≤ x6 then g_X11_feed_76 m_code m_taped m_tape k23 x1 x2 x3 x4 x5 x6 x5 else g_X11_feed_76 m_code m_taped m_tape k23 x1 x2 x3 x4 x5 x6 x4 else g_X11_feed_76 m_code m_taped m_tape k23 x1 x2 x3 x4 x5 x6 x3 else g_X11_feed_76 m_code m_taped m_tape k23 x1 x2 x3 x4 x5 x6 x2 else g_X11_feed_76 m_code m_taped m_tape k23 x1 x2 x3 x4 x5 x6 x1
set_option maxRecDepth 100000 in
set_option maxHeartbeats 4000000 in
theorem t_X11_feed_23 {Y : YT} {r : Int32 × Int32 × Int32 × (Nat → Int32)} {k23 : Int32 → Int32 → Int32 → Int32 → Int32 → Int32 → Int32 → Int32 → (Nat → Int32) → Option (Int32 × Int32 × Int32 × (Nat → Int32))} (hX : CX l G cX11_feed 8 RX11 Y) (hQ : EQi G Y 0 0 .int r.1 (WM G r.2.1 m_people m_grants m_texts m_copies r.2.2.1 m_faultPlace m_isFemale m_born m_died m_father m_mother m_fatherGrade m_motherGrade m_grantTo m_grantArms m_grantYear m_copyYear m_copyRow r.2.2.2 m_textYear m_ruleMany m_ruleFrom m_codeRow m_stack m_ruleKind m_codes m_at m_read m_token m_sign m_begins m_ends m_bad m_badPlace m_top m_lineLives m_markRow m_quarterMany m_quarters m_isUp m_wasUp ++ fr)) (hk23 : ∀ (x1 : Int32) (x2 : Int32) (x3 : Int32) (x4 : Int32) (x5 : Int32) (x6 : Int32) (m_code : Int32) (m_taped : Int32) (m_tape : Nat → Int32), k23 x1 x2 x3 x4 x5 x6 m_code m_taped m_tape = some r → J l G (rmD 1 0 0) Y 0 0 23 [(0, .ref (gm G 0)), (1, .int x1), (2, .int x2), (3, .int x3), (4, .int x4), (5, .int x5), (6, .int x6)] [] (WM G m_code m_people m_grants m_texts m_copies m_taped m_faultPlace m_isFemale m_born m_died m_father m_mother m_fatherGrade m_motherGrade m_grantTo m_grantArms m_grantYear m_copyYear m_copyRow m_tape m_textYear m_ruleMany m_ruleFrom m_codeRow m_stack m_ruleKind m_codes m_at m_read m_token m_sign m_begins m_ends m_bad m_badPlace m_top m_lineLives m_markRow m_quarterMany m_quarters m_isUp m_wasUp ++ fr)) (x1 : Int32) (x2 : Int32) (x3 : Int32) (x4 : Int32) (x5 : Int32) (x6 : Int32) (hf : g_X11_feed_23 m_code m_taped m_tape k23 x1 x2 x3 x4 x5 x6 = some r) : J l G (rmD 1 0 0) Y 0 0 23 [(0, .ref (gm G 0)), (1, .int x1), (2, .int x2), (3, .int x3), (4, .int x4), (5, .int x5), (6, .int x6)] [] (WM G m_code m_people m_grants m_texts m_copies m_taped m_faultPlace m_isFemale m_born m_died m_father m_mother m_fatherGrade m_motherGrade m_grantTo m_grantArms m_grantYear m_copyYear m_copyRow m_tape m_textYear m_ruleMany m_ruleFrom m_codeRow m_stack m_ruleKind m_codes m_at m_read m_token m_sign m_begins m_ends m_bad m_badPlace m_top m_lineLives m_markRow m_quarterMany m_quarters m_isUp m_wasUp ++ fr) := by
  unfold g_X11_feed_23 at hf
  refine j_iload hX dX11_feed_23 25 rfl 6 rfl ?_
  refine j_bipush (v := 20) hX dX11_feed_25 27 rfl (by decide) ?_
  refine j_icmp_ge hX dX11_feed_27 30 120 rfl rfl (fun h2 => ?_) (fun h2 => ?_)
  · replace hf := itt h2 hf
    refine j_aload_n hX dX11_feed_120 121 rfl 0 rfl rfl ?_
    refine j_get hX dX11_feed_121 124 rfl fg_X11_197 0 rfl rfl ?_
    replace hf := Option.some.inj hf
    subst hf
    exact j_iret hX hQ dX11_feed_124
  · replace hf := itf h2 hf
    refine j_iload hX dX11_feed_30 32 rfl 6 rfl ?_
    refine j_iconst (v := 4) hX dX11_feed_32 33 rfl (by decide) ?_
    refine j_icmp_ge hX dX11_feed_33 36 40 rfl rfl (fun h3 => ?_) (fun h3 => ?_)
    · replace hf := itt h3 hf
      refine j_iload hX dX11_feed_40 42 rfl 6 rfl ?_
      refine j_bipush (v := 8) hX dX11_feed_42 44 rfl (by decide) ?_
      refine j_icmp_ge hX dX11_feed_44 47 51 rfl rfl (fun h4 => ?_) (fun h4 => ?_)
      · replace hf := itt h4 hf
        refine j_iload hX dX11_feed_51 53 rfl 6 rfl ?_
        refine j_bipush (v := 12) hX dX11_feed_53 55 rfl (by decide) ?_
        refine j_icmp_ge hX dX11_feed_55 58 62 rfl rfl (fun h5 => ?_) (fun h5 => ?_)
        · replace hf := itt h5 hf
          refine j_iload hX dX11_feed_62 64 rfl 6 rfl ?_
          refine j_bipush (v := 16) hX dX11_feed_64 66 rfl (by decide) ?_
          refine j_icmp_ge hX dX11_feed_66 69 74 rfl rfl (fun h6 => ?_) (fun h6 => ?_)
          · replace hf := itt h6 hf
            refine j_iload hX dX11_feed_74 76 rfl 5 rfl ?_
            exact t_X11_feed_76 hX hQ  hk23 x1 x2 x3 x4 x5 x6 x5 hf
          · replace hf := itf h6 hf
            refine j_iload hX dX11_feed_69 71 rfl 4 rfl ?_
            refine j_goto hX dX11_feed_71 76 rfl ?_
            exact t_X11_feed_76 hX hQ  hk23 x1 x2 x3 x4 x5 x6 x4 hf
        · replace hf := itf h5 hf
          refine j_iload_n hX dX11_feed_58 59 rfl 3 rfl rfl ?_
          refine j_goto hX dX11_feed_59 76 rfl ?_
          exact t_X11_feed_76 hX hQ  hk23 x1 x2 x3 x4 x5 x6 x3 hf
      · replace hf := itf h4 hf
        refine j_iload_n hX dX11_feed_47 48 rfl 2 rfl rfl ?_
        refine j_goto hX dX11_feed_48 76 rfl ?_
        exact t_X11_feed_76 hX hQ  hk23 x1 x2 x3 x4 x5 x6 x2 hf
    · replace hf := itf h3 hf
      refine j_iload_n hX dX11_feed_36 37 rfl 1 rfl rfl ?_
      refine j_goto hX dX11_feed_37 76 rfl ?_
      exact t_X11_feed_76 hX hQ  hk23 x1 x2 x3 x4 x5 x6 x1 hf
def f_X11_feed_23  : Nat → (Int32 × Int32 × Int32 × Int32 × Int32 × Int32 × Int32 × Int32 × (Nat → Int32)) → Option (Int32 × Int32 × Int32 × (Nat → Int32)) :=
  lp (fun k v => g_X11_feed_23 v.2.2.2.2.2.2.1 v.2.2.2.2.2.2.2.1 v.2.2.2.2.2.2.2.2 (fun x1 x2 x3 x4 x5 x6 m_code m_taped m_tape => k (x1, x2, x3, x4, x5, x6, m_code, m_taped, m_tape)) v.1 v.2.1 v.2.2.1 v.2.2.2.1 v.2.2.2.2.1 v.2.2.2.2.2.1)
set_option maxRecDepth 100000 in
set_option maxHeartbeats 4000000 in
theorem u_X11_feed_23 {Y : YT} {r : Int32 × Int32 × Int32 × (Nat → Int32)}  (hX : CX l G cX11_feed 8 RX11 Y) (hQ : EQi G Y 0 0 .int r.1 (WM G r.2.1 m_people m_grants m_texts m_copies r.2.2.1 m_faultPlace m_isFemale m_born m_died m_father m_mother m_fatherGrade m_motherGrade m_grantTo m_grantArms m_grantYear m_copyYear m_copyRow r.2.2.2 m_textYear m_ruleMany m_ruleFrom m_codeRow m_stack m_ruleKind m_codes m_at m_read m_token m_sign m_begins m_ends m_bad m_badPlace m_top m_lineLives m_markRow m_quarterMany m_quarters m_isUp m_wasUp ++ fr))  (n : Nat) (v : Int32 × Int32 × Int32 × Int32 × Int32 × Int32 × Int32 × Int32 × (Nat → Int32)) (hf : f_X11_feed_23  n v = some r) : J l G (rmD 1 0 0) Y 0 0 23 [(0, .ref (gm G 0)), (1, .int v.1), (2, .int v.2.1), (3, .int v.2.2.1), (4, .int v.2.2.2.1), (5, .int v.2.2.2.2.1), (6, .int v.2.2.2.2.2.1)] [] (WM G v.2.2.2.2.2.2.1 m_people m_grants m_texts m_copies v.2.2.2.2.2.2.2.1 m_faultPlace m_isFemale m_born m_died m_father m_mother m_fatherGrade m_motherGrade m_grantTo m_grantArms m_grantYear m_copyYear m_copyRow v.2.2.2.2.2.2.2.2 m_textYear m_ruleMany m_ruleFrom m_codeRow m_stack m_ruleKind m_codes m_at m_read m_token m_sign m_begins m_ends m_bad m_badPlace m_top m_lineLives m_markRow m_quarterMany m_quarters m_isUp m_wasUp ++ fr) :=
  lp_ind (P := fun v : Int32 × Int32 × Int32 × Int32 × Int32 × Int32 × Int32 × Int32 × (Nat → Int32) => J l G (rmD 1 0 0) Y 0 0 23 [(0, .ref (gm G 0)), (1, .int v.1), (2, .int v.2.1), (3, .int v.2.2.1), (4, .int v.2.2.2.1), (5, .int v.2.2.2.2.1), (6, .int v.2.2.2.2.2.1)] [] (WM G v.2.2.2.2.2.2.1 m_people m_grants m_texts m_copies v.2.2.2.2.2.2.2.1 m_faultPlace m_isFemale m_born m_died m_father m_mother m_fatherGrade m_motherGrade m_grantTo m_grantArms m_grantYear m_copyYear m_copyRow v.2.2.2.2.2.2.2.2 m_textYear m_ruleMany m_ruleFrom m_codeRow m_stack m_ruleKind m_codes m_at m_read m_token m_sign m_begins m_ends m_bad m_badPlace m_top m_lineLives m_markRow m_quarterMany m_quarters m_isUp m_wasUp ++ fr)) (fun k hk v hf => t_X11_feed_23 hX hQ   (fun x1 x2 x3 x4 x5 x6 m_code m_taped m_tape h => hk (x1, x2, x3, x4, x5, x6, m_code, m_taped, m_tape) h) v.1 v.2.1 v.2.2.1 v.2.2.2.1 v.2.2.2.2.1 v.2.2.2.2.2.1 hf) n v hf
def f_X11_feed (fu : Nat) (m_taped : Int32) (m_tape : Nat → Int32) (x1 : Int32) (x2 : Int32) (x3 : Int32) (x4 : Int32) (x5 : Int32) : Option (Int32 × Int32 × Int32 × (Nat → Int32)) :=
  if (m_taped + 20) ≤ 400 then f_X11_feed_23  fu (x1, x2, x3, x4, x5, 0, 0, m_taped, m_tape) else some ((-1), 0, m_taped, m_tape)
set_option maxRecDepth 100000 in
set_option maxHeartbeats 4000000 in
theorem t_X11_feed {fu : Nat}  (x1 : Int32) (x2 : Int32) (x3 : Int32) (x4 : Int32) (x5 : Int32) {r : Int32 × Int32 × Int32 × (Nat → Int32)} (hf : f_X11_feed fu m_taped m_tape x1 x2 x3 x4 x5 = some r) : Ci l G 1 0 0 yX11_feed cX11_feed 8 .int [.ref (gm G 0), .int x1, .int x2, .int x3, .int x4, .int x5] (WM G m_code m_people m_grants m_texts m_copies m_taped m_faultPlace m_isFemale m_born m_died m_father m_mother m_fatherGrade m_motherGrade m_grantTo m_grantArms m_grantYear m_copyYear m_copyRow m_tape m_textYear m_ruleMany m_ruleFrom m_codeRow m_stack m_ruleKind m_codes m_at m_read m_token m_sign m_begins m_ends m_bad m_badPlace m_top m_lineLives m_markRow m_quarterMany m_quarters m_isUp m_wasUp ++ fr) r.1 (WM G r.2.1 m_people m_grants m_texts m_copies r.2.2.1 m_faultPlace m_isFemale m_born m_died m_father m_mother m_fatherGrade m_motherGrade m_grantTo m_grantArms m_grantYear m_copyYear m_copyRow r.2.2.2 m_textYear m_ruleMany m_ruleFrom m_codeRow m_stack m_ruleKind m_codes m_at m_read m_token m_sign m_begins m_ends m_bad m_badPlace m_top m_lineLives m_markRow m_quarterMany m_quarters m_isUp m_wasUp ++ fr) := by
  refine Ci.of (by decide) (Nat.le_of_ble_eq_true rfl) (fun Y hX hQ => ?_)
  refine j_lv (lv' := [(0, .ref (gm G 0)), (1, .int x1), (2, .int x2), (3, .int x3), (4, .int x4), (5, .int x5)]) rfl ?_
  unfold f_X11_feed at hf
  refine j_aload_n hX dX11_feed_0 1 rfl 0 rfl rfl ?_
  refine j_iconst (v := 0) hX dX11_feed_1 2 rfl (by decide) ?_
  refine j_put hX dX11_feed_2 5 rfl fg_X11_110 ft_X11_1 0 rfl rfl rfl (Nat.le_of_ble_eq_true rfl) (ws' := (WM G 0 m_people m_grants m_texts m_copies m_taped m_faultPlace m_isFemale m_born m_died m_father m_mother m_fatherGrade m_motherGrade m_grantTo m_grantArms m_grantYear m_copyYear m_copyRow m_tape m_textYear m_ruleMany m_ruleFrom m_codeRow m_stack m_ruleKind m_codes m_at m_read m_token m_sign m_begins m_ends m_bad m_badPlace m_top m_lineLives m_markRow m_quarterMany m_quarters m_isUp m_wasUp ++ fr)) rfl ?_
  refine j_aload_n hX dX11_feed_5 6 rfl 0 rfl rfl ?_
  refine j_get hX dX11_feed_6 9 rfl fg_X11_197 0 rfl rfl ?_
  refine j_bipush (v := 20) hX dX11_feed_9 11 rfl (by decide) ?_
  refine j_iadd hX dX11_feed_11 12 rfl ?_
  refine j_sipush (v := 400) hX dX11_feed_12 15 rfl (by decide) ?_
  refine j_icmp_le hX dX11_feed_15 18 20 rfl rfl (fun h1 => ?_) (fun h1 => ?_)
  · replace hf := itt h1 hf
    refine j_iconst (v := 0) hX dX11_feed_20 21 rfl (by decide) ?_
    refine j_istore hX dX11_feed_21 23 rfl (by decide) (lv' := [(6, .int 0), (0, .ref (gm G 0)), (1, .int x1), (2, .int x2), (3, .int x3), (4, .int x4), (5, .int x5)]) rfl ?_
    refine j_sub [1, 2, 3, 4, 5, 6, 0] rfl ?_
    exact u_X11_feed_23 hX hQ   fu (x1, x2, x3, x4, x5, 0, 0, m_taped, m_tape) hf
  · replace hf := itf h1 hf
    refine j_iconst (v := (-1)) hX dX11_feed_18 19 rfl (by decide) ?_
    replace hf := Option.some.inj hf
    subst hf
    exact j_iret hX hQ dX11_feed_19
def g_X11_byteAt_18 (s0 : Int32) : Option (Int32) :=
  some s0
set_option maxRecDepth 100000 in
set_option maxHeartbeats 4000000 in
theorem t_X11_byteAt_18 {Y : YT} {r : Int32}  (hX : CX l G cX11_byteAt 2 RX11 Y) (hQ : EQi G Y 0 0 .int r (WM G m_code m_people m_grants m_texts m_copies m_taped m_faultPlace m_isFemale m_born m_died m_father m_mother m_fatherGrade m_motherGrade m_grantTo m_grantArms m_grantYear m_copyYear m_copyRow m_tape m_textYear m_ruleMany m_ruleFrom m_codeRow m_stack m_ruleKind m_codes m_at m_read m_token m_sign m_begins m_ends m_bad m_badPlace m_top m_lineLives m_markRow m_quarterMany m_quarters m_isUp m_wasUp ++ fr))  (s0 : Int32) (hf : g_X11_byteAt_18 s0 = some r) : J l G (rmD 1 0 0) Y 0 0 18 [] [.int s0] (WM G m_code m_people m_grants m_texts m_copies m_taped m_faultPlace m_isFemale m_born m_died m_father m_mother m_fatherGrade m_motherGrade m_grantTo m_grantArms m_grantYear m_copyYear m_copyRow m_tape m_textYear m_ruleMany m_ruleFrom m_codeRow m_stack m_ruleKind m_codes m_at m_read m_token m_sign m_begins m_ends m_bad m_badPlace m_top m_lineLives m_markRow m_quarterMany m_quarters m_isUp m_wasUp ++ fr) := by
  unfold g_X11_byteAt_18 at hf
  replace hf := Option.some.inj hf
  subst hf
  exact j_iret hX hQ dX11_byteAt_18
def f_X11_byteAt (m_tape : Nat → Int32) (m_read : Int32) (x1 : Int32) : Option (Int32) :=
  if m_read ≤ x1 then g_X11_byteAt_18 ((-1)) else if inb x1 400 = true then g_X11_byteAt_18 (m_tape (Int32.toNatClampNeg x1)) else none
set_option maxRecDepth 100000 in
set_option maxHeartbeats 4000000 in
theorem t_X11_byteAt  (x1 : Int32) {r : Int32} (hf : f_X11_byteAt m_tape m_read x1 = some r) : Ci l G 1 0 0 yX11_byteAt cX11_byteAt 2 .int [.ref (gm G 0), .int x1] (WM G m_code m_people m_grants m_texts m_copies m_taped m_faultPlace m_isFemale m_born m_died m_father m_mother m_fatherGrade m_motherGrade m_grantTo m_grantArms m_grantYear m_copyYear m_copyRow m_tape m_textYear m_ruleMany m_ruleFrom m_codeRow m_stack m_ruleKind m_codes m_at m_read m_token m_sign m_begins m_ends m_bad m_badPlace m_top m_lineLives m_markRow m_quarterMany m_quarters m_isUp m_wasUp ++ fr) r (WM G m_code m_people m_grants m_texts m_copies m_taped m_faultPlace m_isFemale m_born m_died m_father m_mother m_fatherGrade m_motherGrade m_grantTo m_grantArms m_grantYear m_copyYear m_copyRow m_tape m_textYear m_ruleMany m_ruleFrom m_codeRow m_stack m_ruleKind m_codes m_at m_read m_token m_sign m_begins m_ends m_bad m_badPlace m_top m_lineLives m_markRow m_quarterMany m_quarters m_isUp m_wasUp ++ fr) := by
  refine Ci.of (by decide) (Nat.le_of_ble_eq_true rfl) (fun Y hX hQ => ?_)
  refine j_lv (lv' := [(0, .ref (gm G 0)), (1, .int x1)]) rfl ?_
  unfold f_X11_byteAt at hf
  refine j_iload_n hX dX11_byteAt_0 1 rfl 1 rfl rfl ?_
  refine j_aload_n hX dX11_byteAt_1 2 rfl 0 rfl rfl ?_
  refine j_get hX dX11_byteAt_2 5 rfl fg_X11_200 0 rfl rfl ?_
  refine j_icmp_ge hX dX11_byteAt_5 8 17 rfl rfl (fun h1 => ?_) (fun h1 => ?_)
  · replace hf := itt h1 hf
    refine j_iconst (v := (-1)) hX dX11_byteAt_17 18 rfl (by decide) ?_
    refine j_sub [] rfl ?_
    exact t_X11_byteAt_18 hX hQ   ((-1)) hf
  · replace hf := itf h1 hf
    refine j_aload_n hX dX11_byteAt_8 9 rfl 0 rfl rfl ?_
    refine j_get hX dX11_byteAt_9 12 rfl fg_X11_72 0 rfl rfl ?_
    refine j_iload_n hX dX11_byteAt_12 13 rfl 1 rfl rfl ?_
    obtain ⟨hb2, hf⟩ := ign hf
    refine j_iald hX dX11_byteAt_13 14 rfl 14 rfl hb2 ?_
    refine j_goto hX dX11_byteAt_14 18 rfl ?_
    refine j_sub [] rfl ?_
    exact t_X11_byteAt_18 hX hQ   (m_tape (Int32.toNatClampNeg x1)) hf
def g_X11_isLetter_17 (s0 : Int32) : Option (Int32) :=
  if isB s0 = true then some s0 else none
set_option maxRecDepth 100000 in
set_option maxHeartbeats 4000000 in
theorem t_X11_isLetter_17 {Y : YT} {r : Int32}  (hX : CX l G cX11_isLetter 1 RX11 Y) (hQ : EQi G Y 0 0 .boolean r ws)  (s0 : Int32) (hf : g_X11_isLetter_17 s0 = some r) : J l G (rmD 1 0 0) Y 0 0 17 [] [.int s0] ws := by
  unfold g_X11_isLetter_17 at hf
  obtain ⟨hb2, hf⟩ := ign hf
  replace hf := Option.some.inj hf
  subst hf
  exact j_zret hX hQ hb2 dX11_isLetter_17
def g_X11_isLetter_16  : Option (Int32) :=
  g_X11_isLetter_17 0
set_option maxRecDepth 100000 in
set_option maxHeartbeats 4000000 in
theorem t_X11_isLetter_16 {Y : YT} {r : Int32}  (hX : CX l G cX11_isLetter 1 RX11 Y) (hQ : EQi G Y 0 0 .boolean r ws)   (hf : g_X11_isLetter_16  = some r) : J l G (rmD 1 0 0) Y 0 0 16 [] [] ws := by
  unfold g_X11_isLetter_16 at hf
  refine j_iconst (v := 0) hX dX11_isLetter_16 17 rfl (by decide) ?_
  exact t_X11_isLetter_17 hX hQ   0 hf
def f_X11_isLetter (x0 : Int32) : Option (Int32) :=
  if x0 < 97 then g_X11_isLetter_16  else if 122 < x0 then g_X11_isLetter_16  else g_X11_isLetter_17 1
set_option maxRecDepth 100000 in
set_option maxHeartbeats 4000000 in
theorem t_X11_isLetter  (x0 : Int32) {r : Int32} (hf : f_X11_isLetter x0 = some r) : Ci l G 1 0 0 yX11_isLetter cX11_isLetter 1 .boolean [.int x0] ws r ws := by
  refine Ci.of (by decide) (Nat.le_of_ble_eq_true rfl) (fun Y hX hQ => ?_)
  refine j_lv (lv' := [(0, .int x0)]) rfl ?_
  unfold f_X11_isLetter at hf
  refine j_iload_n hX dX11_isLetter_0 1 rfl 0 rfl rfl ?_
  refine j_bipush (v := 97) hX dX11_isLetter_1 3 rfl (by decide) ?_
  refine j_icmp_lt hX dX11_isLetter_3 6 16 rfl rfl (fun h1 => ?_) (fun h1 => ?_)
  · replace hf := itt h1 hf
    refine j_sub [] rfl ?_
    exact t_X11_isLetter_16 hX hQ    hf
  · replace hf := itf h1 hf
    refine j_iload_n hX dX11_isLetter_6 7 rfl 0 rfl rfl ?_
    refine j_bipush (v := 122) hX dX11_isLetter_7 9 rfl (by decide) ?_
    refine j_icmp_gt hX dX11_isLetter_9 12 16 rfl rfl (fun h3 => ?_) (fun h3 => ?_)
    · replace hf := itt h3 hf
      refine j_sub [] rfl ?_
      exact t_X11_isLetter_16 hX hQ    hf
    · replace hf := itf h3 hf
      refine j_iconst (v := 1) hX dX11_isLetter_12 13 rfl (by decide) ?_
      refine j_goto hX dX11_isLetter_13 17 rfl ?_
      refine j_sub [] rfl ?_
      exact t_X11_isLetter_17 hX hQ   1 hf
def g_X11_isDigit_17 (s0 : Int32) : Option (Int32) :=
  if isB s0 = true then some s0 else none
set_option maxRecDepth 100000 in
set_option maxHeartbeats 4000000 in
theorem t_X11_isDigit_17 {Y : YT} {r : Int32}  (hX : CX l G cX11_isDigit 1 RX11 Y) (hQ : EQi G Y 0 0 .boolean r ws)  (s0 : Int32) (hf : g_X11_isDigit_17 s0 = some r) : J l G (rmD 1 0 0) Y 0 0 17 [] [.int s0] ws := by
  unfold g_X11_isDigit_17 at hf
  obtain ⟨hb2, hf⟩ := ign hf
  replace hf := Option.some.inj hf
  subst hf
  exact j_zret hX hQ hb2 dX11_isDigit_17
def g_X11_isDigit_16  : Option (Int32) :=
  g_X11_isDigit_17 0
set_option maxRecDepth 100000 in
set_option maxHeartbeats 4000000 in
theorem t_X11_isDigit_16 {Y : YT} {r : Int32}  (hX : CX l G cX11_isDigit 1 RX11 Y) (hQ : EQi G Y 0 0 .boolean r ws)   (hf : g_X11_isDigit_16  = some r) : J l G (rmD 1 0 0) Y 0 0 16 [] [] ws := by
  unfold g_X11_isDigit_16 at hf
  refine j_iconst (v := 0) hX dX11_isDigit_16 17 rfl (by decide) ?_
  exact t_X11_isDigit_17 hX hQ   0 hf
def f_X11_isDigit (x0 : Int32) : Option (Int32) :=
  if x0 < 48 then g_X11_isDigit_16  else if 57 < x0 then g_X11_isDigit_16  else g_X11_isDigit_17 1
set_option maxRecDepth 100000 in
set_option maxHeartbeats 4000000 in
theorem t_X11_isDigit  (x0 : Int32) {r : Int32} (hf : f_X11_isDigit x0 = some r) : Ci l G 1 0 0 yX11_isDigit cX11_isDigit 1 .boolean [.int x0] ws r ws := by
  refine Ci.of (by decide) (Nat.le_of_ble_eq_true rfl) (fun Y hX hQ => ?_)
  refine j_lv (lv' := [(0, .int x0)]) rfl ?_
  unfold f_X11_isDigit at hf
  refine j_iload_n hX dX11_isDigit_0 1 rfl 0 rfl rfl ?_
  refine j_bipush (v := 48) hX dX11_isDigit_1 3 rfl (by decide) ?_
  refine j_icmp_lt hX dX11_isDigit_3 6 16 rfl rfl (fun h1 => ?_) (fun h1 => ?_)
  · replace hf := itt h1 hf
    refine j_sub [] rfl ?_
    exact t_X11_isDigit_16 hX hQ    hf
  · replace hf := itf h1 hf
    refine j_iload_n hX dX11_isDigit_6 7 rfl 0 rfl rfl ?_
    refine j_bipush (v := 57) hX dX11_isDigit_7 9 rfl (by decide) ?_
    refine j_icmp_gt hX dX11_isDigit_9 12 16 rfl rfl (fun h3 => ?_) (fun h3 => ?_)
    · replace hf := itt h3 hf
      refine j_sub [] rfl ?_
      exact t_X11_isDigit_16 hX hQ    hf
    · replace hf := itf h3 hf
      refine j_iconst (v := 1) hX dX11_isDigit_12 13 rfl (by decide) ?_
      refine j_goto hX dX11_isDigit_13 17 rfl ?_
      refine j_sub [] rfl ?_
      exact t_X11_isDigit_17 hX hQ   1 hf
def g_X11_step_26 (m_at : Int32) (m_token : Int32) (m_sign : Int32) (m_begins : Int32) (m_ends : Int32) (k0 : Int32 → Int32 → Int32 → Int32 → Int32 → Option (Int32 × Int32 × Int32 × Int32 × Int32)) : Option (Int32 × Int32 × Int32 × Int32 × Int32) :=
  k0 (m_at + 1) m_token m_sign m_begins m_ends
set_option maxRecDepth 100000 in
set_option maxHeartbeats 4000000 in
theorem t_X11_step_26 {Y : YT} {r : Int32 × Int32 × Int32 × Int32 × Int32} {k0 : Int32 → Int32 → Int32 → Int32 → Int32 → Option (Int32 × Int32 × Int32 × Int32 × Int32)} (hX : CX l G cX11_step 3 RX11 Y) (hQ : EQv G Y 0 0 (WM G m_code m_people m_grants m_texts m_copies m_taped m_faultPlace m_isFemale m_born m_died m_father m_mother m_fatherGrade m_motherGrade m_grantTo m_grantArms m_grantYear m_copyYear m_copyRow m_tape m_textYear m_ruleMany m_ruleFrom m_codeRow m_stack m_ruleKind m_codes r.1 m_read r.2.1 r.2.2.1 r.2.2.2.1 r.2.2.2.2 m_bad m_badPlace m_top m_lineLives m_markRow m_quarterMany m_quarters m_isUp m_wasUp ++ fr)) (hk0 : ∀ (m_at : Int32) (m_token : Int32) (m_sign : Int32) (m_begins : Int32) (m_ends : Int32), k0  m_at m_token m_sign m_begins m_ends = some r → J l G (rmD 2 0 0) Y 0 0 0 [(0, .ref (gm G 0))] [] (WM G m_code m_people m_grants m_texts m_copies m_taped m_faultPlace m_isFemale m_born m_died m_father m_mother m_fatherGrade m_motherGrade m_grantTo m_grantArms m_grantYear m_copyYear m_copyRow m_tape m_textYear m_ruleMany m_ruleFrom m_codeRow m_stack m_ruleKind m_codes m_at m_read m_token m_sign m_begins m_ends m_bad m_badPlace m_top m_lineLives m_markRow m_quarterMany m_quarters m_isUp m_wasUp ++ fr))  (hf : g_X11_step_26 m_at m_token m_sign m_begins m_ends k0 = some r) : J l G (rmD 2 0 0) Y 0 0 26 [(0, .ref (gm G 0))] [] (WM G m_code m_people m_grants m_texts m_copies m_taped m_faultPlace m_isFemale m_born m_died m_father m_mother m_fatherGrade m_motherGrade m_grantTo m_grantArms m_grantYear m_copyYear m_copyRow m_tape m_textYear m_ruleMany m_ruleFrom m_codeRow m_stack m_ruleKind m_codes m_at m_read m_token m_sign m_begins m_ends m_bad m_badPlace m_top m_lineLives m_markRow m_quarterMany m_quarters m_isUp m_wasUp ++ fr) := by
  unfold g_X11_step_26 at hf
  refine j_aload_n hX dX11_step_26 27 rfl 0 rfl rfl ?_
  refine j_dup hX dX11_step_27 28 rfl rfl ?_
  refine j_get hX dX11_step_28 31 rfl fg_X11_203 0 rfl rfl ?_
  refine j_iconst (v := 1) hX dX11_step_31 32 rfl (by decide) ?_
  refine j_iadd hX dX11_step_32 33 rfl ?_
  refine j_put hX dX11_step_33 36 rfl fg_X11_203 ft_X11_28 0 rfl rfl rfl (Nat.le_of_ble_eq_true rfl) (ws' := (WM G m_code m_people m_grants m_texts m_copies m_taped m_faultPlace m_isFemale m_born m_died m_father m_mother m_fatherGrade m_motherGrade m_grantTo m_grantArms m_grantYear m_copyYear m_copyRow m_tape m_textYear m_ruleMany m_ruleFrom m_codeRow m_stack m_ruleKind m_codes (m_at + 1) m_read m_token m_sign m_begins m_ends m_bad m_badPlace m_top m_lineLives m_markRow m_quarterMany m_quarters m_isUp m_wasUp ++ fr)) rfl ?_
  refine j_goto hX dX11_step_36 0 rfl ?_
  exact hk0 (m_at + 1) m_token m_sign m_begins m_ends hf
def g_X11_step_234 (m_at : Int32) (m_token : Int32) (m_sign : Int32) (m_begins : Int32) : Option (Int32 × Int32 × Int32 × Int32 × Int32) :=
  some (m_at, m_token, m_sign, m_begins, m_at)
set_option maxRecDepth 100000 in
set_option maxHeartbeats 4000000 in
theorem t_X11_step_234 {Y : YT} {r : Int32 × Int32 × Int32 × Int32 × Int32}  (hX : CX l G cX11_step 3 RX11 Y) (hQ : EQv G Y 0 0 (WM G m_code m_people m_grants m_texts m_copies m_taped m_faultPlace m_isFemale m_born m_died m_father m_mother m_fatherGrade m_motherGrade m_grantTo m_grantArms m_grantYear m_copyYear m_copyRow m_tape m_textYear m_ruleMany m_ruleFrom m_codeRow m_stack m_ruleKind m_codes r.1 m_read r.2.1 r.2.2.1 r.2.2.2.1 r.2.2.2.2 m_bad m_badPlace m_top m_lineLives m_markRow m_quarterMany m_quarters m_isUp m_wasUp ++ fr))   (hf : g_X11_step_234 m_at m_token m_sign m_begins = some r) : J l G (rmD 2 0 0) Y 0 0 234 [(0, .ref (gm G 0))] [] (WM G m_code m_people m_grants m_texts m_copies m_taped m_faultPlace m_isFemale m_born m_died m_father m_mother m_fatherGrade m_motherGrade m_grantTo m_grantArms m_grantYear m_copyYear m_copyRow m_tape m_textYear m_ruleMany m_ruleFrom m_codeRow m_stack m_ruleKind m_codes m_at m_read m_token m_sign m_begins m_ends m_bad m_badPlace m_top m_lineLives m_markRow m_quarterMany m_quarters m_isUp m_wasUp ++ fr) := by
  unfold g_X11_step_234 at hf
  refine j_aload_n hX dX11_step_234 235 rfl 0 rfl rfl ?_
  refine j_aload_n hX dX11_step_235 236 rfl 0 rfl rfl ?_
  refine j_get hX dX11_step_236 239 rfl fg_X11_203 0 rfl rfl ?_
  refine j_put hX dX11_step_239 242 rfl fg_X11_224 ft_X11_33 0 rfl rfl rfl (Nat.le_of_ble_eq_true rfl) (ws' := (WM G m_code m_people m_grants m_texts m_copies m_taped m_faultPlace m_isFemale m_born m_died m_father m_mother m_fatherGrade m_motherGrade m_grantTo m_grantArms m_grantYear m_copyYear m_copyRow m_tape m_textYear m_ruleMany m_ruleFrom m_codeRow m_stack m_ruleKind m_codes m_at m_read m_token m_sign m_begins m_at m_bad m_badPlace m_top m_lineLives m_markRow m_quarterMany m_quarters m_isUp m_wasUp ++ fr)) rfl ?_
  replace hf := Option.some.inj hf
  subst hf
  exact j_vret hX hQ dX11_step_242
def g_X11_step_226 (m_at : Int32) (m_begins : Int32) (x1 : Int32) (s0 : Int32) : Option (Int32 × Int32 × Int32 × Int32 × Int32) :=
  g_X11_step_234 m_at s0 x1 m_begins
set_option maxRecDepth 100000 in
set_option maxHeartbeats 4000000 in
theorem t_X11_step_226 {Y : YT} {r : Int32 × Int32 × Int32 × Int32 × Int32}  (hX : CX l G cX11_step 3 RX11 Y) (hQ : EQv G Y 0 0 (WM G m_code m_people m_grants m_texts m_copies m_taped m_faultPlace m_isFemale m_born m_died m_father m_mother m_fatherGrade m_motherGrade m_grantTo m_grantArms m_grantYear m_copyYear m_copyRow m_tape m_textYear m_ruleMany m_ruleFrom m_codeRow m_stack m_ruleKind m_codes r.1 m_read r.2.1 r.2.2.1 r.2.2.2.1 r.2.2.2.2 m_bad m_badPlace m_top m_lineLives m_markRow m_quarterMany m_quarters m_isUp m_wasUp ++ fr))  (x1 : Int32) (s0 : Int32) (hf : g_X11_step_226 m_at m_begins x1 s0 = some r) : J l G (rmD 2 0 0) Y 0 0 226 [(0, .ref (gm G 0)), (1, .int x1)] [.int s0, .ref (gm G 0)] (WM G m_code m_people m_grants m_texts m_copies m_taped m_faultPlace m_isFemale m_born m_died m_father m_mother m_fatherGrade m_motherGrade m_grantTo m_grantArms m_grantYear m_copyYear m_copyRow m_tape m_textYear m_ruleMany m_ruleFrom m_codeRow m_stack m_ruleKind m_codes m_at m_read m_token m_sign m_begins m_ends m_bad m_badPlace m_top m_lineLives m_markRow m_quarterMany m_quarters m_isUp m_wasUp ++ fr) := by
  unfold g_X11_step_226 at hf
  refine j_put hX dX11_step_226 229 rfl fg_X11_215 ft_X11_30 0 rfl rfl rfl (Nat.le_of_ble_eq_true rfl) (ws' := (WM G m_code m_people m_grants m_texts m_copies m_taped m_faultPlace m_isFemale m_born m_died m_father m_mother m_fatherGrade m_motherGrade m_grantTo m_grantArms m_grantYear m_copyYear m_copyRow m_tape m_textYear m_ruleMany m_ruleFrom m_codeRow m_stack m_ruleKind m_codes m_at m_read s0 m_sign m_begins m_ends m_bad m_badPlace m_top m_lineLives m_markRow m_quarterMany m_quarters m_isUp m_wasUp ++ fr)) rfl ?_
  refine j_aload_n hX dX11_step_229 230 rfl 0 rfl rfl ?_
  refine j_iload_n hX dX11_step_230 231 rfl 1 rfl rfl ?_
  refine j_put hX dX11_step_231 234 rfl fg_X11_212 ft_X11_31 0 rfl rfl rfl (Nat.le_of_ble_eq_true rfl) (ws' := (WM G m_code m_people m_grants m_texts m_copies m_taped m_faultPlace m_isFemale m_born m_died m_father m_mother m_fatherGrade m_motherGrade m_grantTo m_grantArms m_grantYear m_copyYear m_copyRow m_tape m_textYear m_ruleMany m_ruleFrom m_codeRow m_stack m_ruleKind m_codes m_at m_read s0 x1 m_begins m_ends m_bad m_badPlace m_top m_lineLives m_markRow m_quarterMany m_quarters m_isUp m_wasUp ++ fr)) rfl ?_
  refine j_sub [0] rfl ?_
  exact t_X11_step_234 hX hQ    hf
def g_X11_step_215 (m_at : Int32) (m_begins : Int32) (x1 : Int32) (s0 : Int32) : Option (Int32 × Int32 × Int32 × Int32 × Int32) :=
  if s0 = 0 then g_X11_step_226 m_at m_begins x1 4 else g_X11_step_226 m_at m_begins x1 3
set_option maxRecDepth 100000 in
set_option maxHeartbeats 4000000 in
theorem t_X11_step_215 {Y : YT} {r : Int32 × Int32 × Int32 × Int32 × Int32}  (hX : CX l G cX11_step 3 RX11 Y) (hQ : EQv G Y 0 0 (WM G m_code m_people m_grants m_texts m_copies m_taped m_faultPlace m_isFemale m_born m_died m_father m_mother m_fatherGrade m_motherGrade m_grantTo m_grantArms m_grantYear m_copyYear m_copyRow m_tape m_textYear m_ruleMany m_ruleFrom m_codeRow m_stack m_ruleKind m_codes r.1 m_read r.2.1 r.2.2.1 r.2.2.2.1 r.2.2.2.2 m_bad m_badPlace m_top m_lineLives m_markRow m_quarterMany m_quarters m_isUp m_wasUp ++ fr))  (x1 : Int32) (s0 : Int32) (hf : g_X11_step_215 m_at m_begins x1 s0 = some r) : J l G (rmD 2 0 0) Y 0 0 215 [(0, .ref (gm G 0)), (1, .int x1)] [.int s0] (WM G m_code m_people m_grants m_texts m_copies m_taped m_faultPlace m_isFemale m_born m_died m_father m_mother m_fatherGrade m_motherGrade m_grantTo m_grantArms m_grantYear m_copyYear m_copyRow m_tape m_textYear m_ruleMany m_ruleFrom m_codeRow m_stack m_ruleKind m_codes m_at m_read m_token m_sign m_begins m_ends m_bad m_badPlace m_top m_lineLives m_markRow m_quarterMany m_quarters m_isUp m_wasUp ++ fr) := by
  unfold g_X11_step_215 at hf
  refine j_istore_n hX dX11_step_215 216 rfl rfl (by decide) (lv' := [(2, .int s0), (0, .ref (gm G 0)), (1, .int x1)]) rfl ?_
  refine j_aload_n hX dX11_step_216 217 rfl 1 rfl rfl ?_
  refine j_iload_n hX dX11_step_217 218 rfl 0 rfl rfl ?_
  refine j_if_eq hX dX11_step_218 221 225 rfl rfl (fun h12 => ?_) (fun h12 => ?_)
  · replace hf := itt h12 hf
    refine j_iconst (v := 4) hX dX11_step_225 226 rfl (by decide) ?_
    refine j_sub [1, 2] rfl ?_
    exact t_X11_step_226 hX hQ   x1 4 hf
  · replace hf := itf h12 hf
    refine j_iconst (v := 3) hX dX11_step_221 222 rfl (by decide) ?_
    refine j_goto hX dX11_step_222 226 rfl ?_
    refine j_sub [1, 2] rfl ?_
    exact t_X11_step_226 hX hQ   x1 3 hf
def g_X11_step_210 (m_at : Int32) (m_begins : Int32) (x1 : Int32) : Option (Int32 × Int32 × Int32 × Int32 × Int32) :=
  g_X11_step_215 m_at m_begins x1 1
set_option maxRecDepth 100000 in
set_option maxHeartbeats 4000000 in
theorem t_X11_step_210 {Y : YT} {r : Int32 × Int32 × Int32 × Int32 × Int32}  (hX : CX l G cX11_step 3 RX11 Y) (hQ : EQv G Y 0 0 (WM G m_code m_people m_grants m_texts m_copies m_taped m_faultPlace m_isFemale m_born m_died m_father m_mother m_fatherGrade m_motherGrade m_grantTo m_grantArms m_grantYear m_copyYear m_copyRow m_tape m_textYear m_ruleMany m_ruleFrom m_codeRow m_stack m_ruleKind m_codes r.1 m_read r.2.1 r.2.2.1 r.2.2.2.1 r.2.2.2.2 m_bad m_badPlace m_top m_lineLives m_markRow m_quarterMany m_quarters m_isUp m_wasUp ++ fr))  (x1 : Int32) (hf : g_X11_step_210 m_at m_begins x1 = some r) : J l G (rmD 2 0 0) Y 0 0 210 [(0, .ref (gm G 0)), (1, .int x1)] [] (WM G m_code m_people m_grants m_texts m_copies m_taped m_faultPlace m_isFemale m_born m_died m_father m_mother m_fatherGrade m_motherGrade m_grantTo m_grantArms m_grantYear m_copyYear m_copyRow m_tape m_textYear m_ruleMany m_ruleFrom m_codeRow m_stack m_ruleKind m_codes m_at m_read m_token m_sign m_begins m_ends m_bad m_badPlace m_top m_lineLives m_markRow m_quarterMany m_quarters m_isUp m_wasUp ++ fr) := by
  unfold g_X11_step_210 at hf
  refine j_iconst (v := 1) hX dX11_step_210 211 rfl (by decide) ?_
  refine j_goto hX dX11_step_211 215 rfl ?_
  exact t_X11_step_215 hX hQ   x1 1 hf
def g_X11_step_123 (m_tape : Nat → Int32) (m_read : Int32) (m_at : Int32) (m_token : Int32) (m_sign : Int32) (m_begins : Int32) (m_ends : Int32) (k123 : Int32 → Int32 → Int32 → Int32 → Int32 → Option (Int32 × Int32 × Int32 × Int32 × Int32)) : Option (Int32 × Int32 × Int32 × Int32 × Int32) :=
  (f_X11_byteAt m_tape m_read m_at).bind fun v19 => (f_X11_isDigit v19).bind fun v20 => if v20 = 0 then g_X11_step_234 m_at 2 m_sign m_begins else k123 (m_at + 1) m_token m_sign m_begins m_ends
set_option maxRecDepth 100000 in
set_option maxHeartbeats 4000000 in
theorem t_X11_step_123 {Y : YT} {r : Int32 × Int32 × Int32 × Int32 × Int32} {k123 : Int32 → Int32 → Int32 → Int32 → Int32 → Option (Int32 × Int32 × Int32 × Int32 × Int32)} (hX : CX l G cX11_step 3 RX11 Y) (hQ : EQv G Y 0 0 (WM G m_code m_people m_grants m_texts m_copies m_taped m_faultPlace m_isFemale m_born m_died m_father m_mother m_fatherGrade m_motherGrade m_grantTo m_grantArms m_grantYear m_copyYear m_copyRow m_tape m_textYear m_ruleMany m_ruleFrom m_codeRow m_stack m_ruleKind m_codes r.1 m_read r.2.1 r.2.2.1 r.2.2.2.1 r.2.2.2.2 m_bad m_badPlace m_top m_lineLives m_markRow m_quarterMany m_quarters m_isUp m_wasUp ++ fr)) (hk123 : ∀ (m_at : Int32) (m_token : Int32) (m_sign : Int32) (m_begins : Int32) (m_ends : Int32), k123  m_at m_token m_sign m_begins m_ends = some r → J l G (rmD 2 0 0) Y 0 0 123 [(0, .ref (gm G 0))] [] (WM G m_code m_people m_grants m_texts m_copies m_taped m_faultPlace m_isFemale m_born m_died m_father m_mother m_fatherGrade m_motherGrade m_grantTo m_grantArms m_grantYear m_copyYear m_copyRow m_tape m_textYear m_ruleMany m_ruleFrom m_codeRow m_stack m_ruleKind m_codes m_at m_read m_token m_sign m_begins m_ends m_bad m_badPlace m_top m_lineLives m_markRow m_quarterMany m_quarters m_isUp m_wasUp ++ fr))  (hf : g_X11_step_123 m_tape m_read m_at m_token m_sign m_begins m_ends k123 = some r) : J l G (rmD 2 0 0) Y 0 0 123 [(0, .ref (gm G 0))] [] (WM G m_code m_people m_grants m_texts m_copies m_taped m_faultPlace m_isFemale m_born m_died m_father m_mother m_fatherGrade m_motherGrade m_grantTo m_grantArms m_grantYear m_copyYear m_copyRow m_tape m_textYear m_ruleMany m_ruleFrom m_codeRow m_stack m_ruleKind m_codes m_at m_read m_token m_sign m_begins m_ends m_bad m_badPlace m_top m_lineLives m_markRow m_quarterMany m_quarters m_isUp m_wasUp ++ fr) := by
  unfold g_X11_step_123 at hf
  refine j_aload_n hX dX11_step_123 124 rfl 0 rfl rfl ?_
  refine j_aload_n hX dX11_step_124 125 rfl 0 rfl rfl ?_
  refine j_get hX dX11_step_125 128 rfl fg_X11_203 0 rfl rfl ?_
  obtain ⟨v19, hv19, hf⟩ := ibd hf
  refine z_i (As := [.int m_at]) (rest := []) (q0 := 0) hX dX11_step_128 131 rfl (t_X11_byteAt m_at hv19) mc_X11_byteAt mv_X11_byteAt ml_X11_206 rfl rfl (Nat.le_of_ble_eq_true rfl) (Nat.le_refl _) (Nat.le_refl _) rfl (Nat.le_of_ble_eq_true rfl) ?_
  obtain ⟨v20, hv20, hf⟩ := ibd hf
  refine z_si (As := [.int v19]) (rest := []) hX dX11_step_131 134 rfl (t_X11_isDigit v19 hv20) mc_X11_isDigit ms_X11_isDigit ml_X11_221 (Nat.le_of_ble_eq_true rfl) (Nat.le_refl _) (Nat.le_refl _) rfl (Nat.le_of_ble_eq_true rfl) ?_
  refine j_if_eq hX dX11_step_134 137 150 rfl rfl (fun h21 => ?_) (fun h21 => ?_)
  · replace hf := itt h21 hf
    refine j_aload_n hX dX11_step_150 151 rfl 0 rfl rfl ?_
    refine j_iconst (v := 2) hX dX11_step_151 152 rfl (by decide) ?_
    refine j_put hX dX11_step_152 155 rfl fg_X11_215 ft_X11_30 0 rfl rfl rfl (Nat.le_of_ble_eq_true rfl) (ws' := (WM G m_code m_people m_grants m_texts m_copies m_taped m_faultPlace m_isFemale m_born m_died m_father m_mother m_fatherGrade m_motherGrade m_grantTo m_grantArms m_grantYear m_copyYear m_copyRow m_tape m_textYear m_ruleMany m_ruleFrom m_codeRow m_stack m_ruleKind m_codes m_at m_read 2 m_sign m_begins m_ends m_bad m_badPlace m_top m_lineLives m_markRow m_quarterMany m_quarters m_isUp m_wasUp ++ fr)) rfl ?_
    refine j_goto hX dX11_step_155 234 rfl ?_
    exact t_X11_step_234 hX hQ    hf
  · replace hf := itf h21 hf
    refine j_aload_n hX dX11_step_137 138 rfl 0 rfl rfl ?_
    refine j_dup hX dX11_step_138 139 rfl rfl ?_
    refine j_get hX dX11_step_139 142 rfl fg_X11_203 0 rfl rfl ?_
    refine j_iconst (v := 1) hX dX11_step_142 143 rfl (by decide) ?_
    refine j_iadd hX dX11_step_143 144 rfl ?_
    refine j_put hX dX11_step_144 147 rfl fg_X11_203 ft_X11_28 0 rfl rfl rfl (Nat.le_of_ble_eq_true rfl) (ws' := (WM G m_code m_people m_grants m_texts m_copies m_taped m_faultPlace m_isFemale m_born m_died m_father m_mother m_fatherGrade m_motherGrade m_grantTo m_grantArms m_grantYear m_copyYear m_copyRow m_tape m_textYear m_ruleMany m_ruleFrom m_codeRow m_stack m_ruleKind m_codes (m_at + 1) m_read m_token m_sign m_begins m_ends m_bad m_badPlace m_top m_lineLives m_markRow m_quarterMany m_quarters m_isUp m_wasUp ++ fr)) rfl ?_
    refine j_goto hX dX11_step_147 123 rfl ?_
    exact hk123 (m_at + 1) m_token m_sign m_begins m_ends hf
def f_X11_step_123 (m_tape : Nat → Int32) (m_read : Int32) : Nat → (Int32 × Int32 × Int32 × Int32 × Int32) → Option (Int32 × Int32 × Int32 × Int32 × Int32) :=
  lp (fun k v => g_X11_step_123 m_tape m_read v.1 v.2.1 v.2.2.1 v.2.2.2.1 v.2.2.2.2 (fun m_at m_token m_sign m_begins m_ends => k (m_at, m_token, m_sign, m_begins, m_ends)))
set_option maxRecDepth 100000 in
set_option maxHeartbeats 4000000 in
theorem u_X11_step_123 {Y : YT} {r : Int32 × Int32 × Int32 × Int32 × Int32}  (hX : CX l G cX11_step 3 RX11 Y) (hQ : EQv G Y 0 0 (WM G m_code m_people m_grants m_texts m_copies m_taped m_faultPlace m_isFemale m_born m_died m_father m_mother m_fatherGrade m_motherGrade m_grantTo m_grantArms m_grantYear m_copyYear m_copyRow m_tape m_textYear m_ruleMany m_ruleFrom m_codeRow m_stack m_ruleKind m_codes r.1 m_read r.2.1 r.2.2.1 r.2.2.2.1 r.2.2.2.2 m_bad m_badPlace m_top m_lineLives m_markRow m_quarterMany m_quarters m_isUp m_wasUp ++ fr))  (n : Nat) (v : Int32 × Int32 × Int32 × Int32 × Int32) (hf : f_X11_step_123 m_tape m_read n v = some r) : J l G (rmD 2 0 0) Y 0 0 123 [(0, .ref (gm G 0))] [] (WM G m_code m_people m_grants m_texts m_copies m_taped m_faultPlace m_isFemale m_born m_died m_father m_mother m_fatherGrade m_motherGrade m_grantTo m_grantArms m_grantYear m_copyYear m_copyRow m_tape m_textYear m_ruleMany m_ruleFrom m_codeRow m_stack m_ruleKind m_codes v.1 m_read v.2.1 v.2.2.1 v.2.2.2.1 v.2.2.2.2 m_bad m_badPlace m_top m_lineLives m_markRow m_quarterMany m_quarters m_isUp m_wasUp ++ fr) :=
  lp_ind (P := fun v : Int32 × Int32 × Int32 × Int32 × Int32 => J l G (rmD 2 0 0) Y 0 0 123 [(0, .ref (gm G 0))] [] (WM G m_code m_people m_grants m_texts m_copies m_taped m_faultPlace m_isFemale m_born m_died m_father m_mother m_fatherGrade m_motherGrade m_grantTo m_grantArms m_grantYear m_copyYear m_copyRow m_tape m_textYear m_ruleMany m_ruleFrom m_codeRow m_stack m_ruleKind m_codes v.1 m_read v.2.1 v.2.2.1 v.2.2.2.1 v.2.2.2.2 m_bad m_badPlace m_top m_lineLives m_markRow m_quarterMany m_quarters m_isUp m_wasUp ++ fr)) (fun k hk v hf => t_X11_step_123 hX hQ   (fun m_at m_token m_sign m_begins m_ends h => hk (m_at, m_token, m_sign, m_begins, m_ends) h)  hf) n v hf
def g_X11_step_81 (m_tape : Nat → Int32) (m_read : Int32) (m_at : Int32) (m_token : Int32) (m_sign : Int32) (m_begins : Int32) (m_ends : Int32) (k81 : Int32 → Int32 → Int32 → Int32 → Int32 → Option (Int32 × Int32 × Int32 × Int32 × Int32)) : Option (Int32 × Int32 × Int32 × Int32 × Int32) :=
  (f_X11_byteAt m_tape m_read m_at).bind fun v22 => (f_X11_isLetter v22).bind fun v23 => if v23 = 0 then g_X11_step_234 m_at 1 m_sign m_begins else k81 (m_at + 1) m_token m_sign m_begins m_ends
set_option maxRecDepth 100000 in
set_option maxHeartbeats 4000000 in
theorem t_X11_step_81 {Y : YT} {r : Int32 × Int32 × Int32 × Int32 × Int32} {k81 : Int32 → Int32 → Int32 → Int32 → Int32 → Option (Int32 × Int32 × Int32 × Int32 × Int32)} (hX : CX l G cX11_step 3 RX11 Y) (hQ : EQv G Y 0 0 (WM G m_code m_people m_grants m_texts m_copies m_taped m_faultPlace m_isFemale m_born m_died m_father m_mother m_fatherGrade m_motherGrade m_grantTo m_grantArms m_grantYear m_copyYear m_copyRow m_tape m_textYear m_ruleMany m_ruleFrom m_codeRow m_stack m_ruleKind m_codes r.1 m_read r.2.1 r.2.2.1 r.2.2.2.1 r.2.2.2.2 m_bad m_badPlace m_top m_lineLives m_markRow m_quarterMany m_quarters m_isUp m_wasUp ++ fr)) (hk81 : ∀ (m_at : Int32) (m_token : Int32) (m_sign : Int32) (m_begins : Int32) (m_ends : Int32), k81  m_at m_token m_sign m_begins m_ends = some r → J l G (rmD 2 0 0) Y 0 0 81 [(0, .ref (gm G 0))] [] (WM G m_code m_people m_grants m_texts m_copies m_taped m_faultPlace m_isFemale m_born m_died m_father m_mother m_fatherGrade m_motherGrade m_grantTo m_grantArms m_grantYear m_copyYear m_copyRow m_tape m_textYear m_ruleMany m_ruleFrom m_codeRow m_stack m_ruleKind m_codes m_at m_read m_token m_sign m_begins m_ends m_bad m_badPlace m_top m_lineLives m_markRow m_quarterMany m_quarters m_isUp m_wasUp ++ fr))  (hf : g_X11_step_81 m_tape m_read m_at m_token m_sign m_begins m_ends k81 = some r) : J l G (rmD 2 0 0) Y 0 0 81 [(0, .ref (gm G 0))] [] (WM G m_code m_people m_grants m_texts m_copies m_taped m_faultPlace m_isFemale m_born m_died m_father m_mother m_fatherGrade m_motherGrade m_grantTo m_grantArms m_grantYear m_copyYear m_copyRow m_tape m_textYear m_ruleMany m_ruleFrom m_codeRow m_stack m_ruleKind m_codes m_at m_read m_token m_sign m_begins m_ends m_bad m_badPlace m_top m_lineLives m_markRow m_quarterMany m_quarters m_isUp m_wasUp ++ fr) := by
  unfold g_X11_step_81 at hf
  refine j_aload_n hX dX11_step_81 82 rfl 0 rfl rfl ?_
  refine j_aload_n hX dX11_step_82 83 rfl 0 rfl rfl ?_
  refine j_get hX dX11_step_83 86 rfl fg_X11_203 0 rfl rfl ?_
  obtain ⟨v22, hv22, hf⟩ := ibd hf
  refine z_i (As := [.int m_at]) (rest := []) (q0 := 0) hX dX11_step_86 89 rfl (t_X11_byteAt m_at hv22) mc_X11_byteAt mv_X11_byteAt ml_X11_206 rfl rfl (Nat.le_of_ble_eq_true rfl) (Nat.le_refl _) (Nat.le_refl _) rfl (Nat.le_of_ble_eq_true rfl) ?_
  obtain ⟨v23, hv23, hf⟩ := ibd hf
  refine z_si (As := [.int v22]) (rest := []) hX dX11_step_89 92 rfl (t_X11_isLetter v22 hv23) mc_X11_isLetter ms_X11_isLetter ml_X11_218 (Nat.le_of_ble_eq_true rfl) (Nat.le_refl _) (Nat.le_refl _) rfl (Nat.le_of_ble_eq_true rfl) ?_
  refine j_if_eq hX dX11_step_92 95 108 rfl rfl (fun h24 => ?_) (fun h24 => ?_)
  · replace hf := itt h24 hf
    refine j_aload_n hX dX11_step_108 109 rfl 0 rfl rfl ?_
    refine j_iconst (v := 1) hX dX11_step_109 110 rfl (by decide) ?_
    refine j_put hX dX11_step_110 113 rfl fg_X11_215 ft_X11_30 0 rfl rfl rfl (Nat.le_of_ble_eq_true rfl) (ws' := (WM G m_code m_people m_grants m_texts m_copies m_taped m_faultPlace m_isFemale m_born m_died m_father m_mother m_fatherGrade m_motherGrade m_grantTo m_grantArms m_grantYear m_copyYear m_copyRow m_tape m_textYear m_ruleMany m_ruleFrom m_codeRow m_stack m_ruleKind m_codes m_at m_read 1 m_sign m_begins m_ends m_bad m_badPlace m_top m_lineLives m_markRow m_quarterMany m_quarters m_isUp m_wasUp ++ fr)) rfl ?_
    refine j_goto hX dX11_step_113 234 rfl ?_
    exact t_X11_step_234 hX hQ    hf
  · replace hf := itf h24 hf
    refine j_aload_n hX dX11_step_95 96 rfl 0 rfl rfl ?_
    refine j_dup hX dX11_step_96 97 rfl rfl ?_
    refine j_get hX dX11_step_97 100 rfl fg_X11_203 0 rfl rfl ?_
    refine j_iconst (v := 1) hX dX11_step_100 101 rfl (by decide) ?_
    refine j_iadd hX dX11_step_101 102 rfl ?_
    refine j_put hX dX11_step_102 105 rfl fg_X11_203 ft_X11_28 0 rfl rfl rfl (Nat.le_of_ble_eq_true rfl) (ws' := (WM G m_code m_people m_grants m_texts m_copies m_taped m_faultPlace m_isFemale m_born m_died m_father m_mother m_fatherGrade m_motherGrade m_grantTo m_grantArms m_grantYear m_copyYear m_copyRow m_tape m_textYear m_ruleMany m_ruleFrom m_codeRow m_stack m_ruleKind m_codes (m_at + 1) m_read m_token m_sign m_begins m_ends m_bad m_badPlace m_top m_lineLives m_markRow m_quarterMany m_quarters m_isUp m_wasUp ++ fr)) rfl ?_
    refine j_goto hX dX11_step_105 81 rfl ?_
    exact hk81 (m_at + 1) m_token m_sign m_begins m_ends hf
def f_X11_step_81 (m_tape : Nat → Int32) (m_read : Int32) : Nat → (Int32 × Int32 × Int32 × Int32 × Int32) → Option (Int32 × Int32 × Int32 × Int32 × Int32) :=
  lp (fun k v => g_X11_step_81 m_tape m_read v.1 v.2.1 v.2.2.1 v.2.2.2.1 v.2.2.2.2 (fun m_at m_token m_sign m_begins m_ends => k (m_at, m_token, m_sign, m_begins, m_ends)))
set_option maxRecDepth 100000 in
set_option maxHeartbeats 4000000 in
theorem u_X11_step_81 {Y : YT} {r : Int32 × Int32 × Int32 × Int32 × Int32}  (hX : CX l G cX11_step 3 RX11 Y) (hQ : EQv G Y 0 0 (WM G m_code m_people m_grants m_texts m_copies m_taped m_faultPlace m_isFemale m_born m_died m_father m_mother m_fatherGrade m_motherGrade m_grantTo m_grantArms m_grantYear m_copyYear m_copyRow m_tape m_textYear m_ruleMany m_ruleFrom m_codeRow m_stack m_ruleKind m_codes r.1 m_read r.2.1 r.2.2.1 r.2.2.2.1 r.2.2.2.2 m_bad m_badPlace m_top m_lineLives m_markRow m_quarterMany m_quarters m_isUp m_wasUp ++ fr))  (n : Nat) (v : Int32 × Int32 × Int32 × Int32 × Int32) (hf : f_X11_step_81 m_tape m_read n v = some r) : J l G (rmD 2 0 0) Y 0 0 81 [(0, .ref (gm G 0))] [] (WM G m_code m_people m_grants m_texts m_copies m_taped m_faultPlace m_isFemale m_born m_died m_father m_mother m_fatherGrade m_motherGrade m_grantTo m_grantArms m_grantYear m_copyYear m_copyRow m_tape m_textYear m_ruleMany m_ruleFrom m_codeRow m_stack m_ruleKind m_codes v.1 m_read v.2.1 v.2.2.1 v.2.2.2.1 v.2.2.2.2 m_bad m_badPlace m_top m_lineLives m_markRow m_quarterMany m_quarters m_isUp m_wasUp ++ fr) :=
  lp_ind (P := fun v : Int32 × Int32 × Int32 × Int32 × Int32 => J l G (rmD 2 0 0) Y 0 0 81 [(0, .ref (gm G 0))] [] (WM G m_code m_people m_grants m_texts m_copies m_taped m_faultPlace m_isFemale m_born m_died m_father m_mother m_fatherGrade m_motherGrade m_grantTo m_grantArms m_grantYear m_copyYear m_copyRow m_tape m_textYear m_ruleMany m_ruleFrom m_codeRow m_stack m_ruleKind m_codes v.1 m_read v.2.1 v.2.2.1 v.2.2.2.1 v.2.2.2.2 m_bad m_badPlace m_top m_lineLives m_markRow m_quarterMany m_quarters m_isUp m_wasUp ++ fr)) (fun k hk v hf => t_X11_step_81 hX hQ   (fun m_at m_token m_sign m_begins m_ends h => hk (m_at, m_token, m_sign, m_begins, m_ends) h)  hf) n v hf
def g_X11_step_0 (fu : Nat) (m_tape : Nat → Int32) (m_read : Int32) (m_at : Int32) (m_token : Int32) (m_sign : Int32) (m_begins : Int32) (m_ends : Int32) (k0 : Int32 → Int32 → Int32 → Int32 → Int32 → Option (Int32 × Int32 × Int32 × Int32 × Int32)) : Option (Int32 × Int32 × Int32 × Int32 × Int32) :=
  (f_X11_byteAt m_tape m_read m_at).bind fun v1 => if v1 = 32 then g_X11_step_26 m_at m_token m_sign m_begins m_ends k0 else (f_X11_byteAt m_tape m_read m_at).bind fun v3 => if v3 = 10 then g_X11_step_26 m_at m_token m_sign m_begins m_ends k0 else (f_X11_byteAt m_tape m_read m_at).bind fun v5 => if v5 = ((-1)) then g_X11_step_234 m_at 0 0 m_at else (f_X11_isLetter v5).bind fun v7 => if v7 = 0 then (f_X11_isDigit v5).bind fun v9 => if v9 = 0 then if v5 = 40 then g_X11_step_210 (m_at + 1) m_at v5 else if v5 = 41 then g_X11_step_210 (m_at + 1) m_at v5 else if v5 = 59 then g_X11_step_210 (m_at + 1) m_at v5 else if v5 = 43 then g_X11_step_210 (m_at + 1) m_at v5 else if v5 = 45 then g_X11_step_210 (m_at + 1) m_at v5 else if v5 = 60 then g_X11_step_210 (m_at + 1) m_at v5 else if v5 = 61 then g_X11_step_210 (m_at + 1) m_at v5 else g_X11_step_215 (m_at + 1) m_at v5 0 else f_X11_step_123 m_tape m_read fu (m_at, m_token, 0, m_at, m_ends) else f_X11_step_81 m_tape m_read fu (m_at, m_token, 0, m_at, m_ends)
set_option maxRecDepth 100000 in
set_option maxHeartbeats 4000000 in
theorem t_X11_step_0 {fu : Nat} {Y : YT} {r : Int32 × Int32 × Int32 × Int32 × Int32} {k0 : Int32 → Int32 → Int32 → Int32 → Int32 → Option (Int32 × Int32 × Int32 × Int32 × Int32)} (hX : CX l G cX11_step 3 RX11 Y) (hQ : EQv G Y 0 0 (WM G m_code m_people m_grants m_texts m_copies m_taped m_faultPlace m_isFemale m_born m_died m_father m_mother m_fatherGrade m_motherGrade m_grantTo m_grantArms m_grantYear m_copyYear m_copyRow m_tape m_textYear m_ruleMany m_ruleFrom m_codeRow m_stack m_ruleKind m_codes r.1 m_read r.2.1 r.2.2.1 r.2.2.2.1 r.2.2.2.2 m_bad m_badPlace m_top m_lineLives m_markRow m_quarterMany m_quarters m_isUp m_wasUp ++ fr)) (hk0 : ∀ (m_at : Int32) (m_token : Int32) (m_sign : Int32) (m_begins : Int32) (m_ends : Int32), k0  m_at m_token m_sign m_begins m_ends = some r → J l G (rmD 2 0 0) Y 0 0 0 [(0, .ref (gm G 0))] [] (WM G m_code m_people m_grants m_texts m_copies m_taped m_faultPlace m_isFemale m_born m_died m_father m_mother m_fatherGrade m_motherGrade m_grantTo m_grantArms m_grantYear m_copyYear m_copyRow m_tape m_textYear m_ruleMany m_ruleFrom m_codeRow m_stack m_ruleKind m_codes m_at m_read m_token m_sign m_begins m_ends m_bad m_badPlace m_top m_lineLives m_markRow m_quarterMany m_quarters m_isUp m_wasUp ++ fr))  (hf : g_X11_step_0 fu m_tape m_read m_at m_token m_sign m_begins m_ends k0 = some r) : J l G (rmD 2 0 0) Y 0 0 0 [(0, .ref (gm G 0))] [] (WM G m_code m_people m_grants m_texts m_copies m_taped m_faultPlace m_isFemale m_born m_died m_father m_mother m_fatherGrade m_motherGrade m_grantTo m_grantArms m_grantYear m_copyYear m_copyRow m_tape m_textYear m_ruleMany m_ruleFrom m_codeRow m_stack m_ruleKind m_codes m_at m_read m_token m_sign m_begins m_ends m_bad m_badPlace m_top m_lineLives m_markRow m_quarterMany m_quarters m_isUp m_wasUp ++ fr) := by
  unfold g_X11_step_0 at hf
  refine j_aload_n hX dX11_step_0 1 rfl 0 rfl rfl ?_
  refine j_aload_n hX dX11_step_1 2 rfl 0 rfl rfl ?_
  refine j_get hX dX11_step_2 5 rfl fg_X11_203 0 rfl rfl ?_
  obtain ⟨v1, hv1, hf⟩ := ibd hf
  refine z_i (As := [.int m_at]) (rest := []) (q0 := 0) hX dX11_step_5 8 rfl (t_X11_byteAt m_at hv1) mc_X11_byteAt mv_X11_byteAt ml_X11_206 rfl rfl (Nat.le_of_ble_eq_true rfl) (Nat.le_refl _) (Nat.le_refl _) rfl (Nat.le_of_ble_eq_true rfl) ?_
  refine j_bipush (v := 32) hX dX11_step_8 10 rfl (by decide) ?_
  refine j_icmp_eq hX dX11_step_10 13 26 rfl rfl (fun h2 => ?_) (fun h2 => ?_)
  · replace hf := itt h2 hf
    exact t_X11_step_26 hX hQ  hk0  hf
  · replace hf := itf h2 hf
    refine j_aload_n hX dX11_step_13 14 rfl 0 rfl rfl ?_
    refine j_aload_n hX dX11_step_14 15 rfl 0 rfl rfl ?_
    refine j_get hX dX11_step_15 18 rfl fg_X11_203 0 rfl rfl ?_
    obtain ⟨v3, hv3, hf⟩ := ibd hf
    refine z_i (As := [.int m_at]) (rest := []) (q0 := 0) hX dX11_step_18 21 rfl (t_X11_byteAt m_at hv3) mc_X11_byteAt mv_X11_byteAt ml_X11_206 rfl rfl (Nat.le_of_ble_eq_true rfl) (Nat.le_refl _) (Nat.le_refl _) rfl (Nat.le_of_ble_eq_true rfl) ?_
    refine j_bipush (v := 10) hX dX11_step_21 23 rfl (by decide) ?_
    refine j_icmp_ne hX dX11_step_23 26 39 rfl rfl (fun h4 => ?_) (fun h4 => ?_)
    · replace hf := itf h4 hf
      refine j_aload_n hX dX11_step_39 40 rfl 0 rfl rfl ?_
      refine j_aload_n hX dX11_step_40 41 rfl 0 rfl rfl ?_
      refine j_get hX dX11_step_41 44 rfl fg_X11_203 0 rfl rfl ?_
      refine j_put hX dX11_step_44 47 rfl fg_X11_209 ft_X11_32 0 rfl rfl rfl (Nat.le_of_ble_eq_true rfl) (ws' := (WM G m_code m_people m_grants m_texts m_copies m_taped m_faultPlace m_isFemale m_born m_died m_father m_mother m_fatherGrade m_motherGrade m_grantTo m_grantArms m_grantYear m_copyYear m_copyRow m_tape m_textYear m_ruleMany m_ruleFrom m_codeRow m_stack m_ruleKind m_codes m_at m_read m_token m_sign m_at m_ends m_bad m_badPlace m_top m_lineLives m_markRow m_quarterMany m_quarters m_isUp m_wasUp ++ fr)) rfl ?_
      refine j_aload_n hX dX11_step_47 48 rfl 0 rfl rfl ?_
      refine j_iconst (v := 0) hX dX11_step_48 49 rfl (by decide) ?_
      refine j_put hX dX11_step_49 52 rfl fg_X11_212 ft_X11_31 0 rfl rfl rfl (Nat.le_of_ble_eq_true rfl) (ws' := (WM G m_code m_people m_grants m_texts m_copies m_taped m_faultPlace m_isFemale m_born m_died m_father m_mother m_fatherGrade m_motherGrade m_grantTo m_grantArms m_grantYear m_copyYear m_copyRow m_tape m_textYear m_ruleMany m_ruleFrom m_codeRow m_stack m_ruleKind m_codes m_at m_read m_token 0 m_at m_ends m_bad m_badPlace m_top m_lineLives m_markRow m_quarterMany m_quarters m_isUp m_wasUp ++ fr)) rfl ?_
      refine j_aload_n hX dX11_step_52 53 rfl 0 rfl rfl ?_
      refine j_aload_n hX dX11_step_53 54 rfl 0 rfl rfl ?_
      refine j_get hX dX11_step_54 57 rfl fg_X11_203 0 rfl rfl ?_
      obtain ⟨v5, hv5, hf⟩ := ibd hf
      refine z_i (As := [.int m_at]) (rest := []) (q0 := 0) hX dX11_step_57 60 rfl (t_X11_byteAt m_at hv5) mc_X11_byteAt mv_X11_byteAt ml_X11_206 rfl rfl (Nat.le_of_ble_eq_true rfl) (Nat.le_refl _) (Nat.le_refl _) rfl (Nat.le_of_ble_eq_true rfl) ?_
      refine j_istore_n hX dX11_step_60 61 rfl rfl (by decide) (lv' := [(1, .int v5), (0, .ref (gm G 0))]) rfl ?_
      refine j_iload_n hX dX11_step_61 62 rfl 0 rfl rfl ?_
      refine j_iconst (v := (-1)) hX dX11_step_62 63 rfl (by decide) ?_
      refine j_icmp_ne hX dX11_step_63 66 74 rfl rfl (fun h6 => ?_) (fun h6 => ?_)
      · replace hf := itf h6 hf
        refine j_iload_n hX dX11_step_74 75 rfl 0 rfl rfl ?_
        obtain ⟨v7, hv7, hf⟩ := ibd hf
        refine z_si (As := [.int v5]) (rest := []) hX dX11_step_75 78 rfl (t_X11_isLetter v5 hv7) mc_X11_isLetter ms_X11_isLetter ml_X11_218 (Nat.le_of_ble_eq_true rfl) (Nat.le_refl _) (Nat.le_refl _) rfl (Nat.le_of_ble_eq_true rfl) ?_
        refine j_if_eq hX dX11_step_78 81 116 rfl rfl (fun h8 => ?_) (fun h8 => ?_)
        · replace hf := itt h8 hf
          refine j_iload_n hX dX11_step_116 117 rfl 0 rfl rfl ?_
          obtain ⟨v9, hv9, hf⟩ := ibd hf
          refine z_si (As := [.int v5]) (rest := []) hX dX11_step_117 120 rfl (t_X11_isDigit v5 hv9) mc_X11_isDigit ms_X11_isDigit ml_X11_221 (Nat.le_of_ble_eq_true rfl) (Nat.le_refl _) (Nat.le_refl _) rfl (Nat.le_of_ble_eq_true rfl) ?_
          refine j_if_eq hX dX11_step_120 123 158 rfl rfl (fun h10 => ?_) (fun h10 => ?_)
          · replace hf := itt h10 hf
            refine j_aload_n hX dX11_step_158 159 rfl 1 rfl rfl ?_
            refine j_dup hX dX11_step_159 160 rfl rfl ?_
            refine j_get hX dX11_step_160 163 rfl fg_X11_203 0 rfl rfl ?_
            refine j_iconst (v := 1) hX dX11_step_163 164 rfl (by decide) ?_
            refine j_iadd hX dX11_step_164 165 rfl ?_
            refine j_put hX dX11_step_165 168 rfl fg_X11_203 ft_X11_28 0 rfl rfl rfl (Nat.le_of_ble_eq_true rfl) (ws' := (WM G m_code m_people m_grants m_texts m_copies m_taped m_faultPlace m_isFemale m_born m_died m_father m_mother m_fatherGrade m_motherGrade m_grantTo m_grantArms m_grantYear m_copyYear m_copyRow m_tape m_textYear m_ruleMany m_ruleFrom m_codeRow m_stack m_ruleKind m_codes (m_at + 1) m_read m_token 0 m_at m_ends m_bad m_badPlace m_top m_lineLives m_markRow m_quarterMany m_quarters m_isUp m_wasUp ++ fr)) rfl ?_
            refine j_iload_n hX dX11_step_168 169 rfl 0 rfl rfl ?_
            refine j_bipush (v := 40) hX dX11_step_169 171 rfl (by decide) ?_
            refine j_icmp_eq hX dX11_step_171 174 210 rfl rfl (fun h11 => ?_) (fun h11 => ?_)
            · replace hf := itt h11 hf
              refine j_sub [1, 0] rfl ?_
              exact t_X11_step_210 hX hQ   v5 hf
            · replace hf := itf h11 hf
              refine j_iload_n hX dX11_step_174 175 rfl 0 rfl rfl ?_
              refine j_bipush (v := 41) hX dX11_step_175 177 rfl (by decide) ?_
              refine j_icmp_eq hX dX11_step_177 180 210 rfl rfl (fun h13 => ?_) (fun h13 => ?_)
              · replace hf := itt h13 hf
                refine j_sub [1, 0] rfl ?_
                exact t_X11_step_210 hX hQ   v5 hf
              · replace hf := itf h13 hf
                refine j_iload_n hX dX11_step_180 181 rfl 0 rfl rfl ?_
                refine j_bipush (v := 59) hX dX11_step_181 183 rfl (by decide) ?_
                refine j_icmp_eq hX dX11_step_183 186 210 rfl rfl (fun h14 => ?_) (fun h14 => ?_)
                · replace hf := itt h14 hf
                  refine j_sub [1, 0] rfl ?_
                  exact t_X11_step_210 hX hQ   v5 hf
                · replace hf := itf h14 hf
                  refine j_iload_n hX dX11_step_186 187 rfl 0 rfl rfl ?_
                  refine j_bipush (v := 43) hX dX11_step_187 189 rfl (by decide) ?_
                  refine j_icmp_eq hX dX11_step_189 192 210 rfl rfl (fun h15 => ?_) (fun h15 => ?_)
                  · replace hf := itt h15 hf
                    refine j_sub [1, 0] rfl ?_
                    exact t_X11_step_210 hX hQ   v5 hf
                  · replace hf := itf h15 hf
                    refine j_iload_n hX dX11_step_192 193 rfl 0 rfl rfl ?_
                    refine j_bipush (v := 45) hX dX11_step_193 195 rfl (by decide) ?_
                    refine j_icmp_eq hX dX11_step_195 198 210 rfl rfl (fun h16 => ?_) (fun h16 => ?_)
                    · replace hf := itt h16 hf
                      refine j_sub [1, 0] rfl ?_
                      exact t_X11_step_210 hX hQ   v5 hf
                    · replace hf := itf h16 hf
                      refine j_iload_n hX dX11_step_198 199 rfl 0 rfl rfl ?_
                      refine j_bipush (v := 60) hX dX11_step_199 201 rfl (by decide) ?_
                      refine j_icmp_eq hX dX11_step_201 204 210 rfl rfl (fun h17 => ?_) (fun h17 => ?_)
                      · replace hf := itt h17 hf
                        refine j_sub [1, 0] rfl ?_
                        exact t_X11_step_210 hX hQ   v5 hf
                      · replace hf := itf h17 hf
                        refine j_iload_n hX dX11_step_204 205 rfl 0 rfl rfl ?_
                        refine j_bipush (v := 61) hX dX11_step_205 207 rfl (by decide) ?_
                        refine j_icmp_ne hX dX11_step_207 210 214 rfl rfl (fun h18 => ?_) (fun h18 => ?_)
                        · replace hf := itf h18 hf
                          refine j_iconst (v := 0) hX dX11_step_214 215 rfl (by decide) ?_
                          refine j_sub [1, 0] rfl ?_
                          exact t_X11_step_215 hX hQ   v5 0 hf
                        · replace hf := itt h18 hf
                          refine j_sub [1, 0] rfl ?_
                          exact t_X11_step_210 hX hQ   v5 hf
          · replace hf := itf h10 hf
            refine j_sub [1] rfl ?_
            exact u_X11_step_123 hX hQ   fu (m_at, m_token, 0, m_at, m_ends) hf
        · replace hf := itf h8 hf
          refine j_sub [1] rfl ?_
          exact u_X11_step_81 hX hQ   fu (m_at, m_token, 0, m_at, m_ends) hf
      · replace hf := itt h6 hf
        refine j_aload_n hX dX11_step_66 67 rfl 1 rfl rfl ?_
        refine j_iconst (v := 0) hX dX11_step_67 68 rfl (by decide) ?_
        refine j_put hX dX11_step_68 71 rfl fg_X11_215 ft_X11_30 0 rfl rfl rfl (Nat.le_of_ble_eq_true rfl) (ws' := (WM G m_code m_people m_grants m_texts m_copies m_taped m_faultPlace m_isFemale m_born m_died m_father m_mother m_fatherGrade m_motherGrade m_grantTo m_grantArms m_grantYear m_copyYear m_copyRow m_tape m_textYear m_ruleMany m_ruleFrom m_codeRow m_stack m_ruleKind m_codes m_at m_read 0 0 m_at m_ends m_bad m_badPlace m_top m_lineLives m_markRow m_quarterMany m_quarters m_isUp m_wasUp ++ fr)) rfl ?_
        refine j_goto hX dX11_step_71 234 rfl ?_
        refine j_sub [1] rfl ?_
        exact t_X11_step_234 hX hQ    hf
    · replace hf := itt h4 hf
      exact t_X11_step_26 hX hQ  hk0  hf
def f_X11_step_0 (fu : Nat) (m_tape : Nat → Int32) (m_read : Int32) : Nat → (Int32 × Int32 × Int32 × Int32 × Int32) → Option (Int32 × Int32 × Int32 × Int32 × Int32) :=
  lp (fun k v => g_X11_step_0 fu m_tape m_read v.1 v.2.1 v.2.2.1 v.2.2.2.1 v.2.2.2.2 (fun m_at m_token m_sign m_begins m_ends => k (m_at, m_token, m_sign, m_begins, m_ends)))
set_option maxRecDepth 100000 in
set_option maxHeartbeats 4000000 in
theorem u_X11_step_0 {fu : Nat} {Y : YT} {r : Int32 × Int32 × Int32 × Int32 × Int32}  (hX : CX l G cX11_step 3 RX11 Y) (hQ : EQv G Y 0 0 (WM G m_code m_people m_grants m_texts m_copies m_taped m_faultPlace m_isFemale m_born m_died m_father m_mother m_fatherGrade m_motherGrade m_grantTo m_grantArms m_grantYear m_copyYear m_copyRow m_tape m_textYear m_ruleMany m_ruleFrom m_codeRow m_stack m_ruleKind m_codes r.1 m_read r.2.1 r.2.2.1 r.2.2.2.1 r.2.2.2.2 m_bad m_badPlace m_top m_lineLives m_markRow m_quarterMany m_quarters m_isUp m_wasUp ++ fr))  (n : Nat) (v : Int32 × Int32 × Int32 × Int32 × Int32) (hf : f_X11_step_0 fu m_tape m_read n v = some r) : J l G (rmD 2 0 0) Y 0 0 0 [(0, .ref (gm G 0))] [] (WM G m_code m_people m_grants m_texts m_copies m_taped m_faultPlace m_isFemale m_born m_died m_father m_mother m_fatherGrade m_motherGrade m_grantTo m_grantArms m_grantYear m_copyYear m_copyRow m_tape m_textYear m_ruleMany m_ruleFrom m_codeRow m_stack m_ruleKind m_codes v.1 m_read v.2.1 v.2.2.1 v.2.2.2.1 v.2.2.2.2 m_bad m_badPlace m_top m_lineLives m_markRow m_quarterMany m_quarters m_isUp m_wasUp ++ fr) :=
  lp_ind (P := fun v : Int32 × Int32 × Int32 × Int32 × Int32 => J l G (rmD 2 0 0) Y 0 0 0 [(0, .ref (gm G 0))] [] (WM G m_code m_people m_grants m_texts m_copies m_taped m_faultPlace m_isFemale m_born m_died m_father m_mother m_fatherGrade m_motherGrade m_grantTo m_grantArms m_grantYear m_copyYear m_copyRow m_tape m_textYear m_ruleMany m_ruleFrom m_codeRow m_stack m_ruleKind m_codes v.1 m_read v.2.1 v.2.2.1 v.2.2.2.1 v.2.2.2.2 m_bad m_badPlace m_top m_lineLives m_markRow m_quarterMany m_quarters m_isUp m_wasUp ++ fr)) (fun k hk v hf => t_X11_step_0 hX hQ   (fun m_at m_token m_sign m_begins m_ends h => hk (m_at, m_token, m_sign, m_begins, m_ends) h)  hf) n v hf
def f_X11_step (fu : Nat) (m_tape : Nat → Int32) (m_read : Int32) (m_at : Int32) (m_token : Int32) (m_sign : Int32) (m_begins : Int32) (m_ends : Int32) : Option (Int32 × Int32 × Int32 × Int32 × Int32) :=
  f_X11_step_0 fu m_tape m_read fu (m_at, m_token, m_sign, m_begins, m_ends)
set_option maxRecDepth 100000 in
set_option maxHeartbeats 4000000 in
theorem t_X11_step {fu : Nat}   {r : Int32 × Int32 × Int32 × Int32 × Int32} (hf : f_X11_step fu m_tape m_read m_at m_token m_sign m_begins m_ends = some r) : Cv l G 2 0 0 yX11_step cX11_step 3 [.ref (gm G 0)] (WM G m_code m_people m_grants m_texts m_copies m_taped m_faultPlace m_isFemale m_born m_died m_father m_mother m_fatherGrade m_motherGrade m_grantTo m_grantArms m_grantYear m_copyYear m_copyRow m_tape m_textYear m_ruleMany m_ruleFrom m_codeRow m_stack m_ruleKind m_codes m_at m_read m_token m_sign m_begins m_ends m_bad m_badPlace m_top m_lineLives m_markRow m_quarterMany m_quarters m_isUp m_wasUp ++ fr) (WM G m_code m_people m_grants m_texts m_copies m_taped m_faultPlace m_isFemale m_born m_died m_father m_mother m_fatherGrade m_motherGrade m_grantTo m_grantArms m_grantYear m_copyYear m_copyRow m_tape m_textYear m_ruleMany m_ruleFrom m_codeRow m_stack m_ruleKind m_codes r.1 m_read r.2.1 r.2.2.1 r.2.2.2.1 r.2.2.2.2 m_bad m_badPlace m_top m_lineLives m_markRow m_quarterMany m_quarters m_isUp m_wasUp ++ fr) := by
  refine Cv.of (by decide) (Nat.le_of_ble_eq_true rfl) (fun Y hX hQ => ?_)
  refine j_lv (lv' := [(0, .ref (gm G 0))]) rfl ?_
  unfold f_X11_step at hf
  exact u_X11_step_0 hX hQ   fu (m_at, m_token, m_sign, m_begins, m_ends) hf
def g_X11_isWord_75 (x2 : Int32) : Option (Int32) :=
  if isB x2 = true then some x2 else none
set_option maxRecDepth 100000 in
set_option maxHeartbeats 4000000 in
theorem t_X11_isWord_75 {Y : YT} {r : Int32}  (hX : CX l G cX11_isWord 4 RX11 Y) (hQ : EQi G Y 0 0 .boolean r (WM G m_code m_people m_grants m_texts m_copies m_taped m_faultPlace m_isFemale m_born m_died m_father m_mother m_fatherGrade m_motherGrade m_grantTo m_grantArms m_grantYear m_copyYear m_copyRow m_tape m_textYear m_ruleMany m_ruleFrom m_codeRow m_stack m_ruleKind m_codes m_at m_read m_token m_sign m_begins m_ends m_bad m_badPlace m_top m_lineLives m_markRow m_quarterMany m_quarters m_isUp m_wasUp ++ fr))  (x2 : Int32) (hf : g_X11_isWord_75 x2 = some r) : J l G (rmD 5 0 0) Y 0 0 75 [(2, .int x2)] [] (WM G m_code m_people m_grants m_texts m_copies m_taped m_faultPlace m_isFemale m_born m_died m_father m_mother m_fatherGrade m_motherGrade m_grantTo m_grantArms m_grantYear m_copyYear m_copyRow m_tape m_textYear m_ruleMany m_ruleFrom m_codeRow m_stack m_ruleKind m_codes m_at m_read m_token m_sign m_begins m_ends m_bad m_badPlace m_top m_lineLives m_markRow m_quarterMany m_quarters m_isUp m_wasUp ++ fr) := by
  unfold g_X11_isWord_75 at hf
  refine j_iload_n hX dX11_isWord_75 76 rfl 0 rfl rfl ?_
  obtain ⟨hb3, hf⟩ := ign hf
  replace hf := Option.some.inj hf
  subst hf
  exact j_zret hX hQ hb3 dX11_isWord_76
def g_X11_isWord_68 (k32 : Nat → Int32 → Int32 → Option (Int32)) (x1 : Nat) (x3 : Int32) (s0 : Int32) : Option (Int32) :=
  k32 x1 s0 (x3 + 1)
set_option maxRecDepth 100000 in
set_option maxHeartbeats 4000000 in
theorem t_X11_isWord_68 {Y : YT} {r : Int32} {k32 : Nat → Int32 → Int32 → Option (Int32)} (hX : CX l G cX11_isWord 4 RX11 Y) (hQ : EQi G Y 0 0 .boolean r (WM G m_code m_people m_grants m_texts m_copies m_taped m_faultPlace m_isFemale m_born m_died m_father m_mother m_fatherGrade m_motherGrade m_grantTo m_grantArms m_grantYear m_copyYear m_copyRow m_tape m_textYear m_ruleMany m_ruleFrom m_codeRow m_stack m_ruleKind m_codes m_at m_read m_token m_sign m_begins m_ends m_bad m_badPlace m_top m_lineLives m_markRow m_quarterMany m_quarters m_isUp m_wasUp ++ fr)) (hk32 : ∀ (x1 : Nat) (x2 : Int32) (x3 : Int32), k32 x1 x2 x3  = some r → J l G (rmD 5 0 0) Y 0 0 32 [(0, .ref (gm G 0)), (1, .ref (gsk G x1)), (2, .int x2), (3, .int x3)] [] (WM G m_code m_people m_grants m_texts m_copies m_taped m_faultPlace m_isFemale m_born m_died m_father m_mother m_fatherGrade m_motherGrade m_grantTo m_grantArms m_grantYear m_copyYear m_copyRow m_tape m_textYear m_ruleMany m_ruleFrom m_codeRow m_stack m_ruleKind m_codes m_at m_read m_token m_sign m_begins m_ends m_bad m_badPlace m_top m_lineLives m_markRow m_quarterMany m_quarters m_isUp m_wasUp ++ fr)) (x1 : Nat) (x3 : Int32) (s0 : Int32) (hf : g_X11_isWord_68 k32 x1 x3 s0 = some r) : J l G (rmD 5 0 0) Y 0 0 68 [(0, .ref (gm G 0)), (1, .ref (gsk G x1)), (3, .int x3)] [.int s0] (WM G m_code m_people m_grants m_texts m_copies m_taped m_faultPlace m_isFemale m_born m_died m_father m_mother m_fatherGrade m_motherGrade m_grantTo m_grantArms m_grantYear m_copyYear m_copyRow m_tape m_textYear m_ruleMany m_ruleFrom m_codeRow m_stack m_ruleKind m_codes m_at m_read m_token m_sign m_begins m_ends m_bad m_badPlace m_top m_lineLives m_markRow m_quarterMany m_quarters m_isUp m_wasUp ++ fr) := by
  unfold g_X11_isWord_68 at hf
  refine j_istore_n hX dX11_isWord_68 69 rfl rfl (by decide) (lv' := [(2, .int s0), (0, .ref (gm G 0)), (1, .ref (gsk G x1)), (3, .int x3)]) rfl ?_
  refine j_iinc (v := x3 + 1) hX dX11_isWord_69 72 rfl 3 rfl rfl (by decide) (lv' := [(3, .int (x3 + 1)), (2, .int s0), (0, .ref (gm G 0)), (1, .ref (gsk G x1))]) rfl ?_
  refine j_goto hX dX11_isWord_72 32 rfl ?_
  refine j_sub [2, 3, 1, 0] rfl ?_
  exact hk32 x1 s0 (x3 + 1) hf
def g_X11_isWord_32 (m_tape : Nat → Int32) (m_begins : Int32) (k32 : Nat → Int32 → Int32 → Option (Int32)) (x1 : Nat) (x2 : Int32) (x3 : Int32) : Option (Int32) :=
  if x2 = 0 then g_X11_isWord_75 x2 else (f_J0_length_8abf5 x1).bind fun v4 => if v4 ≤ x3 then g_X11_isWord_75 x2 else (f_J0_charAt_5068e x1 x3).bind fun v6 => if inb (m_begins + x3) 400 = true then if v6 = (m_tape (Int32.toNatClampNeg (m_begins + x3))) then g_X11_isWord_68 k32 x1 x3 1 else g_X11_isWord_68 k32 x1 x3 0 else none
set_option maxRecDepth 100000 in
set_option maxHeartbeats 4000000 in
theorem t_X11_isWord_32 {Y : YT} {r : Int32} {k32 : Nat → Int32 → Int32 → Option (Int32)} (hX : CX l G cX11_isWord 4 RX11 Y) (hQ : EQi G Y 0 0 .boolean r (WM G m_code m_people m_grants m_texts m_copies m_taped m_faultPlace m_isFemale m_born m_died m_father m_mother m_fatherGrade m_motherGrade m_grantTo m_grantArms m_grantYear m_copyYear m_copyRow m_tape m_textYear m_ruleMany m_ruleFrom m_codeRow m_stack m_ruleKind m_codes m_at m_read m_token m_sign m_begins m_ends m_bad m_badPlace m_top m_lineLives m_markRow m_quarterMany m_quarters m_isUp m_wasUp ++ fr)) (hk32 : ∀ (x1 : Nat) (x2 : Int32) (x3 : Int32), k32 x1 x2 x3  = some r → J l G (rmD 5 0 0) Y 0 0 32 [(0, .ref (gm G 0)), (1, .ref (gsk G x1)), (2, .int x2), (3, .int x3)] [] (WM G m_code m_people m_grants m_texts m_copies m_taped m_faultPlace m_isFemale m_born m_died m_father m_mother m_fatherGrade m_motherGrade m_grantTo m_grantArms m_grantYear m_copyYear m_copyRow m_tape m_textYear m_ruleMany m_ruleFrom m_codeRow m_stack m_ruleKind m_codes m_at m_read m_token m_sign m_begins m_ends m_bad m_badPlace m_top m_lineLives m_markRow m_quarterMany m_quarters m_isUp m_wasUp ++ fr)) (x1 : Nat) (x2 : Int32) (x3 : Int32) (hf : g_X11_isWord_32 m_tape m_begins k32 x1 x2 x3 = some r) : J l G (rmD 5 0 0) Y 0 0 32 [(0, .ref (gm G 0)), (1, .ref (gsk G x1)), (2, .int x2), (3, .int x3)] [] (WM G m_code m_people m_grants m_texts m_copies m_taped m_faultPlace m_isFemale m_born m_died m_father m_mother m_fatherGrade m_motherGrade m_grantTo m_grantArms m_grantYear m_copyYear m_copyRow m_tape m_textYear m_ruleMany m_ruleFrom m_codeRow m_stack m_ruleKind m_codes m_at m_read m_token m_sign m_begins m_ends m_bad m_badPlace m_top m_lineLives m_markRow m_quarterMany m_quarters m_isUp m_wasUp ++ fr) := by
  unfold g_X11_isWord_32 at hf
  refine j_iload_n hX dX11_isWord_32 33 rfl 2 rfl rfl ?_
  refine j_if_eq hX dX11_isWord_33 36 75 rfl rfl (fun h2 => ?_) (fun h2 => ?_)
  · replace hf := itt h2 hf
    refine j_sub [2] rfl ?_
    exact t_X11_isWord_75 hX hQ   x2 hf
  · replace hf := itf h2 hf
    refine j_iload_n hX dX11_isWord_36 37 rfl 3 rfl rfl ?_
    refine j_aload_n hX dX11_isWord_37 38 rfl 1 rfl rfl ?_
    obtain ⟨v4, hv4, hf⟩ := ibd hf
    refine zO_i (As := []) (rest := [.int x3]) hX dX11_isWord_38 41 rfl (t_J0_length_8abf5 x1 hv4) mc_J0_length_8abf5 mv_J0_length_8abf5 ml_X11_227 (strO hX (len_lt hv4).1) (Nat.le_of_ble_eq_true rfl) (Nat.le_refl _) (Nat.le_refl _) rfl (Nat.le_of_ble_eq_true rfl) ?_
    refine j_icmp_ge hX dX11_isWord_41 44 75 rfl rfl (fun h5 => ?_) (fun h5 => ?_)
    · replace hf := itt h5 hf
      refine j_sub [2] rfl ?_
      exact t_X11_isWord_75 hX hQ   x2 hf
    · replace hf := itf h5 hf
      refine j_aload_n hX dX11_isWord_44 45 rfl 1 rfl rfl ?_
      refine j_iload_n hX dX11_isWord_45 46 rfl 3 rfl rfl ?_
      obtain ⟨v6, hv6, hf⟩ := ibd hf
      refine zO_i (As := [.int x3]) (rest := []) hX dX11_isWord_46 49 rfl (t_J0_charAt_5068e x1 x3 hv6) mc_J0_charAt_5068e mv_J0_charAt_5068e ml_X11_230 (strO hX (chr_lt hv6).1) (Nat.le_of_ble_eq_true rfl) (Nat.le_refl _) (Nat.le_refl _) rfl (Nat.le_of_ble_eq_true rfl) ?_
      refine j_aload_n hX dX11_isWord_49 50 rfl 0 rfl rfl ?_
      refine j_get hX dX11_isWord_50 53 rfl fg_X11_72 0 rfl rfl ?_
      refine j_aload_n hX dX11_isWord_53 54 rfl 0 rfl rfl ?_
      refine j_get hX dX11_isWord_54 57 rfl fg_X11_209 0 rfl rfl ?_
      refine j_iload_n hX dX11_isWord_57 58 rfl 3 rfl rfl ?_
      refine j_iadd hX dX11_isWord_58 59 rfl ?_
      obtain ⟨hb7, hf⟩ := ign hf
      refine j_iald hX dX11_isWord_59 60 rfl 14 rfl hb7 ?_
      refine j_icmp_ne hX dX11_isWord_60 63 67 rfl rfl (fun h8 => ?_) (fun h8 => ?_)
      · replace hf := itf h8 hf
        refine j_iconst (v := 0) hX dX11_isWord_67 68 rfl (by decide) ?_
        refine j_sub [0, 1, 3] rfl ?_
        exact t_X11_isWord_68 hX hQ  hk32 x1 x3 0 hf
      · replace hf := itt h8 hf
        refine j_iconst (v := 1) hX dX11_isWord_63 64 rfl (by decide) ?_
        refine j_goto hX dX11_isWord_64 68 rfl ?_
        refine j_sub [0, 1, 3] rfl ?_
        exact t_X11_isWord_68 hX hQ  hk32 x1 x3 1 hf
def f_X11_isWord_32 (m_tape : Nat → Int32) (m_begins : Int32) : Nat → (Nat × Int32 × Int32) → Option (Int32) :=
  lp (fun k v => g_X11_isWord_32 m_tape m_begins (fun x1 x2 x3 => k (x1, x2, x3)) v.1 v.2.1 v.2.2)
set_option maxRecDepth 100000 in
set_option maxHeartbeats 4000000 in
theorem u_X11_isWord_32 {Y : YT} {r : Int32}  (hX : CX l G cX11_isWord 4 RX11 Y) (hQ : EQi G Y 0 0 .boolean r (WM G m_code m_people m_grants m_texts m_copies m_taped m_faultPlace m_isFemale m_born m_died m_father m_mother m_fatherGrade m_motherGrade m_grantTo m_grantArms m_grantYear m_copyYear m_copyRow m_tape m_textYear m_ruleMany m_ruleFrom m_codeRow m_stack m_ruleKind m_codes m_at m_read m_token m_sign m_begins m_ends m_bad m_badPlace m_top m_lineLives m_markRow m_quarterMany m_quarters m_isUp m_wasUp ++ fr))  (n : Nat) (v : Nat × Int32 × Int32) (hf : f_X11_isWord_32 m_tape m_begins n v = some r) : J l G (rmD 5 0 0) Y 0 0 32 [(0, .ref (gm G 0)), (1, .ref (gsk G v.1)), (2, .int v.2.1), (3, .int v.2.2)] [] (WM G m_code m_people m_grants m_texts m_copies m_taped m_faultPlace m_isFemale m_born m_died m_father m_mother m_fatherGrade m_motherGrade m_grantTo m_grantArms m_grantYear m_copyYear m_copyRow m_tape m_textYear m_ruleMany m_ruleFrom m_codeRow m_stack m_ruleKind m_codes m_at m_read m_token m_sign m_begins m_ends m_bad m_badPlace m_top m_lineLives m_markRow m_quarterMany m_quarters m_isUp m_wasUp ++ fr) :=
  lp_ind (P := fun v : Nat × Int32 × Int32 => J l G (rmD 5 0 0) Y 0 0 32 [(0, .ref (gm G 0)), (1, .ref (gsk G v.1)), (2, .int v.2.1), (3, .int v.2.2)] [] (WM G m_code m_people m_grants m_texts m_copies m_taped m_faultPlace m_isFemale m_born m_died m_father m_mother m_fatherGrade m_motherGrade m_grantTo m_grantArms m_grantYear m_copyYear m_copyRow m_tape m_textYear m_ruleMany m_ruleFrom m_codeRow m_stack m_ruleKind m_codes m_at m_read m_token m_sign m_begins m_ends m_bad m_badPlace m_top m_lineLives m_markRow m_quarterMany m_quarters m_isUp m_wasUp ++ fr)) (fun k hk v hf => t_X11_isWord_32 hX hQ   (fun x1 x2 x3 h => hk (x1, x2, x3) h) v.1 v.2.1 v.2.2 hf) n v hf
def g_X11_isWord_29 (fu : Nat) (m_tape : Nat → Int32) (m_begins : Int32) (x1 : Nat) (s0 : Int32) : Option (Int32) :=
  f_X11_isWord_32 m_tape m_begins fu (x1, s0, 0)
set_option maxRecDepth 100000 in
set_option maxHeartbeats 4000000 in
theorem t_X11_isWord_29 {fu : Nat} {Y : YT} {r : Int32}  (hX : CX l G cX11_isWord 4 RX11 Y) (hQ : EQi G Y 0 0 .boolean r (WM G m_code m_people m_grants m_texts m_copies m_taped m_faultPlace m_isFemale m_born m_died m_father m_mother m_fatherGrade m_motherGrade m_grantTo m_grantArms m_grantYear m_copyYear m_copyRow m_tape m_textYear m_ruleMany m_ruleFrom m_codeRow m_stack m_ruleKind m_codes m_at m_read m_token m_sign m_begins m_ends m_bad m_badPlace m_top m_lineLives m_markRow m_quarterMany m_quarters m_isUp m_wasUp ++ fr))  (x1 : Nat) (s0 : Int32) (hf : g_X11_isWord_29 fu m_tape m_begins x1 s0 = some r) : J l G (rmD 5 0 0) Y 0 0 29 [(0, .ref (gm G 0)), (1, .ref (gsk G x1))] [.int s0] (WM G m_code m_people m_grants m_texts m_copies m_taped m_faultPlace m_isFemale m_born m_died m_father m_mother m_fatherGrade m_motherGrade m_grantTo m_grantArms m_grantYear m_copyYear m_copyRow m_tape m_textYear m_ruleMany m_ruleFrom m_codeRow m_stack m_ruleKind m_codes m_at m_read m_token m_sign m_begins m_ends m_bad m_badPlace m_top m_lineLives m_markRow m_quarterMany m_quarters m_isUp m_wasUp ++ fr) := by
  unfold g_X11_isWord_29 at hf
  refine j_istore_n hX dX11_isWord_29 30 rfl rfl (by decide) (lv' := [(2, .int s0), (0, .ref (gm G 0)), (1, .ref (gsk G x1))]) rfl ?_
  refine j_iconst (v := 0) hX dX11_isWord_30 31 rfl (by decide) ?_
  refine j_istore_n hX dX11_isWord_31 32 rfl rfl (by decide) (lv' := [(3, .int 0), (2, .int s0), (0, .ref (gm G 0)), (1, .ref (gsk G x1))]) rfl ?_
  refine j_sub [2, 3, 1, 0] rfl ?_
  exact u_X11_isWord_32 hX hQ   fu (x1, s0, 0) hf
def g_X11_isWord_28 (fu : Nat) (m_tape : Nat → Int32) (m_begins : Int32) (x1 : Nat) : Option (Int32) :=
  g_X11_isWord_29 fu m_tape m_begins x1 0
set_option maxRecDepth 100000 in
set_option maxHeartbeats 4000000 in
theorem t_X11_isWord_28 {fu : Nat} {Y : YT} {r : Int32}  (hX : CX l G cX11_isWord 4 RX11 Y) (hQ : EQi G Y 0 0 .boolean r (WM G m_code m_people m_grants m_texts m_copies m_taped m_faultPlace m_isFemale m_born m_died m_father m_mother m_fatherGrade m_motherGrade m_grantTo m_grantArms m_grantYear m_copyYear m_copyRow m_tape m_textYear m_ruleMany m_ruleFrom m_codeRow m_stack m_ruleKind m_codes m_at m_read m_token m_sign m_begins m_ends m_bad m_badPlace m_top m_lineLives m_markRow m_quarterMany m_quarters m_isUp m_wasUp ++ fr))  (x1 : Nat) (hf : g_X11_isWord_28 fu m_tape m_begins x1 = some r) : J l G (rmD 5 0 0) Y 0 0 28 [(0, .ref (gm G 0)), (1, .ref (gsk G x1))] [] (WM G m_code m_people m_grants m_texts m_copies m_taped m_faultPlace m_isFemale m_born m_died m_father m_mother m_fatherGrade m_motherGrade m_grantTo m_grantArms m_grantYear m_copyYear m_copyRow m_tape m_textYear m_ruleMany m_ruleFrom m_codeRow m_stack m_ruleKind m_codes m_at m_read m_token m_sign m_begins m_ends m_bad m_badPlace m_top m_lineLives m_markRow m_quarterMany m_quarters m_isUp m_wasUp ++ fr) := by
  unfold g_X11_isWord_28 at hf
  refine j_iconst (v := 0) hX dX11_isWord_28 29 rfl (by decide) ?_
  exact t_X11_isWord_29 hX hQ   x1 0 hf
def f_X11_isWord (fu : Nat) (m_tape : Nat → Int32) (m_token : Int32) (m_begins : Int32) (m_ends : Int32) (x1 : Nat) : Option (Int32) :=
  if m_token = 1 then (f_J0_length_8abf5 x1).bind fun v9 => if v9 = (m_ends - m_begins) then g_X11_isWord_29 fu m_tape m_begins x1 1 else g_X11_isWord_28 fu m_tape m_begins x1 else g_X11_isWord_28 fu m_tape m_begins x1
set_option maxRecDepth 100000 in
set_option maxHeartbeats 4000000 in
theorem t_X11_isWord {fu : Nat}  (x1 : Nat) {r : Int32} (hf : f_X11_isWord fu m_tape m_token m_begins m_ends x1 = some r) : Ci l G 5 0 0 yX11_isWord cX11_isWord 4 .boolean [.ref (gm G 0), .ref (gsk G x1)] (WM G m_code m_people m_grants m_texts m_copies m_taped m_faultPlace m_isFemale m_born m_died m_father m_mother m_fatherGrade m_motherGrade m_grantTo m_grantArms m_grantYear m_copyYear m_copyRow m_tape m_textYear m_ruleMany m_ruleFrom m_codeRow m_stack m_ruleKind m_codes m_at m_read m_token m_sign m_begins m_ends m_bad m_badPlace m_top m_lineLives m_markRow m_quarterMany m_quarters m_isUp m_wasUp ++ fr) r (WM G m_code m_people m_grants m_texts m_copies m_taped m_faultPlace m_isFemale m_born m_died m_father m_mother m_fatherGrade m_motherGrade m_grantTo m_grantArms m_grantYear m_copyYear m_copyRow m_tape m_textYear m_ruleMany m_ruleFrom m_codeRow m_stack m_ruleKind m_codes m_at m_read m_token m_sign m_begins m_ends m_bad m_badPlace m_top m_lineLives m_markRow m_quarterMany m_quarters m_isUp m_wasUp ++ fr) := by
  refine Ci.of (by decide) (Nat.le_of_ble_eq_true rfl) (fun Y hX hQ => ?_)
  refine j_lv (lv' := [(0, .ref (gm G 0)), (1, .ref (gsk G x1))]) rfl ?_
  unfold f_X11_isWord at hf
  refine j_aload_n hX dX11_isWord_0 1 rfl 0 rfl rfl ?_
  refine j_get hX dX11_isWord_1 4 rfl fg_X11_215 0 rfl rfl ?_
  refine j_iconst (v := 1) hX dX11_isWord_4 5 rfl (by decide) ?_
  refine j_icmp_ne hX dX11_isWord_5 8 28 rfl rfl (fun h1 => ?_) (fun h1 => ?_)
  · replace hf := itf h1 hf
    exact t_X11_isWord_28 hX hQ   x1 hf
  · replace hf := itt h1 hf
    refine j_aload_n hX dX11_isWord_8 9 rfl 1 rfl rfl ?_
    obtain ⟨v9, hv9, hf⟩ := ibd hf
    refine zO_i (As := []) (rest := []) hX dX11_isWord_9 12 rfl (t_J0_length_8abf5 x1 hv9) mc_J0_length_8abf5 mv_J0_length_8abf5 ml_X11_227 (strO hX (len_lt hv9).1) (Nat.le_of_ble_eq_true rfl) (Nat.le_refl _) (Nat.le_refl _) rfl (Nat.le_of_ble_eq_true rfl) ?_
    refine j_aload_n hX dX11_isWord_12 13 rfl 0 rfl rfl ?_
    refine j_get hX dX11_isWord_13 16 rfl fg_X11_224 0 rfl rfl ?_
    refine j_aload_n hX dX11_isWord_16 17 rfl 0 rfl rfl ?_
    refine j_get hX dX11_isWord_17 20 rfl fg_X11_209 0 rfl rfl ?_
    refine j_isub hX dX11_isWord_20 21 rfl ?_
    refine j_icmp_ne hX dX11_isWord_21 24 28 rfl rfl (fun h10 => ?_) (fun h10 => ?_)
    · replace hf := itf h10 hf
      exact t_X11_isWord_28 hX hQ   x1 hf
    · replace hf := itt h10 hf
      refine j_iconst (v := 1) hX dX11_isWord_24 25 rfl (by decide) ?_
      refine j_goto hX dX11_isWord_25 29 rfl ?_
      exact t_X11_isWord_29 hX hQ   x1 1 hf
def g_X11_isSign_21 (s0 : Int32) : Option (Int32) :=
  if isB s0 = true then some s0 else none
set_option maxRecDepth 100000 in
set_option maxHeartbeats 4000000 in
theorem t_X11_isSign_21 {Y : YT} {r : Int32}  (hX : CX l G cX11_isSign 2 RX11 Y) (hQ : EQi G Y 0 0 .boolean r (WM G m_code m_people m_grants m_texts m_copies m_taped m_faultPlace m_isFemale m_born m_died m_father m_mother m_fatherGrade m_motherGrade m_grantTo m_grantArms m_grantYear m_copyYear m_copyRow m_tape m_textYear m_ruleMany m_ruleFrom m_codeRow m_stack m_ruleKind m_codes m_at m_read m_token m_sign m_begins m_ends m_bad m_badPlace m_top m_lineLives m_markRow m_quarterMany m_quarters m_isUp m_wasUp ++ fr))  (s0 : Int32) (hf : g_X11_isSign_21 s0 = some r) : J l G (rmD 1 0 0) Y 0 0 21 [] [.int s0] (WM G m_code m_people m_grants m_texts m_copies m_taped m_faultPlace m_isFemale m_born m_died m_father m_mother m_fatherGrade m_motherGrade m_grantTo m_grantArms m_grantYear m_copyYear m_copyRow m_tape m_textYear m_ruleMany m_ruleFrom m_codeRow m_stack m_ruleKind m_codes m_at m_read m_token m_sign m_begins m_ends m_bad m_badPlace m_top m_lineLives m_markRow m_quarterMany m_quarters m_isUp m_wasUp ++ fr) := by
  unfold g_X11_isSign_21 at hf
  obtain ⟨hb2, hf⟩ := ign hf
  replace hf := Option.some.inj hf
  subst hf
  exact j_zret hX hQ hb2 dX11_isSign_21
def g_X11_isSign_20  : Option (Int32) :=
  g_X11_isSign_21 0
set_option maxRecDepth 100000 in
set_option maxHeartbeats 4000000 in
theorem t_X11_isSign_20 {Y : YT} {r : Int32}  (hX : CX l G cX11_isSign 2 RX11 Y) (hQ : EQi G Y 0 0 .boolean r (WM G m_code m_people m_grants m_texts m_copies m_taped m_faultPlace m_isFemale m_born m_died m_father m_mother m_fatherGrade m_motherGrade m_grantTo m_grantArms m_grantYear m_copyYear m_copyRow m_tape m_textYear m_ruleMany m_ruleFrom m_codeRow m_stack m_ruleKind m_codes m_at m_read m_token m_sign m_begins m_ends m_bad m_badPlace m_top m_lineLives m_markRow m_quarterMany m_quarters m_isUp m_wasUp ++ fr))   (hf : g_X11_isSign_20  = some r) : J l G (rmD 1 0 0) Y 0 0 20 [] [] (WM G m_code m_people m_grants m_texts m_copies m_taped m_faultPlace m_isFemale m_born m_died m_father m_mother m_fatherGrade m_motherGrade m_grantTo m_grantArms m_grantYear m_copyYear m_copyRow m_tape m_textYear m_ruleMany m_ruleFrom m_codeRow m_stack m_ruleKind m_codes m_at m_read m_token m_sign m_begins m_ends m_bad m_badPlace m_top m_lineLives m_markRow m_quarterMany m_quarters m_isUp m_wasUp ++ fr) := by
  unfold g_X11_isSign_20 at hf
  refine j_iconst (v := 0) hX dX11_isSign_20 21 rfl (by decide) ?_
  exact t_X11_isSign_21 hX hQ   0 hf
def f_X11_isSign (m_token : Int32) (m_sign : Int32) (x1 : Int32) : Option (Int32) :=
  if m_token = 3 then if m_sign = x1 then g_X11_isSign_21 1 else g_X11_isSign_20  else g_X11_isSign_20 
set_option maxRecDepth 100000 in
set_option maxHeartbeats 4000000 in
theorem t_X11_isSign  (x1 : Int32) {r : Int32} (hf : f_X11_isSign m_token m_sign x1 = some r) : Ci l G 1 0 0 yX11_isSign cX11_isSign 2 .boolean [.ref (gm G 0), .int x1] (WM G m_code m_people m_grants m_texts m_copies m_taped m_faultPlace m_isFemale m_born m_died m_father m_mother m_fatherGrade m_motherGrade m_grantTo m_grantArms m_grantYear m_copyYear m_copyRow m_tape m_textYear m_ruleMany m_ruleFrom m_codeRow m_stack m_ruleKind m_codes m_at m_read m_token m_sign m_begins m_ends m_bad m_badPlace m_top m_lineLives m_markRow m_quarterMany m_quarters m_isUp m_wasUp ++ fr) r (WM G m_code m_people m_grants m_texts m_copies m_taped m_faultPlace m_isFemale m_born m_died m_father m_mother m_fatherGrade m_motherGrade m_grantTo m_grantArms m_grantYear m_copyYear m_copyRow m_tape m_textYear m_ruleMany m_ruleFrom m_codeRow m_stack m_ruleKind m_codes m_at m_read m_token m_sign m_begins m_ends m_bad m_badPlace m_top m_lineLives m_markRow m_quarterMany m_quarters m_isUp m_wasUp ++ fr) := by
  refine Ci.of (by decide) (Nat.le_of_ble_eq_true rfl) (fun Y hX hQ => ?_)
  refine j_lv (lv' := [(0, .ref (gm G 0)), (1, .int x1)]) rfl ?_
  unfold f_X11_isSign at hf
  refine j_aload_n hX dX11_isSign_0 1 rfl 0 rfl rfl ?_
  refine j_get hX dX11_isSign_1 4 rfl fg_X11_215 0 rfl rfl ?_
  refine j_iconst (v := 3) hX dX11_isSign_4 5 rfl (by decide) ?_
  refine j_icmp_ne hX dX11_isSign_5 8 20 rfl rfl (fun h1 => ?_) (fun h1 => ?_)
  · replace hf := itf h1 hf
    refine j_sub [] rfl ?_
    exact t_X11_isSign_20 hX hQ    hf
  · replace hf := itt h1 hf
    refine j_aload_n hX dX11_isSign_8 9 rfl 0 rfl rfl ?_
    refine j_get hX dX11_isSign_9 12 rfl fg_X11_212 0 rfl rfl ?_
    refine j_iload_n hX dX11_isSign_12 13 rfl 1 rfl rfl ?_
    refine j_icmp_ne hX dX11_isSign_13 16 20 rfl rfl (fun h3 => ?_) (fun h3 => ?_)
    · replace hf := itf h3 hf
      refine j_sub [] rfl ?_
      exact t_X11_isSign_20 hX hQ    hf
    · replace hf := itt h3 hf
      refine j_iconst (v := 1) hX dX11_isSign_16 17 rfl (by decide) ?_
      refine j_goto hX dX11_isSign_17 21 rfl ?_
      refine j_sub [] rfl ?_
      exact t_X11_isSign_21 hX hQ   1 hf
def f_X11_wrong (m_begins : Int32) (m_bad : Int32) (m_badPlace : Int32) (x1 : Int32) : Option (Int32 × Int32) :=
  if m_bad = 0 then some (x1, m_begins) else some (m_bad, m_badPlace)
set_option maxRecDepth 100000 in
set_option maxHeartbeats 4000000 in
theorem t_X11_wrong  (x1 : Int32) {r : Int32 × Int32} (hf : f_X11_wrong m_begins m_bad m_badPlace x1 = some r) : Cv l G 1 0 0 yX11_wrong cX11_wrong 2 [.ref (gm G 0), .int x1] (WM G m_code m_people m_grants m_texts m_copies m_taped m_faultPlace m_isFemale m_born m_died m_father m_mother m_fatherGrade m_motherGrade m_grantTo m_grantArms m_grantYear m_copyYear m_copyRow m_tape m_textYear m_ruleMany m_ruleFrom m_codeRow m_stack m_ruleKind m_codes m_at m_read m_token m_sign m_begins m_ends m_bad m_badPlace m_top m_lineLives m_markRow m_quarterMany m_quarters m_isUp m_wasUp ++ fr) (WM G m_code m_people m_grants m_texts m_copies m_taped m_faultPlace m_isFemale m_born m_died m_father m_mother m_fatherGrade m_motherGrade m_grantTo m_grantArms m_grantYear m_copyYear m_copyRow m_tape m_textYear m_ruleMany m_ruleFrom m_codeRow m_stack m_ruleKind m_codes m_at m_read m_token m_sign m_begins m_ends r.1 r.2 m_top m_lineLives m_markRow m_quarterMany m_quarters m_isUp m_wasUp ++ fr) := by
  refine Cv.of (by decide) (Nat.le_of_ble_eq_true rfl) (fun Y hX hQ => ?_)
  refine j_lv (lv' := [(0, .ref (gm G 0)), (1, .int x1)]) rfl ?_
  unfold f_X11_wrong at hf
  refine j_aload_n hX dX11_wrong_0 1 rfl 0 rfl rfl ?_
  refine j_get hX dX11_wrong_1 4 rfl fg_X11_234 0 rfl rfl ?_
  refine j_if_eq hX dX11_wrong_4 7 8 rfl rfl (fun h1 => ?_) (fun h1 => ?_)
  · replace hf := itt h1 hf
    refine j_aload_n hX dX11_wrong_8 9 rfl 0 rfl rfl ?_
    refine j_iload_n hX dX11_wrong_9 10 rfl 1 rfl rfl ?_
    refine j_put hX dX11_wrong_10 13 rfl fg_X11_234 ft_X11_34 0 rfl rfl rfl (Nat.le_of_ble_eq_true rfl) (ws' := (WM G m_code m_people m_grants m_texts m_copies m_taped m_faultPlace m_isFemale m_born m_died m_father m_mother m_fatherGrade m_motherGrade m_grantTo m_grantArms m_grantYear m_copyYear m_copyRow m_tape m_textYear m_ruleMany m_ruleFrom m_codeRow m_stack m_ruleKind m_codes m_at m_read m_token m_sign m_begins m_ends x1 m_badPlace m_top m_lineLives m_markRow m_quarterMany m_quarters m_isUp m_wasUp ++ fr)) rfl ?_
    refine j_aload_n hX dX11_wrong_13 14 rfl 0 rfl rfl ?_
    refine j_aload_n hX dX11_wrong_14 15 rfl 0 rfl rfl ?_
    refine j_get hX dX11_wrong_15 18 rfl fg_X11_209 0 rfl rfl ?_
    refine j_put hX dX11_wrong_18 21 rfl fg_X11_237 ft_X11_35 0 rfl rfl rfl (Nat.le_of_ble_eq_true rfl) (ws' := (WM G m_code m_people m_grants m_texts m_copies m_taped m_faultPlace m_isFemale m_born m_died m_father m_mother m_fatherGrade m_motherGrade m_grantTo m_grantArms m_grantYear m_copyYear m_copyRow m_tape m_textYear m_ruleMany m_ruleFrom m_codeRow m_stack m_ruleKind m_codes m_at m_read m_token m_sign m_begins m_ends x1 m_begins m_top m_lineLives m_markRow m_quarterMany m_quarters m_isUp m_wasUp ++ fr)) rfl ?_
    replace hf := Option.some.inj hf
    subst hf
    exact j_vret hX hQ dX11_wrong_21
  · replace hf := itf h1 hf
    replace hf := Option.some.inj hf
    subst hf
    exact j_vret hX hQ dX11_wrong_7
def f_X11_emit (m_texts : Int32) (m_bad : Int32) (m_codeRow : Nat → Int32) (m_codes : Int32) (x1 : Int32) : Option ((Nat → Int32) × Int32) :=
  if m_bad = 0 then if inb ((700 * m_texts) + m_codes) 4200 = true then some (upd m_codeRow (Int32.toNatClampNeg ((700 * m_texts) + m_codes)) x1, m_codes + 1) else none else some (m_codeRow, m_codes)
set_option maxRecDepth 100000 in
set_option maxHeartbeats 4000000 in
theorem t_X11_emit  (x1 : Int32) {r : (Nat → Int32) × Int32} (hf : f_X11_emit m_texts m_bad m_codeRow m_codes x1 = some r) : Cv l G 1 0 0 yX11_emit cX11_emit 2 [.ref (gm G 0), .int x1] (WM G m_code m_people m_grants m_texts m_copies m_taped m_faultPlace m_isFemale m_born m_died m_father m_mother m_fatherGrade m_motherGrade m_grantTo m_grantArms m_grantYear m_copyYear m_copyRow m_tape m_textYear m_ruleMany m_ruleFrom m_codeRow m_stack m_ruleKind m_codes m_at m_read m_token m_sign m_begins m_ends m_bad m_badPlace m_top m_lineLives m_markRow m_quarterMany m_quarters m_isUp m_wasUp ++ fr) (WM G m_code m_people m_grants m_texts m_copies m_taped m_faultPlace m_isFemale m_born m_died m_father m_mother m_fatherGrade m_motherGrade m_grantTo m_grantArms m_grantYear m_copyYear m_copyRow m_tape m_textYear m_ruleMany m_ruleFrom r.1 m_stack m_ruleKind r.2 m_at m_read m_token m_sign m_begins m_ends m_bad m_badPlace m_top m_lineLives m_markRow m_quarterMany m_quarters m_isUp m_wasUp ++ fr) := by
  refine Cv.of (by decide) (Nat.le_of_ble_eq_true rfl) (fun Y hX hQ => ?_)
  refine j_lv (lv' := [(0, .ref (gm G 0)), (1, .int x1)]) rfl ?_
  unfold f_X11_emit at hf
  refine j_aload_n hX dX11_emit_0 1 rfl 0 rfl rfl ?_
  refine j_get hX dX11_emit_1 4 rfl fg_X11_234 0 rfl rfl ?_
  refine j_if_eq hX dX11_emit_4 7 8 rfl rfl (fun h1 => ?_) (fun h1 => ?_)
  · replace hf := itt h1 hf
    refine j_aload_n hX dX11_emit_8 9 rfl 0 rfl rfl ?_
    refine j_get hX dX11_emit_9 12 rfl fg_X11_84 0 rfl rfl ?_
    refine j_sipush (v := 700) hX dX11_emit_12 15 rfl (by decide) ?_
    refine j_aload_n hX dX11_emit_15 16 rfl 0 rfl rfl ?_
    refine j_get hX dX11_emit_16 19 rfl fg_X11_240 0 rfl rfl ?_
    refine j_imul hX dX11_emit_19 20 rfl ?_
    refine j_aload_n hX dX11_emit_20 21 rfl 0 rfl rfl ?_
    refine j_get hX dX11_emit_21 24 rfl fg_X11_243 0 rfl rfl ?_
    refine j_iadd hX dX11_emit_24 25 rfl ?_
    refine j_iload_n hX dX11_emit_25 26 rfl 1 rfl rfl ?_
    obtain ⟨hb2, hf⟩ := ign hf
    refine j_iast hX dX11_emit_26 27 rfl 18 rfl hb2 (ws' := (WM G m_code m_people m_grants m_texts m_copies m_taped m_faultPlace m_isFemale m_born m_died m_father m_mother m_fatherGrade m_motherGrade m_grantTo m_grantArms m_grantYear m_copyYear m_copyRow m_tape m_textYear m_ruleMany m_ruleFrom (upd m_codeRow (Int32.toNatClampNeg ((700 * m_texts) + m_codes)) x1) m_stack m_ruleKind m_codes m_at m_read m_token m_sign m_begins m_ends m_bad m_badPlace m_top m_lineLives m_markRow m_quarterMany m_quarters m_isUp m_wasUp ++ fr)) rfl ?_
    refine j_aload_n hX dX11_emit_27 28 rfl 0 rfl rfl ?_
    refine j_dup hX dX11_emit_28 29 rfl rfl ?_
    refine j_get hX dX11_emit_29 32 rfl fg_X11_243 0 rfl rfl ?_
    refine j_iconst (v := 1) hX dX11_emit_32 33 rfl (by decide) ?_
    refine j_iadd hX dX11_emit_33 34 rfl ?_
    refine j_put hX dX11_emit_34 37 rfl fg_X11_243 ft_X11_27 0 rfl rfl rfl (Nat.le_of_ble_eq_true rfl) (ws' := (WM G m_code m_people m_grants m_texts m_copies m_taped m_faultPlace m_isFemale m_born m_died m_father m_mother m_fatherGrade m_motherGrade m_grantTo m_grantArms m_grantYear m_copyYear m_copyRow m_tape m_textYear m_ruleMany m_ruleFrom (upd m_codeRow (Int32.toNatClampNeg ((700 * m_texts) + m_codes)) x1) m_stack m_ruleKind (m_codes + 1) m_at m_read m_token m_sign m_begins m_ends m_bad m_badPlace m_top m_lineLives m_markRow m_quarterMany m_quarters m_isUp m_wasUp ++ fr)) rfl ?_
    replace hf := Option.some.inj hf
    subst hf
    exact j_vret hX hQ dX11_emit_37
  · replace hf := itf h1 hf
    replace hf := Option.some.inj hf
    subst hf
    exact j_vret hX hQ dX11_emit_7
def g_X11_readPart_210 (m_codeRow : Nat → Int32) (m_codes : Int32) (m_at : Int32) (m_token : Int32) (m_sign : Int32) (m_begins : Int32) (m_ends : Int32) (m_bad : Int32) (m_badPlace : Int32) : Option ((Nat → Int32) × Int32 × Int32 × Int32 × Int32 × Int32 × Int32 × Int32 × Int32) :=
  some (m_codeRow, m_codes, m_at, m_token, m_sign, m_begins, m_ends, m_bad, m_badPlace)
set_option maxRecDepth 100000 in
set_option maxHeartbeats 4000000 in
theorem t_X11_readPart_210 {Y : YT} {r : (Nat → Int32) × Int32 × Int32 × Int32 × Int32 × Int32 × Int32 × Int32 × Int32}  (hX : CX l G cX11_readPart 4 RX11 Y) (hQ : EQv G Y 0 0 (WM G m_code m_people m_grants m_texts m_copies m_taped m_faultPlace m_isFemale m_born m_died m_father m_mother m_fatherGrade m_motherGrade m_grantTo m_grantArms m_grantYear m_copyYear m_copyRow m_tape m_textYear m_ruleMany m_ruleFrom r.1 m_stack m_ruleKind r.2.1 r.2.2.1 m_read r.2.2.2.1 r.2.2.2.2.1 r.2.2.2.2.2.1 r.2.2.2.2.2.2.1 r.2.2.2.2.2.2.2.1 r.2.2.2.2.2.2.2.2 m_top m_lineLives m_markRow m_quarterMany m_quarters m_isUp m_wasUp ++ fr)) {dk : Nat} {ke : Int32 → (Nat → Int32) → Int32 → Int32 → Int32 → Int32 → Int32 → Int32 → Int32 → Int32 → Option ((Nat → Int32) × Int32 × Int32 × Int32 × Int32 × Int32 × Int32 × Int32 × Int32)} (hke : ∀ (x1 : Int32) (m_codeRow : Nat → Int32) (m_codes : Int32) (m_at : Int32) (m_token : Int32) (m_sign : Int32) (m_begins : Int32) (m_ends : Int32) (m_bad : Int32) (m_badPlace : Int32) (r : (Nat → Int32) × Int32 × Int32 × Int32 × Int32 × Int32 × Int32 × Int32 × Int32), ke x1 m_codeRow m_codes m_at m_token m_sign m_begins m_ends m_bad m_badPlace = some r → Cv l G dk 0 0 yX11_readExpression cX11_readExpression 4 [.ref (gm G 0), .int x1] (WM G m_code m_people m_grants m_texts m_copies m_taped m_faultPlace m_isFemale m_born m_died m_father m_mother m_fatherGrade m_motherGrade m_grantTo m_grantArms m_grantYear m_copyYear m_copyRow m_tape m_textYear m_ruleMany m_ruleFrom m_codeRow m_stack m_ruleKind m_codes m_at m_read m_token m_sign m_begins m_ends m_bad m_badPlace m_top m_lineLives m_markRow m_quarterMany m_quarters m_isUp m_wasUp ++ fr) (WM G m_code m_people m_grants m_texts m_copies m_taped m_faultPlace m_isFemale m_born m_died m_father m_mother m_fatherGrade m_motherGrade m_grantTo m_grantArms m_grantYear m_copyYear m_copyRow m_tape m_textYear m_ruleMany m_ruleFrom r.1 m_stack m_ruleKind r.2.1 r.2.2.1 m_read r.2.2.2.1 r.2.2.2.2.1 r.2.2.2.2.2.1 r.2.2.2.2.2.2.1 r.2.2.2.2.2.2.2.1 r.2.2.2.2.2.2.2.2 m_top m_lineLives m_markRow m_quarterMany m_quarters m_isUp m_wasUp ++ fr)) (hdk : 10 ≤ dk)   (hf : g_X11_readPart_210 m_codeRow m_codes m_at m_token m_sign m_begins m_ends m_bad m_badPlace = some r) : J l G (rmD (dk + 1) 0 0) Y 0 0 210 [] [] (WM G m_code m_people m_grants m_texts m_copies m_taped m_faultPlace m_isFemale m_born m_died m_father m_mother m_fatherGrade m_motherGrade m_grantTo m_grantArms m_grantYear m_copyYear m_copyRow m_tape m_textYear m_ruleMany m_ruleFrom m_codeRow m_stack m_ruleKind m_codes m_at m_read m_token m_sign m_begins m_ends m_bad m_badPlace m_top m_lineLives m_markRow m_quarterMany m_quarters m_isUp m_wasUp ++ fr) := by
  unfold g_X11_readPart_210 at hf
  replace hf := Option.some.inj hf
  subst hf
  exact j_vret hX hQ dX11_readPart_210
def g_X11_readPart_199 (fu : Nat) (m_tape : Nat → Int32) (m_read : Int32) (m_codeRow : Nat → Int32) (m_codes : Int32) (m_at : Int32) (m_token : Int32) (m_sign : Int32) (m_begins : Int32) (m_ends : Int32) (m_bad : Int32) (m_badPlace : Int32) : Option ((Nat → Int32) × Int32 × Int32 × Int32 × Int32 × Int32 × Int32 × Int32 × Int32) :=
  if m_bad = 0 then (f_X11_step fu m_tape m_read m_at m_token m_sign m_begins m_ends).bind fun v8 => g_X11_readPart_210 m_codeRow m_codes v8.1 v8.2.1 v8.2.2.1 v8.2.2.2.1 v8.2.2.2.2 m_bad m_badPlace else g_X11_readPart_210 m_codeRow m_codes m_at m_token m_sign m_begins m_ends m_bad m_badPlace
set_option maxRecDepth 100000 in
set_option maxHeartbeats 4000000 in
theorem t_X11_readPart_199 {fu : Nat} {Y : YT} {r : (Nat → Int32) × Int32 × Int32 × Int32 × Int32 × Int32 × Int32 × Int32 × Int32}  (hX : CX l G cX11_readPart 4 RX11 Y) (hQ : EQv G Y 0 0 (WM G m_code m_people m_grants m_texts m_copies m_taped m_faultPlace m_isFemale m_born m_died m_father m_mother m_fatherGrade m_motherGrade m_grantTo m_grantArms m_grantYear m_copyYear m_copyRow m_tape m_textYear m_ruleMany m_ruleFrom r.1 m_stack m_ruleKind r.2.1 r.2.2.1 m_read r.2.2.2.1 r.2.2.2.2.1 r.2.2.2.2.2.1 r.2.2.2.2.2.2.1 r.2.2.2.2.2.2.2.1 r.2.2.2.2.2.2.2.2 m_top m_lineLives m_markRow m_quarterMany m_quarters m_isUp m_wasUp ++ fr)) {dk : Nat} {ke : Int32 → (Nat → Int32) → Int32 → Int32 → Int32 → Int32 → Int32 → Int32 → Int32 → Int32 → Option ((Nat → Int32) × Int32 × Int32 × Int32 × Int32 × Int32 × Int32 × Int32 × Int32)} (hke : ∀ (x1 : Int32) (m_codeRow : Nat → Int32) (m_codes : Int32) (m_at : Int32) (m_token : Int32) (m_sign : Int32) (m_begins : Int32) (m_ends : Int32) (m_bad : Int32) (m_badPlace : Int32) (r : (Nat → Int32) × Int32 × Int32 × Int32 × Int32 × Int32 × Int32 × Int32 × Int32), ke x1 m_codeRow m_codes m_at m_token m_sign m_begins m_ends m_bad m_badPlace = some r → Cv l G dk 0 0 yX11_readExpression cX11_readExpression 4 [.ref (gm G 0), .int x1] (WM G m_code m_people m_grants m_texts m_copies m_taped m_faultPlace m_isFemale m_born m_died m_father m_mother m_fatherGrade m_motherGrade m_grantTo m_grantArms m_grantYear m_copyYear m_copyRow m_tape m_textYear m_ruleMany m_ruleFrom m_codeRow m_stack m_ruleKind m_codes m_at m_read m_token m_sign m_begins m_ends m_bad m_badPlace m_top m_lineLives m_markRow m_quarterMany m_quarters m_isUp m_wasUp ++ fr) (WM G m_code m_people m_grants m_texts m_copies m_taped m_faultPlace m_isFemale m_born m_died m_father m_mother m_fatherGrade m_motherGrade m_grantTo m_grantArms m_grantYear m_copyYear m_copyRow m_tape m_textYear m_ruleMany m_ruleFrom r.1 m_stack m_ruleKind r.2.1 r.2.2.1 m_read r.2.2.2.1 r.2.2.2.2.1 r.2.2.2.2.2.1 r.2.2.2.2.2.2.1 r.2.2.2.2.2.2.2.1 r.2.2.2.2.2.2.2.2 m_top m_lineLives m_markRow m_quarterMany m_quarters m_isUp m_wasUp ++ fr)) (hdk : 10 ≤ dk)   (hf : g_X11_readPart_199 fu m_tape m_read m_codeRow m_codes m_at m_token m_sign m_begins m_ends m_bad m_badPlace = some r) : J l G (rmD (dk + 1) 0 0) Y 0 0 199 [(0, .ref (gm G 0))] [] (WM G m_code m_people m_grants m_texts m_copies m_taped m_faultPlace m_isFemale m_born m_died m_father m_mother m_fatherGrade m_motherGrade m_grantTo m_grantArms m_grantYear m_copyYear m_copyRow m_tape m_textYear m_ruleMany m_ruleFrom m_codeRow m_stack m_ruleKind m_codes m_at m_read m_token m_sign m_begins m_ends m_bad m_badPlace m_top m_lineLives m_markRow m_quarterMany m_quarters m_isUp m_wasUp ++ fr) := by
  unfold g_X11_readPart_199 at hf
  refine j_aload_n hX dX11_readPart_199 200 rfl 0 rfl rfl ?_
  refine j_get hX dX11_readPart_200 203 rfl fg_X11_234 0 rfl rfl ?_
  refine j_if_ne hX dX11_readPart_203 206 210 rfl rfl (fun h7 => ?_) (fun h7 => ?_)
  · replace hf := itf h7 hf
    refine j_sub [] rfl ?_
    exact t_X11_readPart_210 hX hQ hke hdk   hf
  · replace hf := itt h7 hf
    refine j_aload_n hX dX11_readPart_206 207 rfl 0 rfl rfl ?_
    obtain ⟨v8, hv8, hf⟩ := ibd hf
    refine z_v (As := []) (rest := []) (q0 := 0) hX dX11_readPart_207 210 rfl (t_X11_step  hv8) mc_X11_step mv_X11_step ml_X11_246 rfl rfl (by omega) (Nat.le_refl _) (Nat.le_refl _) rfl (Nat.le_of_ble_eq_true rfl) ?_
    refine j_sub [] rfl ?_
    exact t_X11_readPart_210 hX hQ hke hdk   hf
def g_X11_readPart_139 (fu : Nat) (m_texts : Int32) (m_tape : Nat → Int32) (m_read : Int32) (m_codeRow : Nat → Int32) (m_codes : Int32) (m_at : Int32) (m_token : Int32) (m_sign : Int32) (m_begins : Int32) (m_ends : Int32) (m_bad : Int32) (m_badPlace : Int32) (x2 : Int32) : Option ((Nat → Int32) × Int32 × Int32 × Int32 × Int32 × Int32 × Int32 × Int32 × Int32) :=
  (f_X11_emit m_texts m_bad m_codeRow m_codes (20 + x2)).bind fun v17 => g_X11_readPart_199 fu m_tape m_read v17.1 v17.2 m_at m_token m_sign m_begins m_ends m_bad m_badPlace
set_option maxRecDepth 100000 in
set_option maxHeartbeats 4000000 in
theorem t_X11_readPart_139 {fu : Nat} {Y : YT} {r : (Nat → Int32) × Int32 × Int32 × Int32 × Int32 × Int32 × Int32 × Int32 × Int32}  (hX : CX l G cX11_readPart 4 RX11 Y) (hQ : EQv G Y 0 0 (WM G m_code m_people m_grants m_texts m_copies m_taped m_faultPlace m_isFemale m_born m_died m_father m_mother m_fatherGrade m_motherGrade m_grantTo m_grantArms m_grantYear m_copyYear m_copyRow m_tape m_textYear m_ruleMany m_ruleFrom r.1 m_stack m_ruleKind r.2.1 r.2.2.1 m_read r.2.2.2.1 r.2.2.2.2.1 r.2.2.2.2.2.1 r.2.2.2.2.2.2.1 r.2.2.2.2.2.2.2.1 r.2.2.2.2.2.2.2.2 m_top m_lineLives m_markRow m_quarterMany m_quarters m_isUp m_wasUp ++ fr)) {dk : Nat} {ke : Int32 → (Nat → Int32) → Int32 → Int32 → Int32 → Int32 → Int32 → Int32 → Int32 → Int32 → Option ((Nat → Int32) × Int32 × Int32 × Int32 × Int32 × Int32 × Int32 × Int32 × Int32)} (hke : ∀ (x1 : Int32) (m_codeRow : Nat → Int32) (m_codes : Int32) (m_at : Int32) (m_token : Int32) (m_sign : Int32) (m_begins : Int32) (m_ends : Int32) (m_bad : Int32) (m_badPlace : Int32) (r : (Nat → Int32) × Int32 × Int32 × Int32 × Int32 × Int32 × Int32 × Int32 × Int32), ke x1 m_codeRow m_codes m_at m_token m_sign m_begins m_ends m_bad m_badPlace = some r → Cv l G dk 0 0 yX11_readExpression cX11_readExpression 4 [.ref (gm G 0), .int x1] (WM G m_code m_people m_grants m_texts m_copies m_taped m_faultPlace m_isFemale m_born m_died m_father m_mother m_fatherGrade m_motherGrade m_grantTo m_grantArms m_grantYear m_copyYear m_copyRow m_tape m_textYear m_ruleMany m_ruleFrom m_codeRow m_stack m_ruleKind m_codes m_at m_read m_token m_sign m_begins m_ends m_bad m_badPlace m_top m_lineLives m_markRow m_quarterMany m_quarters m_isUp m_wasUp ++ fr) (WM G m_code m_people m_grants m_texts m_copies m_taped m_faultPlace m_isFemale m_born m_died m_father m_mother m_fatherGrade m_motherGrade m_grantTo m_grantArms m_grantYear m_copyYear m_copyRow m_tape m_textYear m_ruleMany m_ruleFrom r.1 m_stack m_ruleKind r.2.1 r.2.2.1 m_read r.2.2.2.1 r.2.2.2.2.1 r.2.2.2.2.2.1 r.2.2.2.2.2.2.1 r.2.2.2.2.2.2.2.1 r.2.2.2.2.2.2.2.2 m_top m_lineLives m_markRow m_quarterMany m_quarters m_isUp m_wasUp ++ fr)) (hdk : 10 ≤ dk)  (x2 : Int32) (hf : g_X11_readPart_139 fu m_texts m_tape m_read m_codeRow m_codes m_at m_token m_sign m_begins m_ends m_bad m_badPlace x2 = some r) : J l G (rmD (dk + 1) 0 0) Y 0 0 139 [(0, .ref (gm G 0)), (2, .int x2)] [] (WM G m_code m_people m_grants m_texts m_copies m_taped m_faultPlace m_isFemale m_born m_died m_father m_mother m_fatherGrade m_motherGrade m_grantTo m_grantArms m_grantYear m_copyYear m_copyRow m_tape m_textYear m_ruleMany m_ruleFrom m_codeRow m_stack m_ruleKind m_codes m_at m_read m_token m_sign m_begins m_ends m_bad m_badPlace m_top m_lineLives m_markRow m_quarterMany m_quarters m_isUp m_wasUp ++ fr) := by
  unfold g_X11_readPart_139 at hf
  refine j_aload_n hX dX11_readPart_139 140 rfl 0 rfl rfl ?_
  refine j_bipush (v := 20) hX dX11_readPart_140 142 rfl (by decide) ?_
  refine j_iload_n hX dX11_readPart_142 143 rfl 1 rfl rfl ?_
  refine j_iadd hX dX11_readPart_143 144 rfl ?_
  obtain ⟨v17, hv17, hf⟩ := ibd hf
  refine z_v (As := [.int (20 + x2)]) (rest := []) (q0 := 0) hX dX11_readPart_144 147 rfl (t_X11_emit (20 + x2) hv17) mc_X11_emit mv_X11_emit ml_X11_275 rfl rfl (by omega) (Nat.le_refl _) (Nat.le_refl _) rfl (Nat.le_of_ble_eq_true rfl) ?_
  refine j_goto hX dX11_readPart_147 199 rfl ?_
  refine j_sub [0] rfl ?_
  exact t_X11_readPart_199 hX hQ hke hdk   hf
def g_X11_readPart_123 (m_codeRow : Nat → Int32) (m_codes : Int32) (m_at : Int32) (m_token : Int32) (m_sign : Int32) (m_begins : Int32) (m_ends : Int32) (m_bad : Int32) (m_badPlace : Int32) (k102 : Int32 → Int32 → (Nat → Int32) → Int32 → Int32 → Int32 → Int32 → Int32 → Int32 → Int32 → Int32 → Option ((Nat → Int32) × Int32 × Int32 × Int32 × Int32 × Int32 × Int32 × Int32 × Int32)) (x2 : Int32) (x3 : Int32) : Option ((Nat → Int32) × Int32 × Int32 × Int32 × Int32 × Int32 × Int32 × Int32 × Int32) :=
  k102 x2 (x3 + 1) m_codeRow m_codes m_at m_token m_sign m_begins m_ends m_bad m_badPlace
set_option maxRecDepth 100000 in
set_option maxHeartbeats 4000000 in
theorem t_X11_readPart_123 {Y : YT} {r : (Nat → Int32) × Int32 × Int32 × Int32 × Int32 × Int32 × Int32 × Int32 × Int32} {k102 : Int32 → Int32 → (Nat → Int32) → Int32 → Int32 → Int32 → Int32 → Int32 → Int32 → Int32 → Int32 → Option ((Nat → Int32) × Int32 × Int32 × Int32 × Int32 × Int32 × Int32 × Int32 × Int32)} (hX : CX l G cX11_readPart 4 RX11 Y) (hQ : EQv G Y 0 0 (WM G m_code m_people m_grants m_texts m_copies m_taped m_faultPlace m_isFemale m_born m_died m_father m_mother m_fatherGrade m_motherGrade m_grantTo m_grantArms m_grantYear m_copyYear m_copyRow m_tape m_textYear m_ruleMany m_ruleFrom r.1 m_stack m_ruleKind r.2.1 r.2.2.1 m_read r.2.2.2.1 r.2.2.2.2.1 r.2.2.2.2.2.1 r.2.2.2.2.2.2.1 r.2.2.2.2.2.2.2.1 r.2.2.2.2.2.2.2.2 m_top m_lineLives m_markRow m_quarterMany m_quarters m_isUp m_wasUp ++ fr)) {dk : Nat} {ke : Int32 → (Nat → Int32) → Int32 → Int32 → Int32 → Int32 → Int32 → Int32 → Int32 → Int32 → Option ((Nat → Int32) × Int32 × Int32 × Int32 × Int32 × Int32 × Int32 × Int32 × Int32)} (hke : ∀ (x1 : Int32) (m_codeRow : Nat → Int32) (m_codes : Int32) (m_at : Int32) (m_token : Int32) (m_sign : Int32) (m_begins : Int32) (m_ends : Int32) (m_bad : Int32) (m_badPlace : Int32) (r : (Nat → Int32) × Int32 × Int32 × Int32 × Int32 × Int32 × Int32 × Int32 × Int32), ke x1 m_codeRow m_codes m_at m_token m_sign m_begins m_ends m_bad m_badPlace = some r → Cv l G dk 0 0 yX11_readExpression cX11_readExpression 4 [.ref (gm G 0), .int x1] (WM G m_code m_people m_grants m_texts m_copies m_taped m_faultPlace m_isFemale m_born m_died m_father m_mother m_fatherGrade m_motherGrade m_grantTo m_grantArms m_grantYear m_copyYear m_copyRow m_tape m_textYear m_ruleMany m_ruleFrom m_codeRow m_stack m_ruleKind m_codes m_at m_read m_token m_sign m_begins m_ends m_bad m_badPlace m_top m_lineLives m_markRow m_quarterMany m_quarters m_isUp m_wasUp ++ fr) (WM G m_code m_people m_grants m_texts m_copies m_taped m_faultPlace m_isFemale m_born m_died m_father m_mother m_fatherGrade m_motherGrade m_grantTo m_grantArms m_grantYear m_copyYear m_copyRow m_tape m_textYear m_ruleMany m_ruleFrom r.1 m_stack m_ruleKind r.2.1 r.2.2.1 m_read r.2.2.2.1 r.2.2.2.2.1 r.2.2.2.2.2.1 r.2.2.2.2.2.2.1 r.2.2.2.2.2.2.2.1 r.2.2.2.2.2.2.2.2 m_top m_lineLives m_markRow m_quarterMany m_quarters m_isUp m_wasUp ++ fr)) (hdk : 10 ≤ dk) (hk102 : ∀ (x2 : Int32) (x3 : Int32) (m_codeRow : Nat → Int32) (m_codes : Int32) (m_at : Int32) (m_token : Int32) (m_sign : Int32) (m_begins : Int32) (m_ends : Int32) (m_bad : Int32) (m_badPlace : Int32), k102 x2 x3 m_codeRow m_codes m_at m_token m_sign m_begins m_ends m_bad m_badPlace = some r → J l G (rmD (dk + 1) 0 0) Y 0 0 102 [(0, .ref (gm G 0)), (2, .int x2), (3, .int x3)] [] (WM G m_code m_people m_grants m_texts m_copies m_taped m_faultPlace m_isFemale m_born m_died m_father m_mother m_fatherGrade m_motherGrade m_grantTo m_grantArms m_grantYear m_copyYear m_copyRow m_tape m_textYear m_ruleMany m_ruleFrom m_codeRow m_stack m_ruleKind m_codes m_at m_read m_token m_sign m_begins m_ends m_bad m_badPlace m_top m_lineLives m_markRow m_quarterMany m_quarters m_isUp m_wasUp ++ fr)) (x2 : Int32) (x3 : Int32) (hf : g_X11_readPart_123 m_codeRow m_codes m_at m_token m_sign m_begins m_ends m_bad m_badPlace k102 x2 x3 = some r) : J l G (rmD (dk + 1) 0 0) Y 0 0 123 [(0, .ref (gm G 0)), (2, .int x2), (3, .int x3)] [] (WM G m_code m_people m_grants m_texts m_copies m_taped m_faultPlace m_isFemale m_born m_died m_father m_mother m_fatherGrade m_motherGrade m_grantTo m_grantArms m_grantYear m_copyYear m_copyRow m_tape m_textYear m_ruleMany m_ruleFrom m_codeRow m_stack m_ruleKind m_codes m_at m_read m_token m_sign m_begins m_ends m_bad m_badPlace m_top m_lineLives m_markRow m_quarterMany m_quarters m_isUp m_wasUp ++ fr) := by
  unfold g_X11_readPart_123 at hf
  refine j_iinc (v := x3 + 1) hX dX11_readPart_123 126 rfl 2 rfl rfl (by decide) (lv' := [(3, .int (x3 + 1)), (0, .ref (gm G 0)), (2, .int x2)]) rfl ?_
  refine j_goto hX dX11_readPart_126 102 rfl ?_
  refine j_sub [1, 2, 0] rfl ?_
  exact hk102 x2 (x3 + 1) m_codeRow m_codes m_at m_token m_sign m_begins m_ends m_bad m_badPlace hf
def g_X11_readPart_102 (fu : Nat) (m_texts : Int32) (m_tape : Nat → Int32) (m_read : Int32) (m_codeRow : Nat → Int32) (m_codes : Int32) (m_at : Int32) (m_token : Int32) (m_sign : Int32) (m_begins : Int32) (m_ends : Int32) (m_bad : Int32) (m_badPlace : Int32) (k102 : Int32 → Int32 → (Nat → Int32) → Int32 → Int32 → Int32 → Int32 → Int32 → Int32 → Int32 → Int32 → Option ((Nat → Int32) × Int32 × Int32 × Int32 × Int32 × Int32 × Int32 × Int32 × Int32)) (x2 : Int32) (x3 : Int32) : Option ((Nat → Int32) × Int32 × Int32 × Int32 × Int32 × Int32 × Int32 × Int32 × Int32) :=
  if 8 ≤ x3 then if x2 = ((-1)) then (f_X11_wrong m_begins m_bad m_badPlace 3).bind fun v18 => g_X11_readPart_139 fu m_texts m_tape m_read m_codeRow m_codes m_at m_token m_sign m_begins m_ends v18.1 v18.2 x2 else g_X11_readPart_139 fu m_texts m_tape m_read m_codeRow m_codes m_at m_token m_sign m_begins m_ends m_bad m_badPlace x2 else if inb x3 8 = true then (f_X11_isWord fu m_tape m_token m_begins m_ends (24 + Int32.toNatClampNeg x3)).bind fun v20 => if v20 = 0 then g_X11_readPart_123 m_codeRow m_codes m_at m_token m_sign m_begins m_ends m_bad m_badPlace k102 x2 x3 else g_X11_readPart_123 m_codeRow m_codes m_at m_token m_sign m_begins m_ends m_bad m_badPlace k102 x3 x3 else none
set_option maxRecDepth 100000 in
set_option maxHeartbeats 4000000 in
theorem t_X11_readPart_102 {fu : Nat} {Y : YT} {r : (Nat → Int32) × Int32 × Int32 × Int32 × Int32 × Int32 × Int32 × Int32 × Int32} {k102 : Int32 → Int32 → (Nat → Int32) → Int32 → Int32 → Int32 → Int32 → Int32 → Int32 → Int32 → Int32 → Option ((Nat → Int32) × Int32 × Int32 × Int32 × Int32 × Int32 × Int32 × Int32 × Int32)} (hX : CX l G cX11_readPart 4 RX11 Y) (hQ : EQv G Y 0 0 (WM G m_code m_people m_grants m_texts m_copies m_taped m_faultPlace m_isFemale m_born m_died m_father m_mother m_fatherGrade m_motherGrade m_grantTo m_grantArms m_grantYear m_copyYear m_copyRow m_tape m_textYear m_ruleMany m_ruleFrom r.1 m_stack m_ruleKind r.2.1 r.2.2.1 m_read r.2.2.2.1 r.2.2.2.2.1 r.2.2.2.2.2.1 r.2.2.2.2.2.2.1 r.2.2.2.2.2.2.2.1 r.2.2.2.2.2.2.2.2 m_top m_lineLives m_markRow m_quarterMany m_quarters m_isUp m_wasUp ++ fr)) {dk : Nat} {ke : Int32 → (Nat → Int32) → Int32 → Int32 → Int32 → Int32 → Int32 → Int32 → Int32 → Int32 → Option ((Nat → Int32) × Int32 × Int32 × Int32 × Int32 × Int32 × Int32 × Int32 × Int32)} (hke : ∀ (x1 : Int32) (m_codeRow : Nat → Int32) (m_codes : Int32) (m_at : Int32) (m_token : Int32) (m_sign : Int32) (m_begins : Int32) (m_ends : Int32) (m_bad : Int32) (m_badPlace : Int32) (r : (Nat → Int32) × Int32 × Int32 × Int32 × Int32 × Int32 × Int32 × Int32 × Int32), ke x1 m_codeRow m_codes m_at m_token m_sign m_begins m_ends m_bad m_badPlace = some r → Cv l G dk 0 0 yX11_readExpression cX11_readExpression 4 [.ref (gm G 0), .int x1] (WM G m_code m_people m_grants m_texts m_copies m_taped m_faultPlace m_isFemale m_born m_died m_father m_mother m_fatherGrade m_motherGrade m_grantTo m_grantArms m_grantYear m_copyYear m_copyRow m_tape m_textYear m_ruleMany m_ruleFrom m_codeRow m_stack m_ruleKind m_codes m_at m_read m_token m_sign m_begins m_ends m_bad m_badPlace m_top m_lineLives m_markRow m_quarterMany m_quarters m_isUp m_wasUp ++ fr) (WM G m_code m_people m_grants m_texts m_copies m_taped m_faultPlace m_isFemale m_born m_died m_father m_mother m_fatherGrade m_motherGrade m_grantTo m_grantArms m_grantYear m_copyYear m_copyRow m_tape m_textYear m_ruleMany m_ruleFrom r.1 m_stack m_ruleKind r.2.1 r.2.2.1 m_read r.2.2.2.1 r.2.2.2.2.1 r.2.2.2.2.2.1 r.2.2.2.2.2.2.1 r.2.2.2.2.2.2.2.1 r.2.2.2.2.2.2.2.2 m_top m_lineLives m_markRow m_quarterMany m_quarters m_isUp m_wasUp ++ fr)) (hdk : 10 ≤ dk) (hk102 : ∀ (x2 : Int32) (x3 : Int32) (m_codeRow : Nat → Int32) (m_codes : Int32) (m_at : Int32) (m_token : Int32) (m_sign : Int32) (m_begins : Int32) (m_ends : Int32) (m_bad : Int32) (m_badPlace : Int32), k102 x2 x3 m_codeRow m_codes m_at m_token m_sign m_begins m_ends m_bad m_badPlace = some r → J l G (rmD (dk + 1) 0 0) Y 0 0 102 [(0, .ref (gm G 0)), (2, .int x2), (3, .int x3)] [] (WM G m_code m_people m_grants m_texts m_copies m_taped m_faultPlace m_isFemale m_born m_died m_father m_mother m_fatherGrade m_motherGrade m_grantTo m_grantArms m_grantYear m_copyYear m_copyRow m_tape m_textYear m_ruleMany m_ruleFrom m_codeRow m_stack m_ruleKind m_codes m_at m_read m_token m_sign m_begins m_ends m_bad m_badPlace m_top m_lineLives m_markRow m_quarterMany m_quarters m_isUp m_wasUp ++ fr)) (x2 : Int32) (x3 : Int32) (hf : g_X11_readPart_102 fu m_texts m_tape m_read m_codeRow m_codes m_at m_token m_sign m_begins m_ends m_bad m_badPlace k102 x2 x3 = some r) : J l G (rmD (dk + 1) 0 0) Y 0 0 102 [(0, .ref (gm G 0)), (2, .int x2), (3, .int x3)] [] (WM G m_code m_people m_grants m_texts m_copies m_taped m_faultPlace m_isFemale m_born m_died m_father m_mother m_fatherGrade m_motherGrade m_grantTo m_grantArms m_grantYear m_copyYear m_copyRow m_tape m_textYear m_ruleMany m_ruleFrom m_codeRow m_stack m_ruleKind m_codes m_at m_read m_token m_sign m_begins m_ends m_bad m_badPlace m_top m_lineLives m_markRow m_quarterMany m_quarters m_isUp m_wasUp ++ fr) := by
  unfold g_X11_readPart_102 at hf
  refine j_iload_n hX dX11_readPart_102 103 rfl 2 rfl rfl ?_
  refine j_bipush (v := 8) hX dX11_readPart_103 105 rfl (by decide) ?_
  refine j_icmp_ge hX dX11_readPart_105 108 129 rfl rfl (fun h15 => ?_) (fun h15 => ?_)
  · replace hf := itt h15 hf
    refine j_iload_n hX dX11_readPart_129 130 rfl 1 rfl rfl ?_
    refine j_iconst (v := (-1)) hX dX11_readPart_130 131 rfl (by decide) ?_
    refine j_icmp_ne hX dX11_readPart_131 134 139 rfl rfl (fun h16 => ?_) (fun h16 => ?_)
    · replace hf := itf h16 hf
      refine j_sub [0, 1] rfl ?_
      exact t_X11_readPart_139 hX hQ hke hdk  x2 hf
    · replace hf := itt h16 hf
      refine j_aload_n hX dX11_readPart_134 135 rfl 0 rfl rfl ?_
      refine j_iconst (v := 3) hX dX11_readPart_135 136 rfl (by decide) ?_
      obtain ⟨v18, hv18, hf⟩ := ibd hf
      refine z_v (As := [.int 3]) (rest := []) (q0 := 0) hX dX11_readPart_136 139 rfl (t_X11_wrong 3 hv18) mc_X11_wrong mv_X11_wrong ml_X11_259 rfl rfl (by omega) (Nat.le_refl _) (Nat.le_refl _) rfl (Nat.le_of_ble_eq_true rfl) ?_
      refine j_sub [0, 1] rfl ?_
      exact t_X11_readPart_139 hX hQ hke hdk  x2 hf
  · replace hf := itf h15 hf
    refine j_aload_n hX dX11_readPart_108 109 rfl 0 rfl rfl ?_
    refine j_aload_n hX dX11_readPart_109 110 rfl 0 rfl rfl ?_
    refine j_get hX dX11_readPart_110 113 rfl fg_X11_25 0 rfl rfl ?_
    refine j_iload_n hX dX11_readPart_113 114 rfl 2 rfl rfl ?_
    obtain ⟨hb19, hf⟩ := ign hf
    refine j_sald hX dX11_readPart_114 115 rfl 1 rfl hb19 ?_
    obtain ⟨v20, hv20, hf⟩ := ibd hf
    refine z_i (As := [.ref (gsk G (24 + Int32.toNatClampNeg x3))]) (rest := []) (q0 := 0) hX dX11_readPart_115 118 rfl (t_X11_isWord (24 + Int32.toNatClampNeg x3) hv20) mc_X11_isWord mv_X11_isWord ml_X11_251 rfl rfl (by omega) (Nat.le_refl _) (Nat.le_refl _) rfl (Nat.le_of_ble_eq_true rfl) ?_
    refine j_if_eq hX dX11_readPart_118 121 123 rfl rfl (fun h21 => ?_) (fun h21 => ?_)
    · replace hf := itt h21 hf
      exact t_X11_readPart_123 hX hQ hke hdk hk102 x2 x3 hf
    · replace hf := itf h21 hf
      refine j_iload_n hX dX11_readPart_121 122 rfl 2 rfl rfl ?_
      refine j_istore_n hX dX11_readPart_122 123 rfl rfl (by decide) (lv' := [(2, .int x3), (0, .ref (gm G 0)), (3, .int x3)]) rfl ?_
      refine j_sub [1, 0, 2] rfl ?_
      exact t_X11_readPart_123 hX hQ hke hdk hk102 x3 x3 hf
def f_X11_readPart_102 (fu : Nat) (m_texts : Int32) (m_tape : Nat → Int32) (m_read : Int32) : Nat → (Int32 × Int32 × (Nat → Int32) × Int32 × Int32 × Int32 × Int32 × Int32 × Int32 × Int32 × Int32) → Option ((Nat → Int32) × Int32 × Int32 × Int32 × Int32 × Int32 × Int32 × Int32 × Int32) :=
  lp (fun k v => g_X11_readPart_102 fu m_texts m_tape m_read v.2.2.1 v.2.2.2.1 v.2.2.2.2.1 v.2.2.2.2.2.1 v.2.2.2.2.2.2.1 v.2.2.2.2.2.2.2.1 v.2.2.2.2.2.2.2.2.1 v.2.2.2.2.2.2.2.2.2.1 v.2.2.2.2.2.2.2.2.2.2 (fun x2 x3 m_codeRow m_codes m_at m_token m_sign m_begins m_ends m_bad m_badPlace => k (x2, x3, m_codeRow, m_codes, m_at, m_token, m_sign, m_begins, m_ends, m_bad, m_badPlace)) v.1 v.2.1)
set_option maxRecDepth 100000 in
set_option maxHeartbeats 4000000 in
theorem u_X11_readPart_102 {fu : Nat} {Y : YT} {r : (Nat → Int32) × Int32 × Int32 × Int32 × Int32 × Int32 × Int32 × Int32 × Int32}  (hX : CX l G cX11_readPart 4 RX11 Y) (hQ : EQv G Y 0 0 (WM G m_code m_people m_grants m_texts m_copies m_taped m_faultPlace m_isFemale m_born m_died m_father m_mother m_fatherGrade m_motherGrade m_grantTo m_grantArms m_grantYear m_copyYear m_copyRow m_tape m_textYear m_ruleMany m_ruleFrom r.1 m_stack m_ruleKind r.2.1 r.2.2.1 m_read r.2.2.2.1 r.2.2.2.2.1 r.2.2.2.2.2.1 r.2.2.2.2.2.2.1 r.2.2.2.2.2.2.2.1 r.2.2.2.2.2.2.2.2 m_top m_lineLives m_markRow m_quarterMany m_quarters m_isUp m_wasUp ++ fr)) {dk : Nat} {ke : Int32 → (Nat → Int32) → Int32 → Int32 → Int32 → Int32 → Int32 → Int32 → Int32 → Int32 → Option ((Nat → Int32) × Int32 × Int32 × Int32 × Int32 × Int32 × Int32 × Int32 × Int32)} (hke : ∀ (x1 : Int32) (m_codeRow : Nat → Int32) (m_codes : Int32) (m_at : Int32) (m_token : Int32) (m_sign : Int32) (m_begins : Int32) (m_ends : Int32) (m_bad : Int32) (m_badPlace : Int32) (r : (Nat → Int32) × Int32 × Int32 × Int32 × Int32 × Int32 × Int32 × Int32 × Int32), ke x1 m_codeRow m_codes m_at m_token m_sign m_begins m_ends m_bad m_badPlace = some r → Cv l G dk 0 0 yX11_readExpression cX11_readExpression 4 [.ref (gm G 0), .int x1] (WM G m_code m_people m_grants m_texts m_copies m_taped m_faultPlace m_isFemale m_born m_died m_father m_mother m_fatherGrade m_motherGrade m_grantTo m_grantArms m_grantYear m_copyYear m_copyRow m_tape m_textYear m_ruleMany m_ruleFrom m_codeRow m_stack m_ruleKind m_codes m_at m_read m_token m_sign m_begins m_ends m_bad m_badPlace m_top m_lineLives m_markRow m_quarterMany m_quarters m_isUp m_wasUp ++ fr) (WM G m_code m_people m_grants m_texts m_copies m_taped m_faultPlace m_isFemale m_born m_died m_father m_mother m_fatherGrade m_motherGrade m_grantTo m_grantArms m_grantYear m_copyYear m_copyRow m_tape m_textYear m_ruleMany m_ruleFrom r.1 m_stack m_ruleKind r.2.1 r.2.2.1 m_read r.2.2.2.1 r.2.2.2.2.1 r.2.2.2.2.2.1 r.2.2.2.2.2.2.1 r.2.2.2.2.2.2.2.1 r.2.2.2.2.2.2.2.2 m_top m_lineLives m_markRow m_quarterMany m_quarters m_isUp m_wasUp ++ fr)) (hdk : 10 ≤ dk)  (n : Nat) (v : Int32 × Int32 × (Nat → Int32) × Int32 × Int32 × Int32 × Int32 × Int32 × Int32 × Int32 × Int32) (hf : f_X11_readPart_102 fu m_texts m_tape m_read n v = some r) : J l G (rmD (dk + 1) 0 0) Y 0 0 102 [(0, .ref (gm G 0)), (2, .int v.1), (3, .int v.2.1)] [] (WM G m_code m_people m_grants m_texts m_copies m_taped m_faultPlace m_isFemale m_born m_died m_father m_mother m_fatherGrade m_motherGrade m_grantTo m_grantArms m_grantYear m_copyYear m_copyRow m_tape m_textYear m_ruleMany m_ruleFrom v.2.2.1 m_stack m_ruleKind v.2.2.2.1 v.2.2.2.2.1 m_read v.2.2.2.2.2.1 v.2.2.2.2.2.2.1 v.2.2.2.2.2.2.2.1 v.2.2.2.2.2.2.2.2.1 v.2.2.2.2.2.2.2.2.2.1 v.2.2.2.2.2.2.2.2.2.2 m_top m_lineLives m_markRow m_quarterMany m_quarters m_isUp m_wasUp ++ fr) :=
  lp_ind (P := fun v : Int32 × Int32 × (Nat → Int32) × Int32 × Int32 × Int32 × Int32 × Int32 × Int32 × Int32 × Int32 => J l G (rmD (dk + 1) 0 0) Y 0 0 102 [(0, .ref (gm G 0)), (2, .int v.1), (3, .int v.2.1)] [] (WM G m_code m_people m_grants m_texts m_copies m_taped m_faultPlace m_isFemale m_born m_died m_father m_mother m_fatherGrade m_motherGrade m_grantTo m_grantArms m_grantYear m_copyYear m_copyRow m_tape m_textYear m_ruleMany m_ruleFrom v.2.2.1 m_stack m_ruleKind v.2.2.2.1 v.2.2.2.2.1 m_read v.2.2.2.2.2.1 v.2.2.2.2.2.2.1 v.2.2.2.2.2.2.2.1 v.2.2.2.2.2.2.2.2.1 v.2.2.2.2.2.2.2.2.2.1 v.2.2.2.2.2.2.2.2.2.2 m_top m_lineLives m_markRow m_quarterMany m_quarters m_isUp m_wasUp ++ fr)) (fun k hk v hf => t_X11_readPart_102 hX hQ hke hdk  (fun x2 x3 m_codeRow m_codes m_at m_token m_sign m_begins m_ends m_bad m_badPlace h => hk (x2, x3, m_codeRow, m_codes, m_at, m_token, m_sign, m_begins, m_ends, m_bad, m_badPlace) h) v.1 v.2.1 hf) n v hf
def g_X11_readPart_77 (fu : Nat) (m_texts : Int32) (m_tape : Nat → Int32) (m_read : Int32) (m_codeRow : Nat → Int32) (m_codes : Int32) (m_at : Int32) (m_token : Int32) (m_sign : Int32) (m_begins : Int32) (m_ends : Int32) (m_bad : Int32) (m_badPlace : Int32) (x2 : Int32) : Option ((Nat → Int32) × Int32 × Int32 × Int32 × Int32 × Int32 × Int32 × Int32 × Int32) :=
  (f_X11_emit m_texts m_bad m_codeRow m_codes 0).bind fun v24 => (f_X11_emit m_texts m_bad v24.1 v24.2 x2).bind fun v25 => g_X11_readPart_199 fu m_tape m_read v25.1 v25.2 m_at m_token m_sign m_begins m_ends m_bad m_badPlace
set_option maxRecDepth 100000 in
set_option maxHeartbeats 4000000 in
theorem t_X11_readPart_77 {fu : Nat} {Y : YT} {r : (Nat → Int32) × Int32 × Int32 × Int32 × Int32 × Int32 × Int32 × Int32 × Int32}  (hX : CX l G cX11_readPart 4 RX11 Y) (hQ : EQv G Y 0 0 (WM G m_code m_people m_grants m_texts m_copies m_taped m_faultPlace m_isFemale m_born m_died m_father m_mother m_fatherGrade m_motherGrade m_grantTo m_grantArms m_grantYear m_copyYear m_copyRow m_tape m_textYear m_ruleMany m_ruleFrom r.1 m_stack m_ruleKind r.2.1 r.2.2.1 m_read r.2.2.2.1 r.2.2.2.2.1 r.2.2.2.2.2.1 r.2.2.2.2.2.2.1 r.2.2.2.2.2.2.2.1 r.2.2.2.2.2.2.2.2 m_top m_lineLives m_markRow m_quarterMany m_quarters m_isUp m_wasUp ++ fr)) {dk : Nat} {ke : Int32 → (Nat → Int32) → Int32 → Int32 → Int32 → Int32 → Int32 → Int32 → Int32 → Int32 → Option ((Nat → Int32) × Int32 × Int32 × Int32 × Int32 × Int32 × Int32 × Int32 × Int32)} (hke : ∀ (x1 : Int32) (m_codeRow : Nat → Int32) (m_codes : Int32) (m_at : Int32) (m_token : Int32) (m_sign : Int32) (m_begins : Int32) (m_ends : Int32) (m_bad : Int32) (m_badPlace : Int32) (r : (Nat → Int32) × Int32 × Int32 × Int32 × Int32 × Int32 × Int32 × Int32 × Int32), ke x1 m_codeRow m_codes m_at m_token m_sign m_begins m_ends m_bad m_badPlace = some r → Cv l G dk 0 0 yX11_readExpression cX11_readExpression 4 [.ref (gm G 0), .int x1] (WM G m_code m_people m_grants m_texts m_copies m_taped m_faultPlace m_isFemale m_born m_died m_father m_mother m_fatherGrade m_motherGrade m_grantTo m_grantArms m_grantYear m_copyYear m_copyRow m_tape m_textYear m_ruleMany m_ruleFrom m_codeRow m_stack m_ruleKind m_codes m_at m_read m_token m_sign m_begins m_ends m_bad m_badPlace m_top m_lineLives m_markRow m_quarterMany m_quarters m_isUp m_wasUp ++ fr) (WM G m_code m_people m_grants m_texts m_copies m_taped m_faultPlace m_isFemale m_born m_died m_father m_mother m_fatherGrade m_motherGrade m_grantTo m_grantArms m_grantYear m_copyYear m_copyRow m_tape m_textYear m_ruleMany m_ruleFrom r.1 m_stack m_ruleKind r.2.1 r.2.2.1 m_read r.2.2.2.1 r.2.2.2.2.1 r.2.2.2.2.2.1 r.2.2.2.2.2.2.1 r.2.2.2.2.2.2.2.1 r.2.2.2.2.2.2.2.2 m_top m_lineLives m_markRow m_quarterMany m_quarters m_isUp m_wasUp ++ fr)) (hdk : 10 ≤ dk)  (x2 : Int32) (hf : g_X11_readPart_77 fu m_texts m_tape m_read m_codeRow m_codes m_at m_token m_sign m_begins m_ends m_bad m_badPlace x2 = some r) : J l G (rmD (dk + 1) 0 0) Y 0 0 77 [(0, .ref (gm G 0)), (2, .int x2)] [] (WM G m_code m_people m_grants m_texts m_copies m_taped m_faultPlace m_isFemale m_born m_died m_father m_mother m_fatherGrade m_motherGrade m_grantTo m_grantArms m_grantYear m_copyYear m_copyRow m_tape m_textYear m_ruleMany m_ruleFrom m_codeRow m_stack m_ruleKind m_codes m_at m_read m_token m_sign m_begins m_ends m_bad m_badPlace m_top m_lineLives m_markRow m_quarterMany m_quarters m_isUp m_wasUp ++ fr) := by
  unfold g_X11_readPart_77 at hf
  refine j_aload_n hX dX11_readPart_77 78 rfl 0 rfl rfl ?_
  refine j_iconst (v := 0) hX dX11_readPart_78 79 rfl (by decide) ?_
  obtain ⟨v24, hv24, hf⟩ := ibd hf
  refine z_v (As := [.int 0]) (rest := []) (q0 := 0) hX dX11_readPart_79 82 rfl (t_X11_emit 0 hv24) mc_X11_emit mv_X11_emit ml_X11_275 rfl rfl (by omega) (Nat.le_refl _) (Nat.le_refl _) rfl (Nat.le_of_ble_eq_true rfl) ?_
  refine j_aload_n hX dX11_readPart_82 83 rfl 0 rfl rfl ?_
  refine j_iload_n hX dX11_readPart_83 84 rfl 1 rfl rfl ?_
  obtain ⟨v25, hv25, hf⟩ := ibd hf
  refine z_v (As := [.int x2]) (rest := []) (q0 := 0) hX dX11_readPart_84 87 rfl (t_X11_emit x2 hv25) mc_X11_emit mv_X11_emit ml_X11_275 rfl rfl (by omega) (Nat.le_refl _) (Nat.le_refl _) rfl (Nat.le_of_ble_eq_true rfl) ?_
  refine j_goto hX dX11_readPart_87 199 rfl ?_
  refine j_sub [0] rfl ?_
  exact t_X11_readPart_199 hX hQ hke hdk   hf
def g_X11_readPart_41 (fu : Nat) (m_texts : Int32) (m_tape : Nat → Int32) (m_read : Int32) (m_codeRow : Nat → Int32) (m_codes : Int32) (m_at : Int32) (m_token : Int32) (m_sign : Int32) (m_begins : Int32) (m_ends : Int32) (m_bad : Int32) (m_badPlace : Int32) (k41 : Int32 → Int32 → (Nat → Int32) → Int32 → Int32 → Int32 → Int32 → Int32 → Int32 → Int32 → Int32 → Option ((Nat → Int32) × Int32 × Int32 × Int32 × Int32 × Int32 × Int32 × Int32 × Int32)) (x2 : Int32) (x3 : Int32) : Option ((Nat → Int32) × Int32 × Int32 × Int32 × Int32 × Int32 × Int32 × Int32 × Int32) :=
  if m_ends ≤ x3 then g_X11_readPart_77 fu m_texts m_tape m_read m_codeRow m_codes m_at m_token m_sign m_begins m_ends m_bad m_badPlace x2 else if m_bad = 0 then if inb x3 400 = true then k41 (((10 * x2) + (m_tape (Int32.toNatClampNeg x3))) - 48) (x3 + 1) m_codeRow m_codes m_at m_token m_sign m_begins m_ends m_bad m_badPlace else none else g_X11_readPart_77 fu m_texts m_tape m_read m_codeRow m_codes m_at m_token m_sign m_begins m_ends m_bad m_badPlace x2
set_option maxRecDepth 100000 in
set_option maxHeartbeats 4000000 in
theorem t_X11_readPart_41 {fu : Nat} {Y : YT} {r : (Nat → Int32) × Int32 × Int32 × Int32 × Int32 × Int32 × Int32 × Int32 × Int32} {k41 : Int32 → Int32 → (Nat → Int32) → Int32 → Int32 → Int32 → Int32 → Int32 → Int32 → Int32 → Int32 → Option ((Nat → Int32) × Int32 × Int32 × Int32 × Int32 × Int32 × Int32 × Int32 × Int32)} (hX : CX l G cX11_readPart 4 RX11 Y) (hQ : EQv G Y 0 0 (WM G m_code m_people m_grants m_texts m_copies m_taped m_faultPlace m_isFemale m_born m_died m_father m_mother m_fatherGrade m_motherGrade m_grantTo m_grantArms m_grantYear m_copyYear m_copyRow m_tape m_textYear m_ruleMany m_ruleFrom r.1 m_stack m_ruleKind r.2.1 r.2.2.1 m_read r.2.2.2.1 r.2.2.2.2.1 r.2.2.2.2.2.1 r.2.2.2.2.2.2.1 r.2.2.2.2.2.2.2.1 r.2.2.2.2.2.2.2.2 m_top m_lineLives m_markRow m_quarterMany m_quarters m_isUp m_wasUp ++ fr)) {dk : Nat} {ke : Int32 → (Nat → Int32) → Int32 → Int32 → Int32 → Int32 → Int32 → Int32 → Int32 → Int32 → Option ((Nat → Int32) × Int32 × Int32 × Int32 × Int32 × Int32 × Int32 × Int32 × Int32)} (hke : ∀ (x1 : Int32) (m_codeRow : Nat → Int32) (m_codes : Int32) (m_at : Int32) (m_token : Int32) (m_sign : Int32) (m_begins : Int32) (m_ends : Int32) (m_bad : Int32) (m_badPlace : Int32) (r : (Nat → Int32) × Int32 × Int32 × Int32 × Int32 × Int32 × Int32 × Int32 × Int32), ke x1 m_codeRow m_codes m_at m_token m_sign m_begins m_ends m_bad m_badPlace = some r → Cv l G dk 0 0 yX11_readExpression cX11_readExpression 4 [.ref (gm G 0), .int x1] (WM G m_code m_people m_grants m_texts m_copies m_taped m_faultPlace m_isFemale m_born m_died m_father m_mother m_fatherGrade m_motherGrade m_grantTo m_grantArms m_grantYear m_copyYear m_copyRow m_tape m_textYear m_ruleMany m_ruleFrom m_codeRow m_stack m_ruleKind m_codes m_at m_read m_token m_sign m_begins m_ends m_bad m_badPlace m_top m_lineLives m_markRow m_quarterMany m_quarters m_isUp m_wasUp ++ fr) (WM G m_code m_people m_grants m_texts m_copies m_taped m_faultPlace m_isFemale m_born m_died m_father m_mother m_fatherGrade m_motherGrade m_grantTo m_grantArms m_grantYear m_copyYear m_copyRow m_tape m_textYear m_ruleMany m_ruleFrom r.1 m_stack m_ruleKind r.2.1 r.2.2.1 m_read r.2.2.2.1 r.2.2.2.2.1 r.2.2.2.2.2.1 r.2.2.2.2.2.2.1 r.2.2.2.2.2.2.2.1 r.2.2.2.2.2.2.2.2 m_top m_lineLives m_markRow m_quarterMany m_quarters m_isUp m_wasUp ++ fr)) (hdk : 10 ≤ dk) (hk41 : ∀ (x2 : Int32) (x3 : Int32) (m_codeRow : Nat → Int32) (m_codes : Int32) (m_at : Int32) (m_token : Int32) (m_sign : Int32) (m_begins : Int32) (m_ends : Int32) (m_bad : Int32) (m_badPlace : Int32), k41 x2 x3 m_codeRow m_codes m_at m_token m_sign m_begins m_ends m_bad m_badPlace = some r → J l G (rmD (dk + 1) 0 0) Y 0 0 41 [(0, .ref (gm G 0)), (2, .int x2), (3, .int x3)] [] (WM G m_code m_people m_grants m_texts m_copies m_taped m_faultPlace m_isFemale m_born m_died m_father m_mother m_fatherGrade m_motherGrade m_grantTo m_grantArms m_grantYear m_copyYear m_copyRow m_tape m_textYear m_ruleMany m_ruleFrom m_codeRow m_stack m_ruleKind m_codes m_at m_read m_token m_sign m_begins m_ends m_bad m_badPlace m_top m_lineLives m_markRow m_quarterMany m_quarters m_isUp m_wasUp ++ fr)) (x2 : Int32) (x3 : Int32) (hf : g_X11_readPart_41 fu m_texts m_tape m_read m_codeRow m_codes m_at m_token m_sign m_begins m_ends m_bad m_badPlace k41 x2 x3 = some r) : J l G (rmD (dk + 1) 0 0) Y 0 0 41 [(0, .ref (gm G 0)), (2, .int x2), (3, .int x3)] [] (WM G m_code m_people m_grants m_texts m_copies m_taped m_faultPlace m_isFemale m_born m_died m_father m_mother m_fatherGrade m_motherGrade m_grantTo m_grantArms m_grantYear m_copyYear m_copyRow m_tape m_textYear m_ruleMany m_ruleFrom m_codeRow m_stack m_ruleKind m_codes m_at m_read m_token m_sign m_begins m_ends m_bad m_badPlace m_top m_lineLives m_markRow m_quarterMany m_quarters m_isUp m_wasUp ++ fr) := by
  unfold g_X11_readPart_41 at hf
  refine j_iload_n hX dX11_readPart_41 42 rfl 2 rfl rfl ?_
  refine j_aload_n hX dX11_readPart_42 43 rfl 0 rfl rfl ?_
  refine j_get hX dX11_readPart_43 46 rfl fg_X11_224 0 rfl rfl ?_
  refine j_icmp_ge hX dX11_readPart_46 49 77 rfl rfl (fun h23 => ?_) (fun h23 => ?_)
  · replace hf := itt h23 hf
    refine j_sub [0, 1] rfl ?_
    exact t_X11_readPart_77 hX hQ hke hdk  x2 hf
  · replace hf := itf h23 hf
    refine j_aload_n hX dX11_readPart_49 50 rfl 0 rfl rfl ?_
    refine j_get hX dX11_readPart_50 53 rfl fg_X11_234 0 rfl rfl ?_
    refine j_if_ne hX dX11_readPart_53 56 77 rfl rfl (fun h26 => ?_) (fun h26 => ?_)
    · replace hf := itf h26 hf
      refine j_sub [0, 1] rfl ?_
      exact t_X11_readPart_77 hX hQ hke hdk  x2 hf
    · replace hf := itt h26 hf
      refine j_bipush (v := 10) hX dX11_readPart_56 58 rfl (by decide) ?_
      refine j_iload_n hX dX11_readPart_58 59 rfl 1 rfl rfl ?_
      refine j_imul hX dX11_readPart_59 60 rfl ?_
      refine j_aload_n hX dX11_readPart_60 61 rfl 0 rfl rfl ?_
      refine j_get hX dX11_readPart_61 64 rfl fg_X11_72 0 rfl rfl ?_
      refine j_iload_n hX dX11_readPart_64 65 rfl 2 rfl rfl ?_
      obtain ⟨hb27, hf⟩ := ign hf
      refine j_iald hX dX11_readPart_65 66 rfl 14 rfl hb27 ?_
      refine j_iadd hX dX11_readPart_66 67 rfl ?_
      refine j_bipush (v := 48) hX dX11_readPart_67 69 rfl (by decide) ?_
      refine j_isub hX dX11_readPart_69 70 rfl ?_
      refine j_istore_n hX dX11_readPart_70 71 rfl rfl (by decide) (lv' := [(2, .int (((10 * x2) + (m_tape (Int32.toNatClampNeg x3))) - 48)), (0, .ref (gm G 0)), (3, .int x3)]) rfl ?_
      refine j_iinc (v := x3 + 1) hX dX11_readPart_71 74 rfl 2 rfl rfl (by decide) (lv' := [(3, .int (x3 + 1)), (2, .int (((10 * x2) + (m_tape (Int32.toNatClampNeg x3))) - 48)), (0, .ref (gm G 0))]) rfl ?_
      refine j_goto hX dX11_readPart_74 41 rfl ?_
      refine j_sub [2, 1, 0] rfl ?_
      exact hk41 (((10 * x2) + (m_tape (Int32.toNatClampNeg x3))) - 48) (x3 + 1) m_codeRow m_codes m_at m_token m_sign m_begins m_ends m_bad m_badPlace hf
def f_X11_readPart_41 (fu : Nat) (m_texts : Int32) (m_tape : Nat → Int32) (m_read : Int32) : Nat → (Int32 × Int32 × (Nat → Int32) × Int32 × Int32 × Int32 × Int32 × Int32 × Int32 × Int32 × Int32) → Option ((Nat → Int32) × Int32 × Int32 × Int32 × Int32 × Int32 × Int32 × Int32 × Int32) :=
  lp (fun k v => g_X11_readPart_41 fu m_texts m_tape m_read v.2.2.1 v.2.2.2.1 v.2.2.2.2.1 v.2.2.2.2.2.1 v.2.2.2.2.2.2.1 v.2.2.2.2.2.2.2.1 v.2.2.2.2.2.2.2.2.1 v.2.2.2.2.2.2.2.2.2.1 v.2.2.2.2.2.2.2.2.2.2 (fun x2 x3 m_codeRow m_codes m_at m_token m_sign m_begins m_ends m_bad m_badPlace => k (x2, x3, m_codeRow, m_codes, m_at, m_token, m_sign, m_begins, m_ends, m_bad, m_badPlace)) v.1 v.2.1)
set_option maxRecDepth 100000 in
set_option maxHeartbeats 4000000 in
theorem u_X11_readPart_41 {fu : Nat} {Y : YT} {r : (Nat → Int32) × Int32 × Int32 × Int32 × Int32 × Int32 × Int32 × Int32 × Int32}  (hX : CX l G cX11_readPart 4 RX11 Y) (hQ : EQv G Y 0 0 (WM G m_code m_people m_grants m_texts m_copies m_taped m_faultPlace m_isFemale m_born m_died m_father m_mother m_fatherGrade m_motherGrade m_grantTo m_grantArms m_grantYear m_copyYear m_copyRow m_tape m_textYear m_ruleMany m_ruleFrom r.1 m_stack m_ruleKind r.2.1 r.2.2.1 m_read r.2.2.2.1 r.2.2.2.2.1 r.2.2.2.2.2.1 r.2.2.2.2.2.2.1 r.2.2.2.2.2.2.2.1 r.2.2.2.2.2.2.2.2 m_top m_lineLives m_markRow m_quarterMany m_quarters m_isUp m_wasUp ++ fr)) {dk : Nat} {ke : Int32 → (Nat → Int32) → Int32 → Int32 → Int32 → Int32 → Int32 → Int32 → Int32 → Int32 → Option ((Nat → Int32) × Int32 × Int32 × Int32 × Int32 × Int32 × Int32 × Int32 × Int32)} (hke : ∀ (x1 : Int32) (m_codeRow : Nat → Int32) (m_codes : Int32) (m_at : Int32) (m_token : Int32) (m_sign : Int32) (m_begins : Int32) (m_ends : Int32) (m_bad : Int32) (m_badPlace : Int32) (r : (Nat → Int32) × Int32 × Int32 × Int32 × Int32 × Int32 × Int32 × Int32 × Int32), ke x1 m_codeRow m_codes m_at m_token m_sign m_begins m_ends m_bad m_badPlace = some r → Cv l G dk 0 0 yX11_readExpression cX11_readExpression 4 [.ref (gm G 0), .int x1] (WM G m_code m_people m_grants m_texts m_copies m_taped m_faultPlace m_isFemale m_born m_died m_father m_mother m_fatherGrade m_motherGrade m_grantTo m_grantArms m_grantYear m_copyYear m_copyRow m_tape m_textYear m_ruleMany m_ruleFrom m_codeRow m_stack m_ruleKind m_codes m_at m_read m_token m_sign m_begins m_ends m_bad m_badPlace m_top m_lineLives m_markRow m_quarterMany m_quarters m_isUp m_wasUp ++ fr) (WM G m_code m_people m_grants m_texts m_copies m_taped m_faultPlace m_isFemale m_born m_died m_father m_mother m_fatherGrade m_motherGrade m_grantTo m_grantArms m_grantYear m_copyYear m_copyRow m_tape m_textYear m_ruleMany m_ruleFrom r.1 m_stack m_ruleKind r.2.1 r.2.2.1 m_read r.2.2.2.1 r.2.2.2.2.1 r.2.2.2.2.2.1 r.2.2.2.2.2.2.1 r.2.2.2.2.2.2.2.1 r.2.2.2.2.2.2.2.2 m_top m_lineLives m_markRow m_quarterMany m_quarters m_isUp m_wasUp ++ fr)) (hdk : 10 ≤ dk)  (n : Nat) (v : Int32 × Int32 × (Nat → Int32) × Int32 × Int32 × Int32 × Int32 × Int32 × Int32 × Int32 × Int32) (hf : f_X11_readPart_41 fu m_texts m_tape m_read n v = some r) : J l G (rmD (dk + 1) 0 0) Y 0 0 41 [(0, .ref (gm G 0)), (2, .int v.1), (3, .int v.2.1)] [] (WM G m_code m_people m_grants m_texts m_copies m_taped m_faultPlace m_isFemale m_born m_died m_father m_mother m_fatherGrade m_motherGrade m_grantTo m_grantArms m_grantYear m_copyYear m_copyRow m_tape m_textYear m_ruleMany m_ruleFrom v.2.2.1 m_stack m_ruleKind v.2.2.2.1 v.2.2.2.2.1 m_read v.2.2.2.2.2.1 v.2.2.2.2.2.2.1 v.2.2.2.2.2.2.2.1 v.2.2.2.2.2.2.2.2.1 v.2.2.2.2.2.2.2.2.2.1 v.2.2.2.2.2.2.2.2.2.2 m_top m_lineLives m_markRow m_quarterMany m_quarters m_isUp m_wasUp ++ fr) :=
  lp_ind (P := fun v : Int32 × Int32 × (Nat → Int32) × Int32 × Int32 × Int32 × Int32 × Int32 × Int32 × Int32 × Int32 => J l G (rmD (dk + 1) 0 0) Y 0 0 41 [(0, .ref (gm G 0)), (2, .int v.1), (3, .int v.2.1)] [] (WM G m_code m_people m_grants m_texts m_copies m_taped m_faultPlace m_isFemale m_born m_died m_father m_mother m_fatherGrade m_motherGrade m_grantTo m_grantArms m_grantYear m_copyYear m_copyRow m_tape m_textYear m_ruleMany m_ruleFrom v.2.2.1 m_stack m_ruleKind v.2.2.2.1 v.2.2.2.2.1 m_read v.2.2.2.2.2.1 v.2.2.2.2.2.2.1 v.2.2.2.2.2.2.2.1 v.2.2.2.2.2.2.2.2.1 v.2.2.2.2.2.2.2.2.2.1 v.2.2.2.2.2.2.2.2.2.2 m_top m_lineLives m_markRow m_quarterMany m_quarters m_isUp m_wasUp ++ fr)) (fun k hk v hf => t_X11_readPart_41 hX hQ hke hdk  (fun x2 x3 m_codeRow m_codes m_at m_token m_sign m_begins m_ends m_bad m_badPlace h => hk (x2, x3, m_codeRow, m_codes, m_at, m_token, m_sign, m_begins, m_ends, m_bad, m_badPlace) h) v.1 v.2.1 hf) n v hf
def g_X11_readPart_34 (fu : Nat) (m_texts : Int32) (m_tape : Nat → Int32) (m_read : Int32) (m_codeRow : Nat → Int32) (m_codes : Int32) (m_at : Int32) (m_token : Int32) (m_sign : Int32) (m_begins : Int32) (m_ends : Int32) (m_bad : Int32) (m_badPlace : Int32) : Option ((Nat → Int32) × Int32 × Int32 × Int32 × Int32 × Int32 × Int32 × Int32 × Int32) :=
  f_X11_readPart_41 fu m_texts m_tape m_read fu (0, m_begins, m_codeRow, m_codes, m_at, m_token, m_sign, m_begins, m_ends, m_bad, m_badPlace)
set_option maxRecDepth 100000 in
set_option maxHeartbeats 4000000 in
theorem t_X11_readPart_34 {fu : Nat} {Y : YT} {r : (Nat → Int32) × Int32 × Int32 × Int32 × Int32 × Int32 × Int32 × Int32 × Int32}  (hX : CX l G cX11_readPart 4 RX11 Y) (hQ : EQv G Y 0 0 (WM G m_code m_people m_grants m_texts m_copies m_taped m_faultPlace m_isFemale m_born m_died m_father m_mother m_fatherGrade m_motherGrade m_grantTo m_grantArms m_grantYear m_copyYear m_copyRow m_tape m_textYear m_ruleMany m_ruleFrom r.1 m_stack m_ruleKind r.2.1 r.2.2.1 m_read r.2.2.2.1 r.2.2.2.2.1 r.2.2.2.2.2.1 r.2.2.2.2.2.2.1 r.2.2.2.2.2.2.2.1 r.2.2.2.2.2.2.2.2 m_top m_lineLives m_markRow m_quarterMany m_quarters m_isUp m_wasUp ++ fr)) {dk : Nat} {ke : Int32 → (Nat → Int32) → Int32 → Int32 → Int32 → Int32 → Int32 → Int32 → Int32 → Int32 → Option ((Nat → Int32) × Int32 × Int32 × Int32 × Int32 × Int32 × Int32 × Int32 × Int32)} (hke : ∀ (x1 : Int32) (m_codeRow : Nat → Int32) (m_codes : Int32) (m_at : Int32) (m_token : Int32) (m_sign : Int32) (m_begins : Int32) (m_ends : Int32) (m_bad : Int32) (m_badPlace : Int32) (r : (Nat → Int32) × Int32 × Int32 × Int32 × Int32 × Int32 × Int32 × Int32 × Int32), ke x1 m_codeRow m_codes m_at m_token m_sign m_begins m_ends m_bad m_badPlace = some r → Cv l G dk 0 0 yX11_readExpression cX11_readExpression 4 [.ref (gm G 0), .int x1] (WM G m_code m_people m_grants m_texts m_copies m_taped m_faultPlace m_isFemale m_born m_died m_father m_mother m_fatherGrade m_motherGrade m_grantTo m_grantArms m_grantYear m_copyYear m_copyRow m_tape m_textYear m_ruleMany m_ruleFrom m_codeRow m_stack m_ruleKind m_codes m_at m_read m_token m_sign m_begins m_ends m_bad m_badPlace m_top m_lineLives m_markRow m_quarterMany m_quarters m_isUp m_wasUp ++ fr) (WM G m_code m_people m_grants m_texts m_copies m_taped m_faultPlace m_isFemale m_born m_died m_father m_mother m_fatherGrade m_motherGrade m_grantTo m_grantArms m_grantYear m_copyYear m_copyRow m_tape m_textYear m_ruleMany m_ruleFrom r.1 m_stack m_ruleKind r.2.1 r.2.2.1 m_read r.2.2.2.1 r.2.2.2.2.1 r.2.2.2.2.2.1 r.2.2.2.2.2.2.1 r.2.2.2.2.2.2.2.1 r.2.2.2.2.2.2.2.2 m_top m_lineLives m_markRow m_quarterMany m_quarters m_isUp m_wasUp ++ fr)) (hdk : 10 ≤ dk)   (hf : g_X11_readPart_34 fu m_texts m_tape m_read m_codeRow m_codes m_at m_token m_sign m_begins m_ends m_bad m_badPlace = some r) : J l G (rmD (dk + 1) 0 0) Y 0 0 34 [(0, .ref (gm G 0))] [] (WM G m_code m_people m_grants m_texts m_copies m_taped m_faultPlace m_isFemale m_born m_died m_father m_mother m_fatherGrade m_motherGrade m_grantTo m_grantArms m_grantYear m_copyYear m_copyRow m_tape m_textYear m_ruleMany m_ruleFrom m_codeRow m_stack m_ruleKind m_codes m_at m_read m_token m_sign m_begins m_ends m_bad m_badPlace m_top m_lineLives m_markRow m_quarterMany m_quarters m_isUp m_wasUp ++ fr) := by
  unfold g_X11_readPart_34 at hf
  refine j_iconst (v := 0) hX dX11_readPart_34 35 rfl (by decide) ?_
  refine j_istore_n hX dX11_readPart_35 36 rfl rfl (by decide) (lv' := [(2, .int 0), (0, .ref (gm G 0))]) rfl ?_
  refine j_aload_n hX dX11_readPart_36 37 rfl 1 rfl rfl ?_
  refine j_get hX dX11_readPart_37 40 rfl fg_X11_209 0 rfl rfl ?_
  refine j_istore_n hX dX11_readPart_40 41 rfl rfl (by decide) (lv' := [(3, .int m_begins), (2, .int 0), (0, .ref (gm G 0))]) rfl ?_
  refine j_sub [2, 1, 0] rfl ?_
  exact u_X11_readPart_41 hX hQ hke hdk  fu (0, m_begins, m_codeRow, m_codes, m_at, m_token, m_sign, m_begins, m_ends, m_bad, m_badPlace) hf
def f_X11_readPart (fu : Nat) (m_texts : Int32) (m_tape : Nat → Int32) (m_read : Int32) (m_codeRow : Nat → Int32) (m_codes : Int32) (m_at : Int32) (m_token : Int32) (m_sign : Int32) (m_begins : Int32) (m_ends : Int32) (m_bad : Int32) (m_badPlace : Int32) (ke : Int32 → (Nat → Int32) → Int32 → Int32 → Int32 → Int32 → Int32 → Int32 → Int32 → Int32 → Option ((Nat → Int32) × Int32 × Int32 × Int32 × Int32 × Int32 × Int32 × Int32 × Int32)) (x1 : Int32) : Option ((Nat → Int32) × Int32 × Int32 × Int32 × Int32 × Int32 × Int32 × Int32 × Int32) :=
  if m_bad = 0 then if m_token = 2 then if (m_ends - m_begins) ≤ 4 then g_X11_readPart_34 fu m_texts m_tape m_read m_codeRow m_codes m_at m_token m_sign m_begins m_ends m_bad m_badPlace else (f_X11_wrong m_begins m_bad m_badPlace 2).bind fun v28 => g_X11_readPart_34 fu m_texts m_tape m_read m_codeRow m_codes m_at m_token m_sign m_begins m_ends v28.1 v28.2 else if m_token = 1 then f_X11_readPart_102 fu m_texts m_tape m_read fu ((-1), 0, m_codeRow, m_codes, m_at, m_token, m_sign, m_begins, m_ends, m_bad, m_badPlace) else (f_X11_isSign m_token m_sign 40).bind fun v4 => if v4 = 0 then (f_X11_wrong m_begins m_bad m_badPlace 1).bind fun v6 => g_X11_readPart_199 fu m_tape m_read m_codeRow m_codes m_at m_token m_sign m_begins m_ends v6.1 v6.2 else (f_X11_step fu m_tape m_read m_at m_token m_sign m_begins m_ends).bind fun v9 => (ke (x1 + 1) m_codeRow m_codes v9.1 v9.2.1 v9.2.2.1 v9.2.2.2.1 v9.2.2.2.2 m_bad m_badPlace).bind fun v10 => if v10.2.2.2.2.2.2.2.1 = 0 then (f_X11_isSign v10.2.2.2.1 v10.2.2.2.2.1 41).bind fun v12 => if v12 = 0 then (f_X11_wrong v10.2.2.2.2.2.1 v10.2.2.2.2.2.2.2.1 v10.2.2.2.2.2.2.2.2 1).bind fun v14 => g_X11_readPart_199 fu m_tape m_read v10.1 v10.2.1 v10.2.2.1 v10.2.2.2.1 v10.2.2.2.2.1 v10.2.2.2.2.2.1 v10.2.2.2.2.2.2.1 v14.1 v14.2 else g_X11_readPart_199 fu m_tape m_read v10.1 v10.2.1 v10.2.2.1 v10.2.2.2.1 v10.2.2.2.2.1 v10.2.2.2.2.2.1 v10.2.2.2.2.2.2.1 v10.2.2.2.2.2.2.2.1 v10.2.2.2.2.2.2.2.2 else g_X11_readPart_199 fu m_tape m_read v10.1 v10.2.1 v10.2.2.1 v10.2.2.2.1 v10.2.2.2.2.1 v10.2.2.2.2.2.1 v10.2.2.2.2.2.2.1 v10.2.2.2.2.2.2.2.1 v10.2.2.2.2.2.2.2.2 else some (m_codeRow, m_codes, m_at, m_token, m_sign, m_begins, m_ends, m_bad, m_badPlace)
set_option maxRecDepth 100000 in
set_option maxHeartbeats 4000000 in
theorem t_X11_readPart {fu : Nat}  {dk : Nat} {ke : Int32 → (Nat → Int32) → Int32 → Int32 → Int32 → Int32 → Int32 → Int32 → Int32 → Int32 → Option ((Nat → Int32) × Int32 × Int32 × Int32 × Int32 × Int32 × Int32 × Int32 × Int32)} (hke : ∀ (x1 : Int32) (m_codeRow : Nat → Int32) (m_codes : Int32) (m_at : Int32) (m_token : Int32) (m_sign : Int32) (m_begins : Int32) (m_ends : Int32) (m_bad : Int32) (m_badPlace : Int32) (r : (Nat → Int32) × Int32 × Int32 × Int32 × Int32 × Int32 × Int32 × Int32 × Int32), ke x1 m_codeRow m_codes m_at m_token m_sign m_begins m_ends m_bad m_badPlace = some r → Cv l G dk 0 0 yX11_readExpression cX11_readExpression 4 [.ref (gm G 0), .int x1] (WM G m_code m_people m_grants m_texts m_copies m_taped m_faultPlace m_isFemale m_born m_died m_father m_mother m_fatherGrade m_motherGrade m_grantTo m_grantArms m_grantYear m_copyYear m_copyRow m_tape m_textYear m_ruleMany m_ruleFrom m_codeRow m_stack m_ruleKind m_codes m_at m_read m_token m_sign m_begins m_ends m_bad m_badPlace m_top m_lineLives m_markRow m_quarterMany m_quarters m_isUp m_wasUp ++ fr) (WM G m_code m_people m_grants m_texts m_copies m_taped m_faultPlace m_isFemale m_born m_died m_father m_mother m_fatherGrade m_motherGrade m_grantTo m_grantArms m_grantYear m_copyYear m_copyRow m_tape m_textYear m_ruleMany m_ruleFrom r.1 m_stack m_ruleKind r.2.1 r.2.2.1 m_read r.2.2.2.1 r.2.2.2.2.1 r.2.2.2.2.2.1 r.2.2.2.2.2.2.1 r.2.2.2.2.2.2.2.1 r.2.2.2.2.2.2.2.2 m_top m_lineLives m_markRow m_quarterMany m_quarters m_isUp m_wasUp ++ fr)) (hdk : 10 ≤ dk) (x1 : Int32) {r : (Nat → Int32) × Int32 × Int32 × Int32 × Int32 × Int32 × Int32 × Int32 × Int32} (hf : f_X11_readPart fu m_texts m_tape m_read m_codeRow m_codes m_at m_token m_sign m_begins m_ends m_bad m_badPlace ke x1 = some r) : Cv l G (dk + 1) 0 0 yX11_readPart cX11_readPart 4 [.ref (gm G 0), .int x1] (WM G m_code m_people m_grants m_texts m_copies m_taped m_faultPlace m_isFemale m_born m_died m_father m_mother m_fatherGrade m_motherGrade m_grantTo m_grantArms m_grantYear m_copyYear m_copyRow m_tape m_textYear m_ruleMany m_ruleFrom m_codeRow m_stack m_ruleKind m_codes m_at m_read m_token m_sign m_begins m_ends m_bad m_badPlace m_top m_lineLives m_markRow m_quarterMany m_quarters m_isUp m_wasUp ++ fr) (WM G m_code m_people m_grants m_texts m_copies m_taped m_faultPlace m_isFemale m_born m_died m_father m_mother m_fatherGrade m_motherGrade m_grantTo m_grantArms m_grantYear m_copyYear m_copyRow m_tape m_textYear m_ruleMany m_ruleFrom r.1 m_stack m_ruleKind r.2.1 r.2.2.1 m_read r.2.2.2.1 r.2.2.2.2.1 r.2.2.2.2.2.1 r.2.2.2.2.2.2.1 r.2.2.2.2.2.2.2.1 r.2.2.2.2.2.2.2.2 m_top m_lineLives m_markRow m_quarterMany m_quarters m_isUp m_wasUp ++ fr) := by
  refine Cv.of (by decide) (Nat.le_of_ble_eq_true rfl) (fun Y hX hQ => ?_)
  refine j_lv (lv' := [(0, .ref (gm G 0)), (1, .int x1)]) rfl ?_
  unfold f_X11_readPart at hf
  refine j_aload_n hX dX11_readPart_0 1 rfl 0 rfl rfl ?_
  refine j_get hX dX11_readPart_1 4 rfl fg_X11_234 0 rfl rfl ?_
  refine j_if_eq hX dX11_readPart_4 7 8 rfl rfl (fun h1 => ?_) (fun h1 => ?_)
  · replace hf := itt h1 hf
    refine j_aload_n hX dX11_readPart_8 9 rfl 0 rfl rfl ?_
    refine j_get hX dX11_readPart_9 12 rfl fg_X11_215 0 rfl rfl ?_
    refine j_iconst (v := 2) hX dX11_readPart_12 13 rfl (by decide) ?_
    refine j_icmp_ne hX dX11_readPart_13 16 90 rfl rfl (fun h2 => ?_) (fun h2 => ?_)
    · replace hf := itf h2 hf
      refine j_aload_n hX dX11_readPart_90 91 rfl 0 rfl rfl ?_
      refine j_get hX dX11_readPart_91 94 rfl fg_X11_215 0 rfl rfl ?_
      refine j_iconst (v := 1) hX dX11_readPart_94 95 rfl (by decide) ?_
      refine j_icmp_ne hX dX11_readPart_95 98 150 rfl rfl (fun h3 => ?_) (fun h3 => ?_)
      · replace hf := itf h3 hf
        refine j_aload_n hX dX11_readPart_150 151 rfl 0 rfl rfl ?_
        refine j_bipush (v := 40) hX dX11_readPart_151 153 rfl (by decide) ?_
        obtain ⟨v4, hv4, hf⟩ := ibd hf
        refine z_i (As := [.int 40]) (rest := []) (q0 := 0) hX dX11_readPart_153 156 rfl (t_X11_isSign 40 hv4) mc_X11_isSign mv_X11_isSign ml_X11_265 rfl rfl (by omega) (Nat.le_refl _) (Nat.le_refl _) rfl (Nat.le_of_ble_eq_true rfl) ?_
        refine j_if_eq hX dX11_readPart_156 159 194 rfl rfl (fun h5 => ?_) (fun h5 => ?_)
        · replace hf := itt h5 hf
          refine j_aload_n hX dX11_readPart_194 195 rfl 0 rfl rfl ?_
          refine j_iconst (v := 1) hX dX11_readPart_195 196 rfl (by decide) ?_
          obtain ⟨v6, hv6, hf⟩ := ibd hf
          refine z_v (As := [.int 1]) (rest := []) (q0 := 0) hX dX11_readPart_196 199 rfl (t_X11_wrong 1 hv6) mc_X11_wrong mv_X11_wrong ml_X11_259 rfl rfl (by omega) (Nat.le_refl _) (Nat.le_refl _) rfl (Nat.le_of_ble_eq_true rfl) ?_
          refine j_sub [0] rfl ?_
          exact t_X11_readPart_199 hX hQ hke hdk   hf
        · replace hf := itf h5 hf
          refine j_aload_n hX dX11_readPart_159 160 rfl 0 rfl rfl ?_
          obtain ⟨v9, hv9, hf⟩ := ibd hf
          refine z_v (As := []) (rest := []) (q0 := 0) hX dX11_readPart_160 163 rfl (t_X11_step  hv9) mc_X11_step mv_X11_step ml_X11_246 rfl rfl (by omega) (Nat.le_refl _) (Nat.le_refl _) rfl (Nat.le_of_ble_eq_true rfl) ?_
          refine j_aload_n hX dX11_readPart_163 164 rfl 0 rfl rfl ?_
          refine j_iload_n hX dX11_readPart_164 165 rfl 1 rfl rfl ?_
          refine j_iconst (v := 1) hX dX11_readPart_165 166 rfl (by decide) ?_
          refine j_iadd hX dX11_readPart_166 167 rfl ?_
          obtain ⟨v10, hv10, hf⟩ := ibd hf
          refine z_v (As := [.int (x1 + 1)]) (rest := []) (q0 := 0) hX dX11_readPart_167 170 rfl (hke (x1 + 1) m_codeRow m_codes v9.1 v9.2.1 v9.2.2.1 v9.2.2.2.1 v9.2.2.2.2 m_bad m_badPlace _ hv10) mc_X11_readExpression mv_X11_readExpression ml_X11_262 rfl rfl (by omega) (Nat.le_refl _) (Nat.le_refl _) rfl (Nat.le_of_ble_eq_true rfl) ?_
          refine j_aload_n hX dX11_readPart_170 171 rfl 0 rfl rfl ?_
          refine j_get hX dX11_readPart_171 174 rfl fg_X11_234 0 rfl rfl ?_
          refine j_if_ne hX dX11_readPart_174 177 199 rfl rfl (fun h11 => ?_) (fun h11 => ?_)
          · replace hf := itf h11 hf
            refine j_sub [0] rfl ?_
            exact t_X11_readPart_199 hX hQ hke hdk   hf
          · replace hf := itt h11 hf
            refine j_aload_n hX dX11_readPart_177 178 rfl 0 rfl rfl ?_
            refine j_bipush (v := 41) hX dX11_readPart_178 180 rfl (by decide) ?_
            obtain ⟨v12, hv12, hf⟩ := ibd hf
            refine z_i (As := [.int 41]) (rest := []) (q0 := 0) hX dX11_readPart_180 183 rfl (t_X11_isSign 41 hv12) mc_X11_isSign mv_X11_isSign ml_X11_265 rfl rfl (by omega) (Nat.le_refl _) (Nat.le_refl _) rfl (Nat.le_of_ble_eq_true rfl) ?_
            refine j_if_ne hX dX11_readPart_183 186 199 rfl rfl (fun h13 => ?_) (fun h13 => ?_)
            · replace hf := itf h13 hf
              refine j_sub [0] rfl ?_
              exact t_X11_readPart_199 hX hQ hke hdk   hf
            · replace hf := itt h13 hf
              refine j_aload_n hX dX11_readPart_186 187 rfl 0 rfl rfl ?_
              refine j_iconst (v := 1) hX dX11_readPart_187 188 rfl (by decide) ?_
              obtain ⟨v14, hv14, hf⟩ := ibd hf
              refine z_v (As := [.int 1]) (rest := []) (q0 := 0) hX dX11_readPart_188 191 rfl (t_X11_wrong 1 hv14) mc_X11_wrong mv_X11_wrong ml_X11_259 rfl rfl (by omega) (Nat.le_refl _) (Nat.le_refl _) rfl (Nat.le_of_ble_eq_true rfl) ?_
              refine j_goto hX dX11_readPart_191 199 rfl ?_
              refine j_sub [0] rfl ?_
              exact t_X11_readPart_199 hX hQ hke hdk   hf
      · replace hf := itt h3 hf
        refine j_iconst (v := (-1)) hX dX11_readPart_98 99 rfl (by decide) ?_
        refine j_istore_n hX dX11_readPart_99 100 rfl rfl (by decide) (lv' := [(2, .int ((-1))), (0, .ref (gm G 0)), (1, .int x1)]) rfl ?_
        refine j_iconst (v := 0) hX dX11_readPart_100 101 rfl (by decide) ?_
        refine j_istore_n hX dX11_readPart_101 102 rfl rfl (by decide) (lv' := [(3, .int 0), (2, .int ((-1))), (0, .ref (gm G 0)), (1, .int x1)]) rfl ?_
        refine j_sub [2, 1, 0] rfl ?_
        exact u_X11_readPart_102 hX hQ hke hdk  fu ((-1), 0, m_codeRow, m_codes, m_at, m_token, m_sign, m_begins, m_ends, m_bad, m_badPlace) hf
    · replace hf := itt h2 hf
      refine j_aload_n hX dX11_readPart_16 17 rfl 0 rfl rfl ?_
      refine j_get hX dX11_readPart_17 20 rfl fg_X11_224 0 rfl rfl ?_
      refine j_aload_n hX dX11_readPart_20 21 rfl 0 rfl rfl ?_
      refine j_get hX dX11_readPart_21 24 rfl fg_X11_209 0 rfl rfl ?_
      refine j_isub hX dX11_readPart_24 25 rfl ?_
      refine j_iconst (v := 4) hX dX11_readPart_25 26 rfl (by decide) ?_
      refine j_icmp_le hX dX11_readPart_26 29 34 rfl rfl (fun h22 => ?_) (fun h22 => ?_)
      · replace hf := itt h22 hf
        refine j_sub [0] rfl ?_
        exact t_X11_readPart_34 hX hQ hke hdk   hf
      · replace hf := itf h22 hf
        refine j_aload_n hX dX11_readPart_29 30 rfl 0 rfl rfl ?_
        refine j_iconst (v := 2) hX dX11_readPart_30 31 rfl (by decide) ?_
        obtain ⟨v28, hv28, hf⟩ := ibd hf
        refine z_v (As := [.int 2]) (rest := []) (q0 := 0) hX dX11_readPart_31 34 rfl (t_X11_wrong 2 hv28) mc_X11_wrong mv_X11_wrong ml_X11_259 rfl rfl (by omega) (Nat.le_refl _) (Nat.le_refl _) rfl (Nat.le_of_ble_eq_true rfl) ?_
        refine j_sub [0] rfl ?_
        exact t_X11_readPart_34 hX hQ hke hdk   hf
  · replace hf := itf h1 hf
    replace hf := Option.some.inj hf
    subst hf
    exact j_vret hX hQ dX11_readPart_7
def g_X11_readSum_62 (m_codeRow : Nat → Int32) (m_codes : Int32) (m_at : Int32) (m_token : Int32) (m_sign : Int32) (m_begins : Int32) (m_ends : Int32) (m_bad : Int32) (m_badPlace : Int32) : Option ((Nat → Int32) × Int32 × Int32 × Int32 × Int32 × Int32 × Int32 × Int32 × Int32) :=
  some (m_codeRow, m_codes, m_at, m_token, m_sign, m_begins, m_ends, m_bad, m_badPlace)
set_option maxRecDepth 100000 in
set_option maxHeartbeats 4000000 in
theorem t_X11_readSum_62 {Y : YT} {r : (Nat → Int32) × Int32 × Int32 × Int32 × Int32 × Int32 × Int32 × Int32 × Int32}  (hX : CX l G cX11_readSum 3 RX11 Y) (hQ : EQv G Y 0 0 (WM G m_code m_people m_grants m_texts m_copies m_taped m_faultPlace m_isFemale m_born m_died m_father m_mother m_fatherGrade m_motherGrade m_grantTo m_grantArms m_grantYear m_copyYear m_copyRow m_tape m_textYear m_ruleMany m_ruleFrom r.1 m_stack m_ruleKind r.2.1 r.2.2.1 m_read r.2.2.2.1 r.2.2.2.2.1 r.2.2.2.2.2.1 r.2.2.2.2.2.2.1 r.2.2.2.2.2.2.2.1 r.2.2.2.2.2.2.2.2 m_top m_lineLives m_markRow m_quarterMany m_quarters m_isUp m_wasUp ++ fr)) {dk : Nat} {ke : Int32 → (Nat → Int32) → Int32 → Int32 → Int32 → Int32 → Int32 → Int32 → Int32 → Int32 → Option ((Nat → Int32) × Int32 × Int32 × Int32 × Int32 × Int32 × Int32 × Int32 × Int32)} (hke : ∀ (x1 : Int32) (m_codeRow : Nat → Int32) (m_codes : Int32) (m_at : Int32) (m_token : Int32) (m_sign : Int32) (m_begins : Int32) (m_ends : Int32) (m_bad : Int32) (m_badPlace : Int32) (r : (Nat → Int32) × Int32 × Int32 × Int32 × Int32 × Int32 × Int32 × Int32 × Int32), ke x1 m_codeRow m_codes m_at m_token m_sign m_begins m_ends m_bad m_badPlace = some r → Cv l G dk 0 0 yX11_readExpression cX11_readExpression 4 [.ref (gm G 0), .int x1] (WM G m_code m_people m_grants m_texts m_copies m_taped m_faultPlace m_isFemale m_born m_died m_father m_mother m_fatherGrade m_motherGrade m_grantTo m_grantArms m_grantYear m_copyYear m_copyRow m_tape m_textYear m_ruleMany m_ruleFrom m_codeRow m_stack m_ruleKind m_codes m_at m_read m_token m_sign m_begins m_ends m_bad m_badPlace m_top m_lineLives m_markRow m_quarterMany m_quarters m_isUp m_wasUp ++ fr) (WM G m_code m_people m_grants m_texts m_copies m_taped m_faultPlace m_isFemale m_born m_died m_father m_mother m_fatherGrade m_motherGrade m_grantTo m_grantArms m_grantYear m_copyYear m_copyRow m_tape m_textYear m_ruleMany m_ruleFrom r.1 m_stack m_ruleKind r.2.1 r.2.2.1 m_read r.2.2.2.1 r.2.2.2.2.1 r.2.2.2.2.2.1 r.2.2.2.2.2.2.1 r.2.2.2.2.2.2.2.1 r.2.2.2.2.2.2.2.2 m_top m_lineLives m_markRow m_quarterMany m_quarters m_isUp m_wasUp ++ fr)) (hdk : 10 ≤ dk)   (hf : g_X11_readSum_62 m_codeRow m_codes m_at m_token m_sign m_begins m_ends m_bad m_badPlace = some r) : J l G (rmD (dk + 2) 0 0) Y 0 0 62 [] [] (WM G m_code m_people m_grants m_texts m_copies m_taped m_faultPlace m_isFemale m_born m_died m_father m_mother m_fatherGrade m_motherGrade m_grantTo m_grantArms m_grantYear m_copyYear m_copyRow m_tape m_textYear m_ruleMany m_ruleFrom m_codeRow m_stack m_ruleKind m_codes m_at m_read m_token m_sign m_begins m_ends m_bad m_badPlace m_top m_lineLives m_markRow m_quarterMany m_quarters m_isUp m_wasUp ++ fr) := by
  unfold g_X11_readSum_62 at hf
  replace hf := Option.some.inj hf
  subst hf
  exact j_vret hX hQ dX11_readSum_62
def g_X11_readSum_44 (fu : Nat) (m_texts : Int32) (m_tape : Nat → Int32) (m_read : Int32) (m_codeRow : Nat → Int32) (m_codes : Int32) (m_at : Int32) (m_token : Int32) (m_sign : Int32) (m_begins : Int32) (m_ends : Int32) (m_bad : Int32) (m_badPlace : Int32) (k5 : Int32 → (Nat → Int32) → Int32 → Int32 → Int32 → Int32 → Int32 → Int32 → Int32 → Int32 → Option ((Nat → Int32) × Int32 × Int32 × Int32 × Int32 × Int32 × Int32 × Int32 × Int32)) (ke : Int32 → (Nat → Int32) → Int32 → Int32 → Int32 → Int32 → Int32 → Int32 → Int32 → Int32 → Option ((Nat → Int32) × Int32 × Int32 × Int32 × Int32 × Int32 × Int32 × Int32 × Int32)) (x1 : Int32) (s0 : Int32) : Option ((Nat → Int32) × Int32 × Int32 × Int32 × Int32 × Int32 × Int32 × Int32 × Int32) :=
  (f_X11_step fu m_tape m_read m_at m_token m_sign m_begins m_ends).bind fun v7 => (f_X11_readPart fu m_texts m_tape m_read m_codeRow m_codes v7.1 v7.2.1 v7.2.2.1 v7.2.2.2.1 v7.2.2.2.2 m_bad m_badPlace ke x1).bind fun v8 => (f_X11_emit m_texts v8.2.2.2.2.2.2.2.1 v8.1 v8.2.1 s0).bind fun v9 => k5 x1 v9.1 v9.2 v8.2.2.1 v8.2.2.2.1 v8.2.2.2.2.1 v8.2.2.2.2.2.1 v8.2.2.2.2.2.2.1 v8.2.2.2.2.2.2.2.1 v8.2.2.2.2.2.2.2.2
set_option maxRecDepth 100000 in
set_option maxHeartbeats 4000000 in
theorem t_X11_readSum_44 {fu : Nat} {Y : YT} {r : (Nat → Int32) × Int32 × Int32 × Int32 × Int32 × Int32 × Int32 × Int32 × Int32} {k5 : Int32 → (Nat → Int32) → Int32 → Int32 → Int32 → Int32 → Int32 → Int32 → Int32 → Int32 → Option ((Nat → Int32) × Int32 × Int32 × Int32 × Int32 × Int32 × Int32 × Int32 × Int32)} (hX : CX l G cX11_readSum 3 RX11 Y) (hQ : EQv G Y 0 0 (WM G m_code m_people m_grants m_texts m_copies m_taped m_faultPlace m_isFemale m_born m_died m_father m_mother m_fatherGrade m_motherGrade m_grantTo m_grantArms m_grantYear m_copyYear m_copyRow m_tape m_textYear m_ruleMany m_ruleFrom r.1 m_stack m_ruleKind r.2.1 r.2.2.1 m_read r.2.2.2.1 r.2.2.2.2.1 r.2.2.2.2.2.1 r.2.2.2.2.2.2.1 r.2.2.2.2.2.2.2.1 r.2.2.2.2.2.2.2.2 m_top m_lineLives m_markRow m_quarterMany m_quarters m_isUp m_wasUp ++ fr)) {dk : Nat} {ke : Int32 → (Nat → Int32) → Int32 → Int32 → Int32 → Int32 → Int32 → Int32 → Int32 → Int32 → Option ((Nat → Int32) × Int32 × Int32 × Int32 × Int32 × Int32 × Int32 × Int32 × Int32)} (hke : ∀ (x1 : Int32) (m_codeRow : Nat → Int32) (m_codes : Int32) (m_at : Int32) (m_token : Int32) (m_sign : Int32) (m_begins : Int32) (m_ends : Int32) (m_bad : Int32) (m_badPlace : Int32) (r : (Nat → Int32) × Int32 × Int32 × Int32 × Int32 × Int32 × Int32 × Int32 × Int32), ke x1 m_codeRow m_codes m_at m_token m_sign m_begins m_ends m_bad m_badPlace = some r → Cv l G dk 0 0 yX11_readExpression cX11_readExpression 4 [.ref (gm G 0), .int x1] (WM G m_code m_people m_grants m_texts m_copies m_taped m_faultPlace m_isFemale m_born m_died m_father m_mother m_fatherGrade m_motherGrade m_grantTo m_grantArms m_grantYear m_copyYear m_copyRow m_tape m_textYear m_ruleMany m_ruleFrom m_codeRow m_stack m_ruleKind m_codes m_at m_read m_token m_sign m_begins m_ends m_bad m_badPlace m_top m_lineLives m_markRow m_quarterMany m_quarters m_isUp m_wasUp ++ fr) (WM G m_code m_people m_grants m_texts m_copies m_taped m_faultPlace m_isFemale m_born m_died m_father m_mother m_fatherGrade m_motherGrade m_grantTo m_grantArms m_grantYear m_copyYear m_copyRow m_tape m_textYear m_ruleMany m_ruleFrom r.1 m_stack m_ruleKind r.2.1 r.2.2.1 m_read r.2.2.2.1 r.2.2.2.2.1 r.2.2.2.2.2.1 r.2.2.2.2.2.2.1 r.2.2.2.2.2.2.2.1 r.2.2.2.2.2.2.2.2 m_top m_lineLives m_markRow m_quarterMany m_quarters m_isUp m_wasUp ++ fr)) (hdk : 10 ≤ dk) (hk5 : ∀ (x1 : Int32) (m_codeRow : Nat → Int32) (m_codes : Int32) (m_at : Int32) (m_token : Int32) (m_sign : Int32) (m_begins : Int32) (m_ends : Int32) (m_bad : Int32) (m_badPlace : Int32), k5 x1 m_codeRow m_codes m_at m_token m_sign m_begins m_ends m_bad m_badPlace = some r → J l G (rmD (dk + 2) 0 0) Y 0 0 5 [(0, .ref (gm G 0)), (1, .int x1)] [] (WM G m_code m_people m_grants m_texts m_copies m_taped m_faultPlace m_isFemale m_born m_died m_father m_mother m_fatherGrade m_motherGrade m_grantTo m_grantArms m_grantYear m_copyYear m_copyRow m_tape m_textYear m_ruleMany m_ruleFrom m_codeRow m_stack m_ruleKind m_codes m_at m_read m_token m_sign m_begins m_ends m_bad m_badPlace m_top m_lineLives m_markRow m_quarterMany m_quarters m_isUp m_wasUp ++ fr)) (x1 : Int32) (s0 : Int32) (hf : g_X11_readSum_44 fu m_texts m_tape m_read m_codeRow m_codes m_at m_token m_sign m_begins m_ends m_bad m_badPlace k5 ke x1 s0 = some r) : J l G (rmD (dk + 2) 0 0) Y 0 0 44 [(0, .ref (gm G 0)), (1, .int x1)] [.int s0] (WM G m_code m_people m_grants m_texts m_copies m_taped m_faultPlace m_isFemale m_born m_died m_father m_mother m_fatherGrade m_motherGrade m_grantTo m_grantArms m_grantYear m_copyYear m_copyRow m_tape m_textYear m_ruleMany m_ruleFrom m_codeRow m_stack m_ruleKind m_codes m_at m_read m_token m_sign m_begins m_ends m_bad m_badPlace m_top m_lineLives m_markRow m_quarterMany m_quarters m_isUp m_wasUp ++ fr) := by
  unfold g_X11_readSum_44 at hf
  refine j_istore_n hX dX11_readSum_44 45 rfl rfl (by decide) (lv' := [(2, .int s0), (0, .ref (gm G 0)), (1, .int x1)]) rfl ?_
  refine j_aload_n hX dX11_readSum_45 46 rfl 1 rfl rfl ?_
  obtain ⟨v7, hv7, hf⟩ := ibd hf
  refine z_v (As := []) (rest := []) (q0 := 0) hX dX11_readSum_46 49 rfl (t_X11_step  hv7) mc_X11_step mv_X11_step ml_X11_246 rfl rfl (by omega) (Nat.le_refl _) (Nat.le_refl _) rfl (Nat.le_of_ble_eq_true rfl) ?_
  refine j_aload_n hX dX11_readSum_49 50 rfl 1 rfl rfl ?_
  refine j_iload_n hX dX11_readSum_50 51 rfl 2 rfl rfl ?_
  obtain ⟨v8, hv8, hf⟩ := ibd hf
  refine z_v (As := [.int x1]) (rest := []) (q0 := 0) hX dX11_readSum_51 54 rfl (t_X11_readPart hke hdk x1 hv8) mc_X11_readPart mv_X11_readPart ml_X11_283 rfl rfl (by omega) (Nat.le_refl _) (Nat.le_refl _) rfl (Nat.le_of_ble_eq_true rfl) ?_
  refine j_aload_n hX dX11_readSum_54 55 rfl 1 rfl rfl ?_
  refine j_iload_n hX dX11_readSum_55 56 rfl 0 rfl rfl ?_
  obtain ⟨v9, hv9, hf⟩ := ibd hf
  refine z_v (As := [.int s0]) (rest := []) (q0 := 0) hX dX11_readSum_56 59 rfl (t_X11_emit s0 hv9) mc_X11_emit mv_X11_emit ml_X11_275 rfl rfl (by omega) (Nat.le_refl _) (Nat.le_refl _) rfl (Nat.le_of_ble_eq_true rfl) ?_
  refine j_goto hX dX11_readSum_59 5 rfl ?_
  refine j_sub [1, 2] rfl ?_
  exact hk5 x1 v9.1 v9.2 v8.2.2.1 v8.2.2.2.1 v8.2.2.2.2.1 v8.2.2.2.2.2.1 v8.2.2.2.2.2.2.1 v8.2.2.2.2.2.2.2.1 v8.2.2.2.2.2.2.2.2 hf
def g_X11_readSum_30 (fu : Nat) (m_texts : Int32) (m_tape : Nat → Int32) (m_read : Int32) (m_codeRow : Nat → Int32) (m_codes : Int32) (m_at : Int32) (m_token : Int32) (m_sign : Int32) (m_begins : Int32) (m_ends : Int32) (m_bad : Int32) (m_badPlace : Int32) (k5 : Int32 → (Nat → Int32) → Int32 → Int32 → Int32 → Int32 → Int32 → Int32 → Int32 → Int32 → Option ((Nat → Int32) × Int32 × Int32 × Int32 × Int32 × Int32 × Int32 × Int32 × Int32)) (ke : Int32 → (Nat → Int32) → Int32 → Int32 → Int32 → Int32 → Int32 → Int32 → Int32 → Int32 → Option ((Nat → Int32) × Int32 × Int32 × Int32 × Int32 × Int32 × Int32 × Int32 × Int32)) (x1 : Int32) : Option ((Nat → Int32) × Int32 × Int32 × Int32 × Int32 × Int32 × Int32 × Int32 × Int32) :=
  (f_X11_isSign m_token m_sign 43).bind fun v5 => if v5 = 0 then g_X11_readSum_44 fu m_texts m_tape m_read m_codeRow m_codes m_at m_token m_sign m_begins m_ends m_bad m_badPlace k5 ke x1 2 else g_X11_readSum_44 fu m_texts m_tape m_read m_codeRow m_codes m_at m_token m_sign m_begins m_ends m_bad m_badPlace k5 ke x1 1
set_option maxRecDepth 100000 in
set_option maxHeartbeats 4000000 in
theorem t_X11_readSum_30 {fu : Nat} {Y : YT} {r : (Nat → Int32) × Int32 × Int32 × Int32 × Int32 × Int32 × Int32 × Int32 × Int32} {k5 : Int32 → (Nat → Int32) → Int32 → Int32 → Int32 → Int32 → Int32 → Int32 → Int32 → Int32 → Option ((Nat → Int32) × Int32 × Int32 × Int32 × Int32 × Int32 × Int32 × Int32 × Int32)} (hX : CX l G cX11_readSum 3 RX11 Y) (hQ : EQv G Y 0 0 (WM G m_code m_people m_grants m_texts m_copies m_taped m_faultPlace m_isFemale m_born m_died m_father m_mother m_fatherGrade m_motherGrade m_grantTo m_grantArms m_grantYear m_copyYear m_copyRow m_tape m_textYear m_ruleMany m_ruleFrom r.1 m_stack m_ruleKind r.2.1 r.2.2.1 m_read r.2.2.2.1 r.2.2.2.2.1 r.2.2.2.2.2.1 r.2.2.2.2.2.2.1 r.2.2.2.2.2.2.2.1 r.2.2.2.2.2.2.2.2 m_top m_lineLives m_markRow m_quarterMany m_quarters m_isUp m_wasUp ++ fr)) {dk : Nat} {ke : Int32 → (Nat → Int32) → Int32 → Int32 → Int32 → Int32 → Int32 → Int32 → Int32 → Int32 → Option ((Nat → Int32) × Int32 × Int32 × Int32 × Int32 × Int32 × Int32 × Int32 × Int32)} (hke : ∀ (x1 : Int32) (m_codeRow : Nat → Int32) (m_codes : Int32) (m_at : Int32) (m_token : Int32) (m_sign : Int32) (m_begins : Int32) (m_ends : Int32) (m_bad : Int32) (m_badPlace : Int32) (r : (Nat → Int32) × Int32 × Int32 × Int32 × Int32 × Int32 × Int32 × Int32 × Int32), ke x1 m_codeRow m_codes m_at m_token m_sign m_begins m_ends m_bad m_badPlace = some r → Cv l G dk 0 0 yX11_readExpression cX11_readExpression 4 [.ref (gm G 0), .int x1] (WM G m_code m_people m_grants m_texts m_copies m_taped m_faultPlace m_isFemale m_born m_died m_father m_mother m_fatherGrade m_motherGrade m_grantTo m_grantArms m_grantYear m_copyYear m_copyRow m_tape m_textYear m_ruleMany m_ruleFrom m_codeRow m_stack m_ruleKind m_codes m_at m_read m_token m_sign m_begins m_ends m_bad m_badPlace m_top m_lineLives m_markRow m_quarterMany m_quarters m_isUp m_wasUp ++ fr) (WM G m_code m_people m_grants m_texts m_copies m_taped m_faultPlace m_isFemale m_born m_died m_father m_mother m_fatherGrade m_motherGrade m_grantTo m_grantArms m_grantYear m_copyYear m_copyRow m_tape m_textYear m_ruleMany m_ruleFrom r.1 m_stack m_ruleKind r.2.1 r.2.2.1 m_read r.2.2.2.1 r.2.2.2.2.1 r.2.2.2.2.2.1 r.2.2.2.2.2.2.1 r.2.2.2.2.2.2.2.1 r.2.2.2.2.2.2.2.2 m_top m_lineLives m_markRow m_quarterMany m_quarters m_isUp m_wasUp ++ fr)) (hdk : 10 ≤ dk) (hk5 : ∀ (x1 : Int32) (m_codeRow : Nat → Int32) (m_codes : Int32) (m_at : Int32) (m_token : Int32) (m_sign : Int32) (m_begins : Int32) (m_ends : Int32) (m_bad : Int32) (m_badPlace : Int32), k5 x1 m_codeRow m_codes m_at m_token m_sign m_begins m_ends m_bad m_badPlace = some r → J l G (rmD (dk + 2) 0 0) Y 0 0 5 [(0, .ref (gm G 0)), (1, .int x1)] [] (WM G m_code m_people m_grants m_texts m_copies m_taped m_faultPlace m_isFemale m_born m_died m_father m_mother m_fatherGrade m_motherGrade m_grantTo m_grantArms m_grantYear m_copyYear m_copyRow m_tape m_textYear m_ruleMany m_ruleFrom m_codeRow m_stack m_ruleKind m_codes m_at m_read m_token m_sign m_begins m_ends m_bad m_badPlace m_top m_lineLives m_markRow m_quarterMany m_quarters m_isUp m_wasUp ++ fr)) (x1 : Int32) (hf : g_X11_readSum_30 fu m_texts m_tape m_read m_codeRow m_codes m_at m_token m_sign m_begins m_ends m_bad m_badPlace k5 ke x1 = some r) : J l G (rmD (dk + 2) 0 0) Y 0 0 30 [(0, .ref (gm G 0)), (1, .int x1)] [] (WM G m_code m_people m_grants m_texts m_copies m_taped m_faultPlace m_isFemale m_born m_died m_father m_mother m_fatherGrade m_motherGrade m_grantTo m_grantArms m_grantYear m_copyYear m_copyRow m_tape m_textYear m_ruleMany m_ruleFrom m_codeRow m_stack m_ruleKind m_codes m_at m_read m_token m_sign m_begins m_ends m_bad m_badPlace m_top m_lineLives m_markRow m_quarterMany m_quarters m_isUp m_wasUp ++ fr) := by
  unfold g_X11_readSum_30 at hf
  refine j_aload_n hX dX11_readSum_30 31 rfl 0 rfl rfl ?_
  refine j_bipush (v := 43) hX dX11_readSum_31 33 rfl (by decide) ?_
  obtain ⟨v5, hv5, hf⟩ := ibd hf
  refine z_i (As := [.int 43]) (rest := []) (q0 := 0) hX dX11_readSum_33 36 rfl (t_X11_isSign 43 hv5) mc_X11_isSign mv_X11_isSign ml_X11_265 rfl rfl (by omega) (Nat.le_refl _) (Nat.le_refl _) rfl (Nat.le_of_ble_eq_true rfl) ?_
  refine j_if_eq hX dX11_readSum_36 39 43 rfl rfl (fun h6 => ?_) (fun h6 => ?_)
  · replace hf := itt h6 hf
    refine j_iconst (v := 2) hX dX11_readSum_43 44 rfl (by decide) ?_
    exact t_X11_readSum_44 hX hQ hke hdk hk5 x1 2 hf
  · replace hf := itf h6 hf
    refine j_iconst (v := 1) hX dX11_readSum_39 40 rfl (by decide) ?_
    refine j_goto hX dX11_readSum_40 44 rfl ?_
    exact t_X11_readSum_44 hX hQ hke hdk hk5 x1 1 hf
def g_X11_readSum_5 (fu : Nat) (m_texts : Int32) (m_tape : Nat → Int32) (m_read : Int32) (m_codeRow : Nat → Int32) (m_codes : Int32) (m_at : Int32) (m_token : Int32) (m_sign : Int32) (m_begins : Int32) (m_ends : Int32) (m_bad : Int32) (m_badPlace : Int32) (k5 : Int32 → (Nat → Int32) → Int32 → Int32 → Int32 → Int32 → Int32 → Int32 → Int32 → Int32 → Option ((Nat → Int32) × Int32 × Int32 × Int32 × Int32 × Int32 × Int32 × Int32 × Int32)) (ke : Int32 → (Nat → Int32) → Int32 → Int32 → Int32 → Int32 → Int32 → Int32 → Int32 → Int32 → Option ((Nat → Int32) × Int32 × Int32 × Int32 × Int32 × Int32 × Int32 × Int32 × Int32)) (x1 : Int32) : Option ((Nat → Int32) × Int32 × Int32 × Int32 × Int32 × Int32 × Int32 × Int32 × Int32) :=
  if m_bad = 0 then (f_X11_isSign m_token m_sign 43).bind fun v3 => if v3 = 0 then (f_X11_isSign m_token m_sign 45).bind fun v10 => if v10 = 0 then g_X11_readSum_62 m_codeRow m_codes m_at m_token m_sign m_begins m_ends m_bad m_badPlace else g_X11_readSum_30 fu m_texts m_tape m_read m_codeRow m_codes m_at m_token m_sign m_begins m_ends m_bad m_badPlace k5 ke x1 else g_X11_readSum_30 fu m_texts m_tape m_read m_codeRow m_codes m_at m_token m_sign m_begins m_ends m_bad m_badPlace k5 ke x1 else g_X11_readSum_62 m_codeRow m_codes m_at m_token m_sign m_begins m_ends m_bad m_badPlace
set_option maxRecDepth 100000 in
set_option maxHeartbeats 4000000 in
theorem t_X11_readSum_5 {fu : Nat} {Y : YT} {r : (Nat → Int32) × Int32 × Int32 × Int32 × Int32 × Int32 × Int32 × Int32 × Int32} {k5 : Int32 → (Nat → Int32) → Int32 → Int32 → Int32 → Int32 → Int32 → Int32 → Int32 → Int32 → Option ((Nat → Int32) × Int32 × Int32 × Int32 × Int32 × Int32 × Int32 × Int32 × Int32)} (hX : CX l G cX11_readSum 3 RX11 Y) (hQ : EQv G Y 0 0 (WM G m_code m_people m_grants m_texts m_copies m_taped m_faultPlace m_isFemale m_born m_died m_father m_mother m_fatherGrade m_motherGrade m_grantTo m_grantArms m_grantYear m_copyYear m_copyRow m_tape m_textYear m_ruleMany m_ruleFrom r.1 m_stack m_ruleKind r.2.1 r.2.2.1 m_read r.2.2.2.1 r.2.2.2.2.1 r.2.2.2.2.2.1 r.2.2.2.2.2.2.1 r.2.2.2.2.2.2.2.1 r.2.2.2.2.2.2.2.2 m_top m_lineLives m_markRow m_quarterMany m_quarters m_isUp m_wasUp ++ fr)) {dk : Nat} {ke : Int32 → (Nat → Int32) → Int32 → Int32 → Int32 → Int32 → Int32 → Int32 → Int32 → Int32 → Option ((Nat → Int32) × Int32 × Int32 × Int32 × Int32 × Int32 × Int32 × Int32 × Int32)} (hke : ∀ (x1 : Int32) (m_codeRow : Nat → Int32) (m_codes : Int32) (m_at : Int32) (m_token : Int32) (m_sign : Int32) (m_begins : Int32) (m_ends : Int32) (m_bad : Int32) (m_badPlace : Int32) (r : (Nat → Int32) × Int32 × Int32 × Int32 × Int32 × Int32 × Int32 × Int32 × Int32), ke x1 m_codeRow m_codes m_at m_token m_sign m_begins m_ends m_bad m_badPlace = some r → Cv l G dk 0 0 yX11_readExpression cX11_readExpression 4 [.ref (gm G 0), .int x1] (WM G m_code m_people m_grants m_texts m_copies m_taped m_faultPlace m_isFemale m_born m_died m_father m_mother m_fatherGrade m_motherGrade m_grantTo m_grantArms m_grantYear m_copyYear m_copyRow m_tape m_textYear m_ruleMany m_ruleFrom m_codeRow m_stack m_ruleKind m_codes m_at m_read m_token m_sign m_begins m_ends m_bad m_badPlace m_top m_lineLives m_markRow m_quarterMany m_quarters m_isUp m_wasUp ++ fr) (WM G m_code m_people m_grants m_texts m_copies m_taped m_faultPlace m_isFemale m_born m_died m_father m_mother m_fatherGrade m_motherGrade m_grantTo m_grantArms m_grantYear m_copyYear m_copyRow m_tape m_textYear m_ruleMany m_ruleFrom r.1 m_stack m_ruleKind r.2.1 r.2.2.1 m_read r.2.2.2.1 r.2.2.2.2.1 r.2.2.2.2.2.1 r.2.2.2.2.2.2.1 r.2.2.2.2.2.2.2.1 r.2.2.2.2.2.2.2.2 m_top m_lineLives m_markRow m_quarterMany m_quarters m_isUp m_wasUp ++ fr)) (hdk : 10 ≤ dk) (hk5 : ∀ (x1 : Int32) (m_codeRow : Nat → Int32) (m_codes : Int32) (m_at : Int32) (m_token : Int32) (m_sign : Int32) (m_begins : Int32) (m_ends : Int32) (m_bad : Int32) (m_badPlace : Int32), k5 x1 m_codeRow m_codes m_at m_token m_sign m_begins m_ends m_bad m_badPlace = some r → J l G (rmD (dk + 2) 0 0) Y 0 0 5 [(0, .ref (gm G 0)), (1, .int x1)] [] (WM G m_code m_people m_grants m_texts m_copies m_taped m_faultPlace m_isFemale m_born m_died m_father m_mother m_fatherGrade m_motherGrade m_grantTo m_grantArms m_grantYear m_copyYear m_copyRow m_tape m_textYear m_ruleMany m_ruleFrom m_codeRow m_stack m_ruleKind m_codes m_at m_read m_token m_sign m_begins m_ends m_bad m_badPlace m_top m_lineLives m_markRow m_quarterMany m_quarters m_isUp m_wasUp ++ fr)) (x1 : Int32) (hf : g_X11_readSum_5 fu m_texts m_tape m_read m_codeRow m_codes m_at m_token m_sign m_begins m_ends m_bad m_badPlace k5 ke x1 = some r) : J l G (rmD (dk + 2) 0 0) Y 0 0 5 [(0, .ref (gm G 0)), (1, .int x1)] [] (WM G m_code m_people m_grants m_texts m_copies m_taped m_faultPlace m_isFemale m_born m_died m_father m_mother m_fatherGrade m_motherGrade m_grantTo m_grantArms m_grantYear m_copyYear m_copyRow m_tape m_textYear m_ruleMany m_ruleFrom m_codeRow m_stack m_ruleKind m_codes m_at m_read m_token m_sign m_begins m_ends m_bad m_badPlace m_top m_lineLives m_markRow m_quarterMany m_quarters m_isUp m_wasUp ++ fr) := by
  unfold g_X11_readSum_5 at hf
  refine j_aload_n hX dX11_readSum_5 6 rfl 0 rfl rfl ?_
  refine j_get hX dX11_readSum_6 9 rfl fg_X11_234 0 rfl rfl ?_
  refine j_if_ne hX dX11_readSum_9 12 62 rfl rfl (fun h2 => ?_) (fun h2 => ?_)
  · replace hf := itf h2 hf
    refine j_sub [] rfl ?_
    exact t_X11_readSum_62 hX hQ hke hdk   hf
  · replace hf := itt h2 hf
    refine j_aload_n hX dX11_readSum_12 13 rfl 0 rfl rfl ?_
    refine j_bipush (v := 43) hX dX11_readSum_13 15 rfl (by decide) ?_
    obtain ⟨v3, hv3, hf⟩ := ibd hf
    refine z_i (As := [.int 43]) (rest := []) (q0 := 0) hX dX11_readSum_15 18 rfl (t_X11_isSign 43 hv3) mc_X11_isSign mv_X11_isSign ml_X11_265 rfl rfl (by omega) (Nat.le_refl _) (Nat.le_refl _) rfl (Nat.le_of_ble_eq_true rfl) ?_
    refine j_if_ne hX dX11_readSum_18 21 30 rfl rfl (fun h4 => ?_) (fun h4 => ?_)
    · replace hf := itf h4 hf
      exact t_X11_readSum_30 hX hQ hke hdk hk5 x1 hf
    · replace hf := itt h4 hf
      refine j_aload_n hX dX11_readSum_21 22 rfl 0 rfl rfl ?_
      refine j_bipush (v := 45) hX dX11_readSum_22 24 rfl (by decide) ?_
      obtain ⟨v10, hv10, hf⟩ := ibd hf
      refine z_i (As := [.int 45]) (rest := []) (q0 := 0) hX dX11_readSum_24 27 rfl (t_X11_isSign 45 hv10) mc_X11_isSign mv_X11_isSign ml_X11_265 rfl rfl (by omega) (Nat.le_refl _) (Nat.le_refl _) rfl (Nat.le_of_ble_eq_true rfl) ?_
      refine j_if_eq hX dX11_readSum_27 30 62 rfl rfl (fun h11 => ?_) (fun h11 => ?_)
      · replace hf := itt h11 hf
        refine j_sub [] rfl ?_
        exact t_X11_readSum_62 hX hQ hke hdk   hf
      · replace hf := itf h11 hf
        exact t_X11_readSum_30 hX hQ hke hdk hk5 x1 hf
def f_X11_readSum_5 (fu : Nat) (m_texts : Int32) (m_tape : Nat → Int32) (m_read : Int32) (ke : Int32 → (Nat → Int32) → Int32 → Int32 → Int32 → Int32 → Int32 → Int32 → Int32 → Int32 → Option ((Nat → Int32) × Int32 × Int32 × Int32 × Int32 × Int32 × Int32 × Int32 × Int32)) : Nat → (Int32 × (Nat → Int32) × Int32 × Int32 × Int32 × Int32 × Int32 × Int32 × Int32 × Int32) → Option ((Nat → Int32) × Int32 × Int32 × Int32 × Int32 × Int32 × Int32 × Int32 × Int32) :=
  lp (fun k v => g_X11_readSum_5 fu m_texts m_tape m_read v.2.1 v.2.2.1 v.2.2.2.1 v.2.2.2.2.1 v.2.2.2.2.2.1 v.2.2.2.2.2.2.1 v.2.2.2.2.2.2.2.1 v.2.2.2.2.2.2.2.2.1 v.2.2.2.2.2.2.2.2.2 (fun x1 m_codeRow m_codes m_at m_token m_sign m_begins m_ends m_bad m_badPlace => k (x1, m_codeRow, m_codes, m_at, m_token, m_sign, m_begins, m_ends, m_bad, m_badPlace)) ke v.1)
set_option maxRecDepth 100000 in
set_option maxHeartbeats 4000000 in
theorem u_X11_readSum_5 {fu : Nat} {Y : YT} {r : (Nat → Int32) × Int32 × Int32 × Int32 × Int32 × Int32 × Int32 × Int32 × Int32}  (hX : CX l G cX11_readSum 3 RX11 Y) (hQ : EQv G Y 0 0 (WM G m_code m_people m_grants m_texts m_copies m_taped m_faultPlace m_isFemale m_born m_died m_father m_mother m_fatherGrade m_motherGrade m_grantTo m_grantArms m_grantYear m_copyYear m_copyRow m_tape m_textYear m_ruleMany m_ruleFrom r.1 m_stack m_ruleKind r.2.1 r.2.2.1 m_read r.2.2.2.1 r.2.2.2.2.1 r.2.2.2.2.2.1 r.2.2.2.2.2.2.1 r.2.2.2.2.2.2.2.1 r.2.2.2.2.2.2.2.2 m_top m_lineLives m_markRow m_quarterMany m_quarters m_isUp m_wasUp ++ fr)) {dk : Nat} {ke : Int32 → (Nat → Int32) → Int32 → Int32 → Int32 → Int32 → Int32 → Int32 → Int32 → Int32 → Option ((Nat → Int32) × Int32 × Int32 × Int32 × Int32 × Int32 × Int32 × Int32 × Int32)} (hke : ∀ (x1 : Int32) (m_codeRow : Nat → Int32) (m_codes : Int32) (m_at : Int32) (m_token : Int32) (m_sign : Int32) (m_begins : Int32) (m_ends : Int32) (m_bad : Int32) (m_badPlace : Int32) (r : (Nat → Int32) × Int32 × Int32 × Int32 × Int32 × Int32 × Int32 × Int32 × Int32), ke x1 m_codeRow m_codes m_at m_token m_sign m_begins m_ends m_bad m_badPlace = some r → Cv l G dk 0 0 yX11_readExpression cX11_readExpression 4 [.ref (gm G 0), .int x1] (WM G m_code m_people m_grants m_texts m_copies m_taped m_faultPlace m_isFemale m_born m_died m_father m_mother m_fatherGrade m_motherGrade m_grantTo m_grantArms m_grantYear m_copyYear m_copyRow m_tape m_textYear m_ruleMany m_ruleFrom m_codeRow m_stack m_ruleKind m_codes m_at m_read m_token m_sign m_begins m_ends m_bad m_badPlace m_top m_lineLives m_markRow m_quarterMany m_quarters m_isUp m_wasUp ++ fr) (WM G m_code m_people m_grants m_texts m_copies m_taped m_faultPlace m_isFemale m_born m_died m_father m_mother m_fatherGrade m_motherGrade m_grantTo m_grantArms m_grantYear m_copyYear m_copyRow m_tape m_textYear m_ruleMany m_ruleFrom r.1 m_stack m_ruleKind r.2.1 r.2.2.1 m_read r.2.2.2.1 r.2.2.2.2.1 r.2.2.2.2.2.1 r.2.2.2.2.2.2.1 r.2.2.2.2.2.2.2.1 r.2.2.2.2.2.2.2.2 m_top m_lineLives m_markRow m_quarterMany m_quarters m_isUp m_wasUp ++ fr)) (hdk : 10 ≤ dk)  (n : Nat) (v : Int32 × (Nat → Int32) × Int32 × Int32 × Int32 × Int32 × Int32 × Int32 × Int32 × Int32) (hf : f_X11_readSum_5 fu m_texts m_tape m_read ke n v = some r) : J l G (rmD (dk + 2) 0 0) Y 0 0 5 [(0, .ref (gm G 0)), (1, .int v.1)] [] (WM G m_code m_people m_grants m_texts m_copies m_taped m_faultPlace m_isFemale m_born m_died m_father m_mother m_fatherGrade m_motherGrade m_grantTo m_grantArms m_grantYear m_copyYear m_copyRow m_tape m_textYear m_ruleMany m_ruleFrom v.2.1 m_stack m_ruleKind v.2.2.1 v.2.2.2.1 m_read v.2.2.2.2.1 v.2.2.2.2.2.1 v.2.2.2.2.2.2.1 v.2.2.2.2.2.2.2.1 v.2.2.2.2.2.2.2.2.1 v.2.2.2.2.2.2.2.2.2 m_top m_lineLives m_markRow m_quarterMany m_quarters m_isUp m_wasUp ++ fr) :=
  lp_ind (P := fun v : Int32 × (Nat → Int32) × Int32 × Int32 × Int32 × Int32 × Int32 × Int32 × Int32 × Int32 => J l G (rmD (dk + 2) 0 0) Y 0 0 5 [(0, .ref (gm G 0)), (1, .int v.1)] [] (WM G m_code m_people m_grants m_texts m_copies m_taped m_faultPlace m_isFemale m_born m_died m_father m_mother m_fatherGrade m_motherGrade m_grantTo m_grantArms m_grantYear m_copyYear m_copyRow m_tape m_textYear m_ruleMany m_ruleFrom v.2.1 m_stack m_ruleKind v.2.2.1 v.2.2.2.1 m_read v.2.2.2.2.1 v.2.2.2.2.2.1 v.2.2.2.2.2.2.1 v.2.2.2.2.2.2.2.1 v.2.2.2.2.2.2.2.2.1 v.2.2.2.2.2.2.2.2.2 m_top m_lineLives m_markRow m_quarterMany m_quarters m_isUp m_wasUp ++ fr)) (fun k hk v hf => t_X11_readSum_5 hX hQ hke hdk  (fun x1 m_codeRow m_codes m_at m_token m_sign m_begins m_ends m_bad m_badPlace h => hk (x1, m_codeRow, m_codes, m_at, m_token, m_sign, m_begins, m_ends, m_bad, m_badPlace) h) v.1 hf) n v hf
def f_X11_readSum (fu : Nat) (m_texts : Int32) (m_tape : Nat → Int32) (m_read : Int32) (m_codeRow : Nat → Int32) (m_codes : Int32) (m_at : Int32) (m_token : Int32) (m_sign : Int32) (m_begins : Int32) (m_ends : Int32) (m_bad : Int32) (m_badPlace : Int32) (ke : Int32 → (Nat → Int32) → Int32 → Int32 → Int32 → Int32 → Int32 → Int32 → Int32 → Int32 → Option ((Nat → Int32) × Int32 × Int32 × Int32 × Int32 × Int32 × Int32 × Int32 × Int32)) (x1 : Int32) : Option ((Nat → Int32) × Int32 × Int32 × Int32 × Int32 × Int32 × Int32 × Int32 × Int32) :=
  (f_X11_readPart fu m_texts m_tape m_read m_codeRow m_codes m_at m_token m_sign m_begins m_ends m_bad m_badPlace ke x1).bind fun v1 => f_X11_readSum_5 fu m_texts m_tape m_read ke fu (x1, v1.1, v1.2.1, v1.2.2.1, v1.2.2.2.1, v1.2.2.2.2.1, v1.2.2.2.2.2.1, v1.2.2.2.2.2.2.1, v1.2.2.2.2.2.2.2.1, v1.2.2.2.2.2.2.2.2)
set_option maxRecDepth 100000 in
set_option maxHeartbeats 4000000 in
theorem t_X11_readSum {fu : Nat}  {dk : Nat} {ke : Int32 → (Nat → Int32) → Int32 → Int32 → Int32 → Int32 → Int32 → Int32 → Int32 → Int32 → Option ((Nat → Int32) × Int32 × Int32 × Int32 × Int32 × Int32 × Int32 × Int32 × Int32)} (hke : ∀ (x1 : Int32) (m_codeRow : Nat → Int32) (m_codes : Int32) (m_at : Int32) (m_token : Int32) (m_sign : Int32) (m_begins : Int32) (m_ends : Int32) (m_bad : Int32) (m_badPlace : Int32) (r : (Nat → Int32) × Int32 × Int32 × Int32 × Int32 × Int32 × Int32 × Int32 × Int32), ke x1 m_codeRow m_codes m_at m_token m_sign m_begins m_ends m_bad m_badPlace = some r → Cv l G dk 0 0 yX11_readExpression cX11_readExpression 4 [.ref (gm G 0), .int x1] (WM G m_code m_people m_grants m_texts m_copies m_taped m_faultPlace m_isFemale m_born m_died m_father m_mother m_fatherGrade m_motherGrade m_grantTo m_grantArms m_grantYear m_copyYear m_copyRow m_tape m_textYear m_ruleMany m_ruleFrom m_codeRow m_stack m_ruleKind m_codes m_at m_read m_token m_sign m_begins m_ends m_bad m_badPlace m_top m_lineLives m_markRow m_quarterMany m_quarters m_isUp m_wasUp ++ fr) (WM G m_code m_people m_grants m_texts m_copies m_taped m_faultPlace m_isFemale m_born m_died m_father m_mother m_fatherGrade m_motherGrade m_grantTo m_grantArms m_grantYear m_copyYear m_copyRow m_tape m_textYear m_ruleMany m_ruleFrom r.1 m_stack m_ruleKind r.2.1 r.2.2.1 m_read r.2.2.2.1 r.2.2.2.2.1 r.2.2.2.2.2.1 r.2.2.2.2.2.2.1 r.2.2.2.2.2.2.2.1 r.2.2.2.2.2.2.2.2 m_top m_lineLives m_markRow m_quarterMany m_quarters m_isUp m_wasUp ++ fr)) (hdk : 10 ≤ dk) (x1 : Int32) {r : (Nat → Int32) × Int32 × Int32 × Int32 × Int32 × Int32 × Int32 × Int32 × Int32} (hf : f_X11_readSum fu m_texts m_tape m_read m_codeRow m_codes m_at m_token m_sign m_begins m_ends m_bad m_badPlace ke x1 = some r) : Cv l G (dk + 2) 0 0 yX11_readSum cX11_readSum 3 [.ref (gm G 0), .int x1] (WM G m_code m_people m_grants m_texts m_copies m_taped m_faultPlace m_isFemale m_born m_died m_father m_mother m_fatherGrade m_motherGrade m_grantTo m_grantArms m_grantYear m_copyYear m_copyRow m_tape m_textYear m_ruleMany m_ruleFrom m_codeRow m_stack m_ruleKind m_codes m_at m_read m_token m_sign m_begins m_ends m_bad m_badPlace m_top m_lineLives m_markRow m_quarterMany m_quarters m_isUp m_wasUp ++ fr) (WM G m_code m_people m_grants m_texts m_copies m_taped m_faultPlace m_isFemale m_born m_died m_father m_mother m_fatherGrade m_motherGrade m_grantTo m_grantArms m_grantYear m_copyYear m_copyRow m_tape m_textYear m_ruleMany m_ruleFrom r.1 m_stack m_ruleKind r.2.1 r.2.2.1 m_read r.2.2.2.1 r.2.2.2.2.1 r.2.2.2.2.2.1 r.2.2.2.2.2.2.1 r.2.2.2.2.2.2.2.1 r.2.2.2.2.2.2.2.2 m_top m_lineLives m_markRow m_quarterMany m_quarters m_isUp m_wasUp ++ fr) := by
  refine Cv.of (by decide) (Nat.le_of_ble_eq_true rfl) (fun Y hX hQ => ?_)
  refine j_lv (lv' := [(0, .ref (gm G 0)), (1, .int x1)]) rfl ?_
  unfold f_X11_readSum at hf
  refine j_aload_n hX dX11_readSum_0 1 rfl 0 rfl rfl ?_
  refine j_iload_n hX dX11_readSum_1 2 rfl 1 rfl rfl ?_
  obtain ⟨v1, hv1, hf⟩ := ibd hf
  refine z_v (As := [.int x1]) (rest := []) (q0 := 0) hX dX11_readSum_2 5 rfl (t_X11_readPart hke hdk x1 hv1) mc_X11_readPart mv_X11_readPart ml_X11_283 rfl rfl (by omega) (Nat.le_refl _) (Nat.le_refl _) rfl (Nat.le_of_ble_eq_true rfl) ?_
  exact u_X11_readSum_5 hX hQ hke hdk  fu (x1, v1.1, v1.2.1, v1.2.2.1, v1.2.2.2.1, v1.2.2.2.2.1, v1.2.2.2.2.2.1, v1.2.2.2.2.2.2.1, v1.2.2.2.2.2.2.2.1, v1.2.2.2.2.2.2.2.2) hf
def g_X11_readTest_85 (m_codeRow : Nat → Int32) (m_codes : Int32) (m_at : Int32) (m_token : Int32) (m_sign : Int32) (m_begins : Int32) (m_ends : Int32) (m_bad : Int32) (m_badPlace : Int32) : Option ((Nat → Int32) × Int32 × Int32 × Int32 × Int32 × Int32 × Int32 × Int32 × Int32) :=
  some (m_codeRow, m_codes, m_at, m_token, m_sign, m_begins, m_ends, m_bad, m_badPlace)
set_option maxRecDepth 100000 in
set_option maxHeartbeats 4000000 in
theorem t_X11_readTest_85 {Y : YT} {r : (Nat → Int32) × Int32 × Int32 × Int32 × Int32 × Int32 × Int32 × Int32 × Int32}  (hX : CX l G cX11_readTest 4 RX11 Y) (hQ : EQv G Y 0 0 (WM G m_code m_people m_grants m_texts m_copies m_taped m_faultPlace m_isFemale m_born m_died m_father m_mother m_fatherGrade m_motherGrade m_grantTo m_grantArms m_grantYear m_copyYear m_copyRow m_tape m_textYear m_ruleMany m_ruleFrom r.1 m_stack m_ruleKind r.2.1 r.2.2.1 m_read r.2.2.2.1 r.2.2.2.2.1 r.2.2.2.2.2.1 r.2.2.2.2.2.2.1 r.2.2.2.2.2.2.2.1 r.2.2.2.2.2.2.2.2 m_top m_lineLives m_markRow m_quarterMany m_quarters m_isUp m_wasUp ++ fr)) {dk : Nat} {ke : Int32 → (Nat → Int32) → Int32 → Int32 → Int32 → Int32 → Int32 → Int32 → Int32 → Int32 → Option ((Nat → Int32) × Int32 × Int32 × Int32 × Int32 × Int32 × Int32 × Int32 × Int32)} (hke : ∀ (x1 : Int32) (m_codeRow : Nat → Int32) (m_codes : Int32) (m_at : Int32) (m_token : Int32) (m_sign : Int32) (m_begins : Int32) (m_ends : Int32) (m_bad : Int32) (m_badPlace : Int32) (r : (Nat → Int32) × Int32 × Int32 × Int32 × Int32 × Int32 × Int32 × Int32 × Int32), ke x1 m_codeRow m_codes m_at m_token m_sign m_begins m_ends m_bad m_badPlace = some r → Cv l G dk 0 0 yX11_readExpression cX11_readExpression 4 [.ref (gm G 0), .int x1] (WM G m_code m_people m_grants m_texts m_copies m_taped m_faultPlace m_isFemale m_born m_died m_father m_mother m_fatherGrade m_motherGrade m_grantTo m_grantArms m_grantYear m_copyYear m_copyRow m_tape m_textYear m_ruleMany m_ruleFrom m_codeRow m_stack m_ruleKind m_codes m_at m_read m_token m_sign m_begins m_ends m_bad m_badPlace m_top m_lineLives m_markRow m_quarterMany m_quarters m_isUp m_wasUp ++ fr) (WM G m_code m_people m_grants m_texts m_copies m_taped m_faultPlace m_isFemale m_born m_died m_father m_mother m_fatherGrade m_motherGrade m_grantTo m_grantArms m_grantYear m_copyYear m_copyRow m_tape m_textYear m_ruleMany m_ruleFrom r.1 m_stack m_ruleKind r.2.1 r.2.2.1 m_read r.2.2.2.1 r.2.2.2.2.1 r.2.2.2.2.2.1 r.2.2.2.2.2.2.1 r.2.2.2.2.2.2.2.1 r.2.2.2.2.2.2.2.2 m_top m_lineLives m_markRow m_quarterMany m_quarters m_isUp m_wasUp ++ fr)) (hdk : 10 ≤ dk)   (hf : g_X11_readTest_85 m_codeRow m_codes m_at m_token m_sign m_begins m_ends m_bad m_badPlace = some r) : J l G (rmD (dk + 3) 0 0) Y 0 0 85 [] [] (WM G m_code m_people m_grants m_texts m_copies m_taped m_faultPlace m_isFemale m_born m_died m_father m_mother m_fatherGrade m_motherGrade m_grantTo m_grantArms m_grantYear m_copyYear m_copyRow m_tape m_textYear m_ruleMany m_ruleFrom m_codeRow m_stack m_ruleKind m_codes m_at m_read m_token m_sign m_begins m_ends m_bad m_badPlace m_top m_lineLives m_markRow m_quarterMany m_quarters m_isUp m_wasUp ++ fr) := by
  unfold g_X11_readTest_85 at hf
  replace hf := Option.some.inj hf
  subst hf
  exact j_vret hX hQ dX11_readTest_85
def g_X11_readTest_75 (m_texts : Int32) (m_codeRow : Nat → Int32) (m_codes : Int32) (m_at : Int32) (m_token : Int32) (m_sign : Int32) (m_begins : Int32) (m_ends : Int32) (m_bad : Int32) (m_badPlace : Int32) (x2 : Int32) : Option ((Nat → Int32) × Int32 × Int32 × Int32 × Int32 × Int32 × Int32 × Int32 × Int32) :=
  if x2 = 0 then g_X11_readTest_85 m_codeRow m_codes m_at m_token m_sign m_begins m_ends m_bad m_badPlace else (f_X11_emit m_texts m_bad m_codeRow m_codes 7).bind fun v6 => g_X11_readTest_85 v6.1 v6.2 m_at m_token m_sign m_begins m_ends m_bad m_badPlace
set_option maxRecDepth 100000 in
set_option maxHeartbeats 4000000 in
theorem t_X11_readTest_75 {Y : YT} {r : (Nat → Int32) × Int32 × Int32 × Int32 × Int32 × Int32 × Int32 × Int32 × Int32}  (hX : CX l G cX11_readTest 4 RX11 Y) (hQ : EQv G Y 0 0 (WM G m_code m_people m_grants m_texts m_copies m_taped m_faultPlace m_isFemale m_born m_died m_father m_mother m_fatherGrade m_motherGrade m_grantTo m_grantArms m_grantYear m_copyYear m_copyRow m_tape m_textYear m_ruleMany m_ruleFrom r.1 m_stack m_ruleKind r.2.1 r.2.2.1 m_read r.2.2.2.1 r.2.2.2.2.1 r.2.2.2.2.2.1 r.2.2.2.2.2.2.1 r.2.2.2.2.2.2.2.1 r.2.2.2.2.2.2.2.2 m_top m_lineLives m_markRow m_quarterMany m_quarters m_isUp m_wasUp ++ fr)) {dk : Nat} {ke : Int32 → (Nat → Int32) → Int32 → Int32 → Int32 → Int32 → Int32 → Int32 → Int32 → Int32 → Option ((Nat → Int32) × Int32 × Int32 × Int32 × Int32 × Int32 × Int32 × Int32 × Int32)} (hke : ∀ (x1 : Int32) (m_codeRow : Nat → Int32) (m_codes : Int32) (m_at : Int32) (m_token : Int32) (m_sign : Int32) (m_begins : Int32) (m_ends : Int32) (m_bad : Int32) (m_badPlace : Int32) (r : (Nat → Int32) × Int32 × Int32 × Int32 × Int32 × Int32 × Int32 × Int32 × Int32), ke x1 m_codeRow m_codes m_at m_token m_sign m_begins m_ends m_bad m_badPlace = some r → Cv l G dk 0 0 yX11_readExpression cX11_readExpression 4 [.ref (gm G 0), .int x1] (WM G m_code m_people m_grants m_texts m_copies m_taped m_faultPlace m_isFemale m_born m_died m_father m_mother m_fatherGrade m_motherGrade m_grantTo m_grantArms m_grantYear m_copyYear m_copyRow m_tape m_textYear m_ruleMany m_ruleFrom m_codeRow m_stack m_ruleKind m_codes m_at m_read m_token m_sign m_begins m_ends m_bad m_badPlace m_top m_lineLives m_markRow m_quarterMany m_quarters m_isUp m_wasUp ++ fr) (WM G m_code m_people m_grants m_texts m_copies m_taped m_faultPlace m_isFemale m_born m_died m_father m_mother m_fatherGrade m_motherGrade m_grantTo m_grantArms m_grantYear m_copyYear m_copyRow m_tape m_textYear m_ruleMany m_ruleFrom r.1 m_stack m_ruleKind r.2.1 r.2.2.1 m_read r.2.2.2.1 r.2.2.2.2.1 r.2.2.2.2.2.1 r.2.2.2.2.2.2.1 r.2.2.2.2.2.2.2.1 r.2.2.2.2.2.2.2.2 m_top m_lineLives m_markRow m_quarterMany m_quarters m_isUp m_wasUp ++ fr)) (hdk : 10 ≤ dk)  (x2 : Int32) (hf : g_X11_readTest_75 m_texts m_codeRow m_codes m_at m_token m_sign m_begins m_ends m_bad m_badPlace x2 = some r) : J l G (rmD (dk + 3) 0 0) Y 0 0 75 [(0, .ref (gm G 0)), (2, .int x2)] [] (WM G m_code m_people m_grants m_texts m_copies m_taped m_faultPlace m_isFemale m_born m_died m_father m_mother m_fatherGrade m_motherGrade m_grantTo m_grantArms m_grantYear m_copyYear m_copyRow m_tape m_textYear m_ruleMany m_ruleFrom m_codeRow m_stack m_ruleKind m_codes m_at m_read m_token m_sign m_begins m_ends m_bad m_badPlace m_top m_lineLives m_markRow m_quarterMany m_quarters m_isUp m_wasUp ++ fr) := by
  unfold g_X11_readTest_75 at hf
  refine j_iload_n hX dX11_readTest_75 76 rfl 1 rfl rfl ?_
  refine j_if_eq hX dX11_readTest_76 79 85 rfl rfl (fun h5 => ?_) (fun h5 => ?_)
  · replace hf := itt h5 hf
    refine j_sub [] rfl ?_
    exact t_X11_readTest_85 hX hQ hke hdk   hf
  · replace hf := itf h5 hf
    refine j_aload_n hX dX11_readTest_79 80 rfl 0 rfl rfl ?_
    refine j_bipush (v := 7) hX dX11_readTest_80 82 rfl (by decide) ?_
    obtain ⟨v6, hv6, hf⟩ := ibd hf
    refine z_v (As := [.int 7]) (rest := []) (q0 := 0) hX dX11_readTest_82 85 rfl (t_X11_emit 7 hv6) mc_X11_emit mv_X11_emit ml_X11_275 rfl rfl (by omega) (Nat.le_refl _) (Nat.le_refl _) rfl (Nat.le_of_ble_eq_true rfl) ?_
    refine j_sub [] rfl ?_
    exact t_X11_readTest_85 hX hQ hke hdk   hf
def g_X11_readTest_60 (fu : Nat) (m_texts : Int32) (m_tape : Nat → Int32) (m_read : Int32) (m_codeRow : Nat → Int32) (m_codes : Int32) (m_at : Int32) (m_token : Int32) (m_sign : Int32) (m_begins : Int32) (m_ends : Int32) (m_bad : Int32) (m_badPlace : Int32) (ke : Int32 → (Nat → Int32) → Int32 → Int32 → Int32 → Int32 → Int32 → Int32 → Int32 → Int32 → Option ((Nat → Int32) × Int32 × Int32 × Int32 × Int32 × Int32 × Int32 × Int32 × Int32)) (x1 : Int32) (x2 : Int32) (s0 : Int32) : Option ((Nat → Int32) × Int32 × Int32 × Int32 × Int32 × Int32 × Int32 × Int32 × Int32) :=
  (f_X11_step fu m_tape m_read m_at m_token m_sign m_begins m_ends).bind fun v11 => (f_X11_readSum fu m_texts m_tape m_read m_codeRow m_codes v11.1 v11.2.1 v11.2.2.1 v11.2.2.2.1 v11.2.2.2.2 m_bad m_badPlace ke x1).bind fun v12 => (f_X11_emit m_texts v12.2.2.2.2.2.2.2.1 v12.1 v12.2.1 s0).bind fun v13 => g_X11_readTest_75 m_texts v13.1 v13.2 v12.2.2.1 v12.2.2.2.1 v12.2.2.2.2.1 v12.2.2.2.2.2.1 v12.2.2.2.2.2.2.1 v12.2.2.2.2.2.2.2.1 v12.2.2.2.2.2.2.2.2 x2
set_option maxRecDepth 100000 in
set_option maxHeartbeats 4000000 in
theorem t_X11_readTest_60 {fu : Nat} {Y : YT} {r : (Nat → Int32) × Int32 × Int32 × Int32 × Int32 × Int32 × Int32 × Int32 × Int32}  (hX : CX l G cX11_readTest 4 RX11 Y) (hQ : EQv G Y 0 0 (WM G m_code m_people m_grants m_texts m_copies m_taped m_faultPlace m_isFemale m_born m_died m_father m_mother m_fatherGrade m_motherGrade m_grantTo m_grantArms m_grantYear m_copyYear m_copyRow m_tape m_textYear m_ruleMany m_ruleFrom r.1 m_stack m_ruleKind r.2.1 r.2.2.1 m_read r.2.2.2.1 r.2.2.2.2.1 r.2.2.2.2.2.1 r.2.2.2.2.2.2.1 r.2.2.2.2.2.2.2.1 r.2.2.2.2.2.2.2.2 m_top m_lineLives m_markRow m_quarterMany m_quarters m_isUp m_wasUp ++ fr)) {dk : Nat} {ke : Int32 → (Nat → Int32) → Int32 → Int32 → Int32 → Int32 → Int32 → Int32 → Int32 → Int32 → Option ((Nat → Int32) × Int32 × Int32 × Int32 × Int32 × Int32 × Int32 × Int32 × Int32)} (hke : ∀ (x1 : Int32) (m_codeRow : Nat → Int32) (m_codes : Int32) (m_at : Int32) (m_token : Int32) (m_sign : Int32) (m_begins : Int32) (m_ends : Int32) (m_bad : Int32) (m_badPlace : Int32) (r : (Nat → Int32) × Int32 × Int32 × Int32 × Int32 × Int32 × Int32 × Int32 × Int32), ke x1 m_codeRow m_codes m_at m_token m_sign m_begins m_ends m_bad m_badPlace = some r → Cv l G dk 0 0 yX11_readExpression cX11_readExpression 4 [.ref (gm G 0), .int x1] (WM G m_code m_people m_grants m_texts m_copies m_taped m_faultPlace m_isFemale m_born m_died m_father m_mother m_fatherGrade m_motherGrade m_grantTo m_grantArms m_grantYear m_copyYear m_copyRow m_tape m_textYear m_ruleMany m_ruleFrom m_codeRow m_stack m_ruleKind m_codes m_at m_read m_token m_sign m_begins m_ends m_bad m_badPlace m_top m_lineLives m_markRow m_quarterMany m_quarters m_isUp m_wasUp ++ fr) (WM G m_code m_people m_grants m_texts m_copies m_taped m_faultPlace m_isFemale m_born m_died m_father m_mother m_fatherGrade m_motherGrade m_grantTo m_grantArms m_grantYear m_copyYear m_copyRow m_tape m_textYear m_ruleMany m_ruleFrom r.1 m_stack m_ruleKind r.2.1 r.2.2.1 m_read r.2.2.2.1 r.2.2.2.2.1 r.2.2.2.2.2.1 r.2.2.2.2.2.2.1 r.2.2.2.2.2.2.2.1 r.2.2.2.2.2.2.2.2 m_top m_lineLives m_markRow m_quarterMany m_quarters m_isUp m_wasUp ++ fr)) (hdk : 10 ≤ dk)  (x1 : Int32) (x2 : Int32) (s0 : Int32) (hf : g_X11_readTest_60 fu m_texts m_tape m_read m_codeRow m_codes m_at m_token m_sign m_begins m_ends m_bad m_badPlace ke x1 x2 s0 = some r) : J l G (rmD (dk + 3) 0 0) Y 0 0 60 [(0, .ref (gm G 0)), (1, .int x1), (2, .int x2)] [.int s0] (WM G m_code m_people m_grants m_texts m_copies m_taped m_faultPlace m_isFemale m_born m_died m_father m_mother m_fatherGrade m_motherGrade m_grantTo m_grantArms m_grantYear m_copyYear m_copyRow m_tape m_textYear m_ruleMany m_ruleFrom m_codeRow m_stack m_ruleKind m_codes m_at m_read m_token m_sign m_begins m_ends m_bad m_badPlace m_top m_lineLives m_markRow m_quarterMany m_quarters m_isUp m_wasUp ++ fr) := by
  unfold g_X11_readTest_60 at hf
  refine j_istore_n hX dX11_readTest_60 61 rfl rfl (by decide) (lv' := [(3, .int s0), (0, .ref (gm G 0)), (1, .int x1), (2, .int x2)]) rfl ?_
  refine j_aload_n hX dX11_readTest_61 62 rfl 1 rfl rfl ?_
  obtain ⟨v11, hv11, hf⟩ := ibd hf
  refine z_v (As := []) (rest := []) (q0 := 0) hX dX11_readTest_62 65 rfl (t_X11_step  hv11) mc_X11_step mv_X11_step ml_X11_246 rfl rfl (by omega) (Nat.le_refl _) (Nat.le_refl _) rfl (Nat.le_of_ble_eq_true rfl) ?_
  refine j_aload_n hX dX11_readTest_65 66 rfl 1 rfl rfl ?_
  refine j_iload_n hX dX11_readTest_66 67 rfl 2 rfl rfl ?_
  obtain ⟨v12, hv12, hf⟩ := ibd hf
  refine z_v (As := [.int x1]) (rest := []) (q0 := 0) hX dX11_readTest_67 70 rfl (t_X11_readSum hke hdk x1 hv12) mc_X11_readSum mv_X11_readSum ml_X11_280 rfl rfl (by omega) (Nat.le_refl _) (Nat.le_refl _) rfl (Nat.le_of_ble_eq_true rfl) ?_
  refine j_aload_n hX dX11_readTest_70 71 rfl 1 rfl rfl ?_
  refine j_iload_n hX dX11_readTest_71 72 rfl 0 rfl rfl ?_
  obtain ⟨v13, hv13, hf⟩ := ibd hf
  refine z_v (As := [.int s0]) (rest := []) (q0 := 0) hX dX11_readTest_72 75 rfl (t_X11_emit s0 hv13) mc_X11_emit mv_X11_emit ml_X11_275 rfl rfl (by omega) (Nat.le_refl _) (Nat.le_refl _) rfl (Nat.le_of_ble_eq_true rfl) ?_
  refine j_sub [1, 3] rfl ?_
  exact t_X11_readTest_75 hX hQ hke hdk  x2 hf
def g_X11_readTest_46 (fu : Nat) (m_texts : Int32) (m_tape : Nat → Int32) (m_read : Int32) (m_codeRow : Nat → Int32) (m_codes : Int32) (m_at : Int32) (m_token : Int32) (m_sign : Int32) (m_begins : Int32) (m_ends : Int32) (m_bad : Int32) (m_badPlace : Int32) (ke : Int32 → (Nat → Int32) → Int32 → Int32 → Int32 → Int32 → Int32 → Int32 → Int32 → Int32 → Option ((Nat → Int32) × Int32 × Int32 × Int32 × Int32 × Int32 × Int32 × Int32 × Int32)) (x1 : Int32) (x2 : Int32) : Option ((Nat → Int32) × Int32 × Int32 × Int32 × Int32 × Int32 × Int32 × Int32 × Int32) :=
  (f_X11_isSign m_token m_sign 60).bind fun v9 => if v9 = 0 then g_X11_readTest_60 fu m_texts m_tape m_read m_codeRow m_codes m_at m_token m_sign m_begins m_ends m_bad m_badPlace ke x1 x2 4 else g_X11_readTest_60 fu m_texts m_tape m_read m_codeRow m_codes m_at m_token m_sign m_begins m_ends m_bad m_badPlace ke x1 x2 3
set_option maxRecDepth 100000 in
set_option maxHeartbeats 4000000 in
theorem t_X11_readTest_46 {fu : Nat} {Y : YT} {r : (Nat → Int32) × Int32 × Int32 × Int32 × Int32 × Int32 × Int32 × Int32 × Int32}  (hX : CX l G cX11_readTest 4 RX11 Y) (hQ : EQv G Y 0 0 (WM G m_code m_people m_grants m_texts m_copies m_taped m_faultPlace m_isFemale m_born m_died m_father m_mother m_fatherGrade m_motherGrade m_grantTo m_grantArms m_grantYear m_copyYear m_copyRow m_tape m_textYear m_ruleMany m_ruleFrom r.1 m_stack m_ruleKind r.2.1 r.2.2.1 m_read r.2.2.2.1 r.2.2.2.2.1 r.2.2.2.2.2.1 r.2.2.2.2.2.2.1 r.2.2.2.2.2.2.2.1 r.2.2.2.2.2.2.2.2 m_top m_lineLives m_markRow m_quarterMany m_quarters m_isUp m_wasUp ++ fr)) {dk : Nat} {ke : Int32 → (Nat → Int32) → Int32 → Int32 → Int32 → Int32 → Int32 → Int32 → Int32 → Int32 → Option ((Nat → Int32) × Int32 × Int32 × Int32 × Int32 × Int32 × Int32 × Int32 × Int32)} (hke : ∀ (x1 : Int32) (m_codeRow : Nat → Int32) (m_codes : Int32) (m_at : Int32) (m_token : Int32) (m_sign : Int32) (m_begins : Int32) (m_ends : Int32) (m_bad : Int32) (m_badPlace : Int32) (r : (Nat → Int32) × Int32 × Int32 × Int32 × Int32 × Int32 × Int32 × Int32 × Int32), ke x1 m_codeRow m_codes m_at m_token m_sign m_begins m_ends m_bad m_badPlace = some r → Cv l G dk 0 0 yX11_readExpression cX11_readExpression 4 [.ref (gm G 0), .int x1] (WM G m_code m_people m_grants m_texts m_copies m_taped m_faultPlace m_isFemale m_born m_died m_father m_mother m_fatherGrade m_motherGrade m_grantTo m_grantArms m_grantYear m_copyYear m_copyRow m_tape m_textYear m_ruleMany m_ruleFrom m_codeRow m_stack m_ruleKind m_codes m_at m_read m_token m_sign m_begins m_ends m_bad m_badPlace m_top m_lineLives m_markRow m_quarterMany m_quarters m_isUp m_wasUp ++ fr) (WM G m_code m_people m_grants m_texts m_copies m_taped m_faultPlace m_isFemale m_born m_died m_father m_mother m_fatherGrade m_motherGrade m_grantTo m_grantArms m_grantYear m_copyYear m_copyRow m_tape m_textYear m_ruleMany m_ruleFrom r.1 m_stack m_ruleKind r.2.1 r.2.2.1 m_read r.2.2.2.1 r.2.2.2.2.1 r.2.2.2.2.2.1 r.2.2.2.2.2.2.1 r.2.2.2.2.2.2.2.1 r.2.2.2.2.2.2.2.2 m_top m_lineLives m_markRow m_quarterMany m_quarters m_isUp m_wasUp ++ fr)) (hdk : 10 ≤ dk)  (x1 : Int32) (x2 : Int32) (hf : g_X11_readTest_46 fu m_texts m_tape m_read m_codeRow m_codes m_at m_token m_sign m_begins m_ends m_bad m_badPlace ke x1 x2 = some r) : J l G (rmD (dk + 3) 0 0) Y 0 0 46 [(0, .ref (gm G 0)), (1, .int x1), (2, .int x2)] [] (WM G m_code m_people m_grants m_texts m_copies m_taped m_faultPlace m_isFemale m_born m_died m_father m_mother m_fatherGrade m_motherGrade m_grantTo m_grantArms m_grantYear m_copyYear m_copyRow m_tape m_textYear m_ruleMany m_ruleFrom m_codeRow m_stack m_ruleKind m_codes m_at m_read m_token m_sign m_begins m_ends m_bad m_badPlace m_top m_lineLives m_markRow m_quarterMany m_quarters m_isUp m_wasUp ++ fr) := by
  unfold g_X11_readTest_46 at hf
  refine j_aload_n hX dX11_readTest_46 47 rfl 0 rfl rfl ?_
  refine j_bipush (v := 60) hX dX11_readTest_47 49 rfl (by decide) ?_
  obtain ⟨v9, hv9, hf⟩ := ibd hf
  refine z_i (As := [.int 60]) (rest := []) (q0 := 0) hX dX11_readTest_49 52 rfl (t_X11_isSign 60 hv9) mc_X11_isSign mv_X11_isSign ml_X11_265 rfl rfl (by omega) (Nat.le_refl _) (Nat.le_refl _) rfl (Nat.le_of_ble_eq_true rfl) ?_
  refine j_if_eq hX dX11_readTest_52 55 59 rfl rfl (fun h10 => ?_) (fun h10 => ?_)
  · replace hf := itt h10 hf
    refine j_iconst (v := 4) hX dX11_readTest_59 60 rfl (by decide) ?_
    exact t_X11_readTest_60 hX hQ hke hdk  x1 x2 4 hf
  · replace hf := itf h10 hf
    refine j_iconst (v := 3) hX dX11_readTest_55 56 rfl (by decide) ?_
    refine j_goto hX dX11_readTest_56 60 rfl ?_
    exact t_X11_readTest_60 hX hQ hke hdk  x1 x2 3 hf
def g_X11_readTest_16 (fu : Nat) (m_texts : Int32) (m_tape : Nat → Int32) (m_read : Int32) (m_codeRow : Nat → Int32) (m_codes : Int32) (m_at : Int32) (m_token : Int32) (m_sign : Int32) (m_begins : Int32) (m_ends : Int32) (m_bad : Int32) (m_badPlace : Int32) (ke : Int32 → (Nat → Int32) → Int32 → Int32 → Int32 → Int32 → Int32 → Int32 → Int32 → Int32 → Option ((Nat → Int32) × Int32 × Int32 × Int32 × Int32 × Int32 × Int32 × Int32 × Int32)) (x1 : Int32) (x2 : Int32) : Option ((Nat → Int32) × Int32 × Int32 × Int32 × Int32 × Int32 × Int32 × Int32 × Int32) :=
  (f_X11_readSum fu m_texts m_tape m_read m_codeRow m_codes m_at m_token m_sign m_begins m_ends m_bad m_badPlace ke x1).bind fun v3 => if v3.2.2.2.2.2.2.2.1 = 0 then (f_X11_isSign v3.2.2.2.1 v3.2.2.2.2.1 60).bind fun v7 => if v7 = 0 then (f_X11_isSign v3.2.2.2.1 v3.2.2.2.2.1 61).bind fun v14 => if v14 = 0 then g_X11_readTest_75 m_texts v3.1 v3.2.1 v3.2.2.1 v3.2.2.2.1 v3.2.2.2.2.1 v3.2.2.2.2.2.1 v3.2.2.2.2.2.2.1 v3.2.2.2.2.2.2.2.1 v3.2.2.2.2.2.2.2.2 x2 else g_X11_readTest_46 fu m_texts m_tape m_read v3.1 v3.2.1 v3.2.2.1 v3.2.2.2.1 v3.2.2.2.2.1 v3.2.2.2.2.2.1 v3.2.2.2.2.2.2.1 v3.2.2.2.2.2.2.2.1 v3.2.2.2.2.2.2.2.2 ke x1 x2 else g_X11_readTest_46 fu m_texts m_tape m_read v3.1 v3.2.1 v3.2.2.1 v3.2.2.2.1 v3.2.2.2.2.1 v3.2.2.2.2.2.1 v3.2.2.2.2.2.2.1 v3.2.2.2.2.2.2.2.1 v3.2.2.2.2.2.2.2.2 ke x1 x2 else g_X11_readTest_75 m_texts v3.1 v3.2.1 v3.2.2.1 v3.2.2.2.1 v3.2.2.2.2.1 v3.2.2.2.2.2.1 v3.2.2.2.2.2.2.1 v3.2.2.2.2.2.2.2.1 v3.2.2.2.2.2.2.2.2 x2
set_option maxRecDepth 100000 in
set_option maxHeartbeats 4000000 in
theorem t_X11_readTest_16 {fu : Nat} {Y : YT} {r : (Nat → Int32) × Int32 × Int32 × Int32 × Int32 × Int32 × Int32 × Int32 × Int32}  (hX : CX l G cX11_readTest 4 RX11 Y) (hQ : EQv G Y 0 0 (WM G m_code m_people m_grants m_texts m_copies m_taped m_faultPlace m_isFemale m_born m_died m_father m_mother m_fatherGrade m_motherGrade m_grantTo m_grantArms m_grantYear m_copyYear m_copyRow m_tape m_textYear m_ruleMany m_ruleFrom r.1 m_stack m_ruleKind r.2.1 r.2.2.1 m_read r.2.2.2.1 r.2.2.2.2.1 r.2.2.2.2.2.1 r.2.2.2.2.2.2.1 r.2.2.2.2.2.2.2.1 r.2.2.2.2.2.2.2.2 m_top m_lineLives m_markRow m_quarterMany m_quarters m_isUp m_wasUp ++ fr)) {dk : Nat} {ke : Int32 → (Nat → Int32) → Int32 → Int32 → Int32 → Int32 → Int32 → Int32 → Int32 → Int32 → Option ((Nat → Int32) × Int32 × Int32 × Int32 × Int32 × Int32 × Int32 × Int32 × Int32)} (hke : ∀ (x1 : Int32) (m_codeRow : Nat → Int32) (m_codes : Int32) (m_at : Int32) (m_token : Int32) (m_sign : Int32) (m_begins : Int32) (m_ends : Int32) (m_bad : Int32) (m_badPlace : Int32) (r : (Nat → Int32) × Int32 × Int32 × Int32 × Int32 × Int32 × Int32 × Int32 × Int32), ke x1 m_codeRow m_codes m_at m_token m_sign m_begins m_ends m_bad m_badPlace = some r → Cv l G dk 0 0 yX11_readExpression cX11_readExpression 4 [.ref (gm G 0), .int x1] (WM G m_code m_people m_grants m_texts m_copies m_taped m_faultPlace m_isFemale m_born m_died m_father m_mother m_fatherGrade m_motherGrade m_grantTo m_grantArms m_grantYear m_copyYear m_copyRow m_tape m_textYear m_ruleMany m_ruleFrom m_codeRow m_stack m_ruleKind m_codes m_at m_read m_token m_sign m_begins m_ends m_bad m_badPlace m_top m_lineLives m_markRow m_quarterMany m_quarters m_isUp m_wasUp ++ fr) (WM G m_code m_people m_grants m_texts m_copies m_taped m_faultPlace m_isFemale m_born m_died m_father m_mother m_fatherGrade m_motherGrade m_grantTo m_grantArms m_grantYear m_copyYear m_copyRow m_tape m_textYear m_ruleMany m_ruleFrom r.1 m_stack m_ruleKind r.2.1 r.2.2.1 m_read r.2.2.2.1 r.2.2.2.2.1 r.2.2.2.2.2.1 r.2.2.2.2.2.2.1 r.2.2.2.2.2.2.2.1 r.2.2.2.2.2.2.2.2 m_top m_lineLives m_markRow m_quarterMany m_quarters m_isUp m_wasUp ++ fr)) (hdk : 10 ≤ dk)  (x1 : Int32) (x2 : Int32) (hf : g_X11_readTest_16 fu m_texts m_tape m_read m_codeRow m_codes m_at m_token m_sign m_begins m_ends m_bad m_badPlace ke x1 x2 = some r) : J l G (rmD (dk + 3) 0 0) Y 0 0 16 [(0, .ref (gm G 0)), (1, .int x1), (2, .int x2)] [] (WM G m_code m_people m_grants m_texts m_copies m_taped m_faultPlace m_isFemale m_born m_died m_father m_mother m_fatherGrade m_motherGrade m_grantTo m_grantArms m_grantYear m_copyYear m_copyRow m_tape m_textYear m_ruleMany m_ruleFrom m_codeRow m_stack m_ruleKind m_codes m_at m_read m_token m_sign m_begins m_ends m_bad m_badPlace m_top m_lineLives m_markRow m_quarterMany m_quarters m_isUp m_wasUp ++ fr) := by
  unfold g_X11_readTest_16 at hf
  refine j_aload_n hX dX11_readTest_16 17 rfl 0 rfl rfl ?_
  refine j_iload_n hX dX11_readTest_17 18 rfl 1 rfl rfl ?_
  obtain ⟨v3, hv3, hf⟩ := ibd hf
  refine z_v (As := [.int x1]) (rest := []) (q0 := 0) hX dX11_readTest_18 21 rfl (t_X11_readSum hke hdk x1 hv3) mc_X11_readSum mv_X11_readSum ml_X11_280 rfl rfl (by omega) (Nat.le_refl _) (Nat.le_refl _) rfl (Nat.le_of_ble_eq_true rfl) ?_
  refine j_aload_n hX dX11_readTest_21 22 rfl 0 rfl rfl ?_
  refine j_get hX dX11_readTest_22 25 rfl fg_X11_234 0 rfl rfl ?_
  refine j_if_ne hX dX11_readTest_25 28 75 rfl rfl (fun h4 => ?_) (fun h4 => ?_)
  · replace hf := itf h4 hf
    refine j_sub [0, 2] rfl ?_
    exact t_X11_readTest_75 hX hQ hke hdk  x2 hf
  · replace hf := itt h4 hf
    refine j_aload_n hX dX11_readTest_28 29 rfl 0 rfl rfl ?_
    refine j_bipush (v := 60) hX dX11_readTest_29 31 rfl (by decide) ?_
    obtain ⟨v7, hv7, hf⟩ := ibd hf
    refine z_i (As := [.int 60]) (rest := []) (q0 := 0) hX dX11_readTest_31 34 rfl (t_X11_isSign 60 hv7) mc_X11_isSign mv_X11_isSign ml_X11_265 rfl rfl (by omega) (Nat.le_refl _) (Nat.le_refl _) rfl (Nat.le_of_ble_eq_true rfl) ?_
    refine j_if_ne hX dX11_readTest_34 37 46 rfl rfl (fun h8 => ?_) (fun h8 => ?_)
    · replace hf := itf h8 hf
      exact t_X11_readTest_46 hX hQ hke hdk  x1 x2 hf
    · replace hf := itt h8 hf
      refine j_aload_n hX dX11_readTest_37 38 rfl 0 rfl rfl ?_
      refine j_bipush (v := 61) hX dX11_readTest_38 40 rfl (by decide) ?_
      obtain ⟨v14, hv14, hf⟩ := ibd hf
      refine z_i (As := [.int 61]) (rest := []) (q0 := 0) hX dX11_readTest_40 43 rfl (t_X11_isSign 61 hv14) mc_X11_isSign mv_X11_isSign ml_X11_265 rfl rfl (by omega) (Nat.le_refl _) (Nat.le_refl _) rfl (Nat.le_of_ble_eq_true rfl) ?_
      refine j_if_eq hX dX11_readTest_43 46 75 rfl rfl (fun h15 => ?_) (fun h15 => ?_)
      · replace hf := itt h15 hf
        refine j_sub [0, 2] rfl ?_
        exact t_X11_readTest_75 hX hQ hke hdk  x2 hf
      · replace hf := itf h15 hf
        exact t_X11_readTest_46 hX hQ hke hdk  x1 x2 hf
def f_X11_readTest (fu : Nat) (m_texts : Int32) (m_tape : Nat → Int32) (m_read : Int32) (m_codeRow : Nat → Int32) (m_codes : Int32) (m_at : Int32) (m_token : Int32) (m_sign : Int32) (m_begins : Int32) (m_ends : Int32) (m_bad : Int32) (m_badPlace : Int32) (ke : Int32 → (Nat → Int32) → Int32 → Int32 → Int32 → Int32 → Int32 → Int32 → Int32 → Int32 → Option ((Nat → Int32) × Int32 × Int32 × Int32 × Int32 × Int32 × Int32 × Int32 × Int32)) (x1 : Int32) : Option ((Nat → Int32) × Int32 × Int32 × Int32 × Int32 × Int32 × Int32 × Int32 × Int32) :=
  (f_X11_isWord fu m_tape m_token m_begins m_ends 35).bind fun v1 => if v1 = 0 then g_X11_readTest_16 fu m_texts m_tape m_read m_codeRow m_codes m_at m_token m_sign m_begins m_ends m_bad m_badPlace ke x1 v1 else (f_X11_step fu m_tape m_read m_at m_token m_sign m_begins m_ends).bind fun v16 => g_X11_readTest_16 fu m_texts m_tape m_read m_codeRow m_codes v16.1 v16.2.1 v16.2.2.1 v16.2.2.2.1 v16.2.2.2.2 m_bad m_badPlace ke x1 v1
set_option maxRecDepth 100000 in
set_option maxHeartbeats 4000000 in
theorem t_X11_readTest {fu : Nat}  {dk : Nat} {ke : Int32 → (Nat → Int32) → Int32 → Int32 → Int32 → Int32 → Int32 → Int32 → Int32 → Int32 → Option ((Nat → Int32) × Int32 × Int32 × Int32 × Int32 × Int32 × Int32 × Int32 × Int32)} (hke : ∀ (x1 : Int32) (m_codeRow : Nat → Int32) (m_codes : Int32) (m_at : Int32) (m_token : Int32) (m_sign : Int32) (m_begins : Int32) (m_ends : Int32) (m_bad : Int32) (m_badPlace : Int32) (r : (Nat → Int32) × Int32 × Int32 × Int32 × Int32 × Int32 × Int32 × Int32 × Int32), ke x1 m_codeRow m_codes m_at m_token m_sign m_begins m_ends m_bad m_badPlace = some r → Cv l G dk 0 0 yX11_readExpression cX11_readExpression 4 [.ref (gm G 0), .int x1] (WM G m_code m_people m_grants m_texts m_copies m_taped m_faultPlace m_isFemale m_born m_died m_father m_mother m_fatherGrade m_motherGrade m_grantTo m_grantArms m_grantYear m_copyYear m_copyRow m_tape m_textYear m_ruleMany m_ruleFrom m_codeRow m_stack m_ruleKind m_codes m_at m_read m_token m_sign m_begins m_ends m_bad m_badPlace m_top m_lineLives m_markRow m_quarterMany m_quarters m_isUp m_wasUp ++ fr) (WM G m_code m_people m_grants m_texts m_copies m_taped m_faultPlace m_isFemale m_born m_died m_father m_mother m_fatherGrade m_motherGrade m_grantTo m_grantArms m_grantYear m_copyYear m_copyRow m_tape m_textYear m_ruleMany m_ruleFrom r.1 m_stack m_ruleKind r.2.1 r.2.2.1 m_read r.2.2.2.1 r.2.2.2.2.1 r.2.2.2.2.2.1 r.2.2.2.2.2.2.1 r.2.2.2.2.2.2.2.1 r.2.2.2.2.2.2.2.2 m_top m_lineLives m_markRow m_quarterMany m_quarters m_isUp m_wasUp ++ fr)) (hdk : 10 ≤ dk) (x1 : Int32) {r : (Nat → Int32) × Int32 × Int32 × Int32 × Int32 × Int32 × Int32 × Int32 × Int32} (hf : f_X11_readTest fu m_texts m_tape m_read m_codeRow m_codes m_at m_token m_sign m_begins m_ends m_bad m_badPlace ke x1 = some r) : Cv l G (dk + 3) 0 0 yX11_readTest cX11_readTest 4 [.ref (gm G 0), .int x1] (WM G m_code m_people m_grants m_texts m_copies m_taped m_faultPlace m_isFemale m_born m_died m_father m_mother m_fatherGrade m_motherGrade m_grantTo m_grantArms m_grantYear m_copyYear m_copyRow m_tape m_textYear m_ruleMany m_ruleFrom m_codeRow m_stack m_ruleKind m_codes m_at m_read m_token m_sign m_begins m_ends m_bad m_badPlace m_top m_lineLives m_markRow m_quarterMany m_quarters m_isUp m_wasUp ++ fr) (WM G m_code m_people m_grants m_texts m_copies m_taped m_faultPlace m_isFemale m_born m_died m_father m_mother m_fatherGrade m_motherGrade m_grantTo m_grantArms m_grantYear m_copyYear m_copyRow m_tape m_textYear m_ruleMany m_ruleFrom r.1 m_stack m_ruleKind r.2.1 r.2.2.1 m_read r.2.2.2.1 r.2.2.2.2.1 r.2.2.2.2.2.1 r.2.2.2.2.2.2.1 r.2.2.2.2.2.2.2.1 r.2.2.2.2.2.2.2.2 m_top m_lineLives m_markRow m_quarterMany m_quarters m_isUp m_wasUp ++ fr) := by
  refine Cv.of (by decide) (Nat.le_of_ble_eq_true rfl) (fun Y hX hQ => ?_)
  refine j_lv (lv' := [(0, .ref (gm G 0)), (1, .int x1)]) rfl ?_
  unfold f_X11_readTest at hf
  refine j_aload_n hX dX11_readTest_0 1 rfl 0 rfl rfl ?_
  refine j_ldcSW (i := 35) (tx := "not") hX dX11_readTest_1 4 rfl (by decide +kernel) ?_
  obtain ⟨v1, hv1, hf⟩ := ibd hf
  refine z_i (As := [.ref (gsk G 35)]) (rest := []) (q0 := 0) hX dX11_readTest_4 7 rfl (t_X11_isWord 35 hv1) mc_X11_isWord mv_X11_isWord ml_X11_251 rfl rfl (by omega) (Nat.le_refl _) (Nat.le_refl _) rfl (Nat.le_of_ble_eq_true rfl) ?_
  refine j_istore_n hX dX11_readTest_7 8 rfl rfl (by decide) (lv' := [(2, .int v1), (0, .ref (gm G 0)), (1, .int x1)]) rfl ?_
  refine j_iload_n hX dX11_readTest_8 9 rfl 0 rfl rfl ?_
  refine j_if_eq hX dX11_readTest_9 12 16 rfl rfl (fun h2 => ?_) (fun h2 => ?_)
  · replace hf := itt h2 hf
    refine j_sub [1, 2, 0] rfl ?_
    exact t_X11_readTest_16 hX hQ hke hdk  x1 v1 hf
  · replace hf := itf h2 hf
    refine j_aload_n hX dX11_readTest_12 13 rfl 1 rfl rfl ?_
    obtain ⟨v16, hv16, hf⟩ := ibd hf
    refine z_v (As := []) (rest := []) (q0 := 0) hX dX11_readTest_13 16 rfl (t_X11_step  hv16) mc_X11_step mv_X11_step ml_X11_246 rfl rfl (by omega) (Nat.le_refl _) (Nat.le_refl _) rfl (Nat.le_of_ble_eq_true rfl) ?_
    refine j_sub [1, 2, 0] rfl ?_
    exact t_X11_readTest_16 hX hQ hke hdk  x1 v1 hf
def g_X11_readExpression_128 (m_codeRow : Nat → Int32) (m_codes : Int32) (m_at : Int32) (m_token : Int32) (m_sign : Int32) (m_begins : Int32) (m_ends : Int32) (m_bad : Int32) (m_badPlace : Int32) : Option ((Nat → Int32) × Int32 × Int32 × Int32 × Int32 × Int32 × Int32 × Int32 × Int32) :=
  some (m_codeRow, m_codes, m_at, m_token, m_sign, m_begins, m_ends, m_bad, m_badPlace)
set_option maxRecDepth 100000 in
set_option maxHeartbeats 4000000 in
theorem t_X11_readExpression_128 {Y : YT} {r : (Nat → Int32) × Int32 × Int32 × Int32 × Int32 × Int32 × Int32 × Int32 × Int32}  (hX : CX l G cX11_readExpression 4 RX11 Y) (hQ : EQv G Y 0 0 (WM G m_code m_people m_grants m_texts m_copies m_taped m_faultPlace m_isFemale m_born m_died m_father m_mother m_fatherGrade m_motherGrade m_grantTo m_grantArms m_grantYear m_copyYear m_copyRow m_tape m_textYear m_ruleMany m_ruleFrom r.1 m_stack m_ruleKind r.2.1 r.2.2.1 m_read r.2.2.2.1 r.2.2.2.2.1 r.2.2.2.2.2.1 r.2.2.2.2.2.2.1 r.2.2.2.2.2.2.2.1 r.2.2.2.2.2.2.2.2 m_top m_lineLives m_markRow m_quarterMany m_quarters m_isUp m_wasUp ++ fr)) {dk : Nat} {ke : Int32 → (Nat → Int32) → Int32 → Int32 → Int32 → Int32 → Int32 → Int32 → Int32 → Int32 → Option ((Nat → Int32) × Int32 × Int32 × Int32 × Int32 × Int32 × Int32 × Int32 × Int32)} (hke : ∀ (x1 : Int32) (m_codeRow : Nat → Int32) (m_codes : Int32) (m_at : Int32) (m_token : Int32) (m_sign : Int32) (m_begins : Int32) (m_ends : Int32) (m_bad : Int32) (m_badPlace : Int32) (r : (Nat → Int32) × Int32 × Int32 × Int32 × Int32 × Int32 × Int32 × Int32 × Int32), ke x1 m_codeRow m_codes m_at m_token m_sign m_begins m_ends m_bad m_badPlace = some r → Cv l G dk 0 0 yX11_readExpression cX11_readExpression 4 [.ref (gm G 0), .int x1] (WM G m_code m_people m_grants m_texts m_copies m_taped m_faultPlace m_isFemale m_born m_died m_father m_mother m_fatherGrade m_motherGrade m_grantTo m_grantArms m_grantYear m_copyYear m_copyRow m_tape m_textYear m_ruleMany m_ruleFrom m_codeRow m_stack m_ruleKind m_codes m_at m_read m_token m_sign m_begins m_ends m_bad m_badPlace m_top m_lineLives m_markRow m_quarterMany m_quarters m_isUp m_wasUp ++ fr) (WM G m_code m_people m_grants m_texts m_copies m_taped m_faultPlace m_isFemale m_born m_died m_father m_mother m_fatherGrade m_motherGrade m_grantTo m_grantArms m_grantYear m_copyYear m_copyRow m_tape m_textYear m_ruleMany m_ruleFrom r.1 m_stack m_ruleKind r.2.1 r.2.2.1 m_read r.2.2.2.1 r.2.2.2.2.1 r.2.2.2.2.2.1 r.2.2.2.2.2.2.1 r.2.2.2.2.2.2.2.1 r.2.2.2.2.2.2.2.2 m_top m_lineLives m_markRow m_quarterMany m_quarters m_isUp m_wasUp ++ fr)) (hdk : 10 ≤ dk)   (hf : g_X11_readExpression_128 m_codeRow m_codes m_at m_token m_sign m_begins m_ends m_bad m_badPlace = some r) : J l G (rmD (dk + 4) 0 0) Y 0 0 128 [] [] (WM G m_code m_people m_grants m_texts m_copies m_taped m_faultPlace m_isFemale m_born m_died m_father m_mother m_fatherGrade m_motherGrade m_grantTo m_grantArms m_grantYear m_copyYear m_copyRow m_tape m_textYear m_ruleMany m_ruleFrom m_codeRow m_stack m_ruleKind m_codes m_at m_read m_token m_sign m_begins m_ends m_bad m_badPlace m_top m_lineLives m_markRow m_quarterMany m_quarters m_isUp m_wasUp ++ fr) := by
  unfold g_X11_readExpression_128 at hf
  replace hf := Option.some.inj hf
  subst hf
  exact j_vret hX hQ dX11_readExpression_128
def g_X11_readExpression_110 (fu : Nat) (m_texts : Int32) (m_tape : Nat → Int32) (m_read : Int32) (m_codeRow : Nat → Int32) (m_codes : Int32) (m_at : Int32) (m_token : Int32) (m_sign : Int32) (m_begins : Int32) (m_ends : Int32) (m_bad : Int32) (m_badPlace : Int32) (k67 : Int32 → (Nat → Int32) → Int32 → Int32 → Int32 → Int32 → Int32 → Int32 → Int32 → Int32 → Option ((Nat → Int32) × Int32 × Int32 × Int32 × Int32 × Int32 × Int32 × Int32 × Int32)) (ke : Int32 → (Nat → Int32) → Int32 → Int32 → Int32 → Int32 → Int32 → Int32 → Int32 → Int32 → Option ((Nat → Int32) × Int32 × Int32 × Int32 × Int32 × Int32 × Int32 × Int32 × Int32)) (x1 : Int32) (s0 : Int32) : Option ((Nat → Int32) × Int32 × Int32 × Int32 × Int32 × Int32 × Int32 × Int32 × Int32) :=
  (f_X11_step fu m_tape m_read m_at m_token m_sign m_begins m_ends).bind fun v11 => (f_X11_readTest fu m_texts m_tape m_read m_codeRow m_codes v11.1 v11.2.1 v11.2.2.1 v11.2.2.2.1 v11.2.2.2.2 m_bad m_badPlace ke x1).bind fun v12 => (f_X11_emit m_texts v12.2.2.2.2.2.2.2.1 v12.1 v12.2.1 s0).bind fun v13 => k67 x1 v13.1 v13.2 v12.2.2.1 v12.2.2.2.1 v12.2.2.2.2.1 v12.2.2.2.2.2.1 v12.2.2.2.2.2.2.1 v12.2.2.2.2.2.2.2.1 v12.2.2.2.2.2.2.2.2
set_option maxRecDepth 100000 in
set_option maxHeartbeats 4000000 in
theorem t_X11_readExpression_110 {fu : Nat} {Y : YT} {r : (Nat → Int32) × Int32 × Int32 × Int32 × Int32 × Int32 × Int32 × Int32 × Int32} {k67 : Int32 → (Nat → Int32) → Int32 → Int32 → Int32 → Int32 → Int32 → Int32 → Int32 → Int32 → Option ((Nat → Int32) × Int32 × Int32 × Int32 × Int32 × Int32 × Int32 × Int32 × Int32)} (hX : CX l G cX11_readExpression 4 RX11 Y) (hQ : EQv G Y 0 0 (WM G m_code m_people m_grants m_texts m_copies m_taped m_faultPlace m_isFemale m_born m_died m_father m_mother m_fatherGrade m_motherGrade m_grantTo m_grantArms m_grantYear m_copyYear m_copyRow m_tape m_textYear m_ruleMany m_ruleFrom r.1 m_stack m_ruleKind r.2.1 r.2.2.1 m_read r.2.2.2.1 r.2.2.2.2.1 r.2.2.2.2.2.1 r.2.2.2.2.2.2.1 r.2.2.2.2.2.2.2.1 r.2.2.2.2.2.2.2.2 m_top m_lineLives m_markRow m_quarterMany m_quarters m_isUp m_wasUp ++ fr)) {dk : Nat} {ke : Int32 → (Nat → Int32) → Int32 → Int32 → Int32 → Int32 → Int32 → Int32 → Int32 → Int32 → Option ((Nat → Int32) × Int32 × Int32 × Int32 × Int32 × Int32 × Int32 × Int32 × Int32)} (hke : ∀ (x1 : Int32) (m_codeRow : Nat → Int32) (m_codes : Int32) (m_at : Int32) (m_token : Int32) (m_sign : Int32) (m_begins : Int32) (m_ends : Int32) (m_bad : Int32) (m_badPlace : Int32) (r : (Nat → Int32) × Int32 × Int32 × Int32 × Int32 × Int32 × Int32 × Int32 × Int32), ke x1 m_codeRow m_codes m_at m_token m_sign m_begins m_ends m_bad m_badPlace = some r → Cv l G dk 0 0 yX11_readExpression cX11_readExpression 4 [.ref (gm G 0), .int x1] (WM G m_code m_people m_grants m_texts m_copies m_taped m_faultPlace m_isFemale m_born m_died m_father m_mother m_fatherGrade m_motherGrade m_grantTo m_grantArms m_grantYear m_copyYear m_copyRow m_tape m_textYear m_ruleMany m_ruleFrom m_codeRow m_stack m_ruleKind m_codes m_at m_read m_token m_sign m_begins m_ends m_bad m_badPlace m_top m_lineLives m_markRow m_quarterMany m_quarters m_isUp m_wasUp ++ fr) (WM G m_code m_people m_grants m_texts m_copies m_taped m_faultPlace m_isFemale m_born m_died m_father m_mother m_fatherGrade m_motherGrade m_grantTo m_grantArms m_grantYear m_copyYear m_copyRow m_tape m_textYear m_ruleMany m_ruleFrom r.1 m_stack m_ruleKind r.2.1 r.2.2.1 m_read r.2.2.2.1 r.2.2.2.2.1 r.2.2.2.2.2.1 r.2.2.2.2.2.2.1 r.2.2.2.2.2.2.2.1 r.2.2.2.2.2.2.2.2 m_top m_lineLives m_markRow m_quarterMany m_quarters m_isUp m_wasUp ++ fr)) (hdk : 10 ≤ dk) (hk67 : ∀ (x1 : Int32) (m_codeRow : Nat → Int32) (m_codes : Int32) (m_at : Int32) (m_token : Int32) (m_sign : Int32) (m_begins : Int32) (m_ends : Int32) (m_bad : Int32) (m_badPlace : Int32), k67 x1 m_codeRow m_codes m_at m_token m_sign m_begins m_ends m_bad m_badPlace = some r → J l G (rmD (dk + 4) 0 0) Y 0 0 67 [(0, .ref (gm G 0)), (1, .int x1)] [] (WM G m_code m_people m_grants m_texts m_copies m_taped m_faultPlace m_isFemale m_born m_died m_father m_mother m_fatherGrade m_motherGrade m_grantTo m_grantArms m_grantYear m_copyYear m_copyRow m_tape m_textYear m_ruleMany m_ruleFrom m_codeRow m_stack m_ruleKind m_codes m_at m_read m_token m_sign m_begins m_ends m_bad m_badPlace m_top m_lineLives m_markRow m_quarterMany m_quarters m_isUp m_wasUp ++ fr)) (x1 : Int32) (s0 : Int32) (hf : g_X11_readExpression_110 fu m_texts m_tape m_read m_codeRow m_codes m_at m_token m_sign m_begins m_ends m_bad m_badPlace k67 ke x1 s0 = some r) : J l G (rmD (dk + 4) 0 0) Y 0 0 110 [(0, .ref (gm G 0)), (1, .int x1)] [.int s0] (WM G m_code m_people m_grants m_texts m_copies m_taped m_faultPlace m_isFemale m_born m_died m_father m_mother m_fatherGrade m_motherGrade m_grantTo m_grantArms m_grantYear m_copyYear m_copyRow m_tape m_textYear m_ruleMany m_ruleFrom m_codeRow m_stack m_ruleKind m_codes m_at m_read m_token m_sign m_begins m_ends m_bad m_badPlace m_top m_lineLives m_markRow m_quarterMany m_quarters m_isUp m_wasUp ++ fr) := by
  unfold g_X11_readExpression_110 at hf
  refine j_istore_n hX dX11_readExpression_110 111 rfl rfl (by decide) (lv' := [(3, .int s0), (0, .ref (gm G 0)), (1, .int x1)]) rfl ?_
  refine j_aload_n hX dX11_readExpression_111 112 rfl 1 rfl rfl ?_
  obtain ⟨v11, hv11, hf⟩ := ibd hf
  refine z_v (As := []) (rest := []) (q0 := 0) hX dX11_readExpression_112 115 rfl (t_X11_step  hv11) mc_X11_step mv_X11_step ml_X11_246 rfl rfl (by omega) (Nat.le_refl _) (Nat.le_refl _) rfl (Nat.le_of_ble_eq_true rfl) ?_
  refine j_aload_n hX dX11_readExpression_115 116 rfl 1 rfl rfl ?_
  refine j_iload_n hX dX11_readExpression_116 117 rfl 2 rfl rfl ?_
  obtain ⟨v12, hv12, hf⟩ := ibd hf
  refine z_v (As := [.int x1]) (rest := []) (q0 := 0) hX dX11_readExpression_117 120 rfl (t_X11_readTest hke hdk x1 hv12) mc_X11_readTest mv_X11_readTest ml_X11_268 rfl rfl (by omega) (Nat.le_refl _) (Nat.le_refl _) rfl (Nat.le_of_ble_eq_true rfl) ?_
  refine j_aload_n hX dX11_readExpression_120 121 rfl 1 rfl rfl ?_
  refine j_iload_n hX dX11_readExpression_121 122 rfl 0 rfl rfl ?_
  obtain ⟨v13, hv13, hf⟩ := ibd hf
  refine z_v (As := [.int s0]) (rest := []) (q0 := 0) hX dX11_readExpression_122 125 rfl (t_X11_emit s0 hv13) mc_X11_emit mv_X11_emit ml_X11_275 rfl rfl (by omega) (Nat.le_refl _) (Nat.le_refl _) rfl (Nat.le_of_ble_eq_true rfl) ?_
  refine j_goto hX dX11_readExpression_125 67 rfl ?_
  refine j_sub [1, 2] rfl ?_
  exact hk67 x1 v13.1 v13.2 v12.2.2.1 v12.2.2.2.1 v12.2.2.2.2.1 v12.2.2.2.2.2.1 v12.2.2.2.2.2.2.1 v12.2.2.2.2.2.2.2.1 v12.2.2.2.2.2.2.2.2 hf
def g_X11_readExpression_94 (fu : Nat) (m_texts : Int32) (m_tape : Nat → Int32) (m_read : Int32) (m_codeRow : Nat → Int32) (m_codes : Int32) (m_at : Int32) (m_token : Int32) (m_sign : Int32) (m_begins : Int32) (m_ends : Int32) (m_bad : Int32) (m_badPlace : Int32) (k67 : Int32 → (Nat → Int32) → Int32 → Int32 → Int32 → Int32 → Int32 → Int32 → Int32 → Int32 → Option ((Nat → Int32) × Int32 × Int32 × Int32 × Int32 × Int32 × Int32 × Int32 × Int32)) (ke : Int32 → (Nat → Int32) → Int32 → Int32 → Int32 → Int32 → Int32 → Int32 → Int32 → Int32 → Option ((Nat → Int32) × Int32 × Int32 × Int32 × Int32 × Int32 × Int32 × Int32 × Int32)) (x1 : Int32) : Option ((Nat → Int32) × Int32 × Int32 × Int32 × Int32 × Int32 × Int32 × Int32 × Int32) :=
  (f_X11_isWord fu m_tape m_token m_begins m_ends 36).bind fun v9 => if v9 = 0 then g_X11_readExpression_110 fu m_texts m_tape m_read m_codeRow m_codes m_at m_token m_sign m_begins m_ends m_bad m_badPlace k67 ke x1 6 else g_X11_readExpression_110 fu m_texts m_tape m_read m_codeRow m_codes m_at m_token m_sign m_begins m_ends m_bad m_badPlace k67 ke x1 5
set_option maxRecDepth 100000 in
set_option maxHeartbeats 4000000 in
theorem t_X11_readExpression_94 {fu : Nat} {Y : YT} {r : (Nat → Int32) × Int32 × Int32 × Int32 × Int32 × Int32 × Int32 × Int32 × Int32} {k67 : Int32 → (Nat → Int32) → Int32 → Int32 → Int32 → Int32 → Int32 → Int32 → Int32 → Int32 → Option ((Nat → Int32) × Int32 × Int32 × Int32 × Int32 × Int32 × Int32 × Int32 × Int32)} (hX : CX l G cX11_readExpression 4 RX11 Y) (hQ : EQv G Y 0 0 (WM G m_code m_people m_grants m_texts m_copies m_taped m_faultPlace m_isFemale m_born m_died m_father m_mother m_fatherGrade m_motherGrade m_grantTo m_grantArms m_grantYear m_copyYear m_copyRow m_tape m_textYear m_ruleMany m_ruleFrom r.1 m_stack m_ruleKind r.2.1 r.2.2.1 m_read r.2.2.2.1 r.2.2.2.2.1 r.2.2.2.2.2.1 r.2.2.2.2.2.2.1 r.2.2.2.2.2.2.2.1 r.2.2.2.2.2.2.2.2 m_top m_lineLives m_markRow m_quarterMany m_quarters m_isUp m_wasUp ++ fr)) {dk : Nat} {ke : Int32 → (Nat → Int32) → Int32 → Int32 → Int32 → Int32 → Int32 → Int32 → Int32 → Int32 → Option ((Nat → Int32) × Int32 × Int32 × Int32 × Int32 × Int32 × Int32 × Int32 × Int32)} (hke : ∀ (x1 : Int32) (m_codeRow : Nat → Int32) (m_codes : Int32) (m_at : Int32) (m_token : Int32) (m_sign : Int32) (m_begins : Int32) (m_ends : Int32) (m_bad : Int32) (m_badPlace : Int32) (r : (Nat → Int32) × Int32 × Int32 × Int32 × Int32 × Int32 × Int32 × Int32 × Int32), ke x1 m_codeRow m_codes m_at m_token m_sign m_begins m_ends m_bad m_badPlace = some r → Cv l G dk 0 0 yX11_readExpression cX11_readExpression 4 [.ref (gm G 0), .int x1] (WM G m_code m_people m_grants m_texts m_copies m_taped m_faultPlace m_isFemale m_born m_died m_father m_mother m_fatherGrade m_motherGrade m_grantTo m_grantArms m_grantYear m_copyYear m_copyRow m_tape m_textYear m_ruleMany m_ruleFrom m_codeRow m_stack m_ruleKind m_codes m_at m_read m_token m_sign m_begins m_ends m_bad m_badPlace m_top m_lineLives m_markRow m_quarterMany m_quarters m_isUp m_wasUp ++ fr) (WM G m_code m_people m_grants m_texts m_copies m_taped m_faultPlace m_isFemale m_born m_died m_father m_mother m_fatherGrade m_motherGrade m_grantTo m_grantArms m_grantYear m_copyYear m_copyRow m_tape m_textYear m_ruleMany m_ruleFrom r.1 m_stack m_ruleKind r.2.1 r.2.2.1 m_read r.2.2.2.1 r.2.2.2.2.1 r.2.2.2.2.2.1 r.2.2.2.2.2.2.1 r.2.2.2.2.2.2.2.1 r.2.2.2.2.2.2.2.2 m_top m_lineLives m_markRow m_quarterMany m_quarters m_isUp m_wasUp ++ fr)) (hdk : 10 ≤ dk) (hk67 : ∀ (x1 : Int32) (m_codeRow : Nat → Int32) (m_codes : Int32) (m_at : Int32) (m_token : Int32) (m_sign : Int32) (m_begins : Int32) (m_ends : Int32) (m_bad : Int32) (m_badPlace : Int32), k67 x1 m_codeRow m_codes m_at m_token m_sign m_begins m_ends m_bad m_badPlace = some r → J l G (rmD (dk + 4) 0 0) Y 0 0 67 [(0, .ref (gm G 0)), (1, .int x1)] [] (WM G m_code m_people m_grants m_texts m_copies m_taped m_faultPlace m_isFemale m_born m_died m_father m_mother m_fatherGrade m_motherGrade m_grantTo m_grantArms m_grantYear m_copyYear m_copyRow m_tape m_textYear m_ruleMany m_ruleFrom m_codeRow m_stack m_ruleKind m_codes m_at m_read m_token m_sign m_begins m_ends m_bad m_badPlace m_top m_lineLives m_markRow m_quarterMany m_quarters m_isUp m_wasUp ++ fr)) (x1 : Int32) (hf : g_X11_readExpression_94 fu m_texts m_tape m_read m_codeRow m_codes m_at m_token m_sign m_begins m_ends m_bad m_badPlace k67 ke x1 = some r) : J l G (rmD (dk + 4) 0 0) Y 0 0 94 [(0, .ref (gm G 0)), (1, .int x1)] [] (WM G m_code m_people m_grants m_texts m_copies m_taped m_faultPlace m_isFemale m_born m_died m_father m_mother m_fatherGrade m_motherGrade m_grantTo m_grantArms m_grantYear m_copyYear m_copyRow m_tape m_textYear m_ruleMany m_ruleFrom m_codeRow m_stack m_ruleKind m_codes m_at m_read m_token m_sign m_begins m_ends m_bad m_badPlace m_top m_lineLives m_markRow m_quarterMany m_quarters m_isUp m_wasUp ++ fr) := by
  unfold g_X11_readExpression_94 at hf
  refine j_aload_n hX dX11_readExpression_94 95 rfl 0 rfl rfl ?_
  refine j_ldcSW (i := 36) (tx := "and") hX dX11_readExpression_95 98 rfl (by decide +kernel) ?_
  obtain ⟨v9, hv9, hf⟩ := ibd hf
  refine z_i (As := [.ref (gsk G 36)]) (rest := []) (q0 := 0) hX dX11_readExpression_98 101 rfl (t_X11_isWord 36 hv9) mc_X11_isWord mv_X11_isWord ml_X11_251 rfl rfl (by omega) (Nat.le_refl _) (Nat.le_refl _) rfl (Nat.le_of_ble_eq_true rfl) ?_
  refine j_if_eq hX dX11_readExpression_101 104 108 rfl rfl (fun h10 => ?_) (fun h10 => ?_)
  · replace hf := itt h10 hf
    refine j_bipush (v := 6) hX dX11_readExpression_108 110 rfl (by decide) ?_
    exact t_X11_readExpression_110 hX hQ hke hdk hk67 x1 6 hf
  · replace hf := itf h10 hf
    refine j_iconst (v := 5) hX dX11_readExpression_104 105 rfl (by decide) ?_
    refine j_goto hX dX11_readExpression_105 110 rfl ?_
    exact t_X11_readExpression_110 hX hQ hke hdk hk67 x1 5 hf
def g_X11_readExpression_67 (fu : Nat) (m_texts : Int32) (m_tape : Nat → Int32) (m_read : Int32) (m_codeRow : Nat → Int32) (m_codes : Int32) (m_at : Int32) (m_token : Int32) (m_sign : Int32) (m_begins : Int32) (m_ends : Int32) (m_bad : Int32) (m_badPlace : Int32) (k67 : Int32 → (Nat → Int32) → Int32 → Int32 → Int32 → Int32 → Int32 → Int32 → Int32 → Int32 → Option ((Nat → Int32) × Int32 × Int32 × Int32 × Int32 × Int32 × Int32 × Int32 × Int32)) (ke : Int32 → (Nat → Int32) → Int32 → Int32 → Int32 → Int32 → Int32 → Int32 → Int32 → Int32 → Option ((Nat → Int32) × Int32 × Int32 × Int32 × Int32 × Int32 × Int32 × Int32 × Int32)) (x1 : Int32) : Option ((Nat → Int32) × Int32 × Int32 × Int32 × Int32 × Int32 × Int32 × Int32 × Int32) :=
  if m_bad = 0 then (f_X11_isWord fu m_tape m_token m_begins m_ends 36).bind fun v7 => if v7 = 0 then (f_X11_isWord fu m_tape m_token m_begins m_ends 37).bind fun v14 => if v14 = 0 then g_X11_readExpression_128 m_codeRow m_codes m_at m_token m_sign m_begins m_ends m_bad m_badPlace else g_X11_readExpression_94 fu m_texts m_tape m_read m_codeRow m_codes m_at m_token m_sign m_begins m_ends m_bad m_badPlace k67 ke x1 else g_X11_readExpression_94 fu m_texts m_tape m_read m_codeRow m_codes m_at m_token m_sign m_begins m_ends m_bad m_badPlace k67 ke x1 else g_X11_readExpression_128 m_codeRow m_codes m_at m_token m_sign m_begins m_ends m_bad m_badPlace
set_option maxRecDepth 100000 in
set_option maxHeartbeats 4000000 in
theorem t_X11_readExpression_67 {fu : Nat} {Y : YT} {r : (Nat → Int32) × Int32 × Int32 × Int32 × Int32 × Int32 × Int32 × Int32 × Int32} {k67 : Int32 → (Nat → Int32) → Int32 → Int32 → Int32 → Int32 → Int32 → Int32 → Int32 → Int32 → Option ((Nat → Int32) × Int32 × Int32 × Int32 × Int32 × Int32 × Int32 × Int32 × Int32)} (hX : CX l G cX11_readExpression 4 RX11 Y) (hQ : EQv G Y 0 0 (WM G m_code m_people m_grants m_texts m_copies m_taped m_faultPlace m_isFemale m_born m_died m_father m_mother m_fatherGrade m_motherGrade m_grantTo m_grantArms m_grantYear m_copyYear m_copyRow m_tape m_textYear m_ruleMany m_ruleFrom r.1 m_stack m_ruleKind r.2.1 r.2.2.1 m_read r.2.2.2.1 r.2.2.2.2.1 r.2.2.2.2.2.1 r.2.2.2.2.2.2.1 r.2.2.2.2.2.2.2.1 r.2.2.2.2.2.2.2.2 m_top m_lineLives m_markRow m_quarterMany m_quarters m_isUp m_wasUp ++ fr)) {dk : Nat} {ke : Int32 → (Nat → Int32) → Int32 → Int32 → Int32 → Int32 → Int32 → Int32 → Int32 → Int32 → Option ((Nat → Int32) × Int32 × Int32 × Int32 × Int32 × Int32 × Int32 × Int32 × Int32)} (hke : ∀ (x1 : Int32) (m_codeRow : Nat → Int32) (m_codes : Int32) (m_at : Int32) (m_token : Int32) (m_sign : Int32) (m_begins : Int32) (m_ends : Int32) (m_bad : Int32) (m_badPlace : Int32) (r : (Nat → Int32) × Int32 × Int32 × Int32 × Int32 × Int32 × Int32 × Int32 × Int32), ke x1 m_codeRow m_codes m_at m_token m_sign m_begins m_ends m_bad m_badPlace = some r → Cv l G dk 0 0 yX11_readExpression cX11_readExpression 4 [.ref (gm G 0), .int x1] (WM G m_code m_people m_grants m_texts m_copies m_taped m_faultPlace m_isFemale m_born m_died m_father m_mother m_fatherGrade m_motherGrade m_grantTo m_grantArms m_grantYear m_copyYear m_copyRow m_tape m_textYear m_ruleMany m_ruleFrom m_codeRow m_stack m_ruleKind m_codes m_at m_read m_token m_sign m_begins m_ends m_bad m_badPlace m_top m_lineLives m_markRow m_quarterMany m_quarters m_isUp m_wasUp ++ fr) (WM G m_code m_people m_grants m_texts m_copies m_taped m_faultPlace m_isFemale m_born m_died m_father m_mother m_fatherGrade m_motherGrade m_grantTo m_grantArms m_grantYear m_copyYear m_copyRow m_tape m_textYear m_ruleMany m_ruleFrom r.1 m_stack m_ruleKind r.2.1 r.2.2.1 m_read r.2.2.2.1 r.2.2.2.2.1 r.2.2.2.2.2.1 r.2.2.2.2.2.2.1 r.2.2.2.2.2.2.2.1 r.2.2.2.2.2.2.2.2 m_top m_lineLives m_markRow m_quarterMany m_quarters m_isUp m_wasUp ++ fr)) (hdk : 10 ≤ dk) (hk67 : ∀ (x1 : Int32) (m_codeRow : Nat → Int32) (m_codes : Int32) (m_at : Int32) (m_token : Int32) (m_sign : Int32) (m_begins : Int32) (m_ends : Int32) (m_bad : Int32) (m_badPlace : Int32), k67 x1 m_codeRow m_codes m_at m_token m_sign m_begins m_ends m_bad m_badPlace = some r → J l G (rmD (dk + 4) 0 0) Y 0 0 67 [(0, .ref (gm G 0)), (1, .int x1)] [] (WM G m_code m_people m_grants m_texts m_copies m_taped m_faultPlace m_isFemale m_born m_died m_father m_mother m_fatherGrade m_motherGrade m_grantTo m_grantArms m_grantYear m_copyYear m_copyRow m_tape m_textYear m_ruleMany m_ruleFrom m_codeRow m_stack m_ruleKind m_codes m_at m_read m_token m_sign m_begins m_ends m_bad m_badPlace m_top m_lineLives m_markRow m_quarterMany m_quarters m_isUp m_wasUp ++ fr)) (x1 : Int32) (hf : g_X11_readExpression_67 fu m_texts m_tape m_read m_codeRow m_codes m_at m_token m_sign m_begins m_ends m_bad m_badPlace k67 ke x1 = some r) : J l G (rmD (dk + 4) 0 0) Y 0 0 67 [(0, .ref (gm G 0)), (1, .int x1)] [] (WM G m_code m_people m_grants m_texts m_copies m_taped m_faultPlace m_isFemale m_born m_died m_father m_mother m_fatherGrade m_motherGrade m_grantTo m_grantArms m_grantYear m_copyYear m_copyRow m_tape m_textYear m_ruleMany m_ruleFrom m_codeRow m_stack m_ruleKind m_codes m_at m_read m_token m_sign m_begins m_ends m_bad m_badPlace m_top m_lineLives m_markRow m_quarterMany m_quarters m_isUp m_wasUp ++ fr) := by
  unfold g_X11_readExpression_67 at hf
  refine j_aload_n hX dX11_readExpression_67 68 rfl 0 rfl rfl ?_
  refine j_get hX dX11_readExpression_68 71 rfl fg_X11_234 0 rfl rfl ?_
  refine j_if_ne hX dX11_readExpression_71 74 128 rfl rfl (fun h6 => ?_) (fun h6 => ?_)
  · replace hf := itf h6 hf
    refine j_sub [] rfl ?_
    exact t_X11_readExpression_128 hX hQ hke hdk   hf
  · replace hf := itt h6 hf
    refine j_aload_n hX dX11_readExpression_74 75 rfl 0 rfl rfl ?_
    refine j_ldcSW (i := 36) (tx := "and") hX dX11_readExpression_75 78 rfl (by decide +kernel) ?_
    obtain ⟨v7, hv7, hf⟩ := ibd hf
    refine z_i (As := [.ref (gsk G 36)]) (rest := []) (q0 := 0) hX dX11_readExpression_78 81 rfl (t_X11_isWord 36 hv7) mc_X11_isWord mv_X11_isWord ml_X11_251 rfl rfl (by omega) (Nat.le_refl _) (Nat.le_refl _) rfl (Nat.le_of_ble_eq_true rfl) ?_
    refine j_if_ne hX dX11_readExpression_81 84 94 rfl rfl (fun h8 => ?_) (fun h8 => ?_)
    · replace hf := itf h8 hf
      exact t_X11_readExpression_94 hX hQ hke hdk hk67 x1 hf
    · replace hf := itt h8 hf
      refine j_aload_n hX dX11_readExpression_84 85 rfl 0 rfl rfl ?_
      refine j_ldcSW (i := 37) (tx := "or") hX dX11_readExpression_85 88 rfl (by decide +kernel) ?_
      obtain ⟨v14, hv14, hf⟩ := ibd hf
      refine z_i (As := [.ref (gsk G 37)]) (rest := []) (q0 := 0) hX dX11_readExpression_88 91 rfl (t_X11_isWord 37 hv14) mc_X11_isWord mv_X11_isWord ml_X11_251 rfl rfl (by omega) (Nat.le_refl _) (Nat.le_refl _) rfl (Nat.le_of_ble_eq_true rfl) ?_
      refine j_if_eq hX dX11_readExpression_91 94 128 rfl rfl (fun h15 => ?_) (fun h15 => ?_)
      · replace hf := itt h15 hf
        refine j_sub [] rfl ?_
        exact t_X11_readExpression_128 hX hQ hke hdk   hf
      · replace hf := itf h15 hf
        exact t_X11_readExpression_94 hX hQ hke hdk hk67 x1 hf
def f_X11_readExpression_67 (fu : Nat) (m_texts : Int32) (m_tape : Nat → Int32) (m_read : Int32) (ke : Int32 → (Nat → Int32) → Int32 → Int32 → Int32 → Int32 → Int32 → Int32 → Int32 → Int32 → Option ((Nat → Int32) × Int32 × Int32 × Int32 × Int32 × Int32 × Int32 × Int32 × Int32)) : Nat → (Int32 × (Nat → Int32) × Int32 × Int32 × Int32 × Int32 × Int32 × Int32 × Int32 × Int32) → Option ((Nat → Int32) × Int32 × Int32 × Int32 × Int32 × Int32 × Int32 × Int32 × Int32) :=
  lp (fun k v => g_X11_readExpression_67 fu m_texts m_tape m_read v.2.1 v.2.2.1 v.2.2.2.1 v.2.2.2.2.1 v.2.2.2.2.2.1 v.2.2.2.2.2.2.1 v.2.2.2.2.2.2.2.1 v.2.2.2.2.2.2.2.2.1 v.2.2.2.2.2.2.2.2.2 (fun x1 m_codeRow m_codes m_at m_token m_sign m_begins m_ends m_bad m_badPlace => k (x1, m_codeRow, m_codes, m_at, m_token, m_sign, m_begins, m_ends, m_bad, m_badPlace)) ke v.1)
set_option maxRecDepth 100000 in
set_option maxHeartbeats 4000000 in
theorem u_X11_readExpression_67 {fu : Nat} {Y : YT} {r : (Nat → Int32) × Int32 × Int32 × Int32 × Int32 × Int32 × Int32 × Int32 × Int32}  (hX : CX l G cX11_readExpression 4 RX11 Y) (hQ : EQv G Y 0 0 (WM G m_code m_people m_grants m_texts m_copies m_taped m_faultPlace m_isFemale m_born m_died m_father m_mother m_fatherGrade m_motherGrade m_grantTo m_grantArms m_grantYear m_copyYear m_copyRow m_tape m_textYear m_ruleMany m_ruleFrom r.1 m_stack m_ruleKind r.2.1 r.2.2.1 m_read r.2.2.2.1 r.2.2.2.2.1 r.2.2.2.2.2.1 r.2.2.2.2.2.2.1 r.2.2.2.2.2.2.2.1 r.2.2.2.2.2.2.2.2 m_top m_lineLives m_markRow m_quarterMany m_quarters m_isUp m_wasUp ++ fr)) {dk : Nat} {ke : Int32 → (Nat → Int32) → Int32 → Int32 → Int32 → Int32 → Int32 → Int32 → Int32 → Int32 → Option ((Nat → Int32) × Int32 × Int32 × Int32 × Int32 × Int32 × Int32 × Int32 × Int32)} (hke : ∀ (x1 : Int32) (m_codeRow : Nat → Int32) (m_codes : Int32) (m_at : Int32) (m_token : Int32) (m_sign : Int32) (m_begins : Int32) (m_ends : Int32) (m_bad : Int32) (m_badPlace : Int32) (r : (Nat → Int32) × Int32 × Int32 × Int32 × Int32 × Int32 × Int32 × Int32 × Int32), ke x1 m_codeRow m_codes m_at m_token m_sign m_begins m_ends m_bad m_badPlace = some r → Cv l G dk 0 0 yX11_readExpression cX11_readExpression 4 [.ref (gm G 0), .int x1] (WM G m_code m_people m_grants m_texts m_copies m_taped m_faultPlace m_isFemale m_born m_died m_father m_mother m_fatherGrade m_motherGrade m_grantTo m_grantArms m_grantYear m_copyYear m_copyRow m_tape m_textYear m_ruleMany m_ruleFrom m_codeRow m_stack m_ruleKind m_codes m_at m_read m_token m_sign m_begins m_ends m_bad m_badPlace m_top m_lineLives m_markRow m_quarterMany m_quarters m_isUp m_wasUp ++ fr) (WM G m_code m_people m_grants m_texts m_copies m_taped m_faultPlace m_isFemale m_born m_died m_father m_mother m_fatherGrade m_motherGrade m_grantTo m_grantArms m_grantYear m_copyYear m_copyRow m_tape m_textYear m_ruleMany m_ruleFrom r.1 m_stack m_ruleKind r.2.1 r.2.2.1 m_read r.2.2.2.1 r.2.2.2.2.1 r.2.2.2.2.2.1 r.2.2.2.2.2.2.1 r.2.2.2.2.2.2.2.1 r.2.2.2.2.2.2.2.2 m_top m_lineLives m_markRow m_quarterMany m_quarters m_isUp m_wasUp ++ fr)) (hdk : 10 ≤ dk)  (n : Nat) (v : Int32 × (Nat → Int32) × Int32 × Int32 × Int32 × Int32 × Int32 × Int32 × Int32 × Int32) (hf : f_X11_readExpression_67 fu m_texts m_tape m_read ke n v = some r) : J l G (rmD (dk + 4) 0 0) Y 0 0 67 [(0, .ref (gm G 0)), (1, .int v.1)] [] (WM G m_code m_people m_grants m_texts m_copies m_taped m_faultPlace m_isFemale m_born m_died m_father m_mother m_fatherGrade m_motherGrade m_grantTo m_grantArms m_grantYear m_copyYear m_copyRow m_tape m_textYear m_ruleMany m_ruleFrom v.2.1 m_stack m_ruleKind v.2.2.1 v.2.2.2.1 m_read v.2.2.2.2.1 v.2.2.2.2.2.1 v.2.2.2.2.2.2.1 v.2.2.2.2.2.2.2.1 v.2.2.2.2.2.2.2.2.1 v.2.2.2.2.2.2.2.2.2 m_top m_lineLives m_markRow m_quarterMany m_quarters m_isUp m_wasUp ++ fr) :=
  lp_ind (P := fun v : Int32 × (Nat → Int32) × Int32 × Int32 × Int32 × Int32 × Int32 × Int32 × Int32 × Int32 => J l G (rmD (dk + 4) 0 0) Y 0 0 67 [(0, .ref (gm G 0)), (1, .int v.1)] [] (WM G m_code m_people m_grants m_texts m_copies m_taped m_faultPlace m_isFemale m_born m_died m_father m_mother m_fatherGrade m_motherGrade m_grantTo m_grantArms m_grantYear m_copyYear m_copyRow m_tape m_textYear m_ruleMany m_ruleFrom v.2.1 m_stack m_ruleKind v.2.2.1 v.2.2.2.1 m_read v.2.2.2.2.1 v.2.2.2.2.2.1 v.2.2.2.2.2.2.1 v.2.2.2.2.2.2.2.1 v.2.2.2.2.2.2.2.2.1 v.2.2.2.2.2.2.2.2.2 m_top m_lineLives m_markRow m_quarterMany m_quarters m_isUp m_wasUp ++ fr)) (fun k hk v hf => t_X11_readExpression_67 hX hQ hke hdk  (fun x1 m_codeRow m_codes m_at m_token m_sign m_begins m_ends m_bad m_badPlace h => hk (x1, m_codeRow, m_codes, m_at, m_token, m_sign, m_begins, m_ends, m_bad, m_badPlace) h) v.1 hf) n v hf
def g_X11_readExpression_54 (fu : Nat) (m_texts : Int32) (m_tape : Nat → Int32) (m_read : Int32) (m_codeRow : Nat → Int32) (m_codes : Int32) (m_at : Int32) (m_token : Int32) (m_sign : Int32) (m_begins : Int32) (m_ends : Int32) (m_bad : Int32) (m_badPlace : Int32) (ke : Int32 → (Nat → Int32) → Int32 → Int32 → Int32 → Int32 → Int32 → Int32 → Int32 → Int32 → Option ((Nat → Int32) × Int32 × Int32 × Int32 × Int32 × Int32 × Int32 × Int32 × Int32)) (x1 : Int32) : Option ((Nat → Int32) × Int32 × Int32 × Int32 × Int32 × Int32 × Int32 × Int32 × Int32) :=
  if m_bad = 0 then (f_X11_readTest fu m_texts m_tape m_read m_codeRow m_codes m_at m_token m_sign m_begins m_ends m_bad m_badPlace ke x1).bind fun v5 => f_X11_readExpression_67 fu m_texts m_tape m_read ke fu (x1, v5.1, v5.2.1, v5.2.2.1, v5.2.2.2.1, v5.2.2.2.2.1, v5.2.2.2.2.2.1, v5.2.2.2.2.2.2.1, v5.2.2.2.2.2.2.2.1, v5.2.2.2.2.2.2.2.2) else some (m_codeRow, m_codes, m_at, m_token, m_sign, m_begins, m_ends, m_bad, m_badPlace)
set_option maxRecDepth 100000 in
set_option maxHeartbeats 4000000 in
theorem t_X11_readExpression_54 {fu : Nat} {Y : YT} {r : (Nat → Int32) × Int32 × Int32 × Int32 × Int32 × Int32 × Int32 × Int32 × Int32}  (hX : CX l G cX11_readExpression 4 RX11 Y) (hQ : EQv G Y 0 0 (WM G m_code m_people m_grants m_texts m_copies m_taped m_faultPlace m_isFemale m_born m_died m_father m_mother m_fatherGrade m_motherGrade m_grantTo m_grantArms m_grantYear m_copyYear m_copyRow m_tape m_textYear m_ruleMany m_ruleFrom r.1 m_stack m_ruleKind r.2.1 r.2.2.1 m_read r.2.2.2.1 r.2.2.2.2.1 r.2.2.2.2.2.1 r.2.2.2.2.2.2.1 r.2.2.2.2.2.2.2.1 r.2.2.2.2.2.2.2.2 m_top m_lineLives m_markRow m_quarterMany m_quarters m_isUp m_wasUp ++ fr)) {dk : Nat} {ke : Int32 → (Nat → Int32) → Int32 → Int32 → Int32 → Int32 → Int32 → Int32 → Int32 → Int32 → Option ((Nat → Int32) × Int32 × Int32 × Int32 × Int32 × Int32 × Int32 × Int32 × Int32)} (hke : ∀ (x1 : Int32) (m_codeRow : Nat → Int32) (m_codes : Int32) (m_at : Int32) (m_token : Int32) (m_sign : Int32) (m_begins : Int32) (m_ends : Int32) (m_bad : Int32) (m_badPlace : Int32) (r : (Nat → Int32) × Int32 × Int32 × Int32 × Int32 × Int32 × Int32 × Int32 × Int32), ke x1 m_codeRow m_codes m_at m_token m_sign m_begins m_ends m_bad m_badPlace = some r → Cv l G dk 0 0 yX11_readExpression cX11_readExpression 4 [.ref (gm G 0), .int x1] (WM G m_code m_people m_grants m_texts m_copies m_taped m_faultPlace m_isFemale m_born m_died m_father m_mother m_fatherGrade m_motherGrade m_grantTo m_grantArms m_grantYear m_copyYear m_copyRow m_tape m_textYear m_ruleMany m_ruleFrom m_codeRow m_stack m_ruleKind m_codes m_at m_read m_token m_sign m_begins m_ends m_bad m_badPlace m_top m_lineLives m_markRow m_quarterMany m_quarters m_isUp m_wasUp ++ fr) (WM G m_code m_people m_grants m_texts m_copies m_taped m_faultPlace m_isFemale m_born m_died m_father m_mother m_fatherGrade m_motherGrade m_grantTo m_grantArms m_grantYear m_copyYear m_copyRow m_tape m_textYear m_ruleMany m_ruleFrom r.1 m_stack m_ruleKind r.2.1 r.2.2.1 m_read r.2.2.2.1 r.2.2.2.2.1 r.2.2.2.2.2.1 r.2.2.2.2.2.2.1 r.2.2.2.2.2.2.2.1 r.2.2.2.2.2.2.2.2 m_top m_lineLives m_markRow m_quarterMany m_quarters m_isUp m_wasUp ++ fr)) (hdk : 10 ≤ dk)  (x1 : Int32) (hf : g_X11_readExpression_54 fu m_texts m_tape m_read m_codeRow m_codes m_at m_token m_sign m_begins m_ends m_bad m_badPlace ke x1 = some r) : J l G (rmD (dk + 4) 0 0) Y 0 0 54 [(0, .ref (gm G 0)), (1, .int x1)] [] (WM G m_code m_people m_grants m_texts m_copies m_taped m_faultPlace m_isFemale m_born m_died m_father m_mother m_fatherGrade m_motherGrade m_grantTo m_grantArms m_grantYear m_copyYear m_copyRow m_tape m_textYear m_ruleMany m_ruleFrom m_codeRow m_stack m_ruleKind m_codes m_at m_read m_token m_sign m_begins m_ends m_bad m_badPlace m_top m_lineLives m_markRow m_quarterMany m_quarters m_isUp m_wasUp ++ fr) := by
  unfold g_X11_readExpression_54 at hf
  refine j_aload_n hX dX11_readExpression_54 55 rfl 0 rfl rfl ?_
  refine j_get hX dX11_readExpression_55 58 rfl fg_X11_234 0 rfl rfl ?_
  refine j_if_eq hX dX11_readExpression_58 61 62 rfl rfl (fun h4 => ?_) (fun h4 => ?_)
  · replace hf := itt h4 hf
    refine j_aload_n hX dX11_readExpression_62 63 rfl 0 rfl rfl ?_
    refine j_iload_n hX dX11_readExpression_63 64 rfl 1 rfl rfl ?_
    obtain ⟨v5, hv5, hf⟩ := ibd hf
    refine z_v (As := [.int x1]) (rest := []) (q0 := 0) hX dX11_readExpression_64 67 rfl (t_X11_readTest hke hdk x1 hv5) mc_X11_readTest mv_X11_readTest ml_X11_268 rfl rfl (by omega) (Nat.le_refl _) (Nat.le_refl _) rfl (Nat.le_of_ble_eq_true rfl) ?_
    exact u_X11_readExpression_67 hX hQ hke hdk  fu (x1, v5.1, v5.2.1, v5.2.2.1, v5.2.2.2.1, v5.2.2.2.2.1, v5.2.2.2.2.2.1, v5.2.2.2.2.2.2.1, v5.2.2.2.2.2.2.2.1, v5.2.2.2.2.2.2.2.2) hf
  · replace hf := itf h4 hf
    replace hf := Option.some.inj hf
    subst hf
    exact j_vret hX hQ dX11_readExpression_61
def g_X11_readExpression_30 (fu : Nat) (m_texts : Int32) (m_tape : Nat → Int32) (m_read : Int32) (m_codeRow : Nat → Int32) (m_codes : Int32) (m_at : Int32) (m_token : Int32) (m_sign : Int32) (m_begins : Int32) (m_ends : Int32) (m_bad : Int32) (m_badPlace : Int32) (ke : Int32 → (Nat → Int32) → Int32 → Int32 → Int32 → Int32 → Int32 → Int32 → Int32 → Int32 → Option ((Nat → Int32) × Int32 × Int32 × Int32 × Int32 × Int32 × Int32 × Int32 × Int32)) (x1 : Int32) (s0 : Int32) : Option ((Nat → Int32) × Int32 × Int32 × Int32 × Int32 × Int32 × Int32 × Int32 × Int32) :=
  if s0 = 0 then (f_X11_wrong m_begins m_bad m_badPlace 1).bind fun v17 => g_X11_readExpression_54 fu m_texts m_tape m_read m_codeRow m_codes m_at m_token m_sign m_begins m_ends v17.1 v17.2 ke x1 else if x1 = 6 then (f_X11_wrong m_begins m_bad m_badPlace 2).bind fun v16 => g_X11_readExpression_54 fu m_texts m_tape m_read m_codeRow m_codes m_at m_token m_sign m_begins m_ends v16.1 v16.2 ke x1 else g_X11_readExpression_54 fu m_texts m_tape m_read m_codeRow m_codes m_at m_token m_sign m_begins m_ends m_bad m_badPlace ke x1
set_option maxRecDepth 100000 in
set_option maxHeartbeats 4000000 in
theorem t_X11_readExpression_30 {fu : Nat} {Y : YT} {r : (Nat → Int32) × Int32 × Int32 × Int32 × Int32 × Int32 × Int32 × Int32 × Int32}  (hX : CX l G cX11_readExpression 4 RX11 Y) (hQ : EQv G Y 0 0 (WM G m_code m_people m_grants m_texts m_copies m_taped m_faultPlace m_isFemale m_born m_died m_father m_mother m_fatherGrade m_motherGrade m_grantTo m_grantArms m_grantYear m_copyYear m_copyRow m_tape m_textYear m_ruleMany m_ruleFrom r.1 m_stack m_ruleKind r.2.1 r.2.2.1 m_read r.2.2.2.1 r.2.2.2.2.1 r.2.2.2.2.2.1 r.2.2.2.2.2.2.1 r.2.2.2.2.2.2.2.1 r.2.2.2.2.2.2.2.2 m_top m_lineLives m_markRow m_quarterMany m_quarters m_isUp m_wasUp ++ fr)) {dk : Nat} {ke : Int32 → (Nat → Int32) → Int32 → Int32 → Int32 → Int32 → Int32 → Int32 → Int32 → Int32 → Option ((Nat → Int32) × Int32 × Int32 × Int32 × Int32 × Int32 × Int32 × Int32 × Int32)} (hke : ∀ (x1 : Int32) (m_codeRow : Nat → Int32) (m_codes : Int32) (m_at : Int32) (m_token : Int32) (m_sign : Int32) (m_begins : Int32) (m_ends : Int32) (m_bad : Int32) (m_badPlace : Int32) (r : (Nat → Int32) × Int32 × Int32 × Int32 × Int32 × Int32 × Int32 × Int32 × Int32), ke x1 m_codeRow m_codes m_at m_token m_sign m_begins m_ends m_bad m_badPlace = some r → Cv l G dk 0 0 yX11_readExpression cX11_readExpression 4 [.ref (gm G 0), .int x1] (WM G m_code m_people m_grants m_texts m_copies m_taped m_faultPlace m_isFemale m_born m_died m_father m_mother m_fatherGrade m_motherGrade m_grantTo m_grantArms m_grantYear m_copyYear m_copyRow m_tape m_textYear m_ruleMany m_ruleFrom m_codeRow m_stack m_ruleKind m_codes m_at m_read m_token m_sign m_begins m_ends m_bad m_badPlace m_top m_lineLives m_markRow m_quarterMany m_quarters m_isUp m_wasUp ++ fr) (WM G m_code m_people m_grants m_texts m_copies m_taped m_faultPlace m_isFemale m_born m_died m_father m_mother m_fatherGrade m_motherGrade m_grantTo m_grantArms m_grantYear m_copyYear m_copyRow m_tape m_textYear m_ruleMany m_ruleFrom r.1 m_stack m_ruleKind r.2.1 r.2.2.1 m_read r.2.2.2.1 r.2.2.2.2.1 r.2.2.2.2.2.1 r.2.2.2.2.2.2.1 r.2.2.2.2.2.2.2.1 r.2.2.2.2.2.2.2.2 m_top m_lineLives m_markRow m_quarterMany m_quarters m_isUp m_wasUp ++ fr)) (hdk : 10 ≤ dk)  (x1 : Int32) (s0 : Int32) (hf : g_X11_readExpression_30 fu m_texts m_tape m_read m_codeRow m_codes m_at m_token m_sign m_begins m_ends m_bad m_badPlace ke x1 s0 = some r) : J l G (rmD (dk + 4) 0 0) Y 0 0 30 [(0, .ref (gm G 0)), (1, .int x1)] [.int s0] (WM G m_code m_people m_grants m_texts m_copies m_taped m_faultPlace m_isFemale m_born m_died m_father m_mother m_fatherGrade m_motherGrade m_grantTo m_grantArms m_grantYear m_copyYear m_copyRow m_tape m_textYear m_ruleMany m_ruleFrom m_codeRow m_stack m_ruleKind m_codes m_at m_read m_token m_sign m_begins m_ends m_bad m_badPlace m_top m_lineLives m_markRow m_quarterMany m_quarters m_isUp m_wasUp ++ fr) := by
  unfold g_X11_readExpression_30 at hf
  refine j_istore_n hX dX11_readExpression_30 31 rfl rfl (by decide) (lv' := [(2, .int s0), (0, .ref (gm G 0)), (1, .int x1)]) rfl ?_
  refine j_iload_n hX dX11_readExpression_31 32 rfl 0 rfl rfl ?_
  refine j_if_ne hX dX11_readExpression_32 35 43 rfl rfl (fun h2 => ?_) (fun h2 => ?_)
  · replace hf := itf h2 hf
    refine j_iload_n hX dX11_readExpression_43 44 rfl 2 rfl rfl ?_
    refine j_bipush (v := 6) hX dX11_readExpression_44 46 rfl (by decide) ?_
    refine j_icmp_ne hX dX11_readExpression_46 49 54 rfl rfl (fun h3 => ?_) (fun h3 => ?_)
    · replace hf := itf h3 hf
      refine j_sub [1, 2] rfl ?_
      exact t_X11_readExpression_54 hX hQ hke hdk  x1 hf
    · replace hf := itt h3 hf
      refine j_aload_n hX dX11_readExpression_49 50 rfl 1 rfl rfl ?_
      refine j_iconst (v := 2) hX dX11_readExpression_50 51 rfl (by decide) ?_
      obtain ⟨v16, hv16, hf⟩ := ibd hf
      refine z_v (As := [.int 2]) (rest := []) (q0 := 0) hX dX11_readExpression_51 54 rfl (t_X11_wrong 2 hv16) mc_X11_wrong mv_X11_wrong ml_X11_259 rfl rfl (by omega) (Nat.le_refl _) (Nat.le_refl _) rfl (Nat.le_of_ble_eq_true rfl) ?_
      refine j_sub [1, 2] rfl ?_
      exact t_X11_readExpression_54 hX hQ hke hdk  x1 hf
  · replace hf := itt h2 hf
    refine j_aload_n hX dX11_readExpression_35 36 rfl 1 rfl rfl ?_
    refine j_iconst (v := 1) hX dX11_readExpression_36 37 rfl (by decide) ?_
    obtain ⟨v17, hv17, hf⟩ := ibd hf
    refine z_v (As := [.int 1]) (rest := []) (q0 := 0) hX dX11_readExpression_37 40 rfl (t_X11_wrong 1 hv17) mc_X11_wrong mv_X11_wrong ml_X11_259 rfl rfl (by omega) (Nat.le_refl _) (Nat.le_refl _) rfl (Nat.le_of_ble_eq_true rfl) ?_
    refine j_goto hX dX11_readExpression_40 54 rfl ?_
    refine j_sub [1, 2] rfl ?_
    exact t_X11_readExpression_54 hX hQ hke hdk  x1 hf
def g_X11_readExpression_25 (fu : Nat) (m_texts : Int32) (m_tape : Nat → Int32) (m_read : Int32) (m_codeRow : Nat → Int32) (m_codes : Int32) (m_at : Int32) (m_token : Int32) (m_sign : Int32) (m_begins : Int32) (m_ends : Int32) (m_bad : Int32) (m_badPlace : Int32) (ke : Int32 → (Nat → Int32) → Int32 → Int32 → Int32 → Int32 → Int32 → Int32 → Int32 → Int32 → Option ((Nat → Int32) × Int32 × Int32 × Int32 × Int32 × Int32 × Int32 × Int32 × Int32)) (x1 : Int32) : Option ((Nat → Int32) × Int32 × Int32 × Int32 × Int32 × Int32 × Int32 × Int32 × Int32) :=
  g_X11_readExpression_30 fu m_texts m_tape m_read m_codeRow m_codes m_at m_token m_sign m_begins m_ends m_bad m_badPlace ke x1 1
set_option maxRecDepth 100000 in
set_option maxHeartbeats 4000000 in
theorem t_X11_readExpression_25 {fu : Nat} {Y : YT} {r : (Nat → Int32) × Int32 × Int32 × Int32 × Int32 × Int32 × Int32 × Int32 × Int32}  (hX : CX l G cX11_readExpression 4 RX11 Y) (hQ : EQv G Y 0 0 (WM G m_code m_people m_grants m_texts m_copies m_taped m_faultPlace m_isFemale m_born m_died m_father m_mother m_fatherGrade m_motherGrade m_grantTo m_grantArms m_grantYear m_copyYear m_copyRow m_tape m_textYear m_ruleMany m_ruleFrom r.1 m_stack m_ruleKind r.2.1 r.2.2.1 m_read r.2.2.2.1 r.2.2.2.2.1 r.2.2.2.2.2.1 r.2.2.2.2.2.2.1 r.2.2.2.2.2.2.2.1 r.2.2.2.2.2.2.2.2 m_top m_lineLives m_markRow m_quarterMany m_quarters m_isUp m_wasUp ++ fr)) {dk : Nat} {ke : Int32 → (Nat → Int32) → Int32 → Int32 → Int32 → Int32 → Int32 → Int32 → Int32 → Int32 → Option ((Nat → Int32) × Int32 × Int32 × Int32 × Int32 × Int32 × Int32 × Int32 × Int32)} (hke : ∀ (x1 : Int32) (m_codeRow : Nat → Int32) (m_codes : Int32) (m_at : Int32) (m_token : Int32) (m_sign : Int32) (m_begins : Int32) (m_ends : Int32) (m_bad : Int32) (m_badPlace : Int32) (r : (Nat → Int32) × Int32 × Int32 × Int32 × Int32 × Int32 × Int32 × Int32 × Int32), ke x1 m_codeRow m_codes m_at m_token m_sign m_begins m_ends m_bad m_badPlace = some r → Cv l G dk 0 0 yX11_readExpression cX11_readExpression 4 [.ref (gm G 0), .int x1] (WM G m_code m_people m_grants m_texts m_copies m_taped m_faultPlace m_isFemale m_born m_died m_father m_mother m_fatherGrade m_motherGrade m_grantTo m_grantArms m_grantYear m_copyYear m_copyRow m_tape m_textYear m_ruleMany m_ruleFrom m_codeRow m_stack m_ruleKind m_codes m_at m_read m_token m_sign m_begins m_ends m_bad m_badPlace m_top m_lineLives m_markRow m_quarterMany m_quarters m_isUp m_wasUp ++ fr) (WM G m_code m_people m_grants m_texts m_copies m_taped m_faultPlace m_isFemale m_born m_died m_father m_mother m_fatherGrade m_motherGrade m_grantTo m_grantArms m_grantYear m_copyYear m_copyRow m_tape m_textYear m_ruleMany m_ruleFrom r.1 m_stack m_ruleKind r.2.1 r.2.2.1 m_read r.2.2.2.1 r.2.2.2.2.1 r.2.2.2.2.2.1 r.2.2.2.2.2.2.1 r.2.2.2.2.2.2.2.1 r.2.2.2.2.2.2.2.2 m_top m_lineLives m_markRow m_quarterMany m_quarters m_isUp m_wasUp ++ fr)) (hdk : 10 ≤ dk)  (x1 : Int32) (hf : g_X11_readExpression_25 fu m_texts m_tape m_read m_codeRow m_codes m_at m_token m_sign m_begins m_ends m_bad m_badPlace ke x1 = some r) : J l G (rmD (dk + 4) 0 0) Y 0 0 25 [(0, .ref (gm G 0)), (1, .int x1)] [] (WM G m_code m_people m_grants m_texts m_copies m_taped m_faultPlace m_isFemale m_born m_died m_father m_mother m_fatherGrade m_motherGrade m_grantTo m_grantArms m_grantYear m_copyYear m_copyRow m_tape m_textYear m_ruleMany m_ruleFrom m_codeRow m_stack m_ruleKind m_codes m_at m_read m_token m_sign m_begins m_ends m_bad m_badPlace m_top m_lineLives m_markRow m_quarterMany m_quarters m_isUp m_wasUp ++ fr) := by
  unfold g_X11_readExpression_25 at hf
  refine j_iconst (v := 1) hX dX11_readExpression_25 26 rfl (by decide) ?_
  refine j_goto hX dX11_readExpression_26 30 rfl ?_
  exact t_X11_readExpression_30 hX hQ hke hdk  x1 1 hf
def f_X11_readExpression (fu : Nat) (m_texts : Int32) (m_tape : Nat → Int32) (m_read : Int32) (m_codeRow : Nat → Int32) (m_codes : Int32) (m_at : Int32) (m_token : Int32) (m_sign : Int32) (m_begins : Int32) (m_ends : Int32) (m_bad : Int32) (m_badPlace : Int32) (ke : Int32 → (Nat → Int32) → Int32 → Int32 → Int32 → Int32 → Int32 → Int32 → Int32 → Int32 → Option ((Nat → Int32) × Int32 × Int32 × Int32 × Int32 × Int32 × Int32 × Int32 × Int32)) (x1 : Int32) : Option ((Nat → Int32) × Int32 × Int32 × Int32 × Int32 × Int32 × Int32 × Int32 × Int32) :=
  if m_token = 1 then g_X11_readExpression_25 fu m_texts m_tape m_read m_codeRow m_codes m_at m_token m_sign m_begins m_ends m_bad m_badPlace ke x1 else if m_token = 2 then g_X11_readExpression_25 fu m_texts m_tape m_read m_codeRow m_codes m_at m_token m_sign m_begins m_ends m_bad m_badPlace ke x1 else (f_X11_isSign m_token m_sign 40).bind fun v19 => if v19 = 0 then g_X11_readExpression_30 fu m_texts m_tape m_read m_codeRow m_codes m_at m_token m_sign m_begins m_ends m_bad m_badPlace ke x1 0 else g_X11_readExpression_25 fu m_texts m_tape m_read m_codeRow m_codes m_at m_token m_sign m_begins m_ends m_bad m_badPlace ke x1
set_option maxRecDepth 100000 in
set_option maxHeartbeats 4000000 in
theorem t_X11_readExpression {fu : Nat}  {dk : Nat} {ke : Int32 → (Nat → Int32) → Int32 → Int32 → Int32 → Int32 → Int32 → Int32 → Int32 → Int32 → Option ((Nat → Int32) × Int32 × Int32 × Int32 × Int32 × Int32 × Int32 × Int32 × Int32)} (hke : ∀ (x1 : Int32) (m_codeRow : Nat → Int32) (m_codes : Int32) (m_at : Int32) (m_token : Int32) (m_sign : Int32) (m_begins : Int32) (m_ends : Int32) (m_bad : Int32) (m_badPlace : Int32) (r : (Nat → Int32) × Int32 × Int32 × Int32 × Int32 × Int32 × Int32 × Int32 × Int32), ke x1 m_codeRow m_codes m_at m_token m_sign m_begins m_ends m_bad m_badPlace = some r → Cv l G dk 0 0 yX11_readExpression cX11_readExpression 4 [.ref (gm G 0), .int x1] (WM G m_code m_people m_grants m_texts m_copies m_taped m_faultPlace m_isFemale m_born m_died m_father m_mother m_fatherGrade m_motherGrade m_grantTo m_grantArms m_grantYear m_copyYear m_copyRow m_tape m_textYear m_ruleMany m_ruleFrom m_codeRow m_stack m_ruleKind m_codes m_at m_read m_token m_sign m_begins m_ends m_bad m_badPlace m_top m_lineLives m_markRow m_quarterMany m_quarters m_isUp m_wasUp ++ fr) (WM G m_code m_people m_grants m_texts m_copies m_taped m_faultPlace m_isFemale m_born m_died m_father m_mother m_fatherGrade m_motherGrade m_grantTo m_grantArms m_grantYear m_copyYear m_copyRow m_tape m_textYear m_ruleMany m_ruleFrom r.1 m_stack m_ruleKind r.2.1 r.2.2.1 m_read r.2.2.2.1 r.2.2.2.2.1 r.2.2.2.2.2.1 r.2.2.2.2.2.2.1 r.2.2.2.2.2.2.2.1 r.2.2.2.2.2.2.2.2 m_top m_lineLives m_markRow m_quarterMany m_quarters m_isUp m_wasUp ++ fr)) (hdk : 10 ≤ dk) (x1 : Int32) {r : (Nat → Int32) × Int32 × Int32 × Int32 × Int32 × Int32 × Int32 × Int32 × Int32} (hf : f_X11_readExpression fu m_texts m_tape m_read m_codeRow m_codes m_at m_token m_sign m_begins m_ends m_bad m_badPlace ke x1 = some r) : Cv l G (dk + 4) 0 0 yX11_readExpression cX11_readExpression 4 [.ref (gm G 0), .int x1] (WM G m_code m_people m_grants m_texts m_copies m_taped m_faultPlace m_isFemale m_born m_died m_father m_mother m_fatherGrade m_motherGrade m_grantTo m_grantArms m_grantYear m_copyYear m_copyRow m_tape m_textYear m_ruleMany m_ruleFrom m_codeRow m_stack m_ruleKind m_codes m_at m_read m_token m_sign m_begins m_ends m_bad m_badPlace m_top m_lineLives m_markRow m_quarterMany m_quarters m_isUp m_wasUp ++ fr) (WM G m_code m_people m_grants m_texts m_copies m_taped m_faultPlace m_isFemale m_born m_died m_father m_mother m_fatherGrade m_motherGrade m_grantTo m_grantArms m_grantYear m_copyYear m_copyRow m_tape m_textYear m_ruleMany m_ruleFrom r.1 m_stack m_ruleKind r.2.1 r.2.2.1 m_read r.2.2.2.1 r.2.2.2.2.1 r.2.2.2.2.2.1 r.2.2.2.2.2.2.1 r.2.2.2.2.2.2.2.1 r.2.2.2.2.2.2.2.2 m_top m_lineLives m_markRow m_quarterMany m_quarters m_isUp m_wasUp ++ fr) := by
  refine Cv.of (by decide) (Nat.le_of_ble_eq_true rfl) (fun Y hX hQ => ?_)
  refine j_lv (lv' := [(0, .ref (gm G 0)), (1, .int x1)]) rfl ?_
  unfold f_X11_readExpression at hf
  refine j_aload_n hX dX11_readExpression_0 1 rfl 0 rfl rfl ?_
  refine j_get hX dX11_readExpression_1 4 rfl fg_X11_215 0 rfl rfl ?_
  refine j_iconst (v := 1) hX dX11_readExpression_4 5 rfl (by decide) ?_
  refine j_icmp_eq hX dX11_readExpression_5 8 25 rfl rfl (fun h1 => ?_) (fun h1 => ?_)
  · replace hf := itt h1 hf
    exact t_X11_readExpression_25 hX hQ hke hdk  x1 hf
  · replace hf := itf h1 hf
    refine j_aload_n hX dX11_readExpression_8 9 rfl 0 rfl rfl ?_
    refine j_get hX dX11_readExpression_9 12 rfl fg_X11_215 0 rfl rfl ?_
    refine j_iconst (v := 2) hX dX11_readExpression_12 13 rfl (by decide) ?_
    refine j_icmp_eq hX dX11_readExpression_13 16 25 rfl rfl (fun h18 => ?_) (fun h18 => ?_)
    · replace hf := itt h18 hf
      exact t_X11_readExpression_25 hX hQ hke hdk  x1 hf
    · replace hf := itf h18 hf
      refine j_aload_n hX dX11_readExpression_16 17 rfl 0 rfl rfl ?_
      refine j_bipush (v := 40) hX dX11_readExpression_17 19 rfl (by decide) ?_
      obtain ⟨v19, hv19, hf⟩ := ibd hf
      refine z_i (As := [.int 40]) (rest := []) (q0 := 0) hX dX11_readExpression_19 22 rfl (t_X11_isSign 40 hv19) mc_X11_isSign mv_X11_isSign ml_X11_265 rfl rfl (by omega) (Nat.le_refl _) (Nat.le_refl _) rfl (Nat.le_of_ble_eq_true rfl) ?_
      refine j_if_eq hX dX11_readExpression_22 25 29 rfl rfl (fun h20 => ?_) (fun h20 => ?_)
      · replace hf := itt h20 hf
        refine j_iconst (v := 0) hX dX11_readExpression_29 30 rfl (by decide) ?_
        exact t_X11_readExpression_30 hX hQ hke hdk  x1 0 hf
      · replace hf := itf h20 hf
        exact t_X11_readExpression_25 hX hQ hke hdk  x1 hf
def e_X11_readExpression (fu : Nat) (m_texts : Int32) (m_tape : Nat → Int32) (m_read : Int32) : Nat → Int32 → (Nat → Int32) → Int32 → Int32 → Int32 → Int32 → Int32 → Int32 → Int32 → Int32 → Option ((Nat → Int32) × Int32 × Int32 × Int32 × Int32 × Int32 × Int32 × Int32 × Int32)
  | 0 => fun _ _ _ _ _ _ _ _ _ _ => none
  | k + 1 => fun x1 m_codeRow m_codes m_at m_token m_sign m_begins m_ends m_bad m_badPlace => f_X11_readExpression fu m_texts m_tape m_read m_codeRow m_codes m_at m_token m_sign m_begins m_ends m_bad m_badPlace (e_X11_readExpression fu m_texts m_tape m_read k) x1
set_option maxRecDepth 100000 in
set_option maxHeartbeats 4000000 in
theorem te_X11_readExpression {fu : Nat} (k : Nat) : ∀ (x1 : Int32) (m_codeRow : Nat → Int32) (m_codes : Int32) (m_at : Int32) (m_token : Int32) (m_sign : Int32) (m_begins : Int32) (m_ends : Int32) (m_bad : Int32) (m_badPlace : Int32) {r : (Nat → Int32) × Int32 × Int32 × Int32 × Int32 × Int32 × Int32 × Int32 × Int32}, e_X11_readExpression fu m_texts m_tape m_read k x1 m_codeRow m_codes m_at m_token m_sign m_begins m_ends m_bad m_badPlace = some r → Cv l G (10 + 4 * k) 0 0 yX11_readExpression cX11_readExpression 4 [.ref (gm G 0), .int x1] (WM G m_code m_people m_grants m_texts m_copies m_taped m_faultPlace m_isFemale m_born m_died m_father m_mother m_fatherGrade m_motherGrade m_grantTo m_grantArms m_grantYear m_copyYear m_copyRow m_tape m_textYear m_ruleMany m_ruleFrom m_codeRow m_stack m_ruleKind m_codes m_at m_read m_token m_sign m_begins m_ends m_bad m_badPlace m_top m_lineLives m_markRow m_quarterMany m_quarters m_isUp m_wasUp ++ fr) (WM G m_code m_people m_grants m_texts m_copies m_taped m_faultPlace m_isFemale m_born m_died m_father m_mother m_fatherGrade m_motherGrade m_grantTo m_grantArms m_grantYear m_copyYear m_copyRow m_tape m_textYear m_ruleMany m_ruleFrom r.1 m_stack m_ruleKind r.2.1 r.2.2.1 m_read r.2.2.2.1 r.2.2.2.2.1 r.2.2.2.2.2.1 r.2.2.2.2.2.2.1 r.2.2.2.2.2.2.2.1 r.2.2.2.2.2.2.2.2 m_top m_lineLives m_markRow m_quarterMany m_quarters m_isUp m_wasUp ++ fr) := by
  induction k with
  | zero => intro x1 m_codeRow m_codes m_at m_token m_sign m_begins m_ends m_bad m_badPlace r hf; cases hf
  | succ k ih =>
    intro x1 m_codeRow m_codes m_at m_token m_sign m_begins m_ends m_bad m_badPlace r hf
    exact t_X11_readExpression (dk := 10 + 4 * k) (fun x1 m_codeRow m_codes m_at m_token m_sign m_begins m_ends m_bad m_badPlace r h => ih x1 m_codeRow m_codes m_at m_token m_sign m_begins m_ends m_bad m_badPlace h) (Nat.le_add_right _ _) x1 hf
def g_X11_readText_174 (m_texts : Int32) (m_ruleMany : Nat → Int32) (m_ruleFrom : Nat → Int32) (m_codeRow : Nat → Int32) (m_ruleKind : Nat → Int32) (m_codes : Int32) (m_at : Int32) (m_token : Int32) (m_sign : Int32) (m_begins : Int32) (m_ends : Int32) (m_bad : Int32) (m_badPlace : Int32) (x1 : Int32) : Option ((Nat → Int32) × (Nat → Int32) × (Nat → Int32) × (Nat → Int32) × Int32 × Int32 × Int32 × Int32 × Int32 × Int32 × Int32 × Int32) :=
  if inb ((13 * m_texts) + x1) 78 = true then if inb m_texts 6 = true then some (upd m_ruleMany (Int32.toNatClampNeg m_texts) x1, upd m_ruleFrom (Int32.toNatClampNeg ((13 * m_texts) + x1)) m_codes, m_codeRow, m_ruleKind, m_codes, m_at, m_token, m_sign, m_begins, m_ends, m_bad, m_badPlace) else none else none
set_option maxRecDepth 100000 in
set_option maxHeartbeats 4000000 in
theorem t_X11_readText_174 {Y : YT} {r : (Nat → Int32) × (Nat → Int32) × (Nat → Int32) × (Nat → Int32) × Int32 × Int32 × Int32 × Int32 × Int32 × Int32 × Int32 × Int32}  (hX : CX l G cX11_readText 3 RX11 Y) (hQ : EQv G Y 0 0 (WM G m_code m_people m_grants m_texts m_copies m_taped m_faultPlace m_isFemale m_born m_died m_father m_mother m_fatherGrade m_motherGrade m_grantTo m_grantArms m_grantYear m_copyYear m_copyRow m_tape m_textYear r.1 r.2.1 r.2.2.1 m_stack r.2.2.2.1 r.2.2.2.2.1 r.2.2.2.2.2.1 m_read r.2.2.2.2.2.2.1 r.2.2.2.2.2.2.2.1 r.2.2.2.2.2.2.2.2.1 r.2.2.2.2.2.2.2.2.2.1 r.2.2.2.2.2.2.2.2.2.2.1 r.2.2.2.2.2.2.2.2.2.2.2 m_top m_lineLives m_markRow m_quarterMany m_quarters m_isUp m_wasUp ++ fr))  (x1 : Int32) (hf : g_X11_readText_174 m_texts m_ruleMany m_ruleFrom m_codeRow m_ruleKind m_codes m_at m_token m_sign m_begins m_ends m_bad m_badPlace x1 = some r) : J l G (rmD 43 0 0) Y 0 0 174 [(0, .ref (gm G 0)), (1, .int x1)] [] (WM G m_code m_people m_grants m_texts m_copies m_taped m_faultPlace m_isFemale m_born m_died m_father m_mother m_fatherGrade m_motherGrade m_grantTo m_grantArms m_grantYear m_copyYear m_copyRow m_tape m_textYear m_ruleMany m_ruleFrom m_codeRow m_stack m_ruleKind m_codes m_at m_read m_token m_sign m_begins m_ends m_bad m_badPlace m_top m_lineLives m_markRow m_quarterMany m_quarters m_isUp m_wasUp ++ fr) := by
  unfold g_X11_readText_174 at hf
  refine j_aload_n hX dX11_readText_174 175 rfl 0 rfl rfl ?_
  refine j_get hX dX11_readText_175 178 rfl fg_X11_81 0 rfl rfl ?_
  refine j_bipush (v := 13) hX dX11_readText_178 180 rfl (by decide) ?_
  refine j_aload_n hX dX11_readText_180 181 rfl 0 rfl rfl ?_
  refine j_get hX dX11_readText_181 184 rfl fg_X11_240 0 rfl rfl ?_
  refine j_imul hX dX11_readText_184 185 rfl ?_
  refine j_iload_n hX dX11_readText_185 186 rfl 1 rfl rfl ?_
  refine j_iadd hX dX11_readText_186 187 rfl ?_
  refine j_aload_n hX dX11_readText_187 188 rfl 0 rfl rfl ?_
  refine j_get hX dX11_readText_188 191 rfl fg_X11_243 0 rfl rfl ?_
  obtain ⟨hb3, hf⟩ := ign hf
  refine j_iast hX dX11_readText_191 192 rfl 17 rfl hb3 (ws' := (WM G m_code m_people m_grants m_texts m_copies m_taped m_faultPlace m_isFemale m_born m_died m_father m_mother m_fatherGrade m_motherGrade m_grantTo m_grantArms m_grantYear m_copyYear m_copyRow m_tape m_textYear m_ruleMany (upd m_ruleFrom (Int32.toNatClampNeg ((13 * m_texts) + x1)) m_codes) m_codeRow m_stack m_ruleKind m_codes m_at m_read m_token m_sign m_begins m_ends m_bad m_badPlace m_top m_lineLives m_markRow m_quarterMany m_quarters m_isUp m_wasUp ++ fr)) rfl ?_
  refine j_aload_n hX dX11_readText_192 193 rfl 0 rfl rfl ?_
  refine j_get hX dX11_readText_193 196 rfl fg_X11_78 0 rfl rfl ?_
  refine j_aload_n hX dX11_readText_196 197 rfl 0 rfl rfl ?_
  refine j_get hX dX11_readText_197 200 rfl fg_X11_240 0 rfl rfl ?_
  refine j_iload_n hX dX11_readText_200 201 rfl 1 rfl rfl ?_
  obtain ⟨hb4, hf⟩ := ign hf
  refine j_iast hX dX11_readText_201 202 rfl 16 rfl hb4 (ws' := (WM G m_code m_people m_grants m_texts m_copies m_taped m_faultPlace m_isFemale m_born m_died m_father m_mother m_fatherGrade m_motherGrade m_grantTo m_grantArms m_grantYear m_copyYear m_copyRow m_tape m_textYear (upd m_ruleMany (Int32.toNatClampNeg m_texts) x1) (upd m_ruleFrom (Int32.toNatClampNeg ((13 * m_texts) + x1)) m_codes) m_codeRow m_stack m_ruleKind m_codes m_at m_read m_token m_sign m_begins m_ends m_bad m_badPlace m_top m_lineLives m_markRow m_quarterMany m_quarters m_isUp m_wasUp ++ fr)) rfl ?_
  replace hf := Option.some.inj hf
  subst hf
  exact j_vret hX hQ dX11_readText_202
def g_X11_readText_171 (m_ruleMany : Nat → Int32) (m_ruleFrom : Nat → Int32) (m_codeRow : Nat → Int32) (m_ruleKind : Nat → Int32) (m_codes : Int32) (m_at : Int32) (m_token : Int32) (m_sign : Int32) (m_begins : Int32) (m_ends : Int32) (m_bad : Int32) (m_badPlace : Int32) (k6 : Int32 → (Nat → Int32) → (Nat → Int32) → (Nat → Int32) → (Nat → Int32) → Int32 → Int32 → Int32 → Int32 → Int32 → Int32 → Int32 → Int32 → Option ((Nat → Int32) × (Nat → Int32) × (Nat → Int32) × (Nat → Int32) × Int32 × Int32 × Int32 × Int32 × Int32 × Int32 × Int32 × Int32)) (x1 : Int32) : Option ((Nat → Int32) × (Nat → Int32) × (Nat → Int32) × (Nat → Int32) × Int32 × Int32 × Int32 × Int32 × Int32 × Int32 × Int32 × Int32) :=
  k6 x1 m_ruleMany m_ruleFrom m_codeRow m_ruleKind m_codes m_at m_token m_sign m_begins m_ends m_bad m_badPlace
set_option maxRecDepth 100000 in
set_option maxHeartbeats 4000000 in
theorem t_X11_readText_171 {Y : YT} {r : (Nat → Int32) × (Nat → Int32) × (Nat → Int32) × (Nat → Int32) × Int32 × Int32 × Int32 × Int32 × Int32 × Int32 × Int32 × Int32} {k6 : Int32 → (Nat → Int32) → (Nat → Int32) → (Nat → Int32) → (Nat → Int32) → Int32 → Int32 → Int32 → Int32 → Int32 → Int32 → Int32 → Int32 → Option ((Nat → Int32) × (Nat → Int32) × (Nat → Int32) × (Nat → Int32) × Int32 × Int32 × Int32 × Int32 × Int32 × Int32 × Int32 × Int32)} (hX : CX l G cX11_readText 3 RX11 Y) (hQ : EQv G Y 0 0 (WM G m_code m_people m_grants m_texts m_copies m_taped m_faultPlace m_isFemale m_born m_died m_father m_mother m_fatherGrade m_motherGrade m_grantTo m_grantArms m_grantYear m_copyYear m_copyRow m_tape m_textYear r.1 r.2.1 r.2.2.1 m_stack r.2.2.2.1 r.2.2.2.2.1 r.2.2.2.2.2.1 m_read r.2.2.2.2.2.2.1 r.2.2.2.2.2.2.2.1 r.2.2.2.2.2.2.2.2.1 r.2.2.2.2.2.2.2.2.2.1 r.2.2.2.2.2.2.2.2.2.2.1 r.2.2.2.2.2.2.2.2.2.2.2 m_top m_lineLives m_markRow m_quarterMany m_quarters m_isUp m_wasUp ++ fr)) (hk6 : ∀ (x1 : Int32) (m_ruleMany : Nat → Int32) (m_ruleFrom : Nat → Int32) (m_codeRow : Nat → Int32) (m_ruleKind : Nat → Int32) (m_codes : Int32) (m_at : Int32) (m_token : Int32) (m_sign : Int32) (m_begins : Int32) (m_ends : Int32) (m_bad : Int32) (m_badPlace : Int32), k6 x1 m_ruleMany m_ruleFrom m_codeRow m_ruleKind m_codes m_at m_token m_sign m_begins m_ends m_bad m_badPlace = some r → J l G (rmD 43 0 0) Y 0 0 6 [(0, .ref (gm G 0)), (1, .int x1)] [] (WM G m_code m_people m_grants m_texts m_copies m_taped m_faultPlace m_isFemale m_born m_died m_father m_mother m_fatherGrade m_motherGrade m_grantTo m_grantArms m_grantYear m_copyYear m_copyRow m_tape m_textYear m_ruleMany m_ruleFrom m_codeRow m_stack m_ruleKind m_codes m_at m_read m_token m_sign m_begins m_ends m_bad m_badPlace m_top m_lineLives m_markRow m_quarterMany m_quarters m_isUp m_wasUp ++ fr)) (x1 : Int32) (hf : g_X11_readText_171 m_ruleMany m_ruleFrom m_codeRow m_ruleKind m_codes m_at m_token m_sign m_begins m_ends m_bad m_badPlace k6 x1 = some r) : J l G (rmD 43 0 0) Y 0 0 171 [(0, .ref (gm G 0)), (1, .int x1)] [] (WM G m_code m_people m_grants m_texts m_copies m_taped m_faultPlace m_isFemale m_born m_died m_father m_mother m_fatherGrade m_motherGrade m_grantTo m_grantArms m_grantYear m_copyYear m_copyRow m_tape m_textYear m_ruleMany m_ruleFrom m_codeRow m_stack m_ruleKind m_codes m_at m_read m_token m_sign m_begins m_ends m_bad m_badPlace m_top m_lineLives m_markRow m_quarterMany m_quarters m_isUp m_wasUp ++ fr) := by
  unfold g_X11_readText_171 at hf
  refine j_goto hX dX11_readText_171 6 rfl ?_
  exact hk6 x1 m_ruleMany m_ruleFrom m_codeRow m_ruleKind m_codes m_at m_token m_sign m_begins m_ends m_bad m_badPlace hf
def g_X11_readText_160 (fu : Nat) (m_tape : Nat → Int32) (m_read : Int32) (m_ruleMany : Nat → Int32) (m_ruleFrom : Nat → Int32) (m_codeRow : Nat → Int32) (m_ruleKind : Nat → Int32) (m_codes : Int32) (m_at : Int32) (m_token : Int32) (m_sign : Int32) (m_begins : Int32) (m_ends : Int32) (m_bad : Int32) (m_badPlace : Int32) (k6 : Int32 → (Nat → Int32) → (Nat → Int32) → (Nat → Int32) → (Nat → Int32) → Int32 → Int32 → Int32 → Int32 → Int32 → Int32 → Int32 → Int32 → Option ((Nat → Int32) × (Nat → Int32) × (Nat → Int32) × (Nat → Int32) × Int32 × Int32 × Int32 × Int32 × Int32 × Int32 × Int32 × Int32)) (x1 : Int32) : Option ((Nat → Int32) × (Nat → Int32) × (Nat → Int32) × (Nat → Int32) × Int32 × Int32 × Int32 × Int32 × Int32 × Int32 × Int32 × Int32) :=
  if m_bad = 0 then (f_X11_step fu m_tape m_read m_at m_token m_sign m_begins m_ends).bind fun v21 => g_X11_readText_171 m_ruleMany m_ruleFrom m_codeRow m_ruleKind m_codes v21.1 v21.2.1 v21.2.2.1 v21.2.2.2.1 v21.2.2.2.2 m_bad m_badPlace k6 x1 else g_X11_readText_171 m_ruleMany m_ruleFrom m_codeRow m_ruleKind m_codes m_at m_token m_sign m_begins m_ends m_bad m_badPlace k6 x1
set_option maxRecDepth 100000 in
set_option maxHeartbeats 4000000 in
theorem t_X11_readText_160 {fu : Nat} {Y : YT} {r : (Nat → Int32) × (Nat → Int32) × (Nat → Int32) × (Nat → Int32) × Int32 × Int32 × Int32 × Int32 × Int32 × Int32 × Int32 × Int32} {k6 : Int32 → (Nat → Int32) → (Nat → Int32) → (Nat → Int32) → (Nat → Int32) → Int32 → Int32 → Int32 → Int32 → Int32 → Int32 → Int32 → Int32 → Option ((Nat → Int32) × (Nat → Int32) × (Nat → Int32) × (Nat → Int32) × Int32 × Int32 × Int32 × Int32 × Int32 × Int32 × Int32 × Int32)} (hX : CX l G cX11_readText 3 RX11 Y) (hQ : EQv G Y 0 0 (WM G m_code m_people m_grants m_texts m_copies m_taped m_faultPlace m_isFemale m_born m_died m_father m_mother m_fatherGrade m_motherGrade m_grantTo m_grantArms m_grantYear m_copyYear m_copyRow m_tape m_textYear r.1 r.2.1 r.2.2.1 m_stack r.2.2.2.1 r.2.2.2.2.1 r.2.2.2.2.2.1 m_read r.2.2.2.2.2.2.1 r.2.2.2.2.2.2.2.1 r.2.2.2.2.2.2.2.2.1 r.2.2.2.2.2.2.2.2.2.1 r.2.2.2.2.2.2.2.2.2.2.1 r.2.2.2.2.2.2.2.2.2.2.2 m_top m_lineLives m_markRow m_quarterMany m_quarters m_isUp m_wasUp ++ fr)) (hk6 : ∀ (x1 : Int32) (m_ruleMany : Nat → Int32) (m_ruleFrom : Nat → Int32) (m_codeRow : Nat → Int32) (m_ruleKind : Nat → Int32) (m_codes : Int32) (m_at : Int32) (m_token : Int32) (m_sign : Int32) (m_begins : Int32) (m_ends : Int32) (m_bad : Int32) (m_badPlace : Int32), k6 x1 m_ruleMany m_ruleFrom m_codeRow m_ruleKind m_codes m_at m_token m_sign m_begins m_ends m_bad m_badPlace = some r → J l G (rmD 43 0 0) Y 0 0 6 [(0, .ref (gm G 0)), (1, .int x1)] [] (WM G m_code m_people m_grants m_texts m_copies m_taped m_faultPlace m_isFemale m_born m_died m_father m_mother m_fatherGrade m_motherGrade m_grantTo m_grantArms m_grantYear m_copyYear m_copyRow m_tape m_textYear m_ruleMany m_ruleFrom m_codeRow m_stack m_ruleKind m_codes m_at m_read m_token m_sign m_begins m_ends m_bad m_badPlace m_top m_lineLives m_markRow m_quarterMany m_quarters m_isUp m_wasUp ++ fr)) (x1 : Int32) (hf : g_X11_readText_160 fu m_tape m_read m_ruleMany m_ruleFrom m_codeRow m_ruleKind m_codes m_at m_token m_sign m_begins m_ends m_bad m_badPlace k6 x1 = some r) : J l G (rmD 43 0 0) Y 0 0 160 [(0, .ref (gm G 0)), (1, .int x1)] [] (WM G m_code m_people m_grants m_texts m_copies m_taped m_faultPlace m_isFemale m_born m_died m_father m_mother m_fatherGrade m_motherGrade m_grantTo m_grantArms m_grantYear m_copyYear m_copyRow m_tape m_textYear m_ruleMany m_ruleFrom m_codeRow m_stack m_ruleKind m_codes m_at m_read m_token m_sign m_begins m_ends m_bad m_badPlace m_top m_lineLives m_markRow m_quarterMany m_quarters m_isUp m_wasUp ++ fr) := by
  unfold g_X11_readText_160 at hf
  refine j_aload_n hX dX11_readText_160 161 rfl 0 rfl rfl ?_
  refine j_get hX dX11_readText_161 164 rfl fg_X11_234 0 rfl rfl ?_
  refine j_if_ne hX dX11_readText_164 167 171 rfl rfl (fun h20 => ?_) (fun h20 => ?_)
  · replace hf := itf h20 hf
    exact t_X11_readText_171 hX hQ  hk6 x1 hf
  · replace hf := itt h20 hf
    refine j_aload_n hX dX11_readText_167 168 rfl 0 rfl rfl ?_
    obtain ⟨v21, hv21, hf⟩ := ibd hf
    refine z_v (As := []) (rest := []) (q0 := 0) hX dX11_readText_168 171 rfl (t_X11_step  hv21) mc_X11_step mv_X11_step ml_X11_246 rfl rfl (Nat.le_of_ble_eq_true rfl) (Nat.le_refl _) (Nat.le_refl _) rfl (Nat.le_of_ble_eq_true rfl) ?_
    exact t_X11_readText_171 hX hQ  hk6 x1 hf
def g_X11_readText_86 (fu : Nat) (m_texts : Int32) (m_tape : Nat → Int32) (m_read : Int32) (m_ruleMany : Nat → Int32) (m_ruleFrom : Nat → Int32) (m_codeRow : Nat → Int32) (m_ruleKind : Nat → Int32) (m_codes : Int32) (m_at : Int32) (m_token : Int32) (m_sign : Int32) (m_begins : Int32) (m_ends : Int32) (m_bad : Int32) (m_badPlace : Int32) (k6 : Int32 → (Nat → Int32) → (Nat → Int32) → (Nat → Int32) → (Nat → Int32) → Int32 → Int32 → Int32 → Int32 → Int32 → Int32 → Int32 → Int32 → Option ((Nat → Int32) × (Nat → Int32) × (Nat → Int32) × (Nat → Int32) × Int32 × Int32 × Int32 × Int32 × Int32 × Int32 × Int32 × Int32)) (x1 : Int32) (x2 : Int32) : Option ((Nat → Int32) × (Nat → Int32) × (Nat → Int32) × (Nat → Int32) × Int32 × Int32 × Int32 × Int32 × Int32 × Int32 × Int32 × Int32) :=
  if m_bad = 0 then if inb ((12 * m_texts) + x1) 72 = true then if inb ((13 * m_texts) + x1) 78 = true then (f_X11_step fu m_tape m_read m_at m_token m_sign m_begins m_ends).bind fun v17 => (e_X11_readExpression fu m_texts m_tape m_read 8 0 m_codeRow m_codes v17.1 v17.2.1 v17.2.2.1 v17.2.2.2.1 v17.2.2.2.2 m_bad m_badPlace).bind fun v18 => if v18.2.2.2.2.2.2.2.1 = 0 then (f_X11_isSign v18.2.2.2.1 v18.2.2.2.2.1 59).bind fun v22 => if v22 = 0 then (f_X11_wrong v18.2.2.2.2.2.1 v18.2.2.2.2.2.2.2.1 v18.2.2.2.2.2.2.2.2 1).bind fun v24 => g_X11_readText_160 fu m_tape m_read m_ruleMany (upd m_ruleFrom (Int32.toNatClampNeg ((13 * m_texts) + x1)) m_codes) v18.1 (upd m_ruleKind (Int32.toNatClampNeg ((12 * m_texts) + x1)) x2) v18.2.1 v18.2.2.1 v18.2.2.2.1 v18.2.2.2.2.1 v18.2.2.2.2.2.1 v18.2.2.2.2.2.2.1 v24.1 v24.2 k6 (x1 + 1) else g_X11_readText_160 fu m_tape m_read m_ruleMany (upd m_ruleFrom (Int32.toNatClampNeg ((13 * m_texts) + x1)) m_codes) v18.1 (upd m_ruleKind (Int32.toNatClampNeg ((12 * m_texts) + x1)) x2) v18.2.1 v18.2.2.1 v18.2.2.2.1 v18.2.2.2.2.1 v18.2.2.2.2.2.1 v18.2.2.2.2.2.2.1 v18.2.2.2.2.2.2.2.1 v18.2.2.2.2.2.2.2.2 k6 (x1 + 1) else g_X11_readText_160 fu m_tape m_read m_ruleMany (upd m_ruleFrom (Int32.toNatClampNeg ((13 * m_texts) + x1)) m_codes) v18.1 (upd m_ruleKind (Int32.toNatClampNeg ((12 * m_texts) + x1)) x2) v18.2.1 v18.2.2.1 v18.2.2.2.1 v18.2.2.2.2.1 v18.2.2.2.2.2.1 v18.2.2.2.2.2.2.1 v18.2.2.2.2.2.2.2.1 v18.2.2.2.2.2.2.2.2 k6 (x1 + 1) else none else none else some (m_ruleMany, m_ruleFrom, m_codeRow, m_ruleKind, m_codes, m_at, m_token, m_sign, m_begins, m_ends, m_bad, m_badPlace)
set_option maxRecDepth 100000 in
set_option maxHeartbeats 4000000 in
theorem t_X11_readText_86 {fu : Nat} {Y : YT} {r : (Nat → Int32) × (Nat → Int32) × (Nat → Int32) × (Nat → Int32) × Int32 × Int32 × Int32 × Int32 × Int32 × Int32 × Int32 × Int32} {k6 : Int32 → (Nat → Int32) → (Nat → Int32) → (Nat → Int32) → (Nat → Int32) → Int32 → Int32 → Int32 → Int32 → Int32 → Int32 → Int32 → Int32 → Option ((Nat → Int32) × (Nat → Int32) × (Nat → Int32) × (Nat → Int32) × Int32 × Int32 × Int32 × Int32 × Int32 × Int32 × Int32 × Int32)} (hX : CX l G cX11_readText 3 RX11 Y) (hQ : EQv G Y 0 0 (WM G m_code m_people m_grants m_texts m_copies m_taped m_faultPlace m_isFemale m_born m_died m_father m_mother m_fatherGrade m_motherGrade m_grantTo m_grantArms m_grantYear m_copyYear m_copyRow m_tape m_textYear r.1 r.2.1 r.2.2.1 m_stack r.2.2.2.1 r.2.2.2.2.1 r.2.2.2.2.2.1 m_read r.2.2.2.2.2.2.1 r.2.2.2.2.2.2.2.1 r.2.2.2.2.2.2.2.2.1 r.2.2.2.2.2.2.2.2.2.1 r.2.2.2.2.2.2.2.2.2.2.1 r.2.2.2.2.2.2.2.2.2.2.2 m_top m_lineLives m_markRow m_quarterMany m_quarters m_isUp m_wasUp ++ fr)) (hk6 : ∀ (x1 : Int32) (m_ruleMany : Nat → Int32) (m_ruleFrom : Nat → Int32) (m_codeRow : Nat → Int32) (m_ruleKind : Nat → Int32) (m_codes : Int32) (m_at : Int32) (m_token : Int32) (m_sign : Int32) (m_begins : Int32) (m_ends : Int32) (m_bad : Int32) (m_badPlace : Int32), k6 x1 m_ruleMany m_ruleFrom m_codeRow m_ruleKind m_codes m_at m_token m_sign m_begins m_ends m_bad m_badPlace = some r → J l G (rmD 43 0 0) Y 0 0 6 [(0, .ref (gm G 0)), (1, .int x1)] [] (WM G m_code m_people m_grants m_texts m_copies m_taped m_faultPlace m_isFemale m_born m_died m_father m_mother m_fatherGrade m_motherGrade m_grantTo m_grantArms m_grantYear m_copyYear m_copyRow m_tape m_textYear m_ruleMany m_ruleFrom m_codeRow m_stack m_ruleKind m_codes m_at m_read m_token m_sign m_begins m_ends m_bad m_badPlace m_top m_lineLives m_markRow m_quarterMany m_quarters m_isUp m_wasUp ++ fr)) (x1 : Int32) (x2 : Int32) (hf : g_X11_readText_86 fu m_texts m_tape m_read m_ruleMany m_ruleFrom m_codeRow m_ruleKind m_codes m_at m_token m_sign m_begins m_ends m_bad m_badPlace k6 x1 x2 = some r) : J l G (rmD 43 0 0) Y 0 0 86 [(0, .ref (gm G 0)), (1, .int x1), (2, .int x2)] [] (WM G m_code m_people m_grants m_texts m_copies m_taped m_faultPlace m_isFemale m_born m_died m_father m_mother m_fatherGrade m_motherGrade m_grantTo m_grantArms m_grantYear m_copyYear m_copyRow m_tape m_textYear m_ruleMany m_ruleFrom m_codeRow m_stack m_ruleKind m_codes m_at m_read m_token m_sign m_begins m_ends m_bad m_badPlace m_top m_lineLives m_markRow m_quarterMany m_quarters m_isUp m_wasUp ++ fr) := by
  unfold g_X11_readText_86 at hf
  refine j_aload_n hX dX11_readText_86 87 rfl 0 rfl rfl ?_
  refine j_get hX dX11_readText_87 90 rfl fg_X11_234 0 rfl rfl ?_
  refine j_if_eq hX dX11_readText_90 93 94 rfl rfl (fun h14 => ?_) (fun h14 => ?_)
  · replace hf := itt h14 hf
    refine j_aload_n hX dX11_readText_94 95 rfl 0 rfl rfl ?_
    refine j_get hX dX11_readText_95 98 rfl fg_X11_90 0 rfl rfl ?_
    refine j_bipush (v := 12) hX dX11_readText_98 100 rfl (by decide) ?_
    refine j_aload_n hX dX11_readText_100 101 rfl 0 rfl rfl ?_
    refine j_get hX dX11_readText_101 104 rfl fg_X11_240 0 rfl rfl ?_
    refine j_imul hX dX11_readText_104 105 rfl ?_
    refine j_iload_n hX dX11_readText_105 106 rfl 1 rfl rfl ?_
    refine j_iadd hX dX11_readText_106 107 rfl ?_
    refine j_iload_n hX dX11_readText_107 108 rfl 2 rfl rfl ?_
    obtain ⟨hb15, hf⟩ := ign hf
    refine j_iast hX dX11_readText_108 109 rfl 20 rfl hb15 (ws' := (WM G m_code m_people m_grants m_texts m_copies m_taped m_faultPlace m_isFemale m_born m_died m_father m_mother m_fatherGrade m_motherGrade m_grantTo m_grantArms m_grantYear m_copyYear m_copyRow m_tape m_textYear m_ruleMany m_ruleFrom m_codeRow m_stack (upd m_ruleKind (Int32.toNatClampNeg ((12 * m_texts) + x1)) x2) m_codes m_at m_read m_token m_sign m_begins m_ends m_bad m_badPlace m_top m_lineLives m_markRow m_quarterMany m_quarters m_isUp m_wasUp ++ fr)) rfl ?_
    refine j_aload_n hX dX11_readText_109 110 rfl 0 rfl rfl ?_
    refine j_get hX dX11_readText_110 113 rfl fg_X11_81 0 rfl rfl ?_
    refine j_bipush (v := 13) hX dX11_readText_113 115 rfl (by decide) ?_
    refine j_aload_n hX dX11_readText_115 116 rfl 0 rfl rfl ?_
    refine j_get hX dX11_readText_116 119 rfl fg_X11_240 0 rfl rfl ?_
    refine j_imul hX dX11_readText_119 120 rfl ?_
    refine j_iload_n hX dX11_readText_120 121 rfl 1 rfl rfl ?_
    refine j_iadd hX dX11_readText_121 122 rfl ?_
    refine j_aload_n hX dX11_readText_122 123 rfl 0 rfl rfl ?_
    refine j_get hX dX11_readText_123 126 rfl fg_X11_243 0 rfl rfl ?_
    obtain ⟨hb16, hf⟩ := ign hf
    refine j_iast hX dX11_readText_126 127 rfl 17 rfl hb16 (ws' := (WM G m_code m_people m_grants m_texts m_copies m_taped m_faultPlace m_isFemale m_born m_died m_father m_mother m_fatherGrade m_motherGrade m_grantTo m_grantArms m_grantYear m_copyYear m_copyRow m_tape m_textYear m_ruleMany (upd m_ruleFrom (Int32.toNatClampNeg ((13 * m_texts) + x1)) m_codes) m_codeRow m_stack (upd m_ruleKind (Int32.toNatClampNeg ((12 * m_texts) + x1)) x2) m_codes m_at m_read m_token m_sign m_begins m_ends m_bad m_badPlace m_top m_lineLives m_markRow m_quarterMany m_quarters m_isUp m_wasUp ++ fr)) rfl ?_
    refine j_iinc (v := x1 + 1) hX dX11_readText_127 130 rfl 1 rfl rfl (by decide) (lv' := [(1, .int (x1 + 1)), (0, .ref (gm G 0)), (2, .int x2)]) rfl ?_
    refine j_aload_n hX dX11_readText_130 131 rfl 1 rfl rfl ?_
    obtain ⟨v17, hv17, hf⟩ := ibd hf
    refine z_v (As := []) (rest := []) (q0 := 0) hX dX11_readText_131 134 rfl (t_X11_step  hv17) mc_X11_step mv_X11_step ml_X11_246 rfl rfl (Nat.le_of_ble_eq_true rfl) (Nat.le_refl _) (Nat.le_refl _) rfl (Nat.le_of_ble_eq_true rfl) ?_
    refine j_aload_n hX dX11_readText_134 135 rfl 1 rfl rfl ?_
    refine j_iconst (v := 0) hX dX11_readText_135 136 rfl (by decide) ?_
    obtain ⟨v18, hv18, hf⟩ := ibd hf
    refine z_v (As := [.int 0]) (rest := []) (q0 := 0) hX dX11_readText_136 139 rfl (te_X11_readExpression 8 0 m_codeRow m_codes v17.1 v17.2.1 v17.2.2.1 v17.2.2.2.1 v17.2.2.2.2 m_bad m_badPlace hv18) mc_X11_readExpression mv_X11_readExpression ml_X11_262 rfl rfl (Nat.le_of_ble_eq_true rfl) (Nat.le_refl _) (Nat.le_refl _) rfl (Nat.le_of_ble_eq_true rfl) ?_
    refine j_aload_n hX dX11_readText_139 140 rfl 1 rfl rfl ?_
    refine j_get hX dX11_readText_140 143 rfl fg_X11_234 0 rfl rfl ?_
    refine j_if_ne hX dX11_readText_143 146 160 rfl rfl (fun h19 => ?_) (fun h19 => ?_)
    · replace hf := itf h19 hf
      refine j_sub [1, 0] rfl ?_
      exact t_X11_readText_160 hX hQ  hk6 (x1 + 1) hf
    · replace hf := itt h19 hf
      refine j_aload_n hX dX11_readText_146 147 rfl 1 rfl rfl ?_
      refine j_bipush (v := 59) hX dX11_readText_147 149 rfl (by decide) ?_
      obtain ⟨v22, hv22, hf⟩ := ibd hf
      refine z_i (As := [.int 59]) (rest := []) (q0 := 0) hX dX11_readText_149 152 rfl (t_X11_isSign 59 hv22) mc_X11_isSign mv_X11_isSign ml_X11_265 rfl rfl (Nat.le_of_ble_eq_true rfl) (Nat.le_refl _) (Nat.le_refl _) rfl (Nat.le_of_ble_eq_true rfl) ?_
      refine j_if_ne hX dX11_readText_152 155 160 rfl rfl (fun h23 => ?_) (fun h23 => ?_)
      · replace hf := itf h23 hf
        refine j_sub [1, 0] rfl ?_
        exact t_X11_readText_160 hX hQ  hk6 (x1 + 1) hf
      · replace hf := itt h23 hf
        refine j_aload_n hX dX11_readText_155 156 rfl 1 rfl rfl ?_
        refine j_iconst (v := 1) hX dX11_readText_156 157 rfl (by decide) ?_
        obtain ⟨v24, hv24, hf⟩ := ibd hf
        refine z_v (As := [.int 1]) (rest := []) (q0 := 0) hX dX11_readText_157 160 rfl (t_X11_wrong 1 hv24) mc_X11_wrong mv_X11_wrong ml_X11_259 rfl rfl (Nat.le_of_ble_eq_true rfl) (Nat.le_refl _) (Nat.le_refl _) rfl (Nat.le_of_ble_eq_true rfl) ?_
        refine j_sub [1, 0] rfl ?_
        exact t_X11_readText_160 hX hQ  hk6 (x1 + 1) hf
  · replace hf := itf h14 hf
    replace hf := Option.some.inj hf
    subst hf
    exact j_vret hX hQ dX11_readText_93
def g_X11_readText_61 (fu : Nat) (m_texts : Int32) (m_tape : Nat → Int32) (m_read : Int32) (m_ruleMany : Nat → Int32) (m_ruleFrom : Nat → Int32) (m_codeRow : Nat → Int32) (m_ruleKind : Nat → Int32) (m_codes : Int32) (m_at : Int32) (m_token : Int32) (m_sign : Int32) (m_begins : Int32) (m_ends : Int32) (m_bad : Int32) (m_badPlace : Int32) (k6 : Int32 → (Nat → Int32) → (Nat → Int32) → (Nat → Int32) → (Nat → Int32) → Int32 → Int32 → Int32 → Int32 → Int32 → Int32 → Int32 → Int32 → Option ((Nat → Int32) × (Nat → Int32) × (Nat → Int32) × (Nat → Int32) × Int32 × Int32 × Int32 × Int32 × Int32 × Int32 × Int32 × Int32)) (x1 : Int32) (s0 : Int32) : Option ((Nat → Int32) × (Nat → Int32) × (Nat → Int32) × (Nat → Int32) × Int32 × Int32 × Int32 × Int32 × Int32 × Int32 × Int32 × Int32) :=
  if s0 = ((-1)) then (f_X11_wrong m_begins m_bad m_badPlace 1).bind fun v26 => g_X11_readText_86 fu m_texts m_tape m_read m_ruleMany m_ruleFrom m_codeRow m_ruleKind m_codes m_at m_token m_sign m_begins m_ends v26.1 v26.2 k6 x1 s0 else if x1 = 12 then (f_X11_wrong m_begins m_bad m_badPlace 2).bind fun v25 => g_X11_readText_86 fu m_texts m_tape m_read m_ruleMany m_ruleFrom m_codeRow m_ruleKind m_codes m_at m_token m_sign m_begins m_ends v25.1 v25.2 k6 x1 s0 else g_X11_readText_86 fu m_texts m_tape m_read m_ruleMany m_ruleFrom m_codeRow m_ruleKind m_codes m_at m_token m_sign m_begins m_ends m_bad m_badPlace k6 x1 s0
set_option maxRecDepth 100000 in
set_option maxHeartbeats 4000000 in
theorem t_X11_readText_61 {fu : Nat} {Y : YT} {r : (Nat → Int32) × (Nat → Int32) × (Nat → Int32) × (Nat → Int32) × Int32 × Int32 × Int32 × Int32 × Int32 × Int32 × Int32 × Int32} {k6 : Int32 → (Nat → Int32) → (Nat → Int32) → (Nat → Int32) → (Nat → Int32) → Int32 → Int32 → Int32 → Int32 → Int32 → Int32 → Int32 → Int32 → Option ((Nat → Int32) × (Nat → Int32) × (Nat → Int32) × (Nat → Int32) × Int32 × Int32 × Int32 × Int32 × Int32 × Int32 × Int32 × Int32)} (hX : CX l G cX11_readText 3 RX11 Y) (hQ : EQv G Y 0 0 (WM G m_code m_people m_grants m_texts m_copies m_taped m_faultPlace m_isFemale m_born m_died m_father m_mother m_fatherGrade m_motherGrade m_grantTo m_grantArms m_grantYear m_copyYear m_copyRow m_tape m_textYear r.1 r.2.1 r.2.2.1 m_stack r.2.2.2.1 r.2.2.2.2.1 r.2.2.2.2.2.1 m_read r.2.2.2.2.2.2.1 r.2.2.2.2.2.2.2.1 r.2.2.2.2.2.2.2.2.1 r.2.2.2.2.2.2.2.2.2.1 r.2.2.2.2.2.2.2.2.2.2.1 r.2.2.2.2.2.2.2.2.2.2.2 m_top m_lineLives m_markRow m_quarterMany m_quarters m_isUp m_wasUp ++ fr)) (hk6 : ∀ (x1 : Int32) (m_ruleMany : Nat → Int32) (m_ruleFrom : Nat → Int32) (m_codeRow : Nat → Int32) (m_ruleKind : Nat → Int32) (m_codes : Int32) (m_at : Int32) (m_token : Int32) (m_sign : Int32) (m_begins : Int32) (m_ends : Int32) (m_bad : Int32) (m_badPlace : Int32), k6 x1 m_ruleMany m_ruleFrom m_codeRow m_ruleKind m_codes m_at m_token m_sign m_begins m_ends m_bad m_badPlace = some r → J l G (rmD 43 0 0) Y 0 0 6 [(0, .ref (gm G 0)), (1, .int x1)] [] (WM G m_code m_people m_grants m_texts m_copies m_taped m_faultPlace m_isFemale m_born m_died m_father m_mother m_fatherGrade m_motherGrade m_grantTo m_grantArms m_grantYear m_copyYear m_copyRow m_tape m_textYear m_ruleMany m_ruleFrom m_codeRow m_stack m_ruleKind m_codes m_at m_read m_token m_sign m_begins m_ends m_bad m_badPlace m_top m_lineLives m_markRow m_quarterMany m_quarters m_isUp m_wasUp ++ fr)) (x1 : Int32) (s0 : Int32) (hf : g_X11_readText_61 fu m_texts m_tape m_read m_ruleMany m_ruleFrom m_codeRow m_ruleKind m_codes m_at m_token m_sign m_begins m_ends m_bad m_badPlace k6 x1 s0 = some r) : J l G (rmD 43 0 0) Y 0 0 61 [(0, .ref (gm G 0)), (1, .int x1)] [.int s0] (WM G m_code m_people m_grants m_texts m_copies m_taped m_faultPlace m_isFemale m_born m_died m_father m_mother m_fatherGrade m_motherGrade m_grantTo m_grantArms m_grantYear m_copyYear m_copyRow m_tape m_textYear m_ruleMany m_ruleFrom m_codeRow m_stack m_ruleKind m_codes m_at m_read m_token m_sign m_begins m_ends m_bad m_badPlace m_top m_lineLives m_markRow m_quarterMany m_quarters m_isUp m_wasUp ++ fr) := by
  unfold g_X11_readText_61 at hf
  refine j_istore_n hX dX11_readText_61 62 rfl rfl (by decide) (lv' := [(2, .int s0), (0, .ref (gm G 0)), (1, .int x1)]) rfl ?_
  refine j_iload_n hX dX11_readText_62 63 rfl 0 rfl rfl ?_
  refine j_iconst (v := (-1)) hX dX11_readText_63 64 rfl (by decide) ?_
  refine j_icmp_ne hX dX11_readText_64 67 75 rfl rfl (fun h12 => ?_) (fun h12 => ?_)
  · replace hf := itf h12 hf
    refine j_iload_n hX dX11_readText_75 76 rfl 2 rfl rfl ?_
    refine j_bipush (v := 12) hX dX11_readText_76 78 rfl (by decide) ?_
    refine j_icmp_ne hX dX11_readText_78 81 86 rfl rfl (fun h13 => ?_) (fun h13 => ?_)
    · replace hf := itf h13 hf
      refine j_sub [1, 2, 0] rfl ?_
      exact t_X11_readText_86 hX hQ  hk6 x1 s0 hf
    · replace hf := itt h13 hf
      refine j_aload_n hX dX11_readText_81 82 rfl 1 rfl rfl ?_
      refine j_iconst (v := 2) hX dX11_readText_82 83 rfl (by decide) ?_
      obtain ⟨v25, hv25, hf⟩ := ibd hf
      refine z_v (As := [.int 2]) (rest := []) (q0 := 0) hX dX11_readText_83 86 rfl (t_X11_wrong 2 hv25) mc_X11_wrong mv_X11_wrong ml_X11_259 rfl rfl (Nat.le_of_ble_eq_true rfl) (Nat.le_refl _) (Nat.le_refl _) rfl (Nat.le_of_ble_eq_true rfl) ?_
      refine j_sub [1, 2, 0] rfl ?_
      exact t_X11_readText_86 hX hQ  hk6 x1 s0 hf
  · replace hf := itt h12 hf
    refine j_aload_n hX dX11_readText_67 68 rfl 1 rfl rfl ?_
    refine j_iconst (v := 1) hX dX11_readText_68 69 rfl (by decide) ?_
    obtain ⟨v26, hv26, hf⟩ := ibd hf
    refine z_v (As := [.int 1]) (rest := []) (q0 := 0) hX dX11_readText_69 72 rfl (t_X11_wrong 1 hv26) mc_X11_wrong mv_X11_wrong ml_X11_259 rfl rfl (Nat.le_of_ble_eq_true rfl) (Nat.le_refl _) (Nat.le_refl _) rfl (Nat.le_of_ble_eq_true rfl) ?_
    refine j_goto hX dX11_readText_72 86 rfl ?_
    refine j_sub [1, 2, 0] rfl ?_
    exact t_X11_readText_86 hX hQ  hk6 x1 s0 hf
def g_X11_readText_6 (fu : Nat) (m_texts : Int32) (m_tape : Nat → Int32) (m_read : Int32) (m_ruleMany : Nat → Int32) (m_ruleFrom : Nat → Int32) (m_codeRow : Nat → Int32) (m_ruleKind : Nat → Int32) (m_codes : Int32) (m_at : Int32) (m_token : Int32) (m_sign : Int32) (m_begins : Int32) (m_ends : Int32) (m_bad : Int32) (m_badPlace : Int32) (k6 : Int32 → (Nat → Int32) → (Nat → Int32) → (Nat → Int32) → (Nat → Int32) → Int32 → Int32 → Int32 → Int32 → Int32 → Int32 → Int32 → Int32 → Option ((Nat → Int32) × (Nat → Int32) × (Nat → Int32) × (Nat → Int32) × Int32 × Int32 × Int32 × Int32 × Int32 × Int32 × Int32 × Int32)) (x1 : Int32) : Option ((Nat → Int32) × (Nat → Int32) × (Nat → Int32) × (Nat → Int32) × Int32 × Int32 × Int32 × Int32 × Int32 × Int32 × Int32 × Int32) :=
  if m_bad = 0 then if m_token = 0 then g_X11_readText_174 m_texts m_ruleMany m_ruleFrom m_codeRow m_ruleKind m_codes m_at m_token m_sign m_begins m_ends m_bad m_badPlace x1 else (f_X11_isWord fu m_tape m_token m_begins m_ends 32).bind fun v6 => if v6 = 0 then (f_X11_isWord fu m_tape m_token m_begins m_ends 33).bind fun v8 => if v8 = 0 then (f_X11_isWord fu m_tape m_token m_begins m_ends 34).bind fun v10 => if v10 = 0 then g_X11_readText_61 fu m_texts m_tape m_read m_ruleMany m_ruleFrom m_codeRow m_ruleKind m_codes m_at m_token m_sign m_begins m_ends m_bad m_badPlace k6 x1 ((-1)) else g_X11_readText_61 fu m_texts m_tape m_read m_ruleMany m_ruleFrom m_codeRow m_ruleKind m_codes m_at m_token m_sign m_begins m_ends m_bad m_badPlace k6 x1 2 else g_X11_readText_61 fu m_texts m_tape m_read m_ruleMany m_ruleFrom m_codeRow m_ruleKind m_codes m_at m_token m_sign m_begins m_ends m_bad m_badPlace k6 x1 1 else g_X11_readText_61 fu m_texts m_tape m_read m_ruleMany m_ruleFrom m_codeRow m_ruleKind m_codes m_at m_token m_sign m_begins m_ends m_bad m_badPlace k6 x1 0 else g_X11_readText_174 m_texts m_ruleMany m_ruleFrom m_codeRow m_ruleKind m_codes m_at m_token m_sign m_begins m_ends m_bad m_badPlace x1
set_option maxRecDepth 100000 in
set_option maxHeartbeats 4000000 in
theorem t_X11_readText_6 {fu : Nat} {Y : YT} {r : (Nat → Int32) × (Nat → Int32) × (Nat → Int32) × (Nat → Int32) × Int32 × Int32 × Int32 × Int32 × Int32 × Int32 × Int32 × Int32} {k6 : Int32 → (Nat → Int32) → (Nat → Int32) → (Nat → Int32) → (Nat → Int32) → Int32 → Int32 → Int32 → Int32 → Int32 → Int32 → Int32 → Int32 → Option ((Nat → Int32) × (Nat → Int32) × (Nat → Int32) × (Nat → Int32) × Int32 × Int32 × Int32 × Int32 × Int32 × Int32 × Int32 × Int32)} (hX : CX l G cX11_readText 3 RX11 Y) (hQ : EQv G Y 0 0 (WM G m_code m_people m_grants m_texts m_copies m_taped m_faultPlace m_isFemale m_born m_died m_father m_mother m_fatherGrade m_motherGrade m_grantTo m_grantArms m_grantYear m_copyYear m_copyRow m_tape m_textYear r.1 r.2.1 r.2.2.1 m_stack r.2.2.2.1 r.2.2.2.2.1 r.2.2.2.2.2.1 m_read r.2.2.2.2.2.2.1 r.2.2.2.2.2.2.2.1 r.2.2.2.2.2.2.2.2.1 r.2.2.2.2.2.2.2.2.2.1 r.2.2.2.2.2.2.2.2.2.2.1 r.2.2.2.2.2.2.2.2.2.2.2 m_top m_lineLives m_markRow m_quarterMany m_quarters m_isUp m_wasUp ++ fr)) (hk6 : ∀ (x1 : Int32) (m_ruleMany : Nat → Int32) (m_ruleFrom : Nat → Int32) (m_codeRow : Nat → Int32) (m_ruleKind : Nat → Int32) (m_codes : Int32) (m_at : Int32) (m_token : Int32) (m_sign : Int32) (m_begins : Int32) (m_ends : Int32) (m_bad : Int32) (m_badPlace : Int32), k6 x1 m_ruleMany m_ruleFrom m_codeRow m_ruleKind m_codes m_at m_token m_sign m_begins m_ends m_bad m_badPlace = some r → J l G (rmD 43 0 0) Y 0 0 6 [(0, .ref (gm G 0)), (1, .int x1)] [] (WM G m_code m_people m_grants m_texts m_copies m_taped m_faultPlace m_isFemale m_born m_died m_father m_mother m_fatherGrade m_motherGrade m_grantTo m_grantArms m_grantYear m_copyYear m_copyRow m_tape m_textYear m_ruleMany m_ruleFrom m_codeRow m_stack m_ruleKind m_codes m_at m_read m_token m_sign m_begins m_ends m_bad m_badPlace m_top m_lineLives m_markRow m_quarterMany m_quarters m_isUp m_wasUp ++ fr)) (x1 : Int32) (hf : g_X11_readText_6 fu m_texts m_tape m_read m_ruleMany m_ruleFrom m_codeRow m_ruleKind m_codes m_at m_token m_sign m_begins m_ends m_bad m_badPlace k6 x1 = some r) : J l G (rmD 43 0 0) Y 0 0 6 [(0, .ref (gm G 0)), (1, .int x1)] [] (WM G m_code m_people m_grants m_texts m_copies m_taped m_faultPlace m_isFemale m_born m_died m_father m_mother m_fatherGrade m_motherGrade m_grantTo m_grantArms m_grantYear m_copyYear m_copyRow m_tape m_textYear m_ruleMany m_ruleFrom m_codeRow m_stack m_ruleKind m_codes m_at m_read m_token m_sign m_begins m_ends m_bad m_badPlace m_top m_lineLives m_markRow m_quarterMany m_quarters m_isUp m_wasUp ++ fr) := by
  unfold g_X11_readText_6 at hf
  refine j_aload_n hX dX11_readText_6 7 rfl 0 rfl rfl ?_
  refine j_get hX dX11_readText_7 10 rfl fg_X11_234 0 rfl rfl ?_
  refine j_if_ne hX dX11_readText_10 13 174 rfl rfl (fun h2 => ?_) (fun h2 => ?_)
  · replace hf := itf h2 hf
    exact t_X11_readText_174 hX hQ   x1 hf
  · replace hf := itt h2 hf
    refine j_aload_n hX dX11_readText_13 14 rfl 0 rfl rfl ?_
    refine j_get hX dX11_readText_14 17 rfl fg_X11_215 0 rfl rfl ?_
    refine j_if_eq hX dX11_readText_17 20 174 rfl rfl (fun h5 => ?_) (fun h5 => ?_)
    · replace hf := itt h5 hf
      exact t_X11_readText_174 hX hQ   x1 hf
    · replace hf := itf h5 hf
      refine j_aload_n hX dX11_readText_20 21 rfl 0 rfl rfl ?_
      refine j_ldcS (i := 32) (tx := "refuse") hX dX11_readText_21 23 rfl (by decide +kernel) ?_
      obtain ⟨v6, hv6, hf⟩ := ibd hf
      refine z_i (As := [.ref (gsk G 32)]) (rest := []) (q0 := 0) hX dX11_readText_23 26 rfl (t_X11_isWord 32 hv6) mc_X11_isWord mv_X11_isWord ml_X11_251 rfl rfl (Nat.le_of_ble_eq_true rfl) (Nat.le_refl _) (Nat.le_refl _) rfl (Nat.le_of_ble_eq_true rfl) ?_
      refine j_if_eq hX dX11_readText_26 29 33 rfl rfl (fun h7 => ?_) (fun h7 => ?_)
      · replace hf := itt h7 hf
        refine j_aload_n hX dX11_readText_33 34 rfl 0 rfl rfl ?_
        refine j_ldcS (i := 33) (tx := "differ") hX dX11_readText_34 36 rfl (by decide +kernel) ?_
        obtain ⟨v8, hv8, hf⟩ := ibd hf
        refine z_i (As := [.ref (gsk G 33)]) (rest := []) (q0 := 0) hX dX11_readText_36 39 rfl (t_X11_isWord 33 hv8) mc_X11_isWord mv_X11_isWord ml_X11_251 rfl rfl (Nat.le_of_ble_eq_true rfl) (Nat.le_refl _) (Nat.le_refl _) rfl (Nat.le_of_ble_eq_true rfl) ?_
        refine j_if_eq hX dX11_readText_39 42 46 rfl rfl (fun h9 => ?_) (fun h9 => ?_)
        · replace hf := itt h9 hf
          refine j_aload_n hX dX11_readText_46 47 rfl 0 rfl rfl ?_
          refine j_ldcSW (i := 34) (tx := "fee") hX dX11_readText_47 50 rfl (by decide +kernel) ?_
          obtain ⟨v10, hv10, hf⟩ := ibd hf
          refine z_i (As := [.ref (gsk G 34)]) (rest := []) (q0 := 0) hX dX11_readText_50 53 rfl (t_X11_isWord 34 hv10) mc_X11_isWord mv_X11_isWord ml_X11_251 rfl rfl (Nat.le_of_ble_eq_true rfl) (Nat.le_refl _) (Nat.le_refl _) rfl (Nat.le_of_ble_eq_true rfl) ?_
          refine j_if_eq hX dX11_readText_53 56 60 rfl rfl (fun h11 => ?_) (fun h11 => ?_)
          · replace hf := itt h11 hf
            refine j_iconst (v := (-1)) hX dX11_readText_60 61 rfl (by decide) ?_
            exact t_X11_readText_61 hX hQ  hk6 x1 ((-1)) hf
          · replace hf := itf h11 hf
            refine j_iconst (v := 2) hX dX11_readText_56 57 rfl (by decide) ?_
            refine j_goto hX dX11_readText_57 61 rfl ?_
            exact t_X11_readText_61 hX hQ  hk6 x1 2 hf
        · replace hf := itf h9 hf
          refine j_iconst (v := 1) hX dX11_readText_42 43 rfl (by decide) ?_
          refine j_goto hX dX11_readText_43 61 rfl ?_
          exact t_X11_readText_61 hX hQ  hk6 x1 1 hf
      · replace hf := itf h7 hf
        refine j_iconst (v := 0) hX dX11_readText_29 30 rfl (by decide) ?_
        refine j_goto hX dX11_readText_30 61 rfl ?_
        exact t_X11_readText_61 hX hQ  hk6 x1 0 hf
def f_X11_readText_6 (fu : Nat) (m_texts : Int32) (m_tape : Nat → Int32) (m_read : Int32) : Nat → (Int32 × (Nat → Int32) × (Nat → Int32) × (Nat → Int32) × (Nat → Int32) × Int32 × Int32 × Int32 × Int32 × Int32 × Int32 × Int32 × Int32) → Option ((Nat → Int32) × (Nat → Int32) × (Nat → Int32) × (Nat → Int32) × Int32 × Int32 × Int32 × Int32 × Int32 × Int32 × Int32 × Int32) :=
  lp (fun k v => g_X11_readText_6 fu m_texts m_tape m_read v.2.1 v.2.2.1 v.2.2.2.1 v.2.2.2.2.1 v.2.2.2.2.2.1 v.2.2.2.2.2.2.1 v.2.2.2.2.2.2.2.1 v.2.2.2.2.2.2.2.2.1 v.2.2.2.2.2.2.2.2.2.1 v.2.2.2.2.2.2.2.2.2.2.1 v.2.2.2.2.2.2.2.2.2.2.2.1 v.2.2.2.2.2.2.2.2.2.2.2.2 (fun x1 m_ruleMany m_ruleFrom m_codeRow m_ruleKind m_codes m_at m_token m_sign m_begins m_ends m_bad m_badPlace => k (x1, m_ruleMany, m_ruleFrom, m_codeRow, m_ruleKind, m_codes, m_at, m_token, m_sign, m_begins, m_ends, m_bad, m_badPlace)) v.1)
set_option maxRecDepth 100000 in
set_option maxHeartbeats 4000000 in
theorem u_X11_readText_6 {fu : Nat} {Y : YT} {r : (Nat → Int32) × (Nat → Int32) × (Nat → Int32) × (Nat → Int32) × Int32 × Int32 × Int32 × Int32 × Int32 × Int32 × Int32 × Int32}  (hX : CX l G cX11_readText 3 RX11 Y) (hQ : EQv G Y 0 0 (WM G m_code m_people m_grants m_texts m_copies m_taped m_faultPlace m_isFemale m_born m_died m_father m_mother m_fatherGrade m_motherGrade m_grantTo m_grantArms m_grantYear m_copyYear m_copyRow m_tape m_textYear r.1 r.2.1 r.2.2.1 m_stack r.2.2.2.1 r.2.2.2.2.1 r.2.2.2.2.2.1 m_read r.2.2.2.2.2.2.1 r.2.2.2.2.2.2.2.1 r.2.2.2.2.2.2.2.2.1 r.2.2.2.2.2.2.2.2.2.1 r.2.2.2.2.2.2.2.2.2.2.1 r.2.2.2.2.2.2.2.2.2.2.2 m_top m_lineLives m_markRow m_quarterMany m_quarters m_isUp m_wasUp ++ fr))  (n : Nat) (v : Int32 × (Nat → Int32) × (Nat → Int32) × (Nat → Int32) × (Nat → Int32) × Int32 × Int32 × Int32 × Int32 × Int32 × Int32 × Int32 × Int32) (hf : f_X11_readText_6 fu m_texts m_tape m_read n v = some r) : J l G (rmD 43 0 0) Y 0 0 6 [(0, .ref (gm G 0)), (1, .int v.1)] [] (WM G m_code m_people m_grants m_texts m_copies m_taped m_faultPlace m_isFemale m_born m_died m_father m_mother m_fatherGrade m_motherGrade m_grantTo m_grantArms m_grantYear m_copyYear m_copyRow m_tape m_textYear v.2.1 v.2.2.1 v.2.2.2.1 m_stack v.2.2.2.2.1 v.2.2.2.2.2.1 v.2.2.2.2.2.2.1 m_read v.2.2.2.2.2.2.2.1 v.2.2.2.2.2.2.2.2.1 v.2.2.2.2.2.2.2.2.2.1 v.2.2.2.2.2.2.2.2.2.2.1 v.2.2.2.2.2.2.2.2.2.2.2.1 v.2.2.2.2.2.2.2.2.2.2.2.2 m_top m_lineLives m_markRow m_quarterMany m_quarters m_isUp m_wasUp ++ fr) :=
  lp_ind (P := fun v : Int32 × (Nat → Int32) × (Nat → Int32) × (Nat → Int32) × (Nat → Int32) × Int32 × Int32 × Int32 × Int32 × Int32 × Int32 × Int32 × Int32 => J l G (rmD 43 0 0) Y 0 0 6 [(0, .ref (gm G 0)), (1, .int v.1)] [] (WM G m_code m_people m_grants m_texts m_copies m_taped m_faultPlace m_isFemale m_born m_died m_father m_mother m_fatherGrade m_motherGrade m_grantTo m_grantArms m_grantYear m_copyYear m_copyRow m_tape m_textYear v.2.1 v.2.2.1 v.2.2.2.1 m_stack v.2.2.2.2.1 v.2.2.2.2.2.1 v.2.2.2.2.2.2.1 m_read v.2.2.2.2.2.2.2.1 v.2.2.2.2.2.2.2.2.1 v.2.2.2.2.2.2.2.2.2.1 v.2.2.2.2.2.2.2.2.2.2.1 v.2.2.2.2.2.2.2.2.2.2.2.1 v.2.2.2.2.2.2.2.2.2.2.2.2 m_top m_lineLives m_markRow m_quarterMany m_quarters m_isUp m_wasUp ++ fr)) (fun k hk v hf => t_X11_readText_6 hX hQ   (fun x1 m_ruleMany m_ruleFrom m_codeRow m_ruleKind m_codes m_at m_token m_sign m_begins m_ends m_bad m_badPlace h => hk (x1, m_ruleMany, m_ruleFrom, m_codeRow, m_ruleKind, m_codes, m_at, m_token, m_sign, m_begins, m_ends, m_bad, m_badPlace) h) v.1 hf) n v hf
def f_X11_readText (fu : Nat) (m_texts : Int32) (m_tape : Nat → Int32) (m_read : Int32) (m_ruleMany : Nat → Int32) (m_ruleFrom : Nat → Int32) (m_codeRow : Nat → Int32) (m_ruleKind : Nat → Int32) (m_codes : Int32) (m_at : Int32) (m_token : Int32) (m_sign : Int32) (m_begins : Int32) (m_ends : Int32) (m_bad : Int32) (m_badPlace : Int32) : Option ((Nat → Int32) × (Nat → Int32) × (Nat → Int32) × (Nat → Int32) × Int32 × Int32 × Int32 × Int32 × Int32 × Int32 × Int32 × Int32) :=
  (f_X11_step fu m_tape m_read m_at m_token m_sign m_begins m_ends).bind fun v1 => f_X11_readText_6 fu m_texts m_tape m_read fu (0, m_ruleMany, m_ruleFrom, m_codeRow, m_ruleKind, m_codes, v1.1, v1.2.1, v1.2.2.1, v1.2.2.2.1, v1.2.2.2.2, m_bad, m_badPlace)
set_option maxRecDepth 100000 in
set_option maxHeartbeats 4000000 in
theorem t_X11_readText {fu : Nat}   {r : (Nat → Int32) × (Nat → Int32) × (Nat → Int32) × (Nat → Int32) × Int32 × Int32 × Int32 × Int32 × Int32 × Int32 × Int32 × Int32} (hf : f_X11_readText fu m_texts m_tape m_read m_ruleMany m_ruleFrom m_codeRow m_ruleKind m_codes m_at m_token m_sign m_begins m_ends m_bad m_badPlace = some r) : Cv l G 43 0 0 yX11_readText cX11_readText 3 [.ref (gm G 0)] (WM G m_code m_people m_grants m_texts m_copies m_taped m_faultPlace m_isFemale m_born m_died m_father m_mother m_fatherGrade m_motherGrade m_grantTo m_grantArms m_grantYear m_copyYear m_copyRow m_tape m_textYear m_ruleMany m_ruleFrom m_codeRow m_stack m_ruleKind m_codes m_at m_read m_token m_sign m_begins m_ends m_bad m_badPlace m_top m_lineLives m_markRow m_quarterMany m_quarters m_isUp m_wasUp ++ fr) (WM G m_code m_people m_grants m_texts m_copies m_taped m_faultPlace m_isFemale m_born m_died m_father m_mother m_fatherGrade m_motherGrade m_grantTo m_grantArms m_grantYear m_copyYear m_copyRow m_tape m_textYear r.1 r.2.1 r.2.2.1 m_stack r.2.2.2.1 r.2.2.2.2.1 r.2.2.2.2.2.1 m_read r.2.2.2.2.2.2.1 r.2.2.2.2.2.2.2.1 r.2.2.2.2.2.2.2.2.1 r.2.2.2.2.2.2.2.2.2.1 r.2.2.2.2.2.2.2.2.2.2.1 r.2.2.2.2.2.2.2.2.2.2.2 m_top m_lineLives m_markRow m_quarterMany m_quarters m_isUp m_wasUp ++ fr) := by
  refine Cv.of (by decide) (Nat.le_of_ble_eq_true rfl) (fun Y hX hQ => ?_)
  refine j_lv (lv' := [(0, .ref (gm G 0))]) rfl ?_
  unfold f_X11_readText at hf
  refine j_aload_n hX dX11_readText_0 1 rfl 0 rfl rfl ?_
  obtain ⟨v1, hv1, hf⟩ := ibd hf
  refine z_v (As := []) (rest := []) (q0 := 0) hX dX11_readText_1 4 rfl (t_X11_step  hv1) mc_X11_step mv_X11_step ml_X11_246 rfl rfl (Nat.le_of_ble_eq_true rfl) (Nat.le_refl _) (Nat.le_refl _) rfl (Nat.le_of_ble_eq_true rfl) ?_
  refine j_iconst (v := 0) hX dX11_readText_4 5 rfl (by decide) ?_
  refine j_istore_n hX dX11_readText_5 6 rfl rfl (by decide) (lv' := [(1, .int 0), (0, .ref (gm G 0))]) rfl ?_
  refine j_sub [1, 0] rfl ?_
  exact u_X11_readText_6 hX hQ   fu (0, m_ruleMany, m_ruleFrom, m_codeRow, m_ruleKind, m_codes, v1.1, v1.2.1, v1.2.2.1, v1.2.2.2.1, v1.2.2.2.2, m_bad, m_badPlace) hf
def g_X11_text_24 (m_texts : Int32) (m_taped : Int32) (m_faultPlace : Int32) (m_textYear : Nat → Int32) (m_ruleMany : Nat → Int32) (m_ruleFrom : Nat → Int32) (m_codeRow : Nat → Int32) (m_ruleKind : Nat → Int32) (m_codes : Int32) (m_at : Int32) (m_read : Int32) (m_token : Int32) (m_sign : Int32) (m_begins : Int32) (m_ends : Int32) (m_bad : Int32) (m_badPlace : Int32) : Option (Int32 × Int32 × Int32 × Int32 × Int32 × (Nat → Int32) × (Nat → Int32) × (Nat → Int32) × (Nat → Int32) × (Nat → Int32) × Int32 × Int32 × Int32 × Int32 × Int32 × Int32 × Int32 × Int32 × Int32) :=
  (f_X11_fail ).bind fun v2 => some (v2.1, v2.2, m_texts, m_taped, m_faultPlace, m_textYear, m_ruleMany, m_ruleFrom, m_codeRow, m_ruleKind, m_codes, m_at, m_read, m_token, m_sign, m_begins, m_ends, m_bad, m_badPlace)
set_option maxRecDepth 100000 in
set_option maxHeartbeats 4000000 in
theorem t_X11_text_24 {Y : YT} {r : Int32 × Int32 × Int32 × Int32 × Int32 × (Nat → Int32) × (Nat → Int32) × (Nat → Int32) × (Nat → Int32) × (Nat → Int32) × Int32 × Int32 × Int32 × Int32 × Int32 × Int32 × Int32 × Int32 × Int32}  (hX : CX l G cX11_text 3 RX11 Y) (hQ : EQi G Y 0 0 .int r.1 (WM G r.2.1 m_people m_grants r.2.2.1 m_copies r.2.2.2.1 r.2.2.2.2.1 m_isFemale m_born m_died m_father m_mother m_fatherGrade m_motherGrade m_grantTo m_grantArms m_grantYear m_copyYear m_copyRow m_tape r.2.2.2.2.2.1 r.2.2.2.2.2.2.1 r.2.2.2.2.2.2.2.1 r.2.2.2.2.2.2.2.2.1 m_stack r.2.2.2.2.2.2.2.2.2.1 r.2.2.2.2.2.2.2.2.2.2.1 r.2.2.2.2.2.2.2.2.2.2.2.1 r.2.2.2.2.2.2.2.2.2.2.2.2.1 r.2.2.2.2.2.2.2.2.2.2.2.2.2.1 r.2.2.2.2.2.2.2.2.2.2.2.2.2.2.1 r.2.2.2.2.2.2.2.2.2.2.2.2.2.2.2.1 r.2.2.2.2.2.2.2.2.2.2.2.2.2.2.2.2.1 r.2.2.2.2.2.2.2.2.2.2.2.2.2.2.2.2.2.1 r.2.2.2.2.2.2.2.2.2.2.2.2.2.2.2.2.2.2 m_top m_lineLives m_markRow m_quarterMany m_quarters m_isUp m_wasUp ++ fr))   (hf : g_X11_text_24 m_texts m_taped m_faultPlace m_textYear m_ruleMany m_ruleFrom m_codeRow m_ruleKind m_codes m_at m_read m_token m_sign m_begins m_ends m_bad m_badPlace = some r) : J l G (rmD 44 0 0) Y 0 0 24 [(0, .ref (gm G 0))] [] (WM G m_code m_people m_grants m_texts m_copies m_taped m_faultPlace m_isFemale m_born m_died m_father m_mother m_fatherGrade m_motherGrade m_grantTo m_grantArms m_grantYear m_copyYear m_copyRow m_tape m_textYear m_ruleMany m_ruleFrom m_codeRow m_stack m_ruleKind m_codes m_at m_read m_token m_sign m_begins m_ends m_bad m_badPlace m_top m_lineLives m_markRow m_quarterMany m_quarters m_isUp m_wasUp ++ fr) := by
  unfold g_X11_text_24 at hf
  refine j_aload_n hX dX11_text_24 25 rfl 0 rfl rfl ?_
  obtain ⟨v2, hv2, hf⟩ := ibd hf
  refine z_i (As := []) (rest := []) (q0 := 0) hX dX11_text_25 28 rfl (t_X11_fail  hv2) mc_X11_fail mv_X11_fail ml_X11_127 rfl rfl (Nat.le_of_ble_eq_true rfl) (Nat.le_refl _) (Nat.le_refl _) rfl (Nat.le_of_ble_eq_true rfl) ?_
  replace hf := Option.some.inj hf
  subst hf
  exact j_iret hX hQ dX11_text_28
def f_X11_text (fu : Nat) (m_tape : Nat → Int32) (m_texts : Int32) (m_taped : Int32) (m_faultPlace : Int32) (m_textYear : Nat → Int32) (m_ruleMany : Nat → Int32) (m_ruleFrom : Nat → Int32) (m_codeRow : Nat → Int32) (m_ruleKind : Nat → Int32) (m_codes : Int32) (m_at : Int32) (m_read : Int32) (m_token : Int32) (m_sign : Int32) (m_begins : Int32) (m_ends : Int32) (m_bad : Int32) (m_badPlace : Int32) (x1 : Int32) (x2 : Int32) : Option (Int32 × Int32 × Int32 × Int32 × Int32 × (Nat → Int32) × (Nat → Int32) × (Nat → Int32) × (Nat → Int32) × (Nat → Int32) × Int32 × Int32 × Int32 × Int32 × Int32 × Int32 × Int32 × Int32 × Int32) :=
  if x1 < 0 then g_X11_text_24 m_texts m_taped m_faultPlace m_textYear m_ruleMany m_ruleFrom m_codeRow m_ruleKind m_codes m_at m_read m_token m_sign m_begins m_ends m_bad m_badPlace else if m_taped < x1 then g_X11_text_24 m_texts m_taped m_faultPlace m_textYear m_ruleMany m_ruleFrom m_codeRow m_ruleKind m_codes m_at m_read m_token m_sign m_begins m_ends m_bad m_badPlace else (f_X11_isYear x2).bind fun v4 => if v4 = 0 then g_X11_text_24 m_texts m_taped m_faultPlace m_textYear m_ruleMany m_ruleFrom m_codeRow m_ruleKind m_codes m_at m_read m_token m_sign m_begins m_ends m_bad m_badPlace else if m_texts = 6 then some ((-9), 0, m_texts, 0, (-1), m_textYear, m_ruleMany, m_ruleFrom, m_codeRow, m_ruleKind, m_codes, m_at, m_read, m_token, m_sign, m_begins, m_ends, m_bad, m_badPlace) else (f_X11_readText fu m_texts m_tape x1 m_ruleMany m_ruleFrom m_codeRow m_ruleKind 0 0 m_token m_sign m_begins m_ends 0 m_badPlace).bind fun v7 => if v7.2.2.2.2.2.2.2.2.2.2.1 = 0 then if inb m_texts 6 = true then some ((m_texts + 1) - 1, 0, m_texts + 1, 0, (-1), upd m_textYear (Int32.toNatClampNeg m_texts) x2, v7.1, v7.2.1, v7.2.2.1, v7.2.2.2.1, v7.2.2.2.2.1, v7.2.2.2.2.2.1, x1, v7.2.2.2.2.2.2.1, v7.2.2.2.2.2.2.2.1, v7.2.2.2.2.2.2.2.2.1, v7.2.2.2.2.2.2.2.2.2.1, v7.2.2.2.2.2.2.2.2.2.2.1, v7.2.2.2.2.2.2.2.2.2.2.2) else none else some (((-1)) - v7.2.2.2.2.2.2.2.2.2.2.1, 0, m_texts, 0, v7.2.2.2.2.2.2.2.2.2.2.2, m_textYear, v7.1, v7.2.1, v7.2.2.1, v7.2.2.2.1, v7.2.2.2.2.1, v7.2.2.2.2.2.1, x1, v7.2.2.2.2.2.2.1, v7.2.2.2.2.2.2.2.1, v7.2.2.2.2.2.2.2.2.1, v7.2.2.2.2.2.2.2.2.2.1, v7.2.2.2.2.2.2.2.2.2.2.1, v7.2.2.2.2.2.2.2.2.2.2.2)
set_option maxRecDepth 100000 in
set_option maxHeartbeats 4000000 in
theorem t_X11_text {fu : Nat}  (x1 : Int32) (x2 : Int32) {r : Int32 × Int32 × Int32 × Int32 × Int32 × (Nat → Int32) × (Nat → Int32) × (Nat → Int32) × (Nat → Int32) × (Nat → Int32) × Int32 × Int32 × Int32 × Int32 × Int32 × Int32 × Int32 × Int32 × Int32} (hf : f_X11_text fu m_tape m_texts m_taped m_faultPlace m_textYear m_ruleMany m_ruleFrom m_codeRow m_ruleKind m_codes m_at m_read m_token m_sign m_begins m_ends m_bad m_badPlace x1 x2 = some r) : Ci l G 44 0 0 yX11_text cX11_text 3 .int [.ref (gm G 0), .int x1, .int x2] (WM G m_code m_people m_grants m_texts m_copies m_taped m_faultPlace m_isFemale m_born m_died m_father m_mother m_fatherGrade m_motherGrade m_grantTo m_grantArms m_grantYear m_copyYear m_copyRow m_tape m_textYear m_ruleMany m_ruleFrom m_codeRow m_stack m_ruleKind m_codes m_at m_read m_token m_sign m_begins m_ends m_bad m_badPlace m_top m_lineLives m_markRow m_quarterMany m_quarters m_isUp m_wasUp ++ fr) r.1 (WM G r.2.1 m_people m_grants r.2.2.1 m_copies r.2.2.2.1 r.2.2.2.2.1 m_isFemale m_born m_died m_father m_mother m_fatherGrade m_motherGrade m_grantTo m_grantArms m_grantYear m_copyYear m_copyRow m_tape r.2.2.2.2.2.1 r.2.2.2.2.2.2.1 r.2.2.2.2.2.2.2.1 r.2.2.2.2.2.2.2.2.1 m_stack r.2.2.2.2.2.2.2.2.2.1 r.2.2.2.2.2.2.2.2.2.2.1 r.2.2.2.2.2.2.2.2.2.2.2.1 r.2.2.2.2.2.2.2.2.2.2.2.2.1 r.2.2.2.2.2.2.2.2.2.2.2.2.2.1 r.2.2.2.2.2.2.2.2.2.2.2.2.2.2.1 r.2.2.2.2.2.2.2.2.2.2.2.2.2.2.2.1 r.2.2.2.2.2.2.2.2.2.2.2.2.2.2.2.2.1 r.2.2.2.2.2.2.2.2.2.2.2.2.2.2.2.2.2.1 r.2.2.2.2.2.2.2.2.2.2.2.2.2.2.2.2.2.2 m_top m_lineLives m_markRow m_quarterMany m_quarters m_isUp m_wasUp ++ fr) := by
  refine Ci.of (by decide) (Nat.le_of_ble_eq_true rfl) (fun Y hX hQ => ?_)
  refine j_lv (lv' := [(0, .ref (gm G 0)), (1, .int x1), (2, .int x2)]) rfl ?_
  unfold f_X11_text at hf
  refine j_aload_n hX dX11_text_0 1 rfl 0 rfl rfl ?_
  refine j_iconst (v := 0) hX dX11_text_1 2 rfl (by decide) ?_
  refine j_put hX dX11_text_2 5 rfl fg_X11_110 ft_X11_1 0 rfl rfl rfl (Nat.le_of_ble_eq_true rfl) (ws' := (WM G 0 m_people m_grants m_texts m_copies m_taped m_faultPlace m_isFemale m_born m_died m_father m_mother m_fatherGrade m_motherGrade m_grantTo m_grantArms m_grantYear m_copyYear m_copyRow m_tape m_textYear m_ruleMany m_ruleFrom m_codeRow m_stack m_ruleKind m_codes m_at m_read m_token m_sign m_begins m_ends m_bad m_badPlace m_top m_lineLives m_markRow m_quarterMany m_quarters m_isUp m_wasUp ++ fr)) rfl ?_
  refine j_iload_n hX dX11_text_5 6 rfl 1 rfl rfl ?_
  refine j_if_lt hX dX11_text_6 9 24 rfl rfl (fun h1 => ?_) (fun h1 => ?_)
  · replace hf := itt h1 hf
    refine j_sub [0] rfl ?_
    exact t_X11_text_24 hX hQ    hf
  · replace hf := itf h1 hf
    refine j_iload_n hX dX11_text_9 10 rfl 1 rfl rfl ?_
    refine j_aload_n hX dX11_text_10 11 rfl 0 rfl rfl ?_
    refine j_get hX dX11_text_11 14 rfl fg_X11_197 0 rfl rfl ?_
    refine j_icmp_gt hX dX11_text_14 17 24 rfl rfl (fun h3 => ?_) (fun h3 => ?_)
    · replace hf := itt h3 hf
      refine j_sub [0] rfl ?_
      exact t_X11_text_24 hX hQ    hf
    · replace hf := itf h3 hf
      refine j_iload_n hX dX11_text_17 18 rfl 2 rfl rfl ?_
      obtain ⟨v4, hv4, hf⟩ := ibd hf
      refine z_si (As := [.int x2]) (rest := []) hX dX11_text_18 21 rfl (t_X11_isYear x2 hv4) mc_X11_isYear ms_X11_isYear ml_X11_116 (Nat.le_of_ble_eq_true rfl) (Nat.le_refl _) (Nat.le_refl _) rfl (Nat.le_of_ble_eq_true rfl) ?_
      refine j_if_ne hX dX11_text_21 24 29 rfl rfl (fun h5 => ?_) (fun h5 => ?_)
      · replace hf := itf h5 hf
        refine j_aload_n hX dX11_text_29 30 rfl 0 rfl rfl ?_
        refine j_iconst (v := 0) hX dX11_text_30 31 rfl (by decide) ?_
        refine j_put hX dX11_text_31 34 rfl fg_X11_197 ft_X11_6 0 rfl rfl rfl (Nat.le_of_ble_eq_true rfl) (ws' := (WM G 0 m_people m_grants m_texts m_copies 0 m_faultPlace m_isFemale m_born m_died m_father m_mother m_fatherGrade m_motherGrade m_grantTo m_grantArms m_grantYear m_copyYear m_copyRow m_tape m_textYear m_ruleMany m_ruleFrom m_codeRow m_stack m_ruleKind m_codes m_at m_read m_token m_sign m_begins m_ends m_bad m_badPlace m_top m_lineLives m_markRow m_quarterMany m_quarters m_isUp m_wasUp ++ fr)) rfl ?_
        refine j_aload_n hX dX11_text_34 35 rfl 0 rfl rfl ?_
        refine j_iconst (v := (-1)) hX dX11_text_35 36 rfl (by decide) ?_
        refine j_put hX dX11_text_36 39 rfl fg_X11_31 ft_X11_7 0 rfl rfl rfl (Nat.le_of_ble_eq_true rfl) (ws' := (WM G 0 m_people m_grants m_texts m_copies 0 ((-1)) m_isFemale m_born m_died m_father m_mother m_fatherGrade m_motherGrade m_grantTo m_grantArms m_grantYear m_copyYear m_copyRow m_tape m_textYear m_ruleMany m_ruleFrom m_codeRow m_stack m_ruleKind m_codes m_at m_read m_token m_sign m_begins m_ends m_bad m_badPlace m_top m_lineLives m_markRow m_quarterMany m_quarters m_isUp m_wasUp ++ fr)) rfl ?_
        refine j_aload_n hX dX11_text_39 40 rfl 0 rfl rfl ?_
        refine j_get hX dX11_text_40 43 rfl fg_X11_240 0 rfl rfl ?_
        refine j_bipush (v := 6) hX dX11_text_43 45 rfl (by decide) ?_
        refine j_icmp_ne hX dX11_text_45 48 51 rfl rfl (fun h6 => ?_) (fun h6 => ?_)
        · replace hf := itf h6 hf
          refine j_aload_n hX dX11_text_51 52 rfl 0 rfl rfl ?_
          refine j_iload_n hX dX11_text_52 53 rfl 1 rfl rfl ?_
          refine j_put hX dX11_text_53 56 rfl fg_X11_200 ft_X11_29 0 rfl rfl rfl (Nat.le_of_ble_eq_true rfl) (ws' := (WM G 0 m_people m_grants m_texts m_copies 0 ((-1)) m_isFemale m_born m_died m_father m_mother m_fatherGrade m_motherGrade m_grantTo m_grantArms m_grantYear m_copyYear m_copyRow m_tape m_textYear m_ruleMany m_ruleFrom m_codeRow m_stack m_ruleKind m_codes m_at x1 m_token m_sign m_begins m_ends m_bad m_badPlace m_top m_lineLives m_markRow m_quarterMany m_quarters m_isUp m_wasUp ++ fr)) rfl ?_
          refine j_aload_n hX dX11_text_56 57 rfl 0 rfl rfl ?_
          refine j_iconst (v := 0) hX dX11_text_57 58 rfl (by decide) ?_
          refine j_put hX dX11_text_58 61 rfl fg_X11_203 ft_X11_28 0 rfl rfl rfl (Nat.le_of_ble_eq_true rfl) (ws' := (WM G 0 m_people m_grants m_texts m_copies 0 ((-1)) m_isFemale m_born m_died m_father m_mother m_fatherGrade m_motherGrade m_grantTo m_grantArms m_grantYear m_copyYear m_copyRow m_tape m_textYear m_ruleMany m_ruleFrom m_codeRow m_stack m_ruleKind m_codes 0 x1 m_token m_sign m_begins m_ends m_bad m_badPlace m_top m_lineLives m_markRow m_quarterMany m_quarters m_isUp m_wasUp ++ fr)) rfl ?_
          refine j_aload_n hX dX11_text_61 62 rfl 0 rfl rfl ?_
          refine j_iconst (v := 0) hX dX11_text_62 63 rfl (by decide) ?_
          refine j_put hX dX11_text_63 66 rfl fg_X11_234 ft_X11_34 0 rfl rfl rfl (Nat.le_of_ble_eq_true rfl) (ws' := (WM G 0 m_people m_grants m_texts m_copies 0 ((-1)) m_isFemale m_born m_died m_father m_mother m_fatherGrade m_motherGrade m_grantTo m_grantArms m_grantYear m_copyYear m_copyRow m_tape m_textYear m_ruleMany m_ruleFrom m_codeRow m_stack m_ruleKind m_codes 0 x1 m_token m_sign m_begins m_ends 0 m_badPlace m_top m_lineLives m_markRow m_quarterMany m_quarters m_isUp m_wasUp ++ fr)) rfl ?_
          refine j_aload_n hX dX11_text_66 67 rfl 0 rfl rfl ?_
          refine j_iconst (v := 0) hX dX11_text_67 68 rfl (by decide) ?_
          refine j_put hX dX11_text_68 71 rfl fg_X11_243 ft_X11_27 0 rfl rfl rfl (Nat.le_of_ble_eq_true rfl) (ws' := (WM G 0 m_people m_grants m_texts m_copies 0 ((-1)) m_isFemale m_born m_died m_father m_mother m_fatherGrade m_motherGrade m_grantTo m_grantArms m_grantYear m_copyYear m_copyRow m_tape m_textYear m_ruleMany m_ruleFrom m_codeRow m_stack m_ruleKind 0 0 x1 m_token m_sign m_begins m_ends 0 m_badPlace m_top m_lineLives m_markRow m_quarterMany m_quarters m_isUp m_wasUp ++ fr)) rfl ?_
          refine j_aload_n hX dX11_text_71 72 rfl 0 rfl rfl ?_
          obtain ⟨v7, hv7, hf⟩ := ibd hf
          refine z_v (As := []) (rest := []) (q0 := 0) hX dX11_text_72 75 rfl (t_X11_readText  hv7) mc_X11_readText mv_X11_readText ml_X11_286 rfl rfl (Nat.le_of_ble_eq_true rfl) (Nat.le_refl _) (Nat.le_refl _) rfl (Nat.le_of_ble_eq_true rfl) ?_
          refine j_aload_n hX dX11_text_75 76 rfl 0 rfl rfl ?_
          refine j_get hX dX11_text_76 79 rfl fg_X11_234 0 rfl rfl ?_
          refine j_if_eq hX dX11_text_79 82 97 rfl rfl (fun h8 => ?_) (fun h8 => ?_)
          · replace hf := itt h8 hf
            refine j_aload_n hX dX11_text_97 98 rfl 0 rfl rfl ?_
            refine j_get hX dX11_text_98 101 rfl fg_X11_75 0 rfl rfl ?_
            refine j_aload_n hX dX11_text_101 102 rfl 0 rfl rfl ?_
            refine j_get hX dX11_text_102 105 rfl fg_X11_240 0 rfl rfl ?_
            refine j_iload_n hX dX11_text_105 106 rfl 2 rfl rfl ?_
            obtain ⟨hb9, hf⟩ := ign hf
            refine j_iast hX dX11_text_106 107 rfl 15 rfl hb9 (ws' := (WM G 0 m_people m_grants m_texts m_copies 0 ((-1)) m_isFemale m_born m_died m_father m_mother m_fatherGrade m_motherGrade m_grantTo m_grantArms m_grantYear m_copyYear m_copyRow m_tape (upd m_textYear (Int32.toNatClampNeg m_texts) x2) v7.1 v7.2.1 v7.2.2.1 m_stack v7.2.2.2.1 v7.2.2.2.2.1 v7.2.2.2.2.2.1 x1 v7.2.2.2.2.2.2.1 v7.2.2.2.2.2.2.2.1 v7.2.2.2.2.2.2.2.2.1 v7.2.2.2.2.2.2.2.2.2.1 v7.2.2.2.2.2.2.2.2.2.2.1 v7.2.2.2.2.2.2.2.2.2.2.2 m_top m_lineLives m_markRow m_quarterMany m_quarters m_isUp m_wasUp ++ fr)) rfl ?_
            refine j_aload_n hX dX11_text_107 108 rfl 0 rfl rfl ?_
            refine j_dup hX dX11_text_108 109 rfl rfl ?_
            refine j_get hX dX11_text_109 112 rfl fg_X11_240 0 rfl rfl ?_
            refine j_iconst (v := 1) hX dX11_text_112 113 rfl (by decide) ?_
            refine j_iadd hX dX11_text_113 114 rfl ?_
            refine j_put hX dX11_text_114 117 rfl fg_X11_240 ft_X11_4 0 rfl rfl rfl (Nat.le_of_ble_eq_true rfl) (ws' := (WM G 0 m_people m_grants (m_texts + 1) m_copies 0 ((-1)) m_isFemale m_born m_died m_father m_mother m_fatherGrade m_motherGrade m_grantTo m_grantArms m_grantYear m_copyYear m_copyRow m_tape (upd m_textYear (Int32.toNatClampNeg m_texts) x2) v7.1 v7.2.1 v7.2.2.1 m_stack v7.2.2.2.1 v7.2.2.2.2.1 v7.2.2.2.2.2.1 x1 v7.2.2.2.2.2.2.1 v7.2.2.2.2.2.2.2.1 v7.2.2.2.2.2.2.2.2.1 v7.2.2.2.2.2.2.2.2.2.1 v7.2.2.2.2.2.2.2.2.2.2.1 v7.2.2.2.2.2.2.2.2.2.2.2 m_top m_lineLives m_markRow m_quarterMany m_quarters m_isUp m_wasUp ++ fr)) rfl ?_
            refine j_aload_n hX dX11_text_117 118 rfl 0 rfl rfl ?_
            refine j_get hX dX11_text_118 121 rfl fg_X11_240 0 rfl rfl ?_
            refine j_iconst (v := 1) hX dX11_text_121 122 rfl (by decide) ?_
            refine j_isub hX dX11_text_122 123 rfl ?_
            replace hf := Option.some.inj hf
            subst hf
            exact j_iret hX hQ dX11_text_123
          · replace hf := itf h8 hf
            refine j_aload_n hX dX11_text_82 83 rfl 0 rfl rfl ?_
            refine j_aload_n hX dX11_text_83 84 rfl 0 rfl rfl ?_
            refine j_get hX dX11_text_84 87 rfl fg_X11_237 0 rfl rfl ?_
            refine j_put hX dX11_text_87 90 rfl fg_X11_31 ft_X11_7 0 rfl rfl rfl (Nat.le_of_ble_eq_true rfl) (ws' := (WM G 0 m_people m_grants m_texts m_copies 0 v7.2.2.2.2.2.2.2.2.2.2.2 m_isFemale m_born m_died m_father m_mother m_fatherGrade m_motherGrade m_grantTo m_grantArms m_grantYear m_copyYear m_copyRow m_tape m_textYear v7.1 v7.2.1 v7.2.2.1 m_stack v7.2.2.2.1 v7.2.2.2.2.1 v7.2.2.2.2.2.1 x1 v7.2.2.2.2.2.2.1 v7.2.2.2.2.2.2.2.1 v7.2.2.2.2.2.2.2.2.1 v7.2.2.2.2.2.2.2.2.2.1 v7.2.2.2.2.2.2.2.2.2.2.1 v7.2.2.2.2.2.2.2.2.2.2.2 m_top m_lineLives m_markRow m_quarterMany m_quarters m_isUp m_wasUp ++ fr)) rfl ?_
            refine j_iconst (v := (-1)) hX dX11_text_90 91 rfl (by decide) ?_
            refine j_aload_n hX dX11_text_91 92 rfl 0 rfl rfl ?_
            refine j_get hX dX11_text_92 95 rfl fg_X11_234 0 rfl rfl ?_
            refine j_isub hX dX11_text_95 96 rfl ?_
            replace hf := Option.some.inj hf
            subst hf
            exact j_iret hX hQ dX11_text_96
        · replace hf := itt h6 hf
          refine j_bipush (v := (-9)) hX dX11_text_48 50 rfl (by decide) ?_
          replace hf := Option.some.inj hf
          subst hf
          exact j_iret hX hQ dX11_text_50
      · replace hf := itt h5 hf
        refine j_sub [0] rfl ?_
        exact t_X11_text_24 hX hQ    hf
def f_X11_fault (m_faultPlace : Int32) : Option (Int32 × Int32) :=
  some (m_faultPlace, 0)
set_option maxRecDepth 100000 in
set_option maxHeartbeats 4000000 in
theorem t_X11_fault   {r : Int32 × Int32} (hf : f_X11_fault m_faultPlace = some r) : Ci l G 1 0 0 yX11_fault cX11_fault 1 .int [.ref (gm G 0)] (WM G m_code m_people m_grants m_texts m_copies m_taped m_faultPlace m_isFemale m_born m_died m_father m_mother m_fatherGrade m_motherGrade m_grantTo m_grantArms m_grantYear m_copyYear m_copyRow m_tape m_textYear m_ruleMany m_ruleFrom m_codeRow m_stack m_ruleKind m_codes m_at m_read m_token m_sign m_begins m_ends m_bad m_badPlace m_top m_lineLives m_markRow m_quarterMany m_quarters m_isUp m_wasUp ++ fr) r.1 (WM G r.2 m_people m_grants m_texts m_copies m_taped m_faultPlace m_isFemale m_born m_died m_father m_mother m_fatherGrade m_motherGrade m_grantTo m_grantArms m_grantYear m_copyYear m_copyRow m_tape m_textYear m_ruleMany m_ruleFrom m_codeRow m_stack m_ruleKind m_codes m_at m_read m_token m_sign m_begins m_ends m_bad m_badPlace m_top m_lineLives m_markRow m_quarterMany m_quarters m_isUp m_wasUp ++ fr) := by
  refine Ci.of (by decide) (Nat.le_of_ble_eq_true rfl) (fun Y hX hQ => ?_)
  refine j_lv (lv' := [(0, .ref (gm G 0))]) rfl ?_
  unfold f_X11_fault at hf
  refine j_aload_n hX dX11_fault_0 1 rfl 0 rfl rfl ?_
  refine j_iconst (v := 0) hX dX11_fault_1 2 rfl (by decide) ?_
  refine j_put hX dX11_fault_2 5 rfl fg_X11_110 ft_X11_1 0 rfl rfl rfl (Nat.le_of_ble_eq_true rfl) (ws' := (WM G 0 m_people m_grants m_texts m_copies m_taped m_faultPlace m_isFemale m_born m_died m_father m_mother m_fatherGrade m_motherGrade m_grantTo m_grantArms m_grantYear m_copyYear m_copyRow m_tape m_textYear m_ruleMany m_ruleFrom m_codeRow m_stack m_ruleKind m_codes m_at m_read m_token m_sign m_begins m_ends m_bad m_badPlace m_top m_lineLives m_markRow m_quarterMany m_quarters m_isUp m_wasUp ++ fr)) rfl ?_
  refine j_aload_n hX dX11_fault_5 6 rfl 0 rfl rfl ?_
  refine j_get hX dX11_fault_6 9 rfl fg_X11_31 0 rfl rfl ?_
  replace hf := Option.some.inj hf
  subst hf
  exact j_iret hX hQ dX11_fault_9
def g_X11_value_81 (m_lineLives : Nat → Int32) (m_markRow : Nat → Int32) (m_quarterMany : Nat → Int32) (m_quarters : Nat → Int32) (s0 : Int32) : Option (Int32 × (Nat → Int32) × (Nat → Int32) × (Nat → Int32) × (Nat → Int32)) :=
  some (s0, m_lineLives, m_markRow, m_quarterMany, m_quarters)
set_option maxRecDepth 100000 in
set_option maxHeartbeats 4000000 in
theorem t_X11_value_81 {Y : YT} {r : Int32 × (Nat → Int32) × (Nat → Int32) × (Nat → Int32) × (Nat → Int32)}  (hX : CX l G cX11_value 4 RX11 Y) (hQ : EQi G Y 0 0 .int r.1 (WM G m_code m_people m_grants m_texts m_copies m_taped m_faultPlace m_isFemale m_born m_died m_father m_mother m_fatherGrade m_motherGrade m_grantTo m_grantArms m_grantYear m_copyYear m_copyRow m_tape m_textYear m_ruleMany m_ruleFrom m_codeRow m_stack m_ruleKind m_codes m_at m_read m_token m_sign m_begins m_ends m_bad m_badPlace m_top r.2.1 r.2.2.1 r.2.2.2.1 r.2.2.2.2 m_isUp m_wasUp ++ fr))  (s0 : Int32) (hf : g_X11_value_81 m_lineLives m_markRow m_quarterMany m_quarters s0 = some r) : J l G (rmD 7 0 0) Y 0 0 81 [] [.int s0] (WM G m_code m_people m_grants m_texts m_copies m_taped m_faultPlace m_isFemale m_born m_died m_father m_mother m_fatherGrade m_motherGrade m_grantTo m_grantArms m_grantYear m_copyYear m_copyRow m_tape m_textYear m_ruleMany m_ruleFrom m_codeRow m_stack m_ruleKind m_codes m_at m_read m_token m_sign m_begins m_ends m_bad m_badPlace m_top m_lineLives m_markRow m_quarterMany m_quarters m_isUp m_wasUp ++ fr) := by
  unfold g_X11_value_81 at hf
  replace hf := Option.some.inj hf
  subst hf
  exact j_iret hX hQ dX11_value_81
def f_X11_value (fu : Nat) (m_people : Int32) (m_grants : Int32) (m_isFemale : Nat → Int32) (m_born : Nat → Int32) (m_died : Nat → Int32) (m_father : Nat → Int32) (m_mother : Nat → Int32) (m_fatherGrade : Nat → Int32) (m_grantTo : Nat → Int32) (m_grantArms : Nat → Int32) (m_grantYear : Nat → Int32) (m_lineLives : Nat → Int32) (m_markRow : Nat → Int32) (m_quarterMany : Nat → Int32) (m_quarters : Nat → Int32) (x1 : Int32) (x2 : Int32) (x3 : Int32) : Option (Int32 × (Nat → Int32) × (Nat → Int32) × (Nat → Int32) × (Nat → Int32)) :=
  if x1 = 0 then (f_X11_gradeOf fu m_grants m_father m_fatherGrade m_grantTo m_grantArms m_grantYear x2 x3).bind fun v2 => some (v2, m_lineLives, m_markRow, m_quarterMany, m_quarters) else if x1 = 1 then (f_X11_stepsOf fu m_grants m_father m_grantTo m_grantArms m_grantYear x2 x3).bind fun v4 => some (v4, m_lineLives, m_markRow, m_quarterMany, m_quarters) else if x1 = 2 then some (x3, m_lineLives, m_markRow, m_quarterMany, m_quarters) else if x1 = 3 then if inb x2 60 = true then some (m_born (Int32.toNatClampNeg x2), m_lineLives, m_markRow, m_quarterMany, m_quarters) else none else if x1 = 4 then if inb x2 60 = true then if (m_isFemale (Int32.toNatClampNeg x2)) = 0 then g_X11_value_81 m_lineLives m_markRow m_quarterMany m_quarters 0 else g_X11_value_81 m_lineLives m_markRow m_quarterMany m_quarters 1 else none else if x1 = 5 then (f_X11_marksAbove fu m_people m_grants m_isFemale m_born m_died m_father m_grantTo m_grantArms m_grantYear m_lineLives m_markRow x2 x3).bind fun v12 => some (v12.1, v12.2.1, v12.2.2, m_quarterMany, m_quarters) else if x1 = 6 then (f_X11_rivalsOf fu m_people m_grants m_father m_grantTo m_grantArms m_grantYear x2 x3).bind fun v14 => some (v14, m_lineLives, m_markRow, m_quarterMany, m_quarters) else (f_X11_quartersOf fu m_people m_grants m_isFemale m_born m_died m_father m_mother m_grantTo m_grantArms m_grantYear m_lineLives m_quarterMany m_quarters x2 x3).bind fun v15 => some (v15.1, v15.2.1, m_markRow, v15.2.2.1, v15.2.2.2)
set_option maxRecDepth 100000 in
set_option maxHeartbeats 4000000 in
theorem t_X11_value {fu : Nat}  (x1 : Int32) (x2 : Int32) (x3 : Int32) {r : Int32 × (Nat → Int32) × (Nat → Int32) × (Nat → Int32) × (Nat → Int32)} (hf : f_X11_value fu m_people m_grants m_isFemale m_born m_died m_father m_mother m_fatherGrade m_grantTo m_grantArms m_grantYear m_lineLives m_markRow m_quarterMany m_quarters x1 x2 x3 = some r) : Ci l G 7 0 0 yX11_value cX11_value 4 .int [.ref (gm G 0), .int x1, .int x2, .int x3] (WM G m_code m_people m_grants m_texts m_copies m_taped m_faultPlace m_isFemale m_born m_died m_father m_mother m_fatherGrade m_motherGrade m_grantTo m_grantArms m_grantYear m_copyYear m_copyRow m_tape m_textYear m_ruleMany m_ruleFrom m_codeRow m_stack m_ruleKind m_codes m_at m_read m_token m_sign m_begins m_ends m_bad m_badPlace m_top m_lineLives m_markRow m_quarterMany m_quarters m_isUp m_wasUp ++ fr) r.1 (WM G m_code m_people m_grants m_texts m_copies m_taped m_faultPlace m_isFemale m_born m_died m_father m_mother m_fatherGrade m_motherGrade m_grantTo m_grantArms m_grantYear m_copyYear m_copyRow m_tape m_textYear m_ruleMany m_ruleFrom m_codeRow m_stack m_ruleKind m_codes m_at m_read m_token m_sign m_begins m_ends m_bad m_badPlace m_top r.2.1 r.2.2.1 r.2.2.2.1 r.2.2.2.2 m_isUp m_wasUp ++ fr) := by
  refine Ci.of (by decide) (Nat.le_of_ble_eq_true rfl) (fun Y hX hQ => ?_)
  refine j_lv (lv' := [(0, .ref (gm G 0)), (1, .int x1), (2, .int x2), (3, .int x3)]) rfl ?_
  unfold f_X11_value at hf
  refine j_iload_n hX dX11_value_0 1 rfl 1 rfl rfl ?_
  by_cases h1 : x1 = 0
  · replace hf := itt h1 hf
    refine j_tab hX dX11_value_1 (by decide) 44 (by rw [h1]; rfl) ?_
    refine j_aload_n hX dX11_value_44 45 rfl 0 rfl rfl ?_
    refine j_iload_n hX dX11_value_45 46 rfl 2 rfl rfl ?_
    refine j_iload_n hX dX11_value_46 47 rfl 3 rfl rfl ?_
    obtain ⟨v2, hv2, hf⟩ := ibd hf
    refine z_i (As := [.int x2, .int x3]) (rest := []) (q0 := 0) hX dX11_value_47 50 rfl (t_X11_gradeOf x2 x3 hv2) mc_X11_gradeOf mv_X11_gradeOf ml_X11_172 rfl rfl (Nat.le_of_ble_eq_true rfl) (Nat.le_refl _) (Nat.le_refl _) rfl (Nat.le_of_ble_eq_true rfl) ?_
    replace hf := Option.some.inj hf
    subst hf
    exact j_iret hX hQ dX11_value_50
  replace hf := itf h1 hf
  by_cases h3 : x1 = 1
  · replace hf := itt h3 hf
    refine j_tab hX dX11_value_1 (by decide) 51 (by rw [h3]; rfl) ?_
    refine j_aload_n hX dX11_value_51 52 rfl 0 rfl rfl ?_
    refine j_iload_n hX dX11_value_52 53 rfl 2 rfl rfl ?_
    refine j_iload_n hX dX11_value_53 54 rfl 3 rfl rfl ?_
    obtain ⟨v4, hv4, hf⟩ := ibd hf
    refine z_i (As := [.int x2, .int x3]) (rest := []) (q0 := 0) hX dX11_value_54 57 rfl (t_X11_stepsOf x2 x3 hv4) mc_X11_stepsOf mv_X11_stepsOf ml_X11_160 rfl rfl (Nat.le_of_ble_eq_true rfl) (Nat.le_refl _) (Nat.le_refl _) rfl (Nat.le_of_ble_eq_true rfl) ?_
    replace hf := Option.some.inj hf
    subst hf
    exact j_iret hX hQ dX11_value_57
  replace hf := itf h3 hf
  by_cases h5 : x1 = 2
  · replace hf := itt h5 hf
    refine j_tab hX dX11_value_1 (by decide) 58 (by rw [h5]; rfl) ?_
    refine j_iload_n hX dX11_value_58 59 rfl 3 rfl rfl ?_
    replace hf := Option.some.inj hf
    subst hf
    exact j_iret hX hQ dX11_value_59
  replace hf := itf h5 hf
  by_cases h6 : x1 = 3
  · replace hf := itt h6 hf
    refine j_tab hX dX11_value_1 (by decide) 60 (by rw [h6]; rfl) ?_
    refine j_aload_n hX dX11_value_60 61 rfl 0 rfl rfl ?_
    refine j_get hX dX11_value_61 64 rfl fg_X11_39 0 rfl rfl ?_
    refine j_iload_n hX dX11_value_64 65 rfl 2 rfl rfl ?_
    obtain ⟨hb7, hf⟩ := ign hf
    refine j_iald hX dX11_value_65 66 rfl 3 rfl hb7 ?_
    replace hf := Option.some.inj hf
    subst hf
    exact j_iret hX hQ dX11_value_66
  replace hf := itf h6 hf
  by_cases h8 : x1 = 4
  · replace hf := itt h8 hf
    refine j_tab hX dX11_value_1 (by decide) 67 (by rw [h8]; rfl) ?_
    refine j_aload_n hX dX11_value_67 68 rfl 0 rfl rfl ?_
    refine j_get hX dX11_value_68 71 rfl fg_X11_35 0 rfl rfl ?_
    refine j_iload_n hX dX11_value_71 72 rfl 2 rfl rfl ?_
    obtain ⟨hb9, hf⟩ := ign hf
    refine j_zald hX dX11_value_72 73 rfl 2 rfl hb9 ?_
    refine j_if_eq hX dX11_value_73 76 80 rfl rfl (fun h10 => ?_) (fun h10 => ?_)
    · replace hf := itt h10 hf
      refine j_iconst (v := 0) hX dX11_value_80 81 rfl (by decide) ?_
      refine j_sub [] rfl ?_
      exact t_X11_value_81 hX hQ   0 hf
    · replace hf := itf h10 hf
      refine j_iconst (v := 1) hX dX11_value_76 77 rfl (by decide) ?_
      refine j_goto hX dX11_value_77 81 rfl ?_
      refine j_sub [] rfl ?_
      exact t_X11_value_81 hX hQ   1 hf
  replace hf := itf h8 hf
  by_cases h11 : x1 = 5
  · replace hf := itt h11 hf
    refine j_tab hX dX11_value_1 (by decide) 82 (by rw [h11]; rfl) ?_
    refine j_aload_n hX dX11_value_82 83 rfl 0 rfl rfl ?_
    refine j_iload_n hX dX11_value_83 84 rfl 2 rfl rfl ?_
    refine j_iload_n hX dX11_value_84 85 rfl 3 rfl rfl ?_
    obtain ⟨v12, hv12, hf⟩ := ibd hf
    refine z_i (As := [.int x2, .int x3]) (rest := []) (q0 := 0) hX dX11_value_85 88 rfl (t_X11_marksAbove x2 x3 hv12) mc_X11_marksAbove mv_X11_marksAbove ml_X11_178 rfl rfl (Nat.le_of_ble_eq_true rfl) (Nat.le_refl _) (Nat.le_refl _) rfl (Nat.le_of_ble_eq_true rfl) ?_
    replace hf := Option.some.inj hf
    subst hf
    exact j_iret hX hQ dX11_value_88
  replace hf := itf h11 hf
  by_cases h13 : x1 = 6
  · replace hf := itt h13 hf
    refine j_tab hX dX11_value_1 (by decide) 89 (by rw [h13]; rfl) ?_
    refine j_aload_n hX dX11_value_89 90 rfl 0 rfl rfl ?_
    refine j_iload_n hX dX11_value_90 91 rfl 2 rfl rfl ?_
    refine j_iload_n hX dX11_value_91 92 rfl 3 rfl rfl ?_
    obtain ⟨v14, hv14, hf⟩ := ibd hf
    refine z_i (As := [.int x2, .int x3]) (rest := []) (q0 := 0) hX dX11_value_92 95 rfl (t_X11_rivalsOf x2 x3 hv14) mc_X11_rivalsOf mv_X11_rivalsOf ml_X11_191 rfl rfl (Nat.le_of_ble_eq_true rfl) (Nat.le_refl _) (Nat.le_refl _) rfl (Nat.le_of_ble_eq_true rfl) ?_
    replace hf := Option.some.inj hf
    subst hf
    exact j_iret hX hQ dX11_value_95
  replace hf := itf h13 hf
  replace h1 := ne_ti (m := 0) h1 rfl
  replace h3 := ne_ti (m := 1) h3 rfl
  replace h5 := ne_ti (m := 2) h5 rfl
  replace h6 := ne_ti (m := 3) h6 rfl
  replace h8 := ne_ti (m := 4) h8 rfl
  replace h11 := ne_ti (m := 5) h11 rfl
  replace h13 := ne_ti (m := 6) h13 rfl
  refine j_tab hX dX11_value_1 (by decide) 96 (by unfold tsel; rw [if_pos (by omega)]; rfl) ?_
  refine j_aload_n hX dX11_value_96 97 rfl 0 rfl rfl ?_
  refine j_iload_n hX dX11_value_97 98 rfl 2 rfl rfl ?_
  refine j_iload_n hX dX11_value_98 99 rfl 3 rfl rfl ?_
  obtain ⟨v15, hv15, hf⟩ := ibd hf
  refine z_i (As := [.int x2, .int x3]) (rest := []) (q0 := 0) hX dX11_value_99 102 rfl (t_X11_quartersOf x2 x3 hv15) mc_X11_quartersOf mv_X11_quartersOf ml_X11_188 rfl rfl (Nat.le_of_ble_eq_true rfl) (Nat.le_refl _) (Nat.le_refl _) rfl (Nat.le_of_ble_eq_true rfl) ?_
  replace hf := Option.some.inj hf
  subst hf
  exact j_iret hX hQ dX11_value_102
def g_X11_two_54 (s0 : Int32) : Option (Int32) :=
  some s0
set_option maxRecDepth 100000 in
set_option maxHeartbeats 4000000 in
theorem t_X11_two_54 {Y : YT} {r : Int32}  (hX : CX l G cX11_two 3 RX11 Y) (hQ : EQi G Y 0 0 .int r ws)  (s0 : Int32) (hf : g_X11_two_54 s0 = some r) : J l G (rmD 1 0 0) Y 0 0 54 [] [.int s0] ws := by
  unfold g_X11_two_54 at hf
  replace hf := Option.some.inj hf
  subst hf
  exact j_iret hX hQ dX11_two_54
def g_X11_two_65 (s0 : Int32) : Option (Int32) :=
  some s0
set_option maxRecDepth 100000 in
set_option maxHeartbeats 4000000 in
theorem t_X11_two_65 {Y : YT} {r : Int32}  (hX : CX l G cX11_two 3 RX11 Y) (hQ : EQi G Y 0 0 .int r ws)  (s0 : Int32) (hf : g_X11_two_65 s0 = some r) : J l G (rmD 1 0 0) Y 0 0 65 [] [.int s0] ws := by
  unfold g_X11_two_65 at hf
  replace hf := Option.some.inj hf
  subst hf
  exact j_iret hX hQ dX11_two_65
def g_X11_two_79 (s0 : Int32) : Option (Int32) :=
  some s0
set_option maxRecDepth 100000 in
set_option maxHeartbeats 4000000 in
theorem t_X11_two_79 {Y : YT} {r : Int32}  (hX : CX l G cX11_two 3 RX11 Y) (hQ : EQi G Y 0 0 .int r ws)  (s0 : Int32) (hf : g_X11_two_79 s0 = some r) : J l G (rmD 1 0 0) Y 0 0 79 [] [.int s0] ws := by
  unfold g_X11_two_79 at hf
  replace hf := Option.some.inj hf
  subst hf
  exact j_iret hX hQ dX11_two_79
def g_X11_two_78  : Option (Int32) :=
  g_X11_two_79 0
set_option maxRecDepth 100000 in
set_option maxHeartbeats 4000000 in
theorem t_X11_two_78 {Y : YT} {r : Int32}  (hX : CX l G cX11_two 3 RX11 Y) (hQ : EQi G Y 0 0 .int r ws)   (hf : g_X11_two_78  = some r) : J l G (rmD 1 0 0) Y 0 0 78 [] [] ws := by
  unfold g_X11_two_78 at hf
  refine j_iconst (v := 0) hX dX11_two_78 79 rfl (by decide) ?_
  exact t_X11_two_79 hX hQ   0 hf
def g_X11_two_93 (s0 : Int32) : Option (Int32) :=
  some s0
set_option maxRecDepth 100000 in
set_option maxHeartbeats 4000000 in
theorem t_X11_two_93 {Y : YT} {r : Int32}  (hX : CX l G cX11_two 3 RX11 Y) (hQ : EQi G Y 0 0 .int r ws)  (s0 : Int32) (hf : g_X11_two_93 s0 = some r) : J l G (rmD 1 0 0) Y 0 0 93 [] [.int s0] ws := by
  unfold g_X11_two_93 at hf
  replace hf := Option.some.inj hf
  subst hf
  exact j_iret hX hQ dX11_two_93
def g_X11_two_88  : Option (Int32) :=
  g_X11_two_93 1
set_option maxRecDepth 100000 in
set_option maxHeartbeats 4000000 in
theorem t_X11_two_88 {Y : YT} {r : Int32}  (hX : CX l G cX11_two 3 RX11 Y) (hQ : EQi G Y 0 0 .int r ws)   (hf : g_X11_two_88  = some r) : J l G (rmD 1 0 0) Y 0 0 88 [] [] ws := by
  unfold g_X11_two_88 at hf
  refine j_iconst (v := 1) hX dX11_two_88 89 rfl (by decide) ?_
  refine j_goto hX dX11_two_89 93 rfl ?_
  exact t_X11_two_93 hX hQ   1 hf
def f_X11_two (x0 : Int32) (x1 : Int32) (x2 : Int32) : Option (Int32) :=
  if x0 = 1 then some (x1 + x2) else if x0 = 2 then some (x1 - x2) else if x0 = 3 then if x2 ≤ x1 then g_X11_two_54 0 else g_X11_two_54 1 else if x0 = 4 then if x1 = x2 then g_X11_two_65 1 else g_X11_two_65 0 else if x0 = 5 then if x1 = 0 then g_X11_two_78  else if x2 = 0 then g_X11_two_78  else g_X11_two_79 1 else if x1 = 0 then if x2 = 0 then g_X11_two_93 0 else g_X11_two_88  else g_X11_two_88 
set_option maxRecDepth 100000 in
set_option maxHeartbeats 4000000 in
theorem t_X11_two  (x0 : Int32) (x1 : Int32) (x2 : Int32) {r : Int32} (hf : f_X11_two x0 x1 x2 = some r) : Ci l G 1 0 0 yX11_two cX11_two 3 .int [.int x0, .int x1, .int x2] ws r ws := by
  refine Ci.of (by decide) (Nat.le_of_ble_eq_true rfl) (fun Y hX hQ => ?_)
  refine j_lv (lv' := [(0, .int x0), (1, .int x1), (2, .int x2)]) rfl ?_
  unfold f_X11_two at hf
  refine j_iload_n hX dX11_two_0 1 rfl 0 rfl rfl ?_
  by_cases h1 : x0 = 1
  · replace hf := itt h1 hf
    refine j_tab hX dX11_two_1 (by decide) 36 (by rw [h1]; rfl) ?_
    refine j_iload_n hX dX11_two_36 37 rfl 1 rfl rfl ?_
    refine j_iload_n hX dX11_two_37 38 rfl 2 rfl rfl ?_
    refine j_iadd hX dX11_two_38 39 rfl ?_
    replace hf := Option.some.inj hf
    subst hf
    exact j_iret hX hQ dX11_two_39
  replace hf := itf h1 hf
  by_cases h2 : x0 = 2
  · replace hf := itt h2 hf
    refine j_tab hX dX11_two_1 (by decide) 40 (by rw [h2]; rfl) ?_
    refine j_iload_n hX dX11_two_40 41 rfl 1 rfl rfl ?_
    refine j_iload_n hX dX11_two_41 42 rfl 2 rfl rfl ?_
    refine j_isub hX dX11_two_42 43 rfl ?_
    replace hf := Option.some.inj hf
    subst hf
    exact j_iret hX hQ dX11_two_43
  replace hf := itf h2 hf
  by_cases h3 : x0 = 3
  · replace hf := itt h3 hf
    refine j_tab hX dX11_two_1 (by decide) 44 (by rw [h3]; rfl) ?_
    refine j_iload_n hX dX11_two_44 45 rfl 1 rfl rfl ?_
    refine j_iload_n hX dX11_two_45 46 rfl 2 rfl rfl ?_
    refine j_icmp_ge hX dX11_two_46 49 53 rfl rfl (fun h4 => ?_) (fun h4 => ?_)
    · replace hf := itt h4 hf
      refine j_iconst (v := 0) hX dX11_two_53 54 rfl (by decide) ?_
      refine j_sub [] rfl ?_
      exact t_X11_two_54 hX hQ   0 hf
    · replace hf := itf h4 hf
      refine j_iconst (v := 1) hX dX11_two_49 50 rfl (by decide) ?_
      refine j_goto hX dX11_two_50 54 rfl ?_
      refine j_sub [] rfl ?_
      exact t_X11_two_54 hX hQ   1 hf
  replace hf := itf h3 hf
  by_cases h5 : x0 = 4
  · replace hf := itt h5 hf
    refine j_tab hX dX11_two_1 (by decide) 55 (by rw [h5]; rfl) ?_
    refine j_iload_n hX dX11_two_55 56 rfl 1 rfl rfl ?_
    refine j_iload_n hX dX11_two_56 57 rfl 2 rfl rfl ?_
    refine j_icmp_ne hX dX11_two_57 60 64 rfl rfl (fun h6 => ?_) (fun h6 => ?_)
    · replace hf := itf h6 hf
      refine j_iconst (v := 0) hX dX11_two_64 65 rfl (by decide) ?_
      refine j_sub [] rfl ?_
      exact t_X11_two_65 hX hQ   0 hf
    · replace hf := itt h6 hf
      refine j_iconst (v := 1) hX dX11_two_60 61 rfl (by decide) ?_
      refine j_goto hX dX11_two_61 65 rfl ?_
      refine j_sub [] rfl ?_
      exact t_X11_two_65 hX hQ   1 hf
  replace hf := itf h5 hf
  by_cases h7 : x0 = 5
  · replace hf := itt h7 hf
    refine j_tab hX dX11_two_1 (by decide) 66 (by rw [h7]; rfl) ?_
    refine j_iload_n hX dX11_two_66 67 rfl 1 rfl rfl ?_
    refine j_if_eq hX dX11_two_67 70 78 rfl rfl (fun h8 => ?_) (fun h8 => ?_)
    · replace hf := itt h8 hf
      refine j_sub [] rfl ?_
      exact t_X11_two_78 hX hQ    hf
    · replace hf := itf h8 hf
      refine j_iload_n hX dX11_two_70 71 rfl 2 rfl rfl ?_
      refine j_if_eq hX dX11_two_71 74 78 rfl rfl (fun h9 => ?_) (fun h9 => ?_)
      · replace hf := itt h9 hf
        refine j_sub [] rfl ?_
        exact t_X11_two_78 hX hQ    hf
      · replace hf := itf h9 hf
        refine j_iconst (v := 1) hX dX11_two_74 75 rfl (by decide) ?_
        refine j_goto hX dX11_two_75 79 rfl ?_
        refine j_sub [] rfl ?_
        exact t_X11_two_79 hX hQ   1 hf
  replace hf := itf h7 hf
  replace h1 := ne_ti (m := 1) h1 rfl
  replace h2 := ne_ti (m := 2) h2 rfl
  replace h3 := ne_ti (m := 3) h3 rfl
  replace h5 := ne_ti (m := 4) h5 rfl
  replace h7 := ne_ti (m := 5) h7 rfl
  refine j_tab hX dX11_two_1 (by decide) 80 (by unfold tsel; rw [if_pos (by omega)]; rfl) ?_
  refine j_iload_n hX dX11_two_80 81 rfl 1 rfl rfl ?_
  refine j_if_ne hX dX11_two_81 84 88 rfl rfl (fun h10 => ?_) (fun h10 => ?_)
  · replace hf := itf h10 hf
    refine j_sub [] rfl ?_
    exact t_X11_two_88 hX hQ    hf
  · replace hf := itt h10 hf
    refine j_iload_n hX dX11_two_84 85 rfl 2 rfl rfl ?_
    refine j_if_eq hX dX11_two_85 88 92 rfl rfl (fun h11 => ?_) (fun h11 => ?_)
    · replace hf := itt h11 hf
      refine j_iconst (v := 0) hX dX11_two_92 93 rfl (by decide) ?_
      refine j_sub [] rfl ?_
      exact t_X11_two_93 hX hQ   0 hf
    · replace hf := itf h11 hf
      refine j_sub [] rfl ?_
      exact t_X11_two_88 hX hQ    hf
def g_X11_told_187 (m_stack : Nat → Int32) (m_top : Int32) (m_lineLives : Nat → Int32) (m_markRow : Nat → Int32) (m_quarterMany : Nat → Int32) (m_quarters : Nat → Int32) (k8 : Int32 → Int32 → Int32 → Int32 → (Nat → Int32) → Int32 → (Nat → Int32) → (Nat → Int32) → (Nat → Int32) → (Nat → Int32) → Option (Int32 × (Nat → Int32) × Int32 × (Nat → Int32) × (Nat → Int32) × (Nat → Int32) × (Nat → Int32))) (x2 : Int32) (x3 : Int32) (x4 : Int32) (x5 : Int32) : Option (Int32 × (Nat → Int32) × Int32 × (Nat → Int32) × (Nat → Int32) × (Nat → Int32) × (Nat → Int32)) :=
  k8 x2 x3 x4 (x5 + 1) m_stack m_top m_lineLives m_markRow m_quarterMany m_quarters
set_option maxRecDepth 100000 in
set_option maxHeartbeats 4000000 in
theorem t_X11_told_187 {Y : YT} {r : Int32 × (Nat → Int32) × Int32 × (Nat → Int32) × (Nat → Int32) × (Nat → Int32) × (Nat → Int32)} {k8 : Int32 → Int32 → Int32 → Int32 → (Nat → Int32) → Int32 → (Nat → Int32) → (Nat → Int32) → (Nat → Int32) → (Nat → Int32) → Option (Int32 × (Nat → Int32) × Int32 × (Nat → Int32) × (Nat → Int32) × (Nat → Int32) × (Nat → Int32))} (hX : CX l G cX11_told 7 RX11 Y) (hQ : EQi G Y 0 0 .int r.1 (WM G m_code m_people m_grants m_texts m_copies m_taped m_faultPlace m_isFemale m_born m_died m_father m_mother m_fatherGrade m_motherGrade m_grantTo m_grantArms m_grantYear m_copyYear m_copyRow m_tape m_textYear m_ruleMany m_ruleFrom m_codeRow r.2.1 m_ruleKind m_codes m_at m_read m_token m_sign m_begins m_ends m_bad m_badPlace r.2.2.1 r.2.2.2.1 r.2.2.2.2.1 r.2.2.2.2.2.1 r.2.2.2.2.2.2 m_isUp m_wasUp ++ fr)) (hk8 : ∀ (x2 : Int32) (x3 : Int32) (x4 : Int32) (x5 : Int32) (m_stack : Nat → Int32) (m_top : Int32) (m_lineLives : Nat → Int32) (m_markRow : Nat → Int32) (m_quarterMany : Nat → Int32) (m_quarters : Nat → Int32), k8 x2 x3 x4 x5 m_stack m_top m_lineLives m_markRow m_quarterMany m_quarters = some r → J l G (rmD 8 0 0) Y 0 0 8 [(0, .ref (gm G 0)), (2, .int x2), (3, .int x3), (4, .int x4), (5, .int x5)] [] (WM G m_code m_people m_grants m_texts m_copies m_taped m_faultPlace m_isFemale m_born m_died m_father m_mother m_fatherGrade m_motherGrade m_grantTo m_grantArms m_grantYear m_copyYear m_copyRow m_tape m_textYear m_ruleMany m_ruleFrom m_codeRow m_stack m_ruleKind m_codes m_at m_read m_token m_sign m_begins m_ends m_bad m_badPlace m_top m_lineLives m_markRow m_quarterMany m_quarters m_isUp m_wasUp ++ fr)) (x2 : Int32) (x3 : Int32) (x4 : Int32) (x5 : Int32) (hf : g_X11_told_187 m_stack m_top m_lineLives m_markRow m_quarterMany m_quarters k8 x2 x3 x4 x5 = some r) : J l G (rmD 8 0 0) Y 0 0 187 [(0, .ref (gm G 0)), (2, .int x2), (3, .int x3), (4, .int x4), (5, .int x5)] [] (WM G m_code m_people m_grants m_texts m_copies m_taped m_faultPlace m_isFemale m_born m_died m_father m_mother m_fatherGrade m_motherGrade m_grantTo m_grantArms m_grantYear m_copyYear m_copyRow m_tape m_textYear m_ruleMany m_ruleFrom m_codeRow m_stack m_ruleKind m_codes m_at m_read m_token m_sign m_begins m_ends m_bad m_badPlace m_top m_lineLives m_markRow m_quarterMany m_quarters m_isUp m_wasUp ++ fr) := by
  unfold g_X11_told_187 at hf
  refine j_iinc (v := x5 + 1) hX dX11_told_187 190 rfl 4 rfl rfl (by decide) (lv' := [(5, .int (x5 + 1)), (0, .ref (gm G 0)), (2, .int x2), (3, .int x3), (4, .int x4)]) rfl ?_
  refine j_goto hX dX11_told_190 8 rfl ?_
  refine j_sub [1, 2, 3, 4, 0] rfl ?_
  exact hk8 x2 x3 x4 (x5 + 1) m_stack m_top m_lineLives m_markRow m_quarterMany m_quarters hf
def g_X11_told_137 (m_stack : Nat → Int32) (m_top : Int32) (m_lineLives : Nat → Int32) (m_markRow : Nat → Int32) (m_quarterMany : Nat → Int32) (m_quarters : Nat → Int32) (k8 : Int32 → Int32 → Int32 → Int32 → (Nat → Int32) → Int32 → (Nat → Int32) → (Nat → Int32) → (Nat → Int32) → (Nat → Int32) → Option (Int32 × (Nat → Int32) × Int32 × (Nat → Int32) × (Nat → Int32) × (Nat → Int32) × (Nat → Int32))) (x2 : Int32) (x3 : Int32) (x4 : Int32) (x5 : Int32) (s0 : Int32) (s1 : Int32) : Option (Int32 × (Nat → Int32) × Int32 × (Nat → Int32) × (Nat → Int32) × (Nat → Int32) × (Nat → Int32)) :=
  if inb s1 150 = true then g_X11_told_187 (upd m_stack (Int32.toNatClampNeg s1) s0) m_top m_lineLives m_markRow m_quarterMany m_quarters k8 x2 x3 x4 x5 else none
set_option maxRecDepth 100000 in
set_option maxHeartbeats 4000000 in
theorem t_X11_told_137 {Y : YT} {r : Int32 × (Nat → Int32) × Int32 × (Nat → Int32) × (Nat → Int32) × (Nat → Int32) × (Nat → Int32)} {k8 : Int32 → Int32 → Int32 → Int32 → (Nat → Int32) → Int32 → (Nat → Int32) → (Nat → Int32) → (Nat → Int32) → (Nat → Int32) → Option (Int32 × (Nat → Int32) × Int32 × (Nat → Int32) × (Nat → Int32) × (Nat → Int32) × (Nat → Int32))} (hX : CX l G cX11_told 7 RX11 Y) (hQ : EQi G Y 0 0 .int r.1 (WM G m_code m_people m_grants m_texts m_copies m_taped m_faultPlace m_isFemale m_born m_died m_father m_mother m_fatherGrade m_motherGrade m_grantTo m_grantArms m_grantYear m_copyYear m_copyRow m_tape m_textYear m_ruleMany m_ruleFrom m_codeRow r.2.1 m_ruleKind m_codes m_at m_read m_token m_sign m_begins m_ends m_bad m_badPlace r.2.2.1 r.2.2.2.1 r.2.2.2.2.1 r.2.2.2.2.2.1 r.2.2.2.2.2.2 m_isUp m_wasUp ++ fr)) (hk8 : ∀ (x2 : Int32) (x3 : Int32) (x4 : Int32) (x5 : Int32) (m_stack : Nat → Int32) (m_top : Int32) (m_lineLives : Nat → Int32) (m_markRow : Nat → Int32) (m_quarterMany : Nat → Int32) (m_quarters : Nat → Int32), k8 x2 x3 x4 x5 m_stack m_top m_lineLives m_markRow m_quarterMany m_quarters = some r → J l G (rmD 8 0 0) Y 0 0 8 [(0, .ref (gm G 0)), (2, .int x2), (3, .int x3), (4, .int x4), (5, .int x5)] [] (WM G m_code m_people m_grants m_texts m_copies m_taped m_faultPlace m_isFemale m_born m_died m_father m_mother m_fatherGrade m_motherGrade m_grantTo m_grantArms m_grantYear m_copyYear m_copyRow m_tape m_textYear m_ruleMany m_ruleFrom m_codeRow m_stack m_ruleKind m_codes m_at m_read m_token m_sign m_begins m_ends m_bad m_badPlace m_top m_lineLives m_markRow m_quarterMany m_quarters m_isUp m_wasUp ++ fr)) (x2 : Int32) (x3 : Int32) (x4 : Int32) (x5 : Int32) (s0 : Int32) (s1 : Int32) (hf : g_X11_told_137 m_stack m_top m_lineLives m_markRow m_quarterMany m_quarters k8 x2 x3 x4 x5 s0 s1 = some r) : J l G (rmD 8 0 0) Y 0 0 137 [(0, .ref (gm G 0)), (2, .int x2), (3, .int x3), (4, .int x4), (5, .int x5)] [.int s0, .int s1, .ref (gm G 19)] (WM G m_code m_people m_grants m_texts m_copies m_taped m_faultPlace m_isFemale m_born m_died m_father m_mother m_fatherGrade m_motherGrade m_grantTo m_grantArms m_grantYear m_copyYear m_copyRow m_tape m_textYear m_ruleMany m_ruleFrom m_codeRow m_stack m_ruleKind m_codes m_at m_read m_token m_sign m_begins m_ends m_bad m_badPlace m_top m_lineLives m_markRow m_quarterMany m_quarters m_isUp m_wasUp ++ fr) := by
  unfold g_X11_told_137 at hf
  obtain ⟨hb13, hf⟩ := ign hf
  refine j_iast hX dX11_told_137 138 rfl 19 rfl hb13 (ws' := (WM G m_code m_people m_grants m_texts m_copies m_taped m_faultPlace m_isFemale m_born m_died m_father m_mother m_fatherGrade m_motherGrade m_grantTo m_grantArms m_grantYear m_copyYear m_copyRow m_tape m_textYear m_ruleMany m_ruleFrom m_codeRow (upd m_stack (Int32.toNatClampNeg s1) s0) m_ruleKind m_codes m_at m_read m_token m_sign m_begins m_ends m_bad m_badPlace m_top m_lineLives m_markRow m_quarterMany m_quarters m_isUp m_wasUp ++ fr)) rfl ?_
  refine j_goto hX dX11_told_138 187 rfl ?_
  exact t_X11_told_187 hX hQ  hk8 x2 x3 x4 x5 hf
def g_X11_told_8 (fu : Nat) (m_people : Int32) (m_grants : Int32) (m_isFemale : Nat → Int32) (m_born : Nat → Int32) (m_died : Nat → Int32) (m_father : Nat → Int32) (m_mother : Nat → Int32) (m_fatherGrade : Nat → Int32) (m_grantTo : Nat → Int32) (m_grantArms : Nat → Int32) (m_grantYear : Nat → Int32) (m_codeRow : Nat → Int32) (m_stack : Nat → Int32) (m_top : Int32) (m_lineLives : Nat → Int32) (m_markRow : Nat → Int32) (m_quarterMany : Nat → Int32) (m_quarters : Nat → Int32) (k8 : Int32 → Int32 → Int32 → Int32 → (Nat → Int32) → Int32 → (Nat → Int32) → (Nat → Int32) → (Nat → Int32) → (Nat → Int32) → Option (Int32 × (Nat → Int32) × Int32 × (Nat → Int32) × (Nat → Int32) × (Nat → Int32) × (Nat → Int32))) (x2 : Int32) (x3 : Int32) (x4 : Int32) (x5 : Int32) : Option (Int32 × (Nat → Int32) × Int32 × (Nat → Int32) × (Nat → Int32) × (Nat → Int32) × (Nat → Int32)) :=
  if x2 ≤ x5 then if inb 0 150 = true then some (m_stack (Int32.toNatClampNeg 0), m_stack, m_top, m_lineLives, m_markRow, m_quarterMany, m_quarters) else none else if inb x5 4200 = true then if (m_codeRow (Int32.toNatClampNeg x5)) = 0 then if inb (x5 + 1) 4200 = true then if inb m_top 150 = true then g_X11_told_187 (upd m_stack (Int32.toNatClampNeg m_top) (m_codeRow (Int32.toNatClampNeg (x5 + 1)))) (m_top + 1) m_lineLives m_markRow m_quarterMany m_quarters k8 x2 x3 x4 (x5 + 1) else none else none else if (m_codeRow (Int32.toNatClampNeg x5)) < 20 then if (m_codeRow (Int32.toNatClampNeg x5)) = 7 then if inb (m_top - 1) 150 = true then if (m_stack (Int32.toNatClampNeg (m_top - 1))) = 0 then g_X11_told_137 m_stack m_top m_lineLives m_markRow m_quarterMany m_quarters k8 x2 x3 x4 x5 1 (m_top - 1) else g_X11_told_137 m_stack m_top m_lineLives m_markRow m_quarterMany m_quarters k8 x2 x3 x4 x5 0 (m_top - 1) else none else if inb ((m_top - 1) - 1) 150 = true then if inb (m_top - 1) 150 = true then (f_X11_two (m_codeRow (Int32.toNatClampNeg x5)) (m_stack (Int32.toNatClampNeg ((m_top - 1) - 1))) (m_stack (Int32.toNatClampNeg (m_top - 1)))).bind fun v9 => if inb ((m_top - 1) - 1) 150 = true then g_X11_told_187 (upd m_stack (Int32.toNatClampNeg ((m_top - 1) - 1)) v9) (m_top - 1) m_lineLives m_markRow m_quarterMany m_quarters k8 x2 x3 x4 x5 else none else none else none else (f_X11_value fu m_people m_grants m_isFemale m_born m_died m_father m_mother m_fatherGrade m_grantTo m_grantArms m_grantYear m_lineLives m_markRow m_quarterMany m_quarters ((m_codeRow (Int32.toNatClampNeg x5)) - 20) x3 x4).bind fun v14 => if inb m_top 150 = true then g_X11_told_187 (upd m_stack (Int32.toNatClampNeg m_top) v14.1) (m_top + 1) v14.2.1 v14.2.2.1 v14.2.2.2.1 v14.2.2.2.2 k8 x2 x3 x4 x5 else none else none
set_option maxRecDepth 100000 in
set_option maxHeartbeats 4000000 in
theorem t_X11_told_8 {fu : Nat} {Y : YT} {r : Int32 × (Nat → Int32) × Int32 × (Nat → Int32) × (Nat → Int32) × (Nat → Int32) × (Nat → Int32)} {k8 : Int32 → Int32 → Int32 → Int32 → (Nat → Int32) → Int32 → (Nat → Int32) → (Nat → Int32) → (Nat → Int32) → (Nat → Int32) → Option (Int32 × (Nat → Int32) × Int32 × (Nat → Int32) × (Nat → Int32) × (Nat → Int32) × (Nat → Int32))} (hX : CX l G cX11_told 7 RX11 Y) (hQ : EQi G Y 0 0 .int r.1 (WM G m_code m_people m_grants m_texts m_copies m_taped m_faultPlace m_isFemale m_born m_died m_father m_mother m_fatherGrade m_motherGrade m_grantTo m_grantArms m_grantYear m_copyYear m_copyRow m_tape m_textYear m_ruleMany m_ruleFrom m_codeRow r.2.1 m_ruleKind m_codes m_at m_read m_token m_sign m_begins m_ends m_bad m_badPlace r.2.2.1 r.2.2.2.1 r.2.2.2.2.1 r.2.2.2.2.2.1 r.2.2.2.2.2.2 m_isUp m_wasUp ++ fr)) (hk8 : ∀ (x2 : Int32) (x3 : Int32) (x4 : Int32) (x5 : Int32) (m_stack : Nat → Int32) (m_top : Int32) (m_lineLives : Nat → Int32) (m_markRow : Nat → Int32) (m_quarterMany : Nat → Int32) (m_quarters : Nat → Int32), k8 x2 x3 x4 x5 m_stack m_top m_lineLives m_markRow m_quarterMany m_quarters = some r → J l G (rmD 8 0 0) Y 0 0 8 [(0, .ref (gm G 0)), (2, .int x2), (3, .int x3), (4, .int x4), (5, .int x5)] [] (WM G m_code m_people m_grants m_texts m_copies m_taped m_faultPlace m_isFemale m_born m_died m_father m_mother m_fatherGrade m_motherGrade m_grantTo m_grantArms m_grantYear m_copyYear m_copyRow m_tape m_textYear m_ruleMany m_ruleFrom m_codeRow m_stack m_ruleKind m_codes m_at m_read m_token m_sign m_begins m_ends m_bad m_badPlace m_top m_lineLives m_markRow m_quarterMany m_quarters m_isUp m_wasUp ++ fr)) (x2 : Int32) (x3 : Int32) (x4 : Int32) (x5 : Int32) (hf : g_X11_told_8 fu m_people m_grants m_isFemale m_born m_died m_father m_mother m_fatherGrade m_grantTo m_grantArms m_grantYear m_codeRow m_stack m_top m_lineLives m_markRow m_quarterMany m_quarters k8 x2 x3 x4 x5 = some r) : J l G (rmD 8 0 0) Y 0 0 8 [(0, .ref (gm G 0)), (2, .int x2), (3, .int x3), (4, .int x4), (5, .int x5)] [] (WM G m_code m_people m_grants m_texts m_copies m_taped m_faultPlace m_isFemale m_born m_died m_father m_mother m_fatherGrade m_motherGrade m_grantTo m_grantArms m_grantYear m_copyYear m_copyRow m_tape m_textYear m_ruleMany m_ruleFrom m_codeRow m_stack m_ruleKind m_codes m_at m_read m_token m_sign m_begins m_ends m_bad m_badPlace m_top m_lineLives m_markRow m_quarterMany m_quarters m_isUp m_wasUp ++ fr) := by
  unfold g_X11_told_8 at hf
  refine j_iload hX dX11_told_8 10 rfl 4 rfl ?_
  refine j_iload_n hX dX11_told_10 11 rfl 1 rfl rfl ?_
  refine j_icmp_ge hX dX11_told_11 14 193 rfl rfl (fun h1 => ?_) (fun h1 => ?_)
  · replace hf := itt h1 hf
    refine j_aload_n hX dX11_told_193 194 rfl 0 rfl rfl ?_
    refine j_get hX dX11_told_194 197 rfl fg_X11_87 0 rfl rfl ?_
    refine j_iconst (v := 0) hX dX11_told_197 198 rfl (by decide) ?_
    obtain ⟨hb2, hf⟩ := ign hf
    refine j_iald hX dX11_told_198 199 rfl 19 rfl hb2 ?_
    replace hf := Option.some.inj hf
    subst hf
    exact j_iret hX hQ dX11_told_199
  · replace hf := itf h1 hf
    refine j_aload_n hX dX11_told_14 15 rfl 0 rfl rfl ?_
    refine j_get hX dX11_told_15 18 rfl fg_X11_84 0 rfl rfl ?_
    refine j_iload hX dX11_told_18 20 rfl 4 rfl ?_
    obtain ⟨hb3, hf⟩ := ign hf
    refine j_iald hX dX11_told_20 21 rfl 18 rfl hb3 ?_
    refine j_istore hX dX11_told_21 23 rfl (by decide) (lv' := [(6, .int (m_codeRow (Int32.toNatClampNeg x5))), (0, .ref (gm G 0)), (2, .int x2), (3, .int x3), (4, .int x4), (5, .int x5)]) rfl ?_
    refine j_iload hX dX11_told_23 25 rfl 0 rfl ?_
    refine j_if_ne hX dX11_told_25 28 60 rfl rfl (fun h4 => ?_) (fun h4 => ?_)
    · replace hf := itf h4 hf
      refine j_iload hX dX11_told_60 62 rfl 0 rfl ?_
      refine j_bipush (v := 20) hX dX11_told_62 64 rfl (by decide) ?_
      refine j_icmp_lt hX dX11_told_64 67 101 rfl rfl (fun h5 => ?_) (fun h5 => ?_)
      · replace hf := itt h5 hf
        refine j_iload hX dX11_told_101 103 rfl 0 rfl ?_
        refine j_bipush (v := 7) hX dX11_told_103 105 rfl (by decide) ?_
        refine j_icmp_ne hX dX11_told_105 108 141 rfl rfl (fun h6 => ?_) (fun h6 => ?_)
        · replace hf := itf h6 hf
          refine j_aload_n hX dX11_told_141 142 rfl 1 rfl rfl ?_
          refine j_dup hX dX11_told_142 143 rfl rfl ?_
          refine j_get hX dX11_told_143 146 rfl fg_X11_289 0 rfl rfl ?_
          refine j_iconst (v := 1) hX dX11_told_146 147 rfl (by decide) ?_
          refine j_isub hX dX11_told_147 148 rfl ?_
          refine j_put hX dX11_told_148 151 rfl fg_X11_289 ft_X11_36 0 rfl rfl rfl (Nat.le_of_ble_eq_true rfl) (ws' := (WM G m_code m_people m_grants m_texts m_copies m_taped m_faultPlace m_isFemale m_born m_died m_father m_mother m_fatherGrade m_motherGrade m_grantTo m_grantArms m_grantYear m_copyYear m_copyRow m_tape m_textYear m_ruleMany m_ruleFrom m_codeRow m_stack m_ruleKind m_codes m_at m_read m_token m_sign m_begins m_ends m_bad m_badPlace (m_top - 1) m_lineLives m_markRow m_quarterMany m_quarters m_isUp m_wasUp ++ fr)) rfl ?_
          refine j_aload_n hX dX11_told_151 152 rfl 1 rfl rfl ?_
          refine j_get hX dX11_told_152 155 rfl fg_X11_87 0 rfl rfl ?_
          refine j_aload_n hX dX11_told_155 156 rfl 1 rfl rfl ?_
          refine j_get hX dX11_told_156 159 rfl fg_X11_289 0 rfl rfl ?_
          refine j_iconst (v := 1) hX dX11_told_159 160 rfl (by decide) ?_
          refine j_isub hX dX11_told_160 161 rfl ?_
          refine j_iload hX dX11_told_161 163 rfl 0 rfl ?_
          refine j_aload_n hX dX11_told_163 164 rfl 1 rfl rfl ?_
          refine j_get hX dX11_told_164 167 rfl fg_X11_87 0 rfl rfl ?_
          refine j_aload_n hX dX11_told_167 168 rfl 1 rfl rfl ?_
          refine j_get hX dX11_told_168 171 rfl fg_X11_289 0 rfl rfl ?_
          refine j_iconst (v := 1) hX dX11_told_171 172 rfl (by decide) ?_
          refine j_isub hX dX11_told_172 173 rfl ?_
          obtain ⟨hb7, hf⟩ := ign hf
          refine j_iald hX dX11_told_173 174 rfl 19 rfl hb7 ?_
          refine j_aload_n hX dX11_told_174 175 rfl 1 rfl rfl ?_
          refine j_get hX dX11_told_175 178 rfl fg_X11_87 0 rfl rfl ?_
          refine j_aload_n hX dX11_told_178 179 rfl 1 rfl rfl ?_
          refine j_get hX dX11_told_179 182 rfl fg_X11_289 0 rfl rfl ?_
          obtain ⟨hb8, hf⟩ := ign hf
          refine j_iald hX dX11_told_182 183 rfl 19 rfl hb8 ?_
          obtain ⟨v9, hv9, hf⟩ := ibd hf
          refine z_si (As := [.int (m_codeRow (Int32.toNatClampNeg x5)), .int (m_stack (Int32.toNatClampNeg ((m_top - 1) - 1))), .int (m_stack (Int32.toNatClampNeg (m_top - 1)))]) (rest := [.int ((m_top - 1) - 1), .ref (gm G 19)]) hX dX11_told_183 186 rfl (t_X11_two (m_codeRow (Int32.toNatClampNeg x5)) (m_stack (Int32.toNatClampNeg ((m_top - 1) - 1))) (m_stack (Int32.toNatClampNeg (m_top - 1))) hv9) mc_X11_two ms_X11_two ml_X11_296 (Nat.le_of_ble_eq_true rfl) (Nat.le_refl _) (Nat.le_refl _) rfl (Nat.le_of_ble_eq_true rfl) ?_
          obtain ⟨hb10, hf⟩ := ign hf
          refine j_iast hX dX11_told_186 187 rfl 19 rfl hb10 (ws' := (WM G m_code m_people m_grants m_texts m_copies m_taped m_faultPlace m_isFemale m_born m_died m_father m_mother m_fatherGrade m_motherGrade m_grantTo m_grantArms m_grantYear m_copyYear m_copyRow m_tape m_textYear m_ruleMany m_ruleFrom m_codeRow (upd m_stack (Int32.toNatClampNeg ((m_top - 1) - 1)) v9) m_ruleKind m_codes m_at m_read m_token m_sign m_begins m_ends m_bad m_badPlace (m_top - 1) m_lineLives m_markRow m_quarterMany m_quarters m_isUp m_wasUp ++ fr)) rfl ?_
          refine j_sub [1, 2, 3, 4, 5] rfl ?_
          exact t_X11_told_187 hX hQ  hk8 x2 x3 x4 x5 hf
        · replace hf := itt h6 hf
          refine j_aload_n hX dX11_told_108 109 rfl 1 rfl rfl ?_
          refine j_get hX dX11_told_109 112 rfl fg_X11_87 0 rfl rfl ?_
          refine j_aload_n hX dX11_told_112 113 rfl 1 rfl rfl ?_
          refine j_get hX dX11_told_113 116 rfl fg_X11_289 0 rfl rfl ?_
          refine j_iconst (v := 1) hX dX11_told_116 117 rfl (by decide) ?_
          refine j_isub hX dX11_told_117 118 rfl ?_
          refine j_aload_n hX dX11_told_118 119 rfl 1 rfl rfl ?_
          refine j_get hX dX11_told_119 122 rfl fg_X11_87 0 rfl rfl ?_
          refine j_aload_n hX dX11_told_122 123 rfl 1 rfl rfl ?_
          refine j_get hX dX11_told_123 126 rfl fg_X11_289 0 rfl rfl ?_
          refine j_iconst (v := 1) hX dX11_told_126 127 rfl (by decide) ?_
          refine j_isub hX dX11_told_127 128 rfl ?_
          obtain ⟨hb11, hf⟩ := ign hf
          refine j_iald hX dX11_told_128 129 rfl 19 rfl hb11 ?_
          refine j_if_ne hX dX11_told_129 132 136 rfl rfl (fun h12 => ?_) (fun h12 => ?_)
          · replace hf := itf h12 hf
            refine j_iconst (v := 0) hX dX11_told_136 137 rfl (by decide) ?_
            refine j_sub [1, 2, 3, 4, 5] rfl ?_
            exact t_X11_told_137 hX hQ  hk8 x2 x3 x4 x5 0 (m_top - 1) hf
          · replace hf := itt h12 hf
            refine j_iconst (v := 1) hX dX11_told_132 133 rfl (by decide) ?_
            refine j_goto hX dX11_told_133 137 rfl ?_
            refine j_sub [1, 2, 3, 4, 5] rfl ?_
            exact t_X11_told_137 hX hQ  hk8 x2 x3 x4 x5 1 (m_top - 1) hf
      · replace hf := itf h5 hf
        refine j_aload_n hX dX11_told_67 68 rfl 1 rfl rfl ?_
        refine j_get hX dX11_told_68 71 rfl fg_X11_87 0 rfl rfl ?_
        refine j_aload_n hX dX11_told_71 72 rfl 1 rfl rfl ?_
        refine j_get hX dX11_told_72 75 rfl fg_X11_289 0 rfl rfl ?_
        refine j_aload_n hX dX11_told_75 76 rfl 1 rfl rfl ?_
        refine j_iload hX dX11_told_76 78 rfl 0 rfl ?_
        refine j_bipush (v := 20) hX dX11_told_78 80 rfl (by decide) ?_
        refine j_isub hX dX11_told_80 81 rfl ?_
        refine j_iload_n hX dX11_told_81 82 rfl 3 rfl rfl ?_
        refine j_iload hX dX11_told_82 84 rfl 4 rfl ?_
        obtain ⟨v14, hv14, hf⟩ := ibd hf
        refine z_i (As := [.int ((m_codeRow (Int32.toNatClampNeg x5)) - 20), .int x3, .int x4]) (rest := [.int m_top, .ref (gm G 19)]) (q0 := 0) hX dX11_told_84 87 rfl (t_X11_value ((m_codeRow (Int32.toNatClampNeg x5)) - 20) x3 x4 hv14) mc_X11_value mv_X11_value ml_X11_292 rfl rfl (Nat.le_of_ble_eq_true rfl) (Nat.le_refl _) (Nat.le_refl _) rfl (Nat.le_of_ble_eq_true rfl) ?_
        obtain ⟨hb15, hf⟩ := ign hf
        refine j_iast hX dX11_told_87 88 rfl 19 rfl hb15 (ws' := (WM G m_code m_people m_grants m_texts m_copies m_taped m_faultPlace m_isFemale m_born m_died m_father m_mother m_fatherGrade m_motherGrade m_grantTo m_grantArms m_grantYear m_copyYear m_copyRow m_tape m_textYear m_ruleMany m_ruleFrom m_codeRow (upd m_stack (Int32.toNatClampNeg m_top) v14.1) m_ruleKind m_codes m_at m_read m_token m_sign m_begins m_ends m_bad m_badPlace m_top v14.2.1 v14.2.2.1 v14.2.2.2.1 v14.2.2.2.2 m_isUp m_wasUp ++ fr)) rfl ?_
        refine j_aload_n hX dX11_told_88 89 rfl 1 rfl rfl ?_
        refine j_dup hX dX11_told_89 90 rfl rfl ?_
        refine j_get hX dX11_told_90 93 rfl fg_X11_289 0 rfl rfl ?_
        refine j_iconst (v := 1) hX dX11_told_93 94 rfl (by decide) ?_
        refine j_iadd hX dX11_told_94 95 rfl ?_
        refine j_put hX dX11_told_95 98 rfl fg_X11_289 ft_X11_36 0 rfl rfl rfl (Nat.le_of_ble_eq_true rfl) (ws' := (WM G m_code m_people m_grants m_texts m_copies m_taped m_faultPlace m_isFemale m_born m_died m_father m_mother m_fatherGrade m_motherGrade m_grantTo m_grantArms m_grantYear m_copyYear m_copyRow m_tape m_textYear m_ruleMany m_ruleFrom m_codeRow (upd m_stack (Int32.toNatClampNeg m_top) v14.1) m_ruleKind m_codes m_at m_read m_token m_sign m_begins m_ends m_bad m_badPlace (m_top + 1) v14.2.1 v14.2.2.1 v14.2.2.2.1 v14.2.2.2.2 m_isUp m_wasUp ++ fr)) rfl ?_
        refine j_goto hX dX11_told_98 187 rfl ?_
        refine j_sub [1, 2, 3, 4, 5] rfl ?_
        exact t_X11_told_187 hX hQ  hk8 x2 x3 x4 x5 hf
    · replace hf := itt h4 hf
      refine j_iinc (v := x5 + 1) hX dX11_told_28 31 rfl 5 rfl rfl (by decide) (lv' := [(5, .int (x5 + 1)), (6, .int (m_codeRow (Int32.toNatClampNeg x5))), (0, .ref (gm G 0)), (2, .int x2), (3, .int x3), (4, .int x4)]) rfl ?_
      refine j_aload_n hX dX11_told_31 32 rfl 2 rfl rfl ?_
      refine j_get hX dX11_told_32 35 rfl fg_X11_87 0 rfl rfl ?_
      refine j_aload_n hX dX11_told_35 36 rfl 2 rfl rfl ?_
      refine j_get hX dX11_told_36 39 rfl fg_X11_289 0 rfl rfl ?_
      refine j_aload_n hX dX11_told_39 40 rfl 2 rfl rfl ?_
      refine j_get hX dX11_told_40 43 rfl fg_X11_84 0 rfl rfl ?_
      refine j_iload hX dX11_told_43 45 rfl 0 rfl ?_
      obtain ⟨hb16, hf⟩ := ign hf
      refine j_iald hX dX11_told_45 46 rfl 18 rfl hb16 ?_
      obtain ⟨hb17, hf⟩ := ign hf
      refine j_iast hX dX11_told_46 47 rfl 19 rfl hb17 (ws' := (WM G m_code m_people m_grants m_texts m_copies m_taped m_faultPlace m_isFemale m_born m_died m_father m_mother m_fatherGrade m_motherGrade m_grantTo m_grantArms m_grantYear m_copyYear m_copyRow m_tape m_textYear m_ruleMany m_ruleFrom m_codeRow (upd m_stack (Int32.toNatClampNeg m_top) (m_codeRow (Int32.toNatClampNeg (x5 + 1)))) m_ruleKind m_codes m_at m_read m_token m_sign m_begins m_ends m_bad m_badPlace m_top m_lineLives m_markRow m_quarterMany m_quarters m_isUp m_wasUp ++ fr)) rfl ?_
      refine j_aload_n hX dX11_told_47 48 rfl 2 rfl rfl ?_
      refine j_dup hX dX11_told_48 49 rfl rfl ?_
      refine j_get hX dX11_told_49 52 rfl fg_X11_289 0 rfl rfl ?_
      refine j_iconst (v := 1) hX dX11_told_52 53 rfl (by decide) ?_
      refine j_iadd hX dX11_told_53 54 rfl ?_
      refine j_put hX dX11_told_54 57 rfl fg_X11_289 ft_X11_36 0 rfl rfl rfl (Nat.le_of_ble_eq_true rfl) (ws' := (WM G m_code m_people m_grants m_texts m_copies m_taped m_faultPlace m_isFemale m_born m_died m_father m_mother m_fatherGrade m_motherGrade m_grantTo m_grantArms m_grantYear m_copyYear m_copyRow m_tape m_textYear m_ruleMany m_ruleFrom m_codeRow (upd m_stack (Int32.toNatClampNeg m_top) (m_codeRow (Int32.toNatClampNeg (x5 + 1)))) m_ruleKind m_codes m_at m_read m_token m_sign m_begins m_ends m_bad m_badPlace (m_top + 1) m_lineLives m_markRow m_quarterMany m_quarters m_isUp m_wasUp ++ fr)) rfl ?_
      refine j_goto hX dX11_told_57 187 rfl ?_
      refine j_sub [2, 3, 4, 5, 0] rfl ?_
      exact t_X11_told_187 hX hQ  hk8 x2 x3 x4 (x5 + 1) hf
def f_X11_told_8 (fu : Nat) (m_people : Int32) (m_grants : Int32) (m_isFemale : Nat → Int32) (m_born : Nat → Int32) (m_died : Nat → Int32) (m_father : Nat → Int32) (m_mother : Nat → Int32) (m_fatherGrade : Nat → Int32) (m_grantTo : Nat → Int32) (m_grantArms : Nat → Int32) (m_grantYear : Nat → Int32) (m_codeRow : Nat → Int32) : Nat → (Int32 × Int32 × Int32 × Int32 × (Nat → Int32) × Int32 × (Nat → Int32) × (Nat → Int32) × (Nat → Int32) × (Nat → Int32)) → Option (Int32 × (Nat → Int32) × Int32 × (Nat → Int32) × (Nat → Int32) × (Nat → Int32) × (Nat → Int32)) :=
  lp (fun k v => g_X11_told_8 fu m_people m_grants m_isFemale m_born m_died m_father m_mother m_fatherGrade m_grantTo m_grantArms m_grantYear m_codeRow v.2.2.2.2.1 v.2.2.2.2.2.1 v.2.2.2.2.2.2.1 v.2.2.2.2.2.2.2.1 v.2.2.2.2.2.2.2.2.1 v.2.2.2.2.2.2.2.2.2 (fun x2 x3 x4 x5 m_stack m_top m_lineLives m_markRow m_quarterMany m_quarters => k (x2, x3, x4, x5, m_stack, m_top, m_lineLives, m_markRow, m_quarterMany, m_quarters)) v.1 v.2.1 v.2.2.1 v.2.2.2.1)
set_option maxRecDepth 100000 in
set_option maxHeartbeats 4000000 in
theorem u_X11_told_8 {fu : Nat} {Y : YT} {r : Int32 × (Nat → Int32) × Int32 × (Nat → Int32) × (Nat → Int32) × (Nat → Int32) × (Nat → Int32)}  (hX : CX l G cX11_told 7 RX11 Y) (hQ : EQi G Y 0 0 .int r.1 (WM G m_code m_people m_grants m_texts m_copies m_taped m_faultPlace m_isFemale m_born m_died m_father m_mother m_fatherGrade m_motherGrade m_grantTo m_grantArms m_grantYear m_copyYear m_copyRow m_tape m_textYear m_ruleMany m_ruleFrom m_codeRow r.2.1 m_ruleKind m_codes m_at m_read m_token m_sign m_begins m_ends m_bad m_badPlace r.2.2.1 r.2.2.2.1 r.2.2.2.2.1 r.2.2.2.2.2.1 r.2.2.2.2.2.2 m_isUp m_wasUp ++ fr))  (n : Nat) (v : Int32 × Int32 × Int32 × Int32 × (Nat → Int32) × Int32 × (Nat → Int32) × (Nat → Int32) × (Nat → Int32) × (Nat → Int32)) (hf : f_X11_told_8 fu m_people m_grants m_isFemale m_born m_died m_father m_mother m_fatherGrade m_grantTo m_grantArms m_grantYear m_codeRow n v = some r) : J l G (rmD 8 0 0) Y 0 0 8 [(0, .ref (gm G 0)), (2, .int v.1), (3, .int v.2.1), (4, .int v.2.2.1), (5, .int v.2.2.2.1)] [] (WM G m_code m_people m_grants m_texts m_copies m_taped m_faultPlace m_isFemale m_born m_died m_father m_mother m_fatherGrade m_motherGrade m_grantTo m_grantArms m_grantYear m_copyYear m_copyRow m_tape m_textYear m_ruleMany m_ruleFrom m_codeRow v.2.2.2.2.1 m_ruleKind m_codes m_at m_read m_token m_sign m_begins m_ends m_bad m_badPlace v.2.2.2.2.2.1 v.2.2.2.2.2.2.1 v.2.2.2.2.2.2.2.1 v.2.2.2.2.2.2.2.2.1 v.2.2.2.2.2.2.2.2.2 m_isUp m_wasUp ++ fr) :=
  lp_ind (P := fun v : Int32 × Int32 × Int32 × Int32 × (Nat → Int32) × Int32 × (Nat → Int32) × (Nat → Int32) × (Nat → Int32) × (Nat → Int32) => J l G (rmD 8 0 0) Y 0 0 8 [(0, .ref (gm G 0)), (2, .int v.1), (3, .int v.2.1), (4, .int v.2.2.1), (5, .int v.2.2.2.1)] [] (WM G m_code m_people m_grants m_texts m_copies m_taped m_faultPlace m_isFemale m_born m_died m_father m_mother m_fatherGrade m_motherGrade m_grantTo m_grantArms m_grantYear m_copyYear m_copyRow m_tape m_textYear m_ruleMany m_ruleFrom m_codeRow v.2.2.2.2.1 m_ruleKind m_codes m_at m_read m_token m_sign m_begins m_ends m_bad m_badPlace v.2.2.2.2.2.1 v.2.2.2.2.2.2.1 v.2.2.2.2.2.2.2.1 v.2.2.2.2.2.2.2.2.1 v.2.2.2.2.2.2.2.2.2 m_isUp m_wasUp ++ fr)) (fun k hk v hf => t_X11_told_8 hX hQ   (fun x2 x3 x4 x5 m_stack m_top m_lineLives m_markRow m_quarterMany m_quarters h => hk (x2, x3, x4, x5, m_stack, m_top, m_lineLives, m_markRow, m_quarterMany, m_quarters) h) v.1 v.2.1 v.2.2.1 v.2.2.2.1 hf) n v hf
def f_X11_told (fu : Nat) (m_people : Int32) (m_grants : Int32) (m_isFemale : Nat → Int32) (m_born : Nat → Int32) (m_died : Nat → Int32) (m_father : Nat → Int32) (m_mother : Nat → Int32) (m_fatherGrade : Nat → Int32) (m_grantTo : Nat → Int32) (m_grantArms : Nat → Int32) (m_grantYear : Nat → Int32) (m_codeRow : Nat → Int32) (m_stack : Nat → Int32) (m_lineLives : Nat → Int32) (m_markRow : Nat → Int32) (m_quarterMany : Nat → Int32) (m_quarters : Nat → Int32) (x1 : Int32) (x2 : Int32) (x3 : Int32) (x4 : Int32) : Option (Int32 × (Nat → Int32) × Int32 × (Nat → Int32) × (Nat → Int32) × (Nat → Int32) × (Nat → Int32)) :=
  f_X11_told_8 fu m_people m_grants m_isFemale m_born m_died m_father m_mother m_fatherGrade m_grantTo m_grantArms m_grantYear m_codeRow fu (x2, x3, x4, x1, m_stack, 0, m_lineLives, m_markRow, m_quarterMany, m_quarters)
set_option maxRecDepth 100000 in
set_option maxHeartbeats 4000000 in
theorem t_X11_told {fu : Nat}  (x1 : Int32) (x2 : Int32) (x3 : Int32) (x4 : Int32) {r : Int32 × (Nat → Int32) × Int32 × (Nat → Int32) × (Nat → Int32) × (Nat → Int32) × (Nat → Int32)} (hf : f_X11_told fu m_people m_grants m_isFemale m_born m_died m_father m_mother m_fatherGrade m_grantTo m_grantArms m_grantYear m_codeRow m_stack m_lineLives m_markRow m_quarterMany m_quarters x1 x2 x3 x4 = some r) : Ci l G 8 0 0 yX11_told cX11_told 7 .int [.ref (gm G 0), .int x1, .int x2, .int x3, .int x4] (WM G m_code m_people m_grants m_texts m_copies m_taped m_faultPlace m_isFemale m_born m_died m_father m_mother m_fatherGrade m_motherGrade m_grantTo m_grantArms m_grantYear m_copyYear m_copyRow m_tape m_textYear m_ruleMany m_ruleFrom m_codeRow m_stack m_ruleKind m_codes m_at m_read m_token m_sign m_begins m_ends m_bad m_badPlace m_top m_lineLives m_markRow m_quarterMany m_quarters m_isUp m_wasUp ++ fr) r.1 (WM G m_code m_people m_grants m_texts m_copies m_taped m_faultPlace m_isFemale m_born m_died m_father m_mother m_fatherGrade m_motherGrade m_grantTo m_grantArms m_grantYear m_copyYear m_copyRow m_tape m_textYear m_ruleMany m_ruleFrom m_codeRow r.2.1 m_ruleKind m_codes m_at m_read m_token m_sign m_begins m_ends m_bad m_badPlace r.2.2.1 r.2.2.2.1 r.2.2.2.2.1 r.2.2.2.2.2.1 r.2.2.2.2.2.2 m_isUp m_wasUp ++ fr) := by
  refine Ci.of (by decide) (Nat.le_of_ble_eq_true rfl) (fun Y hX hQ => ?_)
  refine j_lv (lv' := [(0, .ref (gm G 0)), (1, .int x1), (2, .int x2), (3, .int x3), (4, .int x4)]) rfl ?_
  unfold f_X11_told at hf
  refine j_aload_n hX dX11_told_0 1 rfl 0 rfl rfl ?_
  refine j_iconst (v := 0) hX dX11_told_1 2 rfl (by decide) ?_
  refine j_put hX dX11_told_2 5 rfl fg_X11_289 ft_X11_36 0 rfl rfl rfl (Nat.le_of_ble_eq_true rfl) (ws' := (WM G m_code m_people m_grants m_texts m_copies m_taped m_faultPlace m_isFemale m_born m_died m_father m_mother m_fatherGrade m_motherGrade m_grantTo m_grantArms m_grantYear m_copyYear m_copyRow m_tape m_textYear m_ruleMany m_ruleFrom m_codeRow m_stack m_ruleKind m_codes m_at m_read m_token m_sign m_begins m_ends m_bad m_badPlace 0 m_lineLives m_markRow m_quarterMany m_quarters m_isUp m_wasUp ++ fr)) rfl ?_
  refine j_iload_n hX dX11_told_5 6 rfl 1 rfl rfl ?_
  refine j_istore hX dX11_told_6 8 rfl (by decide) (lv' := [(5, .int x1), (0, .ref (gm G 0)), (1, .int x1), (2, .int x2), (3, .int x3), (4, .int x4)]) rfl ?_
  refine j_sub [1, 3, 4, 5, 0] rfl ?_
  exact u_X11_told_8 hX hQ   fu (x2, x3, x4, x1, m_stack, 0, m_lineLives, m_markRow, m_quarterMany, m_quarters) hf
def g_X11_ruled_183 (m_stack : Nat → Int32) (m_top : Int32) (m_lineLives : Nat → Int32) (m_markRow : Nat → Int32) (m_quarterMany : Nat → Int32) (m_quarters : Nat → Int32) (x5 : Int32) : Option (Int32 × (Nat → Int32) × Int32 × (Nat → Int32) × (Nat → Int32) × (Nat → Int32) × (Nat → Int32)) :=
  some (x5, m_stack, m_top, m_lineLives, m_markRow, m_quarterMany, m_quarters)
set_option maxRecDepth 100000 in
set_option maxHeartbeats 4000000 in
theorem t_X11_ruled_183 {Y : YT} {r : Int32 × (Nat → Int32) × Int32 × (Nat → Int32) × (Nat → Int32) × (Nat → Int32) × (Nat → Int32)}  (hX : CX l G cX11_ruled 9 RX11 Y) (hQ : EQi G Y 0 0 .int r.1 (WM G m_code m_people m_grants m_texts m_copies m_taped m_faultPlace m_isFemale m_born m_died m_father m_mother m_fatherGrade m_motherGrade m_grantTo m_grantArms m_grantYear m_copyYear m_copyRow m_tape m_textYear m_ruleMany m_ruleFrom m_codeRow r.2.1 m_ruleKind m_codes m_at m_read m_token m_sign m_begins m_ends m_bad m_badPlace r.2.2.1 r.2.2.2.1 r.2.2.2.2.1 r.2.2.2.2.2.1 r.2.2.2.2.2.2 m_isUp m_wasUp ++ fr))  (x5 : Int32) (hf : g_X11_ruled_183 m_stack m_top m_lineLives m_markRow m_quarterMany m_quarters x5 = some r) : J l G (rmD 9 0 0) Y 0 0 183 [(5, .int x5)] [] (WM G m_code m_people m_grants m_texts m_copies m_taped m_faultPlace m_isFemale m_born m_died m_father m_mother m_fatherGrade m_motherGrade m_grantTo m_grantArms m_grantYear m_copyYear m_copyRow m_tape m_textYear m_ruleMany m_ruleFrom m_codeRow m_stack m_ruleKind m_codes m_at m_read m_token m_sign m_begins m_ends m_bad m_badPlace m_top m_lineLives m_markRow m_quarterMany m_quarters m_isUp m_wasUp ++ fr) := by
  unfold g_X11_ruled_183 at hf
  refine j_iload hX dX11_ruled_183 185 rfl 0 rfl ?_
  replace hf := Option.some.inj hf
  subst hf
  exact j_iret hX hQ dX11_ruled_185
def g_X11_ruled_177 (m_stack : Nat → Int32) (m_top : Int32) (m_lineLives : Nat → Int32) (m_markRow : Nat → Int32) (m_quarterMany : Nat → Int32) (m_quarters : Nat → Int32) (k65 : Int32 → Int32 → Int32 → Int32 → Int32 → Int32 → (Nat → Int32) → Int32 → (Nat → Int32) → (Nat → Int32) → (Nat → Int32) → (Nat → Int32) → Option (Int32 × (Nat → Int32) × Int32 × (Nat → Int32) × (Nat → Int32) × (Nat → Int32) × (Nat → Int32))) (x1 : Int32) (x2 : Int32) (x3 : Int32) (x4 : Int32) (x5 : Int32) (x6 : Int32) : Option (Int32 × (Nat → Int32) × Int32 × (Nat → Int32) × (Nat → Int32) × (Nat → Int32) × (Nat → Int32)) :=
  k65 x1 x2 x3 x4 x5 (x6 + 1) m_stack m_top m_lineLives m_markRow m_quarterMany m_quarters
set_option maxRecDepth 100000 in
set_option maxHeartbeats 4000000 in
theorem t_X11_ruled_177 {Y : YT} {r : Int32 × (Nat → Int32) × Int32 × (Nat → Int32) × (Nat → Int32) × (Nat → Int32) × (Nat → Int32)} {k65 : Int32 → Int32 → Int32 → Int32 → Int32 → Int32 → (Nat → Int32) → Int32 → (Nat → Int32) → (Nat → Int32) → (Nat → Int32) → (Nat → Int32) → Option (Int32 × (Nat → Int32) × Int32 × (Nat → Int32) × (Nat → Int32) × (Nat → Int32) × (Nat → Int32))} (hX : CX l G cX11_ruled 9 RX11 Y) (hQ : EQi G Y 0 0 .int r.1 (WM G m_code m_people m_grants m_texts m_copies m_taped m_faultPlace m_isFemale m_born m_died m_father m_mother m_fatherGrade m_motherGrade m_grantTo m_grantArms m_grantYear m_copyYear m_copyRow m_tape m_textYear m_ruleMany m_ruleFrom m_codeRow r.2.1 m_ruleKind m_codes m_at m_read m_token m_sign m_begins m_ends m_bad m_badPlace r.2.2.1 r.2.2.2.1 r.2.2.2.2.1 r.2.2.2.2.2.1 r.2.2.2.2.2.2 m_isUp m_wasUp ++ fr)) (hk65 : ∀ (x1 : Int32) (x2 : Int32) (x3 : Int32) (x4 : Int32) (x5 : Int32) (x6 : Int32) (m_stack : Nat → Int32) (m_top : Int32) (m_lineLives : Nat → Int32) (m_markRow : Nat → Int32) (m_quarterMany : Nat → Int32) (m_quarters : Nat → Int32), k65 x1 x2 x3 x4 x5 x6 m_stack m_top m_lineLives m_markRow m_quarterMany m_quarters = some r → J l G (rmD 9 0 0) Y 0 0 65 [(0, .ref (gm G 0)), (1, .int x1), (2, .int x2), (3, .int x3), (4, .int x4), (5, .int x5), (6, .int x6)] [] (WM G m_code m_people m_grants m_texts m_copies m_taped m_faultPlace m_isFemale m_born m_died m_father m_mother m_fatherGrade m_motherGrade m_grantTo m_grantArms m_grantYear m_copyYear m_copyRow m_tape m_textYear m_ruleMany m_ruleFrom m_codeRow m_stack m_ruleKind m_codes m_at m_read m_token m_sign m_begins m_ends m_bad m_badPlace m_top m_lineLives m_markRow m_quarterMany m_quarters m_isUp m_wasUp ++ fr)) (x1 : Int32) (x2 : Int32) (x3 : Int32) (x4 : Int32) (x5 : Int32) (x6 : Int32) (hf : g_X11_ruled_177 m_stack m_top m_lineLives m_markRow m_quarterMany m_quarters k65 x1 x2 x3 x4 x5 x6 = some r) : J l G (rmD 9 0 0) Y 0 0 177 [(0, .ref (gm G 0)), (1, .int x1), (2, .int x2), (3, .int x3), (4, .int x4), (5, .int x5), (6, .int x6)] [] (WM G m_code m_people m_grants m_texts m_copies m_taped m_faultPlace m_isFemale m_born m_died m_father m_mother m_fatherGrade m_motherGrade m_grantTo m_grantArms m_grantYear m_copyYear m_copyRow m_tape m_textYear m_ruleMany m_ruleFrom m_codeRow m_stack m_ruleKind m_codes m_at m_read m_token m_sign m_begins m_ends m_bad m_badPlace m_top m_lineLives m_markRow m_quarterMany m_quarters m_isUp m_wasUp ++ fr) := by
  unfold g_X11_ruled_177 at hf
  refine j_iinc (v := x6 + 1) hX dX11_ruled_177 180 rfl 6 rfl rfl (by decide) (lv' := [(6, .int (x6 + 1)), (0, .ref (gm G 0)), (1, .int x1), (2, .int x2), (3, .int x3), (4, .int x4), (5, .int x5)]) rfl ?_
  refine j_goto hX dX11_ruled_180 65 rfl ?_
  refine j_sub [1, 2, 3, 4, 5, 6, 0] rfl ?_
  exact hk65 x1 x2 x3 x4 x5 (x6 + 1) m_stack m_top m_lineLives m_markRow m_quarterMany m_quarters hf
def g_X11_ruled_175 (m_stack : Nat → Int32) (m_top : Int32) (m_lineLives : Nat → Int32) (m_markRow : Nat → Int32) (m_quarterMany : Nat → Int32) (m_quarters : Nat → Int32) (k65 : Int32 → Int32 → Int32 → Int32 → Int32 → Int32 → (Nat → Int32) → Int32 → (Nat → Int32) → (Nat → Int32) → (Nat → Int32) → (Nat → Int32) → Option (Int32 × (Nat → Int32) × Int32 × (Nat → Int32) × (Nat → Int32) × (Nat → Int32) × (Nat → Int32))) (x1 : Int32) (x2 : Int32) (x3 : Int32) (x4 : Int32) (x6 : Int32) (s0 : Int32) : Option (Int32 × (Nat → Int32) × Int32 × (Nat → Int32) × (Nat → Int32) × (Nat → Int32) × (Nat → Int32)) :=
  g_X11_ruled_177 m_stack m_top m_lineLives m_markRow m_quarterMany m_quarters k65 x1 x2 x3 x4 s0 x6
set_option maxRecDepth 100000 in
set_option maxHeartbeats 4000000 in
theorem t_X11_ruled_175 {Y : YT} {r : Int32 × (Nat → Int32) × Int32 × (Nat → Int32) × (Nat → Int32) × (Nat → Int32) × (Nat → Int32)} {k65 : Int32 → Int32 → Int32 → Int32 → Int32 → Int32 → (Nat → Int32) → Int32 → (Nat → Int32) → (Nat → Int32) → (Nat → Int32) → (Nat → Int32) → Option (Int32 × (Nat → Int32) × Int32 × (Nat → Int32) × (Nat → Int32) × (Nat → Int32) × (Nat → Int32))} (hX : CX l G cX11_ruled 9 RX11 Y) (hQ : EQi G Y 0 0 .int r.1 (WM G m_code m_people m_grants m_texts m_copies m_taped m_faultPlace m_isFemale m_born m_died m_father m_mother m_fatherGrade m_motherGrade m_grantTo m_grantArms m_grantYear m_copyYear m_copyRow m_tape m_textYear m_ruleMany m_ruleFrom m_codeRow r.2.1 m_ruleKind m_codes m_at m_read m_token m_sign m_begins m_ends m_bad m_badPlace r.2.2.1 r.2.2.2.1 r.2.2.2.2.1 r.2.2.2.2.2.1 r.2.2.2.2.2.2 m_isUp m_wasUp ++ fr)) (hk65 : ∀ (x1 : Int32) (x2 : Int32) (x3 : Int32) (x4 : Int32) (x5 : Int32) (x6 : Int32) (m_stack : Nat → Int32) (m_top : Int32) (m_lineLives : Nat → Int32) (m_markRow : Nat → Int32) (m_quarterMany : Nat → Int32) (m_quarters : Nat → Int32), k65 x1 x2 x3 x4 x5 x6 m_stack m_top m_lineLives m_markRow m_quarterMany m_quarters = some r → J l G (rmD 9 0 0) Y 0 0 65 [(0, .ref (gm G 0)), (1, .int x1), (2, .int x2), (3, .int x3), (4, .int x4), (5, .int x5), (6, .int x6)] [] (WM G m_code m_people m_grants m_texts m_copies m_taped m_faultPlace m_isFemale m_born m_died m_father m_mother m_fatherGrade m_motherGrade m_grantTo m_grantArms m_grantYear m_copyYear m_copyRow m_tape m_textYear m_ruleMany m_ruleFrom m_codeRow m_stack m_ruleKind m_codes m_at m_read m_token m_sign m_begins m_ends m_bad m_badPlace m_top m_lineLives m_markRow m_quarterMany m_quarters m_isUp m_wasUp ++ fr)) (x1 : Int32) (x2 : Int32) (x3 : Int32) (x4 : Int32) (x6 : Int32) (s0 : Int32) (hf : g_X11_ruled_175 m_stack m_top m_lineLives m_markRow m_quarterMany m_quarters k65 x1 x2 x3 x4 x6 s0 = some r) : J l G (rmD 9 0 0) Y 0 0 175 [(0, .ref (gm G 0)), (1, .int x1), (2, .int x2), (3, .int x3), (4, .int x4), (6, .int x6)] [.int s0] (WM G m_code m_people m_grants m_texts m_copies m_taped m_faultPlace m_isFemale m_born m_died m_father m_mother m_fatherGrade m_motherGrade m_grantTo m_grantArms m_grantYear m_copyYear m_copyRow m_tape m_textYear m_ruleMany m_ruleFrom m_codeRow m_stack m_ruleKind m_codes m_at m_read m_token m_sign m_begins m_ends m_bad m_badPlace m_top m_lineLives m_markRow m_quarterMany m_quarters m_isUp m_wasUp ++ fr) := by
  unfold g_X11_ruled_175 at hf
  refine j_istore hX dX11_ruled_175 177 rfl (by decide) (lv' := [(5, .int s0), (0, .ref (gm G 0)), (1, .int x1), (2, .int x2), (3, .int x3), (4, .int x4), (6, .int x6)]) rfl ?_
  refine j_sub [1, 2, 3, 4, 5, 0, 6] rfl ?_
  exact t_X11_ruled_177 hX hQ  hk65 x1 x2 x3 x4 s0 x6 hf
def g_X11_ruled_65 (fu : Nat) (m_people : Int32) (m_grants : Int32) (m_isFemale : Nat → Int32) (m_born : Nat → Int32) (m_died : Nat → Int32) (m_father : Nat → Int32) (m_mother : Nat → Int32) (m_fatherGrade : Nat → Int32) (m_grantTo : Nat → Int32) (m_grantArms : Nat → Int32) (m_grantYear : Nat → Int32) (m_ruleMany : Nat → Int32) (m_ruleFrom : Nat → Int32) (m_codeRow : Nat → Int32) (m_ruleKind : Nat → Int32) (m_stack : Nat → Int32) (m_top : Int32) (m_lineLives : Nat → Int32) (m_markRow : Nat → Int32) (m_quarterMany : Nat → Int32) (m_quarters : Nat → Int32) (k65 : Int32 → Int32 → Int32 → Int32 → Int32 → Int32 → (Nat → Int32) → Int32 → (Nat → Int32) → (Nat → Int32) → (Nat → Int32) → (Nat → Int32) → Option (Int32 × (Nat → Int32) × Int32 × (Nat → Int32) × (Nat → Int32) × (Nat → Int32) × (Nat → Int32))) (x1 : Int32) (x2 : Int32) (x3 : Int32) (x4 : Int32) (x5 : Int32) (x6 : Int32) : Option (Int32 × (Nat → Int32) × Int32 × (Nat → Int32) × (Nat → Int32) × (Nat → Int32) × (Nat → Int32)) :=
  if x4 = ((-1)) then g_X11_ruled_183 m_stack m_top m_lineLives m_markRow m_quarterMany m_quarters x5 else if inb x4 6 = true then if (m_ruleMany (Int32.toNatClampNeg x4)) ≤ x6 then g_X11_ruled_183 m_stack m_top m_lineLives m_markRow m_quarterMany m_quarters x5 else if inb ((12 * x4) + x6) 72 = true then if (m_ruleKind (Int32.toNatClampNeg ((12 * x4) + x6))) = x1 then if inb ((13 * x4) + x6) 78 = true then if inb (((13 * x4) + x6) + 1) 78 = true then (f_X11_told fu m_people m_grants m_isFemale m_born m_died m_father m_mother m_fatherGrade m_grantTo m_grantArms m_grantYear m_codeRow m_stack m_lineLives m_markRow m_quarterMany m_quarters ((700 * x4) + (m_ruleFrom (Int32.toNatClampNeg ((13 * x4) + x6)))) ((700 * x4) + (m_ruleFrom (Int32.toNatClampNeg (((13 * x4) + x6) + 1)))) x2 x3).bind fun v9 => if x1 = 2 then g_X11_ruled_175 v9.2.1 v9.2.2.1 v9.2.2.2.1 v9.2.2.2.2.1 v9.2.2.2.2.2.1 v9.2.2.2.2.2.2 k65 x1 x2 x3 x4 x6 (x5 + v9.1) else if v9.1 = 0 then g_X11_ruled_175 v9.2.1 v9.2.2.1 v9.2.2.2.1 v9.2.2.2.2.1 v9.2.2.2.2.2.1 v9.2.2.2.2.2.2 k65 x1 x2 x3 x4 x6 x5 else g_X11_ruled_175 v9.2.1 v9.2.2.1 v9.2.2.2.1 v9.2.2.2.2.1 v9.2.2.2.2.2.1 v9.2.2.2.2.2.2 k65 x1 x2 x3 x4 x6 1 else none else none else g_X11_ruled_177 m_stack m_top m_lineLives m_markRow m_quarterMany m_quarters k65 x1 x2 x3 x4 x5 x6 else none else none
set_option maxRecDepth 100000 in
set_option maxHeartbeats 4000000 in
theorem t_X11_ruled_65 {fu : Nat} {Y : YT} {r : Int32 × (Nat → Int32) × Int32 × (Nat → Int32) × (Nat → Int32) × (Nat → Int32) × (Nat → Int32)} {k65 : Int32 → Int32 → Int32 → Int32 → Int32 → Int32 → (Nat → Int32) → Int32 → (Nat → Int32) → (Nat → Int32) → (Nat → Int32) → (Nat → Int32) → Option (Int32 × (Nat → Int32) × Int32 × (Nat → Int32) × (Nat → Int32) × (Nat → Int32) × (Nat → Int32))} (hX : CX l G cX11_ruled 9 RX11 Y) (hQ : EQi G Y 0 0 .int r.1 (WM G m_code m_people m_grants m_texts m_copies m_taped m_faultPlace m_isFemale m_born m_died m_father m_mother m_fatherGrade m_motherGrade m_grantTo m_grantArms m_grantYear m_copyYear m_copyRow m_tape m_textYear m_ruleMany m_ruleFrom m_codeRow r.2.1 m_ruleKind m_codes m_at m_read m_token m_sign m_begins m_ends m_bad m_badPlace r.2.2.1 r.2.2.2.1 r.2.2.2.2.1 r.2.2.2.2.2.1 r.2.2.2.2.2.2 m_isUp m_wasUp ++ fr)) (hk65 : ∀ (x1 : Int32) (x2 : Int32) (x3 : Int32) (x4 : Int32) (x5 : Int32) (x6 : Int32) (m_stack : Nat → Int32) (m_top : Int32) (m_lineLives : Nat → Int32) (m_markRow : Nat → Int32) (m_quarterMany : Nat → Int32) (m_quarters : Nat → Int32), k65 x1 x2 x3 x4 x5 x6 m_stack m_top m_lineLives m_markRow m_quarterMany m_quarters = some r → J l G (rmD 9 0 0) Y 0 0 65 [(0, .ref (gm G 0)), (1, .int x1), (2, .int x2), (3, .int x3), (4, .int x4), (5, .int x5), (6, .int x6)] [] (WM G m_code m_people m_grants m_texts m_copies m_taped m_faultPlace m_isFemale m_born m_died m_father m_mother m_fatherGrade m_motherGrade m_grantTo m_grantArms m_grantYear m_copyYear m_copyRow m_tape m_textYear m_ruleMany m_ruleFrom m_codeRow m_stack m_ruleKind m_codes m_at m_read m_token m_sign m_begins m_ends m_bad m_badPlace m_top m_lineLives m_markRow m_quarterMany m_quarters m_isUp m_wasUp ++ fr)) (x1 : Int32) (x2 : Int32) (x3 : Int32) (x4 : Int32) (x5 : Int32) (x6 : Int32) (hf : g_X11_ruled_65 fu m_people m_grants m_isFemale m_born m_died m_father m_mother m_fatherGrade m_grantTo m_grantArms m_grantYear m_ruleMany m_ruleFrom m_codeRow m_ruleKind m_stack m_top m_lineLives m_markRow m_quarterMany m_quarters k65 x1 x2 x3 x4 x5 x6 = some r) : J l G (rmD 9 0 0) Y 0 0 65 [(0, .ref (gm G 0)), (1, .int x1), (2, .int x2), (3, .int x3), (4, .int x4), (5, .int x5), (6, .int x6)] [] (WM G m_code m_people m_grants m_texts m_copies m_taped m_faultPlace m_isFemale m_born m_died m_father m_mother m_fatherGrade m_motherGrade m_grantTo m_grantArms m_grantYear m_copyYear m_copyRow m_tape m_textYear m_ruleMany m_ruleFrom m_codeRow m_stack m_ruleKind m_codes m_at m_read m_token m_sign m_begins m_ends m_bad m_badPlace m_top m_lineLives m_markRow m_quarterMany m_quarters m_isUp m_wasUp ++ fr) := by
  unfold g_X11_ruled_65 at hf
  refine j_iload hX dX11_ruled_65 67 rfl 4 rfl ?_
  refine j_iconst (v := (-1)) hX dX11_ruled_67 68 rfl (by decide) ?_
  refine j_icmp_eq hX dX11_ruled_68 71 183 rfl rfl (fun h2 => ?_) (fun h2 => ?_)
  · replace hf := itt h2 hf
    refine j_sub [5] rfl ?_
    exact t_X11_ruled_183 hX hQ   x5 hf
  · replace hf := itf h2 hf
    refine j_iload hX dX11_ruled_71 73 rfl 6 rfl ?_
    refine j_aload_n hX dX11_ruled_73 74 rfl 0 rfl rfl ?_
    refine j_get hX dX11_ruled_74 77 rfl fg_X11_78 0 rfl rfl ?_
    refine j_iload hX dX11_ruled_77 79 rfl 4 rfl ?_
    obtain ⟨hb3, hf⟩ := ign hf
    refine j_iald hX dX11_ruled_79 80 rfl 16 rfl hb3 ?_
    refine j_icmp_ge hX dX11_ruled_80 83 183 rfl rfl (fun h4 => ?_) (fun h4 => ?_)
    · replace hf := itt h4 hf
      refine j_sub [5] rfl ?_
      exact t_X11_ruled_183 hX hQ   x5 hf
    · replace hf := itf h4 hf
      refine j_aload_n hX dX11_ruled_83 84 rfl 0 rfl rfl ?_
      refine j_get hX dX11_ruled_84 87 rfl fg_X11_90 0 rfl rfl ?_
      refine j_bipush (v := 12) hX dX11_ruled_87 89 rfl (by decide) ?_
      refine j_iload hX dX11_ruled_89 91 rfl 4 rfl ?_
      refine j_imul hX dX11_ruled_91 92 rfl ?_
      refine j_iload hX dX11_ruled_92 94 rfl 6 rfl ?_
      refine j_iadd hX dX11_ruled_94 95 rfl ?_
      obtain ⟨hb5, hf⟩ := ign hf
      refine j_iald hX dX11_ruled_95 96 rfl 20 rfl hb5 ?_
      refine j_iload_n hX dX11_ruled_96 97 rfl 1 rfl rfl ?_
      refine j_icmp_eq hX dX11_ruled_97 100 103 rfl rfl (fun h6 => ?_) (fun h6 => ?_)
      · replace hf := itt h6 hf
        refine j_bipush (v := 13) hX dX11_ruled_103 105 rfl (by decide) ?_
        refine j_iload hX dX11_ruled_105 107 rfl 4 rfl ?_
        refine j_imul hX dX11_ruled_107 108 rfl ?_
        refine j_iload hX dX11_ruled_108 110 rfl 6 rfl ?_
        refine j_iadd hX dX11_ruled_110 111 rfl ?_
        refine j_istore hX dX11_ruled_111 113 rfl (by decide) (lv' := [(7, .int ((13 * x4) + x6)), (0, .ref (gm G 0)), (1, .int x1), (2, .int x2), (3, .int x3), (4, .int x4), (5, .int x5), (6, .int x6)]) rfl ?_
        refine j_aload_n hX dX11_ruled_113 114 rfl 1 rfl rfl ?_
        refine j_sipush (v := 700) hX dX11_ruled_114 117 rfl (by decide) ?_
        refine j_iload hX dX11_ruled_117 119 rfl 5 rfl ?_
        refine j_imul hX dX11_ruled_119 120 rfl ?_
        refine j_aload_n hX dX11_ruled_120 121 rfl 1 rfl rfl ?_
        refine j_get hX dX11_ruled_121 124 rfl fg_X11_81 0 rfl rfl ?_
        refine j_iload hX dX11_ruled_124 126 rfl 0 rfl ?_
        obtain ⟨hb7, hf⟩ := ign hf
        refine j_iald hX dX11_ruled_126 127 rfl 17 rfl hb7 ?_
        refine j_iadd hX dX11_ruled_127 128 rfl ?_
        refine j_sipush (v := 700) hX dX11_ruled_128 131 rfl (by decide) ?_
        refine j_iload hX dX11_ruled_131 133 rfl 5 rfl ?_
        refine j_imul hX dX11_ruled_133 134 rfl ?_
        refine j_aload_n hX dX11_ruled_134 135 rfl 1 rfl rfl ?_
        refine j_get hX dX11_ruled_135 138 rfl fg_X11_81 0 rfl rfl ?_
        refine j_iload hX dX11_ruled_138 140 rfl 0 rfl ?_
        refine j_iconst (v := 1) hX dX11_ruled_140 141 rfl (by decide) ?_
        refine j_iadd hX dX11_ruled_141 142 rfl ?_
        obtain ⟨hb8, hf⟩ := ign hf
        refine j_iald hX dX11_ruled_142 143 rfl 17 rfl hb8 ?_
        refine j_iadd hX dX11_ruled_143 144 rfl ?_
        refine j_iload_n hX dX11_ruled_144 145 rfl 3 rfl rfl ?_
        refine j_iload_n hX dX11_ruled_145 146 rfl 4 rfl rfl ?_
        obtain ⟨v9, hv9, hf⟩ := ibd hf
        refine z_i (As := [.int ((700 * x4) + (m_ruleFrom (Int32.toNatClampNeg ((13 * x4) + x6)))), .int ((700 * x4) + (m_ruleFrom (Int32.toNatClampNeg (((13 * x4) + x6) + 1)))), .int x2, .int x3]) (rest := []) (q0 := 0) hX dX11_ruled_146 149 rfl (t_X11_told ((700 * x4) + (m_ruleFrom (Int32.toNatClampNeg ((13 * x4) + x6)))) ((700 * x4) + (m_ruleFrom (Int32.toNatClampNeg (((13 * x4) + x6) + 1)))) x2 x3 hv9) mc_X11_told mv_X11_told ml_X11_299 rfl rfl (Nat.le_of_ble_eq_true rfl) (Nat.le_refl _) (Nat.le_refl _) rfl (Nat.le_of_ble_eq_true rfl) ?_
        refine j_istore hX dX11_ruled_149 151 rfl (by decide) (lv' := [(8, .int v9.1), (7, .int ((13 * x4) + x6)), (0, .ref (gm G 0)), (1, .int x1), (2, .int x2), (3, .int x3), (4, .int x4), (5, .int x5), (6, .int x6)]) rfl ?_
        refine j_iload_n hX dX11_ruled_151 152 rfl 3 rfl rfl ?_
        refine j_iconst (v := 2) hX dX11_ruled_152 153 rfl (by decide) ?_
        refine j_icmp_ne hX dX11_ruled_153 156 164 rfl rfl (fun h10 => ?_) (fun h10 => ?_)
        · replace hf := itf h10 hf
          refine j_iload hX dX11_ruled_164 166 rfl 0 rfl ?_
          refine j_if_eq hX dX11_ruled_166 169 173 rfl rfl (fun h11 => ?_) (fun h11 => ?_)
          · replace hf := itt h11 hf
            refine j_iload hX dX11_ruled_173 175 rfl 7 rfl ?_
            refine j_sub [2, 3, 4, 5, 6, 8] rfl ?_
            exact t_X11_ruled_175 hX hQ  hk65 x1 x2 x3 x4 x6 x5 hf
          · replace hf := itf h11 hf
            refine j_iconst (v := 1) hX dX11_ruled_169 170 rfl (by decide) ?_
            refine j_goto hX dX11_ruled_170 175 rfl ?_
            refine j_sub [2, 3, 4, 5, 6, 8] rfl ?_
            exact t_X11_ruled_175 hX hQ  hk65 x1 x2 x3 x4 x6 1 hf
        · replace hf := itt h10 hf
          refine j_iload hX dX11_ruled_156 158 rfl 7 rfl ?_
          refine j_iload hX dX11_ruled_158 160 rfl 0 rfl ?_
          refine j_iadd hX dX11_ruled_160 161 rfl ?_
          refine j_goto hX dX11_ruled_161 175 rfl ?_
          refine j_sub [2, 3, 4, 5, 6, 8] rfl ?_
          exact t_X11_ruled_175 hX hQ  hk65 x1 x2 x3 x4 x6 (x5 + v9.1) hf
      · replace hf := itf h6 hf
        refine j_goto hX dX11_ruled_100 177 rfl ?_
        exact t_X11_ruled_177 hX hQ  hk65 x1 x2 x3 x4 x5 x6 hf
def f_X11_ruled_65 (fu : Nat) (m_people : Int32) (m_grants : Int32) (m_isFemale : Nat → Int32) (m_born : Nat → Int32) (m_died : Nat → Int32) (m_father : Nat → Int32) (m_mother : Nat → Int32) (m_fatherGrade : Nat → Int32) (m_grantTo : Nat → Int32) (m_grantArms : Nat → Int32) (m_grantYear : Nat → Int32) (m_ruleMany : Nat → Int32) (m_ruleFrom : Nat → Int32) (m_codeRow : Nat → Int32) (m_ruleKind : Nat → Int32) : Nat → (Int32 × Int32 × Int32 × Int32 × Int32 × Int32 × (Nat → Int32) × Int32 × (Nat → Int32) × (Nat → Int32) × (Nat → Int32) × (Nat → Int32)) → Option (Int32 × (Nat → Int32) × Int32 × (Nat → Int32) × (Nat → Int32) × (Nat → Int32) × (Nat → Int32)) :=
  lp (fun k v => g_X11_ruled_65 fu m_people m_grants m_isFemale m_born m_died m_father m_mother m_fatherGrade m_grantTo m_grantArms m_grantYear m_ruleMany m_ruleFrom m_codeRow m_ruleKind v.2.2.2.2.2.2.1 v.2.2.2.2.2.2.2.1 v.2.2.2.2.2.2.2.2.1 v.2.2.2.2.2.2.2.2.2.1 v.2.2.2.2.2.2.2.2.2.2.1 v.2.2.2.2.2.2.2.2.2.2.2 (fun x1 x2 x3 x4 x5 x6 m_stack m_top m_lineLives m_markRow m_quarterMany m_quarters => k (x1, x2, x3, x4, x5, x6, m_stack, m_top, m_lineLives, m_markRow, m_quarterMany, m_quarters)) v.1 v.2.1 v.2.2.1 v.2.2.2.1 v.2.2.2.2.1 v.2.2.2.2.2.1)
set_option maxRecDepth 100000 in
set_option maxHeartbeats 4000000 in
theorem u_X11_ruled_65 {fu : Nat} {Y : YT} {r : Int32 × (Nat → Int32) × Int32 × (Nat → Int32) × (Nat → Int32) × (Nat → Int32) × (Nat → Int32)}  (hX : CX l G cX11_ruled 9 RX11 Y) (hQ : EQi G Y 0 0 .int r.1 (WM G m_code m_people m_grants m_texts m_copies m_taped m_faultPlace m_isFemale m_born m_died m_father m_mother m_fatherGrade m_motherGrade m_grantTo m_grantArms m_grantYear m_copyYear m_copyRow m_tape m_textYear m_ruleMany m_ruleFrom m_codeRow r.2.1 m_ruleKind m_codes m_at m_read m_token m_sign m_begins m_ends m_bad m_badPlace r.2.2.1 r.2.2.2.1 r.2.2.2.2.1 r.2.2.2.2.2.1 r.2.2.2.2.2.2 m_isUp m_wasUp ++ fr))  (n : Nat) (v : Int32 × Int32 × Int32 × Int32 × Int32 × Int32 × (Nat → Int32) × Int32 × (Nat → Int32) × (Nat → Int32) × (Nat → Int32) × (Nat → Int32)) (hf : f_X11_ruled_65 fu m_people m_grants m_isFemale m_born m_died m_father m_mother m_fatherGrade m_grantTo m_grantArms m_grantYear m_ruleMany m_ruleFrom m_codeRow m_ruleKind n v = some r) : J l G (rmD 9 0 0) Y 0 0 65 [(0, .ref (gm G 0)), (1, .int v.1), (2, .int v.2.1), (3, .int v.2.2.1), (4, .int v.2.2.2.1), (5, .int v.2.2.2.2.1), (6, .int v.2.2.2.2.2.1)] [] (WM G m_code m_people m_grants m_texts m_copies m_taped m_faultPlace m_isFemale m_born m_died m_father m_mother m_fatherGrade m_motherGrade m_grantTo m_grantArms m_grantYear m_copyYear m_copyRow m_tape m_textYear m_ruleMany m_ruleFrom m_codeRow v.2.2.2.2.2.2.1 m_ruleKind m_codes m_at m_read m_token m_sign m_begins m_ends m_bad m_badPlace v.2.2.2.2.2.2.2.1 v.2.2.2.2.2.2.2.2.1 v.2.2.2.2.2.2.2.2.2.1 v.2.2.2.2.2.2.2.2.2.2.1 v.2.2.2.2.2.2.2.2.2.2.2 m_isUp m_wasUp ++ fr) :=
  lp_ind (P := fun v : Int32 × Int32 × Int32 × Int32 × Int32 × Int32 × (Nat → Int32) × Int32 × (Nat → Int32) × (Nat → Int32) × (Nat → Int32) × (Nat → Int32) => J l G (rmD 9 0 0) Y 0 0 65 [(0, .ref (gm G 0)), (1, .int v.1), (2, .int v.2.1), (3, .int v.2.2.1), (4, .int v.2.2.2.1), (5, .int v.2.2.2.2.1), (6, .int v.2.2.2.2.2.1)] [] (WM G m_code m_people m_grants m_texts m_copies m_taped m_faultPlace m_isFemale m_born m_died m_father m_mother m_fatherGrade m_motherGrade m_grantTo m_grantArms m_grantYear m_copyYear m_copyRow m_tape m_textYear m_ruleMany m_ruleFrom m_codeRow v.2.2.2.2.2.2.1 m_ruleKind m_codes m_at m_read m_token m_sign m_begins m_ends m_bad m_badPlace v.2.2.2.2.2.2.2.1 v.2.2.2.2.2.2.2.2.1 v.2.2.2.2.2.2.2.2.2.1 v.2.2.2.2.2.2.2.2.2.2.1 v.2.2.2.2.2.2.2.2.2.2.2 m_isUp m_wasUp ++ fr)) (fun k hk v hf => t_X11_ruled_65 hX hQ   (fun x1 x2 x3 x4 x5 x6 m_stack m_top m_lineLives m_markRow m_quarterMany m_quarters h => hk (x1, x2, x3, x4, x5, x6, m_stack, m_top, m_lineLives, m_markRow, m_quarterMany, m_quarters) h) v.1 v.2.1 v.2.2.1 v.2.2.2.1 v.2.2.2.2.1 v.2.2.2.2.2.1 hf) n v hf
def g_X11_ruled_53 (m_stack : Nat → Int32) (m_top : Int32) (m_lineLives : Nat → Int32) (m_markRow : Nat → Int32) (m_quarterMany : Nat → Int32) (m_quarters : Nat → Int32) (k6 : Int32 → Int32 → Int32 → Int32 → Int32 → (Nat → Int32) → Int32 → (Nat → Int32) → (Nat → Int32) → (Nat → Int32) → (Nat → Int32) → Option (Int32 × (Nat → Int32) × Int32 × (Nat → Int32) × (Nat → Int32) × (Nat → Int32) × (Nat → Int32))) (x1 : Int32) (x2 : Int32) (x3 : Int32) (x4 : Int32) (x5 : Int32) : Option (Int32 × (Nat → Int32) × Int32 × (Nat → Int32) × (Nat → Int32) × (Nat → Int32) × (Nat → Int32)) :=
  k6 x1 x2 x3 x4 (x5 + 1) m_stack m_top m_lineLives m_markRow m_quarterMany m_quarters
set_option maxRecDepth 100000 in
set_option maxHeartbeats 4000000 in
theorem t_X11_ruled_53 {Y : YT} {r : Int32 × (Nat → Int32) × Int32 × (Nat → Int32) × (Nat → Int32) × (Nat → Int32) × (Nat → Int32)} {k6 : Int32 → Int32 → Int32 → Int32 → Int32 → (Nat → Int32) → Int32 → (Nat → Int32) → (Nat → Int32) → (Nat → Int32) → (Nat → Int32) → Option (Int32 × (Nat → Int32) × Int32 × (Nat → Int32) × (Nat → Int32) × (Nat → Int32) × (Nat → Int32))} (hX : CX l G cX11_ruled 9 RX11 Y) (hQ : EQi G Y 0 0 .int r.1 (WM G m_code m_people m_grants m_texts m_copies m_taped m_faultPlace m_isFemale m_born m_died m_father m_mother m_fatherGrade m_motherGrade m_grantTo m_grantArms m_grantYear m_copyYear m_copyRow m_tape m_textYear m_ruleMany m_ruleFrom m_codeRow r.2.1 m_ruleKind m_codes m_at m_read m_token m_sign m_begins m_ends m_bad m_badPlace r.2.2.1 r.2.2.2.1 r.2.2.2.2.1 r.2.2.2.2.2.1 r.2.2.2.2.2.2 m_isUp m_wasUp ++ fr)) (hk6 : ∀ (x1 : Int32) (x2 : Int32) (x3 : Int32) (x4 : Int32) (x5 : Int32) (m_stack : Nat → Int32) (m_top : Int32) (m_lineLives : Nat → Int32) (m_markRow : Nat → Int32) (m_quarterMany : Nat → Int32) (m_quarters : Nat → Int32), k6 x1 x2 x3 x4 x5 m_stack m_top m_lineLives m_markRow m_quarterMany m_quarters = some r → J l G (rmD 9 0 0) Y 0 0 6 [(0, .ref (gm G 0)), (1, .int x1), (2, .int x2), (3, .int x3), (4, .int x4), (5, .int x5)] [] (WM G m_code m_people m_grants m_texts m_copies m_taped m_faultPlace m_isFemale m_born m_died m_father m_mother m_fatherGrade m_motherGrade m_grantTo m_grantArms m_grantYear m_copyYear m_copyRow m_tape m_textYear m_ruleMany m_ruleFrom m_codeRow m_stack m_ruleKind m_codes m_at m_read m_token m_sign m_begins m_ends m_bad m_badPlace m_top m_lineLives m_markRow m_quarterMany m_quarters m_isUp m_wasUp ++ fr)) (x1 : Int32) (x2 : Int32) (x3 : Int32) (x4 : Int32) (x5 : Int32) (hf : g_X11_ruled_53 m_stack m_top m_lineLives m_markRow m_quarterMany m_quarters k6 x1 x2 x3 x4 x5 = some r) : J l G (rmD 9 0 0) Y 0 0 53 [(0, .ref (gm G 0)), (1, .int x1), (2, .int x2), (3, .int x3), (4, .int x4), (5, .int x5)] [] (WM G m_code m_people m_grants m_texts m_copies m_taped m_faultPlace m_isFemale m_born m_died m_father m_mother m_fatherGrade m_motherGrade m_grantTo m_grantArms m_grantYear m_copyYear m_copyRow m_tape m_textYear m_ruleMany m_ruleFrom m_codeRow m_stack m_ruleKind m_codes m_at m_read m_token m_sign m_begins m_ends m_bad m_badPlace m_top m_lineLives m_markRow m_quarterMany m_quarters m_isUp m_wasUp ++ fr) := by
  unfold g_X11_ruled_53 at hf
  refine j_iinc (v := x5 + 1) hX dX11_ruled_53 56 rfl 5 rfl rfl (by decide) (lv' := [(5, .int (x5 + 1)), (0, .ref (gm G 0)), (1, .int x1), (2, .int x2), (3, .int x3), (4, .int x4)]) rfl ?_
  refine j_goto hX dX11_ruled_56 6 rfl ?_
  refine j_sub [1, 2, 3, 4, 5, 0] rfl ?_
  exact hk6 x1 x2 x3 x4 (x5 + 1) m_stack m_top m_lineLives m_markRow m_quarterMany m_quarters hf
def g_X11_ruled_49 (m_stack : Nat → Int32) (m_top : Int32) (m_lineLives : Nat → Int32) (m_markRow : Nat → Int32) (m_quarterMany : Nat → Int32) (m_quarters : Nat → Int32) (k6 : Int32 → Int32 → Int32 → Int32 → Int32 → (Nat → Int32) → Int32 → (Nat → Int32) → (Nat → Int32) → (Nat → Int32) → (Nat → Int32) → Option (Int32 × (Nat → Int32) × Int32 × (Nat → Int32) × (Nat → Int32) × (Nat → Int32) × (Nat → Int32))) (x1 : Int32) (x2 : Int32) (x3 : Int32) (x5 : Int32) : Option (Int32 × (Nat → Int32) × Int32 × (Nat → Int32) × (Nat → Int32) × (Nat → Int32) × (Nat → Int32)) :=
  g_X11_ruled_53 m_stack m_top m_lineLives m_markRow m_quarterMany m_quarters k6 x1 x2 x3 x5 x5
set_option maxRecDepth 100000 in
set_option maxHeartbeats 4000000 in
theorem t_X11_ruled_49 {Y : YT} {r : Int32 × (Nat → Int32) × Int32 × (Nat → Int32) × (Nat → Int32) × (Nat → Int32) × (Nat → Int32)} {k6 : Int32 → Int32 → Int32 → Int32 → Int32 → (Nat → Int32) → Int32 → (Nat → Int32) → (Nat → Int32) → (Nat → Int32) → (Nat → Int32) → Option (Int32 × (Nat → Int32) × Int32 × (Nat → Int32) × (Nat → Int32) × (Nat → Int32) × (Nat → Int32))} (hX : CX l G cX11_ruled 9 RX11 Y) (hQ : EQi G Y 0 0 .int r.1 (WM G m_code m_people m_grants m_texts m_copies m_taped m_faultPlace m_isFemale m_born m_died m_father m_mother m_fatherGrade m_motherGrade m_grantTo m_grantArms m_grantYear m_copyYear m_copyRow m_tape m_textYear m_ruleMany m_ruleFrom m_codeRow r.2.1 m_ruleKind m_codes m_at m_read m_token m_sign m_begins m_ends m_bad m_badPlace r.2.2.1 r.2.2.2.1 r.2.2.2.2.1 r.2.2.2.2.2.1 r.2.2.2.2.2.2 m_isUp m_wasUp ++ fr)) (hk6 : ∀ (x1 : Int32) (x2 : Int32) (x3 : Int32) (x4 : Int32) (x5 : Int32) (m_stack : Nat → Int32) (m_top : Int32) (m_lineLives : Nat → Int32) (m_markRow : Nat → Int32) (m_quarterMany : Nat → Int32) (m_quarters : Nat → Int32), k6 x1 x2 x3 x4 x5 m_stack m_top m_lineLives m_markRow m_quarterMany m_quarters = some r → J l G (rmD 9 0 0) Y 0 0 6 [(0, .ref (gm G 0)), (1, .int x1), (2, .int x2), (3, .int x3), (4, .int x4), (5, .int x5)] [] (WM G m_code m_people m_grants m_texts m_copies m_taped m_faultPlace m_isFemale m_born m_died m_father m_mother m_fatherGrade m_motherGrade m_grantTo m_grantArms m_grantYear m_copyYear m_copyRow m_tape m_textYear m_ruleMany m_ruleFrom m_codeRow m_stack m_ruleKind m_codes m_at m_read m_token m_sign m_begins m_ends m_bad m_badPlace m_top m_lineLives m_markRow m_quarterMany m_quarters m_isUp m_wasUp ++ fr)) (x1 : Int32) (x2 : Int32) (x3 : Int32) (x5 : Int32) (hf : g_X11_ruled_49 m_stack m_top m_lineLives m_markRow m_quarterMany m_quarters k6 x1 x2 x3 x5 = some r) : J l G (rmD 9 0 0) Y 0 0 49 [(0, .ref (gm G 0)), (1, .int x1), (2, .int x2), (3, .int x3), (5, .int x5)] [] (WM G m_code m_people m_grants m_texts m_copies m_taped m_faultPlace m_isFemale m_born m_died m_father m_mother m_fatherGrade m_motherGrade m_grantTo m_grantArms m_grantYear m_copyYear m_copyRow m_tape m_textYear m_ruleMany m_ruleFrom m_codeRow m_stack m_ruleKind m_codes m_at m_read m_token m_sign m_begins m_ends m_bad m_badPlace m_top m_lineLives m_markRow m_quarterMany m_quarters m_isUp m_wasUp ++ fr) := by
  unfold g_X11_ruled_49 at hf
  refine j_iload hX dX11_ruled_49 51 rfl 4 rfl ?_
  refine j_istore hX dX11_ruled_51 53 rfl (by decide) (lv' := [(4, .int x5), (0, .ref (gm G 0)), (1, .int x1), (2, .int x2), (3, .int x3), (5, .int x5)]) rfl ?_
  refine j_sub [1, 2, 3, 4, 0, 5] rfl ?_
  exact t_X11_ruled_53 hX hQ  hk6 x1 x2 x3 x5 x5 hf
def g_X11_ruled_6 (fu : Nat) (m_people : Int32) (m_grants : Int32) (m_texts : Int32) (m_isFemale : Nat → Int32) (m_born : Nat → Int32) (m_died : Nat → Int32) (m_father : Nat → Int32) (m_mother : Nat → Int32) (m_fatherGrade : Nat → Int32) (m_grantTo : Nat → Int32) (m_grantArms : Nat → Int32) (m_grantYear : Nat → Int32) (m_textYear : Nat → Int32) (m_ruleMany : Nat → Int32) (m_ruleFrom : Nat → Int32) (m_codeRow : Nat → Int32) (m_ruleKind : Nat → Int32) (m_stack : Nat → Int32) (m_top : Int32) (m_lineLives : Nat → Int32) (m_markRow : Nat → Int32) (m_quarterMany : Nat → Int32) (m_quarters : Nat → Int32) (k6 : Int32 → Int32 → Int32 → Int32 → Int32 → (Nat → Int32) → Int32 → (Nat → Int32) → (Nat → Int32) → (Nat → Int32) → (Nat → Int32) → Option (Int32 × (Nat → Int32) × Int32 × (Nat → Int32) × (Nat → Int32) × (Nat → Int32) × (Nat → Int32))) (x1 : Int32) (x2 : Int32) (x3 : Int32) (x4 : Int32) (x5 : Int32) : Option (Int32 × (Nat → Int32) × Int32 × (Nat → Int32) × (Nat → Int32) × (Nat → Int32) × (Nat → Int32)) :=
  if m_texts ≤ x5 then f_X11_ruled_65 fu m_people m_grants m_isFemale m_born m_died m_father m_mother m_fatherGrade m_grantTo m_grantArms m_grantYear m_ruleMany m_ruleFrom m_codeRow m_ruleKind fu (x1, x2, x3, x4, 0, 0, m_stack, m_top, m_lineLives, m_markRow, m_quarterMany, m_quarters) else if inb x5 6 = true then if x3 < (m_textYear (Int32.toNatClampNeg x5)) then g_X11_ruled_53 m_stack m_top m_lineLives m_markRow m_quarterMany m_quarters k6 x1 x2 x3 x4 x5 else if x4 = ((-1)) then g_X11_ruled_49 m_stack m_top m_lineLives m_markRow m_quarterMany m_quarters k6 x1 x2 x3 x5 else if inb x5 6 = true then if inb x4 6 = true then if (m_textYear (Int32.toNatClampNeg x5)) < (m_textYear (Int32.toNatClampNeg x4)) then g_X11_ruled_53 m_stack m_top m_lineLives m_markRow m_quarterMany m_quarters k6 x1 x2 x3 x4 x5 else g_X11_ruled_49 m_stack m_top m_lineLives m_markRow m_quarterMany m_quarters k6 x1 x2 x3 x5 else none else none else none
set_option maxRecDepth 100000 in
set_option maxHeartbeats 4000000 in
theorem t_X11_ruled_6 {fu : Nat} {Y : YT} {r : Int32 × (Nat → Int32) × Int32 × (Nat → Int32) × (Nat → Int32) × (Nat → Int32) × (Nat → Int32)} {k6 : Int32 → Int32 → Int32 → Int32 → Int32 → (Nat → Int32) → Int32 → (Nat → Int32) → (Nat → Int32) → (Nat → Int32) → (Nat → Int32) → Option (Int32 × (Nat → Int32) × Int32 × (Nat → Int32) × (Nat → Int32) × (Nat → Int32) × (Nat → Int32))} (hX : CX l G cX11_ruled 9 RX11 Y) (hQ : EQi G Y 0 0 .int r.1 (WM G m_code m_people m_grants m_texts m_copies m_taped m_faultPlace m_isFemale m_born m_died m_father m_mother m_fatherGrade m_motherGrade m_grantTo m_grantArms m_grantYear m_copyYear m_copyRow m_tape m_textYear m_ruleMany m_ruleFrom m_codeRow r.2.1 m_ruleKind m_codes m_at m_read m_token m_sign m_begins m_ends m_bad m_badPlace r.2.2.1 r.2.2.2.1 r.2.2.2.2.1 r.2.2.2.2.2.1 r.2.2.2.2.2.2 m_isUp m_wasUp ++ fr)) (hk6 : ∀ (x1 : Int32) (x2 : Int32) (x3 : Int32) (x4 : Int32) (x5 : Int32) (m_stack : Nat → Int32) (m_top : Int32) (m_lineLives : Nat → Int32) (m_markRow : Nat → Int32) (m_quarterMany : Nat → Int32) (m_quarters : Nat → Int32), k6 x1 x2 x3 x4 x5 m_stack m_top m_lineLives m_markRow m_quarterMany m_quarters = some r → J l G (rmD 9 0 0) Y 0 0 6 [(0, .ref (gm G 0)), (1, .int x1), (2, .int x2), (3, .int x3), (4, .int x4), (5, .int x5)] [] (WM G m_code m_people m_grants m_texts m_copies m_taped m_faultPlace m_isFemale m_born m_died m_father m_mother m_fatherGrade m_motherGrade m_grantTo m_grantArms m_grantYear m_copyYear m_copyRow m_tape m_textYear m_ruleMany m_ruleFrom m_codeRow m_stack m_ruleKind m_codes m_at m_read m_token m_sign m_begins m_ends m_bad m_badPlace m_top m_lineLives m_markRow m_quarterMany m_quarters m_isUp m_wasUp ++ fr)) (x1 : Int32) (x2 : Int32) (x3 : Int32) (x4 : Int32) (x5 : Int32) (hf : g_X11_ruled_6 fu m_people m_grants m_texts m_isFemale m_born m_died m_father m_mother m_fatherGrade m_grantTo m_grantArms m_grantYear m_textYear m_ruleMany m_ruleFrom m_codeRow m_ruleKind m_stack m_top m_lineLives m_markRow m_quarterMany m_quarters k6 x1 x2 x3 x4 x5 = some r) : J l G (rmD 9 0 0) Y 0 0 6 [(0, .ref (gm G 0)), (1, .int x1), (2, .int x2), (3, .int x3), (4, .int x4), (5, .int x5)] [] (WM G m_code m_people m_grants m_texts m_copies m_taped m_faultPlace m_isFemale m_born m_died m_father m_mother m_fatherGrade m_motherGrade m_grantTo m_grantArms m_grantYear m_copyYear m_copyRow m_tape m_textYear m_ruleMany m_ruleFrom m_codeRow m_stack m_ruleKind m_codes m_at m_read m_token m_sign m_begins m_ends m_bad m_badPlace m_top m_lineLives m_markRow m_quarterMany m_quarters m_isUp m_wasUp ++ fr) := by
  unfold g_X11_ruled_6 at hf
  refine j_iload hX dX11_ruled_6 8 rfl 5 rfl ?_
  refine j_aload_n hX dX11_ruled_8 9 rfl 0 rfl rfl ?_
  refine j_get hX dX11_ruled_9 12 rfl fg_X11_240 0 rfl rfl ?_
  refine j_icmp_ge hX dX11_ruled_12 15 59 rfl rfl (fun h1 => ?_) (fun h1 => ?_)
  · replace hf := itt h1 hf
    refine j_iconst (v := 0) hX dX11_ruled_59 60 rfl (by decide) ?_
    refine j_istore hX dX11_ruled_60 62 rfl (by decide) (lv' := [(5, .int 0), (0, .ref (gm G 0)), (1, .int x1), (2, .int x2), (3, .int x3), (4, .int x4)]) rfl ?_
    refine j_iconst (v := 0) hX dX11_ruled_62 63 rfl (by decide) ?_
    refine j_istore hX dX11_ruled_63 65 rfl (by decide) (lv' := [(6, .int 0), (5, .int 0), (0, .ref (gm G 0)), (1, .int x1), (2, .int x2), (3, .int x3), (4, .int x4)]) rfl ?_
    refine j_sub [2, 3, 4, 5, 6, 1, 0] rfl ?_
    exact u_X11_ruled_65 hX hQ   fu (x1, x2, x3, x4, 0, 0, m_stack, m_top, m_lineLives, m_markRow, m_quarterMany, m_quarters) hf
  · replace hf := itf h1 hf
    refine j_aload_n hX dX11_ruled_15 16 rfl 0 rfl rfl ?_
    refine j_get hX dX11_ruled_16 19 rfl fg_X11_75 0 rfl rfl ?_
    refine j_iload hX dX11_ruled_19 21 rfl 5 rfl ?_
    obtain ⟨hb12, hf⟩ := ign hf
    refine j_iald hX dX11_ruled_21 22 rfl 15 rfl hb12 ?_
    refine j_iload_n hX dX11_ruled_22 23 rfl 3 rfl rfl ?_
    refine j_icmp_gt hX dX11_ruled_23 26 53 rfl rfl (fun h13 => ?_) (fun h13 => ?_)
    · replace hf := itt h13 hf
      exact t_X11_ruled_53 hX hQ  hk6 x1 x2 x3 x4 x5 hf
    · replace hf := itf h13 hf
      refine j_iload hX dX11_ruled_26 28 rfl 4 rfl ?_
      refine j_iconst (v := (-1)) hX dX11_ruled_28 29 rfl (by decide) ?_
      refine j_icmp_eq hX dX11_ruled_29 32 49 rfl rfl (fun h14 => ?_) (fun h14 => ?_)
      · replace hf := itt h14 hf
        refine j_sub [0, 1, 2, 3, 5] rfl ?_
        exact t_X11_ruled_49 hX hQ  hk6 x1 x2 x3 x5 hf
      · replace hf := itf h14 hf
        refine j_aload_n hX dX11_ruled_32 33 rfl 0 rfl rfl ?_
        refine j_get hX dX11_ruled_33 36 rfl fg_X11_75 0 rfl rfl ?_
        refine j_iload hX dX11_ruled_36 38 rfl 5 rfl ?_
        obtain ⟨hb15, hf⟩ := ign hf
        refine j_iald hX dX11_ruled_38 39 rfl 15 rfl hb15 ?_
        refine j_aload_n hX dX11_ruled_39 40 rfl 0 rfl rfl ?_
        refine j_get hX dX11_ruled_40 43 rfl fg_X11_75 0 rfl rfl ?_
        refine j_iload hX dX11_ruled_43 45 rfl 4 rfl ?_
        obtain ⟨hb16, hf⟩ := ign hf
        refine j_iald hX dX11_ruled_45 46 rfl 15 rfl hb16 ?_
        refine j_icmp_lt hX dX11_ruled_46 49 53 rfl rfl (fun h17 => ?_) (fun h17 => ?_)
        · replace hf := itt h17 hf
          exact t_X11_ruled_53 hX hQ  hk6 x1 x2 x3 x4 x5 hf
        · replace hf := itf h17 hf
          refine j_sub [0, 1, 2, 3, 5] rfl ?_
          exact t_X11_ruled_49 hX hQ  hk6 x1 x2 x3 x5 hf
def f_X11_ruled_6 (fu : Nat) (m_people : Int32) (m_grants : Int32) (m_texts : Int32) (m_isFemale : Nat → Int32) (m_born : Nat → Int32) (m_died : Nat → Int32) (m_father : Nat → Int32) (m_mother : Nat → Int32) (m_fatherGrade : Nat → Int32) (m_grantTo : Nat → Int32) (m_grantArms : Nat → Int32) (m_grantYear : Nat → Int32) (m_textYear : Nat → Int32) (m_ruleMany : Nat → Int32) (m_ruleFrom : Nat → Int32) (m_codeRow : Nat → Int32) (m_ruleKind : Nat → Int32) : Nat → (Int32 × Int32 × Int32 × Int32 × Int32 × (Nat → Int32) × Int32 × (Nat → Int32) × (Nat → Int32) × (Nat → Int32) × (Nat → Int32)) → Option (Int32 × (Nat → Int32) × Int32 × (Nat → Int32) × (Nat → Int32) × (Nat → Int32) × (Nat → Int32)) :=
  lp (fun k v => g_X11_ruled_6 fu m_people m_grants m_texts m_isFemale m_born m_died m_father m_mother m_fatherGrade m_grantTo m_grantArms m_grantYear m_textYear m_ruleMany m_ruleFrom m_codeRow m_ruleKind v.2.2.2.2.2.1 v.2.2.2.2.2.2.1 v.2.2.2.2.2.2.2.1 v.2.2.2.2.2.2.2.2.1 v.2.2.2.2.2.2.2.2.2.1 v.2.2.2.2.2.2.2.2.2.2 (fun x1 x2 x3 x4 x5 m_stack m_top m_lineLives m_markRow m_quarterMany m_quarters => k (x1, x2, x3, x4, x5, m_stack, m_top, m_lineLives, m_markRow, m_quarterMany, m_quarters)) v.1 v.2.1 v.2.2.1 v.2.2.2.1 v.2.2.2.2.1)
set_option maxRecDepth 100000 in
set_option maxHeartbeats 4000000 in
theorem u_X11_ruled_6 {fu : Nat} {Y : YT} {r : Int32 × (Nat → Int32) × Int32 × (Nat → Int32) × (Nat → Int32) × (Nat → Int32) × (Nat → Int32)}  (hX : CX l G cX11_ruled 9 RX11 Y) (hQ : EQi G Y 0 0 .int r.1 (WM G m_code m_people m_grants m_texts m_copies m_taped m_faultPlace m_isFemale m_born m_died m_father m_mother m_fatherGrade m_motherGrade m_grantTo m_grantArms m_grantYear m_copyYear m_copyRow m_tape m_textYear m_ruleMany m_ruleFrom m_codeRow r.2.1 m_ruleKind m_codes m_at m_read m_token m_sign m_begins m_ends m_bad m_badPlace r.2.2.1 r.2.2.2.1 r.2.2.2.2.1 r.2.2.2.2.2.1 r.2.2.2.2.2.2 m_isUp m_wasUp ++ fr))  (n : Nat) (v : Int32 × Int32 × Int32 × Int32 × Int32 × (Nat → Int32) × Int32 × (Nat → Int32) × (Nat → Int32) × (Nat → Int32) × (Nat → Int32)) (hf : f_X11_ruled_6 fu m_people m_grants m_texts m_isFemale m_born m_died m_father m_mother m_fatherGrade m_grantTo m_grantArms m_grantYear m_textYear m_ruleMany m_ruleFrom m_codeRow m_ruleKind n v = some r) : J l G (rmD 9 0 0) Y 0 0 6 [(0, .ref (gm G 0)), (1, .int v.1), (2, .int v.2.1), (3, .int v.2.2.1), (4, .int v.2.2.2.1), (5, .int v.2.2.2.2.1)] [] (WM G m_code m_people m_grants m_texts m_copies m_taped m_faultPlace m_isFemale m_born m_died m_father m_mother m_fatherGrade m_motherGrade m_grantTo m_grantArms m_grantYear m_copyYear m_copyRow m_tape m_textYear m_ruleMany m_ruleFrom m_codeRow v.2.2.2.2.2.1 m_ruleKind m_codes m_at m_read m_token m_sign m_begins m_ends m_bad m_badPlace v.2.2.2.2.2.2.1 v.2.2.2.2.2.2.2.1 v.2.2.2.2.2.2.2.2.1 v.2.2.2.2.2.2.2.2.2.1 v.2.2.2.2.2.2.2.2.2.2 m_isUp m_wasUp ++ fr) :=
  lp_ind (P := fun v : Int32 × Int32 × Int32 × Int32 × Int32 × (Nat → Int32) × Int32 × (Nat → Int32) × (Nat → Int32) × (Nat → Int32) × (Nat → Int32) => J l G (rmD 9 0 0) Y 0 0 6 [(0, .ref (gm G 0)), (1, .int v.1), (2, .int v.2.1), (3, .int v.2.2.1), (4, .int v.2.2.2.1), (5, .int v.2.2.2.2.1)] [] (WM G m_code m_people m_grants m_texts m_copies m_taped m_faultPlace m_isFemale m_born m_died m_father m_mother m_fatherGrade m_motherGrade m_grantTo m_grantArms m_grantYear m_copyYear m_copyRow m_tape m_textYear m_ruleMany m_ruleFrom m_codeRow v.2.2.2.2.2.1 m_ruleKind m_codes m_at m_read m_token m_sign m_begins m_ends m_bad m_badPlace v.2.2.2.2.2.2.1 v.2.2.2.2.2.2.2.1 v.2.2.2.2.2.2.2.2.1 v.2.2.2.2.2.2.2.2.2.1 v.2.2.2.2.2.2.2.2.2.2 m_isUp m_wasUp ++ fr)) (fun k hk v hf => t_X11_ruled_6 hX hQ   (fun x1 x2 x3 x4 x5 m_stack m_top m_lineLives m_markRow m_quarterMany m_quarters h => hk (x1, x2, x3, x4, x5, m_stack, m_top, m_lineLives, m_markRow, m_quarterMany, m_quarters) h) v.1 v.2.1 v.2.2.1 v.2.2.2.1 v.2.2.2.2.1 hf) n v hf
def f_X11_ruled (fu : Nat) (m_people : Int32) (m_grants : Int32) (m_texts : Int32) (m_isFemale : Nat → Int32) (m_born : Nat → Int32) (m_died : Nat → Int32) (m_father : Nat → Int32) (m_mother : Nat → Int32) (m_fatherGrade : Nat → Int32) (m_grantTo : Nat → Int32) (m_grantArms : Nat → Int32) (m_grantYear : Nat → Int32) (m_textYear : Nat → Int32) (m_ruleMany : Nat → Int32) (m_ruleFrom : Nat → Int32) (m_codeRow : Nat → Int32) (m_ruleKind : Nat → Int32) (m_stack : Nat → Int32) (m_top : Int32) (m_lineLives : Nat → Int32) (m_markRow : Nat → Int32) (m_quarterMany : Nat → Int32) (m_quarters : Nat → Int32) (x1 : Int32) (x2 : Int32) (x3 : Int32) : Option (Int32 × (Nat → Int32) × Int32 × (Nat → Int32) × (Nat → Int32) × (Nat → Int32) × (Nat → Int32)) :=
  f_X11_ruled_6 fu m_people m_grants m_texts m_isFemale m_born m_died m_father m_mother m_fatherGrade m_grantTo m_grantArms m_grantYear m_textYear m_ruleMany m_ruleFrom m_codeRow m_ruleKind fu (x1, x2, x3, (-1), 0, m_stack, m_top, m_lineLives, m_markRow, m_quarterMany, m_quarters)
set_option maxRecDepth 100000 in
set_option maxHeartbeats 4000000 in
theorem t_X11_ruled {fu : Nat}  (x1 : Int32) (x2 : Int32) (x3 : Int32) {r : Int32 × (Nat → Int32) × Int32 × (Nat → Int32) × (Nat → Int32) × (Nat → Int32) × (Nat → Int32)} (hf : f_X11_ruled fu m_people m_grants m_texts m_isFemale m_born m_died m_father m_mother m_fatherGrade m_grantTo m_grantArms m_grantYear m_textYear m_ruleMany m_ruleFrom m_codeRow m_ruleKind m_stack m_top m_lineLives m_markRow m_quarterMany m_quarters x1 x2 x3 = some r) : Ci l G 9 0 0 yX11_ruled cX11_ruled 9 .int [.ref (gm G 0), .int x1, .int x2, .int x3] (WM G m_code m_people m_grants m_texts m_copies m_taped m_faultPlace m_isFemale m_born m_died m_father m_mother m_fatherGrade m_motherGrade m_grantTo m_grantArms m_grantYear m_copyYear m_copyRow m_tape m_textYear m_ruleMany m_ruleFrom m_codeRow m_stack m_ruleKind m_codes m_at m_read m_token m_sign m_begins m_ends m_bad m_badPlace m_top m_lineLives m_markRow m_quarterMany m_quarters m_isUp m_wasUp ++ fr) r.1 (WM G m_code m_people m_grants m_texts m_copies m_taped m_faultPlace m_isFemale m_born m_died m_father m_mother m_fatherGrade m_motherGrade m_grantTo m_grantArms m_grantYear m_copyYear m_copyRow m_tape m_textYear m_ruleMany m_ruleFrom m_codeRow r.2.1 m_ruleKind m_codes m_at m_read m_token m_sign m_begins m_ends m_bad m_badPlace r.2.2.1 r.2.2.2.1 r.2.2.2.2.1 r.2.2.2.2.2.1 r.2.2.2.2.2.2 m_isUp m_wasUp ++ fr) := by
  refine Ci.of (by decide) (Nat.le_of_ble_eq_true rfl) (fun Y hX hQ => ?_)
  refine j_lv (lv' := [(0, .ref (gm G 0)), (1, .int x1), (2, .int x2), (3, .int x3)]) rfl ?_
  unfold f_X11_ruled at hf
  refine j_iconst (v := (-1)) hX dX11_ruled_0 1 rfl (by decide) ?_
  refine j_istore hX dX11_ruled_1 3 rfl (by decide) (lv' := [(4, .int ((-1))), (0, .ref (gm G 0)), (1, .int x1), (2, .int x2), (3, .int x3)]) rfl ?_
  refine j_iconst (v := 0) hX dX11_ruled_3 4 rfl (by decide) ?_
  refine j_istore hX dX11_ruled_4 6 rfl (by decide) (lv' := [(5, .int 0), (4, .int ((-1))), (0, .ref (gm G 0)), (1, .int x1), (2, .int x2), (3, .int x3)]) rfl ?_
  refine j_sub [2, 3, 4, 5, 1, 0] rfl ?_
  exact u_X11_ruled_6 hX hQ   fu (x1, x2, x3, (-1), 0, m_stack, m_top, m_lineLives, m_markRow, m_quarterMany, m_quarters) hf
def g_X11_claim_38 (m_code : Int32) (m_stack : Nat → Int32) (m_top : Int32) (m_lineLives : Nat → Int32) (m_markRow : Nat → Int32) (m_quarterMany : Nat → Int32) (m_quarters : Nat → Int32) : Option (Int32 × Int32 × (Nat → Int32) × Int32 × (Nat → Int32) × (Nat → Int32) × (Nat → Int32) × (Nat → Int32)) :=
  some (1, m_code, m_stack, m_top, m_lineLives, m_markRow, m_quarterMany, m_quarters)
set_option maxRecDepth 100000 in
set_option maxHeartbeats 4000000 in
theorem t_X11_claim_38 {Y : YT} {r : Int32 × Int32 × (Nat → Int32) × Int32 × (Nat → Int32) × (Nat → Int32) × (Nat → Int32) × (Nat → Int32)}  (hX : CX l G cX11_claim 5 RX11 Y) (hQ : EQi G Y 0 0 .int r.1 (WM G r.2.1 m_people m_grants m_texts m_copies m_taped m_faultPlace m_isFemale m_born m_died m_father m_mother m_fatherGrade m_motherGrade m_grantTo m_grantArms m_grantYear m_copyYear m_copyRow m_tape m_textYear m_ruleMany m_ruleFrom m_codeRow r.2.2.1 m_ruleKind m_codes m_at m_read m_token m_sign m_begins m_ends m_bad m_badPlace r.2.2.2.1 r.2.2.2.2.1 r.2.2.2.2.2.1 r.2.2.2.2.2.2.1 r.2.2.2.2.2.2.2 m_isUp m_wasUp ++ fr))   (hf : g_X11_claim_38 m_code m_stack m_top m_lineLives m_markRow m_quarterMany m_quarters = some r) : J l G (rmD 10 0 0) Y 0 0 38 [] [] (WM G m_code m_people m_grants m_texts m_copies m_taped m_faultPlace m_isFemale m_born m_died m_father m_mother m_fatherGrade m_motherGrade m_grantTo m_grantArms m_grantYear m_copyYear m_copyRow m_tape m_textYear m_ruleMany m_ruleFrom m_codeRow m_stack m_ruleKind m_codes m_at m_read m_token m_sign m_begins m_ends m_bad m_badPlace m_top m_lineLives m_markRow m_quarterMany m_quarters m_isUp m_wasUp ++ fr) := by
  unfold g_X11_claim_38 at hf
  refine j_iconst (v := 1) hX dX11_claim_38 39 rfl (by decide) ?_
  replace hf := Option.some.inj hf
  subst hf
  exact j_iret hX hQ dX11_claim_39
def g_X11_claim_87 (m_code : Int32) (m_stack : Nat → Int32) (m_top : Int32) (m_lineLives : Nat → Int32) (m_markRow : Nat → Int32) (m_quarterMany : Nat → Int32) (m_quarters : Nat → Int32) (s0 : Int32) : Option (Int32 × Int32 × (Nat → Int32) × Int32 × (Nat → Int32) × (Nat → Int32) × (Nat → Int32) × (Nat → Int32)) :=
  some (s0, m_code, m_stack, m_top, m_lineLives, m_markRow, m_quarterMany, m_quarters)
set_option maxRecDepth 100000 in
set_option maxHeartbeats 4000000 in
theorem t_X11_claim_87 {Y : YT} {r : Int32 × Int32 × (Nat → Int32) × Int32 × (Nat → Int32) × (Nat → Int32) × (Nat → Int32) × (Nat → Int32)}  (hX : CX l G cX11_claim 5 RX11 Y) (hQ : EQi G Y 0 0 .int r.1 (WM G r.2.1 m_people m_grants m_texts m_copies m_taped m_faultPlace m_isFemale m_born m_died m_father m_mother m_fatherGrade m_motherGrade m_grantTo m_grantArms m_grantYear m_copyYear m_copyRow m_tape m_textYear m_ruleMany m_ruleFrom m_codeRow r.2.2.1 m_ruleKind m_codes m_at m_read m_token m_sign m_begins m_ends m_bad m_badPlace r.2.2.2.1 r.2.2.2.2.1 r.2.2.2.2.2.1 r.2.2.2.2.2.2.1 r.2.2.2.2.2.2.2 m_isUp m_wasUp ++ fr))  (s0 : Int32) (hf : g_X11_claim_87 m_code m_stack m_top m_lineLives m_markRow m_quarterMany m_quarters s0 = some r) : J l G (rmD 10 0 0) Y 0 0 87 [] [.int s0] (WM G m_code m_people m_grants m_texts m_copies m_taped m_faultPlace m_isFemale m_born m_died m_father m_mother m_fatherGrade m_motherGrade m_grantTo m_grantArms m_grantYear m_copyYear m_copyRow m_tape m_textYear m_ruleMany m_ruleFrom m_codeRow m_stack m_ruleKind m_codes m_at m_read m_token m_sign m_begins m_ends m_bad m_badPlace m_top m_lineLives m_markRow m_quarterMany m_quarters m_isUp m_wasUp ++ fr) := by
  unfold g_X11_claim_87 at hf
  replace hf := Option.some.inj hf
  subst hf
  exact j_iret hX hQ dX11_claim_87
def g_X11_claim_86 (m_code : Int32) (m_stack : Nat → Int32) (m_top : Int32) (m_lineLives : Nat → Int32) (m_markRow : Nat → Int32) (m_quarterMany : Nat → Int32) (m_quarters : Nat → Int32) : Option (Int32 × Int32 × (Nat → Int32) × Int32 × (Nat → Int32) × (Nat → Int32) × (Nat → Int32) × (Nat → Int32)) :=
  g_X11_claim_87 m_code m_stack m_top m_lineLives m_markRow m_quarterMany m_quarters 0
set_option maxRecDepth 100000 in
set_option maxHeartbeats 4000000 in
theorem t_X11_claim_86 {Y : YT} {r : Int32 × Int32 × (Nat → Int32) × Int32 × (Nat → Int32) × (Nat → Int32) × (Nat → Int32) × (Nat → Int32)}  (hX : CX l G cX11_claim 5 RX11 Y) (hQ : EQi G Y 0 0 .int r.1 (WM G r.2.1 m_people m_grants m_texts m_copies m_taped m_faultPlace m_isFemale m_born m_died m_father m_mother m_fatherGrade m_motherGrade m_grantTo m_grantArms m_grantYear m_copyYear m_copyRow m_tape m_textYear m_ruleMany m_ruleFrom m_codeRow r.2.2.1 m_ruleKind m_codes m_at m_read m_token m_sign m_begins m_ends m_bad m_badPlace r.2.2.2.1 r.2.2.2.2.1 r.2.2.2.2.2.1 r.2.2.2.2.2.2.1 r.2.2.2.2.2.2.2 m_isUp m_wasUp ++ fr))   (hf : g_X11_claim_86 m_code m_stack m_top m_lineLives m_markRow m_quarterMany m_quarters = some r) : J l G (rmD 10 0 0) Y 0 0 86 [] [] (WM G m_code m_people m_grants m_texts m_copies m_taped m_faultPlace m_isFemale m_born m_died m_father m_mother m_fatherGrade m_motherGrade m_grantTo m_grantArms m_grantYear m_copyYear m_copyRow m_tape m_textYear m_ruleMany m_ruleFrom m_codeRow m_stack m_ruleKind m_codes m_at m_read m_token m_sign m_begins m_ends m_bad m_badPlace m_top m_lineLives m_markRow m_quarterMany m_quarters m_isUp m_wasUp ++ fr) := by
  unfold g_X11_claim_86 at hf
  refine j_iconst (v := 0) hX dX11_claim_86 87 rfl (by decide) ?_
  exact t_X11_claim_87 hX hQ   0 hf
def f_X11_claim (fu : Nat) (m_people : Int32) (m_grants : Int32) (m_texts : Int32) (m_isFemale : Nat → Int32) (m_born : Nat → Int32) (m_died : Nat → Int32) (m_father : Nat → Int32) (m_mother : Nat → Int32) (m_fatherGrade : Nat → Int32) (m_grantTo : Nat → Int32) (m_grantArms : Nat → Int32) (m_grantYear : Nat → Int32) (m_textYear : Nat → Int32) (m_ruleMany : Nat → Int32) (m_ruleFrom : Nat → Int32) (m_codeRow : Nat → Int32) (m_ruleKind : Nat → Int32) (m_stack : Nat → Int32) (m_top : Int32) (m_lineLives : Nat → Int32) (m_markRow : Nat → Int32) (m_quarterMany : Nat → Int32) (m_quarters : Nat → Int32) (x1 : Int32) (x2 : Int32) (x3 : Int32) : Option (Int32 × Int32 × (Nat → Int32) × Int32 × (Nat → Int32) × (Nat → Int32) × (Nat → Int32) × (Nat → Int32)) :=
  (f_X11_is m_people x1).bind fun v1 => if v1 = 0 then (f_X11_fail ).bind fun v14 => some (v14.1, v14.2, m_stack, m_top, m_lineLives, m_markRow, m_quarterMany, m_quarters) else (f_X11_armsOf fu m_grants m_father m_grantTo m_grantArms m_grantYear x1 x3).bind fun v3 => if v3 = ((-1)) then g_X11_claim_38 0 m_stack m_top m_lineLives m_markRow m_quarterMany m_quarters else if v3 = x2 then (f_X11_lives m_born m_died x1 x3).bind fun v6 => if v6 = 0 then some (2, 0, m_stack, m_top, m_lineLives, m_markRow, m_quarterMany, m_quarters) else (f_X11_ruled fu m_people m_grants m_texts m_isFemale m_born m_died m_father m_mother m_fatherGrade m_grantTo m_grantArms m_grantYear m_textYear m_ruleMany m_ruleFrom m_codeRow m_ruleKind m_stack m_top m_lineLives m_markRow m_quarterMany m_quarters 0 x1 x3).bind fun v8 => if v8.1 = 0 then (f_X11_marksAbove fu m_people m_grants m_isFemale m_born m_died m_father m_grantTo m_grantArms m_grantYear v8.2.2.2.1 v8.2.2.2.2.1 x1 x3).bind fun v10 => if v10.1 ≤ 0 then g_X11_claim_86 0 v8.2.1 v8.2.2.1 v10.2.1 v10.2.2 v8.2.2.2.2.2.1 v8.2.2.2.2.2.2 else (f_X11_ruled fu m_people m_grants m_texts m_isFemale m_born m_died m_father m_mother m_fatherGrade m_grantTo m_grantArms m_grantYear m_textYear m_ruleMany m_ruleFrom m_codeRow m_ruleKind v8.2.1 v8.2.2.1 v10.2.1 v10.2.2 v8.2.2.2.2.2.1 v8.2.2.2.2.2.2 1 x1 x3).bind fun v12 => if v12.1 = 0 then g_X11_claim_86 0 v12.2.1 v12.2.2.1 v12.2.2.2.1 v12.2.2.2.2.1 v12.2.2.2.2.2.1 v12.2.2.2.2.2.2 else g_X11_claim_87 0 v12.2.1 v12.2.2.1 v12.2.2.2.1 v12.2.2.2.2.1 v12.2.2.2.2.2.1 v12.2.2.2.2.2.2 4 else some (3, 0, v8.2.1, v8.2.2.1, v8.2.2.2.1, v8.2.2.2.2.1, v8.2.2.2.2.2.1, v8.2.2.2.2.2.2) else g_X11_claim_38 0 m_stack m_top m_lineLives m_markRow m_quarterMany m_quarters
set_option maxRecDepth 100000 in
set_option maxHeartbeats 4000000 in
theorem t_X11_claim {fu : Nat}  (x1 : Int32) (x2 : Int32) (x3 : Int32) {r : Int32 × Int32 × (Nat → Int32) × Int32 × (Nat → Int32) × (Nat → Int32) × (Nat → Int32) × (Nat → Int32)} (hf : f_X11_claim fu m_people m_grants m_texts m_isFemale m_born m_died m_father m_mother m_fatherGrade m_grantTo m_grantArms m_grantYear m_textYear m_ruleMany m_ruleFrom m_codeRow m_ruleKind m_stack m_top m_lineLives m_markRow m_quarterMany m_quarters x1 x2 x3 = some r) : Ci l G 10 0 0 yX11_claim cX11_claim 5 .int [.ref (gm G 0), .int x1, .int x2, .int x3] (WM G m_code m_people m_grants m_texts m_copies m_taped m_faultPlace m_isFemale m_born m_died m_father m_mother m_fatherGrade m_motherGrade m_grantTo m_grantArms m_grantYear m_copyYear m_copyRow m_tape m_textYear m_ruleMany m_ruleFrom m_codeRow m_stack m_ruleKind m_codes m_at m_read m_token m_sign m_begins m_ends m_bad m_badPlace m_top m_lineLives m_markRow m_quarterMany m_quarters m_isUp m_wasUp ++ fr) r.1 (WM G r.2.1 m_people m_grants m_texts m_copies m_taped m_faultPlace m_isFemale m_born m_died m_father m_mother m_fatherGrade m_motherGrade m_grantTo m_grantArms m_grantYear m_copyYear m_copyRow m_tape m_textYear m_ruleMany m_ruleFrom m_codeRow r.2.2.1 m_ruleKind m_codes m_at m_read m_token m_sign m_begins m_ends m_bad m_badPlace r.2.2.2.1 r.2.2.2.2.1 r.2.2.2.2.2.1 r.2.2.2.2.2.2.1 r.2.2.2.2.2.2.2 m_isUp m_wasUp ++ fr) := by
  refine Ci.of (by decide) (Nat.le_of_ble_eq_true rfl) (fun Y hX hQ => ?_)
  refine j_lv (lv' := [(0, .ref (gm G 0)), (1, .int x1), (2, .int x2), (3, .int x3)]) rfl ?_
  unfold f_X11_claim at hf
  refine j_aload_n hX dX11_claim_0 1 rfl 0 rfl rfl ?_
  refine j_iconst (v := 0) hX dX11_claim_1 2 rfl (by decide) ?_
  refine j_put hX dX11_claim_2 5 rfl fg_X11_110 ft_X11_1 0 rfl rfl rfl (Nat.le_of_ble_eq_true rfl) (ws' := (WM G 0 m_people m_grants m_texts m_copies m_taped m_faultPlace m_isFemale m_born m_died m_father m_mother m_fatherGrade m_motherGrade m_grantTo m_grantArms m_grantYear m_copyYear m_copyRow m_tape m_textYear m_ruleMany m_ruleFrom m_codeRow m_stack m_ruleKind m_codes m_at m_read m_token m_sign m_begins m_ends m_bad m_badPlace m_top m_lineLives m_markRow m_quarterMany m_quarters m_isUp m_wasUp ++ fr)) rfl ?_
  refine j_aload_n hX dX11_claim_5 6 rfl 0 rfl rfl ?_
  refine j_iload_n hX dX11_claim_6 7 rfl 1 rfl rfl ?_
  obtain ⟨v1, hv1, hf⟩ := ibd hf
  refine z_i (As := [.int x1]) (rest := []) (q0 := 0) hX dX11_claim_7 10 rfl (t_X11_is x1 hv1) mc_X11_is mv_X11_is ml_X11_124 rfl rfl (Nat.le_of_ble_eq_true rfl) (Nat.le_refl _) (Nat.le_refl _) rfl (Nat.le_of_ble_eq_true rfl) ?_
  refine j_if_ne hX dX11_claim_10 13 18 rfl rfl (fun h2 => ?_) (fun h2 => ?_)
  · replace hf := itf h2 hf
    refine j_aload_n hX dX11_claim_18 19 rfl 0 rfl rfl ?_
    refine j_iload_n hX dX11_claim_19 20 rfl 1 rfl rfl ?_
    refine j_iload_n hX dX11_claim_20 21 rfl 3 rfl rfl ?_
    obtain ⟨v3, hv3, hf⟩ := ibd hf
    refine z_i (As := [.int x1, .int x3]) (rest := []) (q0 := 0) hX dX11_claim_21 24 rfl (t_X11_armsOf x1 x3 hv3) mc_X11_armsOf mv_X11_armsOf ml_X11_169 rfl rfl (Nat.le_of_ble_eq_true rfl) (Nat.le_refl _) (Nat.le_refl _) rfl (Nat.le_of_ble_eq_true rfl) ?_
    refine j_istore hX dX11_claim_24 26 rfl (by decide) (lv' := [(4, .int v3), (0, .ref (gm G 0)), (1, .int x1), (2, .int x2), (3, .int x3)]) rfl ?_
    refine j_iload hX dX11_claim_26 28 rfl 0 rfl ?_
    refine j_iconst (v := (-1)) hX dX11_claim_28 29 rfl (by decide) ?_
    refine j_icmp_eq hX dX11_claim_29 32 38 rfl rfl (fun h4 => ?_) (fun h4 => ?_)
    · replace hf := itt h4 hf
      refine j_sub [] rfl ?_
      exact t_X11_claim_38 hX hQ    hf
    · replace hf := itf h4 hf
      refine j_iload hX dX11_claim_32 34 rfl 0 rfl ?_
      refine j_iload_n hX dX11_claim_34 35 rfl 3 rfl rfl ?_
      refine j_icmp_eq hX dX11_claim_35 38 40 rfl rfl (fun h5 => ?_) (fun h5 => ?_)
      · replace hf := itt h5 hf
        refine j_aload_n hX dX11_claim_40 41 rfl 1 rfl rfl ?_
        refine j_iload_n hX dX11_claim_41 42 rfl 2 rfl rfl ?_
        refine j_iload_n hX dX11_claim_42 43 rfl 4 rfl rfl ?_
        obtain ⟨v6, hv6, hf⟩ := ibd hf
        refine z_i (As := [.int x1, .int x3]) (rest := []) (q0 := 0) hX dX11_claim_43 46 rfl (t_X11_lives x1 x3 hv6) mc_X11_lives mv_X11_lives ml_X11_131 rfl rfl (Nat.le_of_ble_eq_true rfl) (Nat.le_refl _) (Nat.le_refl _) rfl (Nat.le_of_ble_eq_true rfl) ?_
        refine j_if_ne hX dX11_claim_46 49 51 rfl rfl (fun h7 => ?_) (fun h7 => ?_)
        · replace hf := itf h7 hf
          refine j_aload_n hX dX11_claim_51 52 rfl 1 rfl rfl ?_
          refine j_iconst (v := 0) hX dX11_claim_52 53 rfl (by decide) ?_
          refine j_iload_n hX dX11_claim_53 54 rfl 2 rfl rfl ?_
          refine j_iload_n hX dX11_claim_54 55 rfl 4 rfl rfl ?_
          obtain ⟨v8, hv8, hf⟩ := ibd hf
          refine z_i (As := [.int 0, .int x1, .int x3]) (rest := []) (q0 := 0) hX dX11_claim_55 58 rfl (t_X11_ruled 0 x1 x3 hv8) mc_X11_ruled mv_X11_ruled ml_X11_303 rfl rfl (Nat.le_of_ble_eq_true rfl) (Nat.le_refl _) (Nat.le_refl _) rfl (Nat.le_of_ble_eq_true rfl) ?_
          refine j_if_eq hX dX11_claim_58 61 63 rfl rfl (fun h9 => ?_) (fun h9 => ?_)
          · replace hf := itt h9 hf
            refine j_aload_n hX dX11_claim_63 64 rfl 1 rfl rfl ?_
            refine j_iload_n hX dX11_claim_64 65 rfl 2 rfl rfl ?_
            refine j_iload_n hX dX11_claim_65 66 rfl 4 rfl rfl ?_
            obtain ⟨v10, hv10, hf⟩ := ibd hf
            refine z_i (As := [.int x1, .int x3]) (rest := []) (q0 := 0) hX dX11_claim_66 69 rfl (t_X11_marksAbove x1 x3 hv10) mc_X11_marksAbove mv_X11_marksAbove ml_X11_178 rfl rfl (Nat.le_of_ble_eq_true rfl) (Nat.le_refl _) (Nat.le_refl _) rfl (Nat.le_of_ble_eq_true rfl) ?_
            refine j_if_le hX dX11_claim_69 72 86 rfl rfl (fun h11 => ?_) (fun h11 => ?_)
            · replace hf := itt h11 hf
              refine j_sub [] rfl ?_
              exact t_X11_claim_86 hX hQ    hf
            · replace hf := itf h11 hf
              refine j_aload_n hX dX11_claim_72 73 rfl 1 rfl rfl ?_
              refine j_iconst (v := 1) hX dX11_claim_73 74 rfl (by decide) ?_
              refine j_iload_n hX dX11_claim_74 75 rfl 2 rfl rfl ?_
              refine j_iload_n hX dX11_claim_75 76 rfl 4 rfl rfl ?_
              obtain ⟨v12, hv12, hf⟩ := ibd hf
              refine z_i (As := [.int 1, .int x1, .int x3]) (rest := []) (q0 := 0) hX dX11_claim_76 79 rfl (t_X11_ruled 1 x1 x3 hv12) mc_X11_ruled mv_X11_ruled ml_X11_303 rfl rfl (Nat.le_of_ble_eq_true rfl) (Nat.le_refl _) (Nat.le_refl _) rfl (Nat.le_of_ble_eq_true rfl) ?_
              refine j_if_eq hX dX11_claim_79 82 86 rfl rfl (fun h13 => ?_) (fun h13 => ?_)
              · replace hf := itt h13 hf
                refine j_sub [] rfl ?_
                exact t_X11_claim_86 hX hQ    hf
              · replace hf := itf h13 hf
                refine j_iconst (v := 4) hX dX11_claim_82 83 rfl (by decide) ?_
                refine j_goto hX dX11_claim_83 87 rfl ?_
                refine j_sub [] rfl ?_
                exact t_X11_claim_87 hX hQ   4 hf
          · replace hf := itf h9 hf
            refine j_iconst (v := 3) hX dX11_claim_61 62 rfl (by decide) ?_
            replace hf := Option.some.inj hf
            subst hf
            exact j_iret hX hQ dX11_claim_62
        · replace hf := itt h7 hf
          refine j_iconst (v := 2) hX dX11_claim_49 50 rfl (by decide) ?_
          replace hf := Option.some.inj hf
          subst hf
          exact j_iret hX hQ dX11_claim_50
      · replace hf := itf h5 hf
        refine j_sub [] rfl ?_
        exact t_X11_claim_38 hX hQ    hf
  · replace hf := itt h2 hf
    refine j_aload_n hX dX11_claim_13 14 rfl 0 rfl rfl ?_
    obtain ⟨v14, hv14, hf⟩ := ibd hf
    refine z_i (As := []) (rest := []) (q0 := 0) hX dX11_claim_14 17 rfl (t_X11_fail  hv14) mc_X11_fail mv_X11_fail ml_X11_127 rfl rfl (Nat.le_of_ble_eq_true rfl) (Nat.le_refl _) (Nat.le_refl _) rfl (Nat.le_of_ble_eq_true rfl) ?_
    replace hf := Option.some.inj hf
    subst hf
    exact j_iret hX hQ dX11_claim_17
def g_X11_fee_39 (m_code : Int32) (m_stack : Nat → Int32) (m_top : Int32) (m_lineLives : Nat → Int32) (m_markRow : Nat → Int32) (m_quarterMany : Nat → Int32) (m_quarters : Nat → Int32) (s0 : Int32) : Option (Int32 × Int32 × (Nat → Int32) × Int32 × (Nat → Int32) × (Nat → Int32) × (Nat → Int32) × (Nat → Int32)) :=
  some (s0, m_code, m_stack, m_top, m_lineLives, m_markRow, m_quarterMany, m_quarters)
set_option maxRecDepth 100000 in
set_option maxHeartbeats 4000000 in
theorem t_X11_fee_39 {Y : YT} {r : Int32 × Int32 × (Nat → Int32) × Int32 × (Nat → Int32) × (Nat → Int32) × (Nat → Int32) × (Nat → Int32)}  (hX : CX l G cX11_fee 3 RX11 Y) (hQ : EQi G Y 0 0 .int r.1 (WM G r.2.1 m_people m_grants m_texts m_copies m_taped m_faultPlace m_isFemale m_born m_died m_father m_mother m_fatherGrade m_motherGrade m_grantTo m_grantArms m_grantYear m_copyYear m_copyRow m_tape m_textYear m_ruleMany m_ruleFrom m_codeRow r.2.2.1 m_ruleKind m_codes m_at m_read m_token m_sign m_begins m_ends m_bad m_badPlace r.2.2.2.1 r.2.2.2.2.1 r.2.2.2.2.2.1 r.2.2.2.2.2.2.1 r.2.2.2.2.2.2.2 m_isUp m_wasUp ++ fr))  (s0 : Int32) (hf : g_X11_fee_39 m_code m_stack m_top m_lineLives m_markRow m_quarterMany m_quarters s0 = some r) : J l G (rmD 10 0 0) Y 0 0 39 [] [.int s0] (WM G m_code m_people m_grants m_texts m_copies m_taped m_faultPlace m_isFemale m_born m_died m_father m_mother m_fatherGrade m_motherGrade m_grantTo m_grantArms m_grantYear m_copyYear m_copyRow m_tape m_textYear m_ruleMany m_ruleFrom m_codeRow m_stack m_ruleKind m_codes m_at m_read m_token m_sign m_begins m_ends m_bad m_badPlace m_top m_lineLives m_markRow m_quarterMany m_quarters m_isUp m_wasUp ++ fr) := by
  unfold g_X11_fee_39 at hf
  replace hf := Option.some.inj hf
  subst hf
  exact j_iret hX hQ dX11_fee_39
def f_X11_fee (fu : Nat) (m_people : Int32) (m_grants : Int32) (m_texts : Int32) (m_isFemale : Nat → Int32) (m_born : Nat → Int32) (m_died : Nat → Int32) (m_father : Nat → Int32) (m_mother : Nat → Int32) (m_fatherGrade : Nat → Int32) (m_grantTo : Nat → Int32) (m_grantArms : Nat → Int32) (m_grantYear : Nat → Int32) (m_textYear : Nat → Int32) (m_ruleMany : Nat → Int32) (m_ruleFrom : Nat → Int32) (m_codeRow : Nat → Int32) (m_ruleKind : Nat → Int32) (m_stack : Nat → Int32) (m_top : Int32) (m_lineLives : Nat → Int32) (m_markRow : Nat → Int32) (m_quarterMany : Nat → Int32) (m_quarters : Nat → Int32) (x1 : Int32) (x2 : Int32) : Option (Int32 × Int32 × (Nat → Int32) × Int32 × (Nat → Int32) × (Nat → Int32) × (Nat → Int32) × (Nat → Int32)) :=
  (f_X11_is m_people x1).bind fun v1 => if v1 = 0 then (f_X11_fail ).bind fun v6 => some (v6.1, v6.2, m_stack, m_top, m_lineLives, m_markRow, m_quarterMany, m_quarters) else (f_X11_rootOf fu m_grants m_father m_grantTo m_grantArms m_grantYear x1 x2).bind fun v3 => if v3 = ((-1)) then g_X11_fee_39 0 m_stack m_top m_lineLives m_markRow m_quarterMany m_quarters 0 else (f_X11_ruled fu m_people m_grants m_texts m_isFemale m_born m_died m_father m_mother m_fatherGrade m_grantTo m_grantArms m_grantYear m_textYear m_ruleMany m_ruleFrom m_codeRow m_ruleKind m_stack m_top m_lineLives m_markRow m_quarterMany m_quarters 2 x1 x2).bind fun v5 => g_X11_fee_39 0 v5.2.1 v5.2.2.1 v5.2.2.2.1 v5.2.2.2.2.1 v5.2.2.2.2.2.1 v5.2.2.2.2.2.2 v5.1
set_option maxRecDepth 100000 in
set_option maxHeartbeats 4000000 in
theorem t_X11_fee {fu : Nat}  (x1 : Int32) (x2 : Int32) {r : Int32 × Int32 × (Nat → Int32) × Int32 × (Nat → Int32) × (Nat → Int32) × (Nat → Int32) × (Nat → Int32)} (hf : f_X11_fee fu m_people m_grants m_texts m_isFemale m_born m_died m_father m_mother m_fatherGrade m_grantTo m_grantArms m_grantYear m_textYear m_ruleMany m_ruleFrom m_codeRow m_ruleKind m_stack m_top m_lineLives m_markRow m_quarterMany m_quarters x1 x2 = some r) : Ci l G 10 0 0 yX11_fee cX11_fee 3 .int [.ref (gm G 0), .int x1, .int x2] (WM G m_code m_people m_grants m_texts m_copies m_taped m_faultPlace m_isFemale m_born m_died m_father m_mother m_fatherGrade m_motherGrade m_grantTo m_grantArms m_grantYear m_copyYear m_copyRow m_tape m_textYear m_ruleMany m_ruleFrom m_codeRow m_stack m_ruleKind m_codes m_at m_read m_token m_sign m_begins m_ends m_bad m_badPlace m_top m_lineLives m_markRow m_quarterMany m_quarters m_isUp m_wasUp ++ fr) r.1 (WM G r.2.1 m_people m_grants m_texts m_copies m_taped m_faultPlace m_isFemale m_born m_died m_father m_mother m_fatherGrade m_motherGrade m_grantTo m_grantArms m_grantYear m_copyYear m_copyRow m_tape m_textYear m_ruleMany m_ruleFrom m_codeRow r.2.2.1 m_ruleKind m_codes m_at m_read m_token m_sign m_begins m_ends m_bad m_badPlace r.2.2.2.1 r.2.2.2.2.1 r.2.2.2.2.2.1 r.2.2.2.2.2.2.1 r.2.2.2.2.2.2.2 m_isUp m_wasUp ++ fr) := by
  refine Ci.of (by decide) (Nat.le_of_ble_eq_true rfl) (fun Y hX hQ => ?_)
  refine j_lv (lv' := [(0, .ref (gm G 0)), (1, .int x1), (2, .int x2)]) rfl ?_
  unfold f_X11_fee at hf
  refine j_aload_n hX dX11_fee_0 1 rfl 0 rfl rfl ?_
  refine j_iconst (v := 0) hX dX11_fee_1 2 rfl (by decide) ?_
  refine j_put hX dX11_fee_2 5 rfl fg_X11_110 ft_X11_1 0 rfl rfl rfl (Nat.le_of_ble_eq_true rfl) (ws' := (WM G 0 m_people m_grants m_texts m_copies m_taped m_faultPlace m_isFemale m_born m_died m_father m_mother m_fatherGrade m_motherGrade m_grantTo m_grantArms m_grantYear m_copyYear m_copyRow m_tape m_textYear m_ruleMany m_ruleFrom m_codeRow m_stack m_ruleKind m_codes m_at m_read m_token m_sign m_begins m_ends m_bad m_badPlace m_top m_lineLives m_markRow m_quarterMany m_quarters m_isUp m_wasUp ++ fr)) rfl ?_
  refine j_aload_n hX dX11_fee_5 6 rfl 0 rfl rfl ?_
  refine j_iload_n hX dX11_fee_6 7 rfl 1 rfl rfl ?_
  obtain ⟨v1, hv1, hf⟩ := ibd hf
  refine z_i (As := [.int x1]) (rest := []) (q0 := 0) hX dX11_fee_7 10 rfl (t_X11_is x1 hv1) mc_X11_is mv_X11_is ml_X11_124 rfl rfl (Nat.le_of_ble_eq_true rfl) (Nat.le_refl _) (Nat.le_refl _) rfl (Nat.le_of_ble_eq_true rfl) ?_
  refine j_if_ne hX dX11_fee_10 13 18 rfl rfl (fun h2 => ?_) (fun h2 => ?_)
  · replace hf := itf h2 hf
    refine j_aload_n hX dX11_fee_18 19 rfl 0 rfl rfl ?_
    refine j_iload_n hX dX11_fee_19 20 rfl 1 rfl rfl ?_
    refine j_iload_n hX dX11_fee_20 21 rfl 2 rfl rfl ?_
    obtain ⟨v3, hv3, hf⟩ := ibd hf
    refine z_i (As := [.int x1, .int x2]) (rest := []) (q0 := 0) hX dX11_fee_21 24 rfl (t_X11_rootOf x1 x2 hv3) mc_X11_rootOf mv_X11_rootOf ml_X11_145 rfl rfl (Nat.le_of_ble_eq_true rfl) (Nat.le_refl _) (Nat.le_refl _) rfl (Nat.le_of_ble_eq_true rfl) ?_
    refine j_iconst (v := (-1)) hX dX11_fee_24 25 rfl (by decide) ?_
    refine j_icmp_ne hX dX11_fee_25 28 32 rfl rfl (fun h4 => ?_) (fun h4 => ?_)
    · replace hf := itf h4 hf
      refine j_aload_n hX dX11_fee_32 33 rfl 0 rfl rfl ?_
      refine j_iconst (v := 2) hX dX11_fee_33 34 rfl (by decide) ?_
      refine j_iload_n hX dX11_fee_34 35 rfl 1 rfl rfl ?_
      refine j_iload_n hX dX11_fee_35 36 rfl 2 rfl rfl ?_
      obtain ⟨v5, hv5, hf⟩ := ibd hf
      refine z_i (As := [.int 2, .int x1, .int x2]) (rest := []) (q0 := 0) hX dX11_fee_36 39 rfl (t_X11_ruled 2 x1 x2 hv5) mc_X11_ruled mv_X11_ruled ml_X11_303 rfl rfl (Nat.le_of_ble_eq_true rfl) (Nat.le_refl _) (Nat.le_refl _) rfl (Nat.le_of_ble_eq_true rfl) ?_
      refine j_sub [] rfl ?_
      exact t_X11_fee_39 hX hQ   v5.1 hf
    · replace hf := itt h4 hf
      refine j_iconst (v := 0) hX dX11_fee_28 29 rfl (by decide) ?_
      refine j_goto hX dX11_fee_29 39 rfl ?_
      refine j_sub [] rfl ?_
      exact t_X11_fee_39 hX hQ   0 hf
  · replace hf := itt h2 hf
    refine j_aload_n hX dX11_fee_13 14 rfl 0 rfl rfl ?_
    obtain ⟨v6, hv6, hf⟩ := ibd hf
    refine z_i (As := []) (rest := []) (q0 := 0) hX dX11_fee_14 17 rfl (t_X11_fail  hv6) mc_X11_fail mv_X11_fail ml_X11_127 rfl rfl (Nat.le_of_ble_eq_true rfl) (Nat.le_refl _) (Nat.le_refl _) rfl (Nat.le_of_ble_eq_true rfl) ?_
    replace hf := Option.some.inj hf
    subst hf
    exact j_iret hX hQ dX11_fee_17
def g_X11_copy_21 (m_code : Int32) (m_copies : Int32) (m_copyYear : Nat → Int32) (m_copyRow : Nat → Int32) : Option (Int32 × Int32 × Int32 × (Nat → Int32) × (Nat → Int32)) :=
  some ((-1), m_code, m_copies, m_copyYear, m_copyRow)
set_option maxRecDepth 100000 in
set_option maxHeartbeats 4000000 in
theorem t_X11_copy_21 {Y : YT} {r : Int32 × Int32 × Int32 × (Nat → Int32) × (Nat → Int32)}  (hX : CX l G cX11_copy 3 RX11 Y) (hQ : EQi G Y 0 0 .int r.1 (WM G r.2.1 m_people m_grants m_texts r.2.2.1 m_taped m_faultPlace m_isFemale m_born m_died m_father m_mother m_fatherGrade m_motherGrade m_grantTo m_grantArms m_grantYear r.2.2.2.1 r.2.2.2.2 m_tape m_textYear m_ruleMany m_ruleFrom m_codeRow m_stack m_ruleKind m_codes m_at m_read m_token m_sign m_begins m_ends m_bad m_badPlace m_top m_lineLives m_markRow m_quarterMany m_quarters m_isUp m_wasUp ++ fr))   (hf : g_X11_copy_21 m_code m_copies m_copyYear m_copyRow = some r) : J l G (rmD 2 0 0) Y 0 0 21 [] [] (WM G m_code m_people m_grants m_texts m_copies m_taped m_faultPlace m_isFemale m_born m_died m_father m_mother m_fatherGrade m_motherGrade m_grantTo m_grantArms m_grantYear m_copyYear m_copyRow m_tape m_textYear m_ruleMany m_ruleFrom m_codeRow m_stack m_ruleKind m_codes m_at m_read m_token m_sign m_begins m_ends m_bad m_badPlace m_top m_lineLives m_markRow m_quarterMany m_quarters m_isUp m_wasUp ++ fr) := by
  unfold g_X11_copy_21 at hf
  refine j_iconst (v := (-1)) hX dX11_copy_21 22 rfl (by decide) ?_
  replace hf := Option.some.inj hf
  subst hf
  exact j_iret hX hQ dX11_copy_22
def f_X11_copy (m_copies : Int32) (m_copyYear : Nat → Int32) (m_copyRow : Nat → Int32) (x1 : Int32) (x2 : Int32) : Option (Int32 × Int32 × Int32 × (Nat → Int32) × (Nat → Int32)) :=
  if m_copies = 40 then g_X11_copy_21 0 m_copies m_copyYear m_copyRow else (f_X11_isYear x1).bind fun v2 => if v2 = 0 then g_X11_copy_21 0 m_copies m_copyYear m_copyRow else if inb m_copies 40 = true then if inb m_copies 40 = true then some ((m_copies + 1) - 1, 0, m_copies + 1, upd m_copyYear (Int32.toNatClampNeg m_copies) x1, upd m_copyRow (Int32.toNatClampNeg m_copies) x2) else none else none
set_option maxRecDepth 100000 in
set_option maxHeartbeats 4000000 in
theorem t_X11_copy  (x1 : Int32) (x2 : Int32) {r : Int32 × Int32 × Int32 × (Nat → Int32) × (Nat → Int32)} (hf : f_X11_copy m_copies m_copyYear m_copyRow x1 x2 = some r) : Ci l G 2 0 0 yX11_copy cX11_copy 3 .int [.ref (gm G 0), .int x1, .int x2] (WM G m_code m_people m_grants m_texts m_copies m_taped m_faultPlace m_isFemale m_born m_died m_father m_mother m_fatherGrade m_motherGrade m_grantTo m_grantArms m_grantYear m_copyYear m_copyRow m_tape m_textYear m_ruleMany m_ruleFrom m_codeRow m_stack m_ruleKind m_codes m_at m_read m_token m_sign m_begins m_ends m_bad m_badPlace m_top m_lineLives m_markRow m_quarterMany m_quarters m_isUp m_wasUp ++ fr) r.1 (WM G r.2.1 m_people m_grants m_texts r.2.2.1 m_taped m_faultPlace m_isFemale m_born m_died m_father m_mother m_fatherGrade m_motherGrade m_grantTo m_grantArms m_grantYear r.2.2.2.1 r.2.2.2.2 m_tape m_textYear m_ruleMany m_ruleFrom m_codeRow m_stack m_ruleKind m_codes m_at m_read m_token m_sign m_begins m_ends m_bad m_badPlace m_top m_lineLives m_markRow m_quarterMany m_quarters m_isUp m_wasUp ++ fr) := by
  refine Ci.of (by decide) (Nat.le_of_ble_eq_true rfl) (fun Y hX hQ => ?_)
  refine j_lv (lv' := [(0, .ref (gm G 0)), (1, .int x1), (2, .int x2)]) rfl ?_
  unfold f_X11_copy at hf
  refine j_aload_n hX dX11_copy_0 1 rfl 0 rfl rfl ?_
  refine j_iconst (v := 0) hX dX11_copy_1 2 rfl (by decide) ?_
  refine j_put hX dX11_copy_2 5 rfl fg_X11_110 ft_X11_1 0 rfl rfl rfl (Nat.le_of_ble_eq_true rfl) (ws' := (WM G 0 m_people m_grants m_texts m_copies m_taped m_faultPlace m_isFemale m_born m_died m_father m_mother m_fatherGrade m_motherGrade m_grantTo m_grantArms m_grantYear m_copyYear m_copyRow m_tape m_textYear m_ruleMany m_ruleFrom m_codeRow m_stack m_ruleKind m_codes m_at m_read m_token m_sign m_begins m_ends m_bad m_badPlace m_top m_lineLives m_markRow m_quarterMany m_quarters m_isUp m_wasUp ++ fr)) rfl ?_
  refine j_aload_n hX dX11_copy_5 6 rfl 0 rfl rfl ?_
  refine j_get hX dX11_copy_6 9 rfl fg_X11_306 0 rfl rfl ?_
  refine j_bipush (v := 40) hX dX11_copy_9 11 rfl (by decide) ?_
  refine j_icmp_eq hX dX11_copy_11 14 21 rfl rfl (fun h1 => ?_) (fun h1 => ?_)
  · replace hf := itt h1 hf
    refine j_sub [] rfl ?_
    exact t_X11_copy_21 hX hQ    hf
  · replace hf := itf h1 hf
    refine j_iload_n hX dX11_copy_14 15 rfl 1 rfl rfl ?_
    obtain ⟨v2, hv2, hf⟩ := ibd hf
    refine z_si (As := [.int x1]) (rest := []) hX dX11_copy_15 18 rfl (t_X11_isYear x1 hv2) mc_X11_isYear ms_X11_isYear ml_X11_116 (Nat.le_of_ble_eq_true rfl) (Nat.le_refl _) (Nat.le_refl _) rfl (Nat.le_of_ble_eq_true rfl) ?_
    refine j_if_ne hX dX11_copy_18 21 23 rfl rfl (fun h3 => ?_) (fun h3 => ?_)
    · replace hf := itf h3 hf
      refine j_aload_n hX dX11_copy_23 24 rfl 0 rfl rfl ?_
      refine j_get hX dX11_copy_24 27 rfl fg_X11_66 0 rfl rfl ?_
      refine j_aload_n hX dX11_copy_27 28 rfl 0 rfl rfl ?_
      refine j_get hX dX11_copy_28 31 rfl fg_X11_306 0 rfl rfl ?_
      refine j_iload_n hX dX11_copy_31 32 rfl 1 rfl rfl ?_
      obtain ⟨hb4, hf⟩ := ign hf
      refine j_iast hX dX11_copy_32 33 rfl 12 rfl hb4 (ws' := (WM G 0 m_people m_grants m_texts m_copies m_taped m_faultPlace m_isFemale m_born m_died m_father m_mother m_fatherGrade m_motherGrade m_grantTo m_grantArms m_grantYear (upd m_copyYear (Int32.toNatClampNeg m_copies) x1) m_copyRow m_tape m_textYear m_ruleMany m_ruleFrom m_codeRow m_stack m_ruleKind m_codes m_at m_read m_token m_sign m_begins m_ends m_bad m_badPlace m_top m_lineLives m_markRow m_quarterMany m_quarters m_isUp m_wasUp ++ fr)) rfl ?_
      refine j_aload_n hX dX11_copy_33 34 rfl 0 rfl rfl ?_
      refine j_get hX dX11_copy_34 37 rfl fg_X11_69 0 rfl rfl ?_
      refine j_aload_n hX dX11_copy_37 38 rfl 0 rfl rfl ?_
      refine j_get hX dX11_copy_38 41 rfl fg_X11_306 0 rfl rfl ?_
      refine j_iload_n hX dX11_copy_41 42 rfl 2 rfl rfl ?_
      obtain ⟨hb5, hf⟩ := ign hf
      refine j_iast hX dX11_copy_42 43 rfl 13 rfl hb5 (ws' := (WM G 0 m_people m_grants m_texts m_copies m_taped m_faultPlace m_isFemale m_born m_died m_father m_mother m_fatherGrade m_motherGrade m_grantTo m_grantArms m_grantYear (upd m_copyYear (Int32.toNatClampNeg m_copies) x1) (upd m_copyRow (Int32.toNatClampNeg m_copies) x2) m_tape m_textYear m_ruleMany m_ruleFrom m_codeRow m_stack m_ruleKind m_codes m_at m_read m_token m_sign m_begins m_ends m_bad m_badPlace m_top m_lineLives m_markRow m_quarterMany m_quarters m_isUp m_wasUp ++ fr)) rfl ?_
      refine j_aload_n hX dX11_copy_43 44 rfl 0 rfl rfl ?_
      refine j_dup hX dX11_copy_44 45 rfl rfl ?_
      refine j_get hX dX11_copy_45 48 rfl fg_X11_306 0 rfl rfl ?_
      refine j_iconst (v := 1) hX dX11_copy_48 49 rfl (by decide) ?_
      refine j_iadd hX dX11_copy_49 50 rfl ?_
      refine j_put hX dX11_copy_50 53 rfl fg_X11_306 ft_X11_5 0 rfl rfl rfl (Nat.le_of_ble_eq_true rfl) (ws' := (WM G 0 m_people m_grants m_texts (m_copies + 1) m_taped m_faultPlace m_isFemale m_born m_died m_father m_mother m_fatherGrade m_motherGrade m_grantTo m_grantArms m_grantYear (upd m_copyYear (Int32.toNatClampNeg m_copies) x1) (upd m_copyRow (Int32.toNatClampNeg m_copies) x2) m_tape m_textYear m_ruleMany m_ruleFrom m_codeRow m_stack m_ruleKind m_codes m_at m_read m_token m_sign m_begins m_ends m_bad m_badPlace m_top m_lineLives m_markRow m_quarterMany m_quarters m_isUp m_wasUp ++ fr)) rfl ?_
      refine j_aload_n hX dX11_copy_53 54 rfl 0 rfl rfl ?_
      refine j_get hX dX11_copy_54 57 rfl fg_X11_306 0 rfl rfl ?_
      refine j_iconst (v := 1) hX dX11_copy_57 58 rfl (by decide) ?_
      refine j_isub hX dX11_copy_58 59 rfl ?_
      replace hf := Option.some.inj hf
      subst hf
      exact j_iret hX hQ dX11_copy_59
    · replace hf := itt h3 hf
      refine j_sub [] rfl ?_
      exact t_X11_copy_21 hX hQ    hf
def g_X11_unlike_49 (k5 : Int32 → Int32 → Int32 → Int32 → Option (Int32)) (x1 : Int32) (x2 : Int32) (x4 : Int32) (s0 : Int32) (s1 : Int32) : Option (Int32) :=
  k5 x1 x2 (s1 + s0) (x4 + 1)
set_option maxRecDepth 100000 in
set_option maxHeartbeats 4000000 in
theorem t_X11_unlike_49 {Y : YT} {r : Int32} {k5 : Int32 → Int32 → Int32 → Int32 → Option (Int32)} (hX : CX l G cX11_unlike 5 RX11 Y) (hQ : EQi G Y 0 0 .int r (WM G m_code m_people m_grants m_texts m_copies m_taped m_faultPlace m_isFemale m_born m_died m_father m_mother m_fatherGrade m_motherGrade m_grantTo m_grantArms m_grantYear m_copyYear m_copyRow m_tape m_textYear m_ruleMany m_ruleFrom m_codeRow m_stack m_ruleKind m_codes m_at m_read m_token m_sign m_begins m_ends m_bad m_badPlace m_top m_lineLives m_markRow m_quarterMany m_quarters m_isUp m_wasUp ++ fr)) (hk5 : ∀ (x1 : Int32) (x2 : Int32) (x3 : Int32) (x4 : Int32), k5 x1 x2 x3 x4  = some r → J l G (rmD 1 0 0) Y 0 0 5 [(0, .ref (gm G 0)), (1, .int x1), (2, .int x2), (3, .int x3), (4, .int x4)] [] (WM G m_code m_people m_grants m_texts m_copies m_taped m_faultPlace m_isFemale m_born m_died m_father m_mother m_fatherGrade m_motherGrade m_grantTo m_grantArms m_grantYear m_copyYear m_copyRow m_tape m_textYear m_ruleMany m_ruleFrom m_codeRow m_stack m_ruleKind m_codes m_at m_read m_token m_sign m_begins m_ends m_bad m_badPlace m_top m_lineLives m_markRow m_quarterMany m_quarters m_isUp m_wasUp ++ fr)) (x1 : Int32) (x2 : Int32) (x4 : Int32) (s0 : Int32) (s1 : Int32) (hf : g_X11_unlike_49 k5 x1 x2 x4 s0 s1 = some r) : J l G (rmD 1 0 0) Y 0 0 49 [(0, .ref (gm G 0)), (1, .int x1), (2, .int x2), (4, .int x4)] [.int s0, .int s1] (WM G m_code m_people m_grants m_texts m_copies m_taped m_faultPlace m_isFemale m_born m_died m_father m_mother m_fatherGrade m_motherGrade m_grantTo m_grantArms m_grantYear m_copyYear m_copyRow m_tape m_textYear m_ruleMany m_ruleFrom m_codeRow m_stack m_ruleKind m_codes m_at m_read m_token m_sign m_begins m_ends m_bad m_badPlace m_top m_lineLives m_markRow m_quarterMany m_quarters m_isUp m_wasUp ++ fr) := by
  unfold g_X11_unlike_49 at hf
  refine j_iadd hX dX11_unlike_49 50 rfl ?_
  refine j_istore_n hX dX11_unlike_50 51 rfl rfl (by decide) (lv' := [(3, .int (s1 + s0)), (0, .ref (gm G 0)), (1, .int x1), (2, .int x2), (4, .int x4)]) rfl ?_
  refine j_iinc (v := x4 + 1) hX dX11_unlike_51 54 rfl 4 rfl rfl (by decide) (lv' := [(4, .int (x4 + 1)), (3, .int (s1 + s0)), (0, .ref (gm G 0)), (1, .int x1), (2, .int x2)]) rfl ?_
  refine j_goto hX dX11_unlike_54 5 rfl ?_
  refine j_sub [2, 3, 4, 1, 0] rfl ?_
  exact hk5 x1 x2 (s1 + s0) (x4 + 1) hf
def g_X11_unlike_5 (m_copyRow : Nat → Int32) (k5 : Int32 → Int32 → Int32 → Int32 → Option (Int32)) (x1 : Int32) (x2 : Int32) (x3 : Int32) (x4 : Int32) : Option (Int32) :=
  if 8 ≤ x4 then some x3 else if inb x1 40 = true then if inb x2 40 = true then if (((m_copyRow (Int32.toNatClampNeg x1)) >>> ((4 * x4) &&& 31)) &&& 15) = (((m_copyRow (Int32.toNatClampNeg x2)) >>> ((4 * x4) &&& 31)) &&& 15) then g_X11_unlike_49 k5 x1 x2 x4 0 x3 else g_X11_unlike_49 k5 x1 x2 x4 1 x3 else none else none
set_option maxRecDepth 100000 in
set_option maxHeartbeats 4000000 in
theorem t_X11_unlike_5 {Y : YT} {r : Int32} {k5 : Int32 → Int32 → Int32 → Int32 → Option (Int32)} (hX : CX l G cX11_unlike 5 RX11 Y) (hQ : EQi G Y 0 0 .int r (WM G m_code m_people m_grants m_texts m_copies m_taped m_faultPlace m_isFemale m_born m_died m_father m_mother m_fatherGrade m_motherGrade m_grantTo m_grantArms m_grantYear m_copyYear m_copyRow m_tape m_textYear m_ruleMany m_ruleFrom m_codeRow m_stack m_ruleKind m_codes m_at m_read m_token m_sign m_begins m_ends m_bad m_badPlace m_top m_lineLives m_markRow m_quarterMany m_quarters m_isUp m_wasUp ++ fr)) (hk5 : ∀ (x1 : Int32) (x2 : Int32) (x3 : Int32) (x4 : Int32), k5 x1 x2 x3 x4  = some r → J l G (rmD 1 0 0) Y 0 0 5 [(0, .ref (gm G 0)), (1, .int x1), (2, .int x2), (3, .int x3), (4, .int x4)] [] (WM G m_code m_people m_grants m_texts m_copies m_taped m_faultPlace m_isFemale m_born m_died m_father m_mother m_fatherGrade m_motherGrade m_grantTo m_grantArms m_grantYear m_copyYear m_copyRow m_tape m_textYear m_ruleMany m_ruleFrom m_codeRow m_stack m_ruleKind m_codes m_at m_read m_token m_sign m_begins m_ends m_bad m_badPlace m_top m_lineLives m_markRow m_quarterMany m_quarters m_isUp m_wasUp ++ fr)) (x1 : Int32) (x2 : Int32) (x3 : Int32) (x4 : Int32) (hf : g_X11_unlike_5 m_copyRow k5 x1 x2 x3 x4 = some r) : J l G (rmD 1 0 0) Y 0 0 5 [(0, .ref (gm G 0)), (1, .int x1), (2, .int x2), (3, .int x3), (4, .int x4)] [] (WM G m_code m_people m_grants m_texts m_copies m_taped m_faultPlace m_isFemale m_born m_died m_father m_mother m_fatherGrade m_motherGrade m_grantTo m_grantArms m_grantYear m_copyYear m_copyRow m_tape m_textYear m_ruleMany m_ruleFrom m_codeRow m_stack m_ruleKind m_codes m_at m_read m_token m_sign m_begins m_ends m_bad m_badPlace m_top m_lineLives m_markRow m_quarterMany m_quarters m_isUp m_wasUp ++ fr) := by
  unfold g_X11_unlike_5 at hf
  refine j_iload hX dX11_unlike_5 7 rfl 4 rfl ?_
  refine j_bipush (v := 8) hX dX11_unlike_7 9 rfl (by decide) ?_
  refine j_icmp_ge hX dX11_unlike_9 12 57 rfl rfl (fun h1 => ?_) (fun h1 => ?_)
  · replace hf := itt h1 hf
    refine j_iload_n hX dX11_unlike_57 58 rfl 3 rfl rfl ?_
    replace hf := Option.some.inj hf
    subst hf
    exact j_iret hX hQ dX11_unlike_58
  · replace hf := itf h1 hf
    refine j_iload_n hX dX11_unlike_12 13 rfl 3 rfl rfl ?_
    refine j_aload_n hX dX11_unlike_13 14 rfl 0 rfl rfl ?_
    refine j_get hX dX11_unlike_14 17 rfl fg_X11_69 0 rfl rfl ?_
    refine j_iload_n hX dX11_unlike_17 18 rfl 1 rfl rfl ?_
    obtain ⟨hb2, hf⟩ := ign hf
    refine j_iald hX dX11_unlike_18 19 rfl 13 rfl hb2 ?_
    refine j_iconst (v := 4) hX dX11_unlike_19 20 rfl (by decide) ?_
    refine j_iload hX dX11_unlike_20 22 rfl 4 rfl ?_
    refine j_imul hX dX11_unlike_22 23 rfl ?_
    refine j_ishr hX dX11_unlike_23 24 rfl ?_
    refine j_bipush (v := 15) hX dX11_unlike_24 26 rfl (by decide) ?_
    refine j_iand hX dX11_unlike_26 27 rfl ?_
    refine j_aload_n hX dX11_unlike_27 28 rfl 0 rfl rfl ?_
    refine j_get hX dX11_unlike_28 31 rfl fg_X11_69 0 rfl rfl ?_
    refine j_iload_n hX dX11_unlike_31 32 rfl 2 rfl rfl ?_
    obtain ⟨hb3, hf⟩ := ign hf
    refine j_iald hX dX11_unlike_32 33 rfl 13 rfl hb3 ?_
    refine j_iconst (v := 4) hX dX11_unlike_33 34 rfl (by decide) ?_
    refine j_iload hX dX11_unlike_34 36 rfl 4 rfl ?_
    refine j_imul hX dX11_unlike_36 37 rfl ?_
    refine j_ishr hX dX11_unlike_37 38 rfl ?_
    refine j_bipush (v := 15) hX dX11_unlike_38 40 rfl (by decide) ?_
    refine j_iand hX dX11_unlike_40 41 rfl ?_
    refine j_icmp_ne hX dX11_unlike_41 44 48 rfl rfl (fun h4 => ?_) (fun h4 => ?_)
    · replace hf := itf h4 hf
      refine j_iconst (v := 1) hX dX11_unlike_48 49 rfl (by decide) ?_
      refine j_sub [0, 1, 2, 4] rfl ?_
      exact t_X11_unlike_49 hX hQ  hk5 x1 x2 x4 1 x3 hf
    · replace hf := itt h4 hf
      refine j_iconst (v := 0) hX dX11_unlike_44 45 rfl (by decide) ?_
      refine j_goto hX dX11_unlike_45 49 rfl ?_
      refine j_sub [0, 1, 2, 4] rfl ?_
      exact t_X11_unlike_49 hX hQ  hk5 x1 x2 x4 0 x3 hf
def f_X11_unlike_5 (m_copyRow : Nat → Int32) : Nat → (Int32 × Int32 × Int32 × Int32) → Option (Int32) :=
  lp (fun k v => g_X11_unlike_5 m_copyRow (fun x1 x2 x3 x4 => k (x1, x2, x3, x4)) v.1 v.2.1 v.2.2.1 v.2.2.2)
set_option maxRecDepth 100000 in
set_option maxHeartbeats 4000000 in
theorem u_X11_unlike_5 {Y : YT} {r : Int32}  (hX : CX l G cX11_unlike 5 RX11 Y) (hQ : EQi G Y 0 0 .int r (WM G m_code m_people m_grants m_texts m_copies m_taped m_faultPlace m_isFemale m_born m_died m_father m_mother m_fatherGrade m_motherGrade m_grantTo m_grantArms m_grantYear m_copyYear m_copyRow m_tape m_textYear m_ruleMany m_ruleFrom m_codeRow m_stack m_ruleKind m_codes m_at m_read m_token m_sign m_begins m_ends m_bad m_badPlace m_top m_lineLives m_markRow m_quarterMany m_quarters m_isUp m_wasUp ++ fr))  (n : Nat) (v : Int32 × Int32 × Int32 × Int32) (hf : f_X11_unlike_5 m_copyRow n v = some r) : J l G (rmD 1 0 0) Y 0 0 5 [(0, .ref (gm G 0)), (1, .int v.1), (2, .int v.2.1), (3, .int v.2.2.1), (4, .int v.2.2.2)] [] (WM G m_code m_people m_grants m_texts m_copies m_taped m_faultPlace m_isFemale m_born m_died m_father m_mother m_fatherGrade m_motherGrade m_grantTo m_grantArms m_grantYear m_copyYear m_copyRow m_tape m_textYear m_ruleMany m_ruleFrom m_codeRow m_stack m_ruleKind m_codes m_at m_read m_token m_sign m_begins m_ends m_bad m_badPlace m_top m_lineLives m_markRow m_quarterMany m_quarters m_isUp m_wasUp ++ fr) :=
  lp_ind (P := fun v : Int32 × Int32 × Int32 × Int32 => J l G (rmD 1 0 0) Y 0 0 5 [(0, .ref (gm G 0)), (1, .int v.1), (2, .int v.2.1), (3, .int v.2.2.1), (4, .int v.2.2.2)] [] (WM G m_code m_people m_grants m_texts m_copies m_taped m_faultPlace m_isFemale m_born m_died m_father m_mother m_fatherGrade m_motherGrade m_grantTo m_grantArms m_grantYear m_copyYear m_copyRow m_tape m_textYear m_ruleMany m_ruleFrom m_codeRow m_stack m_ruleKind m_codes m_at m_read m_token m_sign m_begins m_ends m_bad m_badPlace m_top m_lineLives m_markRow m_quarterMany m_quarters m_isUp m_wasUp ++ fr)) (fun k hk v hf => t_X11_unlike_5 hX hQ   (fun x1 x2 x3 x4 h => hk (x1, x2, x3, x4) h) v.1 v.2.1 v.2.2.1 v.2.2.2 hf) n v hf
def f_X11_unlike (fu : Nat) (m_copyRow : Nat → Int32) (x1 : Int32) (x2 : Int32) : Option (Int32) :=
  f_X11_unlike_5 m_copyRow fu (x1, x2, 0, 0)
set_option maxRecDepth 100000 in
set_option maxHeartbeats 4000000 in
theorem t_X11_unlike {fu : Nat}  (x1 : Int32) (x2 : Int32) {r : Int32} (hf : f_X11_unlike fu m_copyRow x1 x2 = some r) : Ci l G 1 0 0 yX11_unlike cX11_unlike 5 .int [.ref (gm G 0), .int x1, .int x2] (WM G m_code m_people m_grants m_texts m_copies m_taped m_faultPlace m_isFemale m_born m_died m_father m_mother m_fatherGrade m_motherGrade m_grantTo m_grantArms m_grantYear m_copyYear m_copyRow m_tape m_textYear m_ruleMany m_ruleFrom m_codeRow m_stack m_ruleKind m_codes m_at m_read m_token m_sign m_begins m_ends m_bad m_badPlace m_top m_lineLives m_markRow m_quarterMany m_quarters m_isUp m_wasUp ++ fr) r (WM G m_code m_people m_grants m_texts m_copies m_taped m_faultPlace m_isFemale m_born m_died m_father m_mother m_fatherGrade m_motherGrade m_grantTo m_grantArms m_grantYear m_copyYear m_copyRow m_tape m_textYear m_ruleMany m_ruleFrom m_codeRow m_stack m_ruleKind m_codes m_at m_read m_token m_sign m_begins m_ends m_bad m_badPlace m_top m_lineLives m_markRow m_quarterMany m_quarters m_isUp m_wasUp ++ fr) := by
  refine Ci.of (by decide) (Nat.le_of_ble_eq_true rfl) (fun Y hX hQ => ?_)
  refine j_lv (lv' := [(0, .ref (gm G 0)), (1, .int x1), (2, .int x2)]) rfl ?_
  unfold f_X11_unlike at hf
  refine j_iconst (v := 0) hX dX11_unlike_0 1 rfl (by decide) ?_
  refine j_istore_n hX dX11_unlike_1 2 rfl rfl (by decide) (lv' := [(3, .int 0), (0, .ref (gm G 0)), (1, .int x1), (2, .int x2)]) rfl ?_
  refine j_iconst (v := 0) hX dX11_unlike_2 3 rfl (by decide) ?_
  refine j_istore hX dX11_unlike_3 5 rfl (by decide) (lv' := [(4, .int 0), (3, .int 0), (0, .ref (gm G 0)), (1, .int x1), (2, .int x2)]) rfl ?_
  refine j_sub [2, 3, 4, 1, 0] rfl ?_
  exact u_X11_unlike_5 hX hQ   fu (x1, x2, 0, 0) hf
def g_X11_takenFrom_112 (s0 : Int32) : Option (Int32) :=
  some s0
set_option maxRecDepth 100000 in
set_option maxHeartbeats 4000000 in
theorem t_X11_takenFrom_112 {Y : YT} {r : Int32}  (hX : CX l G cX11_takenFrom 5 RX11 Y) (hQ : EQi G Y 0 0 .int r (WM G m_code m_people m_grants m_texts m_copies m_taped m_faultPlace m_isFemale m_born m_died m_father m_mother m_fatherGrade m_motherGrade m_grantTo m_grantArms m_grantYear m_copyYear m_copyRow m_tape m_textYear m_ruleMany m_ruleFrom m_codeRow m_stack m_ruleKind m_codes m_at m_read m_token m_sign m_begins m_ends m_bad m_badPlace m_top m_lineLives m_markRow m_quarterMany m_quarters m_isUp m_wasUp ++ fr))  (s0 : Int32) (hf : g_X11_takenFrom_112 s0 = some r) : J l G (rmD 2 0 0) Y 0 0 112 [] [.int s0] (WM G m_code m_people m_grants m_texts m_copies m_taped m_faultPlace m_isFemale m_born m_died m_father m_mother m_fatherGrade m_motherGrade m_grantTo m_grantArms m_grantYear m_copyYear m_copyRow m_tape m_textYear m_ruleMany m_ruleFrom m_codeRow m_stack m_ruleKind m_codes m_at m_read m_token m_sign m_begins m_ends m_bad m_badPlace m_top m_lineLives m_markRow m_quarterMany m_quarters m_isUp m_wasUp ++ fr) := by
  unfold g_X11_takenFrom_112 at hf
  replace hf := Option.some.inj hf
  subst hf
  exact j_iret hX hQ dX11_takenFrom_112
def g_X11_takenFrom_107  : Option (Int32) :=
  g_X11_takenFrom_112 ((-1))
set_option maxRecDepth 100000 in
set_option maxHeartbeats 4000000 in
theorem t_X11_takenFrom_107 {Y : YT} {r : Int32}  (hX : CX l G cX11_takenFrom 5 RX11 Y) (hQ : EQi G Y 0 0 .int r (WM G m_code m_people m_grants m_texts m_copies m_taped m_faultPlace m_isFemale m_born m_died m_father m_mother m_fatherGrade m_motherGrade m_grantTo m_grantArms m_grantYear m_copyYear m_copyRow m_tape m_textYear m_ruleMany m_ruleFrom m_codeRow m_stack m_ruleKind m_codes m_at m_read m_token m_sign m_begins m_ends m_bad m_badPlace m_top m_lineLives m_markRow m_quarterMany m_quarters m_isUp m_wasUp ++ fr))   (hf : g_X11_takenFrom_107  = some r) : J l G (rmD 2 0 0) Y 0 0 107 [] [] (WM G m_code m_people m_grants m_texts m_copies m_taped m_faultPlace m_isFemale m_born m_died m_father m_mother m_fatherGrade m_motherGrade m_grantTo m_grantArms m_grantYear m_copyYear m_copyRow m_tape m_textYear m_ruleMany m_ruleFrom m_codeRow m_stack m_ruleKind m_codes m_at m_read m_token m_sign m_begins m_ends m_bad m_badPlace m_top m_lineLives m_markRow m_quarterMany m_quarters m_isUp m_wasUp ++ fr) := by
  unfold g_X11_takenFrom_107 at hf
  refine j_iconst (v := (-1)) hX dX11_takenFrom_107 108 rfl (by decide) ?_
  refine j_goto hX dX11_takenFrom_108 112 rfl ?_
  exact t_X11_takenFrom_112 hX hQ   ((-1)) hf
def g_X11_takenFrom_86 (k4 : Int32 → Int32 → Int32 → Option (Int32)) (x1 : Int32) (x2 : Int32) (x3 : Int32) : Option (Int32) :=
  k4 x1 x2 (x3 + 1)
set_option maxRecDepth 100000 in
set_option maxHeartbeats 4000000 in
theorem t_X11_takenFrom_86 {Y : YT} {r : Int32} {k4 : Int32 → Int32 → Int32 → Option (Int32)} (hX : CX l G cX11_takenFrom 5 RX11 Y) (hQ : EQi G Y 0 0 .int r (WM G m_code m_people m_grants m_texts m_copies m_taped m_faultPlace m_isFemale m_born m_died m_father m_mother m_fatherGrade m_motherGrade m_grantTo m_grantArms m_grantYear m_copyYear m_copyRow m_tape m_textYear m_ruleMany m_ruleFrom m_codeRow m_stack m_ruleKind m_codes m_at m_read m_token m_sign m_begins m_ends m_bad m_badPlace m_top m_lineLives m_markRow m_quarterMany m_quarters m_isUp m_wasUp ++ fr)) (hk4 : ∀ (x1 : Int32) (x2 : Int32) (x3 : Int32), k4 x1 x2 x3  = some r → J l G (rmD 2 0 0) Y 0 0 4 [(0, .ref (gm G 0)), (1, .int x1), (2, .int x2), (3, .int x3)] [] (WM G m_code m_people m_grants m_texts m_copies m_taped m_faultPlace m_isFemale m_born m_died m_father m_mother m_fatherGrade m_motherGrade m_grantTo m_grantArms m_grantYear m_copyYear m_copyRow m_tape m_textYear m_ruleMany m_ruleFrom m_codeRow m_stack m_ruleKind m_codes m_at m_read m_token m_sign m_begins m_ends m_bad m_badPlace m_top m_lineLives m_markRow m_quarterMany m_quarters m_isUp m_wasUp ++ fr)) (x1 : Int32) (x2 : Int32) (x3 : Int32) (hf : g_X11_takenFrom_86 k4 x1 x2 x3 = some r) : J l G (rmD 2 0 0) Y 0 0 86 [(0, .ref (gm G 0)), (1, .int x1), (2, .int x2), (3, .int x3)] [] (WM G m_code m_people m_grants m_texts m_copies m_taped m_faultPlace m_isFemale m_born m_died m_father m_mother m_fatherGrade m_motherGrade m_grantTo m_grantArms m_grantYear m_copyYear m_copyRow m_tape m_textYear m_ruleMany m_ruleFrom m_codeRow m_stack m_ruleKind m_codes m_at m_read m_token m_sign m_begins m_ends m_bad m_badPlace m_top m_lineLives m_markRow m_quarterMany m_quarters m_isUp m_wasUp ++ fr) := by
  unfold g_X11_takenFrom_86 at hf
  refine j_iinc (v := x3 + 1) hX dX11_takenFrom_86 89 rfl 3 rfl rfl (by decide) (lv' := [(3, .int (x3 + 1)), (0, .ref (gm G 0)), (1, .int x1), (2, .int x2)]) rfl ?_
  refine j_goto hX dX11_takenFrom_89 4 rfl ?_
  refine j_sub [1, 2, 3, 0] rfl ?_
  exact hk4 x1 x2 (x3 + 1) hf
def g_X11_takenFrom_84 (k4 : Int32 → Int32 → Int32 → Option (Int32)) (x1 : Int32) (x3 : Int32) : Option (Int32) :=
  g_X11_takenFrom_86 k4 x1 x3 x3
set_option maxRecDepth 100000 in
set_option maxHeartbeats 4000000 in
theorem t_X11_takenFrom_84 {Y : YT} {r : Int32} {k4 : Int32 → Int32 → Int32 → Option (Int32)} (hX : CX l G cX11_takenFrom 5 RX11 Y) (hQ : EQi G Y 0 0 .int r (WM G m_code m_people m_grants m_texts m_copies m_taped m_faultPlace m_isFemale m_born m_died m_father m_mother m_fatherGrade m_motherGrade m_grantTo m_grantArms m_grantYear m_copyYear m_copyRow m_tape m_textYear m_ruleMany m_ruleFrom m_codeRow m_stack m_ruleKind m_codes m_at m_read m_token m_sign m_begins m_ends m_bad m_badPlace m_top m_lineLives m_markRow m_quarterMany m_quarters m_isUp m_wasUp ++ fr)) (hk4 : ∀ (x1 : Int32) (x2 : Int32) (x3 : Int32), k4 x1 x2 x3  = some r → J l G (rmD 2 0 0) Y 0 0 4 [(0, .ref (gm G 0)), (1, .int x1), (2, .int x2), (3, .int x3)] [] (WM G m_code m_people m_grants m_texts m_copies m_taped m_faultPlace m_isFemale m_born m_died m_father m_mother m_fatherGrade m_motherGrade m_grantTo m_grantArms m_grantYear m_copyYear m_copyRow m_tape m_textYear m_ruleMany m_ruleFrom m_codeRow m_stack m_ruleKind m_codes m_at m_read m_token m_sign m_begins m_ends m_bad m_badPlace m_top m_lineLives m_markRow m_quarterMany m_quarters m_isUp m_wasUp ++ fr)) (x1 : Int32) (x3 : Int32) (hf : g_X11_takenFrom_84 k4 x1 x3 = some r) : J l G (rmD 2 0 0) Y 0 0 84 [(0, .ref (gm G 0)), (1, .int x1), (3, .int x3)] [] (WM G m_code m_people m_grants m_texts m_copies m_taped m_faultPlace m_isFemale m_born m_died m_father m_mother m_fatherGrade m_motherGrade m_grantTo m_grantArms m_grantYear m_copyYear m_copyRow m_tape m_textYear m_ruleMany m_ruleFrom m_codeRow m_stack m_ruleKind m_codes m_at m_read m_token m_sign m_begins m_ends m_bad m_badPlace m_top m_lineLives m_markRow m_quarterMany m_quarters m_isUp m_wasUp ++ fr) := by
  unfold g_X11_takenFrom_84 at hf
  refine j_iload_n hX dX11_takenFrom_84 85 rfl 2 rfl rfl ?_
  refine j_istore_n hX dX11_takenFrom_85 86 rfl rfl (by decide) (lv' := [(2, .int x3), (0, .ref (gm G 0)), (1, .int x1), (3, .int x3)]) rfl ?_
  refine j_sub [1, 2, 0, 3] rfl ?_
  exact t_X11_takenFrom_86 hX hQ  hk4 x1 x3 x3 hf
def g_X11_takenFrom_52 (m_copyYear : Nat → Int32) (k4 : Int32 → Int32 → Int32 → Option (Int32)) (x1 : Int32) (x2 : Int32) (x3 : Int32) (s0 : Int32) : Option (Int32) :=
  if x2 = ((-1)) then g_X11_takenFrom_84 k4 x1 x3 else if s0 < 0 then g_X11_takenFrom_84 k4 x1 x3 else if s0 = 0 then if inb x3 40 = true then if inb x2 40 = true then if (m_copyYear (Int32.toNatClampNeg x3)) ≤ (m_copyYear (Int32.toNatClampNeg x2)) then g_X11_takenFrom_86 k4 x1 x2 x3 else g_X11_takenFrom_84 k4 x1 x3 else none else none else g_X11_takenFrom_86 k4 x1 x2 x3
set_option maxRecDepth 100000 in
set_option maxHeartbeats 4000000 in
theorem t_X11_takenFrom_52 {Y : YT} {r : Int32} {k4 : Int32 → Int32 → Int32 → Option (Int32)} (hX : CX l G cX11_takenFrom 5 RX11 Y) (hQ : EQi G Y 0 0 .int r (WM G m_code m_people m_grants m_texts m_copies m_taped m_faultPlace m_isFemale m_born m_died m_father m_mother m_fatherGrade m_motherGrade m_grantTo m_grantArms m_grantYear m_copyYear m_copyRow m_tape m_textYear m_ruleMany m_ruleFrom m_codeRow m_stack m_ruleKind m_codes m_at m_read m_token m_sign m_begins m_ends m_bad m_badPlace m_top m_lineLives m_markRow m_quarterMany m_quarters m_isUp m_wasUp ++ fr)) (hk4 : ∀ (x1 : Int32) (x2 : Int32) (x3 : Int32), k4 x1 x2 x3  = some r → J l G (rmD 2 0 0) Y 0 0 4 [(0, .ref (gm G 0)), (1, .int x1), (2, .int x2), (3, .int x3)] [] (WM G m_code m_people m_grants m_texts m_copies m_taped m_faultPlace m_isFemale m_born m_died m_father m_mother m_fatherGrade m_motherGrade m_grantTo m_grantArms m_grantYear m_copyYear m_copyRow m_tape m_textYear m_ruleMany m_ruleFrom m_codeRow m_stack m_ruleKind m_codes m_at m_read m_token m_sign m_begins m_ends m_bad m_badPlace m_top m_lineLives m_markRow m_quarterMany m_quarters m_isUp m_wasUp ++ fr)) (x1 : Int32) (x2 : Int32) (x3 : Int32) (s0 : Int32) (hf : g_X11_takenFrom_52 m_copyYear k4 x1 x2 x3 s0 = some r) : J l G (rmD 2 0 0) Y 0 0 52 [(0, .ref (gm G 0)), (1, .int x1), (2, .int x2), (3, .int x3)] [.int s0] (WM G m_code m_people m_grants m_texts m_copies m_taped m_faultPlace m_isFemale m_born m_died m_father m_mother m_fatherGrade m_motherGrade m_grantTo m_grantArms m_grantYear m_copyYear m_copyRow m_tape m_textYear m_ruleMany m_ruleFrom m_codeRow m_stack m_ruleKind m_codes m_at m_read m_token m_sign m_begins m_ends m_bad m_badPlace m_top m_lineLives m_markRow m_quarterMany m_quarters m_isUp m_wasUp ++ fr) := by
  unfold g_X11_takenFrom_52 at hf
  refine j_istore hX dX11_takenFrom_52 54 rfl (by decide) (lv' := [(4, .int s0), (0, .ref (gm G 0)), (1, .int x1), (2, .int x2), (3, .int x3)]) rfl ?_
  refine j_iload_n hX dX11_takenFrom_54 55 rfl 3 rfl rfl ?_
  refine j_iconst (v := (-1)) hX dX11_takenFrom_55 56 rfl (by decide) ?_
  refine j_icmp_eq hX dX11_takenFrom_56 59 84 rfl rfl (fun h11 => ?_) (fun h11 => ?_)
  · replace hf := itt h11 hf
    refine j_sub [1, 2, 4] rfl ?_
    exact t_X11_takenFrom_84 hX hQ  hk4 x1 x3 hf
  · replace hf := itf h11 hf
    refine j_iload hX dX11_takenFrom_59 61 rfl 0 rfl ?_
    refine j_if_lt hX dX11_takenFrom_61 64 84 rfl rfl (fun h12 => ?_) (fun h12 => ?_)
    · replace hf := itt h12 hf
      refine j_sub [1, 2, 4] rfl ?_
      exact t_X11_takenFrom_84 hX hQ  hk4 x1 x3 hf
    · replace hf := itf h12 hf
      refine j_iload hX dX11_takenFrom_64 66 rfl 0 rfl ?_
      refine j_if_ne hX dX11_takenFrom_66 69 86 rfl rfl (fun h13 => ?_) (fun h13 => ?_)
      · replace hf := itf h13 hf
        refine j_sub [1, 2, 3, 4] rfl ?_
        exact t_X11_takenFrom_86 hX hQ  hk4 x1 x2 x3 hf
      · replace hf := itt h13 hf
        refine j_aload_n hX dX11_takenFrom_69 70 rfl 1 rfl rfl ?_
        refine j_get hX dX11_takenFrom_70 73 rfl fg_X11_66 0 rfl rfl ?_
        refine j_iload_n hX dX11_takenFrom_73 74 rfl 4 rfl rfl ?_
        obtain ⟨hb14, hf⟩ := ign hf
        refine j_iald hX dX11_takenFrom_74 75 rfl 12 rfl hb14 ?_
        refine j_aload_n hX dX11_takenFrom_75 76 rfl 1 rfl rfl ?_
        refine j_get hX dX11_takenFrom_76 79 rfl fg_X11_66 0 rfl rfl ?_
        refine j_iload_n hX dX11_takenFrom_79 80 rfl 3 rfl rfl ?_
        obtain ⟨hb15, hf⟩ := ign hf
        refine j_iald hX dX11_takenFrom_80 81 rfl 12 rfl hb15 ?_
        refine j_icmp_le hX dX11_takenFrom_81 84 86 rfl rfl (fun h16 => ?_) (fun h16 => ?_)
        · replace hf := itt h16 hf
          refine j_sub [1, 2, 3, 4] rfl ?_
          exact t_X11_takenFrom_86 hX hQ  hk4 x1 x2 x3 hf
        · replace hf := itf h16 hf
          refine j_sub [1, 2, 4] rfl ?_
          exact t_X11_takenFrom_84 hX hQ  hk4 x1 x3 hf
def g_X11_takenFrom_4 (fu : Nat) (m_copies : Int32) (m_copyYear : Nat → Int32) (m_copyRow : Nat → Int32) (k4 : Int32 → Int32 → Int32 → Option (Int32)) (x1 : Int32) (x2 : Int32) (x3 : Int32) : Option (Int32) :=
  if m_copies ≤ x3 then if x2 = ((-1)) then g_X11_takenFrom_107  else (f_X11_unlike fu m_copyRow x1 x2).bind fun v3 => if v3 ≤ 4 then g_X11_takenFrom_112 x2 else g_X11_takenFrom_107  else if inb x3 40 = true then if inb x1 40 = true then if (m_copyYear (Int32.toNatClampNeg x3)) < (m_copyYear (Int32.toNatClampNeg x1)) then if x2 = ((-1)) then g_X11_takenFrom_52 m_copyYear k4 x1 x2 x3 0 else (f_X11_unlike fu m_copyRow x1 x3).bind fun v9 => (f_X11_unlike fu m_copyRow x1 x2).bind fun v10 => g_X11_takenFrom_52 m_copyYear k4 x1 x2 x3 (v9 - v10) else g_X11_takenFrom_86 k4 x1 x2 x3 else none else none
set_option maxRecDepth 100000 in
set_option maxHeartbeats 4000000 in
theorem t_X11_takenFrom_4 {fu : Nat} {Y : YT} {r : Int32} {k4 : Int32 → Int32 → Int32 → Option (Int32)} (hX : CX l G cX11_takenFrom 5 RX11 Y) (hQ : EQi G Y 0 0 .int r (WM G m_code m_people m_grants m_texts m_copies m_taped m_faultPlace m_isFemale m_born m_died m_father m_mother m_fatherGrade m_motherGrade m_grantTo m_grantArms m_grantYear m_copyYear m_copyRow m_tape m_textYear m_ruleMany m_ruleFrom m_codeRow m_stack m_ruleKind m_codes m_at m_read m_token m_sign m_begins m_ends m_bad m_badPlace m_top m_lineLives m_markRow m_quarterMany m_quarters m_isUp m_wasUp ++ fr)) (hk4 : ∀ (x1 : Int32) (x2 : Int32) (x3 : Int32), k4 x1 x2 x3  = some r → J l G (rmD 2 0 0) Y 0 0 4 [(0, .ref (gm G 0)), (1, .int x1), (2, .int x2), (3, .int x3)] [] (WM G m_code m_people m_grants m_texts m_copies m_taped m_faultPlace m_isFemale m_born m_died m_father m_mother m_fatherGrade m_motherGrade m_grantTo m_grantArms m_grantYear m_copyYear m_copyRow m_tape m_textYear m_ruleMany m_ruleFrom m_codeRow m_stack m_ruleKind m_codes m_at m_read m_token m_sign m_begins m_ends m_bad m_badPlace m_top m_lineLives m_markRow m_quarterMany m_quarters m_isUp m_wasUp ++ fr)) (x1 : Int32) (x2 : Int32) (x3 : Int32) (hf : g_X11_takenFrom_4 fu m_copies m_copyYear m_copyRow k4 x1 x2 x3 = some r) : J l G (rmD 2 0 0) Y 0 0 4 [(0, .ref (gm G 0)), (1, .int x1), (2, .int x2), (3, .int x3)] [] (WM G m_code m_people m_grants m_texts m_copies m_taped m_faultPlace m_isFemale m_born m_died m_father m_mother m_fatherGrade m_motherGrade m_grantTo m_grantArms m_grantYear m_copyYear m_copyRow m_tape m_textYear m_ruleMany m_ruleFrom m_codeRow m_stack m_ruleKind m_codes m_at m_read m_token m_sign m_begins m_ends m_bad m_badPlace m_top m_lineLives m_markRow m_quarterMany m_quarters m_isUp m_wasUp ++ fr) := by
  unfold g_X11_takenFrom_4 at hf
  refine j_iload_n hX dX11_takenFrom_4 5 rfl 3 rfl rfl ?_
  refine j_aload_n hX dX11_takenFrom_5 6 rfl 0 rfl rfl ?_
  refine j_get hX dX11_takenFrom_6 9 rfl fg_X11_306 0 rfl rfl ?_
  refine j_icmp_ge hX dX11_takenFrom_9 12 92 rfl rfl (fun h1 => ?_) (fun h1 => ?_)
  · replace hf := itt h1 hf
    refine j_iload_n hX dX11_takenFrom_92 93 rfl 2 rfl rfl ?_
    refine j_iconst (v := (-1)) hX dX11_takenFrom_93 94 rfl (by decide) ?_
    refine j_icmp_eq hX dX11_takenFrom_94 97 107 rfl rfl (fun h2 => ?_) (fun h2 => ?_)
    · replace hf := itt h2 hf
      refine j_sub [] rfl ?_
      exact t_X11_takenFrom_107 hX hQ    hf
    · replace hf := itf h2 hf
      refine j_aload_n hX dX11_takenFrom_97 98 rfl 0 rfl rfl ?_
      refine j_iload_n hX dX11_takenFrom_98 99 rfl 1 rfl rfl ?_
      refine j_iload_n hX dX11_takenFrom_99 100 rfl 2 rfl rfl ?_
      obtain ⟨v3, hv3, hf⟩ := ibd hf
      refine z_i (As := [.int x1, .int x2]) (rest := []) (q0 := 0) hX dX11_takenFrom_100 103 rfl (t_X11_unlike x1 x2 hv3) mc_X11_unlike mv_X11_unlike ml_X11_309 rfl rfl (Nat.le_of_ble_eq_true rfl) (Nat.le_refl _) (Nat.le_refl _) rfl (Nat.le_of_ble_eq_true rfl) ?_
      refine j_iconst (v := 4) hX dX11_takenFrom_103 104 rfl (by decide) ?_
      refine j_icmp_le hX dX11_takenFrom_104 107 111 rfl rfl (fun h4 => ?_) (fun h4 => ?_)
      · replace hf := itt h4 hf
        refine j_iload_n hX dX11_takenFrom_111 112 rfl 2 rfl rfl ?_
        refine j_sub [] rfl ?_
        exact t_X11_takenFrom_112 hX hQ   x2 hf
      · replace hf := itf h4 hf
        refine j_sub [] rfl ?_
        exact t_X11_takenFrom_107 hX hQ    hf
  · replace hf := itf h1 hf
    refine j_aload_n hX dX11_takenFrom_12 13 rfl 0 rfl rfl ?_
    refine j_get hX dX11_takenFrom_13 16 rfl fg_X11_66 0 rfl rfl ?_
    refine j_iload_n hX dX11_takenFrom_16 17 rfl 3 rfl rfl ?_
    obtain ⟨hb5, hf⟩ := ign hf
    refine j_iald hX dX11_takenFrom_17 18 rfl 12 rfl hb5 ?_
    refine j_aload_n hX dX11_takenFrom_18 19 rfl 0 rfl rfl ?_
    refine j_get hX dX11_takenFrom_19 22 rfl fg_X11_66 0 rfl rfl ?_
    refine j_iload_n hX dX11_takenFrom_22 23 rfl 1 rfl rfl ?_
    obtain ⟨hb6, hf⟩ := ign hf
    refine j_iald hX dX11_takenFrom_23 24 rfl 12 rfl hb6 ?_
    refine j_icmp_lt hX dX11_takenFrom_24 27 30 rfl rfl (fun h7 => ?_) (fun h7 => ?_)
    · replace hf := itt h7 hf
      refine j_iload_n hX dX11_takenFrom_30 31 rfl 2 rfl rfl ?_
      refine j_iconst (v := (-1)) hX dX11_takenFrom_31 32 rfl (by decide) ?_
      refine j_icmp_ne hX dX11_takenFrom_32 35 39 rfl rfl (fun h8 => ?_) (fun h8 => ?_)
      · replace hf := itf h8 hf
        refine j_aload_n hX dX11_takenFrom_39 40 rfl 0 rfl rfl ?_
        refine j_iload_n hX dX11_takenFrom_40 41 rfl 1 rfl rfl ?_
        refine j_iload_n hX dX11_takenFrom_41 42 rfl 3 rfl rfl ?_
        obtain ⟨v9, hv9, hf⟩ := ibd hf
        refine z_i (As := [.int x1, .int x3]) (rest := []) (q0 := 0) hX dX11_takenFrom_42 45 rfl (t_X11_unlike x1 x3 hv9) mc_X11_unlike mv_X11_unlike ml_X11_309 rfl rfl (Nat.le_of_ble_eq_true rfl) (Nat.le_refl _) (Nat.le_refl _) rfl (Nat.le_of_ble_eq_true rfl) ?_
        refine j_aload_n hX dX11_takenFrom_45 46 rfl 0 rfl rfl ?_
        refine j_iload_n hX dX11_takenFrom_46 47 rfl 1 rfl rfl ?_
        refine j_iload_n hX dX11_takenFrom_47 48 rfl 2 rfl rfl ?_
        obtain ⟨v10, hv10, hf⟩ := ibd hf
        refine z_i (As := [.int x1, .int x2]) (rest := [.int v9]) (q0 := 0) hX dX11_takenFrom_48 51 rfl (t_X11_unlike x1 x2 hv10) mc_X11_unlike mv_X11_unlike ml_X11_309 rfl rfl (Nat.le_of_ble_eq_true rfl) (Nat.le_refl _) (Nat.le_refl _) rfl (Nat.le_of_ble_eq_true rfl) ?_
        refine j_isub hX dX11_takenFrom_51 52 rfl ?_
        exact t_X11_takenFrom_52 hX hQ  hk4 x1 x2 x3 (v9 - v10) hf
      · replace hf := itt h8 hf
        refine j_iconst (v := 0) hX dX11_takenFrom_35 36 rfl (by decide) ?_
        refine j_goto hX dX11_takenFrom_36 52 rfl ?_
        exact t_X11_takenFrom_52 hX hQ  hk4 x1 x2 x3 0 hf
    · replace hf := itf h7 hf
      refine j_goto hX dX11_takenFrom_27 86 rfl ?_
      exact t_X11_takenFrom_86 hX hQ  hk4 x1 x2 x3 hf
def f_X11_takenFrom_4 (fu : Nat) (m_copies : Int32) (m_copyYear : Nat → Int32) (m_copyRow : Nat → Int32) : Nat → (Int32 × Int32 × Int32) → Option (Int32) :=
  lp (fun k v => g_X11_takenFrom_4 fu m_copies m_copyYear m_copyRow (fun x1 x2 x3 => k (x1, x2, x3)) v.1 v.2.1 v.2.2)
set_option maxRecDepth 100000 in
set_option maxHeartbeats 4000000 in
theorem u_X11_takenFrom_4 {fu : Nat} {Y : YT} {r : Int32}  (hX : CX l G cX11_takenFrom 5 RX11 Y) (hQ : EQi G Y 0 0 .int r (WM G m_code m_people m_grants m_texts m_copies m_taped m_faultPlace m_isFemale m_born m_died m_father m_mother m_fatherGrade m_motherGrade m_grantTo m_grantArms m_grantYear m_copyYear m_copyRow m_tape m_textYear m_ruleMany m_ruleFrom m_codeRow m_stack m_ruleKind m_codes m_at m_read m_token m_sign m_begins m_ends m_bad m_badPlace m_top m_lineLives m_markRow m_quarterMany m_quarters m_isUp m_wasUp ++ fr))  (n : Nat) (v : Int32 × Int32 × Int32) (hf : f_X11_takenFrom_4 fu m_copies m_copyYear m_copyRow n v = some r) : J l G (rmD 2 0 0) Y 0 0 4 [(0, .ref (gm G 0)), (1, .int v.1), (2, .int v.2.1), (3, .int v.2.2)] [] (WM G m_code m_people m_grants m_texts m_copies m_taped m_faultPlace m_isFemale m_born m_died m_father m_mother m_fatherGrade m_motherGrade m_grantTo m_grantArms m_grantYear m_copyYear m_copyRow m_tape m_textYear m_ruleMany m_ruleFrom m_codeRow m_stack m_ruleKind m_codes m_at m_read m_token m_sign m_begins m_ends m_bad m_badPlace m_top m_lineLives m_markRow m_quarterMany m_quarters m_isUp m_wasUp ++ fr) :=
  lp_ind (P := fun v : Int32 × Int32 × Int32 => J l G (rmD 2 0 0) Y 0 0 4 [(0, .ref (gm G 0)), (1, .int v.1), (2, .int v.2.1), (3, .int v.2.2)] [] (WM G m_code m_people m_grants m_texts m_copies m_taped m_faultPlace m_isFemale m_born m_died m_father m_mother m_fatherGrade m_motherGrade m_grantTo m_grantArms m_grantYear m_copyYear m_copyRow m_tape m_textYear m_ruleMany m_ruleFrom m_codeRow m_stack m_ruleKind m_codes m_at m_read m_token m_sign m_begins m_ends m_bad m_badPlace m_top m_lineLives m_markRow m_quarterMany m_quarters m_isUp m_wasUp ++ fr)) (fun k hk v hf => t_X11_takenFrom_4 hX hQ   (fun x1 x2 x3 h => hk (x1, x2, x3) h) v.1 v.2.1 v.2.2 hf) n v hf
def f_X11_takenFrom (fu : Nat) (m_copies : Int32) (m_copyYear : Nat → Int32) (m_copyRow : Nat → Int32) (x1 : Int32) : Option (Int32) :=
  f_X11_takenFrom_4 fu m_copies m_copyYear m_copyRow fu (x1, (-1), 0)
set_option maxRecDepth 100000 in
set_option maxHeartbeats 4000000 in
theorem t_X11_takenFrom {fu : Nat}  (x1 : Int32) {r : Int32} (hf : f_X11_takenFrom fu m_copies m_copyYear m_copyRow x1 = some r) : Ci l G 2 0 0 yX11_takenFrom cX11_takenFrom 5 .int [.ref (gm G 0), .int x1] (WM G m_code m_people m_grants m_texts m_copies m_taped m_faultPlace m_isFemale m_born m_died m_father m_mother m_fatherGrade m_motherGrade m_grantTo m_grantArms m_grantYear m_copyYear m_copyRow m_tape m_textYear m_ruleMany m_ruleFrom m_codeRow m_stack m_ruleKind m_codes m_at m_read m_token m_sign m_begins m_ends m_bad m_badPlace m_top m_lineLives m_markRow m_quarterMany m_quarters m_isUp m_wasUp ++ fr) r (WM G m_code m_people m_grants m_texts m_copies m_taped m_faultPlace m_isFemale m_born m_died m_father m_mother m_fatherGrade m_motherGrade m_grantTo m_grantArms m_grantYear m_copyYear m_copyRow m_tape m_textYear m_ruleMany m_ruleFrom m_codeRow m_stack m_ruleKind m_codes m_at m_read m_token m_sign m_begins m_ends m_bad m_badPlace m_top m_lineLives m_markRow m_quarterMany m_quarters m_isUp m_wasUp ++ fr) := by
  refine Ci.of (by decide) (Nat.le_of_ble_eq_true rfl) (fun Y hX hQ => ?_)
  refine j_lv (lv' := [(0, .ref (gm G 0)), (1, .int x1)]) rfl ?_
  unfold f_X11_takenFrom at hf
  refine j_iconst (v := (-1)) hX dX11_takenFrom_0 1 rfl (by decide) ?_
  refine j_istore_n hX dX11_takenFrom_1 2 rfl rfl (by decide) (lv' := [(2, .int ((-1))), (0, .ref (gm G 0)), (1, .int x1)]) rfl ?_
  refine j_iconst (v := 0) hX dX11_takenFrom_2 3 rfl (by decide) ?_
  refine j_istore_n hX dX11_takenFrom_3 4 rfl rfl (by decide) (lv' := [(3, .int 0), (2, .int ((-1))), (0, .ref (gm G 0)), (1, .int x1)]) rfl ?_
  refine j_sub [2, 3, 1, 0] rfl ?_
  exact u_X11_takenFrom_4 hX hQ   fu (x1, (-1), 0) hf
def g_X11_of_26  : Option (Int32 × Int32) :=
  (f_X11_fail ).bind fun v2 => some (v2.1, v2.2)
set_option maxRecDepth 100000 in
set_option maxHeartbeats 4000000 in
theorem t_X11_of_26 {Y : YT} {r : Int32 × Int32}  (hX : CX l G cX11_of 8 RX11 Y) (hQ : EQi G Y 0 0 .int r.1 (WM G r.2 m_people m_grants m_texts m_copies m_taped m_faultPlace m_isFemale m_born m_died m_father m_mother m_fatherGrade m_motherGrade m_grantTo m_grantArms m_grantYear m_copyYear m_copyRow m_tape m_textYear m_ruleMany m_ruleFrom m_codeRow m_stack m_ruleKind m_codes m_at m_read m_token m_sign m_begins m_ends m_bad m_badPlace m_top m_lineLives m_markRow m_quarterMany m_quarters m_isUp m_wasUp ++ fr))   (hf : g_X11_of_26  = some r) : J l G (rmD 3 0 0) Y 0 0 26 [(0, .ref (gm G 0))] [] (WM G m_code m_people m_grants m_texts m_copies m_taped m_faultPlace m_isFemale m_born m_died m_father m_mother m_fatherGrade m_motherGrade m_grantTo m_grantArms m_grantYear m_copyYear m_copyRow m_tape m_textYear m_ruleMany m_ruleFrom m_codeRow m_stack m_ruleKind m_codes m_at m_read m_token m_sign m_begins m_ends m_bad m_badPlace m_top m_lineLives m_markRow m_quarterMany m_quarters m_isUp m_wasUp ++ fr) := by
  unfold g_X11_of_26 at hf
  refine j_aload_n hX dX11_of_26 27 rfl 0 rfl rfl ?_
  obtain ⟨v2, hv2, hf⟩ := ibd hf
  refine z_i (As := []) (rest := []) (q0 := 0) hX dX11_of_27 30 rfl (t_X11_fail  hv2) mc_X11_fail mv_X11_fail ml_X11_127 rfl rfl (Nat.le_of_ble_eq_true rfl) (Nat.le_refl _) (Nat.le_refl _) rfl (Nat.le_of_ble_eq_true rfl) ?_
  replace hf := Option.some.inj hf
  subst hf
  exact j_iret hX hQ dX11_of_30
def g_X11_of_170 (m_code : Int32) (s0 : Int32) : Option (Int32 × Int32) :=
  some (s0, m_code)
set_option maxRecDepth 100000 in
set_option maxHeartbeats 4000000 in
theorem t_X11_of_170 {Y : YT} {r : Int32 × Int32}  (hX : CX l G cX11_of 8 RX11 Y) (hQ : EQi G Y 0 0 .int r.1 (WM G r.2 m_people m_grants m_texts m_copies m_taped m_faultPlace m_isFemale m_born m_died m_father m_mother m_fatherGrade m_motherGrade m_grantTo m_grantArms m_grantYear m_copyYear m_copyRow m_tape m_textYear m_ruleMany m_ruleFrom m_codeRow m_stack m_ruleKind m_codes m_at m_read m_token m_sign m_begins m_ends m_bad m_badPlace m_top m_lineLives m_markRow m_quarterMany m_quarters m_isUp m_wasUp ++ fr))  (s0 : Int32) (hf : g_X11_of_170 m_code s0 = some r) : J l G (rmD 3 0 0) Y 0 0 170 [] [.int s0] (WM G m_code m_people m_grants m_texts m_copies m_taped m_faultPlace m_isFemale m_born m_died m_father m_mother m_fatherGrade m_motherGrade m_grantTo m_grantArms m_grantYear m_copyYear m_copyRow m_tape m_textYear m_ruleMany m_ruleFrom m_codeRow m_stack m_ruleKind m_codes m_at m_read m_token m_sign m_begins m_ends m_bad m_badPlace m_top m_lineLives m_markRow m_quarterMany m_quarters m_isUp m_wasUp ++ fr) := by
  unfold g_X11_of_170 at hf
  replace hf := Option.some.inj hf
  subst hf
  exact j_iret hX hQ dX11_of_170
def g_X11_of_139 (m_code : Int32) (k113 : Int32 → Int32 → Int32 → Int32 → Int32 → Int32 → Int32 → Option (Int32 × Int32)) (x1 : Int32) (x2 : Int32) (x4 : Int32) (x5 : Int32) (x7 : Int32) (s0 : Int32) (s1 : Int32) : Option (Int32 × Int32) :=
  k113 x1 x2 x4 x5 (s1 + s0) (x7 + 1) m_code
set_option maxRecDepth 100000 in
set_option maxHeartbeats 4000000 in
theorem t_X11_of_139 {Y : YT} {r : Int32 × Int32} {k113 : Int32 → Int32 → Int32 → Int32 → Int32 → Int32 → Int32 → Option (Int32 × Int32)} (hX : CX l G cX11_of 8 RX11 Y) (hQ : EQi G Y 0 0 .int r.1 (WM G r.2 m_people m_grants m_texts m_copies m_taped m_faultPlace m_isFemale m_born m_died m_father m_mother m_fatherGrade m_motherGrade m_grantTo m_grantArms m_grantYear m_copyYear m_copyRow m_tape m_textYear m_ruleMany m_ruleFrom m_codeRow m_stack m_ruleKind m_codes m_at m_read m_token m_sign m_begins m_ends m_bad m_badPlace m_top m_lineLives m_markRow m_quarterMany m_quarters m_isUp m_wasUp ++ fr)) (hk113 : ∀ (x1 : Int32) (x2 : Int32) (x4 : Int32) (x5 : Int32) (x6 : Int32) (x7 : Int32) (m_code : Int32), k113 x1 x2 x4 x5 x6 x7 m_code = some r → J l G (rmD 3 0 0) Y 0 0 113 [(0, .ref (gm G 0)), (1, .int x1), (2, .int x2), (4, .int x4), (5, .int x5), (6, .int x6), (7, .int x7)] [] (WM G m_code m_people m_grants m_texts m_copies m_taped m_faultPlace m_isFemale m_born m_died m_father m_mother m_fatherGrade m_motherGrade m_grantTo m_grantArms m_grantYear m_copyYear m_copyRow m_tape m_textYear m_ruleMany m_ruleFrom m_codeRow m_stack m_ruleKind m_codes m_at m_read m_token m_sign m_begins m_ends m_bad m_badPlace m_top m_lineLives m_markRow m_quarterMany m_quarters m_isUp m_wasUp ++ fr)) (x1 : Int32) (x2 : Int32) (x4 : Int32) (x5 : Int32) (x7 : Int32) (s0 : Int32) (s1 : Int32) (hf : g_X11_of_139 m_code k113 x1 x2 x4 x5 x7 s0 s1 = some r) : J l G (rmD 3 0 0) Y 0 0 139 [(0, .ref (gm G 0)), (1, .int x1), (2, .int x2), (4, .int x4), (5, .int x5), (7, .int x7)] [.int s0, .int s1] (WM G m_code m_people m_grants m_texts m_copies m_taped m_faultPlace m_isFemale m_born m_died m_father m_mother m_fatherGrade m_motherGrade m_grantTo m_grantArms m_grantYear m_copyYear m_copyRow m_tape m_textYear m_ruleMany m_ruleFrom m_codeRow m_stack m_ruleKind m_codes m_at m_read m_token m_sign m_begins m_ends m_bad m_badPlace m_top m_lineLives m_markRow m_quarterMany m_quarters m_isUp m_wasUp ++ fr) := by
  unfold g_X11_of_139 at hf
  refine j_iadd hX dX11_of_139 140 rfl ?_
  refine j_istore hX dX11_of_140 142 rfl (by decide) (lv' := [(6, .int (s1 + s0)), (0, .ref (gm G 0)), (1, .int x1), (2, .int x2), (4, .int x4), (5, .int x5), (7, .int x7)]) rfl ?_
  refine j_iinc (v := x7 + 1) hX dX11_of_142 145 rfl 6 rfl rfl (by decide) (lv' := [(7, .int (x7 + 1)), (6, .int (s1 + s0)), (0, .ref (gm G 0)), (1, .int x1), (2, .int x2), (4, .int x4), (5, .int x5)]) rfl ?_
  refine j_goto hX dX11_of_145 113 rfl ?_
  refine j_sub [2, 3, 4, 5, 6, 1, 0] rfl ?_
  exact hk113 x1 x2 x4 x5 (s1 + s0) (x7 + 1) m_code hf
def g_X11_of_113 (fu : Nat) (m_copies : Int32) (m_copyYear : Nat → Int32) (m_copyRow : Nat → Int32) (m_code : Int32) (k113 : Int32 → Int32 → Int32 → Int32 → Int32 → Int32 → Int32 → Option (Int32 × Int32)) (x1 : Int32) (x2 : Int32) (x4 : Int32) (x5 : Int32) (x6 : Int32) (x7 : Int32) : Option (Int32 × Int32) :=
  if m_copies ≤ x7 then if x2 = 2 then g_X11_of_170 m_code x4 else if x2 = 3 then g_X11_of_170 m_code x5 else g_X11_of_170 m_code x6 else (f_X11_takenFrom fu m_copies m_copyYear m_copyRow x7).bind fun v13 => if v13 = x1 then g_X11_of_139 m_code k113 x1 x2 x4 x5 x7 1 x6 else g_X11_of_139 m_code k113 x1 x2 x4 x5 x7 0 x6
set_option maxRecDepth 100000 in
set_option maxHeartbeats 4000000 in
theorem t_X11_of_113 {fu : Nat} {Y : YT} {r : Int32 × Int32} {k113 : Int32 → Int32 → Int32 → Int32 → Int32 → Int32 → Int32 → Option (Int32 × Int32)} (hX : CX l G cX11_of 8 RX11 Y) (hQ : EQi G Y 0 0 .int r.1 (WM G r.2 m_people m_grants m_texts m_copies m_taped m_faultPlace m_isFemale m_born m_died m_father m_mother m_fatherGrade m_motherGrade m_grantTo m_grantArms m_grantYear m_copyYear m_copyRow m_tape m_textYear m_ruleMany m_ruleFrom m_codeRow m_stack m_ruleKind m_codes m_at m_read m_token m_sign m_begins m_ends m_bad m_badPlace m_top m_lineLives m_markRow m_quarterMany m_quarters m_isUp m_wasUp ++ fr)) (hk113 : ∀ (x1 : Int32) (x2 : Int32) (x4 : Int32) (x5 : Int32) (x6 : Int32) (x7 : Int32) (m_code : Int32), k113 x1 x2 x4 x5 x6 x7 m_code = some r → J l G (rmD 3 0 0) Y 0 0 113 [(0, .ref (gm G 0)), (1, .int x1), (2, .int x2), (4, .int x4), (5, .int x5), (6, .int x6), (7, .int x7)] [] (WM G m_code m_people m_grants m_texts m_copies m_taped m_faultPlace m_isFemale m_born m_died m_father m_mother m_fatherGrade m_motherGrade m_grantTo m_grantArms m_grantYear m_copyYear m_copyRow m_tape m_textYear m_ruleMany m_ruleFrom m_codeRow m_stack m_ruleKind m_codes m_at m_read m_token m_sign m_begins m_ends m_bad m_badPlace m_top m_lineLives m_markRow m_quarterMany m_quarters m_isUp m_wasUp ++ fr)) (x1 : Int32) (x2 : Int32) (x4 : Int32) (x5 : Int32) (x6 : Int32) (x7 : Int32) (hf : g_X11_of_113 fu m_copies m_copyYear m_copyRow m_code k113 x1 x2 x4 x5 x6 x7 = some r) : J l G (rmD 3 0 0) Y 0 0 113 [(0, .ref (gm G 0)), (1, .int x1), (2, .int x2), (4, .int x4), (5, .int x5), (6, .int x6), (7, .int x7)] [] (WM G m_code m_people m_grants m_texts m_copies m_taped m_faultPlace m_isFemale m_born m_died m_father m_mother m_fatherGrade m_motherGrade m_grantTo m_grantArms m_grantYear m_copyYear m_copyRow m_tape m_textYear m_ruleMany m_ruleFrom m_codeRow m_stack m_ruleKind m_codes m_at m_read m_token m_sign m_begins m_ends m_bad m_badPlace m_top m_lineLives m_markRow m_quarterMany m_quarters m_isUp m_wasUp ++ fr) := by
  unfold g_X11_of_113 at hf
  refine j_iload hX dX11_of_113 115 rfl 6 rfl ?_
  refine j_aload_n hX dX11_of_115 116 rfl 0 rfl rfl ?_
  refine j_get hX dX11_of_116 119 rfl fg_X11_306 0 rfl rfl ?_
  refine j_icmp_ge hX dX11_of_119 122 148 rfl rfl (fun h10 => ?_) (fun h10 => ?_)
  · replace hf := itt h10 hf
    refine j_iload_n hX dX11_of_148 149 rfl 2 rfl rfl ?_
    refine j_iconst (v := 2) hX dX11_of_149 150 rfl (by decide) ?_
    refine j_icmp_ne hX dX11_of_150 153 158 rfl rfl (fun h11 => ?_) (fun h11 => ?_)
    · replace hf := itf h11 hf
      refine j_iload_n hX dX11_of_158 159 rfl 2 rfl rfl ?_
      refine j_iconst (v := 3) hX dX11_of_159 160 rfl (by decide) ?_
      refine j_icmp_ne hX dX11_of_160 163 168 rfl rfl (fun h12 => ?_) (fun h12 => ?_)
      · replace hf := itf h12 hf
        refine j_iload hX dX11_of_168 170 rfl 5 rfl ?_
        refine j_sub [] rfl ?_
        exact t_X11_of_170 hX hQ   x6 hf
      · replace hf := itt h12 hf
        refine j_iload hX dX11_of_163 165 rfl 4 rfl ?_
        refine j_goto hX dX11_of_165 170 rfl ?_
        refine j_sub [] rfl ?_
        exact t_X11_of_170 hX hQ   x5 hf
    · replace hf := itt h11 hf
      refine j_iload hX dX11_of_153 155 rfl 3 rfl ?_
      refine j_goto hX dX11_of_155 170 rfl ?_
      refine j_sub [] rfl ?_
      exact t_X11_of_170 hX hQ   x4 hf
  · replace hf := itf h10 hf
    refine j_iload hX dX11_of_122 124 rfl 5 rfl ?_
    refine j_aload_n hX dX11_of_124 125 rfl 0 rfl rfl ?_
    refine j_iload hX dX11_of_125 127 rfl 6 rfl ?_
    obtain ⟨v13, hv13, hf⟩ := ibd hf
    refine z_i (As := [.int x7]) (rest := [.int x6]) (q0 := 0) hX dX11_of_127 130 rfl (t_X11_takenFrom x7 hv13) mc_X11_takenFrom mv_X11_takenFrom ml_X11_312 rfl rfl (Nat.le_of_ble_eq_true rfl) (Nat.le_refl _) (Nat.le_refl _) rfl (Nat.le_of_ble_eq_true rfl) ?_
    refine j_iload_n hX dX11_of_130 131 rfl 1 rfl rfl ?_
    refine j_icmp_ne hX dX11_of_131 134 138 rfl rfl (fun h14 => ?_) (fun h14 => ?_)
    · replace hf := itf h14 hf
      refine j_iconst (v := 0) hX dX11_of_138 139 rfl (by decide) ?_
      refine j_sub [0, 1, 2, 3, 4, 6] rfl ?_
      exact t_X11_of_139 hX hQ  hk113 x1 x2 x4 x5 x7 0 x6 hf
    · replace hf := itt h14 hf
      refine j_iconst (v := 1) hX dX11_of_134 135 rfl (by decide) ?_
      refine j_goto hX dX11_of_135 139 rfl ?_
      refine j_sub [0, 1, 2, 3, 4, 6] rfl ?_
      exact t_X11_of_139 hX hQ  hk113 x1 x2 x4 x5 x7 1 x6 hf
def f_X11_of_113 (fu : Nat) (m_copies : Int32) (m_copyYear : Nat → Int32) (m_copyRow : Nat → Int32) : Nat → (Int32 × Int32 × Int32 × Int32 × Int32 × Int32 × Int32) → Option (Int32 × Int32) :=
  lp (fun k v => g_X11_of_113 fu m_copies m_copyYear m_copyRow v.2.2.2.2.2.2 (fun x1 x2 x4 x5 x6 x7 m_code => k (x1, x2, x4, x5, x6, x7, m_code)) v.1 v.2.1 v.2.2.1 v.2.2.2.1 v.2.2.2.2.1 v.2.2.2.2.2.1)
set_option maxRecDepth 100000 in
set_option maxHeartbeats 4000000 in
theorem u_X11_of_113 {fu : Nat} {Y : YT} {r : Int32 × Int32}  (hX : CX l G cX11_of 8 RX11 Y) (hQ : EQi G Y 0 0 .int r.1 (WM G r.2 m_people m_grants m_texts m_copies m_taped m_faultPlace m_isFemale m_born m_died m_father m_mother m_fatherGrade m_motherGrade m_grantTo m_grantArms m_grantYear m_copyYear m_copyRow m_tape m_textYear m_ruleMany m_ruleFrom m_codeRow m_stack m_ruleKind m_codes m_at m_read m_token m_sign m_begins m_ends m_bad m_badPlace m_top m_lineLives m_markRow m_quarterMany m_quarters m_isUp m_wasUp ++ fr))  (n : Nat) (v : Int32 × Int32 × Int32 × Int32 × Int32 × Int32 × Int32) (hf : f_X11_of_113 fu m_copies m_copyYear m_copyRow n v = some r) : J l G (rmD 3 0 0) Y 0 0 113 [(0, .ref (gm G 0)), (1, .int v.1), (2, .int v.2.1), (4, .int v.2.2.1), (5, .int v.2.2.2.1), (6, .int v.2.2.2.2.1), (7, .int v.2.2.2.2.2.1)] [] (WM G v.2.2.2.2.2.2 m_people m_grants m_texts m_copies m_taped m_faultPlace m_isFemale m_born m_died m_father m_mother m_fatherGrade m_motherGrade m_grantTo m_grantArms m_grantYear m_copyYear m_copyRow m_tape m_textYear m_ruleMany m_ruleFrom m_codeRow m_stack m_ruleKind m_codes m_at m_read m_token m_sign m_begins m_ends m_bad m_badPlace m_top m_lineLives m_markRow m_quarterMany m_quarters m_isUp m_wasUp ++ fr) :=
  lp_ind (P := fun v : Int32 × Int32 × Int32 × Int32 × Int32 × Int32 × Int32 => J l G (rmD 3 0 0) Y 0 0 113 [(0, .ref (gm G 0)), (1, .int v.1), (2, .int v.2.1), (4, .int v.2.2.1), (5, .int v.2.2.2.1), (6, .int v.2.2.2.2.1), (7, .int v.2.2.2.2.2.1)] [] (WM G v.2.2.2.2.2.2 m_people m_grants m_texts m_copies m_taped m_faultPlace m_isFemale m_born m_died m_father m_mother m_fatherGrade m_motherGrade m_grantTo m_grantArms m_grantYear m_copyYear m_copyRow m_tape m_textYear m_ruleMany m_ruleFrom m_codeRow m_stack m_ruleKind m_codes m_at m_read m_token m_sign m_begins m_ends m_bad m_badPlace m_top m_lineLives m_markRow m_quarterMany m_quarters m_isUp m_wasUp ++ fr)) (fun k hk v hf => t_X11_of_113 hX hQ   (fun x1 x2 x4 x5 x6 x7 m_code h => hk (x1, x2, x4, x5, x6, x7, m_code) h) v.1 v.2.1 v.2.2.1 v.2.2.2.1 v.2.2.2.2.1 v.2.2.2.2.2.1 hf) n v hf
def g_X11_of_73 (fu : Nat) (m_copies : Int32) (m_copyYear : Nat → Int32) (m_copyRow : Nat → Int32) (m_code : Int32) (k73 : Int32 → Int32 → Int32 → Int32 → Int32 → Int32 → Option (Int32 × Int32)) (x1 : Int32) (x2 : Int32) (x4 : Int32) (x5 : Int32) (x6 : Int32) : Option (Int32 × Int32) :=
  if x6 = ((-1)) then f_X11_of_113 fu m_copies m_copyYear m_copyRow fu (x1, x2, x4, x5, 0, 0, m_code) else (f_X11_unlike fu m_copyRow x5 x6).bind fun v15 => (f_X11_takenFrom fu m_copies m_copyYear m_copyRow x6).bind fun v16 => k73 x1 x2 (x4 + v15) x6 v16 m_code
set_option maxRecDepth 100000 in
set_option maxHeartbeats 4000000 in
theorem t_X11_of_73 {fu : Nat} {Y : YT} {r : Int32 × Int32} {k73 : Int32 → Int32 → Int32 → Int32 → Int32 → Int32 → Option (Int32 × Int32)} (hX : CX l G cX11_of 8 RX11 Y) (hQ : EQi G Y 0 0 .int r.1 (WM G r.2 m_people m_grants m_texts m_copies m_taped m_faultPlace m_isFemale m_born m_died m_father m_mother m_fatherGrade m_motherGrade m_grantTo m_grantArms m_grantYear m_copyYear m_copyRow m_tape m_textYear m_ruleMany m_ruleFrom m_codeRow m_stack m_ruleKind m_codes m_at m_read m_token m_sign m_begins m_ends m_bad m_badPlace m_top m_lineLives m_markRow m_quarterMany m_quarters m_isUp m_wasUp ++ fr)) (hk73 : ∀ (x1 : Int32) (x2 : Int32) (x4 : Int32) (x5 : Int32) (x6 : Int32) (m_code : Int32), k73 x1 x2 x4 x5 x6 m_code = some r → J l G (rmD 3 0 0) Y 0 0 73 [(0, .ref (gm G 0)), (1, .int x1), (2, .int x2), (4, .int x4), (5, .int x5), (6, .int x6)] [] (WM G m_code m_people m_grants m_texts m_copies m_taped m_faultPlace m_isFemale m_born m_died m_father m_mother m_fatherGrade m_motherGrade m_grantTo m_grantArms m_grantYear m_copyYear m_copyRow m_tape m_textYear m_ruleMany m_ruleFrom m_codeRow m_stack m_ruleKind m_codes m_at m_read m_token m_sign m_begins m_ends m_bad m_badPlace m_top m_lineLives m_markRow m_quarterMany m_quarters m_isUp m_wasUp ++ fr)) (x1 : Int32) (x2 : Int32) (x4 : Int32) (x5 : Int32) (x6 : Int32) (hf : g_X11_of_73 fu m_copies m_copyYear m_copyRow m_code k73 x1 x2 x4 x5 x6 = some r) : J l G (rmD 3 0 0) Y 0 0 73 [(0, .ref (gm G 0)), (1, .int x1), (2, .int x2), (4, .int x4), (5, .int x5), (6, .int x6)] [] (WM G m_code m_people m_grants m_texts m_copies m_taped m_faultPlace m_isFemale m_born m_died m_father m_mother m_fatherGrade m_motherGrade m_grantTo m_grantArms m_grantYear m_copyYear m_copyRow m_tape m_textYear m_ruleMany m_ruleFrom m_codeRow m_stack m_ruleKind m_codes m_at m_read m_token m_sign m_begins m_ends m_bad m_badPlace m_top m_lineLives m_markRow m_quarterMany m_quarters m_isUp m_wasUp ++ fr) := by
  unfold g_X11_of_73 at hf
  refine j_iload hX dX11_of_73 75 rfl 5 rfl ?_
  refine j_iconst (v := (-1)) hX dX11_of_75 76 rfl (by decide) ?_
  refine j_icmp_eq hX dX11_of_76 79 107 rfl rfl (fun h9 => ?_) (fun h9 => ?_)
  · replace hf := itt h9 hf
    refine j_iconst (v := 0) hX dX11_of_107 108 rfl (by decide) ?_
    refine j_istore hX dX11_of_108 110 rfl (by decide) (lv' := [(6, .int 0), (0, .ref (gm G 0)), (1, .int x1), (2, .int x2), (4, .int x4), (5, .int x5)]) rfl ?_
    refine j_iconst (v := 0) hX dX11_of_110 111 rfl (by decide) ?_
    refine j_istore hX dX11_of_111 113 rfl (by decide) (lv' := [(7, .int 0), (6, .int 0), (0, .ref (gm G 0)), (1, .int x1), (2, .int x2), (4, .int x4), (5, .int x5)]) rfl ?_
    refine j_sub [2, 3, 4, 5, 6, 1, 0] rfl ?_
    exact u_X11_of_113 hX hQ   fu (x1, x2, x4, x5, 0, 0, m_code) hf
  · replace hf := itf h9 hf
    refine j_iload hX dX11_of_79 81 rfl 3 rfl ?_
    refine j_aload_n hX dX11_of_81 82 rfl 0 rfl rfl ?_
    refine j_iload hX dX11_of_82 84 rfl 4 rfl ?_
    refine j_iload hX dX11_of_84 86 rfl 5 rfl ?_
    obtain ⟨v15, hv15, hf⟩ := ibd hf
    refine z_i (As := [.int x5, .int x6]) (rest := [.int x4]) (q0 := 0) hX dX11_of_86 89 rfl (t_X11_unlike x5 x6 hv15) mc_X11_unlike mv_X11_unlike ml_X11_309 rfl rfl (Nat.le_of_ble_eq_true rfl) (Nat.le_refl _) (Nat.le_refl _) rfl (Nat.le_of_ble_eq_true rfl) ?_
    refine j_iadd hX dX11_of_89 90 rfl ?_
    refine j_istore hX dX11_of_90 92 rfl (by decide) (lv' := [(4, .int (x4 + v15)), (0, .ref (gm G 0)), (1, .int x1), (2, .int x2), (5, .int x5), (6, .int x6)]) rfl ?_
    refine j_iload hX dX11_of_92 94 rfl 5 rfl ?_
    refine j_istore hX dX11_of_94 96 rfl (by decide) (lv' := [(5, .int x6), (4, .int (x4 + v15)), (0, .ref (gm G 0)), (1, .int x1), (2, .int x2), (6, .int x6)]) rfl ?_
    refine j_aload_n hX dX11_of_96 97 rfl 2 rfl rfl ?_
    refine j_iload hX dX11_of_97 99 rfl 5 rfl ?_
    obtain ⟨v16, hv16, hf⟩ := ibd hf
    refine z_i (As := [.int x6]) (rest := []) (q0 := 0) hX dX11_of_99 102 rfl (t_X11_takenFrom x6 hv16) mc_X11_takenFrom mv_X11_takenFrom ml_X11_312 rfl rfl (Nat.le_of_ble_eq_true rfl) (Nat.le_refl _) (Nat.le_refl _) rfl (Nat.le_of_ble_eq_true rfl) ?_
    refine j_istore hX dX11_of_102 104 rfl (by decide) (lv' := [(6, .int v16), (5, .int x6), (4, .int (x4 + v15)), (0, .ref (gm G 0)), (1, .int x1), (2, .int x2)]) rfl ?_
    refine j_goto hX dX11_of_104 73 rfl ?_
    refine j_sub [3, 4, 5, 2, 1, 0] rfl ?_
    exact hk73 x1 x2 (x4 + v15) x6 v16 m_code hf
def f_X11_of_73 (fu : Nat) (m_copies : Int32) (m_copyYear : Nat → Int32) (m_copyRow : Nat → Int32) : Nat → (Int32 × Int32 × Int32 × Int32 × Int32 × Int32) → Option (Int32 × Int32) :=
  lp (fun k v => g_X11_of_73 fu m_copies m_copyYear m_copyRow v.2.2.2.2.2 (fun x1 x2 x4 x5 x6 m_code => k (x1, x2, x4, x5, x6, m_code)) v.1 v.2.1 v.2.2.1 v.2.2.2.1 v.2.2.2.2.1)
set_option maxRecDepth 100000 in
set_option maxHeartbeats 4000000 in
theorem u_X11_of_73 {fu : Nat} {Y : YT} {r : Int32 × Int32}  (hX : CX l G cX11_of 8 RX11 Y) (hQ : EQi G Y 0 0 .int r.1 (WM G r.2 m_people m_grants m_texts m_copies m_taped m_faultPlace m_isFemale m_born m_died m_father m_mother m_fatherGrade m_motherGrade m_grantTo m_grantArms m_grantYear m_copyYear m_copyRow m_tape m_textYear m_ruleMany m_ruleFrom m_codeRow m_stack m_ruleKind m_codes m_at m_read m_token m_sign m_begins m_ends m_bad m_badPlace m_top m_lineLives m_markRow m_quarterMany m_quarters m_isUp m_wasUp ++ fr))  (n : Nat) (v : Int32 × Int32 × Int32 × Int32 × Int32 × Int32) (hf : f_X11_of_73 fu m_copies m_copyYear m_copyRow n v = some r) : J l G (rmD 3 0 0) Y 0 0 73 [(0, .ref (gm G 0)), (1, .int v.1), (2, .int v.2.1), (4, .int v.2.2.1), (5, .int v.2.2.2.1), (6, .int v.2.2.2.2.1)] [] (WM G v.2.2.2.2.2 m_people m_grants m_texts m_copies m_taped m_faultPlace m_isFemale m_born m_died m_father m_mother m_fatherGrade m_motherGrade m_grantTo m_grantArms m_grantYear m_copyYear m_copyRow m_tape m_textYear m_ruleMany m_ruleFrom m_codeRow m_stack m_ruleKind m_codes m_at m_read m_token m_sign m_begins m_ends m_bad m_badPlace m_top m_lineLives m_markRow m_quarterMany m_quarters m_isUp m_wasUp ++ fr) :=
  lp_ind (P := fun v : Int32 × Int32 × Int32 × Int32 × Int32 × Int32 => J l G (rmD 3 0 0) Y 0 0 73 [(0, .ref (gm G 0)), (1, .int v.1), (2, .int v.2.1), (4, .int v.2.2.1), (5, .int v.2.2.2.1), (6, .int v.2.2.2.2.1)] [] (WM G v.2.2.2.2.2 m_people m_grants m_texts m_copies m_taped m_faultPlace m_isFemale m_born m_died m_father m_mother m_fatherGrade m_motherGrade m_grantTo m_grantArms m_grantYear m_copyYear m_copyRow m_tape m_textYear m_ruleMany m_ruleFrom m_codeRow m_stack m_ruleKind m_codes m_at m_read m_token m_sign m_begins m_ends m_bad m_badPlace m_top m_lineLives m_markRow m_quarterMany m_quarters m_isUp m_wasUp ++ fr)) (fun k hk v hf => t_X11_of_73 hX hQ   (fun x1 x2 x4 x5 x6 m_code h => hk (x1, x2, x4, x5, x6, m_code) h) v.1 v.2.1 v.2.2.1 v.2.2.2.1 v.2.2.2.2.1 hf) n v hf
def g_X11_of_63 (m_code : Int32) (s0 : Int32) : Option (Int32 × Int32) :=
  some (s0, m_code)
set_option maxRecDepth 100000 in
set_option maxHeartbeats 4000000 in
theorem t_X11_of_63 {Y : YT} {r : Int32 × Int32}  (hX : CX l G cX11_of 8 RX11 Y) (hQ : EQi G Y 0 0 .int r.1 (WM G r.2 m_people m_grants m_texts m_copies m_taped m_faultPlace m_isFemale m_born m_died m_father m_mother m_fatherGrade m_motherGrade m_grantTo m_grantArms m_grantYear m_copyYear m_copyRow m_tape m_textYear m_ruleMany m_ruleFrom m_codeRow m_stack m_ruleKind m_codes m_at m_read m_token m_sign m_begins m_ends m_bad m_badPlace m_top m_lineLives m_markRow m_quarterMany m_quarters m_isUp m_wasUp ++ fr))  (s0 : Int32) (hf : g_X11_of_63 m_code s0 = some r) : J l G (rmD 3 0 0) Y 0 0 63 [] [.int s0] (WM G m_code m_people m_grants m_texts m_copies m_taped m_faultPlace m_isFemale m_born m_died m_father m_mother m_fatherGrade m_motherGrade m_grantTo m_grantArms m_grantYear m_copyYear m_copyRow m_tape m_textYear m_ruleMany m_ruleFrom m_codeRow m_stack m_ruleKind m_codes m_at m_read m_token m_sign m_begins m_ends m_bad m_badPlace m_top m_lineLives m_markRow m_quarterMany m_quarters m_isUp m_wasUp ++ fr) := by
  unfold g_X11_of_63 at hf
  replace hf := Option.some.inj hf
  subst hf
  exact j_iret hX hQ dX11_of_63
def f_X11_of (fu : Nat) (m_copies : Int32) (m_copyYear : Nat → Int32) (m_copyRow : Nat → Int32) (x1 : Int32) (x2 : Int32) : Option (Int32 × Int32) :=
  if x1 < 0 then g_X11_of_26  else if m_copies ≤ x1 then g_X11_of_26  else if x2 < 0 then g_X11_of_26  else if x2 ≤ 4 then (f_X11_takenFrom fu m_copies m_copyYear m_copyRow x1).bind fun v6 => if x2 = 0 then some (v6, 0) else if x2 = 1 then if v6 = ((-1)) then g_X11_of_63 0 0 else (f_X11_unlike fu m_copyRow x1 v6).bind fun v18 => g_X11_of_63 0 v18 else f_X11_of_73 fu m_copies m_copyYear m_copyRow fu (x1, x2, 0, x1, v6, 0) else g_X11_of_26 
set_option maxRecDepth 100000 in
set_option maxHeartbeats 4000000 in
theorem t_X11_of {fu : Nat}  (x1 : Int32) (x2 : Int32) {r : Int32 × Int32} (hf : f_X11_of fu m_copies m_copyYear m_copyRow x1 x2 = some r) : Ci l G 3 0 0 yX11_of cX11_of 8 .int [.ref (gm G 0), .int x1, .int x2] (WM G m_code m_people m_grants m_texts m_copies m_taped m_faultPlace m_isFemale m_born m_died m_father m_mother m_fatherGrade m_motherGrade m_grantTo m_grantArms m_grantYear m_copyYear m_copyRow m_tape m_textYear m_ruleMany m_ruleFrom m_codeRow m_stack m_ruleKind m_codes m_at m_read m_token m_sign m_begins m_ends m_bad m_badPlace m_top m_lineLives m_markRow m_quarterMany m_quarters m_isUp m_wasUp ++ fr) r.1 (WM G r.2 m_people m_grants m_texts m_copies m_taped m_faultPlace m_isFemale m_born m_died m_father m_mother m_fatherGrade m_motherGrade m_grantTo m_grantArms m_grantYear m_copyYear m_copyRow m_tape m_textYear m_ruleMany m_ruleFrom m_codeRow m_stack m_ruleKind m_codes m_at m_read m_token m_sign m_begins m_ends m_bad m_badPlace m_top m_lineLives m_markRow m_quarterMany m_quarters m_isUp m_wasUp ++ fr) := by
  refine Ci.of (by decide) (Nat.le_of_ble_eq_true rfl) (fun Y hX hQ => ?_)
  refine j_lv (lv' := [(0, .ref (gm G 0)), (1, .int x1), (2, .int x2)]) rfl ?_
  unfold f_X11_of at hf
  refine j_aload_n hX dX11_of_0 1 rfl 0 rfl rfl ?_
  refine j_iconst (v := 0) hX dX11_of_1 2 rfl (by decide) ?_
  refine j_put hX dX11_of_2 5 rfl fg_X11_110 ft_X11_1 0 rfl rfl rfl (Nat.le_of_ble_eq_true rfl) (ws' := (WM G 0 m_people m_grants m_texts m_copies m_taped m_faultPlace m_isFemale m_born m_died m_father m_mother m_fatherGrade m_motherGrade m_grantTo m_grantArms m_grantYear m_copyYear m_copyRow m_tape m_textYear m_ruleMany m_ruleFrom m_codeRow m_stack m_ruleKind m_codes m_at m_read m_token m_sign m_begins m_ends m_bad m_badPlace m_top m_lineLives m_markRow m_quarterMany m_quarters m_isUp m_wasUp ++ fr)) rfl ?_
  refine j_iload_n hX dX11_of_5 6 rfl 1 rfl rfl ?_
  refine j_if_lt hX dX11_of_6 9 26 rfl rfl (fun h1 => ?_) (fun h1 => ?_)
  · replace hf := itt h1 hf
    refine j_sub [0] rfl ?_
    exact t_X11_of_26 hX hQ    hf
  · replace hf := itf h1 hf
    refine j_iload_n hX dX11_of_9 10 rfl 1 rfl rfl ?_
    refine j_aload_n hX dX11_of_10 11 rfl 0 rfl rfl ?_
    refine j_get hX dX11_of_11 14 rfl fg_X11_306 0 rfl rfl ?_
    refine j_icmp_ge hX dX11_of_14 17 26 rfl rfl (fun h3 => ?_) (fun h3 => ?_)
    · replace hf := itt h3 hf
      refine j_sub [0] rfl ?_
      exact t_X11_of_26 hX hQ    hf
    · replace hf := itf h3 hf
      refine j_iload_n hX dX11_of_17 18 rfl 2 rfl rfl ?_
      refine j_if_lt hX dX11_of_18 21 26 rfl rfl (fun h4 => ?_) (fun h4 => ?_)
      · replace hf := itt h4 hf
        refine j_sub [0] rfl ?_
        exact t_X11_of_26 hX hQ    hf
      · replace hf := itf h4 hf
        refine j_iload_n hX dX11_of_21 22 rfl 2 rfl rfl ?_
        refine j_iconst (v := 4) hX dX11_of_22 23 rfl (by decide) ?_
        refine j_icmp_le hX dX11_of_23 26 31 rfl rfl (fun h5 => ?_) (fun h5 => ?_)
        · replace hf := itt h5 hf
          refine j_aload_n hX dX11_of_31 32 rfl 0 rfl rfl ?_
          refine j_iload_n hX dX11_of_32 33 rfl 1 rfl rfl ?_
          obtain ⟨v6, hv6, hf⟩ := ibd hf
          refine z_i (As := [.int x1]) (rest := []) (q0 := 0) hX dX11_of_33 36 rfl (t_X11_takenFrom x1 hv6) mc_X11_takenFrom mv_X11_takenFrom ml_X11_312 rfl rfl (Nat.le_of_ble_eq_true rfl) (Nat.le_refl _) (Nat.le_refl _) rfl (Nat.le_of_ble_eq_true rfl) ?_
          refine j_istore_n hX dX11_of_36 37 rfl rfl (by decide) (lv' := [(3, .int v6), (0, .ref (gm G 0)), (1, .int x1), (2, .int x2)]) rfl ?_
          refine j_iload_n hX dX11_of_37 38 rfl 3 rfl rfl ?_
          refine j_if_ne hX dX11_of_38 41 43 rfl rfl (fun h7 => ?_) (fun h7 => ?_)
          · replace hf := itf h7 hf
            refine j_iload_n hX dX11_of_43 44 rfl 3 rfl rfl ?_
            refine j_iconst (v := 1) hX dX11_of_44 45 rfl (by decide) ?_
            refine j_icmp_ne hX dX11_of_45 48 64 rfl rfl (fun h8 => ?_) (fun h8 => ?_)
            · replace hf := itf h8 hf
              refine j_iconst (v := 0) hX dX11_of_64 65 rfl (by decide) ?_
              refine j_istore hX dX11_of_65 67 rfl (by decide) (lv' := [(4, .int 0), (3, .int v6), (0, .ref (gm G 0)), (1, .int x1), (2, .int x2)]) rfl ?_
              refine j_iload_n hX dX11_of_67 68 rfl 3 rfl rfl ?_
              refine j_istore hX dX11_of_68 70 rfl (by decide) (lv' := [(5, .int x1), (4, .int 0), (3, .int v6), (0, .ref (gm G 0)), (1, .int x1), (2, .int x2)]) rfl ?_
              refine j_iload_n hX dX11_of_70 71 rfl 2 rfl rfl ?_
              refine j_istore hX dX11_of_71 73 rfl (by decide) (lv' := [(6, .int v6), (5, .int x1), (4, .int 0), (3, .int v6), (0, .ref (gm G 0)), (1, .int x1), (2, .int x2)]) rfl ?_
              refine j_sub [4, 5, 6, 2, 1, 0] rfl ?_
              exact u_X11_of_73 hX hQ   fu (x1, x2, 0, x1, v6, 0) hf
            · replace hf := itt h8 hf
              refine j_iload_n hX dX11_of_48 49 rfl 0 rfl rfl ?_
              refine j_iconst (v := (-1)) hX dX11_of_49 50 rfl (by decide) ?_
              refine j_icmp_ne hX dX11_of_50 53 57 rfl rfl (fun h17 => ?_) (fun h17 => ?_)
              · replace hf := itf h17 hf
                refine j_aload_n hX dX11_of_57 58 rfl 1 rfl rfl ?_
                refine j_iload_n hX dX11_of_58 59 rfl 2 rfl rfl ?_
                refine j_iload_n hX dX11_of_59 60 rfl 0 rfl rfl ?_
                obtain ⟨v18, hv18, hf⟩ := ibd hf
                refine z_i (As := [.int x1, .int v6]) (rest := []) (q0 := 0) hX dX11_of_60 63 rfl (t_X11_unlike x1 v6 hv18) mc_X11_unlike mv_X11_unlike ml_X11_309 rfl rfl (Nat.le_of_ble_eq_true rfl) (Nat.le_refl _) (Nat.le_refl _) rfl (Nat.le_of_ble_eq_true rfl) ?_
                refine j_sub [] rfl ?_
                exact t_X11_of_63 hX hQ   v18 hf
              · replace hf := itt h17 hf
                refine j_iconst (v := 0) hX dX11_of_53 54 rfl (by decide) ?_
                refine j_goto hX dX11_of_54 63 rfl ?_
                refine j_sub [] rfl ?_
                exact t_X11_of_63 hX hQ   0 hf
          · replace hf := itt h7 hf
            refine j_iload_n hX dX11_of_41 42 rfl 0 rfl rfl ?_
            replace hf := Option.some.inj hf
            subst hf
            exact j_iret hX hQ dX11_of_42
        · replace hf := itf h5 hf
          refine j_sub [0] rfl ?_
          exact t_X11_of_26 hX hQ    hf
def f_X11_count (m_people : Int32) (m_grants : Int32) (m_texts : Int32) (m_copies : Int32) (m_taped : Int32) (x1 : Int32) : Option (Int32 × Int32) :=
  if x1 = 0 then some (m_people, 0) else if x1 = 1 then some (m_grants, 0) else if x1 = 2 then some (m_texts, 0) else if x1 = 3 then some (m_copies, 0) else if x1 = 4 then some (m_taped, 0) else (f_X11_fail ).bind fun v6 => some (v6.1, v6.2)
set_option maxRecDepth 100000 in
set_option maxHeartbeats 4000000 in
theorem t_X11_count  (x1 : Int32) {r : Int32 × Int32} (hf : f_X11_count m_people m_grants m_texts m_copies m_taped x1 = some r) : Ci l G 2 0 0 yX11_count cX11_count 2 .int [.ref (gm G 0), .int x1] (WM G m_code m_people m_grants m_texts m_copies m_taped m_faultPlace m_isFemale m_born m_died m_father m_mother m_fatherGrade m_motherGrade m_grantTo m_grantArms m_grantYear m_copyYear m_copyRow m_tape m_textYear m_ruleMany m_ruleFrom m_codeRow m_stack m_ruleKind m_codes m_at m_read m_token m_sign m_begins m_ends m_bad m_badPlace m_top m_lineLives m_markRow m_quarterMany m_quarters m_isUp m_wasUp ++ fr) r.1 (WM G r.2 m_people m_grants m_texts m_copies m_taped m_faultPlace m_isFemale m_born m_died m_father m_mother m_fatherGrade m_motherGrade m_grantTo m_grantArms m_grantYear m_copyYear m_copyRow m_tape m_textYear m_ruleMany m_ruleFrom m_codeRow m_stack m_ruleKind m_codes m_at m_read m_token m_sign m_begins m_ends m_bad m_badPlace m_top m_lineLives m_markRow m_quarterMany m_quarters m_isUp m_wasUp ++ fr) := by
  refine Ci.of (by decide) (Nat.le_of_ble_eq_true rfl) (fun Y hX hQ => ?_)
  refine j_lv (lv' := [(0, .ref (gm G 0)), (1, .int x1)]) rfl ?_
  unfold f_X11_count at hf
  refine j_aload_n hX dX11_count_0 1 rfl 0 rfl rfl ?_
  refine j_iconst (v := 0) hX dX11_count_1 2 rfl (by decide) ?_
  refine j_put hX dX11_count_2 5 rfl fg_X11_110 ft_X11_1 0 rfl rfl rfl (Nat.le_of_ble_eq_true rfl) (ws' := (WM G 0 m_people m_grants m_texts m_copies m_taped m_faultPlace m_isFemale m_born m_died m_father m_mother m_fatherGrade m_motherGrade m_grantTo m_grantArms m_grantYear m_copyYear m_copyRow m_tape m_textYear m_ruleMany m_ruleFrom m_codeRow m_stack m_ruleKind m_codes m_at m_read m_token m_sign m_begins m_ends m_bad m_badPlace m_top m_lineLives m_markRow m_quarterMany m_quarters m_isUp m_wasUp ++ fr)) rfl ?_
  refine j_iload_n hX dX11_count_5 6 rfl 1 rfl rfl ?_
  by_cases h1 : x1 = 0
  · replace hf := itt h1 hf
    refine j_tab hX dX11_count_6 (by decide) 40 (by rw [h1]; rfl) ?_
    refine j_aload_n hX dX11_count_40 41 rfl 0 rfl rfl ?_
    refine j_get hX dX11_count_41 44 rfl fg_X11_113 0 rfl rfl ?_
    replace hf := Option.some.inj hf
    subst hf
    exact j_iret hX hQ dX11_count_44
  replace hf := itf h1 hf
  by_cases h2 : x1 = 1
  · replace hf := itt h2 hf
    refine j_tab hX dX11_count_6 (by decide) 45 (by rw [h2]; rfl) ?_
    refine j_aload_n hX dX11_count_45 46 rfl 0 rfl rfl ?_
    refine j_get hX dX11_count_46 49 rfl fg_X11_135 0 rfl rfl ?_
    replace hf := Option.some.inj hf
    subst hf
    exact j_iret hX hQ dX11_count_49
  replace hf := itf h2 hf
  by_cases h3 : x1 = 2
  · replace hf := itt h3 hf
    refine j_tab hX dX11_count_6 (by decide) 50 (by rw [h3]; rfl) ?_
    refine j_aload_n hX dX11_count_50 51 rfl 0 rfl rfl ?_
    refine j_get hX dX11_count_51 54 rfl fg_X11_240 0 rfl rfl ?_
    replace hf := Option.some.inj hf
    subst hf
    exact j_iret hX hQ dX11_count_54
  replace hf := itf h3 hf
  by_cases h4 : x1 = 3
  · replace hf := itt h4 hf
    refine j_tab hX dX11_count_6 (by decide) 55 (by rw [h4]; rfl) ?_
    refine j_aload_n hX dX11_count_55 56 rfl 0 rfl rfl ?_
    refine j_get hX dX11_count_56 59 rfl fg_X11_306 0 rfl rfl ?_
    replace hf := Option.some.inj hf
    subst hf
    exact j_iret hX hQ dX11_count_59
  replace hf := itf h4 hf
  by_cases h5 : x1 = 4
  · replace hf := itt h5 hf
    refine j_tab hX dX11_count_6 (by decide) 60 (by rw [h5]; rfl) ?_
    refine j_aload_n hX dX11_count_60 61 rfl 0 rfl rfl ?_
    refine j_get hX dX11_count_61 64 rfl fg_X11_197 0 rfl rfl ?_
    replace hf := Option.some.inj hf
    subst hf
    exact j_iret hX hQ dX11_count_64
  replace hf := itf h5 hf
  replace h1 := ne_ti (m := 0) h1 rfl
  replace h2 := ne_ti (m := 1) h2 rfl
  replace h3 := ne_ti (m := 2) h3 rfl
  replace h4 := ne_ti (m := 3) h4 rfl
  replace h5 := ne_ti (m := 4) h5 rfl
  refine j_tab hX dX11_count_6 (by decide) 65 (by unfold tsel; rw [if_pos (by omega)]; rfl) ?_
  refine j_aload_n hX dX11_count_65 66 rfl 0 rfl rfl ?_
  obtain ⟨v6, hv6, hf⟩ := ibd hf
  refine z_i (As := []) (rest := []) (q0 := 0) hX dX11_count_66 69 rfl (t_X11_fail  hv6) mc_X11_fail mv_X11_fail ml_X11_127 rfl rfl (Nat.le_of_ble_eq_true rfl) (Nat.le_refl _) (Nat.le_refl _) rfl (Nat.le_of_ble_eq_true rfl) ?_
  replace hf := Option.some.inj hf
  subst hf
  exact j_iret hX hQ dX11_count_69
end
