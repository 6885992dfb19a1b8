section
variable {l : Launch} {G : GT} {fr ws : va_W} {kT : Nat} {tA tC tN : Nat → Nat} {tF : Nat → Nat → Int32} {tY : Nat → Int32} {p_female : Nat → Int32} {p_born : Nat → Int32} {p_toldDeath : Nat → Int32} {p_lastYear : Nat → Int32} {p_father : Nat → Int32} {p_mother : Nat → Int32} {p_fatherGrade : Nat → Int32} {p_motherGrade : Nat → Int32} {p_size : Int32} {g_holder : Nat → Int32} {g_arms : Nat → Int32} {g_from : Nat → Int32} {g_size : Int32} {r_marks : Nat → Int32} {r_arms : Int32} {r_root : Int32} {r_steps : Int32} {r_grade : Int32} {r_marksAboveOne : Int32} {q_rows : Nat → Int32} {q_sizes : Nat → Int32} {t_bytes : Nat → Int32} {t_length : Int32} {s_tokens : Nat → Int32} {s_starts : Nat → Int32} {s_size : Int32} {a_code : Nat → Int32} {a_codeSize : Int32} {a_at : Int32} {a_token : Int32} {a_fault : Int32} {a_place : Int32} {o_texts : Nat → Option Nat} {o_names : Nat → Int32} {o_operands : Nat → Int32} {o_size : Int32} {o_open : Int32} {o_refuses : Int32} {o_differs : Int32} {o_fees : Int32} {c_years : Nat → Int32} {c_rows : Nat → Int32} {c_size : Int32} {x_faultPlace : Int32}
def g_X10_isYear_19 (s0 : Int32) : Option (Int32) :=
  if isB s0 = true then some s0 else none
set_option maxRecDepth 100000 in
set_option maxHeartbeats 4000000 in
theorem t_X10_isYear_19 {Y : YT} {r : Int32}  (hX : CX l G cX10_isYear 1 RX10 Y) (hQ : EQi G Y 0 0 .boolean r ws)  (s0 : Int32) (hf : g_X10_isYear_19 s0 = some r) : J l G (rmD 1 0 0) Y 0 0 19 [] [.int s0] ws := by
  unfold g_X10_isYear_19 at hf
  obtain ⟨hb2, hf⟩ := ign hf
  replace hf := Option.some.inj hf
  subst hf
  exact j_zret hX hQ hb2 dX10_isYear_19
def g_X10_isYear_18  : Option (Int32) :=
  g_X10_isYear_19 0
set_option maxRecDepth 100000 in
set_option maxHeartbeats 4000000 in
theorem t_X10_isYear_18 {Y : YT} {r : Int32}  (hX : CX l G cX10_isYear 1 RX10 Y) (hQ : EQi G Y 0 0 .boolean r ws)   (hf : g_X10_isYear_18  = some r) : J l G (rmD 1 0 0) Y 0 0 18 [] [] ws := by
  unfold g_X10_isYear_18 at hf
  refine j_iconst (v := 0) hX dX10_isYear_18 19 rfl (by decide) ?_
  exact t_X10_isYear_19 hX hQ   0 hf
def f_X10_isYear (x0 : Int32) : Option (Int32) :=
  if x0 < 1000 then g_X10_isYear_18  else if 2000 < x0 then g_X10_isYear_18  else g_X10_isYear_19 1
set_option maxRecDepth 100000 in
set_option maxHeartbeats 4000000 in
theorem t_X10_isYear  (x0 : Int32) {r : Int32} (hf : f_X10_isYear x0 = some r) : Ci l G 1 0 0 yX10_isYear cX10_isYear 1 .boolean [.int x0] ws r ws := by
  refine Ci.of (by decide) (Nat.le_of_ble_eq_true rfl) (fun Y hX hQ => ?_)
  refine j_lv (lv' := [(0, .int x0)]) rfl ?_
  unfold f_X10_isYear at hf
  refine j_iload_n hX dX10_isYear_0 1 rfl 0 rfl rfl ?_
  refine j_sipush (v := 1000) hX dX10_isYear_1 4 rfl (by decide) ?_
  refine j_icmp_lt hX dX10_isYear_4 7 18 rfl rfl (fun h1 => ?_) (fun h1 => ?_)
  · replace hf := itt h1 hf
    refine j_sub [] rfl ?_
    exact t_X10_isYear_18 hX hQ    hf
  · replace hf := itf h1 hf
    refine j_iload_n hX dX10_isYear_7 8 rfl 0 rfl rfl ?_
    refine j_sipush (v := 2000) hX dX10_isYear_8 11 rfl (by decide) ?_
    refine j_icmp_gt hX dX10_isYear_11 14 18 rfl rfl (fun h3 => ?_) (fun h3 => ?_)
    · replace hf := itt h3 hf
      refine j_sub [] rfl ?_
      exact t_X10_isYear_18 hX hQ    hf
    · replace hf := itf h3 hf
      refine j_iconst (v := 1) hX dX10_isYear_14 15 rfl (by decide) ?_
      refine j_goto hX dX10_isYear_15 19 rfl ?_
      refine j_sub [] rfl ?_
      exact t_X10_isYear_19 hX hQ   1 hf
def g_X10_asInt_9 (s0 : Int32) : Option (Int32) :=
  some s0
set_option maxRecDepth 100000 in
set_option maxHeartbeats 4000000 in
theorem t_X10_asInt_9 {Y : YT} {r : Int32}  (hX : CX l G cX10_asInt 1 RX10 Y) (hQ : EQi G Y 0 0 .int r ws)  (s0 : Int32) (hf : g_X10_asInt_9 s0 = some r) : J l G (rmD 1 0 0) Y 0 0 9 [] [.int s0] ws := by
  unfold g_X10_asInt_9 at hf
  replace hf := Option.some.inj hf
  subst hf
  exact j_iret hX hQ dX10_asInt_9
def f_X10_asInt (x0 : Int32) : Option (Int32) :=
  if x0 = 0 then g_X10_asInt_9 0 else g_X10_asInt_9 1
set_option maxRecDepth 100000 in
set_option maxHeartbeats 4000000 in
theorem t_X10_asInt  (x0 : Int32) {r : Int32} (hf : f_X10_asInt x0 = some r) : Ci l G 1 0 0 yX10_asInt cX10_asInt 1 .int [.int x0] ws r ws := by
  refine Ci.of (by decide) (Nat.le_of_ble_eq_true rfl) (fun Y hX hQ => ?_)
  refine j_lv (lv' := [(0, .int x0)]) rfl ?_
  unfold f_X10_asInt at hf
  refine j_iload_n hX dX10_asInt_0 1 rfl 0 rfl rfl ?_
  refine j_if_eq hX dX10_asInt_1 4 8 rfl rfl (fun h1 => ?_) (fun h1 => ?_)
  · replace hf := itt h1 hf
    refine j_iconst (v := 0) hX dX10_asInt_8 9 rfl (by decide) ?_
    refine j_sub [] rfl ?_
    exact t_X10_asInt_9 hX hQ   0 hf
  · replace hf := itf h1 hf
    refine j_iconst (v := 1) hX dX10_asInt_4 5 rfl (by decide) ?_
    refine j_goto hX dX10_asInt_5 9 rfl ?_
    refine j_sub [] rfl ?_
    exact t_X10_asInt_9 hX hQ   1 hf
end
