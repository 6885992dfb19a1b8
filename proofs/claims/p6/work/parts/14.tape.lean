section
variable {l : Launch} {G : GT} {fr ws : va_W} {kT : Nat} {tA tC tN : Nat → Nat} {tF : Nat → Nat → Int32} {tY : Nat → Int32} {p_female : Nat → Int32} {p_born : Nat → Int32} {p_toldDeath : Nat → Int32} {p_lastYear : Nat → Int32} {p_father : Nat → Int32} {p_mother : Nat → Int32} {p_fatherGrade : Nat → Int32} {p_motherGrade : Nat → Int32} {p_size : Int32} {g_holder : Nat → Int32} {g_arms : Nat → Int32} {g_from : Nat → Int32} {g_size : Int32} {r_marks : Nat → Int32} {r_arms : Int32} {r_root : Int32} {r_steps : Int32} {r_grade : Int32} {r_marksAboveOne : Int32} {q_rows : Nat → Int32} {q_sizes : Nat → Int32} {t_bytes : Nat → Int32} {t_length : Int32} {s_tokens : Nat → Int32} {s_starts : Nat → Int32} {s_size : Int32} {a_code : Nat → Int32} {a_codeSize : Int32} {a_at : Int32} {a_token : Int32} {a_fault : Int32} {a_place : Int32} {o_texts : Nat → Option Nat} {o_names : Nat → Int32} {o_operands : Nat → Int32} {o_size : Int32} {o_open : Int32} {o_refuses : Int32} {o_differs : Int32} {o_fees : Int32} {c_years : Nat → Int32} {c_rows : Nat → Int32} {c_size : Int32} {x_faultPlace : Int32}
def g_X8_hasRoom_18 (s0 : Int32) : Option (Int32) :=
  if isB s0 = true then some s0 else none
set_option maxRecDepth 100000 in
set_option maxHeartbeats 4000000 in
theorem t_X8_hasRoom_18 {Y : YT} {r : Int32}  (hX : CX l G cX8_hasRoom 1 RX8 Y) (hQ : EQi G Y 0 0 .boolean r (WB G p_female p_born p_toldDeath p_lastYear p_father p_mother p_fatherGrade p_motherGrade p_size g_holder g_arms g_from g_size r_marks r_arms r_root r_steps r_grade r_marksAboveOne q_rows q_sizes t_bytes t_length s_tokens s_starts s_size a_code a_codeSize a_at a_token a_fault a_place o_texts o_names o_operands o_size o_open o_refuses o_differs o_fees c_years c_rows c_size x_faultPlace ++ fr))  (s0 : Int32) (hf : g_X8_hasRoom_18 s0 = some r) : J l G (rmD 1 0 0) Y 0 0 18 [] [.int s0] (WB G p_female p_born p_toldDeath p_lastYear p_father p_mother p_fatherGrade p_motherGrade p_size g_holder g_arms g_from g_size r_marks r_arms r_root r_steps r_grade r_marksAboveOne q_rows q_sizes t_bytes t_length s_tokens s_starts s_size a_code a_codeSize a_at a_token a_fault a_place o_texts o_names o_operands o_size o_open o_refuses o_differs o_fees c_years c_rows c_size x_faultPlace ++ fr) := by
  unfold g_X8_hasRoom_18 at hf
  obtain ⟨hb2, hf⟩ := ign hf
  replace hf := Option.some.inj hf
  subst hf
  exact j_zret hX hQ hb2 dX8_hasRoom_18
def f_X8_hasRoom (t_length : Int32) : Option (Int32) :=
  if 400 < (t_length + 20) then g_X8_hasRoom_18 0 else g_X8_hasRoom_18 1
set_option maxRecDepth 100000 in
set_option maxHeartbeats 4000000 in
theorem t_X8_hasRoom   {r : Int32} (hf : f_X8_hasRoom t_length = some r) : Ci l G 1 0 0 yX8_hasRoom cX8_hasRoom 1 .boolean [.ref (gb G 19)] (WB G p_female p_born p_toldDeath p_lastYear p_father p_mother p_fatherGrade p_motherGrade p_size g_holder g_arms g_from g_size r_marks r_arms r_root r_steps r_grade r_marksAboveOne q_rows q_sizes t_bytes t_length s_tokens s_starts s_size a_code a_codeSize a_at a_token a_fault a_place o_texts o_names o_operands o_size o_open o_refuses o_differs o_fees c_years c_rows c_size x_faultPlace ++ fr) r (WB G p_female p_born p_toldDeath p_lastYear p_father p_mother p_fatherGrade p_motherGrade p_size g_holder g_arms g_from g_size r_marks r_arms r_root r_steps r_grade r_marksAboveOne q_rows q_sizes t_bytes t_length s_tokens s_starts s_size a_code a_codeSize a_at a_token a_fault a_place o_texts o_names o_operands o_size o_open o_refuses o_differs o_fees c_years c_rows c_size x_faultPlace ++ fr) := by
  refine Ci.of (by decide) (Nat.le_of_ble_eq_true rfl) (fun Y hX hQ => ?_)
  refine j_lv (lv' := [(0, .ref (gb G 19))]) rfl ?_
  unfold f_X8_hasRoom at hf
  refine j_aload_n hX dX8_hasRoom_0 1 rfl 0 rfl rfl ?_
  refine j_get hX dX8_hasRoom_1 4 rfl fg_X8_13 19 rfl rfl ?_
  refine j_bipush (v := 20) hX dX8_hasRoom_4 6 rfl (by decide) ?_
  refine j_iadd hX dX8_hasRoom_6 7 rfl ?_
  refine j_sipush (v := 400) hX dX8_hasRoom_7 10 rfl (by decide) ?_
  refine j_icmp_gt hX dX8_hasRoom_10 13 17 rfl rfl (fun h1 => ?_) (fun h1 => ?_)
  · replace hf := itt h1 hf
    refine j_iconst (v := 0) hX dX8_hasRoom_17 18 rfl (by decide) ?_
    refine j_sub [] rfl ?_
    exact t_X8_hasRoom_18 hX hQ   0 hf
  · replace hf := itf h1 hf
    refine j_iconst (v := 1) hX dX8_hasRoom_13 14 rfl (by decide) ?_
    refine j_goto hX dX8_hasRoom_14 18 rfl ?_
    refine j_sub [] rfl ?_
    exact t_X8_hasRoom_18 hX hQ   1 hf
def g_X8_put_46 (t_bytes : Nat → Int32) (t_length : Int32) : Option ((Nat → Int32) × Int32) :=
  some (t_bytes, t_length)
set_option maxRecDepth 100000 in
set_option maxHeartbeats 4000000 in
theorem t_X8_put_46 {Y : YT} {r : (Nat → Int32) × Int32}  (hX : CX l G cX8_put 3 RX8 Y) (hQ : EQv G Y 0 0 (WB G p_female p_born p_toldDeath p_lastYear p_father p_mother p_fatherGrade p_motherGrade p_size g_holder g_arms g_from g_size r_marks r_arms r_root r_steps r_grade r_marksAboveOne q_rows q_sizes r.1 r.2 s_tokens s_starts s_size a_code a_codeSize a_at a_token a_fault a_place o_texts o_names o_operands o_size o_open o_refuses o_differs o_fees c_years c_rows c_size x_faultPlace ++ fr))   (hf : g_X8_put_46 t_bytes t_length = some r) : J l G (rmD 1 0 0) Y 0 0 46 [] [] (WB G p_female p_born p_toldDeath p_lastYear p_father p_mother p_fatherGrade p_motherGrade p_size g_holder g_arms g_from g_size r_marks r_arms r_root r_steps r_grade r_marksAboveOne q_rows q_sizes t_bytes t_length s_tokens s_starts s_size a_code a_codeSize a_at a_token a_fault a_place o_texts o_names o_operands o_size o_open o_refuses o_differs o_fees c_years c_rows c_size x_faultPlace ++ fr) := by
  unfold g_X8_put_46 at hf
  replace hf := Option.some.inj hf
  subst hf
  exact j_vret hX hQ dX8_put_46
def g_X8_put_3 (t_bytes : Nat → Int32) (t_length : Int32) (k3 : Int32 → Int32 → (Nat → Int32) → Int32 → Option ((Nat → Int32) × Int32)) (x1 : Int32) (x2 : Int32) : Option ((Nat → Int32) × Int32) :=
  if x2 < 0 then g_X8_put_46 t_bytes t_length else if 400 ≤ t_length then g_X8_put_46 t_bytes t_length else if inb t_length 400 = true then k3 x1 (x2 + (-8)) (upd t_bytes (Int32.toNatClampNeg t_length) (vp_nar .byte ((Int32.toInt8 (ushr32 x1 x2)).toInt32))) (t_length + 1) else none
set_option maxRecDepth 100000 in
set_option maxHeartbeats 4000000 in
theorem t_X8_put_3 {Y : YT} {r : (Nat → Int32) × Int32} {k3 : Int32 → Int32 → (Nat → Int32) → Int32 → Option ((Nat → Int32) × Int32)} (hX : CX l G cX8_put 3 RX8 Y) (hQ : EQv G Y 0 0 (WB G p_female p_born p_toldDeath p_lastYear p_father p_mother p_fatherGrade p_motherGrade p_size g_holder g_arms g_from g_size r_marks r_arms r_root r_steps r_grade r_marksAboveOne q_rows q_sizes r.1 r.2 s_tokens s_starts s_size a_code a_codeSize a_at a_token a_fault a_place o_texts o_names o_operands o_size o_open o_refuses o_differs o_fees c_years c_rows c_size x_faultPlace ++ fr)) (hk3 : ∀ (x1 : Int32) (x2 : Int32) (t_bytes : Nat → Int32) (t_length : Int32), k3 x1 x2 t_bytes t_length = some r → J l G (rmD 1 0 0) Y 0 0 3 [(0, .ref (gb G 19)), (1, .int x1), (2, .int x2)] [] (WB G p_female p_born p_toldDeath p_lastYear p_father p_mother p_fatherGrade p_motherGrade p_size g_holder g_arms g_from g_size r_marks r_arms r_root r_steps r_grade r_marksAboveOne q_rows q_sizes t_bytes t_length s_tokens s_starts s_size a_code a_codeSize a_at a_token a_fault a_place o_texts o_names o_operands o_size o_open o_refuses o_differs o_fees c_years c_rows c_size x_faultPlace ++ fr)) (x1 : Int32) (x2 : Int32) (hf : g_X8_put_3 t_bytes t_length k3 x1 x2 = some r) : J l G (rmD 1 0 0) Y 0 0 3 [(0, .ref (gb G 19)), (1, .int x1), (2, .int x2)] [] (WB G p_female p_born p_toldDeath p_lastYear p_father p_mother p_fatherGrade p_motherGrade p_size g_holder g_arms g_from g_size r_marks r_arms r_root r_steps r_grade r_marksAboveOne q_rows q_sizes t_bytes t_length s_tokens s_starts s_size a_code a_codeSize a_at a_token a_fault a_place o_texts o_names o_operands o_size o_open o_refuses o_differs o_fees c_years c_rows c_size x_faultPlace ++ fr) := by
  unfold g_X8_put_3 at hf
  refine j_iload_n hX dX8_put_3 4 rfl 2 rfl rfl ?_
  refine j_if_lt hX dX8_put_4 7 46 rfl rfl (fun h1 => ?_) (fun h1 => ?_)
  · replace hf := itt h1 hf
    refine j_sub [] rfl ?_
    exact t_X8_put_46 hX hQ    hf
  · replace hf := itf h1 hf
    refine j_aload_n hX dX8_put_7 8 rfl 0 rfl rfl ?_
    refine j_get hX dX8_put_8 11 rfl fg_X8_13 19 rfl rfl ?_
    refine j_sipush (v := 400) hX dX8_put_11 14 rfl (by decide) ?_
    refine j_icmp_ge hX dX8_put_14 17 46 rfl rfl (fun h2 => ?_) (fun h2 => ?_)
    · replace hf := itt h2 hf
      refine j_sub [] rfl ?_
      exact t_X8_put_46 hX hQ    hf
    · replace hf := itf h2 hf
      refine j_aload_n hX dX8_put_17 18 rfl 0 rfl rfl ?_
      refine j_get hX dX8_put_18 21 rfl fg_X8_9 19 rfl rfl ?_
      refine j_aload_n hX dX8_put_21 22 rfl 0 rfl rfl ?_
      refine j_get hX dX8_put_22 25 rfl fg_X8_13 19 rfl rfl ?_
      refine j_iload_n hX dX8_put_25 26 rfl 1 rfl rfl ?_
      refine j_iload_n hX dX8_put_26 27 rfl 2 rfl rfl ?_
      refine j_iushr hX dX8_put_27 28 rfl ?_
      refine j_i2b hX dX8_put_28 29 rfl ?_
      obtain ⟨hb3, hf⟩ := ign hf
      refine j_bast hX dX8_put_29 30 rfl 20 rfl hb3 (ws' := (WB G p_female p_born p_toldDeath p_lastYear p_father p_mother p_fatherGrade p_motherGrade p_size g_holder g_arms g_from g_size r_marks r_arms r_root r_steps r_grade r_marksAboveOne q_rows q_sizes (upd t_bytes (Int32.toNatClampNeg t_length) (vp_nar .byte ((Int32.toInt8 (ushr32 x1 x2)).toInt32))) t_length s_tokens s_starts s_size a_code a_codeSize a_at a_token a_fault a_place o_texts o_names o_operands o_size o_open o_refuses o_differs o_fees c_years c_rows c_size x_faultPlace ++ fr)) rfl ?_
      refine j_aload_n hX dX8_put_30 31 rfl 0 rfl rfl ?_
      refine j_dup hX dX8_put_31 32 rfl rfl ?_
      refine j_get hX dX8_put_32 35 rfl fg_X8_13 19 rfl rfl ?_
      refine j_iconst (v := 1) hX dX8_put_35 36 rfl (by decide) ?_
      refine j_iadd hX dX8_put_36 37 rfl ?_
      refine j_put hX dX8_put_37 40 rfl fg_X8_13 ft_X8_1 19 rfl rfl rfl (Nat.le_of_ble_eq_true rfl) (ws' := (WB G p_female p_born p_toldDeath p_lastYear p_father p_mother p_fatherGrade p_motherGrade p_size g_holder g_arms g_from g_size r_marks r_arms r_root r_steps r_grade r_marksAboveOne q_rows q_sizes (upd t_bytes (Int32.toNatClampNeg t_length) (vp_nar .byte ((Int32.toInt8 (ushr32 x1 x2)).toInt32))) (t_length + 1) s_tokens s_starts s_size a_code a_codeSize a_at a_token a_fault a_place o_texts o_names o_operands o_size o_open o_refuses o_differs o_fees c_years c_rows c_size x_faultPlace ++ fr)) rfl ?_
      refine j_iinc (v := x2 + (-8)) hX dX8_put_40 43 rfl 2 rfl rfl (by decide) (lv' := [(2, .int (x2 + (-8))), (0, .ref (gb G 19)), (1, .int x1)]) rfl ?_
      refine j_goto hX dX8_put_43 3 rfl ?_
      refine j_sub [1, 2, 0] rfl ?_
      exact hk3 x1 (x2 + (-8)) (upd t_bytes (Int32.toNatClampNeg t_length) (vp_nar .byte ((Int32.toInt8 (ushr32 x1 x2)).toInt32))) (t_length + 1) hf
def f_X8_put_3  : Nat → (Int32 × Int32 × (Nat → Int32) × Int32) → Option ((Nat → Int32) × Int32) :=
  lp (fun k v => g_X8_put_3 v.2.2.1 v.2.2.2 (fun x1 x2 t_bytes t_length => k (x1, x2, t_bytes, t_length)) v.1 v.2.1)
set_option maxRecDepth 100000 in
set_option maxHeartbeats 4000000 in
theorem u_X8_put_3 {Y : YT} {r : (Nat → Int32) × Int32}  (hX : CX l G cX8_put 3 RX8 Y) (hQ : EQv G Y 0 0 (WB G p_female p_born p_toldDeath p_lastYear p_father p_mother p_fatherGrade p_motherGrade p_size g_holder g_arms g_from g_size r_marks r_arms r_root r_steps r_grade r_marksAboveOne q_rows q_sizes r.1 r.2 s_tokens s_starts s_size a_code a_codeSize a_at a_token a_fault a_place o_texts o_names o_operands o_size o_open o_refuses o_differs o_fees c_years c_rows c_size x_faultPlace ++ fr))  (n : Nat) (v : Int32 × Int32 × (Nat → Int32) × Int32) (hf : f_X8_put_3  n v = some r) : J l G (rmD 1 0 0) Y 0 0 3 [(0, .ref (gb G 19)), (1, .int v.1), (2, .int v.2.1)] [] (WB G p_female p_born p_toldDeath p_lastYear p_father p_mother p_fatherGrade p_motherGrade p_size g_holder g_arms g_from g_size r_marks r_arms r_root r_steps r_grade r_marksAboveOne q_rows q_sizes v.2.2.1 v.2.2.2 s_tokens s_starts s_size a_code a_codeSize a_at a_token a_fault a_place o_texts o_names o_operands o_size o_open o_refuses o_differs o_fees c_years c_rows c_size x_faultPlace ++ fr) :=
  lp_ind (P := fun v : Int32 × Int32 × (Nat → Int32) × Int32 => J l G (rmD 1 0 0) Y 0 0 3 [(0, .ref (gb G 19)), (1, .int v.1), (2, .int v.2.1)] [] (WB G p_female p_born p_toldDeath p_lastYear p_father p_mother p_fatherGrade p_motherGrade p_size g_holder g_arms g_from g_size r_marks r_arms r_root r_steps r_grade r_marksAboveOne q_rows q_sizes v.2.2.1 v.2.2.2 s_tokens s_starts s_size a_code a_codeSize a_at a_token a_fault a_place o_texts o_names o_operands o_size o_open o_refuses o_differs o_fees c_years c_rows c_size x_faultPlace ++ fr)) (fun k hk v hf => t_X8_put_3 hX hQ   (fun x1 x2 t_bytes t_length h => hk (x1, x2, t_bytes, t_length) h) v.1 v.2.1 hf) n v hf
def f_X8_put (fu : Nat) (t_bytes : Nat → Int32) (t_length : Int32) (x1 : Int32) : Option ((Nat → Int32) × Int32) :=
  f_X8_put_3  fu (x1, 24, t_bytes, t_length)
set_option maxRecDepth 100000 in
set_option maxHeartbeats 4000000 in
theorem t_X8_put {fu : Nat}  (x1 : Int32) {r : (Nat → Int32) × Int32} (hf : f_X8_put fu t_bytes t_length x1 = some r) : Cv l G 1 0 0 yX8_put cX8_put 3 [.ref (gb G 19), .int x1] (WB G p_female p_born p_toldDeath p_lastYear p_father p_mother p_fatherGrade p_motherGrade p_size g_holder g_arms g_from g_size r_marks r_arms r_root r_steps r_grade r_marksAboveOne q_rows q_sizes t_bytes t_length s_tokens s_starts s_size a_code a_codeSize a_at a_token a_fault a_place o_texts o_names o_operands o_size o_open o_refuses o_differs o_fees c_years c_rows c_size x_faultPlace ++ fr) (WB G p_female p_born p_toldDeath p_lastYear p_father p_mother p_fatherGrade p_motherGrade p_size g_holder g_arms g_from g_size r_marks r_arms r_root r_steps r_grade r_marksAboveOne q_rows q_sizes r.1 r.2 s_tokens s_starts s_size a_code a_codeSize a_at a_token a_fault a_place o_texts o_names o_operands o_size o_open o_refuses o_differs o_fees c_years c_rows c_size x_faultPlace ++ fr) := by
  refine Cv.of (by decide) (Nat.le_of_ble_eq_true rfl) (fun Y hX hQ => ?_)
  refine j_lv (lv' := [(0, .ref (gb G 19)), (1, .int x1)]) rfl ?_
  unfold f_X8_put at hf
  refine j_bipush (v := 24) hX dX8_put_0 2 rfl (by decide) ?_
  refine j_istore_n hX dX8_put_2 3 rfl rfl (by decide) (lv' := [(2, .int 24), (0, .ref (gb G 19)), (1, .int x1)]) rfl ?_
  refine j_sub [1, 2, 0] rfl ?_
  exact u_X8_put_3 hX hQ   fu (x1, 24, t_bytes, t_length) hf
end
