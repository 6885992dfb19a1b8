def min32 (x y : Int32) : Int32 := if y < x then y else x
def MMIN (own : String) (idx : Nat) : Prop := Cond.methodLink own idx Lib.Math.min.name ∈ TW ∧ Cond.static Lib.Math.min.name ∈ TW ∧ Cond.initialized "java/lang/Math" ∈ TW ∧ Cond.code Lib.Math.min.name Lib.Math.min.code 2 (some .int) ∈ TW
theorem j_min {l : Launch} {G : GT} {Y : YT} {cells slots pc : Nat} {lv : List (Nat × Value)} {rest : List Value} {ws : va_W} {cc : ByteArray} {nL : Nat} {own : String} {d mR sR idx : Nat} {x y : Int32} (hX : CX l G cc nL own Y) (dd : decode cc pc = .ok (.invokestatic idx, 3)) (pn : Nat) (hp : pc + 3 = pn) (hm : MMIN own idx) (hd : 1 ≤ d) (hW : (rest.map fun v => v.category).sum ≤ 8) (hr1 : cells ≤ mR) (hr2 : slots ≤ sR) (kk : J l G (rmD d mR sR) Y cells slots pn lv (.int (min32 x y) :: rest) ws) : J l G (rmD d mR sR) Y cells slots pc lv (.int y :: .int x :: rest) ws := by
  intro H locs ls a b c e
  have hw := hX.2.2.2.2.1
  refine va_mmin hX.1 hX.2.1 a.1.symm hX.2.2.2.1 (hw _ hm.1) (hw _ hm.2.1) (hw _ hm.2.2.1) (hw _ hm.2.2.2) hd ?_ hr1 hr2 dd (by rw [hp]; exact kk H locs ls a b c e)
  show _ + 13 ≤ 64 * d
  omega
theorem mm_X7_22 : MMIN RX7 22 := ⟨inTW 539 (by decide +kernel) rfl, inTW 540 (by decide +kernel) rfl, inTW 86 (by decide +kernel) rfl, inTW 541 (by decide +kernel) rfl⟩
theorem mm_X3_57 : MMIN RX3 57 := ⟨inTW 651 (by decide +kernel) rfl, inTW 540 (by decide +kernel) rfl, inTW 86 (by decide +kernel) rfl, inTW 541 (by decide +kernel) rfl⟩
theorem mm_J7_304 : MMIN RJ7 304 := ⟨inTW 700 (by decide +kernel) rfl, inTW 540 (by decide +kernel) rfl, inTW 86 (by decide +kernel) rfl, inTW 541 (by decide +kernel) rfl⟩
theorem mm_X5_55 : MMIN RX5 55 := ⟨inTW 786 (by decide +kernel) rfl, inTW 540 (by decide +kernel) rfl, inTW 86 (by decide +kernel) rfl, inTW 541 (by decide +kernel) rfl⟩
theorem mm_X11_148 : MMIN RX11 148 := ⟨inTW 1241 (by decide +kernel) rfl, inTW 540 (by decide +kernel) rfl, inTW 86 (by decide +kernel) rfl, inTW 541 (by decide +kernel) rfl⟩
theorem isB_f {v : Int32} (h : isB v = true) : fits .boolean (.int v) = true := by
  unfold isB at h
  simp at h
  rcases h with rfl | rfl <;> rfl
def WB (G : GT) (p_female : Nat → Int32) (p_born : Nat → Int32) (p_toldDeath : Nat → Int32) (p_lastYear : Nat → Int32) (p_father : Nat → Int32) (p_mother : Nat → Int32) (p_fatherGrade : Nat → Int32) (p_motherGrade : Nat → Int32) (p_size : Int32) (g_holder : Nat → Int32) (g_arms : Nat → Int32) (g_from : Nat → Int32) (g_size : Int32) (r_marks : Nat → Int32) (r_arms : Int32) (r_root : Int32) (r_steps : Int32) (r_grade : Int32) (r_marksAboveOne : Int32) (q_rows : Nat → Int32) (q_sizes : Nat → Int32) (t_bytes : Nat → Int32) (t_length : Int32) (s_tokens : Nat → Int32) (s_starts : Nat → Int32) (s_size : Int32) (a_code : Nat → Int32) (a_codeSize : Int32) (a_at : Int32) (a_token : Int32) (a_fault : Int32) (a_place : Int32) (o_texts : Nat → Option Nat) (o_names : Nat → Int32) (o_operands : Nat → Int32) (o_size : Int32) (o_open : Int32) (o_refuses : Int32) (o_differs : Int32) (o_fees : Int32) (c_years : Nat → Int32) (c_rows : Nat → Int32) (c_size : Int32) (x_faultPlace : Int32) : va_W := [
  (gb G 0, .inr (10, [.ref (gb G 1), .ref (gb G 10), .ref (gb G 14), .ref (gb G 16), .ref (gb G 19), .ref (gb G 21), .ref (gb G 26), .ref (gb G 30), .int x_faultPlace])),
  (gb G 1, .inr (4, [.ref (gb G 2), .ref (gb G 3), .ref (gb G 4), .ref (gb G 5), .ref (gb G 6), .ref (gb G 7), .ref (gb G 8), .ref (gb G 9), .int p_size])),
  (gb G 2, .inl (gct G 0, 60, .inl p_female)),
  (gb G 3, .inl (gct G 1, 60, .inl p_born)),
  (gb G 4, .inl (gct G 1, 60, .inl p_toldDeath)),
  (gb G 5, .inl (gct G 1, 60, .inl p_lastYear)),
  (gb G 6, .inl (gct G 1, 60, .inl p_father)),
  (gb G 7, .inl (gct G 1, 60, .inl p_mother)),
  (gb G 8, .inl (gct G 1, 60, .inl p_fatherGrade)),
  (gb G 9, .inl (gct G 1, 60, .inl p_motherGrade)),
  (gb G 10, .inr (1, [.ref (gb G 11), .ref (gb G 12), .ref (gb G 13), .int g_size])),
  (gb G 11, .inl (gct G 1, 40, .inl g_holder)),
  (gb G 12, .inl (gct G 1, 40, .inl g_arms)),
  (gb G 13, .inl (gct G 1, 40, .inl g_from)),
  (gb G 14, .inr (5, [.ref (gb G 15), .int r_arms, .int r_root, .int r_steps, .int r_grade, .int r_marksAboveOne])),
  (gb G 15, .inl (gct G 1, 60, .inl r_marks)),
  (gb G 16, .inr (6, [.ref (gb G 17), .ref (gb G 18)])),
  (gb G 17, .inl (gct G 1, 720, .inl q_rows)),
  (gb G 18, .inl (gct G 1, 60, .inl q_sizes)),
  (gb G 19, .inr (8, [.ref (gb G 20), .int t_length])),
  (gb G 20, .inl (gct G 2, 400, .inl t_bytes)),
  (gb G 21, .inr (3, [.ref (gb G 22), .ref (gb G 25), .int a_codeSize, .int a_at, .int a_token, .int a_fault, .int a_place])),
  (gb G 22, .inr (7, [.ref (gb G 23), .ref (gb G 24), .int s_size])),
  (gb G 23, .inl (gct G 1, 401, .inl s_tokens)),
  (gb G 24, .inl (gct G 1, 401, .inl s_starts)),
  (gb G 25, .inl (gct G 1, 400, .inl a_code)),
  (gb G 26, .inr (2, [.ref (gb G 27), .ref (gb G 28), .ref (gb G 29), .int o_size, .int o_open, .int o_refuses, .int o_differs, .int o_fees])),
  (gb G 27, .inl (gct G 4, 6, .inr (.inr (.inr (.inr o_texts))))),
  (gb G 28, .inl (gct G 1, 8, .inl o_names)),
  (gb G 29, .inl (gct G 1, 24, .inl o_operands)),
  (gb G 30, .inr (0, [.ref (gb G 31), .ref (gb G 32), .int c_size])),
  (gb G 31, .inl (gct G 1, 40, .inl c_years)),
  (gb G 32, .inl (gct G 1, 40, .inl c_rows))]
def WM (G : GT) (m_code : Int32) (m_people : Int32) (m_grants : Int32) (m_texts : Int32) (m_copies : Int32) (m_taped : Int32) (m_faultPlace : Int32) (m_isFemale : Nat → Int32) (m_born : Nat → Int32) (m_died : Nat → Int32) (m_father : Nat → Int32) (m_mother : Nat → Int32) (m_fatherGrade : Nat → Int32) (m_motherGrade : Nat → Int32) (m_grantTo : Nat → Int32) (m_grantArms : Nat → Int32) (m_grantYear : Nat → Int32) (m_copyYear : Nat → Int32) (m_copyRow : Nat → Int32) (m_tape : Nat → Int32) (m_textYear : Nat → Int32) (m_ruleMany : Nat → Int32) (m_ruleFrom : Nat → Int32) (m_codeRow : Nat → Int32) (m_stack : Nat → Int32) (m_ruleKind : Nat → Int32) (m_codes : Int32) (m_at : Int32) (m_read : Int32) (m_token : Int32) (m_sign : Int32) (m_begins : Int32) (m_ends : Int32) (m_bad : Int32) (m_badPlace : Int32) (m_top : Int32) (m_lineLives : Nat → Int32) (m_markRow : Nat → Int32) (m_quarterMany : Nat → Int32) (m_quarters : Nat → Int32) (m_isUp : Nat → Int32) (m_wasUp : Nat → Int32) : va_W := [
  (gm G 0, .inr (11, [.ref (gm G 1), .int m_code, .int m_people, .int m_grants, .int m_texts, .int m_copies, .int m_taped, .int m_faultPlace, .ref (gm G 2), .ref (gm G 3), .ref (gm G 4), .ref (gm G 5), .ref (gm G 6), .ref (gm G 7), .ref (gm G 8), .ref (gm G 9), .ref (gm G 10), .ref (gm G 11), .ref (gm G 12), .ref (gm G 13), .ref (gm G 14), .ref (gm G 15), .ref (gm G 16), .ref (gm G 17), .ref (gm G 18), .ref (gm G 19), .ref (gm G 20), .int m_codes, .int m_at, .int m_read, .int m_token, .int m_sign, .int m_begins, .int m_ends, .int m_bad, .int m_badPlace, .int m_top, .ref (gm G 21), .ref (gm G 22), .ref (gm G 23), .ref (gm G 24), .ref (gm G 25), .ref (gm G 26)])),
  (gm G 1, .inl (gct G 5, 8, .inr (.inr (.inr (.inr (fun k => some (gsk G (24 + k)))))))),
  (gm G 2, .inl (gct G 0, 60, .inl m_isFemale)),
  (gm G 3, .inl (gct G 1, 60, .inl m_born)),
  (gm G 4, .inl (gct G 1, 60, .inl m_died)),
  (gm G 5, .inl (gct G 1, 60, .inl m_father)),
  (gm G 6, .inl (gct G 1, 60, .inl m_mother)),
  (gm G 7, .inl (gct G 1, 60, .inl m_fatherGrade)),
  (gm G 8, .inl (gct G 1, 60, .inl m_motherGrade)),
  (gm G 9, .inl (gct G 1, 40, .inl m_grantTo)),
  (gm G 10, .inl (gct G 1, 40, .inl m_grantArms)),
  (gm G 11, .inl (gct G 1, 40, .inl m_grantYear)),
  (gm G 12, .inl (gct G 1, 40, .inl m_copyYear)),
  (gm G 13, .inl (gct G 1, 40, .inl m_copyRow)),
  (gm G 14, .inl (gct G 1, 400, .inl m_tape)),
  (gm G 15, .inl (gct G 1, 6, .inl m_textYear)),
  (gm G 16, .inl (gct G 1, 6, .inl m_ruleMany)),
  (gm G 17, .inl (gct G 1, 78, .inl m_ruleFrom)),
  (gm G 18, .inl (gct G 1, 4200, .inl m_codeRow)),
  (gm G 19, .inl (gct G 1, 150, .inl m_stack)),
  (gm G 20, .inl (gct G 1, 72, .inl m_ruleKind)),
  (gm G 21, .inl (gct G 0, 60, .inl m_lineLives)),
  (gm G 22, .inl (gct G 1, 60, .inl m_markRow)),
  (gm G 23, .inl (gct G 1, 60, .inl m_quarterMany)),
  (gm G 24, .inl (gct G 1, 720, .inl m_quarters)),
  (gm G 25, .inl (gct G 0, 60, .inl m_isUp)),
  (gm G 26, .inl (gct G 0, 60, .inl m_wasUp))]
