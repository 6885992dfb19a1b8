/-! One call on a fresh object. -/
theorem it_0 : IT (fun _ => 0) (fun _ => 0) := fun _ => (show (0 : Int32) = 0 &&& 255 by decide)
def Inv1 (k : Nat) (x : SB) (y : SM) : Prop := k = 0 → x = B0 ∧ y = M0
theorem inv1_1 {x : SB} {y : SM} : Inv1 1 x y := fun h => absurd h (by decide)
theorem nhs {x : Int32} : ¬ hs 0 x := fun h => h.2 (Int32.not_lt.mp h.1)
theorem rx0 (x : Int32) : f_X10_requirePerson_x 0 x = some () := reqx_0 (n := 0) nhs
theorem ix0 (x : Int32) : f_X11_is 0 x = some 0 := is_m0 (n := 0) nhs
theorem hx0 (x : Int32) : f_X0_has 0 x = some 0 := by
  unfold f_X0_has
  by_cases h : x < 0
  · rw [if_pos h]; rfl
  · rw [if_neg h, if_pos (Int32.not_lt.mp h)]; rfl
set_option maxRecDepth 100000 in
set_option maxHeartbeats 4000000 in
theorem o_person : St_person (Inv1 0) (Inv1 1) := by
  intro p_female p_born p_toldDeath p_lastYear p_father p_mother p_fatherGrade p_motherGrade p_size g_holder g_arms g_from g_size r_marks r_arms r_root r_steps r_grade r_marksAboveOne q_rows q_sizes t_bytes t_length s_tokens s_starts s_size a_code a_codeSize a_at a_token a_fault a_place o_names o_operands o_size o_open o_refuses o_differs o_fees c_years c_rows c_size x_faultPlace kT tN tF tY m_code m_people m_grants m_texts m_copies m_taped m_faultPlace m_isFemale m_born m_died m_father m_mother m_fatherGrade m_motherGrade m_grantTo m_grantArms m_grantYear m_copyYear m_copyRow m_tape m_textYear m_ruleMany m_ruleFrom m_codeRow m_stack m_ruleKind m_codes m_at m_read m_token m_sign m_begins m_ends m_bad m_badPlace m_top m_lineLives m_markRow m_quarterMany m_quarters m_isUp m_wasUp hI x1 x2 x3
  obtain ⟨h1, h2⟩ := hI rfl
  simp only [B0, Prod.mk.injEq] at h1
  simp only [M0, Prod.mk.injEq] at h2
  obtain ⟨rfl, rfl, rfl, rfl, rfl, rfl, rfl, rfl, rfl, rfl, rfl, rfl, rfl, rfl, rfl, rfl, rfl, rfl, rfl, rfl, rfl, rfl, rfl, rfl, rfl, rfl, rfl, rfl, rfl, rfl, rfl, rfl, rfl, rfl, rfl, rfl, rfl, rfl, rfl, rfl, rfl, rfl, rfl, rfl, rfl, rfl, rfl⟩ := h1
  obtain ⟨rfl, rfl, rfl, rfl, rfl, rfl, rfl, rfl, rfl, rfl, rfl, rfl, rfl, rfl, rfl, rfl, rfl, rfl, rfl, rfl, rfl, rfl, rfl, rfl, rfl, rfl, rfl, rfl, rfl, rfl, rfl, rfl, rfl, rfl, rfl, rfl, rfl, rfl, rfl, rfl, rfl, rfl⟩ := h2
  by_cases h : yr x2 ∧ dieOK x2 x3
  · exact ⟨_, _, person_b1 (n := 0) (by decide) h.1 h.2, person_m1 (n := 0) (by decide) h.1 h.2, rfl, inv1_1⟩
  · exact ⟨_, _, person_b0 (n := 0) (by decide) (fun q => h q.2), person_m0 (n := 0) (by decide) (fun q => h q.2), rfl, inv1_1⟩
set_option maxRecDepth 100000 in
set_option maxHeartbeats 4000000 in
theorem o_parent : St_parent (Inv1 0) (Inv1 1) := by
  intro p_female p_born p_toldDeath p_lastYear p_father p_mother p_fatherGrade p_motherGrade p_size g_holder g_arms g_from g_size r_marks r_arms r_root r_steps r_grade r_marksAboveOne q_rows q_sizes t_bytes t_length s_tokens s_starts s_size a_code a_codeSize a_at a_token a_fault a_place o_names o_operands o_size o_open o_refuses o_differs o_fees c_years c_rows c_size x_faultPlace kT tN tF tY m_code m_people m_grants m_texts m_copies m_taped m_faultPlace m_isFemale m_born m_died m_father m_mother m_fatherGrade m_motherGrade m_grantTo m_grantArms m_grantYear m_copyYear m_copyRow m_tape m_textYear m_ruleMany m_ruleFrom m_codeRow m_stack m_ruleKind m_codes m_at m_read m_token m_sign m_begins m_ends m_bad m_badPlace m_top m_lineLives m_markRow m_quarterMany m_quarters m_isUp m_wasUp hI x1 x2 x3 x4
  obtain ⟨h1, h2⟩ := hI rfl
  simp only [B0, Prod.mk.injEq] at h1
  simp only [M0, Prod.mk.injEq] at h2
  obtain ⟨rfl, rfl, rfl, rfl, rfl, rfl, rfl, rfl, rfl, rfl, rfl, rfl, rfl, rfl, rfl, rfl, rfl, rfl, rfl, rfl, rfl, rfl, rfl, rfl, rfl, rfl, rfl, rfl, rfl, rfl, rfl, rfl, rfl, rfl, rfl, rfl, rfl, rfl, rfl, rfl, rfl, rfl, rfl, rfl, rfl, rfl, rfl⟩ := h1
  obtain ⟨rfl, rfl, rfl, rfl, rfl, rfl, rfl, rfl, rfl, rfl, rfl, rfl, rfl, rfl, rfl, rfl, rfl, rfl, rfl, rfl, rfl, rfl, rfl, rfl, rfl, rfl, rfl, rfl, rfl, rfl, rfl, rfl, rfl, rfl, rfl, rfl, rfl, rfl, rfl, rfl, rfl, rfl⟩ := h2
  refine Or.inr ⟨((fun _ => 0), (fun _ => 0), (fun _ => 0), (fun _ => 0)), (0, 1, (fun _ => 0), (fun _ => 0), (fun _ => 0), (fun _ => 0)), ?_, ?_, rfl, inv1_1⟩
  · unfold f_X10_parent_x
    rw [rx0]
    rfl
  · unfold f_X11_parent
    rw [ix0]
    rfl
set_option maxRecDepth 100000 in
set_option maxHeartbeats 4000000 in
theorem o_grant : St_grant (Inv1 0) (Inv1 1) := by
  intro p_female p_born p_toldDeath p_lastYear p_father p_mother p_fatherGrade p_motherGrade p_size g_holder g_arms g_from g_size r_marks r_arms r_root r_steps r_grade r_marksAboveOne q_rows q_sizes t_bytes t_length s_tokens s_starts s_size a_code a_codeSize a_at a_token a_fault a_place o_names o_operands o_size o_open o_refuses o_differs o_fees c_years c_rows c_size x_faultPlace kT tN tF tY m_code m_people m_grants m_texts m_copies m_taped m_faultPlace m_isFemale m_born m_died m_father m_mother m_fatherGrade m_motherGrade m_grantTo m_grantArms m_grantYear m_copyYear m_copyRow m_tape m_textYear m_ruleMany m_ruleFrom m_codeRow m_stack m_ruleKind m_codes m_at m_read m_token m_sign m_begins m_ends m_bad m_badPlace m_top m_lineLives m_markRow m_quarterMany m_quarters m_isUp m_wasUp hI x1 x2 x3
  obtain ⟨h1, h2⟩ := hI rfl
  simp only [B0, Prod.mk.injEq] at h1
  simp only [M0, Prod.mk.injEq] at h2
  obtain ⟨rfl, rfl, rfl, rfl, rfl, rfl, rfl, rfl, rfl, rfl, rfl, rfl, rfl, rfl, rfl, rfl, rfl, rfl, rfl, rfl, rfl, rfl, rfl, rfl, rfl, rfl, rfl, rfl, rfl, rfl, rfl, rfl, rfl, rfl, rfl, rfl, rfl, rfl, rfl, rfl, rfl, rfl, rfl, rfl, rfl, rfl, rfl⟩ := h1
  obtain ⟨rfl, rfl, rfl, rfl, rfl, rfl, rfl, rfl, rfl, rfl, rfl, rfl, rfl, rfl, rfl, rfl, rfl, rfl, rfl, rfl, rfl, rfl, rfl, rfl, rfl, rfl, rfl, rfl, rfl, rfl, rfl, rfl, rfl, rfl, rfl, rfl, rfl, rfl, rfl, rfl, rfl, rfl⟩ := h2
  refine Or.inr ⟨((fun _ => 0), (fun _ => 0), (fun _ => 0), 0), (0, 1, 0, (fun _ => 0), (fun _ => 0), (fun _ => 0)), ?_, ?_, rfl, inv1_1⟩
  · unfold f_X10_grant_x
    rw [rx0]
    rfl
  · unfold f_X11_grant
    rw [ix0]
    rfl
set_option maxRecDepth 100000 in
set_option maxHeartbeats 4000000 in
theorem o_about : St_about (Inv1 0) (Inv1 1) := by
  intro p_female p_born p_toldDeath p_lastYear p_father p_mother p_fatherGrade p_motherGrade p_size g_holder g_arms g_from g_size r_marks r_arms r_root r_steps r_grade r_marksAboveOne q_rows q_sizes t_bytes t_length s_tokens s_starts s_size a_code a_codeSize a_at a_token a_fault a_place o_names o_operands o_size o_open o_refuses o_differs o_fees c_years c_rows c_size x_faultPlace kT tN tF tY m_code m_people m_grants m_texts m_copies m_taped m_faultPlace m_isFemale m_born m_died m_father m_mother m_fatherGrade m_motherGrade m_grantTo m_grantArms m_grantYear m_copyYear m_copyRow m_tape m_textYear m_ruleMany m_ruleFrom m_codeRow m_stack m_ruleKind m_codes m_at m_read m_token m_sign m_begins m_ends m_bad m_badPlace m_top m_lineLives m_markRow m_quarterMany m_quarters m_isUp m_wasUp hI x1 x2
  obtain ⟨h1, h2⟩ := hI rfl
  simp only [B0, Prod.mk.injEq] at h1
  simp only [M0, Prod.mk.injEq] at h2
  obtain ⟨rfl, rfl, rfl, rfl, rfl, rfl, rfl, rfl, rfl, rfl, rfl, rfl, rfl, rfl, rfl, rfl, rfl, rfl, rfl, rfl, rfl, rfl, rfl, rfl, rfl, rfl, rfl, rfl, rfl, rfl, rfl, rfl, rfl, rfl, rfl, rfl, rfl, rfl, rfl, rfl, rfl, rfl, rfl, rfl, rfl, rfl, rfl⟩ := h1
  obtain ⟨rfl, rfl, rfl, rfl, rfl, rfl, rfl, rfl, rfl, rfl, rfl, rfl, rfl, rfl, rfl, rfl, rfl, rfl, rfl, rfl, rfl, rfl, rfl, rfl, rfl, rfl, rfl, rfl, rfl, rfl, rfl, rfl, rfl, rfl, rfl, rfl, rfl, rfl, rfl, rfl, rfl, rfl⟩ := h2
  refine Or.inr ⟨0, (), (0, 1), ?_, ?_, rfl, inv1_1⟩
  · unfold f_X10_about_x
    rw [rx0]
    rfl
  · unfold f_X11_about
    rw [ix0]
    rfl
set_option maxRecDepth 100000 in
set_option maxHeartbeats 4000000 in
theorem o_bears : St_bears (Inv1 0) (Inv1 1) := by
  intro p_female p_born p_toldDeath p_lastYear p_father p_mother p_fatherGrade p_motherGrade p_size g_holder g_arms g_from g_size r_marks r_arms r_root r_steps r_grade r_marksAboveOne q_rows q_sizes t_bytes t_length s_tokens s_starts s_size a_code a_codeSize a_at a_token a_fault a_place o_names o_operands o_size o_open o_refuses o_differs o_fees c_years c_rows c_size x_faultPlace kT tN tF tY m_code m_people m_grants m_texts m_copies m_taped m_faultPlace m_isFemale m_born m_died m_father m_mother m_fatherGrade m_motherGrade m_grantTo m_grantArms m_grantYear m_copyYear m_copyRow m_tape m_textYear m_ruleMany m_ruleFrom m_codeRow m_stack m_ruleKind m_codes m_at m_read m_token m_sign m_begins m_ends m_bad m_badPlace m_top m_lineLives m_markRow m_quarterMany m_quarters m_isUp m_wasUp hI x1 x2 x3
  obtain ⟨h1, h2⟩ := hI rfl
  simp only [B0, Prod.mk.injEq] at h1
  simp only [M0, Prod.mk.injEq] at h2
  obtain ⟨rfl, rfl, rfl, rfl, rfl, rfl, rfl, rfl, rfl, rfl, rfl, rfl, rfl, rfl, rfl, rfl, rfl, rfl, rfl, rfl, rfl, rfl, rfl, rfl, rfl, rfl, rfl, rfl, rfl, rfl, rfl, rfl, rfl, rfl, rfl, rfl, rfl, rfl, rfl, rfl, rfl, rfl, rfl, rfl, rfl, rfl, rfl⟩ := h1
  obtain ⟨rfl, rfl, rfl, rfl, rfl, rfl, rfl, rfl, rfl, rfl, rfl, rfl, rfl, rfl, rfl, rfl, rfl, rfl, rfl, rfl, rfl, rfl, rfl, rfl, rfl, rfl, rfl, rfl, rfl, rfl, rfl, rfl, rfl, rfl, rfl, rfl, rfl, rfl, rfl, rfl, rfl, rfl⟩ := h2
  refine Or.inr ⟨0, 0, ((fun _ => 0), -1, -1, -1, -1, 0), (0, 1, (fun _ => 0), (fun _ => 0)), ?_, ?_, rfl, inv1_1⟩
  · unfold f_X10_bears_x
    rw [rx0]
    rfl
  · unfold f_X11_bears
    rw [ix0]
    rfl
set_option maxRecDepth 100000 in
set_option maxHeartbeats 4000000 in
theorem o_mark : St_mark (Inv1 0) (Inv1 1) := by
  intro p_female p_born p_toldDeath p_lastYear p_father p_mother p_fatherGrade p_motherGrade p_size g_holder g_arms g_from g_size r_marks r_arms r_root r_steps r_grade r_marksAboveOne q_rows q_sizes t_bytes t_length s_tokens s_starts s_size a_code a_codeSize a_at a_token a_fault a_place o_names o_operands o_size o_open o_refuses o_differs o_fees c_years c_rows c_size x_faultPlace kT tN tF tY m_code m_people m_grants m_texts m_copies m_taped m_faultPlace m_isFemale m_born m_died m_father m_mother m_fatherGrade m_motherGrade m_grantTo m_grantArms m_grantYear m_copyYear m_copyRow m_tape m_textYear m_ruleMany m_ruleFrom m_codeRow m_stack m_ruleKind m_codes m_at m_read m_token m_sign m_begins m_ends m_bad m_badPlace m_top m_lineLives m_markRow m_quarterMany m_quarters m_isUp m_wasUp hI x1 x2 x3
  obtain ⟨h1, h2⟩ := hI rfl
  simp only [B0, Prod.mk.injEq] at h1
  simp only [M0, Prod.mk.injEq] at h2
  obtain ⟨rfl, rfl, rfl, rfl, rfl, rfl, rfl, rfl, rfl, rfl, rfl, rfl, rfl, rfl, rfl, rfl, rfl, rfl, rfl, rfl, rfl, rfl, rfl, rfl, rfl, rfl, rfl, rfl, rfl, rfl, rfl, rfl, rfl, rfl, rfl, rfl, rfl, rfl, rfl, rfl, rfl, rfl, rfl, rfl, rfl, rfl, rfl⟩ := h1
  obtain ⟨rfl, rfl, rfl, rfl, rfl, rfl, rfl, rfl, rfl, rfl, rfl, rfl, rfl, rfl, rfl, rfl, rfl, rfl, rfl, rfl, rfl, rfl, rfl, rfl, rfl, rfl, rfl, rfl, rfl, rfl, rfl, rfl, rfl, rfl, rfl, rfl, rfl, rfl, rfl, rfl, rfl, rfl⟩ := h2
  refine Or.inr ⟨0, 0, ((fun _ => 0), -1, -1, -1, -1, 0), (0, 1, (fun _ => 0), (fun _ => 0)), ?_, ?_, rfl, inv1_1⟩
  · unfold f_X10_mark_x
    rw [rx0]
    rfl
  · unfold f_X11_mark
    rw [ix0]
    rfl
set_option maxRecDepth 100000 in
set_option maxHeartbeats 4000000 in
theorem o_head : St_head (Inv1 0) (Inv1 1) := by
  intro p_female p_born p_toldDeath p_lastYear p_father p_mother p_fatherGrade p_motherGrade p_size g_holder g_arms g_from g_size r_marks r_arms r_root r_steps r_grade r_marksAboveOne q_rows q_sizes t_bytes t_length s_tokens s_starts s_size a_code a_codeSize a_at a_token a_fault a_place o_names o_operands o_size o_open o_refuses o_differs o_fees c_years c_rows c_size x_faultPlace kT tN tF tY m_code m_people m_grants m_texts m_copies m_taped m_faultPlace m_isFemale m_born m_died m_father m_mother m_fatherGrade m_motherGrade m_grantTo m_grantArms m_grantYear m_copyYear m_copyRow m_tape m_textYear m_ruleMany m_ruleFrom m_codeRow m_stack m_ruleKind m_codes m_at m_read m_token m_sign m_begins m_ends m_bad m_badPlace m_top m_lineLives m_markRow m_quarterMany m_quarters m_isUp m_wasUp hI x1 x2
  obtain ⟨h1, h2⟩ := hI rfl
  simp only [B0, Prod.mk.injEq] at h1
  simp only [M0, Prod.mk.injEq] at h2
  obtain ⟨rfl, rfl, rfl, rfl, rfl, rfl, rfl, rfl, rfl, rfl, rfl, rfl, rfl, rfl, rfl, rfl, rfl, rfl, rfl, rfl, rfl, rfl, rfl, rfl, rfl, rfl, rfl, rfl, rfl, rfl, rfl, rfl, rfl, rfl, rfl, rfl, rfl, rfl, rfl, rfl, rfl, rfl, rfl, rfl, rfl, rfl, rfl⟩ := h1
  obtain ⟨rfl, rfl, rfl, rfl, rfl, rfl, rfl, rfl, rfl, rfl, rfl, rfl, rfl, rfl, rfl, rfl, rfl, rfl, rfl, rfl, rfl, rfl, rfl, rfl, rfl, rfl, rfl, rfl, rfl, rfl, rfl, rfl, rfl, rfl, rfl, rfl, rfl, rfl, rfl, rfl, rfl, rfl⟩ := h2
  refine Or.inr ⟨0, (), (0, 1, (fun _ => 0)), ?_, ?_, rfl, inv1_1⟩
  · unfold f_X10_head_x
    rw [rx0]
    rfl
  · unfold f_X11_head
    rw [ix0]
    rfl
set_option maxRecDepth 100000 in
set_option maxHeartbeats 4000000 in
theorem o_quarter : St_quarter (Inv1 0) (Inv1 1) := by
  intro p_female p_born p_toldDeath p_lastYear p_father p_mother p_fatherGrade p_motherGrade p_size g_holder g_arms g_from g_size r_marks r_arms r_root r_steps r_grade r_marksAboveOne q_rows q_sizes t_bytes t_length s_tokens s_starts s_size a_code a_codeSize a_at a_token a_fault a_place o_names o_operands o_size o_open o_refuses o_differs o_fees c_years c_rows c_size x_faultPlace kT tN tF tY m_code m_people m_grants m_texts m_copies m_taped m_faultPlace m_isFemale m_born m_died m_father m_mother m_fatherGrade m_motherGrade m_grantTo m_grantArms m_grantYear m_copyYear m_copyRow m_tape m_textYear m_ruleMany m_ruleFrom m_codeRow m_stack m_ruleKind m_codes m_at m_read m_token m_sign m_begins m_ends m_bad m_badPlace m_top m_lineLives m_markRow m_quarterMany m_quarters m_isUp m_wasUp hI x1 x2 x3
  obtain ⟨h1, h2⟩ := hI rfl
  simp only [B0, Prod.mk.injEq] at h1
  simp only [M0, Prod.mk.injEq] at h2
  obtain ⟨rfl, rfl, rfl, rfl, rfl, rfl, rfl, rfl, rfl, rfl, rfl, rfl, rfl, rfl, rfl, rfl, rfl, rfl, rfl, rfl, rfl, rfl, rfl, rfl, rfl, rfl, rfl, rfl, rfl, rfl, rfl, rfl, rfl, rfl, rfl, rfl, rfl, rfl, rfl, rfl, rfl, rfl, rfl, rfl, rfl, rfl, rfl⟩ := h1
  obtain ⟨rfl, rfl, rfl, rfl, rfl, rfl, rfl, rfl, rfl, rfl, rfl, rfl, rfl, rfl, rfl, rfl, rfl, rfl, rfl, rfl, rfl, rfl, rfl, rfl, rfl, rfl, rfl, rfl, rfl, rfl, rfl, rfl, rfl, rfl, rfl, rfl, rfl, rfl, rfl, rfl, rfl, rfl⟩ := h2
  refine Or.inr ⟨0, 0, ((fun _ => 0), (fun _ => 0)), (0, 1, (fun _ => 0), (fun _ => 0), (fun _ => 0)), ?_, ?_, rfl, inv1_1⟩
  · unfold f_X10_quarter_x
    rw [rx0]
    rfl
  · unfold f_X11_quarter
    rw [ix0]
    rfl
set_option maxRecDepth 100000 in
set_option maxHeartbeats 4000000 in
theorem o_claim : St_claim (Inv1 0) (Inv1 1) := by
  intro p_female p_born p_toldDeath p_lastYear p_father p_mother p_fatherGrade p_motherGrade p_size g_holder g_arms g_from g_size r_marks r_arms r_root r_steps r_grade r_marksAboveOne q_rows q_sizes t_bytes t_length s_tokens s_starts s_size a_code a_codeSize a_at a_token a_fault a_place o_names o_operands o_size o_open o_refuses o_differs o_fees c_years c_rows c_size x_faultPlace kT tN tF tY m_code m_people m_grants m_texts m_copies m_taped m_faultPlace m_isFemale m_born m_died m_father m_mother m_fatherGrade m_motherGrade m_grantTo m_grantArms m_grantYear m_copyYear m_copyRow m_tape m_textYear m_ruleMany m_ruleFrom m_codeRow m_stack m_ruleKind m_codes m_at m_read m_token m_sign m_begins m_ends m_bad m_badPlace m_top m_lineLives m_markRow m_quarterMany m_quarters m_isUp m_wasUp hI x1 x2 x3
  obtain ⟨h1, h2⟩ := hI rfl
  simp only [B0, Prod.mk.injEq] at h1
  simp only [M0, Prod.mk.injEq] at h2
  obtain ⟨rfl, rfl, rfl, rfl, rfl, rfl, rfl, rfl, rfl, rfl, rfl, rfl, rfl, rfl, rfl, rfl, rfl, rfl, rfl, rfl, rfl, rfl, rfl, rfl, rfl, rfl, rfl, rfl, rfl, rfl, rfl, rfl, rfl, rfl, rfl, rfl, rfl, rfl, rfl, rfl, rfl, rfl, rfl, rfl, rfl, rfl, rfl⟩ := h1
  obtain ⟨rfl, rfl, rfl, rfl, rfl, rfl, rfl, rfl, rfl, rfl, rfl, rfl, rfl, rfl, rfl, rfl, rfl, rfl, rfl, rfl, rfl, rfl, rfl, rfl, rfl, rfl, rfl, rfl, rfl, rfl, rfl, rfl, rfl, rfl, rfl, rfl, rfl, rfl, rfl, rfl, rfl, rfl⟩ := h2
  refine Or.inr ⟨0, ((fun _ => 0), -1, -1, -1, -1, 0, (fun _ => 0), (fun _ => 0), (fun _ => 0), (fun _ => 0), 0, 0, 0, 0), (0, 1, (fun _ => 0), 0, (fun _ => 0), (fun _ => 0), (fun _ => 0), (fun _ => 0)), ?_, ?_, rfl, inv1_1⟩
  · unfold f_X10_claim_x
    rw [rx0]
    rfl
  · unfold f_X11_claim
    rw [ix0]
    rfl
set_option maxRecDepth 100000 in
set_option maxHeartbeats 4000000 in
theorem o_fee : St_fee (Inv1 0) (Inv1 1) := by
  intro p_female p_born p_toldDeath p_lastYear p_father p_mother p_fatherGrade p_motherGrade p_size g_holder g_arms g_from g_size r_marks r_arms r_root r_steps r_grade r_marksAboveOne q_rows q_sizes t_bytes t_length s_tokens s_starts s_size a_code a_codeSize a_at a_token a_fault a_place o_names o_operands o_size o_open o_refuses o_differs o_fees c_years c_rows c_size x_faultPlace kT tN tF tY m_code m_people m_grants m_texts m_copies m_taped m_faultPlace m_isFemale m_born m_died m_father m_mother m_fatherGrade m_motherGrade m_grantTo m_grantArms m_grantYear m_copyYear m_copyRow m_tape m_textYear m_ruleMany m_ruleFrom m_codeRow m_stack m_ruleKind m_codes m_at m_read m_token m_sign m_begins m_ends m_bad m_badPlace m_top m_lineLives m_markRow m_quarterMany m_quarters m_isUp m_wasUp hI x1 x2
  obtain ⟨h1, h2⟩ := hI rfl
  simp only [B0, Prod.mk.injEq] at h1
  simp only [M0, Prod.mk.injEq] at h2
  obtain ⟨rfl, rfl, rfl, rfl, rfl, rfl, rfl, rfl, rfl, rfl, rfl, rfl, rfl, rfl, rfl, rfl, rfl, rfl, rfl, rfl, rfl, rfl, rfl, rfl, rfl, rfl, rfl, rfl, rfl, rfl, rfl, rfl, rfl, rfl, rfl, rfl, rfl, rfl, rfl, rfl, rfl, rfl, rfl, rfl, rfl, rfl, rfl⟩ := h1
  obtain ⟨rfl, rfl, rfl, rfl, rfl, rfl, rfl, rfl, rfl, rfl, rfl, rfl, rfl, rfl, rfl, rfl, rfl, rfl, rfl, rfl, rfl, rfl, rfl, rfl, rfl, rfl, rfl, rfl, rfl, rfl, rfl, rfl, rfl, rfl, rfl, rfl, rfl, rfl, rfl, rfl, rfl, rfl⟩ := h2
  refine Or.inr ⟨0, ((fun _ => 0), -1, -1, -1, -1, 0, (fun _ => 0), (fun _ => 0), (fun _ => 0), (fun _ => 0), 0, 0, 0, 0), (0, 1, (fun _ => 0), 0, (fun _ => 0), (fun _ => 0), (fun _ => 0), (fun _ => 0)), ?_, ?_, rfl, inv1_1⟩
  · unfold f_X10_fee_x
    rw [rx0]
    rfl
  · unfold f_X11_fee
    rw [ix0]
    rfl
set_option maxRecDepth 100000 in
set_option maxHeartbeats 4000000 in
theorem o_rivals : St_rivals (Inv1 0) (Inv1 1) := by
  intro p_female p_born p_toldDeath p_lastYear p_father p_mother p_fatherGrade p_motherGrade p_size g_holder g_arms g_from g_size r_marks r_arms r_root r_steps r_grade r_marksAboveOne q_rows q_sizes t_bytes t_length s_tokens s_starts s_size a_code a_codeSize a_at a_token a_fault a_place o_names o_operands o_size o_open o_refuses o_differs o_fees c_years c_rows c_size x_faultPlace kT tN tF tY m_code m_people m_grants m_texts m_copies m_taped m_faultPlace m_isFemale m_born m_died m_father m_mother m_fatherGrade m_motherGrade m_grantTo m_grantArms m_grantYear m_copyYear m_copyRow m_tape m_textYear m_ruleMany m_ruleFrom m_codeRow m_stack m_ruleKind m_codes m_at m_read m_token m_sign m_begins m_ends m_bad m_badPlace m_top m_lineLives m_markRow m_quarterMany m_quarters m_isUp m_wasUp hI x1 x2
  obtain ⟨h1, h2⟩ := hI rfl
  simp only [B0, Prod.mk.injEq] at h1
  simp only [M0, Prod.mk.injEq] at h2
  obtain ⟨rfl, rfl, rfl, rfl, rfl, rfl, rfl, rfl, rfl, rfl, rfl, rfl, rfl, rfl, rfl, rfl, rfl, rfl, rfl, rfl, rfl, rfl, rfl, rfl, rfl, rfl, rfl, rfl, rfl, rfl, rfl, rfl, rfl, rfl, rfl, rfl, rfl, rfl, rfl, rfl, rfl, rfl, rfl, rfl, rfl, rfl, rfl⟩ := h1
  obtain ⟨rfl, rfl, rfl, rfl, rfl, rfl, rfl, rfl, rfl, rfl, rfl, rfl, rfl, rfl, rfl, rfl, rfl, rfl, rfl, rfl, rfl, rfl, rfl, rfl, rfl, rfl, rfl, rfl, rfl, rfl, rfl, rfl, rfl, rfl, rfl, rfl, rfl, rfl, rfl, rfl, rfl, rfl⟩ := h2
  refine Or.inr ⟨0, ((fun _ => 0), -1, -1, -1, -1, 0), (0, 1), ?_, ?_, rfl, inv1_1⟩
  · unfold f_X10_rivals_x
    rw [rx0]
    rfl
  · unfold f_X11_rivals
    rw [ix0]
    rfl
set_option maxRecDepth 100000 in
set_option maxHeartbeats 4000000 in
theorem o_common : St_common (Inv1 0) (Inv1 1) := by
  intro p_female p_born p_toldDeath p_lastYear p_father p_mother p_fatherGrade p_motherGrade p_size g_holder g_arms g_from g_size r_marks r_arms r_root r_steps r_grade r_marksAboveOne q_rows q_sizes t_bytes t_length s_tokens s_starts s_size a_code a_codeSize a_at a_token a_fault a_place o_names o_operands o_size o_open o_refuses o_differs o_fees c_years c_rows c_size x_faultPlace kT tN tF tY m_code m_people m_grants m_texts m_copies m_taped m_faultPlace m_isFemale m_born m_died m_father m_mother m_fatherGrade m_motherGrade m_grantTo m_grantArms m_grantYear m_copyYear m_copyRow m_tape m_textYear m_ruleMany m_ruleFrom m_codeRow m_stack m_ruleKind m_codes m_at m_read m_token m_sign m_begins m_ends m_bad m_badPlace m_top m_lineLives m_markRow m_quarterMany m_quarters m_isUp m_wasUp hI x1 x2
  obtain ⟨h1, h2⟩ := hI rfl
  simp only [B0, Prod.mk.injEq] at h1
  simp only [M0, Prod.mk.injEq] at h2
  obtain ⟨rfl, rfl, rfl, rfl, rfl, rfl, rfl, rfl, rfl, rfl, rfl, rfl, rfl, rfl, rfl, rfl, rfl, rfl, rfl, rfl, rfl, rfl, rfl, rfl, rfl, rfl, rfl, rfl, rfl, rfl, rfl, rfl, rfl, rfl, rfl, rfl, rfl, rfl, rfl, rfl, rfl, rfl, rfl, rfl, rfl, rfl, rfl⟩ := h1
  obtain ⟨rfl, rfl, rfl, rfl, rfl, rfl, rfl, rfl, rfl, rfl, rfl, rfl, rfl, rfl, rfl, rfl, rfl, rfl, rfl, rfl, rfl, rfl, rfl, rfl, rfl, rfl, rfl, rfl, rfl, rfl, rfl, rfl, rfl, rfl, rfl, rfl, rfl, rfl, rfl, rfl, rfl, rfl⟩ := h2
  refine Or.inr ⟨0, (), (0, 1, (fun _ => 0), (fun _ => 0)), ?_, ?_, rfl, inv1_1⟩
  · unfold f_X10_common_x
    rw [rx0]
    rfl
  · unfold f_X11_common
    rw [ix0]
    rfl
set_option maxRecDepth 100000 in
set_option maxHeartbeats 4000000 in
theorem o_feed : St_feed (Inv1 0) (Inv1 1) := by
  intro p_female p_born p_toldDeath p_lastYear p_father p_mother p_fatherGrade p_motherGrade p_size g_holder g_arms g_from g_size r_marks r_arms r_root r_steps r_grade r_marksAboveOne q_rows q_sizes t_bytes t_length s_tokens s_starts s_size a_code a_codeSize a_at a_token a_fault a_place o_names o_operands o_size o_open o_refuses o_differs o_fees c_years c_rows c_size x_faultPlace kT tN tF tY m_code m_people m_grants m_texts m_copies m_taped m_faultPlace m_isFemale m_born m_died m_father m_mother m_fatherGrade m_motherGrade m_grantTo m_grantArms m_grantYear m_copyYear m_copyRow m_tape m_textYear m_ruleMany m_ruleFrom m_codeRow m_stack m_ruleKind m_codes m_at m_read m_token m_sign m_begins m_ends m_bad m_badPlace m_top m_lineLives m_markRow m_quarterMany m_quarters m_isUp m_wasUp hI x1 x2 x3 x4 x5
  obtain ⟨h1, h2⟩ := hI rfl
  simp only [B0, Prod.mk.injEq] at h1
  simp only [M0, Prod.mk.injEq] at h2
  obtain ⟨rfl, rfl, rfl, rfl, rfl, rfl, rfl, rfl, rfl, rfl, rfl, rfl, rfl, rfl, rfl, rfl, rfl, rfl, rfl, rfl, rfl, rfl, rfl, rfl, rfl, rfl, rfl, rfl, rfl, rfl, rfl, rfl, rfl, rfl, rfl, rfl, rfl, rfl, rfl, rfl, rfl, rfl, rfl, rfl, rfl, rfl, rfl⟩ := h1
  obtain ⟨rfl, rfl, rfl, rfl, rfl, rfl, rfl, rfl, rfl, rfl, rfl, rfl, rfl, rfl, rfl, rfl, rfl, rfl, rfl, rfl, rfl, rfl, rfl, rfl, rfl, rfl, rfl, rfl, rfl, rfl, rfl, rfl, rfl, rfl, rfl, rfl, rfl, rfl, rfl, rfl, rfl, rfl⟩ := h2
  obtain ⟨v, b, a, z, e1, e2, -, -⟩ := q_feed (l := 0) (fu := 62) (b := fun _ => 0) (a := fun _ => 0) it_0 (by decide) (by decide) x1 x2 x3 x4 x5
  exact ⟨62, 62, _, _, e1, e2, rfl, inv1_1⟩
set_option maxRecDepth 100000 in
set_option maxHeartbeats 4000000 in
theorem o_fault : St_fault (Inv1 0) (Inv1 1) := by
  intro p_female p_born p_toldDeath p_lastYear p_father p_mother p_fatherGrade p_motherGrade p_size g_holder g_arms g_from g_size r_marks r_arms r_root r_steps r_grade r_marksAboveOne q_rows q_sizes t_bytes t_length s_tokens s_starts s_size a_code a_codeSize a_at a_token a_fault a_place o_names o_operands o_size o_open o_refuses o_differs o_fees c_years c_rows c_size x_faultPlace kT tN tF tY m_code m_people m_grants m_texts m_copies m_taped m_faultPlace m_isFemale m_born m_died m_father m_mother m_fatherGrade m_motherGrade m_grantTo m_grantArms m_grantYear m_copyYear m_copyRow m_tape m_textYear m_ruleMany m_ruleFrom m_codeRow m_stack m_ruleKind m_codes m_at m_read m_token m_sign m_begins m_ends m_bad m_badPlace m_top m_lineLives m_markRow m_quarterMany m_quarters m_isUp m_wasUp hI
  obtain ⟨h1, h2⟩ := hI rfl
  simp only [B0, Prod.mk.injEq] at h1
  simp only [M0, Prod.mk.injEq] at h2
  obtain ⟨rfl, rfl, rfl, rfl, rfl, rfl, rfl, rfl, rfl, rfl, rfl, rfl, rfl, rfl, rfl, rfl, rfl, rfl, rfl, rfl, rfl, rfl, rfl, rfl, rfl, rfl, rfl, rfl, rfl, rfl, rfl, rfl, rfl, rfl, rfl, rfl, rfl, rfl, rfl, rfl, rfl, rfl, rfl, rfl, rfl, rfl, rfl⟩ := h1
  obtain ⟨rfl, rfl, rfl, rfl, rfl, rfl, rfl, rfl, rfl, rfl, rfl, rfl, rfl, rfl, rfl, rfl, rfl, rfl, rfl, rfl, rfl, rfl, rfl, rfl, rfl, rfl, rfl, rfl, rfl, rfl, rfl, rfl, rfl, rfl, rfl, rfl, rfl, rfl, rfl, rfl, rfl, rfl⟩ := h2
  exact ⟨_, _, rfl, rfl, rfl, inv1_1⟩
set_option maxRecDepth 100000 in
set_option maxHeartbeats 4000000 in
theorem o_copy : St_copy (Inv1 0) (Inv1 1) := by
  intro p_female p_born p_toldDeath p_lastYear p_father p_mother p_fatherGrade p_motherGrade p_size g_holder g_arms g_from g_size r_marks r_arms r_root r_steps r_grade r_marksAboveOne q_rows q_sizes t_bytes t_length s_tokens s_starts s_size a_code a_codeSize a_at a_token a_fault a_place o_names o_operands o_size o_open o_refuses o_differs o_fees c_years c_rows c_size x_faultPlace kT tN tF tY m_code m_people m_grants m_texts m_copies m_taped m_faultPlace m_isFemale m_born m_died m_father m_mother m_fatherGrade m_motherGrade m_grantTo m_grantArms m_grantYear m_copyYear m_copyRow m_tape m_textYear m_ruleMany m_ruleFrom m_codeRow m_stack m_ruleKind m_codes m_at m_read m_token m_sign m_begins m_ends m_bad m_badPlace m_top m_lineLives m_markRow m_quarterMany m_quarters m_isUp m_wasUp hI x1 x2
  obtain ⟨h1, h2⟩ := hI rfl
  simp only [B0, Prod.mk.injEq] at h1
  simp only [M0, Prod.mk.injEq] at h2
  obtain ⟨rfl, rfl, rfl, rfl, rfl, rfl, rfl, rfl, rfl, rfl, rfl, rfl, rfl, rfl, rfl, rfl, rfl, rfl, rfl, rfl, rfl, rfl, rfl, rfl, rfl, rfl, rfl, rfl, rfl, rfl, rfl, rfl, rfl, rfl, rfl, rfl, rfl, rfl, rfl, rfl, rfl, rfl, rfl, rfl, rfl, rfl, rfl⟩ := h1
  obtain ⟨rfl, rfl, rfl, rfl, rfl, rfl, rfl, rfl, rfl, rfl, rfl, rfl, rfl, rfl, rfl, rfl, rfl, rfl, rfl, rfl, rfl, rfl, rfl, rfl, rfl, rfl, rfl, rfl, rfl, rfl, rfl, rfl, rfl, rfl, rfl, rfl, rfl, rfl, rfl, rfl, rfl, rfl⟩ := h2
  obtain ⟨a, c1, c2, z, -, e1, e2⟩ := q_copy (cy := fun _ => 0) (cr := fun _ => 0) (n := 0) (by decide) x1 x2
  exact ⟨_, _, e1, e2, rfl, inv1_1⟩
set_option maxRecDepth 100000 in
set_option maxHeartbeats 4000000 in
theorem o_of : St_of (Inv1 0) (Inv1 1) := by
  intro p_female p_born p_toldDeath p_lastYear p_father p_mother p_fatherGrade p_motherGrade p_size g_holder g_arms g_from g_size r_marks r_arms r_root r_steps r_grade r_marksAboveOne q_rows q_sizes t_bytes t_length s_tokens s_starts s_size a_code a_codeSize a_at a_token a_fault a_place o_names o_operands o_size o_open o_refuses o_differs o_fees c_years c_rows c_size x_faultPlace kT tN tF tY m_code m_people m_grants m_texts m_copies m_taped m_faultPlace m_isFemale m_born m_died m_father m_mother m_fatherGrade m_motherGrade m_grantTo m_grantArms m_grantYear m_copyYear m_copyRow m_tape m_textYear m_ruleMany m_ruleFrom m_codeRow m_stack m_ruleKind m_codes m_at m_read m_token m_sign m_begins m_ends m_bad m_badPlace m_top m_lineLives m_markRow m_quarterMany m_quarters m_isUp m_wasUp hI x1 x2
  obtain ⟨h1, h2⟩ := hI rfl
  simp only [B0, Prod.mk.injEq] at h1
  simp only [M0, Prod.mk.injEq] at h2
  obtain ⟨rfl, rfl, rfl, rfl, rfl, rfl, rfl, rfl, rfl, rfl, rfl, rfl, rfl, rfl, rfl, rfl, rfl, rfl, rfl, rfl, rfl, rfl, rfl, rfl, rfl, rfl, rfl, rfl, rfl, rfl, rfl, rfl, rfl, rfl, rfl, rfl, rfl, rfl, rfl, rfl, rfl, rfl, rfl, rfl, rfl, rfl, rfl⟩ := h1
  obtain ⟨rfl, rfl, rfl, rfl, rfl, rfl, rfl, rfl, rfl, rfl, rfl, rfl, rfl, rfl, rfl, rfl, rfl, rfl, rfl, rfl, rfl, rfl, rfl, rfl, rfl, rfl, rfl, rfl, rfl, rfl, rfl, rfl, rfl, rfl, rfl, rfl, rfl, rfl, rfl, rfl, rfl, rfl⟩ := h2
  refine Or.inr ⟨0, (), (0, 1), ?_, ?_, rfl, inv1_1⟩
  · unfold f_X10_of_x
    rw [hx0]
    rfl
  · unfold f_X11_of
    by_cases h : x1 < 0
    · rw [if_pos h]; rfl
    · rw [if_neg h, if_pos (Int32.not_lt.mp h)]; rfl
set_option maxRecDepth 100000 in
set_option maxHeartbeats 4000000 in
theorem o_count : St_count (Inv1 0) (Inv1 1) := by
  intro p_female p_born p_toldDeath p_lastYear p_father p_mother p_fatherGrade p_motherGrade p_size g_holder g_arms g_from g_size r_marks r_arms r_root r_steps r_grade r_marksAboveOne q_rows q_sizes t_bytes t_length s_tokens s_starts s_size a_code a_codeSize a_at a_token a_fault a_place o_names o_operands o_size o_open o_refuses o_differs o_fees c_years c_rows c_size x_faultPlace kT tN tF tY m_code m_people m_grants m_texts m_copies m_taped m_faultPlace m_isFemale m_born m_died m_father m_mother m_fatherGrade m_motherGrade m_grantTo m_grantArms m_grantYear m_copyYear m_copyRow m_tape m_textYear m_ruleMany m_ruleFrom m_codeRow m_stack m_ruleKind m_codes m_at m_read m_token m_sign m_begins m_ends m_bad m_badPlace m_top m_lineLives m_markRow m_quarterMany m_quarters m_isUp m_wasUp hI x1
  obtain ⟨h1, h2⟩ := hI rfl
  simp only [B0, Prod.mk.injEq] at h1
  simp only [M0, Prod.mk.injEq] at h2
  obtain ⟨rfl, rfl, rfl, rfl, rfl, rfl, rfl, rfl, rfl, rfl, rfl, rfl, rfl, rfl, rfl, rfl, rfl, rfl, rfl, rfl, rfl, rfl, rfl, rfl, rfl, rfl, rfl, rfl, rfl, rfl, rfl, rfl, rfl, rfl, rfl, rfl, rfl, rfl, rfl, rfl, rfl, rfl, rfl, rfl, rfl, rfl, rfl⟩ := h1
  obtain ⟨rfl, rfl, rfl, rfl, rfl, rfl, rfl, rfl, rfl, rfl, rfl, rfl, rfl, rfl, rfl, rfl, rfl, rfl, rfl, rfl, rfl, rfl, rfl, rfl, rfl, rfl, rfl, rfl, rfl, rfl, rfl, rfl, rfl, rfl, rfl, rfl, rfl, rfl, rfl, rfl, rfl, rfl⟩ := h2
  by_cases h0 : x1 = 0
  · subst h0; exact Or.inl ⟨_, _, rfl, rfl, rfl, rfl, inv1_1⟩
  by_cases h1 : x1 = 1
  · subst h1; exact Or.inl ⟨_, _, rfl, rfl, rfl, rfl, inv1_1⟩
  by_cases h2 : x1 = 2
  · subst h2; exact Or.inl ⟨_, _, rfl, rfl, rfl, rfl, inv1_1⟩
  by_cases h3 : x1 = 3
  · subst h3; exact Or.inl ⟨_, _, rfl, rfl, rfl, rfl, inv1_1⟩
  by_cases h4 : x1 = 4
  · subst h4; exact Or.inl ⟨_, _, rfl, rfl, rfl, rfl, inv1_1⟩
  refine Or.inr ⟨(), (0, 1), ?_, ?_, rfl, inv1_1⟩
  · unfold f_X10_count_x
    rw [if_neg h0, if_neg h1, if_neg h2, if_neg h3, if_neg h4]
  · unfold f_X11_count
    rw [if_neg h0, if_neg h1, if_neg h2, if_neg h3, if_neg h4]
    rfl
set_option maxRecDepth 100000 in
theorem parse0 : (f_X3_parse 100 (fun _ => 0) (fun _ => 0) (fun _ => 0) (fun _ => 0) 0).any (fun v => decide (v.2.2.2.2.2.2.2.1 = 0) && inb v.2.2.2.2.1 401) = true := by decide +kernel
set_option maxRecDepth 100000 in
theorem read0 : (f_X11_readText 100 0 (fun _ => 0) 0 (fun _ => 0) (fun _ => 0) (fun _ => 0) (fun _ => 0) 0 0 0 0 0 0 0 0).any (fun v => decide (v.2.2.2.2.2.2.2.2.2.2.1 = 0)) = true := by decide +kernel
theorem any_some {α : Type} {o : Option α} {p : α → Bool} (h : o.any p = true) : ∃ v, o = some v ∧ p v = true := by
  cases o with
  | none => exact absurd h (by simp)
  | some v => exact ⟨v, rfl, by simpa using h⟩
set_option maxRecDepth 100000 in
set_option maxHeartbeats 4000000 in
theorem o_text : St_text (Inv1 0) (Inv1 1) := by
  intro p_female p_born p_toldDeath p_lastYear p_father p_mother p_fatherGrade p_motherGrade p_size g_holder g_arms g_from g_size r_marks r_arms r_root r_steps r_grade r_marksAboveOne q_rows q_sizes t_bytes t_length s_tokens s_starts s_size a_code a_codeSize a_at a_token a_fault a_place o_names o_operands o_size o_open o_refuses o_differs o_fees c_years c_rows c_size x_faultPlace kT tN tF tY m_code m_people m_grants m_texts m_copies m_taped m_faultPlace m_isFemale m_born m_died m_father m_mother m_fatherGrade m_motherGrade m_grantTo m_grantArms m_grantYear m_copyYear m_copyRow m_tape m_textYear m_ruleMany m_ruleFrom m_codeRow m_stack m_ruleKind m_codes m_at m_read m_token m_sign m_begins m_ends m_bad m_badPlace m_top m_lineLives m_markRow m_quarterMany m_quarters m_isUp m_wasUp hI x1 x2
  obtain ⟨h1, h2⟩ := hI rfl
  simp only [B0, Prod.mk.injEq] at h1
  simp only [M0, Prod.mk.injEq] at h2
  obtain ⟨rfl, rfl, rfl, rfl, rfl, rfl, rfl, rfl, rfl, rfl, rfl, rfl, rfl, rfl, rfl, rfl, rfl, rfl, rfl, rfl, rfl, rfl, rfl, rfl, rfl, rfl, rfl, rfl, rfl, rfl, rfl, rfl, rfl, rfl, rfl, rfl, rfl, rfl, rfl, rfl, rfl, rfl, rfl, rfl, rfl, rfl, rfl⟩ := h1
  obtain ⟨rfl, rfl, rfl, rfl, rfl, rfl, rfl, rfl, rfl, rfl, rfl, rfl, rfl, rfl, rfl, rfl, rfl, rfl, rfl, rfl, rfl, rfl, rfl, rfl, rfl, rfl, rfl, rfl, rfl, rfl, rfl, rfl, rfl, rfl, rfl, rfl, rfl, rfl, rfl, rfl, rfl, rfl⟩ := h2
  by_cases h : x1 = 0 ∧ yr x2
  · obtain ⟨rfl, hy⟩ := h
    obtain ⟨v, ev, pv⟩ := any_some parse0
    obtain ⟨w, ew, pw⟩ := any_some read0
    rw [Bool.and_eq_true, decide_eq_true_eq] at pv
    rw [decide_eq_true_eq] at pw
    obtain ⟨r, e1, q1⟩ : ∃ r, f_X10_text 100 (fun _ => 0) (0) (0) (fun _ => 0) (fun _ => 0) (0) (fun _ => 0) (0) (0) (-1) (0) (-1) (0) 0 x2 = some r ∧ r.1 = 0 := by
      unfold f_X10_text
      rw [if_neg (by decide), if_neg (by decide), year_b1 hy]
      simp only [Option.bind_some]
      rw [if_neg i10, show f_X2_isFull 0 = some 0 from rfl]
      simp only [Option.bind_some]
      rw [if_pos trivial, ev]
      simp only [Option.bind_some]
      rw [if_pos pv.1, if_pos (by decide), if_pos (by decide), if_pos pv.2]
      exact ⟨_, rfl, rfl⟩
    obtain ⟨s, e2, q2, q3⟩ : ∃ s, f_X11_text 100 (fun _ => 0) (0) (0) (-1) (fun _ => 0) (fun _ => 0) (fun _ => 0) (fun _ => 0) (fun _ => 0) (0) (0) (0) (0) (0) (0) (0) (0) (0) 0 x2 = some s ∧ s.2.1 = 0 ∧ s.1 = 0 := by
      unfold f_X11_text
      rw [if_neg (by decide), if_neg (by decide), year_m1 hy]
      simp only [Option.bind_some]
      rw [if_neg i10, if_neg (by decide), ew]
      simp only [Option.bind_some]
      rw [if_pos pw, if_pos (by decide)]
      exact ⟨_, rfl, rfl, rfl⟩
    exact Or.inl ⟨100, 100, r, s, e1, e2, q2, q1.trans q3.symm, inv1_1⟩
  · refine Or.inr ⟨100, (0, (fun _ => 0), (fun _ => 0), 0, (fun _ => 0), 0, 0, -1, 0, -1, 0, -1), (0, 1, 0, 0, -1, (fun _ => 0), (fun _ => 0), (fun _ => 0), (fun _ => 0), (fun _ => 0), 0, 0, 0, 0, 0, 0, 0, 0, 0), ?_, ?_, rfl, inv1_1⟩
    · unfold f_X10_text_x
      by_cases a : x1 < 0
      · rw [if_pos a]; rfl
      rw [if_neg a]
      by_cases b : 0 < x1
      · rw [if_pos b]; rfl
      rw [if_neg b]
      rcases yr_dec x2 with hy | hy
      · exact absurd ⟨Int32.le_antisymm (Int32.not_lt.mp b) (Int32.not_lt.mp a), hy⟩ h
      · rw [year_b0 hy]; rfl
    · unfold f_X11_text
      by_cases a : x1 < 0
      · rw [if_pos a]; rfl
      rw [if_neg a]
      by_cases b : 0 < x1
      · rw [if_pos b]; rfl
      rw [if_neg b]
      rcases yr_dec x2 with hy | hy
      · exact absurd ⟨Int32.le_antisymm (Int32.not_lt.mp b) (Int32.not_lt.mp a), hy⟩ h
      · rw [year_m0 hy]; rfl
theorem i_vc : Claimed_1_1 ∧ Claimed_1_2 := by
  refine i_vc_of (Inv := Inv1) (fun k hk => ?_) (fun k x y _ h => absurd h (Nat.succ_ne_zero k)) (fun _ => ⟨rfl, rfl⟩)
  have e : k = 0 := by omega
  subst e
  exact ⟨o_person, o_parent, o_grant, o_feed, o_text, o_fault, o_about, o_bears, o_mark, o_head, o_quarter, o_claim, o_fee, o_rivals, o_common, o_copy, o_of, o_count⟩
