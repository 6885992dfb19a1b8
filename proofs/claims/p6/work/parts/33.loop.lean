def R_law : String := "ArmsBookLaw"
def lw_P (b : Addr) (xs : List Int32) (args : Array Value) (s : State) : Prop := args = #[.ref b] ∧ s.IntsAt b xs ∧ xs.length ≤ 3072 ∧ (Jvm.Cond.and given_1 narrow_1).before args s = true
def lw_Q (_ : Array Value) (s : State) (o : Outcome) (t : State) : Prop := o = .returned (some (.int 1)) ∧ Framed s o t [] 601024 7293034
def lw_Z (below : List Frame) (a : Array Value) (s : State) : State → Prop := fun t => ∃ o, t.status = .running ∧ Ended t below o ∧ lw_Q a s o t
theorem lw_retR {p : Program} {l : Launch} {e : Env} {R : Room} {s : State} {m : MethodId} {below : List Frame} {meth : Method} {c : Code} {b : Nat} (hx : p.tables.exec = Jvm.exec) (hb : c.code = code) (hr : meth.sig.returnType = ret) (hlocks : meth.locks = false) {pc : Nat} {H : Heap} {ls : Array Slot} (hdg : decode code pc = .ok (.ireturn, 1)) : W p l e R s m #[Value.ref b] below meth c H [] 601024 7293034 (lw_Z below #[Value.ref b] s) (F0 m pc ls [.int 1]) := by
  intro T hT X
  obtain ⟨fs, hret, hrun, hended, hW, hframe⟩ := X.leave (v := some (.int 1)) (hlocks := hlocks) (fun h => by rw [hr] at h; cases h)
  have hmeth' : T.vm.method? m = some meth := X.method'
  refine ⟨T.setFrames fs, ?_, .returned (some (.int 1)), hrun, hended, rfl, ⟨_, rfl⟩, hW, hframe⟩
  jvm_step X.here [X.here.top, hx, hb, hdg, hmeth', hr, ret, narrow_b1]
  (try refine ⟨rfl, ?_⟩); (try refine ⟨rfl, ?_⟩)
  first | (intro acts; rw [hret _ acts rfl rfl rfl]) | rw [hret _ _ rfl rfl rfl]
  exact Steps.refl _
theorem W.lessRoom {p : Program} {l : Launch} {e : Env} {R R' : Room} {s : State} {m : MethodId} {args : Array Value} {below : List Frame} {meth : Method} {c : Code} {H : Heap} {locs : List Loc} {cells slots : Nat} {Q : State → Prop} {g : JFrame} (h1 : R'.frames ≤ R.frames) (h2 : R'.cells ≤ R.cells) (h3 : R'.slots ≤ R.slots) (h4 : R'.locals ≤ R.locals) (k : W p l e R' s m args below meth c H locs cells slots Q g) : W p l e R s m args below meth c H locs cells slots Q g := by
  intro T hT X
  refine k T hT ⟨X.admits, X.cas, X.clock, X.frames, ?_, X.hears, X.method, X.code, X.here, X.tail, X.warmed, X.limits, X.bytes, X.same⟩
  have h := X.room
  simp only [State.hasRoom, Bool.and_eq_true, decide_eq_true_eq] at h ⊢
  obtain ⟨⟨⟨⟨a1, a2, a3, a4, a5, a6⟩, a7⟩, a8⟩, a9⟩ := h
  exact ⟨⟨⟨⟨by omega, by omega, by omega, by omega, by omega, a6⟩, by omega⟩, by omega⟩, a9⟩
theorem i32_len {L n : Nat} (hL : L ≤ 3072) (hn : n ≤ 4000) (h : ¬ (Int32.ofNat L - 6 < nI n)) : n + 6 ≤ L := by
  rw [Int32.lt_iff_toInt_lt] at h
  have e1 : (Int32.ofNat L).toInt = (L : Int) := Int32.toInt_ofNat_of_lt (by omega)
  have e2 : (nI n).toInt = (n : Int) := Int32.toInt_ofNat_of_lt (by omega)
  have e3 : (6 : Int32).toInt = 6 := by decide
  rw [e2, Int32.toInt_sub, e1, e3, Int.bmod_eq_of_le (by omega) (by omega)] at h
  omega
def EQL (Y : YT) (b : Nat) : Prop := (yt Y).sig.returnType = ret ∧ ya Y = #[Value.ref b] ∧ yQ Y = lw_Z (yb Y) #[Value.ref b] (ys Y)
theorem j_law1 {l : Launch} {G : GT} {Y : YT} {cells slots pc b : Nat} {lv : List (Nat × Value)} {ws : va_W} (hX : CX l G cL_law 7 RL Y) (hQ : EQL Y b) (hB : gB G = (ys Y).heap.size) (h1 : cells ≤ 601024) (h2 : slots ≤ 7293034) (dd : decode cL_law pc = .ok (.ireturn, 1)) : J l G RM Y cells slots pc lv [.int 1] ws := by
  intro H locs ls a0 b1 c e
  refine va_forget (fun q hq => by rw [← hB]; exact e.2.2 q hq) ?_
  refine W.widen h1 h2 ?_
  rw [hQ.2.1, hQ.2.2]
  exact lw_retR hX.1 hX.2.1 hQ.1 hX.2.2.2.2.2.2.2.2 dd
section
variable {l : Launch} {G : GT} {Y : YT} {b L ao : Nat} {xs : Nat → Int32} {Inv : Nat → SB → SM → Prop}
set_option maxRecDepth 100000 in
set_option maxHeartbeats 8000000 in
theorem law_loop (hst : ∀ k : Nat, 6 * k + 6 ≤ 3072 → Sts (Inv k) (Inv (k + 1))) (hmo : ∀ (k : Nat) (x : SB) (y : SM), Inv k x y → Inv (k + 1) x y) (hX : CX l G cL_law 7 RL Y) (hQ : EQL Y b) (hB : gB G = (ys Y).heap.size) (hx : va_X b L xs (ys Y) (ys Y).heap) (hb : b < gB G) (hL : L ≤ 3072) : ∀ (q k : Nat), 6 * k ≤ L → L < 6 * k + 6 * q → ∀ {p_female : Nat → Int32} {p_born : Nat → Int32} {p_toldDeath : Nat → Int32} {p_lastYear : Nat → Int32} {p_father : Nat → Int32} {p_mother : Nat → Int32} {p_fatherGrade : Nat → Int32} {p_motherGrade : Nat → Int32} {p_size : Int32} {g_holder : Nat → Int32} {g_arms : Nat → Int32} {g_from : Nat → Int32} {g_size : Int32} {r_marks : Nat → Int32} {r_arms : Int32} {r_root : Int32} {r_steps : Int32} {r_grade : Int32} {r_marksAboveOne : Int32} {q_rows : Nat → Int32} {q_sizes : Nat → Int32} {t_bytes : Nat → Int32} {t_length : Int32} {s_tokens : Nat → Int32} {s_starts : Nat → Int32} {s_size : Int32} {a_code : Nat → Int32} {a_codeSize : Int32} {a_at : Int32} {a_token : Int32} {a_fault : Int32} {a_place : Int32} {o_names : Nat → Int32} {o_operands : Nat → Int32} {o_size : Int32} {o_open : Int32} {o_refuses : Int32} {o_differs : Int32} {o_fees : Int32} {c_years : Nat → Int32} {c_rows : Nat → Int32} {c_size : Int32} {x_faultPlace : Int32} {kT : Nat} {tN : Nat → Nat} {tF : Nat → Nat → Int32} {tY : Nat → Int32} {m_code : Int32} {m_people : Int32} {m_grants : Int32} {m_texts : Int32} {m_copies : Int32} {m_taped : Int32} {m_faultPlace : Int32} {m_isFemale : Nat → Int32} {m_born : Nat → Int32} {m_died : Nat → Int32} {m_father : Nat → Int32} {m_mother : Nat → Int32} {m_fatherGrade : Nat → Int32} {m_motherGrade : Nat → Int32} {m_grantTo : Nat → Int32} {m_grantArms : Nat → Int32} {m_grantYear : Nat → Int32} {m_copyYear : Nat → Int32} {m_copyRow : Nat → Int32} {m_tape : Nat → Int32} {m_textYear : Nat → Int32} {m_ruleMany : Nat → Int32} {m_ruleFrom : Nat → Int32} {m_codeRow : Nat → Int32} {m_stack : Nat → Int32} {m_ruleKind : Nat → Int32} {m_codes : Int32} {m_at : Int32} {m_read : Int32} {m_token : Int32} {m_sign : Int32} {m_begins : Int32} {m_ends : Int32} {m_bad : Int32} {m_badPlace : Int32} {m_top : Int32} {m_lineLives : Nat → Int32} {m_markRow : Nat → Int32} {m_quarterMany : Nat → Int32} {m_quarters : Nat → Int32} {m_isUp : Nat → Int32} {m_wasUp : Nat → Int32} {tA tC : Nat → Nat} {fo : Nat → Int64}, Inv k (p_female, p_born, p_toldDeath, p_lastYear, p_father, p_mother, p_fatherGrade, p_motherGrade, p_size, g_holder, g_arms, g_from, g_size, r_marks, r_arms, r_root, r_steps, r_grade, r_marksAboveOne, q_rows, q_sizes, t_bytes, t_length, s_tokens, s_starts, s_size, a_code, a_codeSize, a_at, a_token, a_fault, a_place, o_names, o_operands, o_size, o_open, o_refuses, o_differs, o_fees, c_years, c_rows, c_size, x_faultPlace, kT, tN, tF, tY) (m_code, m_people, m_grants, m_texts, m_copies, m_taped, m_faultPlace, m_isFemale, m_born, m_died, m_father, m_mother, m_fatherGrade, m_motherGrade, m_grantTo, m_grantArms, m_grantYear, m_copyYear, m_copyRow, m_tape, m_textYear, m_ruleMany, m_ruleFrom, m_codeRow, m_stack, m_ruleKind, m_codes, m_at, m_read, m_token, m_sign, m_begins, m_ends, m_bad, m_badPlace, m_top, m_lineLives, m_markRow, m_quarterMany, m_quarters, m_isUp, m_wasUp) → J l G RM Y (61 + 2 * k) (9817 + 402 * k) 23 [(4, .int (nI (6 * k))), (3, .ref ao), (2, .ref (gm G 0)), (1, .ref (gb G 0)), (0, .ref b)] [] ((ao, .inl (gct G 3, 1, .inr (.inl fo))) :: (WB G p_female p_born p_toldDeath p_lastYear p_father p_mother p_fatherGrade p_motherGrade p_size g_holder g_arms g_from g_size r_marks r_arms r_root r_steps r_grade r_marksAboveOne q_rows q_sizes t_bytes t_length s_tokens s_starts s_size a_code a_codeSize a_at a_token a_fault a_place (txf kT tA) o_names o_operands o_size o_open o_refuses o_differs o_fees c_years c_rows c_size x_faultPlace ++ (TXw G kT tA tC tN tF tY ++ (WM G m_code m_people m_grants m_texts m_copies m_taped m_faultPlace m_isFemale m_born m_died m_father m_mother m_fatherGrade m_motherGrade m_grantTo m_grantArms m_grantYear m_copyYear m_copyRow m_tape m_textYear m_ruleMany m_ruleFrom m_codeRow m_stack m_ruleKind m_codes m_at m_read m_token m_sign m_begins m_ends m_bad m_badPlace m_top m_lineLives m_markRow m_quarterMany m_quarters m_isUp m_wasUp ++ [])))) := by
  intro q
  induction q with
  | zero => intro k hk hq; exact absurd hq (by omega)
  | succ q ih =>
    intro k hk hq p_female p_born p_toldDeath p_lastYear p_father p_mother p_fatherGrade p_motherGrade p_size g_holder g_arms g_from g_size r_marks r_arms r_root r_steps r_grade r_marksAboveOne q_rows q_sizes t_bytes t_length s_tokens s_starts s_size a_code a_codeSize a_at a_token a_fault a_place o_names o_operands o_size o_open o_refuses o_differs o_fees c_years c_rows c_size x_faultPlace kT tN tF tY m_code m_people m_grants m_texts m_copies m_taped m_faultPlace m_isFemale m_born m_died m_father m_mother m_fatherGrade m_motherGrade m_grantTo m_grantArms m_grantYear m_copyYear m_copyRow m_tape m_textYear m_ruleMany m_ruleFrom m_codeRow m_stack m_ruleKind m_codes m_at m_read m_token m_sign m_begins m_ends m_bad m_badPlace m_top m_lineLives m_markRow m_quarterMany m_quarters m_isUp m_wasUp tA tC fo hI
    have hkk : ∀ {n : Nat}, n = 6 * k → n + 6 ≤ L → NXT l G Y (61 + 2 * k) (9817 + 402 * k) b ao n (Inv (k + 1)) := by
      intro n hn hle p_female p_born p_toldDeath p_lastYear p_father p_mother p_fatherGrade p_motherGrade p_size g_holder g_arms g_from g_size r_marks r_arms r_root r_steps r_grade r_marksAboveOne q_rows q_sizes t_bytes t_length s_tokens s_starts s_size a_code a_codeSize a_at a_token a_fault a_place o_names o_operands o_size o_open o_refuses o_differs o_fees c_years c_rows c_size x_faultPlace kT tN tF tY m_code m_people m_grants m_texts m_copies m_taped m_faultPlace m_isFemale m_born m_died m_father m_mother m_fatherGrade m_motherGrade m_grantTo m_grantArms m_grantYear m_copyYear m_copyRow m_tape m_textYear m_ruleMany m_ruleFrom m_codeRow m_stack m_ruleKind m_codes m_at m_read m_token m_sign m_begins m_ends m_bad m_badPlace m_top m_lineLives m_markRow m_quarterMany m_quarters m_isUp m_wasUp tA tC fo hI
      refine j_iinc (v := nI (6 * (k + 1))) (lv' := [(4, .int (nI (6 * (k + 1)))), (3, .ref ao), (2, .ref (gm G 0)), (1, .ref (gb G 0)), (0, .ref b)]) hX dL_law_976 979 rfl 0 rfl ?_ (by decide) rfl ?_
      · have e : (6 * (k + 1)) = n + 6 := by omega
        rw [e]
        exact nI_addj (j := 6) (by decide)
      · refine j_goto hX dL_law_979 23 rfl ?_
        exact ih (k + 1) (by omega) (by omega) hI
    refine j_iload hX dL_law_23 25 rfl 0 rfl ?_
    refine j_aload_n hX dL_law_25 26 rfl 4 rfl rfl ?_
    refine j_slen hX hx hb dL_law_26 27 rfl ?_
    refine j_bipush (v := 6) hX dL_law_27 29 rfl (by decide) ?_
    refine j_isub hX dL_law_29 30 rfl ?_
    refine j_icmp_gt hX dL_law_30 33 982 rfl rfl (fun _ => ?_) (fun hc => ?_)
    · refine j_iconst (v := 1) hX dL_law_982 983 rfl (by decide) ?_
      exact j_law1 hX hQ hB (by omega) (by omega) dL_law_983
    · have hle := i32_len hL (n := 6 * k) (by omega) hc
      have hL2 : L < 2 ^ 31 := by omega
      obtain ⟨h0, h1, h2, h3, h4, h5, h6, h7, h8, h9, h10, h11, h12, h13, h14, h15, h16, h17⟩ := hst k (by omega)
      have hkk := @hkk _ rfl hle
      refine j_aload_n hX dL_law_33 34 rfl 4 rfl rfl ?_
      refine j_iload hX dL_law_34 36 rfl 0 rfl ?_
      refine j_sld hX hx hb (by omega) hL2 dL_law_36 37 rfl ?_
      refine j_bipush (v := 31) hX dL_law_37 39 rfl (by decide) ?_
      refine j_iand hX dL_law_39 40 rfl ?_
      generalize xs (6 * k) &&& 31 = v
      have hv : v.toInt = 0 ∨ v.toInt = 1 ∨ v.toInt = 2 ∨ v.toInt = 3 ∨ v.toInt = 4 ∨ v.toInt = 5 ∨ v.toInt = 6 ∨ v.toInt = 7 ∨ v.toInt = 8 ∨ v.toInt = 9 ∨ v.toInt = 10 ∨ v.toInt = 11 ∨ v.toInt = 12 ∨ v.toInt = 13 ∨ v.toInt = 14 ∨ v.toInt = 15 ∨ v.toInt = 16 ∨ v.toInt = 17 ∨ (v.toInt < 0 ∨ 17 < v.toInt) := by omega
      rcases hv with h | h | h | h | h | h | h | h | h | h | h | h | h | h | h | h | h | h | h
      · exact j_tab hX dL_law_40 (by decide) 128 (by rw [h]; rfl) (lc_person h0 hI hX hx hb hle hL2 (by omega) (by omega) hkk)
      · exact j_tab hX dL_law_40 (by decide) 193 (by rw [h]; rfl) (lc_parent h1 hI hX hx hb hle hL2 (by omega) (by omega) hkk)
      · exact j_tab hX dL_law_40 (by decide) 257 (by rw [h]; rfl) (lc_grant h2 hI hX hx hb hle hL2 (by omega) (by omega) hkk)
      · exact j_tab hX dL_law_40 (by decide) 309 (by rw [h]; rfl) (lc_feed h3 hI hX hx hb hle hL2 (by omega) (by omega) hkk)
      · exact j_tab hX dL_law_40 (by decide) 382 (by rw [h]; rfl) (lc_text h4 hI hX hx hb hle hL2 (by omega) (by omega) hkk)
      · exact j_tab hX dL_law_40 (by decide) 450 (by rw [h]; rfl) (lc_fault h5 hI hX hx hb hle hL2 (by omega) (by omega) hkk)
      · exact j_tab hX dL_law_40 (by decide) 463 (by rw [h]; rfl) (lc_about h6 hI hX hx hb hle hL2 (by omega) (by omega) hkk)
      · exact j_tab hX dL_law_40 (by decide) 503 (by rw [h]; rfl) (lc_bears h7 hI hX hx hb hle hL2 (by omega) (by omega) hkk)
      · exact j_tab hX dL_law_40 (by decide) 555 (by rw [h]; rfl) (lc_mark h8 hI hX hx hb hle hL2 (by omega) (by omega) hkk)
      · exact j_tab hX dL_law_40 (by decide) 607 (by rw [h]; rfl) (lc_head h9 hI hX hx hb hle hL2 (by omega) (by omega) hkk)
      · exact j_tab hX dL_law_40 (by decide) 647 (by rw [h]; rfl) (lc_quarter h10 hI hX hx hb hle hL2 (by omega) (by omega) hkk)
      · exact j_tab hX dL_law_40 (by decide) 699 (by rw [h]; rfl) (lc_claim h11 hI hX hx hb hle hL2 (by omega) (by omega) hkk)
      · exact j_tab hX dL_law_40 (by decide) 751 (by rw [h]; rfl) (lc_fee h12 hI hX hx hb hle hL2 (by omega) (by omega) hkk)
      · exact j_tab hX dL_law_40 (by decide) 791 (by rw [h]; rfl) (lc_rivals h13 hI hX hx hb hle hL2 (by omega) (by omega) hkk)
      · exact j_tab hX dL_law_40 (by decide) 831 (by rw [h]; rfl) (lc_common h14 hI hX hx hb hle hL2 (by omega) (by omega) hkk)
      · exact j_tab hX dL_law_40 (by decide) 871 (by rw [h]; rfl) (lc_copy h15 hI hX hx hb hle hL2 (by omega) (by omega) hkk)
      · exact j_tab hX dL_law_40 (by decide) 908 (by rw [h]; rfl) (lc_of h16 hI hX hx hb hle hL2 (by omega) (by omega) hkk)
      · exact j_tab hX dL_law_40 (by decide) 948 (by rw [h]; rfl) (lc_count h17 hI hX hx hb hle hL2 (by omega) (by omega) hkk)
      · exact j_tab hX dL_law_40 (by decide) 976 (by unfold tsel; rw [if_pos h]; rfl) (j_widen (by omega) (by omega) (hkk (hmo k _ _ hI)))
end
