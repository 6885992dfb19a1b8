section
variable {l : Launch} {G : GT} {Y : YT} {cells slots b L n ao : Nat} {xs : Nat → Int32} {tA tC : Nat → Nat} {fo : Nat → Int64} {Inv Inw : SB → SM → Prop} {p_female : Nat → Int32} {p_born : Nat → Int32} {p_toldDeath : Nat → Int32} {p_lastYear : Nat → Int32} {p_father : Nat → Int32} {p_mother : Nat → Int32} {p_fatherGrade : Nat → Int32} {p_motherGrade : Nat → Int32} {p_size : Int32} {g_holder : Nat → Int32} {g_arms : Nat → Int32} {g_from : Nat → Int32} {g_size : Int32} {r_marks : Nat → Int32} {r_arms : Int32} {r_root : Int32} {r_steps : Int32} {r_grade : Int32} {r_marksAboveOne : Int32} {q_rows : Nat → Int32} {q_sizes : Nat → Int32} {t_bytes : Nat → Int32} {t_length : Int32} {s_tokens : Nat → Int32} {s_starts : Nat → Int32} {s_size : Int32} {a_code : Nat → Int32} {a_codeSize : Int32} {a_at : Int32} {a_token : Int32} {a_fault : Int32} {a_place : Int32} {o_names : Nat → Int32} {o_operands : Nat → Int32} {o_size : Int32} {o_open : Int32} {o_refuses : Int32} {o_differs : Int32} {o_fees : Int32} {c_years : Nat → Int32} {c_rows : Nat → Int32} {c_size : Int32} {x_faultPlace : Int32} {kT : Nat} {tN : Nat → Nat} {tF : Nat → Nat → Int32} {tY : Nat → Int32} {m_code : Int32} {m_people : Int32} {m_grants : Int32} {m_texts : Int32} {m_copies : Int32} {m_taped : Int32} {m_faultPlace : Int32} {m_isFemale : Nat → Int32} {m_born : Nat → Int32} {m_died : Nat → Int32} {m_father : Nat → Int32} {m_mother : Nat → Int32} {m_fatherGrade : Nat → Int32} {m_motherGrade : Nat → Int32} {m_grantTo : Nat → Int32} {m_grantArms : Nat → Int32} {m_grantYear : Nat → Int32} {m_copyYear : Nat → Int32} {m_copyRow : Nat → Int32} {m_tape : Nat → Int32} {m_textYear : Nat → Int32} {m_ruleMany : Nat → Int32} {m_ruleFrom : Nat → Int32} {m_codeRow : Nat → Int32} {m_stack : Nat → Int32} {m_ruleKind : Nat → Int32} {m_codes : Int32} {m_at : Int32} {m_read : Int32} {m_token : Int32} {m_sign : Int32} {m_begins : Int32} {m_ends : Int32} {m_bad : Int32} {m_badPlace : Int32} {m_top : Int32} {m_lineLives : Nat → Int32} {m_markRow : Nat → Int32} {m_quarterMany : Nat → Int32} {m_quarters : Nat → Int32} {m_isUp : Nat → Int32} {m_wasUp : Nat → Int32}
set_option maxRecDepth 100000 in
set_option maxHeartbeats 8000000 in
theorem lx_feed (hq : ∃ (fu fv : Nat) (r : Int32 × (Nat → Int32) × Int32) (s : Int32 × Int32 × Int32 × (Nat → Int32)), f_X10_feed fu t_bytes t_length (xs (n + 1)) (xs (n + 2)) (xs (n + 3)) (xs (n + 4)) (xs (n + 5)) = some r ∧ f_X11_feed fv m_taped m_tape (xs (n + 1)) (xs (n + 2)) (xs (n + 3)) (xs (n + 4)) (xs (n + 5)) = some s ∧ r.1 = s.1 ∧ Inw (p_female, p_born, p_toldDeath, p_lastYear, p_father, p_mother, p_fatherGrade, p_motherGrade, p_size, g_holder, g_arms, g_from, g_size, r_marks, r_arms, r_root, r_steps, r_grade, r_marksAboveOne, q_rows, q_sizes, r.2.1, r.2.2, s_tokens, s_starts, s_size, a_code, a_codeSize, a_at, a_token, a_fault, a_place, o_names, o_operands, o_size, o_open, o_refuses, o_differs, o_fees, c_years, c_rows, c_size, x_faultPlace, kT, tN, tF, tY) (s.2.1, m_people, m_grants, m_texts, m_copies, s.2.2.1, m_faultPlace, m_isFemale, m_born, m_died, m_father, m_mother, m_fatherGrade, m_motherGrade, m_grantTo, m_grantArms, m_grantYear, m_copyYear, m_copyRow, s.2.2.2, m_textYear, m_ruleMany, m_ruleFrom, m_codeRow, m_stack, m_ruleKind, m_codes, m_at, m_read, m_token, m_sign, m_begins, m_ends, m_bad, m_badPlace, m_top, m_lineLives, m_markRow, m_quarterMany, m_quarters, m_isUp, m_wasUp)) (hX : CX l G cL_law 7 RL Y) (hx : va_X b L xs (ys Y) (ys Y).heap) (hb : b < gB G) (hn : n + 6 ≤ L) (hL : L < 2 ^ 31) (hr1 : cells + 2 ≤ 601024) (hr2 : slots + 402 ≤ 7293034) (kk : NXT l G Y cells slots b ao n Inw) : J l G RM Y cells slots 309 [(4, .int (nI n)), (3, .ref ao), (2, .ref (gm G 0)), (1, .ref (gb G 0)), (0, .ref b)] [] ((ao, .inl (gct G 3, 1, .inr (.inl fo))) :: (WB G p_female p_born p_toldDeath p_lastYear p_father p_mother p_fatherGrade p_motherGrade p_size g_holder g_arms g_from g_size r_marks r_arms r_root r_steps r_grade r_marksAboveOne q_rows q_sizes t_bytes t_length s_tokens s_starts s_size a_code a_codeSize a_at a_token a_fault a_place (txf kT tA) o_names o_operands o_size o_open o_refuses o_differs o_fees c_years c_rows c_size x_faultPlace ++ (TXw G kT tA tC tN tF tY ++ (WM G m_code m_people m_grants m_texts m_copies m_taped m_faultPlace m_isFemale m_born m_died m_father m_mother m_fatherGrade m_motherGrade m_grantTo m_grantArms m_grantYear m_copyYear m_copyRow m_tape m_textYear m_ruleMany m_ruleFrom m_codeRow m_stack m_ruleKind m_codes m_at m_read m_token m_sign m_begins m_ends m_bad m_badPlace m_top m_lineLives m_markRow m_quarterMany m_quarters m_isUp m_wasUp ++ [])))) := by
  obtain ⟨fu, fv, r, s, hf, hg, he, hI⟩ := hq
  refine j_aload_n hX dL_law_309 310 rfl 3 rfl rfl ?_
  refine j_rd hX hx hb hL dL_law_310 dL_law_311 dL_law_313 dL_law_314 dL_law_315 316 rfl 1 (by decide) (by omega) 4 0 rfl rfl ?_
  refine j_rd hX hx hb hL dL_law_316 dL_law_317 dL_law_319 dL_law_320 dL_law_321 322 rfl 2 (by decide) (by omega) 4 0 rfl rfl ?_
  refine j_rd hX hx hb hL dL_law_322 dL_law_323 dL_law_325 dL_law_326 dL_law_327 328 rfl 3 (by decide) (by omega) 4 0 rfl rfl ?_
  refine j_rd hX hx hb hL dL_law_328 dL_law_329 dL_law_331 dL_law_332 dL_law_333 334 rfl 4 (by decide) (by omega) 4 0 rfl rfl ?_
  refine j_rd hX hx hb hL dL_law_334 dL_law_335 dL_law_337 dL_law_338 dL_law_339 340 rfl 5 (by decide) (by omega) 4 0 rfl rfl ?_
  refine j_perm perm_o ?_
  refine z_i (As := [.int (xs (n + 1)), .int (xs (n + 2)), .int (xs (n + 3)), .int (xs (n + 4)), .int (xs (n + 5))]) (rest := []) (q0 := 0) hX dL_law_340 343 rfl (t_X10_feed (xs (n + 1)) (xs (n + 2)) (xs (n + 3)) (xs (n + 4)) (xs (n + 5)) hf) mc_X10_feed mv_X10_feed ml_L_78 rfl rfl (Nat.le_of_ble_eq_true rfl) (by omega) (by omega) rfl (Nat.le_of_ble_eq_true rfl) ?_
  refine j_perm perm_o.symm ?_
  refine j_pop hX dL_law_343 344 rfl rfl ?_
  refine j_aload_n hX dL_law_344 345 rfl 2 rfl rfl ?_
  refine j_rd hX hx hb hL dL_law_345 dL_law_346 dL_law_348 dL_law_349 dL_law_350 351 rfl 1 (by decide) (by omega) 4 0 rfl rfl ?_
  refine j_rd hX hx hb hL dL_law_351 dL_law_352 dL_law_354 dL_law_355 dL_law_356 357 rfl 2 (by decide) (by omega) 4 0 rfl rfl ?_
  refine j_rd hX hx hb hL dL_law_357 dL_law_358 dL_law_360 dL_law_361 dL_law_362 363 rfl 3 (by decide) (by omega) 4 0 rfl rfl ?_
  refine j_rd hX hx hb hL dL_law_363 dL_law_364 dL_law_366 dL_law_367 dL_law_368 369 rfl 4 (by decide) (by omega) 4 0 rfl rfl ?_
  refine j_rd hX hx hb hL dL_law_369 dL_law_370 dL_law_372 dL_law_373 dL_law_374 375 rfl 5 (by decide) (by omega) 4 0 rfl rfl ?_
  refine j_perm perm_m ?_
  refine z_i (As := [.int (xs (n + 1)), .int (xs (n + 2)), .int (xs (n + 3)), .int (xs (n + 4)), .int (xs (n + 5))]) (rest := []) (q0 := 0) hX dL_law_375 378 rfl (t_X11_feed (xs (n + 1)) (xs (n + 2)) (xs (n + 3)) (xs (n + 4)) (xs (n + 5)) hg) mc_X11_feed mv_X11_feed ml_L_82 rfl rfl (Nat.le_of_ble_eq_true rfl) (by omega) (by omega) rfl (Nat.le_of_ble_eq_true rfl) ?_
  refine j_perm perm_m.symm ?_
  refine j_pop hX dL_law_378 379 rfl rfl ?_
  refine j_goto hX dL_law_379 976 rfl ?_
  exact j_widen (by omega) (by omega) (kk hI)
end
def lw_Q0 (_ : Array Value) (s : State) (o : Outcome) (t : State) : Prop := o = .returned (some (.int 0)) ∧ Framed s o t [] 601024 7293034
def lw_Z0 (below : List Frame) (a : Array Value) (s : State) : State → Prop := fun t => ∃ o, t.status = .running ∧ Ended t below o ∧ lw_Q0 a s o t
theorem lw_retR0 {p : Program} {l : Launch} {e : Env} {R : Room} {s : State} {m : MethodId} {below : List Frame} {meth : Method} {c : Code} {b : Nat} (hx : p.tables.exec = Jvm.exec) (hb : c.code = code) (hr : meth.sig.returnType = ret) (hlocks : meth.locks = false) {pc : Nat} {H : Heap} {ls : Array Slot} (hdg : decode code pc = .ok (.ireturn, 1)) : W p l e R s m #[Value.ref b] below meth c H [] 601024 7293034 (lw_Z0 below #[Value.ref b] s) (F0 m pc ls [.int 0]) := by
  intro T hT X
  obtain ⟨fs, hret, hrun, hended, hW, hframe⟩ := X.leave (v := some (.int 0)) (hlocks := hlocks) (fun h => by rw [hr] at h; cases h)
  have hmeth' : T.vm.method? m = some meth := X.method'
  refine ⟨T.setFrames fs, ?_, .returned (some (.int 0)), hrun, hended, rfl, ⟨_, rfl⟩, hW, hframe⟩
  jvm_step X.here [X.here.top, hx, hb, hdg, hmeth', hr, ret, narrow_b0]
  (try refine ⟨rfl, ?_⟩); (try refine ⟨rfl, ?_⟩)
  first | (intro acts; rw [hret _ acts rfl rfl rfl]) | rw [hret _ _ rfl rfl rfl]
  exact Steps.refl _
def EQL0 (Y : YT) (b : Nat) : Prop := (yt Y).sig.returnType = ret ∧ ya Y = #[Value.ref b] ∧ yQ Y = lw_Z0 (yb Y) #[Value.ref b] (ys Y)
theorem j_law0 {l : Launch} {G : GT} {Y : YT} {cells slots pc b : Nat} {lv : List (Nat × Value)} {ws : va_W} (hX : CX l G cL_law 7 RL Y) (hQ : EQL0 Y b) (hB : gB G = (ys Y).heap.size) (h1 : cells ≤ 601024) (h2 : slots ≤ 7293034) (dd : decode cL_law pc = .ok (.ireturn, 1)) : J l G RM Y cells slots pc lv [.int 0] ws := by
  intro H locs ls a0 b1 c e
  refine va_forget (fun q hq => by rw [← hB]; exact e.2.2 q hq) ?_
  refine W.widen h1 h2 ?_
  rw [hQ.2.1, hQ.2.2]
  exact lw_retR0 hX.1 hX.2.1 hQ.1 hX.2.2.2.2.2.2.2.2 dd
section
variable {l : Launch} {G : GT} {Y : YT} {cells slots b L n ao : Nat} {xs : Nat → Int32} {tA tC : Nat → Nat} {fo : Nat → Int64} {Inv Inw : SB → SM → Prop} {p_female : Nat → Int32} {p_born : Nat → Int32} {p_toldDeath : Nat → Int32} {p_lastYear : Nat → Int32} {p_father : Nat → Int32} {p_mother : Nat → Int32} {p_fatherGrade : Nat → Int32} {p_motherGrade : Nat → Int32} {p_size : Int32} {g_holder : Nat → Int32} {g_arms : Nat → Int32} {g_from : Nat → Int32} {g_size : Int32} {r_marks : Nat → Int32} {r_arms : Int32} {r_root : Int32} {r_steps : Int32} {r_grade : Int32} {r_marksAboveOne : Int32} {q_rows : Nat → Int32} {q_sizes : Nat → Int32} {t_bytes : Nat → Int32} {t_length : Int32} {s_tokens : Nat → Int32} {s_starts : Nat → Int32} {s_size : Int32} {a_code : Nat → Int32} {a_codeSize : Int32} {a_at : Int32} {a_token : Int32} {a_fault : Int32} {a_place : Int32} {o_names : Nat → Int32} {o_operands : Nat → Int32} {o_size : Int32} {o_open : Int32} {o_refuses : Int32} {o_differs : Int32} {o_fees : Int32} {c_years : Nat → Int32} {c_rows : Nat → Int32} {c_size : Int32} {x_faultPlace : Int32} {kT : Nat} {tN : Nat → Nat} {tF : Nat → Nat → Int32} {tY : Nat → Int32} {m_code : Int32} {m_people : Int32} {m_grants : Int32} {m_texts : Int32} {m_copies : Int32} {m_taped : Int32} {m_faultPlace : Int32} {m_isFemale : Nat → Int32} {m_born : Nat → Int32} {m_died : Nat → Int32} {m_father : Nat → Int32} {m_mother : Nat → Int32} {m_fatherGrade : Nat → Int32} {m_motherGrade : Nat → Int32} {m_grantTo : Nat → Int32} {m_grantArms : Nat → Int32} {m_grantYear : Nat → Int32} {m_copyYear : Nat → Int32} {m_copyRow : Nat → Int32} {m_tape : Nat → Int32} {m_textYear : Nat → Int32} {m_ruleMany : Nat → Int32} {m_ruleFrom : Nat → Int32} {m_codeRow : Nat → Int32} {m_stack : Nat → Int32} {m_ruleKind : Nat → Int32} {m_codes : Int32} {m_at : Int32} {m_read : Int32} {m_token : Int32} {m_sign : Int32} {m_begins : Int32} {m_ends : Int32} {m_bad : Int32} {m_badPlace : Int32} {m_top : Int32} {m_lineLives : Nat → Int32} {m_markRow : Nat → Int32} {m_quarterMany : Nat → Int32} {m_quarters : Nat → Int32} {m_isUp : Nat → Int32} {m_wasUp : Nat → Int32}
set_option maxRecDepth 100000 in
set_option maxHeartbeats 8000000 in
theorem lx_text (hq : ∃ (fu fv : Nat) (r : Int32 × Int32 × (Nat → Int32) × (Nat → Int32) × Int32 × (Nat → Int32) × Int32 × Int32 × Int32 × Int32 × Int32 × Int32 × Int32 × Nat) (s : Int32 × Int32 × Int32 × Int32 × Int32 × (Nat → Int32) × (Nat → Int32) × (Nat → Int32) × (Nat → Int32) × (Nat → Int32) × Int32 × Int32 × Int32 × Int32 × Int32 × Int32 × Int32 × Int32 × Int32), f_X10_text fu t_bytes kT t_length s_tokens s_starts s_size a_code a_codeSize a_at a_token a_fault a_place o_size (xs (n + 1)) (xs (n + 2)) = some r ∧ f_X11_text fv m_tape m_texts m_taped m_faultPlace m_textYear m_ruleMany m_ruleFrom m_codeRow m_ruleKind m_codes m_at m_read m_token m_sign m_begins m_ends m_bad m_badPlace (xs (n + 1)) (xs (n + 2)) = some s ∧ s.2.1 = 0 ∧ r.1 = -4 ∧ s.1 = -3) (hX : CX l G cL_law 7 RL Y) (hx : va_X b L xs (ys Y) (ys Y).heap) (hb : b < gB G) (hn : n + 6 ≤ L) (hL : L < 2 ^ 31) (hr1 : cells + 2 ≤ 601024) (hr2 : slots + 402 ≤ 7293034) (hQ : EQL0 Y b) (hB : gB G = (ys Y).heap.size) : J l G RM Y cells slots 382 [(4, .int (nI n)), (3, .ref ao), (2, .ref (gm G 0)), (1, .ref (gb G 0)), (0, .ref b)] [] ((ao, .inl (gct G 3, 1, .inr (.inl fo))) :: (WB G p_female p_born p_toldDeath p_lastYear p_father p_mother p_fatherGrade p_motherGrade p_size g_holder g_arms g_from g_size r_marks r_arms r_root r_steps r_grade r_marksAboveOne q_rows q_sizes t_bytes t_length s_tokens s_starts s_size a_code a_codeSize a_at a_token a_fault a_place (txf kT tA) o_names o_operands o_size o_open o_refuses o_differs o_fees c_years c_rows c_size x_faultPlace ++ (TXw G kT tA tC tN tF tY ++ (WM G m_code m_people m_grants m_texts m_copies m_taped m_faultPlace m_isFemale m_born m_died m_father m_mother m_fatherGrade m_motherGrade m_grantTo m_grantArms m_grantYear m_copyYear m_copyRow m_tape m_textYear m_ruleMany m_ruleFrom m_codeRow m_stack m_ruleKind m_codes m_at m_read m_token m_sign m_begins m_ends m_bad m_badPlace m_top m_lineLives m_markRow m_quarterMany m_quarters m_isUp m_wasUp ++ [])))) := by
  obtain ⟨fu, fv, r, s, hf, hg, hc, he1, he2⟩ := hq
  refine j_aload_n hX dL_law_382 383 rfl 3 rfl rfl ?_
  refine j_rd hX hx hb hL dL_law_383 dL_law_384 dL_law_386 dL_law_387 dL_law_388 389 rfl 1 (by decide) (by omega) 4 0 rfl rfl ?_
  refine j_rd hX hx hb hL dL_law_389 dL_law_390 dL_law_392 dL_law_393 dL_law_394 395 rfl 2 (by decide) (by omega) 4 0 rfl rfl ?_
  refine j_aload_n hX dL_law_395 396 rfl 1 rfl rfl ?_
  refine jS_h (As := (.ref (gb G 0) :: [.int (xs (n + 1)), .int (xs (n + 2))] ++ [.ref ao])) (rest := []) hX dL_law_396 399 rfl (h_L_text (xs (n + 1)) (xs (n + 2)) hf) mcw_L_text ms_L_text ml_L_83 (Nat.le_of_ble_eq_true rfl) hr1 hr2 rfl (Nat.le_of_ble_eq_true rfl) (fun u => ?_)
  refine j_istore (lv' := [(5, .int 0), (4, .int (nI n)), (3, .ref ao), (2, .ref (gm G 0)), (1, .ref (gb G 0)), (0, .ref b)]) hX dL_law_399 401 rfl (by decide) rfl ?_
  refine j_aload_n hX dL_law_401 402 rfl 3 rfl rfl ?_
  refine j_rd hX hx hb hL dL_law_402 dL_law_403 dL_law_405 dL_law_406 dL_law_407 408 rfl 1 (by decide) (by omega) 5 1 rfl rfl ?_
  refine j_rd hX hx hb hL dL_law_408 dL_law_409 dL_law_411 dL_law_412 dL_law_413 414 rfl 2 (by decide) (by omega) 5 1 rfl rfl ?_
  refine j_perm perm_m ?_
  refine z_i (As := [.int (xs (n + 1)), .int (xs (n + 2))]) (rest := []) (q0 := 0) hX dL_law_414 417 rfl (t_X11_text (xs (n + 1)) (xs (n + 2)) hg) mc_X11_text mv_X11_text ml_L_86 rfl rfl (Nat.le_of_ble_eq_true rfl) (by omega) (by omega) rfl (Nat.le_of_ble_eq_true rfl) ?_
  refine j_istore (lv' := [(6, .int s.1), (5, .int 0), (4, .int (nI n)), (3, .ref ao), (2, .ref (gm G 0)), (1, .ref (gb G 0)), (0, .ref b)]) hX dL_law_417 419 rfl (by decide) rfl ?_
  refine j_aload_n hX dL_law_419 420 rfl 4 rfl rfl ?_
  refine z_i (As := []) (rest := []) (q0 := 0) hX dL_law_420 423 rfl (t_X11_thrown rfl) mc_X11_thrown mv_X11_thrown ml_L_87 rfl rfl (Nat.le_of_ble_eq_true rfl) (by omega) (by omega) rfl (Nat.le_of_ble_eq_true rfl) ?_
  refine j_perm perm_m.symm ?_
  refine j_iload hX dL_law_423 425 rfl 1 rfl ?_
  refine j_icmp_eq hX dL_law_425 428 430 rfl rfl (fun _ => ?_) (fun h => absurd hc h)
  refine j_iload hX dL_law_430 432 rfl 1 rfl ?_
  refine j_if_ne hX dL_law_432 435 447 rfl rfl (fun h => absurd rfl h) (fun _ => ?_)
  refine j_aload_n hX dL_law_435 436 rfl 3 rfl rfl ?_
  refine j_iconst (v := 0) hX dL_law_436 437 rfl (by decide) ?_
  refine j_lald hX dL_law_437 438 rfl 0 rfl (by decide) ?_
  rw [updL_0]
  refine j_iload hX dL_law_438 440 rfl 0 rfl ?_
  refine j_i2l hX dL_law_440 441 rfl ?_
  refine j_lcmp hX dL_law_441 442 rfl ?_
  rw [he1, he2, show lg_cmp ((-4 : Int32).toInt64) ((-3 : Int32).toInt64) = -1 by decide]
  refine j_if_eq hX dL_law_442 445 447 rfl rfl (fun h => absurd h (by decide)) (fun _ => ?_)
  refine j_iconst (v := 0) hX dL_law_445 446 rfl (by decide) ?_
  exact j_law0 hX hQ hB (by omega) (by omega) dL_law_446
theorem lx_top {ws : va_W} (hX : CX l G cL_law 7 RL Y) (hx : va_X b L xs (ys Y) (ys Y).heap) (hb : b < gB G) (hL : L < 2 ^ 31) (hn : n < L) (hc : ¬ (Int32.ofNat L - 6 < nI n)) (tgt : Nat) (ht : ∀ {d lo hi : Int} {offs : Array Int} {len : Nat}, decode cL_law 40 = .ok (.tableswitch d lo hi offs, len) → tsel 40 d lo hi offs.toList (xs n &&& 31).toInt = (tgt : Int)) (kk : J l G RM Y cells slots tgt [(4, .int (nI n)), (3, .ref ao), (2, .ref (gm G 0)), (1, .ref (gb G 0)), (0, .ref b)] [] ws) : J l G RM Y cells slots 23 [(4, .int (nI n)), (3, .ref ao), (2, .ref (gm G 0)), (1, .ref (gb G 0)), (0, .ref b)] [] ws := by
  refine j_iload hX dL_law_23 25 rfl 0 rfl ?_
  refine j_aload_n hX dL_law_25 26 rfl 4 rfl rfl ?_
  refine j_slen hX hx hb dL_law_26 27 rfl ?_
  refine j_bipush (v := 6) hX dL_law_27 29 rfl (by decide) ?_
  refine j_isub hX dL_law_29 30 rfl ?_
  refine j_icmp_gt hX dL_law_30 33 982 rfl rfl (fun h => absurd h hc) (fun _ => ?_)
  refine j_aload_n hX dL_law_33 34 rfl 4 rfl rfl ?_
  refine j_iload hX dL_law_34 36 rfl 0 rfl ?_
  refine j_sld hX hx hb hn hL dL_law_36 37 rfl ?_
  refine j_bipush (v := 31) hX dL_law_37 39 rfl (by decide) ?_
  refine j_iand hX dL_law_39 40 rfl ?_
  exact j_tab hX dL_law_40 (by decide) tgt (ht dL_law_40) kk
end
def In1 : SB → SM → Prop := fun (p_female, p_born, p_toldDeath, p_lastYear, p_father, p_mother, p_fatherGrade, p_motherGrade, p_size, g_holder, g_arms, g_from, g_size, r_marks, r_arms, r_root, r_steps, r_grade, r_marksAboveOne, q_rows, q_sizes, t_bytes, t_length, s_tokens, s_starts, s_size, a_code, a_codeSize, a_at, a_token, a_fault, a_place, o_names, o_operands, o_size, o_open, o_refuses, o_differs, o_fees, c_years, c_rows, c_size, x_faultPlace, kT, tN, tF, tY) (m_code, m_people, m_grants, m_texts, m_copies, m_taped, m_faultPlace, m_isFemale, m_born, m_died, m_father, m_mother, m_fatherGrade, m_motherGrade, m_grantTo, m_grantArms, m_grantYear, m_copyYear, m_copyRow, m_tape, m_textYear, m_ruleMany, m_ruleFrom, m_codeRow, m_stack, m_ruleKind, m_codes, m_at, m_read, m_token, m_sign, m_begins, m_ends, m_bad, m_badPlace, m_top, m_lineLives, m_markRow, m_quarterMany, m_quarters, m_isUp, m_wasUp) => ∃ r s, f_X10_text 600 t_bytes kT t_length s_tokens s_starts s_size a_code a_codeSize a_at a_token a_fault a_place o_size 20 1500 = some r ∧ f_X11_text 600 m_tape m_texts m_taped m_faultPlace m_textYear m_ruleMany m_ruleFrom m_codeRow m_ruleKind m_codes m_at m_read m_token m_sign m_begins m_ends m_bad m_badPlace 20 1500 = some s ∧ s.2.1 = 0 ∧ r.1 = -4 ∧ s.1 = -3
def Sx : List Int32 := [3, 1919247989, 1936007208, 673720360, 677801839, 991961120, 4, 20, 1500, 0, 0, 0]
def Xs : Nat → Int32 := fun j => Sx.getD j 0
set_option maxRecDepth 100000 in
set_option maxHeartbeats 8000000 in
theorem law_two {l : Launch} {G : GT} {Y : YT} {b ao : Nat} {xs : Nat → Int32} (hxs : xs = Xs) (hX : CX l G cL_law 7 RL Y) (hQ : EQL0 Y b) (hB : gB G = (ys Y).heap.size) (hx : va_X b 12 xs (ys Y) (ys Y).heap) (hb : b < gB G) : J l G RM Y 61 9817 23 [(4, .int (nI 0)), (3, .ref ao), (2, .ref (gm G 0)), (1, .ref (gb G 0)), (0, .ref b)] [] ((ao, .inl (gct G 3, 1, .inr (.inl (fun _ => 0)))) :: (WB G (fun _ => 0) (fun _ => 0) (fun _ => 0) (fun _ => 0) (fun _ => 0) (fun _ => 0) (fun _ => 0) (fun _ => 0) 0 (fun _ => 0) (fun _ => 0) (fun _ => 0) 0 (fun _ => 0) (-1) (-1) (-1) (-1) 0 (fun _ => 0) (fun _ => 0) (fun _ => 0) 0 (fun _ => 0) (fun _ => 0) 0 (fun _ => 0) 0 0 (-1) 0 (-1) (txf 0 (fun _ => 0)) (fun _ => 0) (fun _ => 0) 0 0 0 0 0 (fun _ => 0) (fun _ => 0) 0 (-1) ++ (TXw G 0 (fun _ => 0) (fun _ => 0) (fun _ => 0) (fun _ _ => 0) (fun _ => 0) ++ (WM G 0 0 0 0 0 0 (-1) (fun _ => 0) (fun _ => 0) (fun _ => 0) (fun _ => 0) (fun _ => 0) (fun _ => 0) (fun _ => 0) (fun _ => 0) (fun _ => 0) (fun _ => 0) (fun _ => 0) (fun _ => 0) (fun _ => 0) (fun _ => 0) (fun _ => 0) (fun _ => 0) (fun _ => 0) (fun _ => 0) (fun _ => 0) 0 0 0 0 0 0 0 0 0 0 (fun _ => 0) (fun _ => 0) (fun _ => 0) (fun _ => 0) (fun _ => 0) (fun _ => 0) ++ [])))) := by
  obtain ⟨r, s, t, u, hr, hs, he, ht, hu, k1, k2, k3⟩ := rv_all
  have e1 : xs (0 + 1) = 1919247989 := by rw [hxs]; rfl
  have e2 : xs (0 + 2) = 1936007208 := by rw [hxs]; rfl
  have e3 : xs (0 + 3) = 673720360 := by rw [hxs]; rfl
  have e4 : xs (0 + 4) = 677801839 := by rw [hxs]; rfl
  have e5 : xs (0 + 5) = 991961120 := by rw [hxs]; rfl
  have e7 : xs (6 + 1) = 20 := by rw [hxs]; rfl
  have e8 : xs (6 + 2) = 1500 := by rw [hxs]; rfl
  have g0 : (xs 0 &&& 31).toInt = 3 := by rw [hxs]; decide
  have g6 : (xs 6 &&& 31).toInt = 4 := by rw [hxs]; decide
  have kk : NXT l G Y 61 9817 b ao 0 In1 := by
    intro p_female p_born p_toldDeath p_lastYear p_father p_mother p_fatherGrade p_motherGrade p_size g_holder g_arms g_from g_size r_marks r_arms r_root r_steps r_grade r_marksAboveOne q_rows q_sizes t_bytes t_length s_tokens s_starts s_size a_code a_codeSize a_at a_token a_fault a_place o_names o_operands o_size o_open o_refuses o_differs o_fees c_years c_rows c_size x_faultPlace kT tN tF tY m_code m_people m_grants m_texts m_copies m_taped m_faultPlace m_isFemale m_born m_died m_father m_mother m_fatherGrade m_motherGrade m_grantTo m_grantArms m_grantYear m_copyYear m_copyRow m_tape m_textYear m_ruleMany m_ruleFrom m_codeRow m_stack m_ruleKind m_codes m_at m_read m_token m_sign m_begins m_ends m_bad m_badPlace m_top m_lineLives m_markRow m_quarterMany m_quarters m_isUp m_wasUp tA tC fo hI
    obtain ⟨r, s, a1, a2, a3, a4, a5⟩ := hI
    refine j_iinc (v := nI 6) (lv' := [(4, .int (nI 6)), (3, .ref ao), (2, .ref (gm G 0)), (1, .ref (gb G 0)), (0, .ref b)]) hX dL_law_976 979 rfl 0 rfl (by decide) (by decide) rfl ?_
    refine j_goto hX dL_law_979 23 rfl ?_
    refine lx_top hX hx hb (by decide) (by decide) (by decide) 382 (fun {d lo hi offs len} hd => ?_) ?_
    · have hd2 := hd.symm.trans dL_law_40
      injection hd2 with hd3
      injection hd3 with hd4 _
      injection hd4 with q1 q2 q3 q4
      subst q1 q2 q3 q4
      rw [g6]; rfl
    · refine lx_text ⟨600, 600, r, s, ?_, ?_, a3, a4, a5⟩ hX hx hb (by decide) (by decide) (by decide) (by decide) hQ hB
      · rw [e7, e8]; exact a1
      · rw [e7, e8]; exact a2
  refine lx_top hX hx hb (by decide) (by decide) (by decide) 309 (fun {d lo hi offs len} hd => ?_) ?_
  · have hd2 := hd.symm.trans dL_law_40
    injection hd2 with hd3
    injection hd3 with hd4 _
    injection hd4 with q1 q2 q3 q4
    subst q1 q2 q3 q4
    rw [g0]; rfl
  · refine lx_feed (Inw := In1) (fo := fun _ => 0) (p_female := (fun _ => 0)) (p_born := (fun _ => 0)) (p_toldDeath := (fun _ => 0)) (p_lastYear := (fun _ => 0)) (p_father := (fun _ => 0)) (p_mother := (fun _ => 0)) (p_fatherGrade := (fun _ => 0)) (p_motherGrade := (fun _ => 0)) (p_size := 0) (g_holder := (fun _ => 0)) (g_arms := (fun _ => 0)) (g_from := (fun _ => 0)) (g_size := 0) (r_marks := (fun _ => 0)) (r_arms := (-1)) (r_root := (-1)) (r_steps := (-1)) (r_grade := (-1)) (r_marksAboveOne := 0) (q_rows := (fun _ => 0)) (q_sizes := (fun _ => 0)) (t_bytes := (fun _ => 0)) (t_length := 0) (s_tokens := (fun _ => 0)) (s_starts := (fun _ => 0)) (s_size := 0) (a_code := (fun _ => 0)) (a_codeSize := 0) (a_at := 0) (a_token := (-1)) (a_fault := 0) (a_place := (-1)) (o_names := (fun _ => 0)) (o_operands := (fun _ => 0)) (o_size := 0) (o_open := 0) (o_refuses := 0) (o_differs := 0) (o_fees := 0) (c_years := (fun _ => 0)) (c_rows := (fun _ => 0)) (c_size := 0) (x_faultPlace := (-1)) (kT := 0) (tN := (fun _ => 0)) (tF := (fun _ _ => 0)) (tY := (fun _ => 0)) (m_code := 0) (m_people := 0) (m_grants := 0) (m_texts := 0) (m_copies := 0) (m_taped := 0) (m_faultPlace := (-1)) (m_isFemale := (fun _ => 0)) (m_born := (fun _ => 0)) (m_died := (fun _ => 0)) (m_father := (fun _ => 0)) (m_mother := (fun _ => 0)) (m_fatherGrade := (fun _ => 0)) (m_motherGrade := (fun _ => 0)) (m_grantTo := (fun _ => 0)) (m_grantArms := (fun _ => 0)) (m_grantYear := (fun _ => 0)) (m_copyYear := (fun _ => 0)) (m_copyRow := (fun _ => 0)) (m_tape := (fun _ => 0)) (m_textYear := (fun _ => 0)) (m_ruleMany := (fun _ => 0)) (m_ruleFrom := (fun _ => 0)) (m_codeRow := (fun _ => 0)) (m_stack := (fun _ => 0)) (m_ruleKind := (fun _ => 0)) (m_codes := 0) (m_at := 0) (m_read := 0) (m_token := 0) (m_sign := 0) (m_begins := 0) (m_ends := 0) (m_bad := 0) (m_badPlace := 0) (m_top := 0) (m_lineLives := (fun _ => 0)) (m_markRow := (fun _ => 0)) (m_quarterMany := (fun _ => 0)) (m_quarters := (fun _ => 0)) (m_isUp := (fun _ => 0)) (m_wasUp := (fun _ => 0)) ⟨600, 600, r, s, ?_, ?_, he, ?_⟩ hX hx hb (by decide) (by decide) (by decide) (by decide) kk
    · rw [e1, e2, e3, e4, e5]; exact hr
    · rw [e1, e2, e3, e4, e5]; exact hs
    · exact ⟨t, u, ht, hu, k3, k1, k2⟩
set_option maxRecDepth 100000 in
set_option maxHeartbeats 8000000 in
theorem law_entry0 {l : Launch} {D : va_G} {ct : Nat → ClassId} {B : Nat} {sk sv : Nat → Nat} {Y : YT} {b : Nat} {xs : Nat → Int32} (hxs : xs = Xs) (hX : CX l (D, ct, B, sk, sv, fun _ => 0, fun _ => 0) cL_law 7 RL Y) (hao : AO2 (ys Y)) (hQ : EQL0 Y b) (hB : B = (ys Y).heap.size) (hx : va_X b 12 xs (ys Y) (ys Y).heap) (hb : b < B) : J l (D, ct, B, sk, sv, fun _ => 0, fun _ => 0) RM Y 0 0 0 [(0, .ref b)] [] [] := by
  refine j_new (fs := [.null, .null, .null, .null, .null, .null, .null, .null, .int 0]) hX dL_law_0 3 rfl nw_L_8 (fun j hj => by rcases (show j = 0 ∨ j = 1 ∨ j = 2 ∨ j = 3 ∨ j = 4 ∨ j = 5 ∨ j = 6 ∨ j = 7 ∨ j = 8 by omega) with rfl | rfl | rfl | rfl | rfl | rfl | rfl | rfl | rfl <;> rfl) (Nat.le_of_ble_eq_true rfl) (Nat.le_of_ble_eq_true rfl) (fun hb0 => ?_)
  refine j_dup hX dL_law_3 4 rfl rfl ?_
  refine jI_P (rest := [.ref hb0]) hX hao dL_law_4 7 rfl t_X10_init mc_X10_init mi_X10_init rfl ml_L_59 (Nat.le_of_ble_eq_true rfl) (Nat.le_of_ble_eq_true rfl) (Nat.le_of_ble_eq_true rfl) rfl (Nat.le_of_ble_eq_true rfl) (fun u => ?_)
  refine j_astore_n (x := hb0) (lv' := [(1, .ref hb0), (0, .ref b)]) hX dL_law_7 8 rfl rfl (by decide) rfl ?_
  refine j_new (fs := [.null, .int 0, .int 0, .int 0, .int 0, .int 0, .int 0, .int 0, .null, .null, .null, .null, .null, .null, .null, .null, .null, .null, .null, .null, .null, .null, .null, .null, .null, .null, .null, .int 0, .int 0, .int 0, .int 0, .int 0, .int 0, .int 0, .int 0, .int 0, .int 0, .null, .null, .null, .null, .null, .null]) hX dL_law_8 11 rfl nw_L_60 (fun j hj => ?_) (Nat.le_of_ble_eq_true rfl) (Nat.le_of_ble_eq_true rfl) (fun hm0 => ?_)
  · have hall : ∀ j : Fin 43, defaultValue (tyX11 j.1) = vp_V [.null, .int 0, .int 0, .int 0, .int 0, .int 0, .int 0, .int 0, .null, .null, .null, .null, .null, .null, .null, .null, .null, .null, .null, .null, .null, .null, .null, .null, .null, .null, .null, .int 0, .int 0, .int 0, .int 0, .int 0, .int 0, .int 0, .int 0, .int 0, .int 0, .null, .null, .null, .null, .null, .null] j.1 := by decide +kernel
    exact hall ⟨j, hj⟩
  refine j_dup hX dL_law_11 12 rfl rfl ?_
  refine jI_P (rest := [.ref hm0]) hX hao dL_law_12 15 rfl t_X11_init mc_X11_init mi_X11_init rfl ml_L_62 (Nat.le_of_ble_eq_true rfl) (Nat.le_of_ble_eq_true rfl) (Nat.le_of_ble_eq_true rfl) rfl (Nat.le_of_ble_eq_true rfl) (fun v => ?_)
  refine j_astore_n (x := hm0) (lv' := [(2, .ref hm0), (1, .ref hb0), (0, .ref b)]) hX dL_law_15 16 rfl rfl (by decide) rfl ?_
  refine j_iconst (v := 1) hX dL_law_16 17 rfl (by decide) ?_
  refine j_newL 1 hX dL_law_17 19 rfl ac_J (by decide) rfl (by decide) (Nat.le_of_ble_eq_true rfl) (Nat.le_of_ble_eq_true rfl) (fun ao => ?_)
  refine j_astore_n (x := ao) (lv' := [(3, .ref ao), (2, .ref hm0), (1, .ref hb0), (0, .ref b)]) hX dL_law_19 20 rfl rfl (by decide) rfl ?_
  refine j_iconst (v := nI 0) hX dL_law_20 21 rfl (by decide) ?_
  refine j_istore (lv' := [(4, .int (nI 0)), (3, .ref ao), (2, .ref hm0), (1, .ref hb0), (0, .ref b)]) hX dL_law_21 23 rfl (by decide) rfl ?_
  generalize hG : ((D, ct, B, sk, sv, mk0 hb0 u, mk0 hm0 v) : GT) = G
  have hX' : CX l G cL_law 7 RL Y := by rw [← hG]; exact hX
  have key := law_two (G := G) (ao := ao) hxs hX' hQ (by rw [← hG]; exact hB) hx (by rw [← hG]; exact hb)
  rw [txf_0] at key
  have key2 := j_perm (ws := (ao, .inl (gct G 3, 1, .inr (.inl (fun _ => 0)))) :: (WM G 0 0 0 0 0 0 (-1) (fun _ => 0) (fun _ => 0) (fun _ => 0) (fun _ => 0) (fun _ => 0) (fun _ => 0) (fun _ => 0) (fun _ => 0) (fun _ => 0) (fun _ => 0) (fun _ => 0) (fun _ => 0) (fun _ => 0) (fun _ => 0) (fun _ => 0) (fun _ => 0) (fun _ => 0) (fun _ => 0) (fun _ => 0) 0 0 0 0 0 0 0 0 0 0 (fun _ => 0) (fun _ => 0) (fun _ => 0) (fun _ => 0) (fun _ => 0) (fun _ => 0) ++ (WB G (fun _ => 0) (fun _ => 0) (fun _ => 0) (fun _ => 0) (fun _ => 0) (fun _ => 0) (fun _ => 0) (fun _ => 0) 0 (fun _ => 0) (fun _ => 0) (fun _ => 0) 0 (fun _ => 0) (-1) (-1) (-1) (-1) 0 (fun _ => 0) (fun _ => 0) (fun _ => 0) 0 (fun _ => 0) (fun _ => 0) 0 (fun _ => 0) 0 0 (-1) 0 (-1) (fun _ => none) (fun _ => 0) (fun _ => 0) 0 0 0 0 0 (fun _ => 0) (fun _ => 0) 0 (-1) ++ []))) perm_e key
  rw [← hG] at key2
  exact key2
