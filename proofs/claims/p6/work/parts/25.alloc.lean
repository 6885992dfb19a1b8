theorem vaP_mem {D : va_G} {cl : List vw_C} {ws : va_W} {H : Heap} : va_P D cl ws H ↔ ∀ q ∈ ws, va_at D cl q H := by
  constructor
  · intro h q hq
    obtain ⟨k, hk⟩ := List.getElem?_of_mem hq
    exact h k q hk
  · intro h k q hk
    exact h q (List.mem_of_getElem? hk)
theorem vaD_nd {A : Nat → Prop} {ws : va_W} : va_D A ws ↔ (ws.map (·.1)).Nodup ∧ ∀ q ∈ ws, A q.1 := by
  constructor
  · intro h
    refine ⟨?_, fun q hq => ?_⟩
    · unfold List.Nodup
      rw [List.pairwise_iff_getElem]
      intro i j hi hj hij
      have hi' : i < ws.length := by simpa using hi
      have hj' : j < ws.length := by simpa using hj
      simp only [List.getElem_map]
      intro e
      have := h.1 i j ws[i] ws[j] (List.getElem?_eq_getElem hi') (List.getElem?_eq_getElem hj') e
      omega
    · obtain ⟨k, hk⟩ := List.getElem?_of_mem hq
      exact h.2 k q hk
  · intro h
    refine ⟨fun i j p q hp hq e => ?_, fun k q hk => h.2 q (List.mem_of_getElem? hk)⟩
    obtain ⟨hi, rfl⟩ := List.getElem?_eq_some_iff.mp hp
    obtain ⟨hj, rfl⟩ := List.getElem?_eq_some_iff.mp hq
    have hn := h.1
    unfold List.Nodup at hn
    rw [List.pairwise_iff_getElem] at hn
    rcases Nat.lt_trichotomy i j with hij | hij | hij
    · exact (hn i j (by simpa using hi) (by simpa using hj) hij (by rw [List.getElem_map, List.getElem_map]; exact e)).elim
    · exact hij
    · exact (hn j i (by simpa using hj) (by simpa using hi) hij (by rw [List.getElem_map, List.getElem_map]; exact e.symm)).elim
theorem vaP_perm {D : va_G} {cl : List vw_C} {ws ws' : va_W} {H : Heap} (h : ws.Perm ws') (hP : va_P D cl ws H) : va_P D cl ws' H := vaP_mem.mpr fun q hq => vaP_mem.mp hP q (h.mem_iff.mpr hq)
theorem vaD_perm {A : Nat → Prop} {ws ws' : va_W} (h : ws.Perm ws') (hD : va_D A ws) : va_D A ws' := by
  rw [vaD_nd] at hD ⊢
  exact ⟨(h.map _).nodup_iff.mp hD.1, fun q hq => hD.2 q (h.mem_iff.mpr hq)⟩
theorem perm_by {α : Type} (d : α) (l l' t : List α) (is : List Nat) (hp : is.isPerm (List.range l.length) = true) (h1 : l = (List.range l.length).map (fun i => l.getD i d)) (h2 : l' = is.map (fun i => l.getD i d)) : (l ++ t).Perm (l' ++ t) := by
  have h := (List.isPerm_iff.mp hp).symm
  refine List.Perm.append_right t ?_
  rw [h2]
  conv => lhs; rw [h1]
  exact h.map _
section JAl
variable {l : Launch} {G : GT} {Y : YT} {cells slots pc : Nat} {lv : List (Nat × Value)} {st rest As : List Value} {ws ws' : va_W} {cc : ByteArray} {nL : Nat} {own : String} {R : Room}
theorem j_perm (h : ws.Perm ws') (k : J l G R Y cells slots pc lv st ws') : J l G R Y cells slots pc lv st ws :=
  fun H locs ls a b c e => k H locs ls a (vaP_perm h b) (vaD_perm h c) e
theorem hA_of (hX : CX l G cc nL own Y) : ∀ q, (ys Y).heap.size ≤ q → gA G q := fun q h => Nat.le_trans hX.2.2.2.2.2.2.1 h
theorem cA_eq {s : State} {ct : Nat → ClassId} {t0 : Nat} {ty : FieldType} {cA : ClassId} {D : va_G} {cl : List vw_C} (ht : (tyl ct)[t0]? = some (ct t0, ty)) (hK : va_K D cl (tyl ct) s) (hK' : va_K D cl (tyl ct ++ [(cA, ty)]) s) : cA = ct t0 := by
  have h1 := (hK.2 t0 _ ht).2
  have h2 := (hK'.2 (tyl ct).length (cA, ty) (by simp)).2
  cases ty <;> first
    | (have e : some cA = some (ct t0) := h2.symm.trans h1
       exact Option.some.inj e)
    | (obtain ⟨_, _, _, _, _, e1⟩ := h1
       obtain ⟨_, _, _, _, _, e2⟩ := h2
       exact Option.some.inj (e2.symm.trans e1))
theorem j_newA {atype : ArrayType} {ty : FieldType} {n : Int32} (N' t0 : Nat) (hX : CX l G cc nL own Y) (d : decode cc pc = .ok (.newarray atype, 2)) (pn : Nat) (hp : pc + 2 = pn) (hw : Cond.arrayClass (newarray.typeOf atype) ∈ TW) (hty : newarray.typeOf atype = ty) (ht : (tyl (gct G))[t0]? = some (gct G t0, ty)) (ha : ∀ cA : ClassId, vp_cell cA (N', .inl (fun _ => 0)) = arrV cA N' (fun _ => defaultValue ty)) (hn : ¬ n < 0) (hN : n.toNatClampNeg = N') (hb : N' * componentBytes ty ≤ 536870912) (hr1 : cells + 1 ≤ R.cells) (hr2 : slots + N' ≤ R.slots) (kk : ∀ q : Nat, J l G R Y (cells + 1) (slots + N') pn lv (.ref q :: st) ((q, .inl (gct G t0, N', .inl (fun _ => 0))) :: ws)) : J l G R Y cells slots pc lv (.int n :: st) ws := by
  intro H locs ls a b c e
  refine va_newa hX.1 hX.2.1 (hX.2.2.2.2.1 _ hw) hty hX.2.2.2.2.2.1 b c e (hA_of hX) ha hn hN hb hr1 hr2 d (fun q cA H1 hK hP hD hS => ?_)
  have e1 := cA_eq ht hX.2.2.2.2.2.1 hK
  subst e1
  rw [hp]
  exact kk q H1 locs ls a (vaP_perm (List.perm_append_singleton _ _) hP) (vaD_perm (List.perm_append_singleton _ _) hD) hS
theorem j_newL {n : Int32} (N' : Nat) (hX : CX l G cc nL own Y) (d : decode cc pc = .ok (.newarray .long, 2)) (pn : Nat) (hp : pc + 2 = pn) (hw : Cond.arrayClass .long ∈ TW) (hn : ¬ n < 0) (hN : n.toNatClampNeg = N') (hb : N' * componentBytes .long ≤ 536870912) (hr1 : cells + 1 ≤ R.cells) (hr2 : slots + N' ≤ R.slots) (kk : ∀ q : Nat, J l G R Y (cells + 1) (slots + N') pn lv (.ref q :: st) ((q, .inl (gct G 3, N', .inr (.inl (fun _ => 0)))) :: ws)) : J l G R Y cells slots pc lv (.int n :: st) ws := by
  intro H locs ls a b c e
  refine va_newa (a0 := (N', .inr (.inl (fun _ => 0)))) hX.1 hX.2.1 (atype := .long) (hX.2.2.2.2.1 _ hw) rfl hX.2.2.2.2.2.1 b c e (hA_of hX) (fun cA => rfl) hn hN hb hr1 hr2 d (fun q cA H1 hK hP hD hS => ?_)
  have e1 := cA_eq (t0 := 3) rfl hX.2.2.2.2.2.1 hK
  subst e1
  rw [hp]
  exact kk q H1 locs ls a (vaP_perm (List.perm_append_singleton _ _) hP) (vaD_perm (List.perm_append_singleton _ _) hD) hS
theorem j_newQ {n : Int32} {C : String} {idx : Nat} (N' t0 : Nat) (hX : CX l G cc nL own Y) (d : decode cc pc = .ok (.anewarray idx, 3)) (pn : Nat) (hp : pc + 3 = pn) (hcl : Cond.classLink own idx C ∈ TW) (hao : va_AO C (ys Y)) (ht : (tyl (gct G))[t0]? = some (gct G t0, .object C)) (hn : ¬ n < 0) (hN : n.toNatClampNeg = N') (hb : N' * 4 ≤ 536870912) (hr1 : cells + 1 ≤ R.cells) (hr2 : slots + N' ≤ R.slots) (kk : ∀ q : Nat, J l G R Y (cells + 1) (slots + N') pn lv (.ref q :: st) ((q, .inl (gct G t0, N', .inr (.inr (.inr (.inr (fun _ => none)))))) :: ws)) : J l G R Y cells slots pc lv (.int n :: st) ws := by
  intro H locs ls a b c e
  refine va_newq hX.1 hX.2.1 hX.2.2.2.1 (hX.2.2.2.2.1 _ hcl) hao hX.2.2.2.2.2.1 b c e (hA_of hX) hn hN hb hr1 hr2 d (fun q cA H1 hK hP hD hS => ?_)
  have e1 := cA_eq ht hX.2.2.2.2.2.1 hK
  subst e1
  rw [hp]
  exact kk q H1 locs ls a (vaP_perm (List.perm_append_singleton _ _) hP) (vaD_perm (List.perm_append_singleton _ _) hD) hS
/-- the words of 'new' of a class of the system -/
def NEW (own : String) (idx ci N : Nat) (ty : Nat → FieldType) : Prop := ∃ (C : String) (T : u_T), vwCl[ci]? = some (C, T, N) ∧ (∀ w ∈ u_ws C T N, w ∈ TW) ∧ (∀ k, k < N → parseFieldDescriptor (T k).2.2.1 = some (ty k)) ∧ Cond.classLink own idx C ∈ TW ∧ Cond.instantiable C N ∈ TW ∧ Cond.initialized C ∈ TW
theorem j_new {idx ci N : Nat} {ty : Nat → FieldType} {fs : List Value} (hX : CX l G cc nL own Y) (d : decode cc pc = .ok (.new idx, 3)) (pn : Nat) (hp : pc + 3 = pn) (hN : NEW own idx ci N ty) (hfs : ∀ j, j < N → defaultValue (ty j) = vp_V fs j) (hr1 : cells + 1 ≤ R.cells) (hr2 : slots + N ≤ R.slots) (kk : ∀ q : Nat, J l G R Y (cells + 1) (slots + N) pn lv (.ref q :: st) ((q, .inr (ci, fs)) :: ws)) : J l G R Y cells slots pc lv st ws := by
  obtain ⟨C, T, h1, h2, h3, h4, h5, h6⟩ := hN
  intro H locs ls a b c e
  have hw := hX.2.2.2.2.1
  refine va_new hX.1 hX.2.1 hw h2 ty h3 hX.2.2.2.1 (hw _ h4) (hw _ h5) (hw _ h6) hX.2.2.2.2.2.1 b c e (hA_of hX) h1 hfs hr1 hr2 d (fun q H1 hP hD hS => ?_)
  rw [hp]
  exact kk q H1 locs ls a (vaP_perm (List.perm_append_singleton _ _) hP) (vaD_perm (List.perm_append_singleton _ _) hD) hS
theorem j_putF {idx ci k a : Nat} {fs : List Value} {v : Value} {ty : FieldType} (hX : CX l G cc nL own Y) (hin : (yt Y).name = "<init>") (d : decode cc pc = .ok (.putfield idx, 3)) (pn : Nat) (hp : pc + 3 = pn) (hF : FG own idx ci k) (hT : FT ci k ty true) (hown : ∃ r, vwCl[ci]? = some r ∧ r.1 = own) (q0 : Nat) (he : ws[q0]? = some (a, .inr (ci, fs))) (hn : narrow ty v = v) (hfit : fits ty v = true) (hl : k < fs.length) {ws' : va_W} (hw : ws.set q0 (a, .inr (ci, fs.set k v)) = ws') (kk : J l G R Y cells slots pn lv st ws') : J l G R Y cells slots pc lv (v :: .ref a :: st) ws := by
  obtain ⟨C, T, N, h1, h2, h3, h4, h5⟩ := hF
  obtain ⟨C', T', N', ty0, g1, g2, g3, g4, g5⟩ := hT
  cases Option.some.inj (h1.symm.trans g1)
  obtain ⟨r, hr1, hr2⟩ := hown
  cases Option.some.inj (h1.symm.trans hr1)
  subst hw
  have hC : (T k).1 = own := by rw [h5]; exact hr2
  exact fun H locs ls x b c e => va_putF hX.1 hX.2.1 hX.2.2.2.2.1 h2 ty0 g2 g3 hX.2.2.2.1 hX.2.2.2.2.2.1 b c e q0 he h1 k h3 (hX.2.2.2.2.1 _ h4) (fun y hy => by rw [h5] at hy; exact hy) g5 hin hC g4 hn hfit hl d (fun H1 locs1 b1 c1 e1 => by rw [hp]; exact kk H1 locs1 ls x b1 c1 e1)
theorem j_objI {idx a d mR sR : Nat} (hX : CX l G cc nL own Y) (dd : decode cc pc = .ok (.invokespecial idx, 3)) (pn : Nat) (hp : pc + 3 = pn) (hl : Cond.methodLink own idx objectInit ∈ TW) (hi : Cond.instanceMethod objectInit ∈ TW) (hc : Cond.code objectInit ⟨#[0xb1]⟩ 1 none ∈ TW) (hd : 1 ≤ d) (hW : (st.map fun v => v.category).sum ≤ 8) (kk : J l G (rmD d mR sR) Y cells slots pn lv st ws) : J l G (rmD d mR sR) Y cells slots pc lv (.ref a :: st) ws := by
  intro H locs ls x b c e
  have hw := hX.2.2.2.2.1
  refine W.objInit hX.1 hX.2.1 hX.2.2.2.1 (hw _ hl) (hw _ hi) (hw _ hc) rfl (by show ls.size = _; exact x.1) rfl dd hd ?_ ?_
  · show 2 * 0 + _ + 12 ≤ 64 * d
    omega
  · show W _ _ _ _ _ _ _ _ _ _ _ _ _ _ _ (F0 (ym Y) (pc + 3) ls st)
    rw [hp]
    exact kk H locs ls x b c e
end JAl
