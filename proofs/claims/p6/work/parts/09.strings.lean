section SC
variable {l : Launch} {G : GT} {Y : YT} {cells slots pc : Nat} {lv : List (Nat × Value)} {st rest As : List Value} {ws ws' : va_W} {cc : ByteArray} {nL : Nat} {own : String} {d d' mc ms mR sR idx maxL : Nat} {y : MethodName} {bytes : ByteArray} {ty : FieldType} {av : List Value} {R : Room}
theorem Ci.ofF {r : Int32} (hy : plainFor y = true) (hlen : (lg_sl av).length ≤ nL) (body : ∀ Y : YT, CX l G cc nL y.cls Y → EQi G Y mc ms ty r ws' → J l G (rmD d mc ms) Y 0 0 0 (lv_args 0 av) [] ws) : Ci l G d mc ms y cc nL ty av ws r ws' := by
  refine va_MetF (cc := cc) (maxL := nL) (ret := some ty) hy rfl ?_
  intro p e s m args below meth c s₁ B hml hv
  obtain ⟨rfl, hB, hP, hD, hK, hE⟩ := hv
  have hts := atoms_spec (ws := .code y cc nL (some ty) :: TW) B.pre
  have hown : s.vm.findClass y.cls = some m.cls := findClass_of_methodNamed B.named
  have hl := lv_entry av (n := nL) hlen
  rw [lg_entry_eq]
  exact body (p, e, s, m, av.toArray, below, meth, c, _) ⟨B.exec, B.bytes, hml, hown, fun w hw => hts w (List.mem_cons_of_mem _ hw), hK, hB, hE, B.notSynchronized⟩ ⟨B.returns, rfl⟩ s.heap [] _ (by show lv_has _ c.maxLocals _; rw [hml]; exact hl) hP hD va_S.rf
theorem Cv.ofF (hy : plainFor y = true) (hlen : (lg_sl av).length ≤ nL) (body : ∀ Y : YT, CX l G cc nL y.cls Y → EQv G Y mc ms ws' → J l G (rmD d mc ms) Y 0 0 0 (lv_args 0 av) [] ws) : Cv l G d mc ms y cc nL av ws ws' := by
  refine va_MetF (cc := cc) (maxL := nL) (ret := none) hy rfl ?_
  intro p e s m args below meth c s₁ B hml hv
  obtain ⟨rfl, hB, hP, hD, hK, hE⟩ := hv
  have hts := atoms_spec (ws := .code y cc nL none :: TW) B.pre
  have hown : s.vm.findClass y.cls = some m.cls := findClass_of_methodNamed B.named
  have hl := lv_entry av (n := nL) hlen
  rw [lg_entry_eq]
  exact body (p, e, s, m, av.toArray, below, meth, c, _) ⟨B.exec, B.bytes, hml, hown, fun w hw => hts w (List.mem_cons_of_mem _ hw), hK, hB, hE, B.notSynchronized⟩ ⟨B.returns, rfl⟩ s.heap [] _ (by show lv_has _ c.maxLocals _; rw [hml]; exact hl) hP hD va_S.rf
theorem j_nret {r : Int32} (hX : CX l G cc nL own Y) (hQ : EQi G Y cells slots ty r ws) (hn : narrow ty (.int r) = .int r) (d : decode cc pc = .ok (.ireturn, 1)) : J l G R Y cells slots pc lv [.int r] ws := by
  intro H locs ls a b c e
  rw [hQ.2]
  have hlk : (yt Y).locks = false := hX.2.2.2.2.2.2.2.2
  exact W.zret (v := r) hX.1 hX.2.1 hQ.1 hn (fun t ht hW => ⟨⟨r, (), rfl, rfl, by rw [ht]; exact b, c⟩, e.F ht⟩) e.2.2 d hlk
theorem j_gets {C n de : String} {v : Value} (hX : CX l G cc nL own Y) (dd : decode cc pc = .ok (.getstatic idx, 3)) (pn : Nat) (hp : pc + 3 = pn) (hZ : va_Z C n de v (gA G) (ys Y) (ys Y).heap) (hl : Cond.fieldLink own idx C n de ∈ TW) (kk : J l G R Y cells slots pn lv (v :: st) ws) : J l G R Y cells slots pc lv st ws :=
  fun H locs ls a b c e => va_gets hX.1 hX.2.1 hZ e hX.2.2.2.1 (hX.2.2.2.2.1 _ hl) (fun _ h => h) dd (by rw [hp]; exact kk H locs ls a b c e)
theorem j_sget {o n de : String} {v : Value} {q : Nat} (hX : CX l G cc nL own Y) (dd : decode cc pc = .ok (.getfield idx, 3)) (pn : Nat) (hp : pc + 3 = pn) (hE : va_OF o n de v q (gA G) (ys Y) (ys Y).heap) (hl : Cond.fieldLink own idx o n de ∈ TW) (kk : J l G R Y cells slots pn lv (v :: st) ws) : J l G R Y cells slots pc lv (.ref q :: st) ws :=
  fun H locs ls a b c e => vk_getf hX.1 hX.2.1 hE e hX.2.2.2.1 (hX.2.2.2.2.1 _ hl) (fun _ h => h) dd (by rw [hp]; exact kk H locs ls a b c e)
theorem j_tlen {t N : Nat} {f : Nat → Value} (hX : CX l G cc nL own Y) (dd : decode cc pc = .ok (.arraylength, 1)) (pn : Nat) (hp : pc + 1 = pn) (hT : va_T ty t N f (gA G) (ys Y) (ys Y).heap) (kk : J l G R Y cells slots pn lv (.int (Int32.ofNat N) :: st) ws) : J l G R Y cells slots pc lv (.ref t :: st) ws :=
  fun H locs ls a b c e => va_tlen hX.1 hX.2.1 hT e rfl dd (by rw [hp]; exact kk H locs ls a b c e)
theorem j_tb {t N : Nat} {f : Nat → Value} {i : Int32} (hX : CX l G cc nL own Y) (dd : decode cc pc = .ok (.baload, 1)) (pn : Nat) (hp : pc + 1 = pn) (hT : va_T .byte t N f (gA G) (ys Y) (ys Y).heap) (hin : inb i N = true) (kk : J l G R Y cells slots pn lv (f i.toNatClampNeg :: st) ws) : J l G R Y cells slots pc lv (.int i :: .ref t :: st) ws :=
  fun H locs ls a b c e => va_tb hX.1 hX.2.1 hT e (inb_in hin) rfl dd (by rw [hp]; exact kk H locs ls a b c e)
theorem j_i2c {x v : Int32} (hX : CX l G cc nL own Y) (d : decode cc pc = .ok (.i2c, 1)) (pn : Nat) (hp : pc + 1 = pn) (hv : (x.toUInt32 % 65536).toInt32 = v) (k : J l G R Y cells slots pn lv (.int v :: st) ws) : J l G R Y cells slots pc lv (.int x :: st) ws :=
  fun H locs ls a b c e => lv_i2c hX.1 hX.2.1 d hv (by rw [hp]; exact k H locs ls a b c e)
theorem j_ldcS {i : Nat} {tx : String} (hX : CX l G cc nL own Y) (dd : decode cc pc = .ok (.ldc idx, 2)) (pn : Nat) (hp : pc + 2 = pn) (hm : (own, idx, tx, i) ∈ ESL) (k : J l G R Y cells slots pn lv (.ref (gsk G i) :: st) ws) : J l G R Y cells slots pc lv st ws :=
  fun H locs ls a b c e => va_ldcS hX.1 hX.2.1 hX.2.2.2.1 (hX.2.2.2.2.2.2.2.1.2.2.2.2.1 _ hm) dd (by rw [hp]; exact k H locs ls a b c e)
/-- a call whose receiver stands outside the world -/
theorem zO_i {a : Nat} {r : Int32} (hX : CX l G cc nL own Y) (dd : decode cc pc = .ok (.invokevirtual idx, 3)) (pn : Nat) (hp : pc + 3 = pn) (hC : Ci l G d' 0 0 y bytes maxL ty (.ref a :: As) ws r ws') (hm : MC y bytes maxL (some ty) As.length) (hv : MV y) (hl : Cond.methodLink own idx y ∈ TW) (hrec : ∀ (H : Heap) (locs : List Loc), va_S (gA G) (ys Y).heap H locs → ∃ cell : Cell, H[a]? = some cell ∧ cell.vm.isStatics = false ∧ (ys Y).vm.findClass y.cls = some cell.cls) (hd : d' + 1 ≤ d) (hr1 : cells ≤ mR) (hr2 : slots ≤ sR) (hst : st = As.reverse ++ .ref a :: rest) (hW : (rest.map fun v => v.category).sum ≤ 8) (kk : J l G (rmD d mR sR) Y cells slots pn lv (.int r :: rest) ws') : J l G (rmD d mR sR) Y cells slots pc lv st ws := by
  intro H locs ls a0 b c e
  subst hst
  refine va_calli (va_runV (As := As) (rest := rest) (b := a) (C := y.cls) (n := As.length) (nL := nL) (g := F0 (ym Y) pc ls (As.reverse ++ .ref a :: rest)) ⟨hX.1, hX.2.1, hX.2.2.1, hX.2.2.2.1, hX.2.2.2.2.1⟩ hC ⟨cB (R := rmD d mR sR) hX hm hl hd, hX.2.2.2.2.1 _ hv.1, hX.2.2.2.2.1 _ hv.2⟩ ⟨PRE.blind, hrec H locs e, fun U hU hW9 => ⟨rfl, PRE.at hX b c e hU hW9⟩⟩ rfl rfl (a0.1.trans hX.2.2.1) rfl ?_ dd ⟨hr1, hr2⟩) e (fun _ _ h => h) (fun _ h => h) (fun r1 u t H1 locs1 ht hvm hpo hB hz hk hS => ?_)
  · show 2 * 0 + _ ≤ 8
    omega
  · subst hpo
    rw [hp]
    rw [← ht] at hS ⊢
    exact kk t.heap locs1 ls a0 hB.1 hB.2 hS
theorem z_sv (hX : CX l G cc nL own Y) (dd : decode cc pc = .ok (.invokestatic idx, 3)) (pn : Nat) (hp : pc + 3 = pn) (hC : Cv l G d' 0 0 y bytes maxL As ws ws') (hm : MC y bytes maxL none As.length) (hv : Cond.static y ∈ TW) (hl : Cond.methodLink own idx y ∈ TW) (hd : d' + 1 ≤ d) (hr1 : cells ≤ mR) (hr2 : slots ≤ sR) (hst : st = As.reverse ++ rest) (hW : (rest.map fun v => v.category).sum ≤ 8) (kk : J l G (rmD d mR sR) Y cells slots pn lv rest ws') : J l G (rmD d mR sR) Y cells slots pc lv st ws := by
  intro H locs ls a0 b c e
  subst hst
  refine va_callv (va_runS (As := As) (rest := rest) (n := As.length) (nL := nL) (g := F0 (ym Y) pc ls (As.reverse ++ rest)) ⟨hX.1, hX.2.1, hX.2.2.1, hX.2.2.2.1, hX.2.2.2.2.1⟩ hC ⟨cB (R := rmD d mR sR) hX hm hl hd, hX.2.2.2.2.1 _ hv⟩ ⟨PRE.blind, fun U hU hW9 => ⟨rfl, PRE.at hX b c e hU hW9⟩⟩ rfl rfl (a0.1.trans hX.2.2.1) rfl ?_ dd ⟨hr1, hr2⟩) e (fun _ _ h => h) (fun _ h => h) (fun u t H1 locs1 ht hvm hpo hB hz hk hS => ?_)
  · show 2 * 0 + _ ≤ 8
    omega
  · rw [hp]
    rw [← ht] at hS ⊢
    exact kk t.heap locs1 ls a0 hB.1 hB.2 hS
theorem strO {i : Nat} (hX : CX l G cc nL own Y) (hi : i < ESN) : ∀ (H : Heap) (locs : List Loc), va_S (gA G) (ys Y).heap H locs → ∃ cell : Cell, H[gsk G i]? = some cell ∧ cell.vm.isStatics = false ∧ (ys Y).vm.findClass "java/lang/String" = some cell.cls := by
  intro H locs e
  obtain ⟨cell, h1, h2, h3, -⟩ := (hX.2.2.2.2.2.2.2.1.2.2.2.2.2.1 i hi).1.kept e.2.1
  exact ⟨cell, h1, h2, h3⟩
end SC
def f_J0_length_8abf5 (s : Nat) : Option Int32 := if s < ESN then some (Int32.ofNat (ESlen.getD s 0)) else none
def f_J0_charAt_5068e (s : Nat) (x1 : Int32) : Option Int32 := if s < ESN then (if inb x1 (ESlen.getD s 0) = true then some ((ESbyt.getD s []).getD x1.toNatClampNeg 0) else none) else none
theorem len_lt {s : Nat} {r : Int32} (h : f_J0_length_8abf5 s = some r) : s < ESN ∧ r = Int32.ofNat (ESlen.getD s 0) := by
  unfold f_J0_length_8abf5 at h
  by_cases hs : s < ESN
  · rw [if_pos hs] at h
    cases h
    exact ⟨hs, rfl⟩
  · rw [if_neg hs] at h
    cases h
theorem chr_lt {s : Nat} {x r : Int32} (h : f_J0_charAt_5068e s x = some r) : s < ESN ∧ inb x (ESlen.getD s 0) = true ∧ r = (ESbyt.getD s []).getD x.toNatClampNeg 0 := by
  unfold f_J0_charAt_5068e at h
  by_cases hs : s < ESN
  · rw [if_pos hs] at h
    obtain ⟨h1, h2⟩ := ign h
    cases h2
    exact ⟨hs, h1, rfl⟩
  · rw [if_neg hs] at h
    cases h
theorem chr_all : ∀ i, i < ESN → ∀ b ∈ ESbyt.getD i [], ((b &&& 255).toUInt32 % 65536).toInt32 = b ∧ narrow .char (.int b) = .int b := by decide +kernel
theorem len_all : ∀ i, i < ESN → (ESlen.getD i 0 = (ESbyt.getD i []).length ∧ Int32.ofNat (ESlen.getD i 0) >>> ((0 : Int32) &&& 31) = Int32.ofNat (ESlen.getD i 0) ∧ ESlen.getD i 0 < 1000) := by decide +kernel
theorem fs_9 : Cond.fieldLink RJ0 9 "java/lang/String" "value" "[B" ∈ TW := inTW 1437 (by decide +kernel) rfl
theorem fs_15 : Cond.fieldLink RJ0 15 "java/lang/String" "coder" "B" ∈ TW := inTW 1438 (by decide +kernel) rfl
theorem fs_38 : Cond.fieldLink RJ0 38 "java/lang/String" "COMPACT_STRINGS" "Z" ∈ TW := inTW 567 (by decide +kernel) rfl
theorem fs_1053 : Cond.fieldLink RJ0 1053 "jdk/internal/util/Preconditions" "SIOOBE_FORMATTER" "Ljava/util/function/BiFunction;" ∈ TW := inTW 583 (by decide +kernel) rfl
theorem gdm {l : List Int32} {k : Nat} (h : k < l.length) : l.getD k 0 ∈ l := by
  rw [List.getD_eq_getElem?_getD, List.getElem?_eq_getElem h]
  exact List.getElem_mem _
section SD
variable {l : Launch} {G : GT} {ws : va_W}
set_option maxRecDepth 100000 in
theorem t_J0_coder {i : Nat} (hi : i < ESN) : Ci l G 1 0 0 yJ0_coder_7d493 cJ0_coder_7d493 1 .byte [.ref (gsk G i)] ws 0 ws := by
  refine Ci.ofF (by decide +kernel) (Nat.le_of_ble_eq_true rfl) (fun Y hX hQ => ?_)
  refine j_lv (lv' := [(0, .ref (gsk G i))]) rfl ?_
  refine j_gets hX dJ0_coder_7d493_0 3 rfl hX.2.2.2.2.2.2.2.1.2.2.2.2.2.2.1 fs_38 ?_
  refine j_if_eq hX dJ0_coder_7d493_3 6 13 rfl rfl (fun h => absurd h (by decide)) (fun _ => ?_)
  refine j_aload_n hX dJ0_coder_7d493_6 7 rfl 0 rfl rfl ?_
  refine j_sget hX dJ0_coder_7d493_7 10 rfl (hX.2.2.2.2.2.2.2.1.2.2.2.2.2.1 i hi).2.1 fs_15 ?_
  refine j_goto hX dJ0_coder_7d493_10 14 rfl ?_
  exact j_nret hX hQ rfl dJ0_coder_7d493_14
set_option maxRecDepth 100000 in
theorem t_J0_isLatin1 {i : Nat} (hi : i < ESN) : Ci l G 1 0 0 yJ0_isLatin1_aae02 cJ0_isLatin1_aae02 1 .boolean [.ref (gsk G i)] ws 1 ws := by
  refine Ci.ofF (by decide +kernel) (Nat.le_of_ble_eq_true rfl) (fun Y hX hQ => ?_)
  refine j_lv (lv' := [(0, .ref (gsk G i))]) rfl ?_
  refine j_gets hX dJ0_isLatin1_aae02_0 3 rfl hX.2.2.2.2.2.2.2.1.2.2.2.2.2.2.1 fs_38 ?_
  refine j_if_eq hX dJ0_isLatin1_aae02_3 6 17 rfl rfl (fun h => absurd h (by decide)) (fun _ => ?_)
  refine j_aload_n hX dJ0_isLatin1_aae02_6 7 rfl 0 rfl rfl ?_
  refine j_sget hX dJ0_isLatin1_aae02_7 10 rfl (hX.2.2.2.2.2.2.2.1.2.2.2.2.2.1 i hi).2.1 fs_15 ?_
  refine j_if_ne hX dJ0_isLatin1_aae02_10 13 17 rfl rfl (fun h => absurd rfl h) (fun _ => ?_)
  refine j_iconst (v := 1) hX dJ0_isLatin1_aae02_13 14 rfl (by decide) ?_
  refine j_goto hX dJ0_isLatin1_aae02_14 18 rfl ?_
  exact j_nret hX hQ rfl dJ0_isLatin1_aae02_18
set_option maxRecDepth 100000 in
theorem t_J0_length_8abf5 (s : Nat) {r : Int32} (hf : f_J0_length_8abf5 s = some r) : Ci l G 2 0 0 yJ0_length_8abf5 cJ0_length_8abf5 1 .int [.ref (gsk G s)] ws r ws := by
  obtain ⟨hi, hr⟩ := len_lt hf
  subst hr
  refine Ci.ofF (by decide +kernel) (Nat.le_of_ble_eq_true rfl) (fun Y hX hQ => ?_)
  refine j_lv (lv' := [(0, .ref (gsk G s))]) rfl ?_
  have hE := hX.2.2.2.2.2.2.2.1.2.2.2.2.2.1 s hi
  refine j_aload_n hX dJ0_length_8abf5_0 1 rfl 0 rfl rfl ?_
  refine j_sget hX dJ0_length_8abf5_1 4 rfl hE.2.2.1 fs_9 ?_
  refine j_tlen hX dJ0_length_8abf5_4 5 rfl hE.2.2.2 ?_
  refine j_aload_n hX dJ0_length_8abf5_5 6 rfl 0 rfl rfl ?_
  refine zO_i (As := []) (rest := [.int (Int32.ofNat (ESlen.getD s 0))]) hX dJ0_length_8abf5_6 9 rfl (t_J0_coder hi) mc_J0_coder_7d493 mv_J0_coder_7d493 ml_J0_335 (strO hX hi) (Nat.le_refl _) (Nat.le_refl _) (Nat.le_refl _) rfl (Nat.le_of_ble_eq_true rfl) ?_
  refine j_ishr hX dJ0_length_8abf5_9 10 rfl ?_
  rw [(len_all s hi).2.1]
  exact j_iret hX hQ dJ0_length_8abf5_10
set_option maxRecDepth 100000 in
theorem t_J3_checkIndex (k n : Int32) (v : Value) (hv : v.category = 1) (h0 : ¬ k < 0) (h1 : k < n) : Ci l G 1 0 0 yJ3_checkIndex_8e157 cJ3_checkIndex_8e157 3 .int [.int k, .int n, v] ws k ws := by
  refine Ci.ofF (by decide +kernel) (show (lg_sl [.int k, .int n, v]).length ≤ 3 by cases v <;> simp_all [lg_sl, Value.category]) (fun Y hX hQ => ?_)
  refine j_sub [0, 1] (lv' := [(0, .int k), (1, .int n)]) rfl ?_
  refine j_iload_n hX dJ3_checkIndex_8e157_0 1 rfl 0 rfl rfl ?_
  refine j_if_lt hX dJ3_checkIndex_8e157_1 4 9 rfl rfl (fun h => absurd h h0) (fun _ => ?_)
  refine j_iload_n hX dJ3_checkIndex_8e157_4 5 rfl 0 rfl rfl ?_
  refine j_iload_n hX dJ3_checkIndex_8e157_5 6 rfl 1 rfl rfl ?_
  refine j_icmp_lt hX dJ3_checkIndex_8e157_6 9 16 rfl rfl (fun _ => ?_) (fun h => absurd h1 h)
  refine j_iload_n hX dJ3_checkIndex_8e157_16 17 rfl 0 rfl rfl ?_
  exact j_iret hX hQ dJ3_checkIndex_8e157_17
set_option maxRecDepth 100000 in
theorem t_J0_checkIndex (k n : Int32) (h0 : ¬ k < 0) (h1 : k < n) : Cv l G 2 0 0 yJ0_checkIndex_df160 cJ0_checkIndex_df160 2 [.int k, .int n] ws ws := by
  refine Cv.ofF (by decide +kernel) (Nat.le_of_ble_eq_true rfl) (fun Y hX hQ => ?_)
  refine j_lv (lv' := [(0, .int k), (1, .int n)]) rfl ?_
  refine j_iload_n hX dJ0_checkIndex_df160_0 1 rfl 0 rfl rfl ?_
  refine j_iload_n hX dJ0_checkIndex_df160_1 2 rfl 1 rfl rfl ?_
  rcases hX.2.2.2.2.2.2.2.1.2.2.2.2.2.2.2 with hz | ⟨t, hz⟩
  · refine j_gets hX dJ0_checkIndex_df160_2 5 rfl hz fs_1053 ?_
    refine z_si (As := [.int k, .int n, .null]) (rest := []) hX dJ0_checkIndex_df160_5 8 rfl (t_J3_checkIndex k n .null rfl h0 h1) mc_J3_checkIndex_8e157 ms_J3_checkIndex_8e157 ml_J0_1059 (Nat.le_refl _) (Nat.le_refl _) (Nat.le_refl _) rfl (Nat.le_of_ble_eq_true rfl) ?_
    refine j_pop hX dJ0_checkIndex_df160_8 9 rfl rfl ?_
    exact j_vret hX hQ dJ0_checkIndex_df160_9
  · refine j_gets hX dJ0_checkIndex_df160_2 5 rfl hz fs_1053 ?_
    refine z_si (As := [.int k, .int n, .ref t]) (rest := []) hX dJ0_checkIndex_df160_5 8 rfl (t_J3_checkIndex k n (.ref t) rfl h0 h1) mc_J3_checkIndex_8e157 ms_J3_checkIndex_8e157 ml_J0_1059 (Nat.le_refl _) (Nat.le_refl _) (Nat.le_refl _) rfl (Nat.le_of_ble_eq_true rfl) ?_
    refine j_pop hX dJ0_checkIndex_df160_8 9 rfl rfl ?_
    exact j_vret hX hQ dJ0_checkIndex_df160_9
theorem inb_lt {x : Int32} {n : Nat} (hn : n < 2 ^ 31) (h : inb x n = true) : ¬ x < 0 ∧ x < Int32.ofNat n ∧ x.toNatClampNeg < n := by
  have h2 := inb_in h
  obtain ⟨j, hj, rfl⟩ := vp_in_of h2 hn
  refine ⟨nI_pos (by omega), nI_lt hj hn, ?_⟩
  rw [nI_clamp (by omega)]
  exact hj
set_option maxRecDepth 100000 in
theorem t_J1_charAt (s : Nat) (x : Int32) (hi : s < ESN) (hx : inb x (ESlen.getD s 0) = true) : Ci l G 3 0 0 yJ1_charAt_3b067 cJ1_charAt_3b067 2 .char [.ref (gsv G s), .int x] ws ((ESbyt.getD s []).getD x.toNatClampNeg 0) ws := by
  refine Ci.ofF (by decide +kernel) (Nat.le_of_ble_eq_true rfl) (fun Y hX hQ => ?_)
  refine j_lv (lv' := [(0, .ref (gsv G s)), (1, .int x)]) rfl ?_
  have hE := hX.2.2.2.2.2.2.2.1.2.2.2.2.2.1 s hi
  obtain ⟨hl1, -, hl3⟩ := len_all s hi
  obtain ⟨g1, g2, g3⟩ := inb_lt (by omega) hx
  have hb := chr_all s hi ((ESbyt.getD s []).getD x.toNatClampNeg 0) (gdm (by omega))
  refine j_iload_n hX dJ1_charAt_3b067_0 1 rfl 1 rfl rfl ?_
  refine j_aload_n hX dJ1_charAt_3b067_1 2 rfl 0 rfl rfl ?_
  refine j_tlen hX dJ1_charAt_3b067_2 3 rfl hE.2.2.2 ?_
  refine z_sv (As := [.int x, .int (Int32.ofNat (ESlen.getD s 0))]) (rest := []) hX dJ1_charAt_3b067_3 6 rfl (t_J0_checkIndex x _ g1 g2) mc_J0_checkIndex_df160 ms_J0_checkIndex_df160 ml_J1_9 (Nat.le_refl _) (Nat.le_refl _) (Nat.le_refl _) rfl (Nat.le_of_ble_eq_true rfl) ?_
  refine j_aload_n hX dJ1_charAt_3b067_6 7 rfl 0 rfl rfl ?_
  refine j_iload_n hX dJ1_charAt_3b067_7 8 rfl 1 rfl rfl ?_
  refine j_tb hX dJ1_charAt_3b067_8 9 rfl hE.2.2.2 hx ?_
  refine j_sipush (v := 255) hX dJ1_charAt_3b067_9 12 rfl (by decide) ?_
  refine j_iand hX dJ1_charAt_3b067_12 13 rfl ?_
  refine j_i2c hX dJ1_charAt_3b067_13 14 rfl hb.1 ?_
  exact j_nret hX hQ hb.2 dJ1_charAt_3b067_14
set_option maxRecDepth 100000 in
theorem t_J0_charAt_5068e (s : Nat) (x1 : Int32) {r : Int32} (hf : f_J0_charAt_5068e s x1 = some r) : Ci l G 4 0 0 yJ0_charAt_5068e cJ0_charAt_5068e 2 .char [.ref (gsk G s), .int x1] ws r ws := by
  obtain ⟨hi, hx, hr⟩ := chr_lt hf
  subst hr
  refine Ci.ofF (by decide +kernel) (Nat.le_of_ble_eq_true rfl) (fun Y hX hQ => ?_)
  refine j_lv (lv' := [(0, .ref (gsk G s)), (1, .int x1)]) rfl ?_
  have hE := hX.2.2.2.2.2.2.2.1.2.2.2.2.2.1 s hi
  obtain ⟨hl1, -, hl3⟩ := len_all s hi
  obtain ⟨g1, g2, g3⟩ := inb_lt (by omega) hx
  have hb := chr_all s hi ((ESbyt.getD s []).getD x1.toNatClampNeg 0) (gdm (by omega))
  refine j_aload_n hX dJ0_charAt_5068e_0 1 rfl 0 rfl rfl ?_
  refine zO_i (As := []) (rest := []) hX dJ0_charAt_5068e_1 4 rfl (t_J0_isLatin1 hi) mc_J0_isLatin1_aae02 mv_J0_isLatin1_aae02 ml_J0_492 (strO hX hi) (Nat.le_of_ble_eq_true rfl) (Nat.le_refl _) (Nat.le_refl _) rfl (Nat.le_of_ble_eq_true rfl) ?_
  refine j_if_eq hX dJ0_charAt_5068e_4 7 16 rfl rfl (fun h => absurd h (by decide)) (fun _ => ?_)
  refine j_aload_n hX dJ0_charAt_5068e_7 8 rfl 0 rfl rfl ?_
  refine j_sget hX dJ0_charAt_5068e_8 11 rfl hE.2.2.1 fs_9 ?_
  refine j_iload_n hX dJ0_charAt_5068e_11 12 rfl 1 rfl rfl ?_
  refine z_si (As := [.ref (gsv G s), .int x1]) (rest := []) hX dJ0_charAt_5068e_12 15 rfl (t_J1_charAt s x1 hi hx) mc_J1_charAt_3b067 ms_J1_charAt_3b067 ml_J0_495 (Nat.le_of_ble_eq_true rfl) (Nat.le_refl _) (Nat.le_refl _) rfl (Nat.le_of_ble_eq_true rfl) ?_
  exact j_nret hX hQ hb.2 dJ0_charAt_5068e_15
end SD
