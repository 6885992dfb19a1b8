/-! Contracts in one form: any heap that holds ws; the answer; the world ws' behind it. -/
def rmD (d mc ms : Nat) : Room := { frames := d, cells := mc, slots := ms, locals := 64 * d }
def PRE (l : Launch) (G : GT) (ws : va_W) (U : State) : Prop := gB G ≤ U.heap.size ∧ va_P (gD G) vwCl ws U.heap ∧ va_D (gA G) ws ∧ va_K (gD G) vwCl (tyl (gct G)) U ∧ EV l G U
def PO (G : GT) (ws' : va_W) : Unit → State → Prop := fun _ t => va_P (gD G) vwCl ws' t.heap ∧ va_D (gA G) ws'
theorem PRE.blind {l : Launch} {G : GT} {ws : va_W} {av : List Value} : FrameBlind (va_Pc av (PRE l G ws)) := by
  intro a U g mk h
  obtain ⟨h0, h1, h2, h3, h4, h5⟩ := h
  exact ⟨h0, h1, h2, h3, va_K.moved (u := U) (U := U.calling g mk a) (Vm.Alike.refl U.vm) h4, EV.same h5 rfl rfl⟩
theorem PRE.at {l : Launch} {G : GT} {cc : ByteArray} {nL : Nat} {own : String} {Y : YT} {ws : va_W} {H : Heap} {locs : List Loc} (hX : CX l G cc nL own Y) (hP : va_P (gD G) vwCl ws H) (hD : va_D (gA G) ws) (hS : va_S (gA G) (ys Y).heap H locs) {U : State} (hU : U.heap = H) (hW : (ys Y).WarmedH U.vm) : PRE l G ws U := by
  have hB : gB G ≤ (ys Y).heap.size := hX.2.2.2.2.2.2.1
  refine ⟨?_, by rw [hU]; exact hP, hD, va_K.moved hW.alike hX.2.2.2.2.2.1, hX.2.2.2.2.2.2.2.1.to hB hW fun q hq => ?_⟩
  · rw [hU]; exact Nat.le_trans hB hS.1
  · rw [hU]; exact hS.2.1 q (Nat.lt_of_lt_of_le hq hB) (Nat.not_le.mpr hq)
def Ci (l : Launch) (G : GT) (d mc ms : Nat) (y : MethodName) (cc : ByteArray) (nL : Nat) (ty : FieldType) (av : List Value) (ws : va_W) (r : Int32) (ws' : va_W) : Prop :=
  Met l y (.code y cc nL (some ty) :: TW) (rmD d mc ms) (va_Pc av (PRE l G ws)) (va_Qi (fun (r' : Int32) (_ : Unit) => r' = r) (PO G ws') (gA G)) mc ms (gA G)
def Cl (l : Launch) (G : GT) (d mc ms : Nat) (y : MethodName) (cc : ByteArray) (nL : Nat) (av : List Value) (ws : va_W) (r : Int64) (ws' : va_W) : Prop :=
  Met l y (.code y cc nL (some .long) :: TW) (rmD d mc ms) (va_Pc av (PRE l G ws)) (va_Ql (fun (r' : Int64) (_ : Unit) => r' = r) (PO G ws') (gA G)) mc ms (gA G)
def Cv (l : Launch) (G : GT) (d mc ms : Nat) (y : MethodName) (cc : ByteArray) (nL : Nat) (av : List Value) (ws : va_W) (ws' : va_W) : Prop :=
  Met l y (.code y cc nL none :: TW) (rmD d mc ms) (va_Pc av (PRE l G ws)) (va_Qv (fun (_ : Unit) => True) (PO G ws') (gA G)) mc ms (gA G)
def EQi (G : GT) (Y : YT) (mc ms : Nat) (ty : FieldType) (r : Int32) (ws' : va_W) : Prop := (yt Y).sig.returnType = some ty ∧ yQ Y = MQ (yb Y) (va_Qi (fun (r' : Int32) (_ : Unit) => r' = r) (PO G ws') (gA G)) (ya Y) (ys Y) mc ms (gA G)
def EQl (G : GT) (Y : YT) (mc ms : Nat) (r : Int64) (ws' : va_W) : Prop := (yt Y).sig.returnType = some .long ∧ yQ Y = MQ (yb Y) (va_Ql (fun (r' : Int64) (_ : Unit) => r' = r) (PO G ws') (gA G)) (ya Y) (ys Y) mc ms (gA G)
def EQv (G : GT) (Y : YT) (mc ms : Nat) (ws' : va_W) : Prop := (yt Y).sig.returnType = none ∧ yQ Y = MQ (yb Y) (va_Qv (fun (_ : Unit) => True) (PO G ws') (gA G)) (ya Y) (ys Y) mc ms (gA G)
section JC
variable {l : Launch} {G : GT} {d mc ms : Nat} {y : MethodName} {cc : ByteArray} {nL : Nat} {ty : FieldType} {av : List Value} {ws ws' : va_W}
theorem Ci.of {r : Int32} (hy : plainName y.cls = true) (hlen : (lg_sl av).length ≤ nL) (body : ∀ Y : YT, CX l G cc nL y.cls Y → EQi G Y mc ms ty r ws' → J l G (rmD d mc ms) Y 0 0 0 (lv_args 0 av) [] ws) : Ci l G d mc ms y cc nL ty av ws r ws' := by
  refine Met.ofW (cc := cc) (maxL := nL) (ret := some ty) hy rfl ?_
  intro p e s m args below meth c s₁ B hml hv
  obtain ⟨rfl, hB, hP, hD, hK, hE⟩ := hv
  have hts := atoms_spec (ws := .code y cc nL (some ty) :: TW) B.pre
  have hown : s.vm.findClass y.cls = some m.cls := findClass_of_methodNamed B.named
  have hl := lv_entry av (n := nL) hlen
  rw [lg_entry_eq]
  exact body (p, e, s, m, av.toArray, below, meth, c, _) ⟨B.exec, B.bytes, hml, hown, fun w hw => hts w (List.mem_cons_of_mem _ hw), hK, hB, hE, B.notSynchronized⟩ ⟨B.returns, rfl⟩ s.heap [] _ (by show lv_has _ c.maxLocals _; rw [hml]; exact hl) hP hD va_S.rf
theorem Cl.of {r : Int64} (hy : plainName y.cls = true) (hlen : (lg_sl av).length ≤ nL) (body : ∀ Y : YT, CX l G cc nL y.cls Y → EQl G Y mc ms r ws' → J l G (rmD d mc ms) Y 0 0 0 (lv_args 0 av) [] ws) : Cl l G d mc ms y cc nL av ws r ws' := by
  refine Met.ofW (cc := cc) (maxL := nL) (ret := some .long) hy rfl ?_
  intro p e s m args below meth c s₁ B hml hv
  obtain ⟨rfl, hB, hP, hD, hK, hE⟩ := hv
  have hts := atoms_spec (ws := .code y cc nL (some .long) :: TW) B.pre
  have hown : s.vm.findClass y.cls = some m.cls := findClass_of_methodNamed B.named
  have hl := lv_entry av (n := nL) hlen
  rw [lg_entry_eq]
  exact body (p, e, s, m, av.toArray, below, meth, c, _) ⟨B.exec, B.bytes, hml, hown, fun w hw => hts w (List.mem_cons_of_mem _ hw), hK, hB, hE, B.notSynchronized⟩ ⟨B.returns, rfl⟩ s.heap [] _ (by show lv_has _ c.maxLocals _; rw [hml]; exact hl) hP hD va_S.rf
theorem Cv.of (hy : plainName y.cls = true) (hlen : (lg_sl av).length ≤ nL) (body : ∀ Y : YT, CX l G cc nL y.cls Y → EQv G Y mc ms ws' → J l G (rmD d mc ms) Y 0 0 0 (lv_args 0 av) [] ws) : Cv l G d mc ms y cc nL av ws ws' := by
  refine Met.ofW (cc := cc) (maxL := nL) (ret := none) hy rfl ?_
  intro p e s m args below meth c s₁ B hml hv
  obtain ⟨rfl, hB, hP, hD, hK, hE⟩ := hv
  have hts := atoms_spec (ws := .code y cc nL none :: TW) B.pre
  have hown : s.vm.findClass y.cls = some m.cls := findClass_of_methodNamed B.named
  have hl := lv_entry av (n := nL) hlen
  rw [lg_entry_eq]
  exact body (p, e, s, m, av.toArray, below, meth, c, _) ⟨B.exec, B.bytes, hml, hown, fun w hw => hts w (List.mem_cons_of_mem _ hw), hK, hB, hE, B.notSynchronized⟩ ⟨B.returns, rfl⟩ s.heap [] _ (by show lv_has _ c.maxLocals _; rw [hml]; exact hl) hP hD va_S.rf
end JC
def isB (v : Int32) : Bool := decide (v = 0) || decide (v = 1)
theorem isB_n {v : Int32} (h : isB v = true) : narrow .boolean (.int v) = .int v := by
  unfold isB at h
  simp at h
  rcases h with rfl | rfl <;> rfl
section JE
variable {l : Launch} {G : GT} {R : Room} {Y : YT} {cells slots pc : Nat} {lv : List (Nat × Value)} {st : List Value} {ws : va_W} {cc : ByteArray} {nL : Nat} {own : String}
theorem j_iret {r : Int32} (hX : CX l G cc nL own Y) (hQ : EQi G Y cells slots .int r ws) (d : decode cc pc = .ok (.ireturn, 1)) : J l G R Y cells slots pc lv [.int r] ws := by
  intro H locs ls a b c e
  rw [hQ.2]
  have hlk : (yt Y).locks = false := hX.2.2.2.2.2.2.2.2
  exact W.iret (v := r) hX.1 hX.2.1 hQ.1 (fun t ht hW => ⟨⟨r, (), rfl, rfl, by rw [ht]; exact b, c⟩, e.F ht⟩) e.2.2 d hlk
theorem j_zret {r : Int32} (hX : CX l G cc nL own Y) (hQ : EQi G Y cells slots .boolean r ws) (hb : isB r = true) (d : decode cc pc = .ok (.ireturn, 1)) : J l G R Y cells slots pc lv [.int r] ws := by
  intro H locs ls a b c e
  rw [hQ.2]
  have hlk : (yt Y).locks = false := hX.2.2.2.2.2.2.2.2
  exact W.zret (v := r) hX.1 hX.2.1 hQ.1 (isB_n hb) (fun t ht hW => ⟨⟨r, (), rfl, rfl, by rw [ht]; exact b, c⟩, e.F ht⟩) e.2.2 d hlk
theorem j_lret {r : Int64} (hX : CX l G cc nL own Y) (hQ : EQl G Y cells slots r ws) (d : decode cc pc = .ok (.lreturn, 1)) : J l G R Y cells slots pc lv [.long r] ws := by
  intro H locs ls a b c e
  rw [hQ.2]
  have hlk : (yt Y).locks = false := hX.2.2.2.2.2.2.2.2
  exact W.lret (v := r) hX.1 hX.2.1 hQ.1 (fun t ht hW => ⟨⟨r, (), rfl, rfl, by rw [ht]; exact b, c⟩, e.F ht⟩) e.2.2 d hlk
theorem j_vret (hX : CX l G cc nL own Y) (hQ : EQv G Y cells slots ws) (d : decode cc pc = .ok (.return_, 1)) : J l G R Y cells slots pc lv [] ws := by
  intro H locs ls a b c e
  rw [hQ.2]
  have hlk : (yt Y).locks = false := hX.2.2.2.2.2.2.2.2
  exact W.vret hX.1 hX.2.1 hQ.1 (fun t ht hW => ⟨⟨(), rfl, trivial, by rw [ht]; exact b, c⟩, e.F ht⟩) e.2.2 d hlk
end JE
theorem goodTW : GoodIn TW TW := fun w hw => ⟨hw, good_of_word (List.mem_filter.mp hw).2⟩
theorem goodTWc {w : Cond} (h : w ∈ TW) : GoodIn TW (w :: TW) := fun v hv => (List.mem_cons.mp hv).elim (fun e => by rw [e]; exact goodTW w h) (goodTW v)
def MC (y : MethodName) (bytes : ByteArray) (maxL : Nat) (ret : Option FieldType) (n : Nat) : Prop :=
  Cond.code y bytes maxL ret ∈ TW ∧ Cond.initialized y.cls ∈ TW ∧ (y.cls ≠ "java/lang/invoke/MethodHandle" ∧ y.cls ≠ "java/lang/invoke/VarHandle" ∧ (parseMethodDescriptor y.desc).map (fun d => d.parameters.length) = some n) ∧ maxL ≤ 40
def MV (y : MethodName) : Prop := Cond.instanceMethod y ∈ TW ∧ Cond.selects y.cls y y ∈ TW
section JK
variable {l : Launch} {G : GT} {Y : YT} {cells slots pc : Nat} {lv : List (Nat × Value)} {st rest As : List Value} {ws ws' : va_W} {cc : ByteArray} {nL : Nat} {own : String} {d d' mc ms mR sR idx maxL n : Nat} {y : MethodName} {bytes : ByteArray} {ty : FieldType}
theorem cB {ret : Option FieldType} {R : Room} (hX : CX l G cc nL own Y) (hm : MC y bytes maxL ret n) (hl : Cond.methodLink own idx y ∈ TW) (hd : d' + 1 ≤ d) : CallB (rmD d mR sR) (ys Y) (ya Y) own idx y bytes maxL ret (.code y bytes maxL ret :: TW) (rmD d' mc ms) mc ms n := by
  obtain ⟨h1, h2, h3, h4⟩ := hm
  refine callB_of n hX.2.2.2.2.1 (goodTWc h1) rfl rfl rfl (hX.2.2.2.2.1 _ h2) (hX.2.2.2.2.1 _ hl) h3 ⟨hd, ?_⟩
  show 8 + (maxL + 11) + 64 * d' ≤ 64 * d
  omega
theorem jV_i {a q0 ci N : Nat} {T : u_T} {fs : List Value} {r : Int32} (hX : CX l G cc nL own Y) (dd : decode cc pc = .ok (.invokevirtual idx, 3)) (pn : Nat) (hp : pc + 3 = pn) (hC : Ci l G d' mc ms y bytes maxL ty (.ref a :: As) ws r ws') (hm : MC y bytes maxL (some ty) As.length) (hv : MV y) (hl : Cond.methodLink own idx y ∈ TW) (he : ws[q0]? = some (a, .inr (ci, fs))) (hc : vwCl[ci]? = some (y.cls, T, N)) (hd : d' + 1 ≤ d) (hr1 : cells + mc ≤ mR) (hr2 : slots + ms ≤ sR) (hst : st = As.reverse ++ .ref a :: rest) (hW : (rest.map fun v => v.category).sum ≤ 8) (kk : J l G (rmD d mR sR) Y (cells + mc) (slots + ms) pn lv (.int r :: rest) ws') : J l G (rmD d mR sR) Y cells slots pc lv st ws := by
  intro H locs ls a0 b c e
  subst hst
  refine va_calli (va_runV (As := As) (rest := rest) (b := a) (C := y.cls) (n := As.length) (nL := nL) (g := F0 (ym Y) pc ls (As.reverse ++ .ref a :: rest)) ⟨hX.1, hX.2.1, hX.2.2.1, hX.2.2.2.1, hX.2.2.2.2.1⟩ hC ⟨cB (R := rmD d mR sR) hX hm hl hd, hX.2.2.2.2.1 _ hv.1, hX.2.2.2.2.1 _ hv.2⟩ ⟨PRE.blind, va_recv hX.2.2.2.2.2.1 b hc he, fun U hU hW9 => ⟨rfl, PRE.at hX b c e hU hW9⟩⟩ rfl rfl (a0.1.trans hX.2.2.1) rfl ?_ dd ⟨hr1, hr2⟩) e (fun _ _ h => h) (fun _ h => h) (fun r1 u t H1 locs1 ht hvm hpo hB hz hk hS => ?_)
  · show 2 * 0 + _ ≤ 8
    omega
  · subst hpo
    rw [hp]
    rw [← ht] at hS ⊢
    exact kk t.heap locs1 ls a0 hB.1 hB.2 hS
theorem jV_l {a q0 ci N : Nat} {T : u_T} {fs : List Value} {r : Int64} (hX : CX l G cc nL own Y) (dd : decode cc pc = .ok (.invokevirtual idx, 3)) (pn : Nat) (hp : pc + 3 = pn) (hC : Cl l G d' mc ms y bytes maxL (.ref a :: As) ws r ws') (hm : MC y bytes maxL (some .long) As.length) (hv : MV y) (hl : Cond.methodLink own idx y ∈ TW) (he : ws[q0]? = some (a, .inr (ci, fs))) (hc : vwCl[ci]? = some (y.cls, T, N)) (hd : d' + 1 ≤ d) (hr1 : cells + mc ≤ mR) (hr2 : slots + ms ≤ sR) (hst : st = As.reverse ++ .ref a :: rest) (hW : (rest.map fun v => v.category).sum ≤ 8) (kk : J l G (rmD d mR sR) Y (cells + mc) (slots + ms) pn lv (.long r :: rest) ws') : J l G (rmD d mR sR) Y cells slots pc lv st ws := by
  intro H locs ls a0 b c e
  subst hst
  refine va_calll (va_runV (As := As) (rest := rest) (b := a) (C := y.cls) (n := As.length) (nL := nL) (g := F0 (ym Y) pc ls (As.reverse ++ .ref a :: rest)) ⟨hX.1, hX.2.1, hX.2.2.1, hX.2.2.2.1, hX.2.2.2.2.1⟩ hC ⟨cB (R := rmD d mR sR) hX hm hl hd, hX.2.2.2.2.1 _ hv.1, hX.2.2.2.2.1 _ hv.2⟩ ⟨PRE.blind, va_recv hX.2.2.2.2.2.1 b hc he, fun U hU hW9 => ⟨rfl, PRE.at hX b c e hU hW9⟩⟩ rfl rfl (a0.1.trans hX.2.2.1) rfl ?_ dd ⟨hr1, hr2⟩) e (fun _ _ h => h) (fun _ h => h) (fun r1 u t H1 locs1 ht hvm hpo hB hz hk hS => ?_)
  · show 2 * 0 + _ ≤ 8
    omega
  · subst hpo
    rw [hp]
    rw [← ht] at hS ⊢
    exact kk t.heap locs1 ls a0 hB.1 hB.2 hS
theorem jV_v {a q0 ci N : Nat} {T : u_T} {fs : List Value} (hX : CX l G cc nL own Y) (dd : decode cc pc = .ok (.invokevirtual idx, 3)) (pn : Nat) (hp : pc + 3 = pn) (hC : Cv l G d' mc ms y bytes maxL (.ref a :: As) ws ws') (hm : MC y bytes maxL none As.length) (hv : MV y) (hl : Cond.methodLink own idx y ∈ TW) (he : ws[q0]? = some (a, .inr (ci, fs))) (hc : vwCl[ci]? = some (y.cls, T, N)) (hd : d' + 1 ≤ d) (hr1 : cells + mc ≤ mR) (hr2 : slots + ms ≤ sR) (hst : st = As.reverse ++ .ref a :: rest) (hW : (rest.map fun v => v.category).sum ≤ 8) (kk : J l G (rmD d mR sR) Y (cells + mc) (slots + ms) pn lv rest ws') : J l G (rmD d mR sR) Y cells slots pc lv st ws := by
  intro H locs ls a0 b c e
  subst hst
  refine va_callv (va_runV (As := As) (rest := rest) (b := a) (C := y.cls) (n := As.length) (nL := nL) (g := F0 (ym Y) pc ls (As.reverse ++ .ref a :: rest)) ⟨hX.1, hX.2.1, hX.2.2.1, hX.2.2.2.1, hX.2.2.2.2.1⟩ hC ⟨cB (R := rmD d mR sR) hX hm hl hd, hX.2.2.2.2.1 _ hv.1, hX.2.2.2.2.1 _ hv.2⟩ ⟨PRE.blind, va_recv hX.2.2.2.2.2.1 b hc he, fun U hU hW9 => ⟨rfl, PRE.at hX b c e hU hW9⟩⟩ rfl rfl (a0.1.trans hX.2.2.1) rfl ?_ dd ⟨hr1, hr2⟩) e (fun _ _ h => h) (fun _ h => h) (fun u t H1 locs1 ht hvm hpo hB hz hk hS => ?_)
  · show 2 * 0 + _ ≤ 8
    omega
  · rw [hp]
    rw [← ht] at hS ⊢
    exact kk t.heap locs1 ls a0 hB.1 hB.2 hS
theorem jS_i {r : Int32} (hX : CX l G cc nL own Y) (dd : decode cc pc = .ok (.invokestatic idx, 3)) (pn : Nat) (hp : pc + 3 = pn) (hC : Ci l G d' mc ms y bytes maxL ty As ws r ws') (hm : MC y bytes maxL (some ty) As.length) (hv : Cond.static y ∈ TW) (hl : Cond.methodLink own idx y ∈ TW) (hd : d' + 1 ≤ d) (hr1 : cells + mc ≤ mR) (hr2 : slots + ms ≤ sR) (hst : st = As.reverse ++ rest) (hW : (rest.map fun v => v.category).sum ≤ 8) (kk : J l G (rmD d mR sR) Y (cells + mc) (slots + ms) pn lv (.int r :: rest) ws') : J l G (rmD d mR sR) Y cells slots pc lv st ws := by
  intro H locs ls a0 b c e
  subst hst
  refine va_calli (va_runS (As := As) (rest := rest) (n := As.length) (nL := nL) (g := F0 (ym Y) pc ls (As.reverse ++ rest)) ⟨hX.1, hX.2.1, hX.2.2.1, hX.2.2.2.1, hX.2.2.2.2.1⟩ hC ⟨cB (R := rmD d mR sR) hX hm hl hd, hX.2.2.2.2.1 _ hv⟩ ⟨PRE.blind, fun U hU hW9 => ⟨rfl, PRE.at hX b c e hU hW9⟩⟩ rfl rfl (a0.1.trans hX.2.2.1) rfl ?_ dd ⟨hr1, hr2⟩) e (fun _ _ h => h) (fun _ h => h) (fun r1 u t H1 locs1 ht hvm hpo hB hz hk hS => ?_)
  · show 2 * 0 + _ ≤ 8
    omega
  · subst hpo
    rw [hp]
    rw [← ht] at hS ⊢
    exact kk t.heap locs1 ls a0 hB.1 hB.2 hS
end JK
theorem itt {α : Type} {c : Prop} [hd : Decidable c] {a b r : α} (h : c) (hf : (if c then a else b) = r) : a = r := by rw [if_pos h] at hf; exact hf
theorem itf {α : Type} {c : Prop} [hd : Decidable c] {a b r : α} (h : ¬ c) (hf : (if c then a else b) = r) : b = r := by rw [if_neg h] at hf; exact hf
theorem ign {α : Type} {b : Bool} {a : Option α} {r : α} (hf : (if b = true then a else none) = some r) : b = true ∧ a = some r := by
  cases b
  · cases hf
  · exact ⟨rfl, hf⟩
theorem ibd {α β : Type} {o : Option α} {k : α → Option β} {r : β} (hf : o.bind k = some r) : ∃ v, o = some v ∧ k v = some r := by
  cases o with
  | none => cases hf
  | some v => exact ⟨v, rfl, hf⟩
