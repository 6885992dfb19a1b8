/-! a method that throws: its contract, the throw itself, a throw that goes on to the caller -/
def xNS : String := "java/util/NoSuchElementException"
def xIA : String := "java/lang/IllegalArgumentException"
def xY : String := "java/lang/RuntimeException"
def xch : List String := ["java/lang/Exception"]
def XCt (G : GT) (ws' : va_W) (E : String) : String → State → State → Prop := vx_X (fun _ : Unit => True) (fun E' _ t => E' = E ∧ PO G ws' () t) (gA G)
def XQi (G : GT) : Array Value → State → Outcome → State → Prop := va_Qi (fun (_ : Int32) (_ : Unit) => False) (fun _ _ => True) (gA G)
def XQv (G : GT) : Array Value → State → Outcome → State → Prop := va_Qv (fun (_ : Unit) => False) (fun _ _ => True) (gA G)
def XQ (G : GT) (ret : Option FieldType) : Array Value → State → Outcome → State → Prop := match ret with
  | none => XQv G
  | some _ => XQi G
def Xt (l : Launch) (G : GT) (d mc ms : Nat) (y : MethodName) (cc : ByteArray) (nL : Nat) (ret : Option FieldType) (av : List Value) (ws ws' : va_W) (E : String) : Prop :=
  vx_Met l y (.code y cc nL ret :: TW) (rmD d mc ms) (va_Pc av (PRE l G ws)) (XQ G ret) (XCt G ws' E) mc ms (gA G)
def EQx (G : GT) (Y : YT) (mc ms : Nat) (ws' : va_W) (E : String) : Prop := (∀ x ∈ (yc Y).exceptionTable.toList, False) ∧ ∃ Qc, yQ Y = vx_MQ (yb Y) Qc (XCt G ws' E) (ya Y) (ys Y) mc ms (gA G)
section JX
variable {l : Launch} {G : GT} {d mc ms : Nat} {y : MethodName} {cc : ByteArray} {nL : Nat} {ret : Option FieldType} {av : List Value} {ws ws' : va_W} {E : String}
theorem Xt.of (hy : plainName y.cls = true) (hlen : (lg_sl av).length ≤ nL) (body : ∀ Y : YT, CX l G cc nL y.cls Y → EQx G Y mc ms ws' E → J l G (rmD d mc ms) Y 0 0 0 (lv_args 0 av) [] ws) : Xt l G d mc ms y cc nL ret av ws ws' E := by
  refine vx_ofW (cc := cc) (maxL := nL) (ret := ret) hy rfl ?_
  intro p e s m args below meth c s₁ B hml htab hv
  obtain ⟨rfl, hB, hP, hD, hK, hE⟩ := hv
  have hts := atoms_spec (ws := .code y cc nL ret :: TW) B.pre
  have hown : s.vm.findClass y.cls = some m.cls := findClass_of_methodNamed B.named
  have hl := lv_entry av (n := nL) hlen
  rw [lg_entry_eq]
  exact body (p, e, s, m, av.toArray, below, meth, c, _) ⟨B.exec, B.bytes, hml, hown, fun w hw => hts w (List.mem_cons_of_mem _ hw), hK, hB, hE, B.notSynchronized⟩ ⟨htab, _, rfl⟩ s.heap [] _ (by show lv_has _ c.maxLocals _; rw [hml]; exact hl) hP hD va_S.rf
end JX
/-- the words of a throw of E by the class own: class index ik, constructor index ic; its constructor's own bytes -/
def TH (own : String) (ik ic : Nat) (E : String) (ix : Nat) (bx : ByteArray) : Prop := (Cond.classLink own ik E ∈ TW ∧ Cond.initialized E ∈ TW) ∧ (∀ w ∈ (nx_at own ic E xY xch ix bx).filter goodWord, w ∈ TW) ∧ (∀ w ∈ (nx_at own ic E xY xch ix bx).filter (fun w => !goodWord w), w ∈ EWL) ∧ (∀ w ∈ Cond.classLink own ik E :: Cond.initialized E :: nx_at own ic E xY xch ix bx, vx_ot w = true) ∧ Bundle.fit E = true ∧ (decode bx 0 = .ok (.aload_n 0, 1) ∧ decode bx 1 = .ok (.aload_n 1, 1) ∧ decode bx 2 = .ok (.invokespecial ix, 3) ∧ decode bx 5 = .ok (.return_, 1))
theorem fit_xch : ∀ n ∈ xch, Bundle.fit n = true := by decide +kernel
theorem fit_xY : Bundle.fit xY = true := by decide +kernel
section JY
variable {l : Launch} {G : GT} {Y : YT} {pc : Nat} {lv : List (Nat × Value)} {st rest As : List Value} {ws ws' : va_W} {cc : ByteArray} {nL : Nat} {own : String} {d d' idx maxL : Nat} {y : MethodName} {bytes : ByteArray} {E : String} {ik ic is si ix : Nat} {bx : ByteArray} {tx : String}
theorem TH.hat (hX : CX l G cc nL own Y) (hT : TH own ik ic E ix bx) : ∀ w ∈ nx_at own ic E xY xch ix bx, w.before (ya Y) (ys Y) = true :=
  vx_hat (B := EWL) (fun w hw => hX.2.2.2.2.1 _ (hT.2.1 w hw)) hT.2.2.1 (fun w hw => by
    have h := hX.2.2.2.2.2.2.2.1.2.1 w hw
    have he := (List.mem_filter.mp hw).2
    cases w <;> first | exact va_tabs rfl rfl h | (simp [evw] at he; done))
theorem jx_hx {H : Heap} {locs : List Loc} (b : va_P (gD G) vwCl ws H) (c : va_D (gA G) ws) (e : va_S (gA G) (ys Y).heap H locs) : ∀ t : State, (ys Y).vm.Alike t.vm → H.size ≤ t.heap.size → (∀ q : Nat, q < H.size → t.heap[q]? = H[q]?) → XCt G ws E E (ys Y) t := by
  intro t _ h1 h2
  refine ⟨(), trivial, ⟨rfl, fun k q hk => (b k q hk).kept (h2 _ (b k q hk).lt), c⟩, Nat.le_trans e.1 h1, fun q hq hA => ?_⟩
  rw [h2 q (Nat.lt_of_lt_of_le hq e.1)]
  exact e.2.1 q hq hA
theorem jx_throw (hX : CX l G cc nL own Y) (hQ : EQx G Y 1 6 ws E) (hT : TH own ik ic E ix bx) (hm : (own, is, tx, si) ∈ ESL) (d0 : decode cc pc = .ok (.new ik, 3)) (d3 : decode cc (pc + 3) = .ok (.dup, 1)) (d4 : decode cc (pc + 4) = .ok (.ldc is, 2)) (d6 : decode cc (pc + 6) = .ok (.invokespecial ic, 3)) (d9 : decode cc (pc + 9) = .ok (.athrow, 1)) (hd : 6 ≤ d) (hW : (st.map fun v => v.category).sum ≤ 8) : J l G (rmD d 1 6) Y 0 0 pc lv st ws := by
  intro H locs ls a b c e
  obtain ⟨htab, Qc, hQ⟩ := hQ
  rw [hQ]
  have hw := hX.2.2.2.2.1
  have hE := hX.2.2.2.2.2.2.2.1
  refine nx_throwS hX.1 hX.2.1 hE.1 hX.2.2.2.1 hT.2.2.2.2.1 fit_xY fit_xch hT.2.2.2.2.2.1 hT.2.2.2.2.2.2.1 hT.2.2.2.2.2.2.2.1 hT.2.2.2.2.2.2.2.2 (hw _ hT.1.1) (hw _ hT.1.2) (hE.2.2.2.2.1 _ hm) (hT.hat hX) hT.2.2.2.1 hE.2.2.1 hE.2.2.2.1 e a.1 d0 d3 d4 d6 d9 (fun x hx => absurd hx (htab x)) ?_ ?_ (Nat.le_refl _) (Nat.le_refl _) hX.2.2.2.2.2.2.2.2 (jx_hx b c e) e.2.2 (Nat.le_refl _) (Nat.le_refl _)
  · show (1 + 1) + 3 < d
    omega
  · show _ + (13 * ((1 + 1) + 1) + 43) ≤ 64 * d
    omega
theorem jx_throwW (hX : CX l G cc nL own Y) (hQ : EQx G Y 1 6 ws E) (hT : TH own ik ic E ix bx) (hm : (own, is, tx, si) ∈ ESL) (d0 : decode cc pc = .ok (.new ik, 3)) (d3 : decode cc (pc + 3) = .ok (.dup, 1)) (d4 : decode cc (pc + 4) = .ok (.ldc_w is, 3)) (d7 : decode cc (pc + 7) = .ok (.invokespecial ic, 3)) (d10 : decode cc (pc + 10) = .ok (.athrow, 1)) (hd : 6 ≤ d) (hW : (st.map fun v => v.category).sum ≤ 8) : J l G (rmD d 1 6) Y 0 0 pc lv st ws := by
  intro H locs ls a b c e
  obtain ⟨htab, Qc, hQ⟩ := hQ
  rw [hQ]
  have hw := hX.2.2.2.2.1
  have hE := hX.2.2.2.2.2.2.2.1
  refine nx_throwSW hX.1 hX.2.1 hE.1 hX.2.2.2.1 hT.2.2.2.2.1 fit_xY fit_xch hT.2.2.2.2.2.1 hT.2.2.2.2.2.2.1 hT.2.2.2.2.2.2.2.1 hT.2.2.2.2.2.2.2.2 (hw _ hT.1.1) (hw _ hT.1.2) (hE.2.2.2.2.1 _ hm) (hT.hat hX) hT.2.2.2.1 hE.2.2.1 hE.2.2.2.1 e a.1 d0 d3 d4 d7 d10 (fun x hx => absurd hx (htab x)) ?_ ?_ (Nat.le_refl _) (Nat.le_refl _) hX.2.2.2.2.2.2.2.2 (jx_hx b c e) e.2.2 (Nat.le_refl _) (Nat.le_refl _)
  · show (1 + 1) + 3 < d
    omega
  · show _ + (13 * ((1 + 1) + 1) + 43) ≤ 64 * d
    omega
/-- a void callee throws: so does this method -/
theorem jx_prop {a q0 ci N : Nat} {T : u_T} {fs : List Value} (hX : CX l G cc nL own Y) (hQ : EQx G Y 1 6 ws' E) (dd : decode cc pc = .ok (.invokevirtual idx, 3)) (hC : Xt l G d' 1 6 y bytes maxL none (.ref a :: As) ws ws' E) (hm : MC y bytes maxL none As.length) (hv : MV y) (hl : Cond.methodLink own idx y ∈ TW) (he : ws[q0]? = some (a, .inr (ci, fs))) (hc : vwCl[ci]? = some (y.cls, T, N)) (hd : d' + 1 ≤ d) (hst : st = As.reverse ++ .ref a :: rest) (hW : (rest.map fun v => v.category).sum ≤ 8) : J l G (rmD d 1 6) Y 0 0 pc lv st ws := by
  intro H locs ls a0 b c e
  subst hst
  obtain ⟨htab, Qc, hQ⟩ := hQ
  rw [hQ]
  refine vx_callv (vx_runV (As := As) (rest := rest) (b := a) (C := y.cls) (n := As.length) (nL := nL) (g := F0 (ym Y) pc ls (As.reverse ++ .ref a :: rest)) ⟨hX.1, hX.2.1, hX.2.2.1, hX.2.2.2.1, hX.2.2.2.2.1⟩ hC ⟨cB (R := rmD d 1 6) hX hm hl hd, hX.2.2.2.2.1 _ hv.1, hX.2.2.2.2.1 _ hv.2⟩ ⟨PRE.blind, va_recv hX.2.2.2.2.2.1 b hc he, fun U hU hW9 => ⟨rfl, PRE.at hX b c e hU hW9⟩⟩ rfl rfl (a0.1.trans hX.2.2.1) rfl ?_ dd ⟨Nat.le_refl _, Nat.le_refl _⟩) e (fun _ _ h => h) (fun _ h => h) (fun _ _ h => h) (fun E9 ce q9 u t H1 locs1 ht hvm _ hB hz hk hS hce hcv hcl => ?_) (fun u t H1 locs1 ht hvm hpo => absurd hpo id)
  · show 2 * 0 + _ ≤ 8
    omega
  · obtain ⟨rfl, hP1, hD1⟩ := hB
    refine vx_out (fun x hx => absurd hx (htab x)) hX.2.2.2.2.2.2.2.2 hce hcv hcl (fun t9 ht9 hv9 => ?_) hS.2.2 (Nat.le_refl _) (Nat.le_refl _)
    rw [ht] at hP1
    exact ⟨(), trivial, ⟨rfl, by rw [ht9]; exact hP1, hD1⟩, hS.F ht9⟩
end JY
def orx {α β : Type} (o : Option α) (k : α → Option β) (e : Option β) : Option β := match o with
  | some a => k a
  | none => e
theorem orx_c {α β : Type} {o : Option α} {k : α → Option β} {e : Option β} {r : β} (h : orx o k e = some r) : (∃ a, o = some a ∧ k a = some r) ∨ e = some r := by
  cases o with
  | none => exact Or.inr h
  | some a => exact Or.inl ⟨a, rfl, h⟩
set_option maxRecDepth 20000 in
theorem th_NS : TH RX10 84 88 xNS 13 prog_25_method_4_code := ⟨⟨inTW 403 (by decide +kernel) rfl, inTW 84 (by decide +kernel) rfl⟩, by decide +kernel, by decide +kernel, by decide +kernel, by decide +kernel, by decide +kernel⟩
set_option maxRecDepth 20000 in
theorem th_IA : TH RX10 108 112 xIA 7 prog_16_method_2_code := ⟨⟨inTW 511 (by decide +kernel) rfl, inTW 85 (by decide +kernel) rfl⟩, by decide +kernel, by decide +kernel, by decide +kernel, by decide +kernel, by decide +kernel⟩
