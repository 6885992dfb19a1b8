section J0
variable {l : Launch} {G : GT} {Y : YT} {cells slots pc : Nat} {lv : List (Nat × Value)} {st rest As : List Value} {ws ws' : va_W} {cc : ByteArray} {nL : Nat} {own : String} {d d' mR sR idx maxL : Nat} {y : MethodName} {bytes : ByteArray} {ty : FieldType}
theorem j_lv {R : Room} {lv' : List (Nat × Value)} (h : lv = lv') (k : J l G R Y cells slots pc lv' st ws) : J l G R Y cells slots pc lv st ws := by
  subst h
  exact k
theorem z_i {a q0 ci N : Nat} {T : u_T} {fs : List Value} {r : Int32} (hX : CX l G cc nL own Y) (dd : decode cc pc = .ok (.invokevirtual idx, 3)) (pn : Nat) (hp : pc + 3 = pn) (hC : Ci l G d' 0 0 y bytes maxL ty (.ref a :: As) ws r ws') (hm : MC y bytes maxL (some ty) As.length) (hv : MV y) (hl : Cond.methodLink own idx y ∈ TW) (he : ws[q0]? = some (a, .inr (ci, fs))) (hc : vwCl[ci]? = some (y.cls, T, N)) (hd : d' + 1 ≤ d) (hr1 : cells ≤ mR) (hr2 : slots ≤ sR) (hst : st = As.reverse ++ .ref a :: rest) (hW : (rest.map fun v => v.category).sum ≤ 8) (kk : J l G (rmD d mR sR) Y cells slots pn lv (.int r :: rest) ws') : J l G (rmD d mR sR) Y cells slots pc lv st ws :=
  jV_i hX dd pn hp hC hm hv hl he hc hd hr1 hr2 hst hW kk
theorem z_l {a q0 ci N : Nat} {T : u_T} {fs : List Value} {r : Int64} (hX : CX l G cc nL own Y) (dd : decode cc pc = .ok (.invokevirtual idx, 3)) (pn : Nat) (hp : pc + 3 = pn) (hC : Cl l G d' 0 0 y bytes maxL (.ref a :: As) ws r ws') (hm : MC y bytes maxL (some .long) As.length) (hv : MV y) (hl : Cond.methodLink own idx y ∈ TW) (he : ws[q0]? = some (a, .inr (ci, fs))) (hc : vwCl[ci]? = some (y.cls, T, N)) (hd : d' + 1 ≤ d) (hr1 : cells ≤ mR) (hr2 : slots ≤ sR) (hst : st = As.reverse ++ .ref a :: rest) (hW : (rest.map fun v => v.category).sum ≤ 8) (kk : J l G (rmD d mR sR) Y cells slots pn lv (.long r :: rest) ws') : J l G (rmD d mR sR) Y cells slots pc lv st ws :=
  jV_l hX dd pn hp hC hm hv hl he hc hd hr1 hr2 hst hW kk
theorem z_v {a q0 ci N : Nat} {T : u_T} {fs : List Value} (hX : CX l G cc nL own Y) (dd : decode cc pc = .ok (.invokevirtual idx, 3)) (pn : Nat) (hp : pc + 3 = pn) (hC : Cv l G d' 0 0 y bytes maxL (.ref a :: As) ws ws') (hm : MC y bytes maxL none As.length) (hv : MV y) (hl : Cond.methodLink own idx y ∈ TW) (he : ws[q0]? = some (a, .inr (ci, fs))) (hc : vwCl[ci]? = some (y.cls, T, N)) (hd : d' + 1 ≤ d) (hr1 : cells ≤ mR) (hr2 : slots ≤ sR) (hst : st = As.reverse ++ .ref a :: rest) (hW : (rest.map fun v => v.category).sum ≤ 8) (kk : J l G (rmD d mR sR) Y cells slots pn lv rest ws') : J l G (rmD d mR sR) Y cells slots pc lv st ws :=
  jV_v hX dd pn hp hC hm hv hl he hc hd hr1 hr2 hst hW kk
theorem z_si {r : Int32} (hX : CX l G cc nL own Y) (dd : decode cc pc = .ok (.invokestatic idx, 3)) (pn : Nat) (hp : pc + 3 = pn) (hC : Ci l G d' 0 0 y bytes maxL ty As ws r ws') (hm : MC y bytes maxL (some ty) As.length) (hv : Cond.static y ∈ TW) (hl : Cond.methodLink own idx y ∈ TW) (hd : d' + 1 ≤ d) (hr1 : cells ≤ mR) (hr2 : slots ≤ sR) (hst : st = As.reverse ++ rest) (hW : (rest.map fun v => v.category).sum ≤ 8) (kk : J l G (rmD d mR sR) Y cells slots pn lv (.int r :: rest) ws') : J l G (rmD d mR sR) Y cells slots pc lv st ws :=
  jS_i hX dd pn hp hC hm hv hl hd hr1 hr2 hst hW kk
theorem z_ni {r : Int32} {host : String} (hX : CX l G cc nL own Y) (dd : decode cc pc = .ok (.invokestatic idx, 3)) (pn : Nat) (hp : pc + 3 = pn) (hC : Ci l G d' 0 0 y bytes maxL ty As ws r ws') (hm : MC y bytes maxL (some ty) As.length) (hv : Cond.static y ∈ TW) (hl : Cond.methodLinkNest own idx y host ∈ EWL) (hd : d' + 1 ≤ d) (hr1 : cells ≤ mR) (hr2 : slots ≤ sR) (hst : st = As.reverse ++ rest) (hW : (rest.map fun v => v.category).sum ≤ 8) (kk : J l G (rmD d mR sR) Y cells slots pn lv (.int r :: rest) ws') : J l G (rmD d mR sR) Y cells slots pc lv st ws := by
  intro H locs ls a0 b c e
  subst hst
  have hw := hX.2.2.2.2.1
  refine va_calli (va_runSN (As := As) (rest := rest) (n := As.length) (nL := nL) (host := host) (g := F0 (ym Y) pc ls (As.reverse ++ rest)) ⟨hX.1, hX.2.1, hX.2.2.1, hX.2.2.2.1, hw⟩ hC ⟨va_cnB As.length hw (goodTWc hm.1) rfl rfl rfl (hX.2.2.2.2.2.2.2.1.2.1 _ hl) (hw _ hm.2.1) hm.2.2.1 ⟨hd, ?_⟩, hw _ hv, trivial⟩ ⟨PRE.blind, fun U hU hW9 => ⟨rfl, PRE.at hX b c e hU hW9⟩⟩ rfl rfl (a0.1.trans hX.2.2.1) rfl ?_ dd ⟨hr1, hr2⟩) e (fun _ _ h => h) (fun _ h => h) (fun r1 u t H1 locs1 ht hvm hpo hB hz hk hS => ?_)
  · have := hm.2.2.2
    show 8 + (maxL + 11) + 64 * d' ≤ 64 * d
    omega
  · show 2 * 0 + _ ≤ 8
    omega
  · subst hpo
    rw [hp]
    rw [← ht] at hS ⊢
    exact kk t.heap locs1 ls a0 hB.1 hB.2 hS
end J0
/-- a loop by its fuel -/
def lp {α R : Type} (g : (α → Option R) → α → Option R) : Nat → α → Option R
  | 0, _ => none
  | n + 1, a => g (lp g n) a
theorem lp_ind {α R : Type} {g : (α → Option R) → α → Option R} {r : R} {P : α → Prop} (h : ∀ k : α → Option R, (∀ a, k a = some r → P a) → ∀ a, g k a = some r → P a) : ∀ (n : Nat) (a : α), lp g n a = some r → P a := by
  intro n
  induction n with
  | zero => intro a hf; cases hf
  | succ n ih => intro a hf; exact h (lp g n) ih a hf
def tsel (pc : Nat) (dflt lo hi : Int) (offs : List Int) (x : Int) : Int := if x < lo ∨ hi < x then (pc : Int) + dflt else (pc : Int) + offs.getD (x - lo).toNat 0
theorem j_tab {l : Launch} {G : GT} {R : Room} {Y : YT} {cells slots pc : Nat} {lv : List (Nat × Value)} {st : List Value} {ws : va_W} {cc : ByteArray} {nL : Nat} {own : String} {dflt lo hi : Int} {offs : Array Int} {len : Nat} {x : Int32} (hX : CX l G cc nL own Y) (d : decode cc pc = .ok (.tableswitch dflt lo hi offs, len)) (hn : (hi - lo).toNat < offs.size) (tgt : Nat) (ht : tsel pc dflt lo hi offs.toList x.toInt = (tgt : Int)) (k : J l G R Y cells slots tgt lv st ws) : J l G R Y cells slots pc lv (.int x :: st) ws := by
  intro H locs ls a b c e
  unfold tsel at ht
  by_cases h : x.toInt < lo ∨ hi < x.toInt
  · rw [if_pos h] at ht
    exact lv_tableOut hX.1 hX.2.1 d h ht (k H locs ls a b c e)
  · rw [if_neg h] at ht
    have h1 : ¬ x.toInt < lo := fun z => h (Or.inl z)
    have h2 : ¬ hi < x.toInt := fun z => h (Or.inr z)
    have h3 : (x.toInt - lo).toNat < offs.size := by omega
    refine lv_tableIn hX.1 hX.2.1 d h1 h2 (off := offs.toList.getD (x.toInt - lo).toNat 0) ?_ ht (k H locs ls a b c e)
    rw [← Array.getElem?_toList, List.getD_eq_getElem?_getD, List.getElem?_eq_getElem (by simpa using h3)]
    rfl
theorem ne_ti {x : Int32} {n : Int32} {m : Int} (h : ¬ x = n) (hm : n.toInt = m) : x.toInt ≠ m := fun e => h (Int32.toInt_inj.mp (e.trans hm.symm))
