abbrev SB : Type := (Nat → Int32) × (Nat → Int32) × (Nat → Int32) × (Nat → Int32) × (Nat → Int32) × (Nat → Int32) × (Nat → Int32) × (Nat → Int32) × (Int32) × (Nat → Int32) × (Nat → Int32) × (Nat → Int32) × (Int32) × (Nat → Int32) × (Int32) × (Int32) × (Int32) × (Int32) × (Int32) × (Nat → Int32) × (Nat → Int32) × (Nat → Int32) × (Int32) × (Nat → Int32) × (Nat → Int32) × (Int32) × (Nat → Int32) × (Int32) × (Int32) × (Int32) × (Int32) × (Int32) × (Nat → Int32) × (Nat → Int32) × (Int32) × (Int32) × (Int32) × (Int32) × (Int32) × (Nat → Int32) × (Nat → Int32) × (Int32) × (Int32) × (Nat) × (Nat → Nat) × (Nat → Nat → Int32) × (Nat → Int32)
abbrev SM : Type := (Int32) × (Int32) × (Int32) × (Int32) × (Int32) × (Int32) × (Int32) × (Nat → Int32) × (Nat → Int32) × (Nat → Int32) × (Nat → Int32) × (Nat → Int32) × (Nat → Int32) × (Nat → Int32) × (Nat → Int32) × (Nat → Int32) × (Nat → Int32) × (Nat → Int32) × (Nat → Int32) × (Nat → Int32) × (Nat → Int32) × (Nat → Int32) × (Nat → Int32) × (Nat → Int32) × (Nat → Int32) × (Nat → Int32) × (Int32) × (Int32) × (Int32) × (Int32) × (Int32) × (Int32) × (Int32) × (Int32) × (Int32) × (Int32) × (Nat → Int32) × (Nat → Int32) × (Nat → Int32) × (Nat → Int32) × (Nat → Int32) × (Nat → Int32)
abbrev RM : Room := rmD 1000 601024 7293034
theorem perm_m {A B M : va_W} {o : Nat × va_E} : (o :: (A ++ (B ++ (M ++ [])))).Perm (M ++ (o :: (A ++ B))) := by
  rw [List.append_nil]
  have h : (o :: (A ++ (B ++ M))).Perm ((o :: (A ++ B)) ++ M) := by rw [List.cons_append, List.append_assoc]
  exact h.trans List.perm_append_comm
def bz (v : Int32) : Int32 := if v = 0 then 0 else 1
theorem updL_0 (fo : Nat → Int64) (v : Int64) : vp_updL fo (Int32.toNatClampNeg 0) v (Int32.toNatClampNeg 0) = v := by simp [vp_updL]
theorem lgc_self (x : Int64) : lg_cmp x x = 0 := by simp [lg_cmp]
def MCW (y : MethodName) (bytes : ByteArray) (maxL : Nat) (hh : List (Nat × Nat × Nat × Nat)) (n : Nat) : Prop :=
  Cond.codeWith y bytes maxL (some .int) hh ∈ TW ∧ Cond.initialized y.cls ∈ TW ∧ (y.cls ≠ "java/lang/invoke/MethodHandle" ∧ y.cls ≠ "java/lang/invoke/VarHandle" ∧ (parseMethodDescriptor y.desc).map (fun d => d.parameters.length) = some n) ∧ maxL ≤ 40
section JL
variable {l : Launch} {G : GT} {Y : YT} {cells slots pc : Nat} {lv : List (Nat × Value)} {st rest As : List Value} {ws : va_W} {ws' : Nat × Nat → va_W} {cc : ByteArray} {nL : Nat} {own : String} {d d' mc ms mR sR idx maxL : Nat} {y : MethodName} {bytes : ByteArray} {R : Room} {b L n j : Nat} {xs : Nat → Int32}
theorem jS_h {hh : List (Nat × Nat × Nat × Nat)} {r : Int32} (hX : CX l G cc nL own Y) (dd : decode cc pc = .ok (.invokestatic idx, 3)) (pn : Nat) (hp : pc + 3 = pn) (hC : Ch l G d' mc ms y bytes maxL hh As ws r ws') (hm : MCW y bytes maxL hh As.length) (hv : Cond.static y ∈ TW) (hl : Cond.methodLink own idx y ∈ TW) (hd : d' + 1 ≤ d) (hr1 : cells + mc ≤ mR) (hr2 : slots + ms ≤ sR) (hst : st = As.reverse ++ rest) (hW : (rest.map fun v => v.category).sum ≤ 8) (kk : ∀ u, J l G (rmD d mR sR) Y (cells + mc) (slots + ms) pn lv (.int r :: rest) (ws' u)) : J l G (rmD d mR sR) Y cells slots pc lv st ws := by
  intro H locs ls a0 b c e
  subst hst
  have hw := hX.2.2.2.2.1
  obtain ⟨h1, h2, h3, h4⟩ := hm
  have cw : vx_CSW (rmD d mR sR) (ys Y) (ya Y) own idx y bytes maxL (some .int) hh (.codeWith y bytes maxL (some .int) hh :: TW) (rmD d' mc ms) mc ms As.length := by
    refine ⟨⟨rfl, rfl, hd, ?_, pay_in hw (goodTWc h1), List.mem_cons_self⟩, hw _ h1, hw _ h2, ⟨h3.1, h3.2.1⟩, fun sig h => ?_, hw _ hl, hw _ hv⟩
    · show 8 + (maxL + 11) + 64 * d' ≤ 64 * d
      omega
    · have h2 := h3.2.2
      rw [h] at h2
      exact (Option.some.inj h2).symm
  refine va_calli (vx_runSW (As := As) (rest := rest) (n := As.length) (nL := nL) (g := F0 (ym Y) pc ls (As.reverse ++ rest)) ⟨hX.1, hX.2.1, hX.2.2.1, hX.2.2.2.1, hw⟩ hC cw ⟨PRE.blind, fun U hU hW9 => ⟨rfl, PRE.at hX b c e hU hW9⟩⟩ rfl rfl (a0.1.trans hX.2.2.1) rfl ?_ dd ⟨hr1, hr2⟩) e (fun _ _ h => h) (fun _ h => h) (fun r1 u t H1 locs1 ht hvm hpo hB hz hk hS => ?_)
  · show 2 * 0 + _ ≤ 8
    omega
  · subst hpo
    rw [hp]
    rw [← ht] at hS ⊢
    exact kk u t.heap locs1 ls a0 hB.1 hB.2 hS
theorem j_slen (hX : CX l G cc nL own Y) (hx : va_X b L xs (ys Y) (ys Y).heap) (hb : b < gB G) (dd : decode cc pc = .ok (.arraylength, 1)) (pn : Nat) (hp : pc + 1 = pn) (kk : J l G R Y cells slots pn lv (.int (Int32.ofNat L) :: st) ws) : J l G R Y cells slots pc lv (.ref b :: st) ws := by
  intro H locs ls a0 b1 c e
  have hB : gB G ≤ (ys Y).heap.size := hX.2.2.2.2.2.2.1
  refine va_slen hX.1 hX.2.1 hx (Nat.lt_of_lt_of_le hb hB) (Nat.not_le.mpr hb) e dd ?_
  rw [hp]
  exact kk H locs ls a0 b1 c e
theorem j_sld (hX : CX l G cc nL own Y) (hx : va_X b L xs (ys Y) (ys Y).heap) (hb : b < gB G) (hn : n < L) (hL : L < 2 ^ 31) (dd : decode cc pc = .ok (.iaload, 1)) (pn : Nat) (hp : pc + 1 = pn) (kk : J l G R Y cells slots pn lv (.int (xs n) :: st) ws) : J l G R Y cells slots pc lv (.int (nI n) :: .ref b :: st) ws := by
  intro H locs ls a0 b1 c e
  have hB : gB G ≤ (ys Y).heap.size := hX.2.2.2.2.2.2.1
  have hcl : (nI n).toNatClampNeg = n := nI_clamp (by omega)
  refine va_sld hX.1 hX.2.1 hx (Nat.lt_of_lt_of_le hb hB) (Nat.not_le.mpr hb) e (vp_in_nI hn hL) dd ?_
  rw [hp, hcl]
  exact kk H locs ls a0 b1 c e
theorem nI_addj {z : Int} (hz : Int32.ofInt z = nI j) : nI n + Int32.ofInt z = nI (n + j) := by
  rw [hz]
  unfold nI
  exact (Int32.ofNat_add n j).symm
theorem j_rd {z : Int} (hX : CX l G cc nL own Y) (hx : va_X b L xs (ys Y) (ys Y).heap) (hb : b < gB G) (hL : L < 2 ^ 31) (d1 : decode cc pc = .ok (.aload_n 0, 1)) (d2 : decode cc (pc + 1) = .ok (.iload 4, 2)) (d3 : decode cc (pc + 3) = .ok (.iconst z, 1)) (d4 : decode cc (pc + 4) = .ok (.iadd, 1)) (d5 : decode cc (pc + 5) = .ok (.iaload, 1)) (pn : Nat) (hp : pc + 6 = pn) (j : Nat) (hz : Int32.ofInt z = nI j) (hn : n + j < L) (k0 k4 : Nat) (h0 : lv[k0]? = some (0, .ref b)) (h4 : lv[k4]? = some (4, .int (nI n))) (kk : J l G R Y cells slots pn lv (.int (xs (n + j)) :: st) ws) : J l G R Y cells slots pc lv st ws := by
  refine j_aload_n hX d1 (pc + 1) rfl k0 h0 rfl ?_
  refine j_iload hX d2 (pc + 3) rfl k4 h4 ?_
  refine j_iconst hX d3 (pc + 4) rfl rfl ?_
  refine j_iadd hX d4 (pc + 5) rfl ?_
  rw [nI_addj hz]
  exact j_sld hX hx hb hn hL d5 pn hp kk
theorem j_bz {v : Int32} {o1 o2 : Int} (hX : CX l G cc nL own Y) (t e0 pn : Nat) (d1 : decode cc pc = .ok (.ifCond .eq o1, 3)) (d2 : decode cc (pc + 3) = .ok (.iconst 1, 1)) (d3 : decode cc (pc + 4) = .ok (.goto o2, 3)) (d4 : decode cc t = .ok (.iconst 0, 1)) (h1 : (pc : Int) + o1 = (t : Int)) (h2 : ((pc + 4 : Nat) : Int) + o2 = (pn : Int)) (h3 : t + 1 = pn) (kk : J l G R Y cells slots pn lv (.int (bz v) :: st) ws) : J l G R Y cells slots pc lv (.int v :: st) ws := by
  unfold bz at kk
  refine j_if_eq hX d1 (pc + 3) t rfl h1 (fun h => ?_) (fun h => ?_)
  · rw [if_pos h] at kk
    exact j_iconst hX d4 pn h3 (by decide) kk
  · rw [if_neg h] at kk
    refine j_iconst (v := 1) hX d2 (pc + 4) rfl (by decide) ?_
    exact j_goto hX d3 pn h2 kk
end JL
theorem mcw_L_parent : MCW yL_parent cL_parent 7 [(0, 21, 24, 13)] 6 := ⟨inTW 389 (by decide +kernel) rfl, inTW 69 (by decide +kernel) rfl, by decide +kernel, by decide⟩
theorem mcw_L_grant : MCW yL_grant cL_grant 6 [(0, 12, 15, 13)] 5 := ⟨inTW 492 (by decide +kernel) rfl, inTW 69 (by decide +kernel) rfl, by decide +kernel, by decide⟩
theorem mcw_L_text : MCW yL_text cL_text 5 [(0, 10, 13, 23)] 4 := ⟨inTW 504 (by decide +kernel) rfl, inTW 69 (by decide +kernel) rfl, by decide +kernel, by decide⟩
theorem mcw_L_about : MCW yL_about cL_about 5 [(0, 10, 13, 13)] 4 := ⟨inTW 725 (by decide +kernel) rfl, inTW 69 (by decide +kernel) rfl, by decide +kernel, by decide⟩
theorem mcw_L_bears : MCW yL_bears cL_bears 6 [(0, 12, 15, 13)] 5 := ⟨inTW 768 (by decide +kernel) rfl, inTW 69 (by decide +kernel) rfl, by decide +kernel, by decide⟩
theorem mcw_L_mark : MCW yL_mark cL_mark 6 [(0, 12, 15, 13)] 5 := ⟨inTW 828 (by decide +kernel) rfl, inTW 69 (by decide +kernel) rfl, by decide +kernel, by decide⟩
theorem mcw_L_head : MCW yL_head cL_head 5 [(0, 10, 13, 13)] 4 := ⟨inTW 840 (by decide +kernel) rfl, inTW 69 (by decide +kernel) rfl, by decide +kernel, by decide⟩
theorem mcw_L_quarter : MCW yL_quarter cL_quarter 6 [(0, 12, 15, 13)] 5 := ⟨inTW 856 (by decide +kernel) rfl, inTW 69 (by decide +kernel) rfl, by decide +kernel, by decide⟩
theorem mcw_L_claim : MCW yL_claim cL_claim 6 [(0, 12, 15, 13)] 5 := ⟨inTW 903 (by decide +kernel) rfl, inTW 69 (by decide +kernel) rfl, by decide +kernel, by decide⟩
theorem mcw_L_fee : MCW yL_fee cL_fee 5 [(0, 10, 13, 13)] 4 := ⟨inTW 953 (by decide +kernel) rfl, inTW 69 (by decide +kernel) rfl, by decide +kernel, by decide⟩
theorem mcw_L_rivals : MCW yL_rivals cL_rivals 5 [(0, 10, 13, 13)] 4 := ⟨inTW 960 (by decide +kernel) rfl, inTW 69 (by decide +kernel) rfl, by decide +kernel, by decide⟩
theorem mcw_L_common : MCW yL_common cL_common 5 [(0, 10, 13, 13)] 4 := ⟨inTW 967 (by decide +kernel) rfl, inTW 69 (by decide +kernel) rfl, by decide +kernel, by decide⟩
theorem mcw_L_of : MCW yL_of cL_of 5 [(0, 10, 13, 13)] 4 := ⟨inTW 975 (by decide +kernel) rfl, inTW 69 (by decide +kernel) rfl, by decide +kernel, by decide⟩
theorem mcw_L_count : MCW yL_count cL_count 4 [(0, 9, 12, 13)] 3 := ⟨inTW 1022 (by decide +kernel) rfl, inTW 69 (by decide +kernel) rfl, by decide +kernel, by decide⟩
