def FNar : List Cond := flatC (Jvm.Cond.and given_1 narrow_1)
def ESst : List Nat := [37, 55, 84, 109, 119, 129, 136, 143, 149, 156, 165, 174, 182, 190, 200, 209, 219, 231, 275, 320, 336, 355, 371, 415, 452, 462, 472, 481, 490, 501, 511, 522, 535, 546, 557, 565, 573, 581]
def EStm (i : Nat) : Term := .string (ESL.getD i ("", 0, "", 0)).1 (ESL.getD i ("", 0, "", 0)).2.1
set_option maxRecDepth 100000 in
set_option maxHeartbeats 4000000 in
theorem es_head : ∀ i : Nat, i < 38 → FNar[ESst.getD i 0]? = some (.exactly (EStm i) "java/lang/String") ∧ FNar[ESst.getD i 0 + 1]? = some (.eq (.field (EStm i) "java/lang/String" "coder" "B") (.int 0)) ∧ FNar[ESst.getD i 0 + 2]? = some (.arrayOf (.field (EStm i) "java/lang/String" "value" "[B") .byte) ∧ FNar[ESst.getD i 0 + 3]? = some (.eq (.length (.field (EStm i) "java/lang/String" "value" "[B")) (.int (Int32.ofNat (ESlen.getD i 0)))) ∧ ESlen.getD i 0 < 2 ^ 31 := by decide +kernel
set_option maxRecDepth 100000 in
set_option maxHeartbeats 4000000 in
theorem es_elem : ∀ i : Nat, i < 38 → ∀ j : Nat, j < ESlen.getD i 0 → FNar[ESst.getD i 0 + 4 + j]? = some (.eq (.elem (.field (EStm i) "java/lang/String" "value" "[B") (.int (Int32.ofNat j))) (.int ((ESbyt.getD i []).getD j 0))) := by decide +kernel
theorem es_of {args : Array Value} {s : State} {A : Nat → Prop} (h : (Jvm.Cond.and given_1 narrow_1).before args s = true) (hA : ∀ a : Nat, a < s.heap.size → ¬ A a) : ∃ sk sv : Nat → Nat, ESs sk sv A s s.heap ∧ ∀ i : Nat, i < 38 → (EStm i).eval args s none [] s = some (.ref (sk i)) := by
  have hs : ∀ (k : Nat) (w : Cond), FNar[k]? = some w → w.before args s = true := fun k w hk => flat_of_before _ h w (List.mem_of_getElem? hk)
  have h0 : ∀ i : Nat, ∃ q : Nat × Nat, i < 38 → (EStm i).eval args s none [] s = some (.ref q.1) ∧ va_O "java/lang/String" q.1 A s s.heap ∧ va_OF "java/lang/String" "coder" "B" (.int 0) q.1 A s s.heap ∧ va_OF "java/lang/String" "value" "[B" (.ref q.2) q.1 A s s.heap ∧ va_T .byte q.2 (ESlen.getD i 0) (fun j => .int ((ESbyt.getD i []).getD j 0)) A s s.heap := by
    intro i
    by_cases hi : i < 38
    · obtain ⟨e1, e2, e3, e4, e5⟩ := es_head i hi
      obtain ⟨a, c, cA, kA, q1, q2, q3, q4, q5, q6, -⟩ := Cond.exactly_spec (args := args) (first := s) (o := none) (s := s) (idx := []) (t := EStm i) (cls := "java/lang/String") (hs _ _ e1)
      obtain ⟨t, ht, hT⟩ := va_Tof (f := fun j => .int ((ESbyt.getD i []).getD j 0)) (A := A) e5 (hs _ _ e3) (va_eqt (hs _ _ e4)) (fun j hj => va_eqt (hs _ _ (es_elem i hi j hj))) hA
      exact ⟨(a, t), fun _ => ⟨q1, ⟨cA, q3, q5, by rw [q6]; exact q2, hA a (Array.getElem?_eq_some_iff.mp q3).1⟩, vk_OFof q1 (va_eqt (hs _ _ e2)) hA, vk_OFof q1 ht hA, hT⟩⟩
    · exact ⟨(0, 0), fun h => absurd h hi⟩
  refine ⟨fun i => (h0 i).choose.1, fun i => (h0 i).choose.2, fun i hi => ?_, fun i hi => ?_⟩
  · exact ((h0 i).choose_spec hi).2
  · exact ((h0 i).choose_spec hi).1
set_option maxRecDepth 100000 in
theorem es_ref : ∀ q ∈ ESL, q.2.2.2 < 38 ∧ EStm q.2.2.2 = .string q.1 q.2.1 ∧ Cond.stringRef q.1 q.2.1 q.2.2.1 ∈ tables_1 := by
  have h : ∀ i : Nat, i < 38 → (ESL.getD i ("", 0, "", 0)).2.2.2 = i ∧ tables_1[([374, 420, 451, 486, 538, 539, 540, 541, 542, 546, 547, 548, 549, 550, 551, 552, 553, 696, 756, 764, 830, 915, 950, 958, 967, 968, 969, 970, 971, 972, 973, 974, 1263, 1270, 1271, 1288, 1301, 1302] : List Nat).getD i 0]? = some (Cond.stringRef (ESL.getD i ("", 0, "", 0)).1 (ESL.getD i ("", 0, "", 0)).2.1 (ESL.getD i ("", 0, "", 0)).2.2.1) := by decide +kernel
  intro q hq
  obtain ⟨i, hi⟩ := List.getElem?_of_mem hq
  have hi' : i < 38 := (List.getElem?_eq_some_iff.mp hi).1
  have e : ESL.getD i ("", 0, "", 0) = q := by rw [List.getD_eq_getElem?_getD, hi]; rfl
  obtain ⟨h1, h2⟩ := h i hi'
  rw [e] at h1 h2
  rw [h1]
  refine ⟨hi', ?_, List.mem_of_getElem? h2⟩
  unfold EStm
  rw [e]
theorem kn_of {args : Array Value} {s : State} (hts : ∀ w ∈ TW, w.before args s = true) : ∃ D : va_G, ∀ (k : Nat) (q : vw_C), vwCl[k]? = some q → u_Kn s q.1 q.2.1 q.2.2 (D.1 k) (D.2 k) := by
  obtain ⟨c0, i0, h0⟩ := u_known (C := RX0) (T := TX0) (N := 3) (n := 3) hts uw_X0 (hts (.instantiable RX0 3) (inTW 304 (by decide +kernel) rfl))
  obtain ⟨c1, i1, h1⟩ := u_known (C := RX1) (T := TX1) (N := 4) (n := 4) hts uw_X1 (hts (.instantiable RX1 4) (inTW 140 (by decide +kernel) rfl))
  obtain ⟨c2, i2, h2⟩ := u_known (C := RX2) (T := TX2) (N := 8) (n := 8) hts uw_X2 (hts (.instantiable RX2 8) (inTW 267 (by decide +kernel) rfl))
  obtain ⟨c3, i3, h3⟩ := u_known (C := RX3) (T := TX3) (N := 7) (n := 7) hts uw_X3 (hts (.instantiable RX3 7) (inTW 219 (by decide +kernel) rfl))
  obtain ⟨c4, i4, h4⟩ := u_known (C := RX4) (T := TX4) (N := 9) (n := 9) hts uw_X4 (hts (.instantiable RX4 9) (inTW 103 (by decide +kernel) rfl))
  obtain ⟨c5, i5, h5⟩ := u_known (C := RX5) (T := TX5) (N := 6) (n := 6) hts uw_X5 (hts (.instantiable RX5 6) (inTW 160 (by decide +kernel) rfl))
  obtain ⟨c6, i6, h6⟩ := u_known (C := RX6) (T := TX6) (N := 2) (n := 2) hts uw_X6 (hts (.instantiable RX6 2) (inTW 190 (by decide +kernel) rfl))
  obtain ⟨c7, i7, h7⟩ := u_known (C := RX7) (T := TX7) (N := 3) (n := 3) hts uw_X7 (hts (.instantiable RX7 3) (inTW 225 (by decide +kernel) rfl))
  obtain ⟨c8, i8, h8⟩ := u_known (C := RX8) (T := TX8) (N := 2) (n := 2) hts uw_X8 (hts (.instantiable RX8 2) (inTW 203 (by decide +kernel) rfl))
  obtain ⟨c9, i9, h9⟩ := u_known (C := RX9) (T := TX9) (N := 2) (n := 2) hts uw_X9 (hts (.instantiable RX9 2) (inTW 709 (by decide +kernel) rfl))
  obtain ⟨c10, i10, h10⟩ := u_known (C := RX10) (T := TX10) (N := 9) (n := 9) hts uw_X10 (hts (.instantiable RX10 9) (inTW 95 (by decide +kernel) rfl))
  obtain ⟨c11, i11, h11⟩ := u_known (C := RX11) (T := TX11) (N := 43) (n := 43) hts uw_X11 (hts (.instantiable RX11 43) (inTW 1029 (by decide +kernel) rfl))
  refine ⟨(fun k => match k with | 0 => c0 | 1 => c1 | 2 => c2 | 3 => c3 | 4 => c4 | 5 => c5 | 6 => c6 | 7 => c7 | 8 => c8 | 9 => c9 | 10 => c10 | 11 => c11 | _ => c0, fun k => match k with | 0 => i0 | 1 => i1 | 2 => i2 | 3 => i3 | 4 => i4 | 5 => i5 | 6 => i6 | 7 => i7 | 8 => i8 | 9 => i9 | 10 => i10 | 11 => i11 | _ => i0), ?_⟩
  intro k q hq
  match k, hq with
  | 0, hq => cases hq; exact h0
  | 1, hq => cases hq; exact h1
  | 2, hq => cases hq; exact h2
  | 3, hq => cases hq; exact h3
  | 4, hq => cases hq; exact h4
  | 5, hq => cases hq; exact h5
  | 6, hq => cases hq; exact h6
  | 7, hq => cases hq; exact h7
  | 8, hq => cases hq; exact h8
  | 9, hq => cases hq; exact h9
  | 10, hq => cases hq; exact h10
  | 11, hq => cases hq; exact h11
  | k + 12, hq => simp [vwCl] at hq
theorem ar_of {args : Array Value} {s : State} (hts : ∀ w ∈ TW, w.before args s = true) (hao : AO2 s) : ∃ ct : Nat → ClassId, ∀ (k : Nat) (q : ClassId × FieldType), (tyl ct)[k]? = some q → ArrOfT s q.1 q.2 ∧ va_RA s q.1 q.2 := by
  obtain ⟨c0, k0, m0, a0, b0, e0⟩ := Cond.arrayClass_spec (type := .boolean) (hts _ ac_Z)
  obtain ⟨c1, k1, m1, a1, b1, e1⟩ := Cond.arrayClass_spec (type := .int) (hts _ ac_I)
  obtain ⟨c2, k2, m2, a2, b2, e2⟩ := Cond.arrayClass_spec (type := .byte) (hts _ ac_B)
  obtain ⟨c3, k3, m3, a3, b3, e3⟩ := Cond.arrayClass_spec (type := .long) (hts _ ac_J)
  obtain ⟨m4, c4, k4, p4, _, b4, e4, a4⟩ := Cond.arrayOver_spec (args := #[]) (first := s) (o := none) (s := s) (idx := []) (n := "ArmsBook$Text") hao.1
  obtain ⟨m5, c5, k5, p5, _, b5, e5, a5⟩ := Cond.arrayOver_spec (args := #[]) (first := s) (o := none) (s := s) (idx := []) (n := "java/lang/String") hao.2
  refine ⟨fun k => match k with | 0 => c0 | 1 => c1 | 2 => c2 | 3 => c3 | 4 => c4 | _ => c5, ?_⟩
  intro k q hq
  match k, hq with
  | 0, hq => cases hq; exact ⟨fun n z => ⟨fun k h => (by cases h), k0, b0, m0, e0⟩, a0⟩
  | 1, hq => cases hq; exact ⟨fun n z => ⟨fun k h => (by cases h), k1, b1, m1, e1⟩, a1⟩
  | 2, hq => cases hq; exact ⟨fun n z => ⟨fun k h => (by cases h), k2, b2, m2, e2⟩, a2⟩
  | 3, hq => cases hq; exact ⟨fun n z => ⟨fun k h => (by cases h), k3, b3, m3, e3⟩, a3⟩
  | 4, hq => cases hq; exact ⟨fun n z => ⟨fun k h => (by cases h), k4, b4, m4, e4⟩, k4, m4, b4, e4, p4, a4⟩
  | 5, hq => cases hq; exact ⟨fun n z => ⟨fun k h => (by cases h), k5, b5, m5, e5⟩, k5, m5, b5, e5, p5, a5⟩
  | k + 6, hq => simp [tyl] at hq
theorem ao_of {args : Array Value} {s : State} (ht : ∀ w ∈ tables_1, w.before args s = true) : AO2 s := ⟨va_AO.of (A := args) (ht _ (List.mem_of_getElem? (i := 204) (by decide +kernel))), va_AO.of (A := args) (ht _ (List.mem_of_getElem? (i := 966) (by decide +kernel)))⟩
theorem ev_of {args : Array Value} {s : State} {l : Launch} (hl : l.stackTraces = false) (ht : ∀ w ∈ tables_1, w.before args s = true) (h : (Jvm.Cond.and given_1 narrow_1).before args s = true) : ∃ sk sv : Nat → Nat, ∀ (D : va_G) (ct : Nat → ClassId) (gb gm : Nat → Nat), EV l (D, ct, s.heap.size, sk, sv, gb, gm) s := by
  have hA : ∀ a : Nat, a < s.heap.size → ¬ s.heap.size ≤ a := fun a ha => Nat.not_le.mpr ha
  obtain ⟨sk, sv, h1, h2⟩ := es_of (A := fun q => s.heap.size ≤ q) h hA
  have hs := flat_of_before _ h
  refine ⟨sk, sv, fun D ct gb gm => ⟨hl, fun w hw => ?_, ?_, ?_, fun q hq => ?_, h1, ?_, ?_⟩⟩
  · obtain ⟨hw1, hw2⟩ := List.mem_filter.mp hw
    have hb := ht w hw1
    refine va_Nw.of ?_ hb
    cases w <;> first
      | rfl
      | (simp [evw] at hw2; done)
  · exact vx_Zqof (args := args) (ht _ (List.mem_of_getElem? (i := 361) (by decide +kernel))) (ht _ (List.mem_of_getElem? (i := 12) (by decide +kernel))) (hs _ (List.mem_of_getElem? (i := 4) (by decide +kernel))) hA
  · exact vx_Zqof (args := args) (ht _ (List.mem_of_getElem? (i := 363) (by decide +kernel))) (ht _ (List.mem_of_getElem? (i := 12) (by decide +kernel))) (hs _ (List.mem_of_getElem? (i := 5) (by decide +kernel))) hA
  · obtain ⟨q1, q2, q3⟩ := es_ref q hq
    have e := h2 _ q1
    rw [q2] at e
    exact vk_R.of (A := args) (ht _ q3) e
  · exact va_Zof (args := args) (ht _ (List.mem_of_getElem? (i := 499) (by decide +kernel))) (ht _ (List.mem_of_getElem? (i := 18) (by decide +kernel))) (va_eqt (hs _ (List.mem_of_getElem? (i := 6) (by decide +kernel)))) hA
  · exact va_Zqof (args := args) (ht _ (List.mem_of_getElem? (i := 515) (by decide +kernel))) (ht _ (List.mem_of_getElem? (i := 20) (by decide +kernel))) (hs _ (List.mem_of_getElem? (i := 7) (by decide +kernel))) hA
