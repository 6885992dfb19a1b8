/-! Text: the bytes, as both sides read them. -/
def NB (b : Nat → Int32) : Prop := ∀ i, ∃ z : Int8, b i = z.toInt32
theorem nb_0 : NB (fun _ => 0) := fun _ => ⟨0, show (0 : Int32) = Int8.toInt32 0 by decide⟩
theorem nb_fb {w : Nat → Int32} {l : Nat} {b : Nat → Int32} (h : NB b) (t : Nat) : NB (fb w l b t) := by
  induction t with
  | zero => exact h
  | succ t ih =>
    intro i
    rw [fb]
    by_cases e : i = l + t
    · subst e
      rw [upd_at]
      exact ⟨_, rfl⟩
    · rw [upd_ne _ _ e]
      exact ih i
theorem q_feed2 {b a : Nat → Int32} {l fu : Nat} (h : IT b a) (hl : l ≤ 400) (hfu : 61 < fu) (x1 x2 x3 x4 x5 : Int32) : ∃ v b' a' z, f_X10_feed fu b (nI l) x1 x2 x3 x4 x5 = some (v, b', z) ∧ f_X11_feed fu (nI l) a x1 x2 x3 x4 x5 = some (v, 0, z, a') ∧ IT b' a' ∧ (∃ l', l' ≤ 400 ∧ z = nI l') ∧ (NB b → NB b') := by
  have e20 : nI l + 20 = nI (l + 20) := nI_add l 20
  unfold f_X10_feed f_X11_feed f_X8_hasRoom
  rw [e20]
  rcases Nat.lt_or_ge 400 (l + 20) with q | q
  · have c1 : (400 : Int32) < nI (l + 20) := nI_lt (a := 400) q (by omega)
    have c2 : ¬ nI (l + 20) ≤ (400 : Int32) := nI_ge (a := 400) q (by omega)
    rw [if_pos c1, if_neg c2]
    exact ⟨_, b, a, nI l, rfl, rfl, h, ⟨l, hl, rfl⟩, id⟩
  · have c1 : ¬ (400 : Int32) < nI (l + 20) := nI_nlt (a := 400) q (by decide)
    have c2 : nI (l + 20) ≤ (400 : Int32) := nI_le (b := 400) q (by decide)
    rw [if_neg c1, if_pos c2]
    have hm : f_X11_feed_23 fu (x1, x2, x3, x4, x5, 0, 0, nI l, a) = _ := feed_m (x1 := x1) (x2 := x2) (x3 := x3) (x4 := x4) (x5 := x5) (l := l) (a := a) q fu 0 (by decide) (by omega)
    have p0 : f_X8_put fu b (nI l) x1 = _ := put_b (w := wsel x1 x2 x3 x4 x5) (l := l) (j := 0) (b := b) (by omega) (by omega : 5 < fu)
    have p1 : f_X8_put fu (fb (wsel x1 x2 x3 x4 x5) l b 4) (nI (l + 4)) x2 = _ := put_b (w := wsel x1 x2 x3 x4 x5) (l := l) (j := 1) (b := b) (by omega) (by omega : 5 < fu)
    have p2 : f_X8_put fu (fb (wsel x1 x2 x3 x4 x5) l b 8) (nI (l + 8)) x3 = _ := put_b (w := wsel x1 x2 x3 x4 x5) (l := l) (j := 2) (b := b) (by omega) (by omega : 5 < fu)
    have p3 : f_X8_put fu (fb (wsel x1 x2 x3 x4 x5) l b 12) (nI (l + 12)) x4 = _ := put_b (w := wsel x1 x2 x3 x4 x5) (l := l) (j := 3) (b := b) (by omega) (by omega : 5 < fu)
    have p4 : f_X8_put fu (fb (wsel x1 x2 x3 x4 x5) l b 16) (nI (l + 16)) x5 = _ := put_b (w := wsel x1 x2 x3 x4 x5) (l := l) (j := 4) (b := b) (by omega) (by omega : 5 < fu)
    have r1 : g_X8_hasRoom_18 1 = some 1 := rfl
    rw [r1, hm, p0]
    simp only [Option.bind_some]
    rw [if_neg i10]
    simp only [Nat.mul_zero, Nat.add_zero, Nat.zero_add, Nat.reduceMul, Nat.reduceAdd, Nat.add_assoc] at p1 p2 p3 p4 ⊢
    rw [p1]
    simp only [Option.bind_some]
    rw [p2]
    simp only [Option.bind_some]
    rw [p3]
    simp only [Option.bind_some]
    rw [p4]
    exact ⟨_, _, _, _, rfl, rfl, fbm h 20, ⟨l + 20, q, rfl⟩, fun w => nb_fb w 20⟩
def BY (b a : Nat → Int32) (ch : Nat → Nat) : Prop := ∀ i, a i = nI (ch i) ∧ ch i < 256 ∧ (ch i < 128 → b i = nI (ch i)) ∧ (128 ≤ ch i → b i < 0)
def chr (a : Nat → Int32) (i : Nat) : Nat := (a i).toNatClampNeg
def by1 (z : Int32) : Bool := let w := (z &&& 255).toNatClampNeg; decide (z &&& 255 = nI w) && decide (w < 256) && (decide (¬ w < 128) || decide (z = nI w)) && (decide (¬ 128 ≤ w) || decide (z < 0))
set_option maxRecDepth 100000 in
theorem by_all : ∀ x : BitVec 8, by1 (Int8.toInt32 ⟨⟨x⟩⟩) = true := by decide +kernel
theorem by_of {b a : Nat → Int32} (h : IT b a) (hn : NB b) : BY b a (chr a) := by
  intro i
  obtain ⟨z, hz⟩ := hn i
  have h1 : by1 (b i) = true := by rw [hz]; exact by_all z.toUInt8.toBitVec
  unfold chr
  rw [h i]
  unfold by1 at h1
  simp only [Bool.and_eq_true, Bool.or_eq_true, decide_eq_true_eq] at h1
  obtain ⟨⟨⟨q1, q2⟩, q3⟩, q4⟩ := h1
  refine ⟨q1, q2, fun w => ?_, fun w => ?_⟩
  · rcases q3 with e | e
    · exact absurd w e
    · exact e
  · rcases q4 with e | e
    · exact absurd w e
    · exact e
def isL (c : Nat) : Bool := decide (97 ≤ c) && decide (c ≤ 122)
def isD (c : Nat) : Bool := decide (48 ≤ c) && decide (c ≤ 57)
def blk (c : Nat) : Bool := decide (c = 32) || decide (c = 10)
def sgn (c : Nat) : Bool := decide (c = 40) || decide (c = 41) || decide (c = 59) || decide (c = 43) || decide (c = 45) || decide (c = 60) || decide (c = 61)
def bhf (p : Nat → Bool) (n : Nat) : Nat → Nat → Nat
  | 0, i => i
  | k + 1, i => if i < n ∧ p i = true then bhf p n k (i + 1) else i
def bh (p : Nat → Bool) (n i : Nat) : Nat := bhf p n (n - i) i
section
variable {p : Nat → Bool} {n i : Nat}
theorem bh_yes (h : i < n) (hp : p i = true) : bh p n i = bh p n (i + 1) := by
  unfold bh
  rw [show n - i = (n - (i + 1)) + 1 by omega, bhf, if_pos ⟨h, hp⟩]
theorem bh_no (h : ¬ (i < n ∧ p i = true)) : bh p n i = i := by
  unfold bh
  cases e : n - i with
  | zero => rfl
  | succ k => rw [bhf, if_neg h]
theorem bh_sp : ∀ k i, n - i ≤ k → i ≤ bh p n i ∧ (i ≤ n → bh p n i ≤ n) ∧ (∀ j, i ≤ j → j < bh p n i → p j = true) ∧ ¬ (bh p n i < n ∧ p (bh p n i) = true) := by
  intro k
  induction k with
  | zero =>
    intro i h
    have e : bh p n i = i := bh_no (fun w => by omega)
    rw [e]
    exact ⟨Nat.le_refl _, fun w => w, fun j h1 h2 => by omega, fun w => by omega⟩
  | succ k ih =>
    intro i h
    by_cases c : i < n ∧ p i = true
    · rw [bh_yes c.1 c.2]
      obtain ⟨h1, h2, h3, h4⟩ := ih (i + 1) (by omega)
      refine ⟨by omega, fun w => h2 (by omega), fun j j1 j2 => ?_, h4⟩
      rcases Nat.lt_or_ge i j with q | q
      · exact h3 j (by omega) j2
      · have e : j = i := by omega
        rw [e]
        exact c.2
    · rw [bh_no c]
      exact ⟨Nat.le_refl _, fun w => w, fun j h1 h2 => by omega, c⟩
theorem bh_ge (p : Nat → Bool) (n i : Nat) : i ≤ bh p n i := (bh_sp (p := p) _ i (Nat.le_refl _)).1
theorem bh_le (p : Nat → Bool) (h : i ≤ n) : bh p n i ≤ n := (bh_sp (p := p) _ i (Nat.le_refl _)).2.1 h
theorem bh_in {j : Nat} (h1 : i ≤ j) (h2 : j < bh p n i) : p j = true := (bh_sp (p := p) _ i (Nat.le_refl _)).2.2.1 j h1 h2
theorem bh_out (h : bh p n i < n) : p (bh p n i) = false := by
  have := (bh_sp (p := p) (n := n) _ i (Nat.le_refl _)).2.2.2
  cases e : p (bh p n i)
  · rfl
  · exact absurd ⟨h, e⟩ this
end
section
variable {b a : Nat → Int32} {ch : Nat → Nat} {i c : Nat}
theorem ltc {x : Nat} (hc : c < 2 ^ 31) (hx : x < 2 ^ 31) : (nI c < nI x) ↔ c < x := nI_ltI hc hx
theorem let_b (h : BY b a ch) (i : Nat) : f_X7_isLetter (b i) = some (bI (isL (ch i))) := by
  obtain ⟨-, h2, h3, h4⟩ := h i
  unfold f_X7_isLetter
  rcases Nat.lt_or_ge (ch i) 128 with q | q
  · rw [h3 q]
    have e1 : (nI (ch i) < (97 : Int32)) ↔ ch i < 97 := nI_ltI (b := 97) (by omega) (by decide)
    have e2 : ((122 : Int32) < nI (ch i)) ↔ 122 < ch i := nI_ltI (a := 122) (by decide) (by omega)
    by_cases c1 : ch i < 97
    · rw [if_pos (e1.mpr c1), show isL (ch i) = false by unfold isL; rw [decide_eq_false (by omega)]; rfl]
      rfl
    · rw [if_neg (fun w => c1 (e1.mp w))]
      by_cases c2 : 122 < ch i
      · rw [if_pos (e2.mpr c2), show isL (ch i) = false by unfold isL; rw [decide_eq_false (by omega : ¬ ch i ≤ 122), Bool.and_false]]
        rfl
      · rw [if_neg (fun w => c2 (e2.mp w)), show isL (ch i) = true by unfold isL; rw [decide_eq_true (by omega), decide_eq_true (by omega)]; rfl]
        rfl
  · have hn : b i < 97 := Int32.lt_trans (h4 q) (by decide)
    rw [if_pos hn, show isL (ch i) = false by unfold isL; rw [decide_eq_false (by omega : ¬ ch i ≤ 122), Bool.and_false]]
    rfl
theorem dig_b (h : BY b a ch) (i : Nat) : f_X7_isDigit (b i) = some (bI (isD (ch i))) := by
  obtain ⟨-, h2, h3, h4⟩ := h i
  unfold f_X7_isDigit
  rcases Nat.lt_or_ge (ch i) 128 with q | q
  · rw [h3 q]
    have e1 : (nI (ch i) < (48 : Int32)) ↔ ch i < 48 := nI_ltI (b := 48) (by omega) (by decide)
    have e2 : ((57 : Int32) < nI (ch i)) ↔ 57 < ch i := nI_ltI (a := 57) (by decide) (by omega)
    by_cases c1 : ch i < 48
    · rw [if_pos (e1.mpr c1), show isD (ch i) = false by unfold isD; rw [decide_eq_false (by omega)]; rfl]
      rfl
    · rw [if_neg (fun w => c1 (e1.mp w))]
      by_cases c2 : 57 < ch i
      · rw [if_pos (e2.mpr c2), show isD (ch i) = false by unfold isD; rw [decide_eq_false (by omega : ¬ ch i ≤ 57), Bool.and_false]]
        rfl
      · rw [if_neg (fun w => c2 (e2.mp w)), show isD (ch i) = true by unfold isD; rw [decide_eq_true (by omega), decide_eq_true (by omega)]; rfl]
        rfl
  · have hn : b i < 48 := Int32.lt_trans (h4 q) (by decide)
    rw [if_pos hn, show isD (ch i) = false by unfold isD; rw [decide_eq_false (by omega : ¬ ch i ≤ 57), Bool.and_false]]
    rfl
theorem eq_b (h : BY b a ch) (i : Nat) {c : Nat} (hc : c < 128) : b i = nI c ↔ ch i = c := by
  obtain ⟨-, h2, h3, h4⟩ := h i
  rcases Nat.lt_or_ge (ch i) 128 with q | q
  · rw [h3 q]
    exact nI_eq (by omega) (by omega)
  · constructor
    · intro e
      have := h4 q
      rw [e] at this
      exact absurd this (nI_pos (by omega))
    · omega
theorem eq_a (h : BY b a ch) (i : Nat) {c : Nat} (hc : c < 2 ^ 31) : a i = nI c ↔ ch i = c := by
  obtain ⟨h1, h2, -, -⟩ := h i
  rw [h1]
  exact nI_eq (by omega) (by omega)
theorem let_a (c : Nat) (hc : c < 256) : f_X11_isLetter (nI c) = some (bI (isL c)) := (by decide +kernel : ∀ c, c < 256 → f_X11_isLetter (nI c) = some (bI (isL c))) c hc
theorem dig_a (c : Nat) (hc : c < 256) : f_X11_isDigit (nI c) = some (bI (isD c)) := (by decide +kernel : ∀ c, c < 256 → f_X11_isDigit (nI c) = some (bI (isD c))) c hc
theorem let_n : f_X11_isLetter (-1) = some 0 := by decide +kernel
theorem dig_n : f_X11_isDigit (-1) = some 0 := by decide +kernel
theorem at_a {n : Nat} (h : BY b a ch) (hn : n ≤ 400) (hi : i < n) : f_X11_byteAt a (nI n) (nI i) = some (nI (ch i)) := by
  unfold f_X11_byteAt
  rw [if_neg (nI_ge hi (by omega)), if_pos (inb_nI (N := 400) (by omega) (by decide)), nI_clamp (by omega), (h i).1]
  rfl
theorem at_n {n : Nat} (hn : n ≤ 400) (hi : n ≤ i) (h2 : i < 2 ^ 31) : f_X11_byteAt a (nI n) (nI i) = some (-1) := by
  unfold f_X11_byteAt
  rw [if_pos (nI_le hi h2)]
  rfl
end
