/-! feed: the tape. The rows on bits are pasted out of kit/laws/BITS.to-paste. -/
def bt (x : Int32) (i : Nat) : Bool := x.toBitVec.getLsbD i
theorem b_ext {x y : Int32} (h : ∀ i, i < 32 → bt x i = bt y i) : x = y := Int32.toBitVec_inj.mp (BitVec.eq_of_getLsbD_eq (fun i hi => h i hi))
theorem b_and (x y : Int32) (i : Nat) : bt (x &&& y) i = (bt x i && bt y i) := by unfold bt; rw [Int32.toBitVec_and, BitVec.getLsbD_and]
theorem b_big {x : Int32} {i : Nat} (h : 32 ≤ i) : bt x i = false := BitVec.getLsbD_of_ge _ _ h
theorem b_255 (i : Nat) : bt 255 i = decide (i < 8) := by
  rcases Nat.lt_or_ge i 32 with h | h
  · exact (by decide +kernel : ∀ i, i < 32 → bt 255 i = decide (i < 8)) i h
  · rw [b_big h, decide_eq_false (by omega)]
theorem s_l : ∀ n, n < 32 → ((nI n &&& 31).toBitVec.smod 32).toNat = n := by decide +kernel
theorem s_u : ∀ n, n < 32 → (((nI n).toUInt32 &&& Int32.toUInt32 31).toBitVec % 32).toNat = n := by decide +kernel
theorem b_ushr (n : Nat) (hn : n < 32) (x : Int32) (i : Nat) : bt ((x.toUInt32 >>> ((nI n).toUInt32 &&& Int32.toUInt32 31)).toInt32) i = bt x (n + i) := by
  show (x.toUInt32 >>> ((nI n).toUInt32 &&& Int32.toUInt32 31)).toBitVec.getLsbD i = x.toUInt32.toBitVec.getLsbD (n + i)
  rw [UInt32.toBitVec_shiftRight]
  show (x.toUInt32.toBitVec >>> (((nI n).toUInt32 &&& Int32.toUInt32 31).toBitVec % 32).toNat).getLsbD i = _
  rw [s_u n hn, BitVec.getLsbD_ushiftRight]
theorem b_sshr (n : Nat) (hn : n < 32) (x : Int32) {i : Nat} (hi : i < 32) : bt (x >>> (nI n &&& 31)) i = if n + i < 32 then bt x (n + i) else bt x 31 := by
  unfold bt
  rw [Int32.toBitVec_shiftRight]
  show (x.toBitVec.sshiftRight ((nI n &&& 31).toBitVec.smod 32).toNat).getLsbD i = _
  rw [s_l n hn, BitVec.getLsbD_sshiftRight, BitVec.msb_eq_getLsbD_last]
  simp [hi]
theorem bt_byte (z : Int32) {i : Nat} (hi : i < 8) : bt (z.toInt8.toInt32) i = bt z i := by
  unfold bt
  show ((z.toBitVec.signExtend 8).signExtend 32).getLsbD i = _
  rw [BitVec.getLsbD_signExtend, if_pos hi, BitVec.getLsbD_signExtend, if_pos (by omega : i < 32), decide_eq_true (by omega : i < 32), decide_eq_true hi, Bool.true_and, Bool.true_and]
def nbt (x s : Int32) : Int32 := vp_nar .byte ((Int32.toInt8 (ushr32 x s)).toInt32)
theorem feed_byte (x : Int32) {s : Nat} (hs : s ≤ 24) : nbt x (nI s) &&& 255 = (x >>> (nI s &&& 31)) &&& 255 := by
  refine b_ext fun i hi => ?_
  rw [b_and, b_and, b_255]
  rcases Nat.lt_or_ge i 8 with h | h
  · have e : nbt x (nI s) = (Int32.toInt8 ((Int32.toInt8 (ushr32 x (nI s))).toInt32)).toInt32 := rfl
    rw [e, bt_byte _ h, bt_byte _ h, b_sshr s (by omega) x hi, if_pos (by omega)]
    unfold ushr32
    rw [b_ushr s (by omega) x i]
  · rw [decide_eq_false (by omega), Bool.and_false, Bool.and_false]
def wsel (x1 x2 x3 x4 x5 : Int32) (j : Nat) : Int32 := match j with
  | 0 => x1
  | 1 => x2
  | 2 => x3
  | 3 => x4
  | _ => x5
def fb (w : Nat → Int32) (l : Nat) (b : Nat → Int32) : Nat → (Nat → Int32)
  | 0 => b
  | t + 1 => upd (fb w l b t) (l + t) (nbt (w (t / 4)) (nI (24 - 8 * (t % 4))))
def fm (w : Nat → Int32) (l : Nat) (a : Nat → Int32) : Nat → (Nat → Int32)
  | 0 => a
  | t + 1 => upd (fm w l a t) (l + t) ((w (t / 4) >>> (nI (24 - 8 * (t % 4)) &&& 31)) &&& 255)
def IT (b a : Nat → Int32) : Prop := ∀ i, a i = b i &&& 255
theorem fbm {w : Nat → Int32} {l : Nat} {b a : Nat → Int32} (h : IT b a) (t : Nat) : IT (fb w l b t) (fm w l a t) := by
  induction t with
  | zero => exact h
  | succ t ih =>
    intro i
    rw [fb, fm]
    by_cases e : i = l + t
    · subst e
      rw [upd_at, upd_at, feed_byte _ (by omega)]
    · rw [upd_ne _ _ e, upd_ne _ _ e]
      exact ih i
theorem put_step {b : Nat → Int32} {l s k : Nat} (x : Int32) (hl : l < 400) (hs : s ≤ 24) : f_X8_put_3 (k + 1) (x, nI s, b, nI l) = f_X8_put_3 k (x, nI s + (-8), upd b l (nbt x (nI s)), nI (l + 1)) := by
  show g_X8_put_3 b (nI l) (fun a b c d => f_X8_put_3 k (a, b, c, d)) x (nI s) = _
  unfold g_X8_put_3
  have q : ¬ (400 : Int32) ≤ nI l := nI_ge (b := 400) hl (by decide)
  rw [if_neg (nI_pos (by omega)), if_neg q, inb_nI hl (by decide), nI_clamp (by omega), nI_1]
  rfl
theorem put_b {w : Nat → Int32} {l j fu : Nat} {b : Nat → Int32} (hl : l + 4 * j + 4 ≤ 400) (hfu : 5 < fu) : f_X8_put fu (fb w l b (4 * j)) (nI (l + 4 * j)) (w j) = some (fb w l b (4 * j + 4), nI (l + 4 * j + 4)) := by
  obtain ⟨k, rfl⟩ : ∃ k, fu = k + 1 + 1 + 1 + 1 + 1 := ⟨fu - 5, by omega⟩
  have one : ∀ r, r < 4 → upd (fb w l b (4 * j + r)) (l + 4 * j + r) (nbt (w j) (nI (24 - 8 * r))) = fb w l b (4 * j + r + 1) := fun r hr => by
    rw [fb, show (4 * j + r) / 4 = j by omega, show (4 * j + r) % 4 = r by omega, Nat.add_assoc]
  unfold f_X8_put
  have e0 : (24 : Int32) = nI 24 := rfl
  have e1 : nI 24 + (-8) = nI 16 := by decide
  have e2 : nI 16 + (-8) = nI 8 := by decide
  have e3 : nI 8 + (-8) = nI 0 := by decide
  have e4 : nI 0 + (-8) = -8 := by decide
  rw [e0, put_step (w j) (by omega) (by decide), e1, put_step (w j) (by omega) (by decide), e2, put_step (w j) (by omega) (by decide), e3, put_step (w j) (by omega) (by decide), e4]
  have o0 := one 0 (by decide)
  have o1 := one 1 (by decide)
  have o2 := one 2 (by decide)
  have o3 := one 3 (by decide)
  simp only [Nat.add_zero, Nat.mul_zero, Nat.sub_zero, Nat.mul_one, Nat.reduceMul, Nat.reduceSub, Nat.add_assoc, Nat.reduceAdd] at o0 o1 o2 o3 ⊢
  rw [o0, o1, o2, o3]
  rfl
theorem sh_m : ∀ t, t < 20 → (24 - (8 * (nI t - nI t / 4 * 4))) = nI (24 - 8 * (t % 4)) := by decide +kernel
theorem feed_m {x1 x2 x3 x4 x5 : Int32} {l : Nat} {a : Nat → Int32} (hl : l + 20 ≤ 400) : ∀ k t, t ≤ 20 → 20 - t < k → f_X11_feed_23 k (x1, x2, x3, x4, x5, nI t, 0, nI (l + t), fm (wsel x1 x2 x3 x4 x5) l a t) = some (nI (l + 20), 0, nI (l + 20), fm (wsel x1 x2 x3 x4 x5) l a 20) := by
  intro k
  induction k with
  | zero => intro t _ h0; omega
  | succ k ih =>
    intro t ht hk
    show g_X11_feed_23 0 (nI (l + t)) (fm (wsel x1 x2 x3 x4 x5) l a t) (fun a b c d e f g h i => f_X11_feed_23 k (a, b, c, d, e, f, g, h, i)) x1 x2 x3 x4 x5 (nI t) = _
    unfold g_X11_feed_23
    rcases Nat.lt_or_ge t 20 with q | q
    · have c20 : ¬ (20 : Int32) ≤ nI t := nI_ge (b := 20) q (by decide)
      have step : ∀ v, v = wsel x1 x2 x3 x4 x5 (t / 4) → g_X11_feed_76 0 (nI (l + t)) (fm (wsel x1 x2 x3 x4 x5) l a t) (fun a b c d e f g h i => f_X11_feed_23 k (a, b, c, d, e, f, g, h, i)) x1 x2 x3 x4 x5 (nI t) v = some (nI (l + 20), 0, nI (l + 20), fm (wsel x1 x2 x3 x4 x5) l a 20) := fun v hv => by
        unfold g_X11_feed_76
        rw [inb_nI (by omega : l + t < 400) (by decide), nI_clamp (by omega), sh_m t q, nI_1, nI_1, hv]
        have := ih (t + 1) q (by omega)
        rw [fm] at this
        exact this
      have le : ∀ c, c < 100 → ((nI c ≤ nI t) ↔ c ≤ t) := fun c hc => nI_leI (by omega) (by omega)
      rw [if_neg c20]
      by_cases a4 : (4 : Int32) ≤ nI t
      · rw [if_pos a4]
        have b4 := (le 4 (by decide)).mp a4
        by_cases a8 : (8 : Int32) ≤ nI t
        · rw [if_pos a8]
          have b8 := (le 8 (by decide)).mp a8
          by_cases a12 : (12 : Int32) ≤ nI t
          · rw [if_pos a12]
            have b12 := (le 12 (by decide)).mp a12
            by_cases a16 : (16 : Int32) ≤ nI t
            · rw [if_pos a16]
              have b16 := (le 16 (by decide)).mp a16
              exact step _ (by rw [show t / 4 = 4 by omega]; rfl)
            · rw [if_neg a16]
              have b16 : ¬ 16 ≤ t := fun w => a16 ((le 16 (by decide)).mpr w)
              exact step _ (by rw [show t / 4 = 3 by omega]; rfl)
          · rw [if_neg a12]
            have b12 : ¬ 12 ≤ t := fun w => a12 ((le 12 (by decide)).mpr w)
            exact step _ (by rw [show t / 4 = 2 by omega]; rfl)
        · rw [if_neg a8]
          have b8 : ¬ 8 ≤ t := fun w => a8 ((le 8 (by decide)).mpr w)
          exact step _ (by rw [show t / 4 = 1 by omega]; rfl)
      · rw [if_neg a4]
        have b4 : ¬ 4 ≤ t := fun w => a4 ((le 4 (by decide)).mpr w)
        exact step _ (by rw [show t / 4 = 0 by omega]; rfl)
    · have e : t = 20 := by omega
      subst e
      have c20 : (20 : Int32) ≤ nI 20 := by decide
      rw [if_pos c20]
theorem q_feed {b a : Nat → Int32} {l fu : Nat} (h : IT b a) (hl : l ≤ 400) (hfu : 61 < fu) (x1 x2 x3 x4 x5 : Int32) : ∃ v b' a' z, f_X10_feed fu b (nI l) x1 x2 x3 x4 x5 = some (v, b', z) ∧ f_X11_feed fu (nI l) a x1 x2 x3 x4 x5 = some (v, 0, z, a') ∧ IT b' a' ∧ ∃ l', l' ≤ 400 ∧ z = nI l' := by
  have e20 : nI l + 20 = nI (l + 20) := nI_add l 20
  unfold f_X10_feed f_X11_feed f_X8_hasRoom
  rw [e20]
  rcases Nat.lt_or_ge 400 (l + 20) with q | q
  · have c1 : (400 : Int32) < nI (l + 20) := nI_lt (a := 400) q (by omega)
    have c2 : ¬ nI (l + 20) ≤ (400 : Int32) := nI_ge (a := 400) q (by omega)
    rw [if_pos c1, if_neg c2]
    exact ⟨_, b, a, nI l, rfl, rfl, h, l, hl, rfl⟩
  · have c1 : ¬ (400 : Int32) < nI (l + 20) := nI_nlt (a := 400) q (by decide)
    have c2 : nI (l + 20) ≤ (400 : Int32) := nI_le (b := 400) q (by decide)
    rw [if_neg c1, if_pos c2]
    have hm : f_X11_feed_23 fu (x1, x2, x3, x4, x5, 0, 0, nI l, a) = _ := feed_m (x1 := x1) (x2 := x2) (x3 := x3) (x4 := x4) (x5 := x5) (l := l) (a := a) q fu 0 (by decide) (by omega)
    have p0 : f_X8_put fu b (nI l) x1 = _ := put_b (w := wsel x1 x2 x3 x4 x5) (l := l) (j := 0) (b := b) (by omega) (by omega : 5 < fu)
    have p1 : f_X8_put fu (fb (wsel x1 x2 x3 x4 x5) l b 4) (nI (l + 4)) x2 = _ := put_b (w := wsel x1 x2 x3 x4 x5) (l := l) (j := 1) (b := b) (by omega) (by omega : 5 < fu)
    have p2 : f_X8_put fu (fb (wsel x1 x2 x3 x4 x5) l b 8) (nI (l + 8)) x3 = _ := put_b (w := wsel x1 x2 x3 x4 x5) (l := l) (j := 2) (b := b) (by omega) (by omega : 5 < fu)
    have p3 : f_X8_put fu (fb (wsel x1 x2 x3 x4 x5) l b 12) (nI (l + 12)) x4 = _ := put_b (w := wsel x1 x2 x3 x4 x5) (l := l) (j := 3) (b := b) (by omega) (by omega : 5 < fu)
    have p4 : f_X8_put fu (fb (wsel x1 x2 x3 x4 x5) l b 16) (nI (l + 16)) x5 = _ := put_b (w := wsel x1 x2 x3 x4 x5) (l := l) (j := 4) (b := b) (by omega) (by omega : 5 < fu)
    have r1 : g_X8_hasRoom_18 1 = some 1 := rfl
    rw [r1, hm, p0]
    simp only [Option.bind_some]
    rw [if_neg i10]
    simp only [Nat.mul_zero, Nat.add_zero, Nat.zero_add, Nat.reduceMul, Nat.reduceAdd, Nat.add_assoc] at p1 p2 p3 p4 ⊢
    rw [p1]
    simp only [Option.bind_some]
    rw [p2]
    simp only [Option.bind_some]
    rw [p3]
    simp only [Option.bind_some]
    rw [p4]
    exact ⟨_, _, _, _, rfl, rfl, fbm h 20, l + 20, q, rfl⟩
