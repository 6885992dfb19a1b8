section
variable {b a : Nat → Int32} {ch : Nat → Nat} {s e : Nat}
theorem bIf {α : Type} {p : Prop} [Decidable p] {x y : α} : (if bI (decide p) = 0 then x else y) = if p then y else x := by
  by_cases h : p
  · rw [decide_eq_true h, if_neg (by decide), if_pos h]
  · rw [decide_eq_false h, if_pos (by decide), if_neg h]
theorem ite_nI {p : Prop} [Decidable p] {x y : Nat} {r : Option Int32} {c : Int32} (h1 : c = nI x) (h2 : ¬ p → r = some (nI y)) : (if p then some c else r) = some (nI (if p then x else y)) := by
  by_cases h : p
  · rw [if_pos h, if_pos h, h1]
  · rw [if_neg h, if_neg h, h2 h]
theorem name_q (h : BY b a ch) (hse : s ≤ e) (he : e ≤ 400) {fu : Nat} (hfu : 500 < fu) : f_X7_nameToken fu b (nI s) (nI e) = some (nI (if sl ch s e = wd 9 then 100 else if sl ch s e = wd 10 then 101 else if sl ch s e = wd 11 then 102 else if sl ch s e = wd 12 then 103 else if sl ch s e = wd 13 then 104 else if sl ch s e = wd 14 then 105 else if sl ch s e = wd 15 then 106 else if sl ch s e = wd 16 then 107 else 3)) := by
  unfold f_X7_nameToken g_X7_nameToken_115
  rw [spells_q h (x := 9) (by decide) hse he hfu, spells_q h (x := 10) (by decide) hse he hfu, spells_q h (x := 11) (by decide) hse he hfu, spells_q h (x := 12) (by decide) hse he hfu, spells_q h (x := 13) (by decide) hse he hfu, spells_q h (x := 14) (by decide) hse he hfu, spells_q h (x := 15) (by decide) hse he hfu, spells_q h (x := 16) (by decide) hse he hfu]
  simp only [Option.bind_some, bIf]
  refine ite_nI rfl (fun _ => ?_)
  refine ite_nI rfl (fun _ => ?_)
  refine ite_nI rfl (fun _ => ?_)
  refine ite_nI rfl (fun _ => ?_)
  refine ite_nI rfl (fun _ => ?_)
  refine ite_nI rfl (fun _ => ?_)
  refine ite_nI rfl (fun _ => ?_)
  exact ite_nI rfl (fun _ => rfl)
theorem word_q (h : BY b a ch) (hse : s ≤ e) (he : e ≤ 400) {fu : Nat} (hfu : 500 < fu) : f_X7_wordToken fu b (nI s) (nI e) = some (nI (wi (sl ch s e))) := by
  unfold f_X7_wordToken g_X7_wordToken_90 wi
  rw [name_q h hse he hfu, spells_q h (x := 3) (by decide) hse he hfu, spells_q h (x := 4) (by decide) hse he hfu, spells_q h (x := 5) (by decide) hse he hfu, spells_q h (x := 6) (by decide) hse he hfu, spells_q h (x := 7) (by decide) hse he hfu, spells_q h (x := 8) (by decide) hse he hfu]
  simp only [Option.bind_some, bIf]
  refine ite_nI rfl (fun _ => ?_)
  refine ite_nI rfl (fun _ => ?_)
  refine ite_nI rfl (fun _ => ?_)
  refine ite_nI rfl (fun _ => ?_)
  refine ite_nI rfl (fun _ => ?_)
  exact ite_nI rfl (fun _ => rfl)
end
