/-! Text: words. -/
def wd (x : Nat) : List Nat := (ESbyt.getD x []).map Int32.toNatClampNeg
def sl (ch : Nat → Nat) (s e : Nat) : List Nat := (List.range (e - s)).map (fun k => ch (s + k))
def wok (x : Nat) : Bool := decide ((wd x).length = ESlen.getD x 0) && decide (ESlen.getD x 0 ≤ 41) && (List.range (ESlen.getD x 0)).all (fun j => decide ((ESbyt.getD x []).getD j 0 = nI ((wd x).getD j 0)) && decide ((wd x).getD j 0 < 128))
set_option maxRecDepth 100000 in
theorem wok_all : ∀ x, x < 38 → wok x = true := by decide +kernel
theorem w_ok {x : Nat} (h : x < 38) : (wd x).length = ESlen.getD x 0 ∧ ESlen.getD x 0 ≤ 41 ∧ ∀ j, j < ESlen.getD x 0 → (ESbyt.getD x []).getD j 0 = nI ((wd x).getD j 0) ∧ (wd x).getD j 0 < 128 := by
  have := wok_all x h
  unfold wok at this
  simp only [Bool.and_eq_true, decide_eq_true_eq, List.all_eq_true, List.mem_range] at this
  exact ⟨this.1.1, this.1.2, this.2⟩
