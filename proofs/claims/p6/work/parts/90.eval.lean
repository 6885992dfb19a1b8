def rv_B : Option (Int32 × (Nat → Int32) × Int32) := f_X10_feed 600 (fun _ => 0) 0 1919247989 1936007208 673720360 677801839 991961120
def rv_M : Option (Int32 × Int32 × Int32 × (Nat → Int32)) := f_X11_feed 600 0 (fun _ => 0) 1919247989 1936007208 673720360 677801839 991961120
def rv_ok : Bool := match rv_B, rv_M with
  | some r, some s => decide (r.1 = s.1) && (match f_X10_text 600 r.2.1 0 r.2.2 (fun _ => 0) (fun _ => 0) 0 (fun _ => 0) 0 0 (-1) 0 (-1) 0 20 1500, f_X11_text 600 s.2.2.2 0 s.2.2.1 (-1) (fun _ => 0) (fun _ => 0) (fun _ => 0) (fun _ => 0) (fun _ => 0) 0 0 0 0 0 0 0 0 0 20 1500 with
    | some t, some u => decide (t.1 = -4) && decide (u.1 = -3) && decide (u.2.1 = 0)
    | _, _ => false)
  | _, _ => false
set_option maxRecDepth 100000 in
theorem rv_yes : rv_ok = true := by decide +kernel
theorem rv_all : ∃ r s t u, rv_B = some r ∧ rv_M = some s ∧ r.1 = s.1 ∧ f_X10_text 600 r.2.1 0 r.2.2 (fun _ => 0) (fun _ => 0) 0 (fun _ => 0) 0 0 (-1) 0 (-1) 0 20 1500 = some t ∧ f_X11_text 600 s.2.2.2 0 s.2.2.1 (-1) (fun _ => 0) (fun _ => 0) (fun _ => 0) (fun _ => 0) (fun _ => 0) 0 0 0 0 0 0 0 0 0 20 1500 = some u ∧ t.1 = -4 ∧ u.1 = -3 ∧ u.2.1 = 0 := by
  have h := rv_yes
  unfold rv_ok at h
  split at h
  · rename_i r s hr hs
    rw [Bool.and_eq_true] at h
    obtain ⟨h1, h⟩ := h
    split at h
    · rename_i t u ht hu
      simp only [Bool.and_eq_true, decide_eq_true_eq] at h h1
      exact ⟨r, s, t, u, hr, hs, h1, ht, hu, h.1.1, h.1.2, h.2⟩
    · exact absurd h (by simp)
  · exact absurd h (by simp)
