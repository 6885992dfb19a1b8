def B0 : SB := ((fun _ => 0), (fun _ => 0), (fun _ => 0), (fun _ => 0), (fun _ => 0), (fun _ => 0), (fun _ => 0), (fun _ => 0), 0, (fun _ => 0), (fun _ => 0), (fun _ => 0), 0, (fun _ => 0), -1, -1, -1, -1, 0, (fun _ => 0), (fun _ => 0), (fun _ => 0), 0, (fun _ => 0), (fun _ => 0), 0, (fun _ => 0), 0, 0, -1, 0, -1, (fun _ => 0), (fun _ => 0), 0, 0, 0, 0, 0, (fun _ => 0), (fun _ => 0), 0, -1, 0, (fun _ => 0), (fun _ _ => 0), (fun _ => 0))
def M0 : SM := (0, 0, 0, 0, 0, 0, -1, (fun _ => 0), (fun _ => 0), (fun _ => 0), (fun _ => 0), (fun _ => 0), (fun _ => 0), (fun _ => 0), (fun _ => 0), (fun _ => 0), (fun _ => 0), (fun _ => 0), (fun _ => 0), (fun _ => 0), (fun _ => 0), (fun _ => 0), (fun _ => 0), (fun _ => 0), (fun _ => 0), (fun _ => 0), 0, 0, 0, 0, 0, 0, 0, 0, 0, 0, (fun _ => 0), (fun _ => 0), (fun _ => 0), (fun _ => 0), (fun _ => 0), (fun _ => 0))
theorem txf_0 (tA : Nat → Nat) : txf 0 tA = fun _ => none := by
  funext t
  unfold txf
  rw [if_neg (Nat.not_lt_zero t)]
theorem perm_e {A B : va_W} {o : Nat × va_E} : (o :: (B ++ (A ++ []))).Perm (o :: (A ++ ([] ++ (B ++ [])))) := by
  rw [List.append_nil, List.append_nil, List.nil_append]
  exact List.Perm.cons _ List.perm_append_comm
def mk0 (h : Nat) (u : Nat → Nat) : Nat → Nat := fun k => match k with
  | 0 => h
  | k + 1 => u k
set_option maxRecDepth 100000 in
set_option maxHeartbeats 8000000 in
theorem law_entry {l : Launch} {D : va_G} {ct : Nat → ClassId} {B : Nat} {sk sv : Nat → Nat} {Y : YT} {b L : Nat} {xs : Nat → Int32} {Inv : Nat → SB → SM → Prop} (hst : ∀ k : Nat, 6 * k + 6 ≤ 3072 → Sts (Inv k) (Inv (k + 1))) (hmo : ∀ (k : Nat) (x : SB) (y : SM), Inv k x y → Inv (k + 1) x y) (hI : Inv 0 B0 M0) (hX : CX l (D, ct, B, sk, sv, fun _ => 0, fun _ => 0) cL_law 7 RL Y) (hao : AO2 (ys Y)) (hQ : EQL Y b) (hB : B = (ys Y).heap.size) (hx : va_X b L xs (ys Y) (ys Y).heap) (hb : b < B) (hL : L ≤ 3072) : J l (D, ct, B, sk, sv, fun _ => 0, fun _ => 0) RM Y 0 0 0 [(0, .ref b)] [] [] := by
  refine j_new (fs := [.null, .null, .null, .null, .null, .null, .null, .null, .int 0]) hX dL_law_0 3 rfl nw_L_8 (fun j hj => by rcases (show j = 0 ∨ j = 1 ∨ j = 2 ∨ j = 3 ∨ j = 4 ∨ j = 5 ∨ j = 6 ∨ j = 7 ∨ j = 8 by omega) with rfl | rfl | rfl | rfl | rfl | rfl | rfl | rfl | rfl <;> rfl) (Nat.le_of_ble_eq_true rfl) (Nat.le_of_ble_eq_true rfl) (fun hb0 => ?_)
  refine j_dup hX dL_law_3 4 rfl rfl ?_
  refine jI_P (rest := [.ref hb0]) hX hao dL_law_4 7 rfl t_X10_init mc_X10_init mi_X10_init rfl ml_L_59 (Nat.le_of_ble_eq_true rfl) (Nat.le_of_ble_eq_true rfl) (Nat.le_of_ble_eq_true rfl) rfl (Nat.le_of_ble_eq_true rfl) (fun u => ?_)
  refine j_astore_n (x := hb0) (lv' := [(1, .ref hb0), (0, .ref b)]) hX dL_law_7 8 rfl rfl (by decide) rfl ?_
  refine j_new (fs := [.null, .int 0, .int 0, .int 0, .int 0, .int 0, .int 0, .int 0, .null, .null, .null, .null, .null, .null, .null, .null, .null, .null, .null, .null, .null, .null, .null, .null, .null, .null, .null, .int 0, .int 0, .int 0, .int 0, .int 0, .int 0, .int 0, .int 0, .int 0, .int 0, .null, .null, .null, .null, .null, .null]) hX dL_law_8 11 rfl nw_L_60 (fun j hj => ?_) (Nat.le_of_ble_eq_true rfl) (Nat.le_of_ble_eq_true rfl) (fun hm0 => ?_)
  · have hall : ∀ j : Fin 43, defaultValue (tyX11 j.1) = vp_V [.null, .int 0, .int 0, .int 0, .int 0, .int 0, .int 0, .int 0, .null, .null, .null, .null, .null, .null, .null, .null, .null, .null, .null, .null, .null, .null, .null, .null, .null, .null, .null, .int 0, .int 0, .int 0, .int 0, .int 0, .int 0, .int 0, .int 0, .int 0, .int 0, .null, .null, .null, .null, .null, .null] j.1 := by decide +kernel
    exact hall ⟨j, hj⟩
  refine j_dup hX dL_law_11 12 rfl rfl ?_
  refine jI_P (rest := [.ref hm0]) hX hao dL_law_12 15 rfl t_X11_init mc_X11_init mi_X11_init rfl ml_L_62 (Nat.le_of_ble_eq_true rfl) (Nat.le_of_ble_eq_true rfl) (Nat.le_of_ble_eq_true rfl) rfl (Nat.le_of_ble_eq_true rfl) (fun v => ?_)
  refine j_astore_n (x := hm0) (lv' := [(2, .ref hm0), (1, .ref hb0), (0, .ref b)]) hX dL_law_15 16 rfl rfl (by decide) rfl ?_
  refine j_iconst (v := 1) hX dL_law_16 17 rfl (by decide) ?_
  refine j_newL 1 hX dL_law_17 19 rfl ac_J (by decide) rfl (by decide) (Nat.le_of_ble_eq_true rfl) (Nat.le_of_ble_eq_true rfl) (fun ao => ?_)
  refine j_astore_n (x := ao) (lv' := [(3, .ref ao), (2, .ref hm0), (1, .ref hb0), (0, .ref b)]) hX dL_law_19 20 rfl rfl (by decide) rfl ?_
  refine j_iconst (v := nI (6 * 0)) hX dL_law_20 21 rfl (by decide) ?_
  refine j_istore (lv' := [(4, .int (nI (6 * 0))), (3, .ref ao), (2, .ref hm0), (1, .ref hb0), (0, .ref b)]) hX dL_law_21 23 rfl (by decide) rfl ?_
  generalize hG : ((D, ct, B, sk, sv, mk0 hb0 u, mk0 hm0 v) : GT) = G
  have hX' : CX l G cL_law 7 RL Y := by rw [← hG]; exact hX
  have key := law_loop (G := G) (ao := ao) hst hmo hX' hQ (by rw [← hG]; exact hB) hx (by rw [← hG]; exact hb) hL (L + 1) 0 (by omega) (by omega) (tA := fun _ => 0) (tC := fun _ => 0) (fo := fun _ => 0) hI
  rw [txf_0] at key
  have key2 := j_perm (ws := (ao, .inl (gct G 3, 1, .inr (.inl (fun _ => 0)))) :: (WM G 0 0 0 0 0 0 (-1) (fun _ => 0) (fun _ => 0) (fun _ => 0) (fun _ => 0) (fun _ => 0) (fun _ => 0) (fun _ => 0) (fun _ => 0) (fun _ => 0) (fun _ => 0) (fun _ => 0) (fun _ => 0) (fun _ => 0) (fun _ => 0) (fun _ => 0) (fun _ => 0) (fun _ => 0) (fun _ => 0) (fun _ => 0) 0 0 0 0 0 0 0 0 0 0 (fun _ => 0) (fun _ => 0) (fun _ => 0) (fun _ => 0) (fun _ => 0) (fun _ => 0) ++ (WB G (fun _ => 0) (fun _ => 0) (fun _ => 0) (fun _ => 0) (fun _ => 0) (fun _ => 0) (fun _ => 0) (fun _ => 0) 0 (fun _ => 0) (fun _ => 0) (fun _ => 0) 0 (fun _ => 0) (-1) (-1) (-1) (-1) 0 (fun _ => 0) (fun _ => 0) (fun _ => 0) 0 (fun _ => 0) (fun _ => 0) 0 (fun _ => 0) 0 0 (-1) 0 (-1) (fun _ => none) (fun _ => 0) (fun _ => 0) 0 0 0 0 0 (fun _ => 0) (fun _ => 0) 0 (-1) ++ []))) perm_e key
  rw [← hG] at key2
  exact key2
