/-! the makers -/
theorem dfX0 : ∀ j, j < 8 → defaultValue (tyX0 j) = vp_V [.int 0, .int 0, .int 0, .int 0, .int 0, .null, .null, .null] j := by
  intro j hj
  rcases (show j = 0 ∨ j = 1 ∨ j = 2 ∨ j = 3 ∨ j = 4 ∨ j = 5 ∨ j = 6 ∨ j = 7 by omega) with rfl | rfl | rfl | rfl | rfl | rfl | rfl | rfl <;> rfl
theorem dfX1 : ∀ j, j < 14 → defaultValue (tyX1 j) = vp_V [.int 0, .int 0, .int 0, .int 0, .int 0, .int 0, .int 0, .int 0, .null, .null, .null, .null, .null, .null] j := by
  intro j hj
  rcases (show j = 0 ∨ j = 1 ∨ j = 2 ∨ j = 3 ∨ j = 4 ∨ j = 5 ∨ j = 6 ∨ j = 7 ∨ j = 8 ∨ j = 9 ∨ j = 10 ∨ j = 11 ∨ j = 12 ∨ j = 13 by omega) with rfl | rfl | rfl | rfl | rfl | rfl | rfl | rfl | rfl | rfl | rfl | rfl | rfl | rfl <;> rfl
theorem dfX2 : ∀ j, j < 3 → defaultValue (tyX2 j) = vp_V [.null, .int 0, .int 0] j := by
  intro j hj
  rcases (show j = 0 ∨ j = 1 ∨ j = 2 by omega) with rfl | rfl | rfl <;> rfl
theorem dfX3 : ∀ j, j < 6 → defaultValue (tyX3 j) = vp_V [.int 0, .int 0, .int 0, .null, .null, .null] j := by
  intro j hj
  rcases (show j = 0 ∨ j = 1 ∨ j = 2 ∨ j = 3 ∨ j = 4 ∨ j = 5 by omega) with rfl | rfl | rfl | rfl | rfl | rfl <;> rfl
theorem dfX4 : ∀ j, j < 6 → defaultValue (tyX4 j) = vp_V [.null, .null, .int 0, .int 0, .int 0, .int 0] j := by
  intro j hj
  rcases (show j = 0 ∨ j = 1 ∨ j = 2 ∨ j = 3 ∨ j = 4 ∨ j = 5 by omega) with rfl | rfl | rfl | rfl | rfl | rfl <;> rfl
theorem dfX5 : ∀ j, j < 13 → defaultValue (tyX5 j) = vp_V [.null, .null, .null, .null, .null, .null, .null, .null, .null, .int 0, .int 0, .int 0, .int 0] j := by
  intro j hj
  rcases (show j = 0 ∨ j = 1 ∨ j = 2 ∨ j = 3 ∨ j = 4 ∨ j = 5 ∨ j = 6 ∨ j = 7 ∨ j = 8 ∨ j = 9 ∨ j = 10 ∨ j = 11 ∨ j = 12 by omega) with rfl | rfl | rfl | rfl | rfl | rfl | rfl | rfl | rfl | rfl | rfl | rfl | rfl <;> rfl
theorem dfX6 : ∀ j, j < 33 → defaultValue (tyX6 j) = vp_V [.int 0, .int 0, .null, .int 0, .null, .int 0, .null, .null, .int 0, .null, .int 0, .int 0, .int 0, .int 0, .int 0, .int 0, .int 0, .null, .int 0, .null, .int 0, .null, .int 0, .null, .null, .null, .null, .int 0, .null, .null, .null, .null, .null] j := by
  intro j hj
  rcases (show j = 0 ∨ j = 1 ∨ j = 2 ∨ j = 3 ∨ j = 4 ∨ j = 5 ∨ j = 6 ∨ j = 7 ∨ j = 8 ∨ j = 9 ∨ j = 10 ∨ j = 11 ∨ j = 12 ∨ j = 13 ∨ j = 14 ∨ j = 15 ∨ j = 16 ∨ j = 17 ∨ j = 18 ∨ j = 19 ∨ j = 20 ∨ j = 21 ∨ j = 22 ∨ j = 23 ∨ j = 24 ∨ j = 25 ∨ j = 26 ∨ j = 27 ∨ j = 28 ∨ j = 29 ∨ j = 30 ∨ j = 31 ∨ j = 32 by omega) with rfl | rfl | rfl | rfl | rfl | rfl | rfl | rfl | rfl | rfl | rfl | rfl | rfl | rfl | rfl | rfl | rfl | rfl | rfl | rfl | rfl | rfl | rfl | rfl | rfl | rfl | rfl | rfl | rfl | rfl | rfl | rfl | rfl <;> rfl
set_option maxHeartbeats 4000000 in
set_option maxRecDepth 100000 in
theorem c_X0_init (l : Launch) (θ : zH) (h : Nat) : cMk l yX0_init wsX0_init 1 3 17 θ [.ref h] [(h, .inr (0, [.int 0, .int 0, .int 0, .int 0, .int 0, .null, .null, .null]))] (fun Y => ∃ q1 q2 q3 : Nat, Y = [(h, .inr (0, [.int 0, .int 0, .int 0, .int 0, .int 0, .ref q1, .ref q2, .ref q3])), (q1, .inl (θ.2.1, 6, .inl (fun _ => 0))), (q2, .inl (θ.2.1, 5, .inl (fun _ => 0))), (q3, .inl (θ.2.1, 6, .inl (fun _ => 0)))]) := by
  refine y_cN (by decide) rfl rfl rfl (Nat.le_of_ble_eq_true rfl) (lv := [(0, .ref h)]) rfl (fun κ C hI E => ?_)
  have hinX0 : ∀ w ∈ wsX00, w ∈ wsX0_init := by decide +kernel
  refine y_aload_n C dX0_init_0 rfl (show zlk _ 0 = some (.ref h) from rfl) ?_
  refine y_objInit C (by decide +kernel) (by decide +kernel) (by decide +kernel) (Nat.le_of_ble_eq_true rfl) (Nat.le_of_ble_eq_true rfl) dX0_init_1 ?_
  refine y_aload_n C dX0_init_4 rfl (show zlk _ 0 = some (.ref h) from rfl) ?_
  refine y_bipush C (v := nI 6) dX0_init_5 (by decide) ?_
  refine y_X (Y := ([(h, .inr (0, [.int 0, .int 0, .int 0, .int 0, .int 0, .null, .null, .null]))] : va_W) ++ []) rfl ?_
  refine y_newa C 6 (by decide +kernel) rfl (by decide) (Nat.le_of_ble_eq_true rfl) (Nat.le_of_ble_eq_true rfl) dX0_init_7 (fun q1 => ?_)
  refine y_X (Y := ([(h, .inr (0, [.int 0, .int 0, .int 0, .int 0, .int 0, .null, .null, .null])), (q1, .inl (θ.2.1, 6, .inl (fun _ => 0)))] : va_W)) rfl ?_
  refine y_putF C hI hinX0 tyX0 tyX0_ok nmX0 0 rfl rfl 5 (by decide) (by decide +kernel) rfl rfl rfl rfl rfl (Nat.le_of_ble_eq_true rfl) (([(h, .inr (0, [.int 0, .int 0, .int 0, .int 0, .int 0, .ref q1, .null, .null])), (q1, .inl (θ.2.1, 6, .inl (fun _ => 0)))] : va_W)) rfl dX0_init_9 ?_
  refine y_aload_n C dX0_init_12 rfl (show zlk _ 0 = some (.ref h) from rfl) ?_
  refine y_iconst C (v := nI 5) dX0_init_13 (by decide) ?_
  refine y_X (Y := ([(h, .inr (0, [.int 0, .int 0, .int 0, .int 0, .int 0, .ref q1, .null, .null])), (q1, .inl (θ.2.1, 6, .inl (fun _ => 0)))] : va_W) ++ []) rfl ?_
  refine y_newa C 5 (by decide +kernel) rfl (by decide) (Nat.le_of_ble_eq_true rfl) (Nat.le_of_ble_eq_true rfl) dX0_init_14 (fun q2 => ?_)
  refine y_X (Y := ([(h, .inr (0, [.int 0, .int 0, .int 0, .int 0, .int 0, .ref q1, .null, .null])), (q1, .inl (θ.2.1, 6, .inl (fun _ => 0))), (q2, .inl (θ.2.1, 5, .inl (fun _ => 0)))] : va_W)) rfl ?_
  refine y_putF C hI hinX0 tyX0 tyX0_ok nmX0 0 rfl rfl 6 (by decide) (by decide +kernel) rfl rfl rfl rfl rfl (Nat.le_of_ble_eq_true rfl) (([(h, .inr (0, [.int 0, .int 0, .int 0, .int 0, .int 0, .ref q1, .ref q2, .null])), (q1, .inl (θ.2.1, 6, .inl (fun _ => 0))), (q2, .inl (θ.2.1, 5, .inl (fun _ => 0)))] : va_W)) rfl dX0_init_16 ?_
  refine y_aload_n C dX0_init_19 rfl (show zlk _ 0 = some (.ref h) from rfl) ?_
  refine y_bipush C (v := nI 6) dX0_init_20 (by decide) ?_
  refine y_X (Y := ([(h, .inr (0, [.int 0, .int 0, .int 0, .int 0, .int 0, .ref q1, .ref q2, .null])), (q1, .inl (θ.2.1, 6, .inl (fun _ => 0))), (q2, .inl (θ.2.1, 5, .inl (fun _ => 0)))] : va_W) ++ []) rfl ?_
  refine y_newa C 6 (by decide +kernel) rfl (by decide) (Nat.le_of_ble_eq_true rfl) (Nat.le_of_ble_eq_true rfl) dX0_init_22 (fun q3 => ?_)
  refine y_X (Y := ([(h, .inr (0, [.int 0, .int 0, .int 0, .int 0, .int 0, .ref q1, .ref q2, .null])), (q1, .inl (θ.2.1, 6, .inl (fun _ => 0))), (q2, .inl (θ.2.1, 5, .inl (fun _ => 0))), (q3, .inl (θ.2.1, 6, .inl (fun _ => 0)))] : va_W)) rfl ?_
  refine y_putF C hI hinX0 tyX0 tyX0_ok nmX0 0 rfl rfl 7 (by decide) (by decide +kernel) rfl rfl rfl rfl rfl (Nat.le_of_ble_eq_true rfl) (([(h, .inr (0, [.int 0, .int 0, .int 0, .int 0, .int 0, .ref q1, .ref q2, .ref q3])), (q1, .inl (θ.2.1, 6, .inl (fun _ => 0))), (q2, .inl (θ.2.1, 5, .inl (fun _ => 0))), (q3, .inl (θ.2.1, 6, .inl (fun _ => 0)))] : va_W)) rfl dX0_init_24 ?_
  exact E _ _ _ ⟨q1, q2, q3, rfl⟩ dX0_init_27
set_option maxHeartbeats 4000000 in
set_option maxRecDepth 100000 in
theorem c_X3_init (l : Launch) (θ : zH) (h : Nat) : cMk l yX3_init wsX3_init 1 3 40 θ [.ref h] [(h, .inr (3, [.int 0, .int 0, .int 0, .null, .null, .null]))] (fun Y => ∃ q1 q2 q3 : Nat, Y = [(h, .inr (3, [.int 0, .int 0, .int 0, .ref q1, .ref q2, .ref q3])), (q1, .inl (θ.2.1, 30, .inl (fun _ => 0))), (q2, .inl (θ.2.1, 5, .inl (fun _ => 0))), (q3, .inl (θ.2.1, 5, .inl (fun _ => 0)))]) := by
  refine y_cN (by decide) rfl rfl rfl (Nat.le_of_ble_eq_true rfl) (lv := [(0, .ref h)]) rfl (fun κ C hI E => ?_)
  have hinX3 : ∀ w ∈ wsX30, w ∈ wsX3_init := by decide +kernel
  refine y_aload_n C dX3_init_0 rfl (show zlk _ 0 = some (.ref h) from rfl) ?_
  refine y_objInit C (by decide +kernel) (by decide +kernel) (by decide +kernel) (Nat.le_of_ble_eq_true rfl) (Nat.le_of_ble_eq_true rfl) dX3_init_1 ?_
  refine y_aload_n C dX3_init_4 rfl (show zlk _ 0 = some (.ref h) from rfl) ?_
  refine y_bipush C (v := nI 30) dX3_init_5 (by decide) ?_
  refine y_X (Y := ([(h, .inr (3, [.int 0, .int 0, .int 0, .null, .null, .null]))] : va_W) ++ []) rfl ?_
  refine y_newa C 30 (by decide +kernel) rfl (by decide) (Nat.le_of_ble_eq_true rfl) (Nat.le_of_ble_eq_true rfl) dX3_init_7 (fun q1 => ?_)
  refine y_X (Y := ([(h, .inr (3, [.int 0, .int 0, .int 0, .null, .null, .null])), (q1, .inl (θ.2.1, 30, .inl (fun _ => 0)))] : va_W)) rfl ?_
  refine y_putF C hI hinX3 tyX3 tyX3_ok nmX3 0 rfl rfl 3 (by decide) (by decide +kernel) rfl rfl rfl rfl rfl (Nat.le_of_ble_eq_true rfl) (([(h, .inr (3, [.int 0, .int 0, .int 0, .ref q1, .null, .null])), (q1, .inl (θ.2.1, 30, .inl (fun _ => 0)))] : va_W)) rfl dX3_init_9 ?_
  refine y_aload_n C dX3_init_12 rfl (show zlk _ 0 = some (.ref h) from rfl) ?_
  refine y_iconst C (v := nI 5) dX3_init_13 (by decide) ?_
  refine y_X (Y := ([(h, .inr (3, [.int 0, .int 0, .int 0, .ref q1, .null, .null])), (q1, .inl (θ.2.1, 30, .inl (fun _ => 0)))] : va_W) ++ []) rfl ?_
  refine y_newa C 5 (by decide +kernel) rfl (by decide) (Nat.le_of_ble_eq_true rfl) (Nat.le_of_ble_eq_true rfl) dX3_init_14 (fun q2 => ?_)
  refine y_X (Y := ([(h, .inr (3, [.int 0, .int 0, .int 0, .ref q1, .null, .null])), (q1, .inl (θ.2.1, 30, .inl (fun _ => 0))), (q2, .inl (θ.2.1, 5, .inl (fun _ => 0)))] : va_W)) rfl ?_
  refine y_putF C hI hinX3 tyX3 tyX3_ok nmX3 0 rfl rfl 4 (by decide) (by decide +kernel) rfl rfl rfl rfl rfl (Nat.le_of_ble_eq_true rfl) (([(h, .inr (3, [.int 0, .int 0, .int 0, .ref q1, .ref q2, .null])), (q1, .inl (θ.2.1, 30, .inl (fun _ => 0))), (q2, .inl (θ.2.1, 5, .inl (fun _ => 0)))] : va_W)) rfl dX3_init_16 ?_
  refine y_aload_n C dX3_init_19 rfl (show zlk _ 0 = some (.ref h) from rfl) ?_
  refine y_iconst C (v := nI 5) dX3_init_20 (by decide) ?_
  refine y_X (Y := ([(h, .inr (3, [.int 0, .int 0, .int 0, .ref q1, .ref q2, .null])), (q1, .inl (θ.2.1, 30, .inl (fun _ => 0))), (q2, .inl (θ.2.1, 5, .inl (fun _ => 0)))] : va_W) ++ []) rfl ?_
  refine y_newa C 5 (by decide +kernel) rfl (by decide) (Nat.le_of_ble_eq_true rfl) (Nat.le_of_ble_eq_true rfl) dX3_init_21 (fun q3 => ?_)
  refine y_X (Y := ([(h, .inr (3, [.int 0, .int 0, .int 0, .ref q1, .ref q2, .null])), (q1, .inl (θ.2.1, 30, .inl (fun _ => 0))), (q2, .inl (θ.2.1, 5, .inl (fun _ => 0))), (q3, .inl (θ.2.1, 5, .inl (fun _ => 0)))] : va_W)) rfl ?_
  refine y_putF C hI hinX3 tyX3 tyX3_ok nmX3 0 rfl rfl 5 (by decide) (by decide +kernel) rfl rfl rfl rfl rfl (Nat.le_of_ble_eq_true rfl) (([(h, .inr (3, [.int 0, .int 0, .int 0, .ref q1, .ref q2, .ref q3])), (q1, .inl (θ.2.1, 30, .inl (fun _ => 0))), (q2, .inl (θ.2.1, 5, .inl (fun _ => 0))), (q3, .inl (θ.2.1, 5, .inl (fun _ => 0)))] : va_W)) rfl dX3_init_23 ?_
  exact E _ _ _ ⟨q1, q2, q3, rfl⟩ dX3_init_26
def av7 (a0 a1 a2 a3 a4 a5 a6 : Nat) : Nat → Nat := fun k => match k with
  | 0 => a0
  | 1 => a1
  | 2 => a2
  | 3 => a3
  | 4 => a4
  | 5 => a5
  | _ => a6
/-- an evening as it is made -/
def evI (e : Ev) : Prop := e.1 = (nI 0, nI 0, nI 0, false, nI 0, 0, 0, 0) ∧ (∀ w : Nat, w < 5 → e.2.2.1 w = (-1)) ∧ (∀ q : Nat, q < 4 → e.2.2.2.1 q = nI 0)
set_option maxHeartbeats 4000000 in
set_option maxRecDepth 100000 in
theorem c_X1_init (l : Launch) (θ : zH) (h : Nat) : cMk l yX1_init wsX1_init 1 6 74 θ [.ref h] [(h, .inr (1, [.int 0, .int 0, .int 0, .int 0, .int 0, .int 0, .int 0, .int 0, .null, .null, .null, .null, .null, .null]))] (fun Y => ∃ (a : Nat → Nat) (e : Ev), a 0 = h ∧ evI e ∧ Y = evc θ (fun _ => a) 0 e) := by
  refine y_cN (by decide) rfl rfl rfl (Nat.le_of_ble_eq_true rfl) (lv := [(0, .ref h)]) rfl (fun κ C hI E => ?_)
  have hinX1 : ∀ w ∈ wsX10, w ∈ wsX1_init := by decide +kernel
  refine y_aload_n C dX1_init_0 rfl (show zlk _ 0 = some (.ref h) from rfl) ?_
  refine y_objInit C (by decide +kernel) (by decide +kernel) (by decide +kernel) (Nat.le_of_ble_eq_true rfl) (Nat.le_of_ble_eq_true rfl) dX1_init_1 ?_
  refine y_aload_n C dX1_init_4 rfl (show zlk _ 0 = some (.ref h) from rfl) ?_
  refine y_iconst C (v := nI 5) dX1_init_5 (by decide) ?_
  refine y_X (Y := ([(h, .inr (1, [.int 0, .int 0, .int 0, .int 0, .int 0, .int 0, .int 0, .int 0, .null, .null, .null, .null, .null, .null]))] : va_W) ++ []) rfl ?_
  refine y_newa C 5 (by decide +kernel) rfl (by decide) (Nat.le_of_ble_eq_true rfl) (Nat.le_of_ble_eq_true rfl) dX1_init_6 (fun q1 => ?_)
  refine y_X (Y := ([(h, .inr (1, [.int 0, .int 0, .int 0, .int 0, .int 0, .int 0, .int 0, .int 0, .null, .null, .null, .null, .null, .null])), (q1, .inl (θ.2.1, 5, .inl (fun _ => 0)))] : va_W)) rfl ?_
  refine y_putF C hI hinX1 tyX1 tyX1_ok nmX1 0 rfl rfl 8 (by decide) (by decide +kernel) rfl rfl rfl rfl rfl (Nat.le_of_ble_eq_true rfl) (([(h, .inr (1, [.int 0, .int 0, .int 0, .int 0, .int 0, .int 0, .int 0, .int 0, .ref q1, .null, .null, .null, .null, .null])), (q1, .inl (θ.2.1, 5, .inl (fun _ => 0)))] : va_W)) rfl dX1_init_8 ?_
  refine y_aload_n C dX1_init_11 rfl (show zlk _ 0 = some (.ref h) from rfl) ?_
  refine y_iconst C (v := nI 5) dX1_init_12 (by decide) ?_
  refine y_X (Y := ([(h, .inr (1, [.int 0, .int 0, .int 0, .int 0, .int 0, .int 0, .int 0, .int 0, .ref q1, .null, .null, .null, .null, .null])), (q1, .inl (θ.2.1, 5, .inl (fun _ => 0)))] : va_W) ++ []) rfl ?_
  refine y_newa C 5 (by decide +kernel) rfl (by decide) (Nat.le_of_ble_eq_true rfl) (Nat.le_of_ble_eq_true rfl) dX1_init_13 (fun q2 => ?_)
  refine y_X (Y := ([(h, .inr (1, [.int 0, .int 0, .int 0, .int 0, .int 0, .int 0, .int 0, .int 0, .ref q1, .null, .null, .null, .null, .null])), (q1, .inl (θ.2.1, 5, .inl (fun _ => 0))), (q2, .inl (θ.2.1, 5, .inl (fun _ => 0)))] : va_W)) rfl ?_
  refine y_putF C hI hinX1 tyX1 tyX1_ok nmX1 0 rfl rfl 9 (by decide) (by decide +kernel) rfl rfl rfl rfl rfl (Nat.le_of_ble_eq_true rfl) (([(h, .inr (1, [.int 0, .int 0, .int 0, .int 0, .int 0, .int 0, .int 0, .int 0, .ref q1, .ref q2, .null, .null, .null, .null])), (q1, .inl (θ.2.1, 5, .inl (fun _ => 0))), (q2, .inl (θ.2.1, 5, .inl (fun _ => 0)))] : va_W)) rfl dX1_init_15 ?_
  refine y_aload_n C dX1_init_18 rfl (show zlk _ 0 = some (.ref h) from rfl) ?_
  refine y_iconst C (v := nI 4) dX1_init_19 (by decide) ?_
  refine y_X (Y := ([(h, .inr (1, [.int 0, .int 0, .int 0, .int 0, .int 0, .int 0, .int 0, .int 0, .ref q1, .ref q2, .null, .null, .null, .null])), (q1, .inl (θ.2.1, 5, .inl (fun _ => 0))), (q2, .inl (θ.2.1, 5, .inl (fun _ => 0)))] : va_W) ++ []) rfl ?_
  refine y_newa C 4 (by decide +kernel) rfl (by decide) (Nat.le_of_ble_eq_true rfl) (Nat.le_of_ble_eq_true rfl) dX1_init_20 (fun q3 => ?_)
  refine y_X (Y := ([(h, .inr (1, [.int 0, .int 0, .int 0, .int 0, .int 0, .int 0, .int 0, .int 0, .ref q1, .ref q2, .null, .null, .null, .null])), (q1, .inl (θ.2.1, 5, .inl (fun _ => 0))), (q2, .inl (θ.2.1, 5, .inl (fun _ => 0))), (q3, .inl (θ.2.1, 4, .inl (fun _ => 0)))] : va_W)) rfl ?_
  refine y_putF C hI hinX1 tyX1 tyX1_ok nmX1 0 rfl rfl 10 (by decide) (by decide +kernel) rfl rfl rfl rfl rfl (Nat.le_of_ble_eq_true rfl) (([(h, .inr (1, [.int 0, .int 0, .int 0, .int 0, .int 0, .int 0, .int 0, .int 0, .ref q1, .ref q2, .ref q3, .null, .null, .null])), (q1, .inl (θ.2.1, 5, .inl (fun _ => 0))), (q2, .inl (θ.2.1, 5, .inl (fun _ => 0))), (q3, .inl (θ.2.1, 4, .inl (fun _ => 0)))] : va_W)) rfl dX1_init_22 ?_
  refine y_aload_n C dX1_init_25 rfl (show zlk _ 0 = some (.ref h) from rfl) ?_
  refine y_bipush C (v := nI 20) dX1_init_26 (by decide) ?_
  refine y_X (Y := ([(h, .inr (1, [.int 0, .int 0, .int 0, .int 0, .int 0, .int 0, .int 0, .int 0, .ref q1, .ref q2, .ref q3, .null, .null, .null])), (q1, .inl (θ.2.1, 5, .inl (fun _ => 0))), (q2, .inl (θ.2.1, 5, .inl (fun _ => 0))), (q3, .inl (θ.2.1, 4, .inl (fun _ => 0)))] : va_W) ++ []) rfl ?_
  refine y_newa C 20 (by decide +kernel) rfl (by decide) (Nat.le_of_ble_eq_true rfl) (Nat.le_of_ble_eq_true rfl) dX1_init_28 (fun q4 => ?_)
  refine y_X (Y := ([(h, .inr (1, [.int 0, .int 0, .int 0, .int 0, .int 0, .int 0, .int 0, .int 0, .ref q1, .ref q2, .ref q3, .null, .null, .null])), (q1, .inl (θ.2.1, 5, .inl (fun _ => 0))), (q2, .inl (θ.2.1, 5, .inl (fun _ => 0))), (q3, .inl (θ.2.1, 4, .inl (fun _ => 0))), (q4, .inl (θ.2.1, 20, .inl (fun _ => 0)))] : va_W)) rfl ?_
  refine y_putF C hI hinX1 tyX1 tyX1_ok nmX1 0 rfl rfl 11 (by decide) (by decide +kernel) rfl rfl rfl rfl rfl (Nat.le_of_ble_eq_true rfl) (([(h, .inr (1, [.int 0, .int 0, .int 0, .int 0, .int 0, .int 0, .int 0, .int 0, .ref q1, .ref q2, .ref q3, .ref q4, .null, .null])), (q1, .inl (θ.2.1, 5, .inl (fun _ => 0))), (q2, .inl (θ.2.1, 5, .inl (fun _ => 0))), (q3, .inl (θ.2.1, 4, .inl (fun _ => 0))), (q4, .inl (θ.2.1, 20, .inl (fun _ => 0)))] : va_W)) rfl dX1_init_30 ?_
  refine y_aload_n C dX1_init_33 rfl (show zlk _ 0 = some (.ref h) from rfl) ?_
  refine y_bipush C (v := nI 20) dX1_init_34 (by decide) ?_
  refine y_X (Y := ([(h, .inr (1, [.int 0, .int 0, .int 0, .int 0, .int 0, .int 0, .int 0, .int 0, .ref q1, .ref q2, .ref q3, .ref q4, .null, .null])), (q1, .inl (θ.2.1, 5, .inl (fun _ => 0))), (q2, .inl (θ.2.1, 5, .inl (fun _ => 0))), (q3, .inl (θ.2.1, 4, .inl (fun _ => 0))), (q4, .inl (θ.2.1, 20, .inl (fun _ => 0)))] : va_W) ++ []) rfl ?_
  refine y_newa C 20 (by decide +kernel) rfl (by decide) (Nat.le_of_ble_eq_true rfl) (Nat.le_of_ble_eq_true rfl) dX1_init_36 (fun q5 => ?_)
  refine y_X (Y := ([(h, .inr (1, [.int 0, .int 0, .int 0, .int 0, .int 0, .int 0, .int 0, .int 0, .ref q1, .ref q2, .ref q3, .ref q4, .null, .null])), (q1, .inl (θ.2.1, 5, .inl (fun _ => 0))), (q2, .inl (θ.2.1, 5, .inl (fun _ => 0))), (q3, .inl (θ.2.1, 4, .inl (fun _ => 0))), (q4, .inl (θ.2.1, 20, .inl (fun _ => 0))), (q5, .inl (θ.2.1, 20, .inl (fun _ => 0)))] : va_W)) rfl ?_
  refine y_putF C hI hinX1 tyX1 tyX1_ok nmX1 0 rfl rfl 12 (by decide) (by decide +kernel) rfl rfl rfl rfl rfl (Nat.le_of_ble_eq_true rfl) (([(h, .inr (1, [.int 0, .int 0, .int 0, .int 0, .int 0, .int 0, .int 0, .int 0, .ref q1, .ref q2, .ref q3, .ref q4, .ref q5, .null])), (q1, .inl (θ.2.1, 5, .inl (fun _ => 0))), (q2, .inl (θ.2.1, 5, .inl (fun _ => 0))), (q3, .inl (θ.2.1, 4, .inl (fun _ => 0))), (q4, .inl (θ.2.1, 20, .inl (fun _ => 0))), (q5, .inl (θ.2.1, 20, .inl (fun _ => 0)))] : va_W)) rfl dX1_init_38 ?_
  refine y_aload_n C dX1_init_41 rfl (show zlk _ 0 = some (.ref h) from rfl) ?_
  refine y_bipush C (v := nI 20) dX1_init_42 (by decide) ?_
  refine y_X (Y := ([(h, .inr (1, [.int 0, .int 0, .int 0, .int 0, .int 0, .int 0, .int 0, .int 0, .ref q1, .ref q2, .ref q3, .ref q4, .ref q5, .null])), (q1, .inl (θ.2.1, 5, .inl (fun _ => 0))), (q2, .inl (θ.2.1, 5, .inl (fun _ => 0))), (q3, .inl (θ.2.1, 4, .inl (fun _ => 0))), (q4, .inl (θ.2.1, 20, .inl (fun _ => 0))), (q5, .inl (θ.2.1, 20, .inl (fun _ => 0)))] : va_W) ++ []) rfl ?_
  refine y_newa C 20 (by decide +kernel) rfl (by decide) (Nat.le_of_ble_eq_true rfl) (Nat.le_of_ble_eq_true rfl) dX1_init_44 (fun q6 => ?_)
  refine y_X (Y := ([(h, .inr (1, [.int 0, .int 0, .int 0, .int 0, .int 0, .int 0, .int 0, .int 0, .ref q1, .ref q2, .ref q3, .ref q4, .ref q5, .null])), (q1, .inl (θ.2.1, 5, .inl (fun _ => 0))), (q2, .inl (θ.2.1, 5, .inl (fun _ => 0))), (q3, .inl (θ.2.1, 4, .inl (fun _ => 0))), (q4, .inl (θ.2.1, 20, .inl (fun _ => 0))), (q5, .inl (θ.2.1, 20, .inl (fun _ => 0))), (q6, .inl (θ.2.1, 20, .inl (fun _ => 0)))] : va_W)) rfl ?_
  refine y_putF C hI hinX1 tyX1 tyX1_ok nmX1 0 rfl rfl 13 (by decide) (by decide +kernel) rfl rfl rfl rfl rfl (Nat.le_of_ble_eq_true rfl) (([(h, .inr (1, [.int 0, .int 0, .int 0, .int 0, .int 0, .int 0, .int 0, .int 0, .ref q1, .ref q2, .ref q3, .ref q4, .ref q5, .ref q6])), (q1, .inl (θ.2.1, 5, .inl (fun _ => 0))), (q2, .inl (θ.2.1, 5, .inl (fun _ => 0))), (q3, .inl (θ.2.1, 4, .inl (fun _ => 0))), (q4, .inl (θ.2.1, 20, .inl (fun _ => 0))), (q5, .inl (θ.2.1, 20, .inl (fun _ => 0))), (q6, .inl (θ.2.1, 20, .inl (fun _ => 0)))] : va_W)) rfl dX1_init_46 ?_
  refine y_iconst C (v := nI 0) dX1_init_49 (by decide) ?_
  refine y_istore_n C [(1, .int (nI 0)), (0, .ref h)] dX1_init_50 rfl (by decide) rfl ?_
  refine y_iload_n C dX1_init_51 rfl (show zlk _ 1 = some (.int (nI 0)) from rfl) ?_
  refine y_iconst C (v := nI 5) dX1_init_52 (by decide) ?_
  refine y_icmp_ge C 69 dX1_init_53 (by decide) (fun c => absurd c (by decide)) (fun _ => ?_)
  refine y_aload_n C dX1_init_56 rfl (show zlk _ 0 = some (.ref h) from rfl) ?_
  refine y_get C hinX1 0 rfl rfl 9 (by decide) (by decide +kernel) rfl dX1_init_57 ?_
  refine y_iload_n C dX1_init_60 rfl (show zlk _ 1 = some (.int (nI 0)) from rfl) ?_
  refine y_iconst C (v := (-1)) dX1_init_61 (by decide) ?_
  refine y_iast C 2 rfl 0 rfl (by decide) (by decide) (([(h, .inr (1, [.int 0, .int 0, .int 0, .int 0, .int 0, .int 0, .int 0, .int 0, .ref q1, .ref q2, .ref q3, .ref q4, .ref q5, .ref q6])), (q1, .inl (θ.2.1, 5, .inl (fun _ => 0))), (q2, .inl (θ.2.1, 5, .inl (upd (fun _ => 0) 0 (-1)))), (q3, .inl (θ.2.1, 4, .inl (fun _ => 0))), (q4, .inl (θ.2.1, 20, .inl (fun _ => 0))), (q5, .inl (θ.2.1, 20, .inl (fun _ => 0))), (q6, .inl (θ.2.1, 20, .inl (fun _ => 0)))] : va_W)) rfl dX1_init_62 ?_
  refine y_iinc C (v := nI 1) [(1, .int (nI 1)), (0, .ref h)] dX1_init_63 rfl (by decide) (by decide) rfl ?_
  refine y_goto C 51 dX1_init_66 (by decide) ?_
  refine y_iload_n C dX1_init_51 rfl (show zlk _ 1 = some (.int (nI 1)) from rfl) ?_
  refine y_iconst C (v := nI 5) dX1_init_52 (by decide) ?_
  refine y_icmp_ge C 69 dX1_init_53 (by decide) (fun c => absurd c (by decide)) (fun _ => ?_)
  refine y_aload_n C dX1_init_56 rfl (show zlk _ 0 = some (.ref h) from rfl) ?_
  refine y_get C hinX1 0 rfl rfl 9 (by decide) (by decide +kernel) rfl dX1_init_57 ?_
  refine y_iload_n C dX1_init_60 rfl (show zlk _ 1 = some (.int (nI 1)) from rfl) ?_
  refine y_iconst C (v := (-1)) dX1_init_61 (by decide) ?_
  refine y_iast C 2 rfl 1 rfl (by decide) (by decide) (([(h, .inr (1, [.int 0, .int 0, .int 0, .int 0, .int 0, .int 0, .int 0, .int 0, .ref q1, .ref q2, .ref q3, .ref q4, .ref q5, .ref q6])), (q1, .inl (θ.2.1, 5, .inl (fun _ => 0))), (q2, .inl (θ.2.1, 5, .inl (upd (upd (fun _ => 0) 0 (-1)) 1 (-1)))), (q3, .inl (θ.2.1, 4, .inl (fun _ => 0))), (q4, .inl (θ.2.1, 20, .inl (fun _ => 0))), (q5, .inl (θ.2.1, 20, .inl (fun _ => 0))), (q6, .inl (θ.2.1, 20, .inl (fun _ => 0)))] : va_W)) rfl dX1_init_62 ?_
  refine y_iinc C (v := nI 2) [(1, .int (nI 2)), (0, .ref h)] dX1_init_63 rfl (by decide) (by decide) rfl ?_
  refine y_goto C 51 dX1_init_66 (by decide) ?_
  refine y_iload_n C dX1_init_51 rfl (show zlk _ 1 = some (.int (nI 2)) from rfl) ?_
  refine y_iconst C (v := nI 5) dX1_init_52 (by decide) ?_
  refine y_icmp_ge C 69 dX1_init_53 (by decide) (fun c => absurd c (by decide)) (fun _ => ?_)
  refine y_aload_n C dX1_init_56 rfl (show zlk _ 0 = some (.ref h) from rfl) ?_
  refine y_get C hinX1 0 rfl rfl 9 (by decide) (by decide +kernel) rfl dX1_init_57 ?_
  refine y_iload_n C dX1_init_60 rfl (show zlk _ 1 = some (.int (nI 2)) from rfl) ?_
  refine y_iconst C (v := (-1)) dX1_init_61 (by decide) ?_
  refine y_iast C 2 rfl 2 rfl (by decide) (by decide) (([(h, .inr (1, [.int 0, .int 0, .int 0, .int 0, .int 0, .int 0, .int 0, .int 0, .ref q1, .ref q2, .ref q3, .ref q4, .ref q5, .ref q6])), (q1, .inl (θ.2.1, 5, .inl (fun _ => 0))), (q2, .inl (θ.2.1, 5, .inl (upd (upd (upd (fun _ => 0) 0 (-1)) 1 (-1)) 2 (-1)))), (q3, .inl (θ.2.1, 4, .inl (fun _ => 0))), (q4, .inl (θ.2.1, 20, .inl (fun _ => 0))), (q5, .inl (θ.2.1, 20, .inl (fun _ => 0))), (q6, .inl (θ.2.1, 20, .inl (fun _ => 0)))] : va_W)) rfl dX1_init_62 ?_
  refine y_iinc C (v := nI 3) [(1, .int (nI 3)), (0, .ref h)] dX1_init_63 rfl (by decide) (by decide) rfl ?_
  refine y_goto C 51 dX1_init_66 (by decide) ?_
  refine y_iload_n C dX1_init_51 rfl (show zlk _ 1 = some (.int (nI 3)) from rfl) ?_
  refine y_iconst C (v := nI 5) dX1_init_52 (by decide) ?_
  refine y_icmp_ge C 69 dX1_init_53 (by decide) (fun c => absurd c (by decide)) (fun _ => ?_)
  refine y_aload_n C dX1_init_56 rfl (show zlk _ 0 = some (.ref h) from rfl) ?_
  refine y_get C hinX1 0 rfl rfl 9 (by decide) (by decide +kernel) rfl dX1_init_57 ?_
  refine y_iload_n C dX1_init_60 rfl (show zlk _ 1 = some (.int (nI 3)) from rfl) ?_
  refine y_iconst C (v := (-1)) dX1_init_61 (by decide) ?_
  refine y_iast C 2 rfl 3 rfl (by decide) (by decide) (([(h, .inr (1, [.int 0, .int 0, .int 0, .int 0, .int 0, .int 0, .int 0, .int 0, .ref q1, .ref q2, .ref q3, .ref q4, .ref q5, .ref q6])), (q1, .inl (θ.2.1, 5, .inl (fun _ => 0))), (q2, .inl (θ.2.1, 5, .inl (upd (upd (upd (upd (fun _ => 0) 0 (-1)) 1 (-1)) 2 (-1)) 3 (-1)))), (q3, .inl (θ.2.1, 4, .inl (fun _ => 0))), (q4, .inl (θ.2.1, 20, .inl (fun _ => 0))), (q5, .inl (θ.2.1, 20, .inl (fun _ => 0))), (q6, .inl (θ.2.1, 20, .inl (fun _ => 0)))] : va_W)) rfl dX1_init_62 ?_
  refine y_iinc C (v := nI 4) [(1, .int (nI 4)), (0, .ref h)] dX1_init_63 rfl (by decide) (by decide) rfl ?_
  refine y_goto C 51 dX1_init_66 (by decide) ?_
  refine y_iload_n C dX1_init_51 rfl (show zlk _ 1 = some (.int (nI 4)) from rfl) ?_
  refine y_iconst C (v := nI 5) dX1_init_52 (by decide) ?_
  refine y_icmp_ge C 69 dX1_init_53 (by decide) (fun c => absurd c (by decide)) (fun _ => ?_)
  refine y_aload_n C dX1_init_56 rfl (show zlk _ 0 = some (.ref h) from rfl) ?_
  refine y_get C hinX1 0 rfl rfl 9 (by decide) (by decide +kernel) rfl dX1_init_57 ?_
  refine y_iload_n C dX1_init_60 rfl (show zlk _ 1 = some (.int (nI 4)) from rfl) ?_
  refine y_iconst C (v := (-1)) dX1_init_61 (by decide) ?_
  refine y_iast C 2 rfl 4 rfl (by decide) (by decide) (([(h, .inr (1, [.int 0, .int 0, .int 0, .int 0, .int 0, .int 0, .int 0, .int 0, .ref q1, .ref q2, .ref q3, .ref q4, .ref q5, .ref q6])), (q1, .inl (θ.2.1, 5, .inl (fun _ => 0))), (q2, .inl (θ.2.1, 5, .inl (upd (upd (upd (upd (upd (fun _ => 0) 0 (-1)) 1 (-1)) 2 (-1)) 3 (-1)) 4 (-1)))), (q3, .inl (θ.2.1, 4, .inl (fun _ => 0))), (q4, .inl (θ.2.1, 20, .inl (fun _ => 0))), (q5, .inl (θ.2.1, 20, .inl (fun _ => 0))), (q6, .inl (θ.2.1, 20, .inl (fun _ => 0)))] : va_W)) rfl dX1_init_62 ?_
  refine y_iinc C (v := nI 5) [(1, .int (nI 5)), (0, .ref h)] dX1_init_63 rfl (by decide) (by decide) rfl ?_
  refine y_goto C 51 dX1_init_66 (by decide) ?_
  refine y_iload_n C dX1_init_51 rfl (show zlk _ 1 = some (.int (nI 5)) from rfl) ?_
  refine y_iconst C (v := nI 5) dX1_init_52 (by decide) ?_
  refine y_icmp_ge C 69 dX1_init_53 (by decide) (fun _ => ?_) (fun c => absurd (by decide) c)
  refine E _ _ _ ⟨av7 h q1 q2 q3 q4 q5 q6, ((nI 0, nI 0, nI 0, false, nI 0, 0, 0, 0), ((fun _ => 0), (upd (upd (upd (upd (upd (fun _ => 0) 0 (-1)) 1 (-1)) 2 (-1)) 3 (-1)) 4 (-1)), (fun _ => 0), (fun _ => 0), (fun _ => 0), (fun _ => 0))), rfl, ⟨rfl, fun w hw => ?_, fun q hq => rfl⟩, rfl⟩ dX1_init_69
  rcases (show w = 0 ∨ w = 1 ∨ w = 2 ∨ w = 3 ∨ w = 4 by omega) with rfl | rfl | rfl | rfl | rfl <;> rfl
def evl (θ : zH) (ea : Nat → Nat → Nat) (V : Nat → Ev) : Nat → va_W
  | 0 => []
  | k + 1 => evl θ ea V k ++ evc θ ea k (V k)
theorem evl_c {θ : zH} {ea ea1 : Nat → Nat → Nat} {V V1 : Nat → Ev} : ∀ k : Nat, (∀ i, i < k → ea1 i = ea i) → (∀ i, i < k → V1 i = V i) → evl θ ea1 V1 k = evl θ ea V k
  | 0, _, _ => rfl
  | k + 1, h1, h2 => by
    unfold evl
    rw [evl_c k (fun i hi => h1 i (by omega)) (fun i hi => h2 i (by omega))]
    unfold evc
    rw [h1 k (by omega), h2 k (by omega)]
def qf (ea : Nat → Nat → Nat) (k : Nat) : Nat → Option Nat := fun i => if i < k then some (ea i 0) else none
theorem qf_up {ea : Nat → Nat → Nat} {k : Nat} {a : Nat → Nat} : va_up (qf ea k) k (some (a 0)) = qf (va_up ea k a) (k + 1) := by
  funext i
  unfold qf va_up
  by_cases h : i = k
  · subst h; simp
  · by_cases h2 : i < k
    · have h3 : i < k + 1 := by omega
      simp [h, h2, h3]
    · have h3 : ¬ i < k + 1 := by omega
      simp [h, h2, h3]
theorem evl_up {θ : zH} {ea : Nat → Nat → Nat} {V : Nat → Ev} {k : Nat} {a : Nat → Nat} {e : Ev} : evl θ ea V k ++ evc θ (fun _ => a) 0 e = evl θ (va_up ea k a) (va_up V k e) (k + 1) := by
  show _ = evl θ (va_up ea k a) (va_up V k e) k ++ evc θ (va_up ea k a) k (va_up V k e k)
  rw [evl_c (ea := ea) (V := V) k (fun i hi => va_up_ne _ _ (by omega)) (fun i hi => va_up_ne _ _ (by omega))]
  unfold evc
  rw [va_up_self, va_up_self]
set_option maxHeartbeats 4000000 in
set_option maxRecDepth 100000 in
theorem X2_loop {l : Launch} {θ : zH} {h qa : Nat} {κ : zX} (C : yC κ l cX2_init 2 RX2 wsX2_init (yr 2 113 1424) θ)
    (E : ∀ (ea : Nat → Nat → Nat) (V : Nat → Ev) (lv : List (Nat × Value)), yJ κ (([(h, .inr (2, [.ref qa, .int 0, .int 0])), (qa, .inl (θ.2.2.2, 16, .inr (.inr (.inr (.inr (qf ea 16))))))] : va_W) ++ evl θ ea V 16) 113 1424 40 lv []) :
    ∀ k : Nat, k ≤ 16 → ∀ (ea : Nat → Nat → Nat) (V : Nat → Ev), yJ κ (([(h, .inr (2, [.ref qa, .int 0, .int 0])), (qa, .inl (θ.2.2.2, 16, .inr (.inr (.inr (.inr (qf ea k))))))] : va_W) ++ evl θ ea V k) (1 + 7 * k) (16 + 88 * k) 15 [(1, .int (nI k)), (0, .ref h)] [] := by
  have hinX2 : ∀ w ∈ wsX20, w ∈ wsX2_init := by decide +kernel
  have hinX1 : ∀ w ∈ wsX10, w ∈ wsX2_init := by decide +kernel
  refine fun k hk => z_up (fun k => ∀ (ea : Nat → Nat → Nat) (V : Nat → Ev), yJ κ (([(h, .inr (2, [.ref qa, .int 0, .int 0])), (qa, .inl (θ.2.2.2, 16, .inr (.inr (.inr (.inr (qf ea k))))))] : va_W) ++ evl θ ea V k) (1 + 7 * k) (16 + 88 * k) 15 [(1, .int (nI k)), (0, .ref h)] []) 16 (fun ea V => ?_) (fun k hk ih ea V => ?_) k hk
  · refine y_iload_n C dX2_init_15 rfl (show zlk _ 1 = some (.int (nI 16)) from rfl) ?_
    refine y_bipush C (v := nI 16) dX2_init_16 (by decide) ?_
    refine y_icmp_ge C 40 dX2_init_18 (by decide) (fun _ => ?_) (fun c => absurd (by decide) c)
    exact E ea V _
  · refine y_iload_n C dX2_init_15 rfl (show zlk _ 1 = some (.int (nI k)) from rfl) ?_
    refine y_bipush C (v := nI 16) dX2_init_16 (by decide) ?_
    refine y_icmp_ge C 40 dX2_init_18 (by decide) (fun c => absurd c (by rw [zf_le, nI_toInt (n := 16) (by decide), nI_toInt (n := k) (by omega)]; omega)) (fun _ => ?_)
    refine y_aload_n C dX2_init_21 rfl (show zlk _ 0 = some (.ref h) from rfl) ?_
    refine y_get C hinX2 0 rfl rfl 0 (by decide) (by decide +kernel) rfl dX2_init_22 ?_
    refine y_iload_n C dX2_init_25 rfl (show zlk _ 1 = some (.int (nI k)) from rfl) ?_
    have hc1 : 1 + 7 * k + 1 ≤ 113 := by omega
    have hs1 : 16 + 88 * k + 14 ≤ 1424 := by omega
    have hc2 : 1 + 7 * k + 1 + 6 ≤ 113 := by omega
    have hs2 : 16 + 88 * k + 14 + 74 ≤ 1424 := by omega
    refine y_new C (ci := 1) [.int 0, .int 0, .int 0, .int 0, .int 0, .int 0, .int 0, .int 0, .null, .null, .null, .null, .null, .null] hinX1 tyX1 tyX1_ok (by decide +kernel) (by decide +kernel) (by decide +kernel) rfl dfX1 hc1 hs1 dX2_init_26 (fun q => ?_)
    refine y_dup C dX2_init_29 rfl ?_
    refine y_ctorN C (host := "GnatPortraits") (F := ([(h, .inr (2, [.ref qa, .int 0, .int 0])), (qa, .inl (θ.2.2.2, 16, .inr (.inr (.inr (.inr (qf ea k))))))] : va_W) ++ evl θ ea V k) (rest := [.ref q, .int (nI k), .ref qa]) (c_X1_init l θ q) gX2_init_X1_init_n17 rfl (by decide +kernel) (by decide +kernel) (by decide +kernel) rfl (by decide +kernel) ⟨Nat.le_of_ble_eq_true rfl, Nat.le_of_ble_eq_true rfl⟩ ⟨hc2, hs2⟩ (Nat.le_of_ble_eq_true rfl) dX2_init_30 (fun Y hY => ?_)
    obtain ⟨a, e, rfl, he, rfl⟩ := hY
    refine y_astq C 1 ((([(h, .inr (2, [.ref qa, .int 0, .int 0])), (qa, .inl (θ.2.2.2, 16, .inr (.inr (.inr (.inr (qf ea k))))))] : va_W) ++ evl θ ea V k).length) rfl (by rw [List.getElem?_append_right (Nat.le_refl _), Nat.sub_self]; rfl) k rfl hk (by decide) ((([(h, .inr (2, [.ref qa, .int 0, .int 0])), (qa, .inl (θ.2.2.2, 16, .inr (.inr (.inr (.inr (va_up (qf ea k) k (some (a 0))))))))] : va_W) ++ evl θ ea V k) ++ evc θ (fun _ => a) 0 e) rfl dX2_init_33 ?_
    refine y_iinc C (v := nI (k + 1)) [(1, .int (nI (k + 1))), (0, .ref h)] dX2_init_34 rfl (z_inc1 k) (by decide) rfl ?_
    refine y_goto C 15 dX2_init_37 (by decide) ?_
    rw [List.append_assoc, evl_up, qf_up]
    have e1 : 1 + 7 * k + 1 + 6 = 1 + 7 * (k + 1) := by omega
    have e2 : 16 + 88 * k + 14 + 74 = 16 + 88 * (k + 1) := by omega
    rw [e1, e2]
    exact ih (va_up ea k a) (va_up V k e)
set_option maxHeartbeats 4000000 in
set_option maxRecDepth 100000 in
theorem c_X2_init (l : Launch) (θ : zH) (h : Nat) : cMk l yX2_init wsX2_init 2 113 1424 θ [.ref h] [(h, .inr (2, [.null, .int 0, .int 0]))] (fun Y => ∃ (qa : Nat) (ea : Nat → Nat → Nat) (V : Nat → Ev), Y = ([(h, .inr (2, [.ref qa, .int 0, .int 0])), (qa, .inl (θ.2.2.2, 16, .inr (.inr (.inr (.inr (qf ea 16))))))] : va_W) ++ evl θ ea V 16) := by
  refine y_cN (by decide) rfl rfl rfl (Nat.le_of_ble_eq_true rfl) (lv := [(0, .ref h)]) rfl (fun κ C hI E => ?_)
  have hinX2 : ∀ w ∈ wsX20, w ∈ wsX2_init := by decide +kernel
  refine y_aload_n C dX2_init_0 rfl (show zlk _ 0 = some (.ref h) from rfl) ?_
  refine y_objInit C (by decide +kernel) (by decide +kernel) (by decide +kernel) (Nat.le_of_ble_eq_true rfl) (Nat.le_of_ble_eq_true rfl) dX2_init_1 ?_
  refine y_aload_n C dX2_init_4 rfl (show zlk _ 0 = some (.ref h) from rfl) ?_
  refine y_bipush C (v := nI 16) dX2_init_5 (by decide) ?_
  refine y_X (Y := ([(h, .inr (2, [.null, .int 0, .int 0]))] : va_W) ++ []) rfl ?_
  refine y_newq C 16 (by decide +kernel) rfl (by decide) (Nat.le_of_ble_eq_true rfl) (Nat.le_of_ble_eq_true rfl) dX2_init_7 (fun q1 => ?_)
  refine y_X (Y := ([(h, .inr (2, [.null, .int 0, .int 0])), (q1, .inl (θ.2.2.2, 16, .inr (.inr (.inr (.inr (fun _ => none))))))] : va_W)) rfl ?_
  refine y_putF C hI hinX2 tyX2 tyX2_ok nmX2 0 rfl rfl 0 (by decide) (by decide +kernel) rfl rfl rfl rfl rfl (Nat.le_of_ble_eq_true rfl) (([(h, .inr (2, [.ref q1, .int 0, .int 0])), (q1, .inl (θ.2.2.2, 16, .inr (.inr (.inr (.inr (fun _ => none))))))] : va_W)) rfl dX2_init_10 ?_
  refine y_iconst C (v := nI 0) dX2_init_13 (by decide) ?_
  refine y_istore_n C [(1, .int (nI 0)), (0, .ref h)] dX2_init_14 rfl (by decide) rfl ?_
  refine y_X (Y := ([(h, .inr (2, [.ref q1, .int 0, .int 0])), (q1, .inl (θ.2.2.2, 16, .inr (.inr (.inr (.inr (qf (fun _ _ => 0) 0))))))] : va_W) ++ evl θ (fun _ _ => 0) (fun _ => ((nI 0, nI 0, nI 0, false, nI 0, 0, 0, 0), ((fun _ => 0), (fun _ => 0), (fun _ => 0), (fun _ => 0), (fun _ => 0), (fun _ => 0)))) 0) ?_ ?_
  · show _ = _
    have e0 : qf (fun _ _ => 0) 0 = fun _ => none := by funext i; simp [qf]
    rw [e0]; rfl
  exact X2_loop C (fun ea V lv => E _ _ _ ⟨q1, ea, V, rfl⟩ dX2_init_40) 0 (by decide) _ _
set_option maxHeartbeats 4000000 in
set_option maxRecDepth 100000 in
theorem c_X4_init (l : Launch) (θ : zH) (h : Nat) : cMk l yX4_init wsX4_init 2 5 265 θ [.ref h] [(h, .inr (4, [.null, .null, .int 0, .int 0, .int 0, .int 0]))] (fun Y => ∃ q1 q2 f1 f2 f3 : Nat, Y = [(h, .inr (4, [.ref q1, .ref q2, .int 0, .int 0, .int 0, .int (-1)])), (q1, .inl (θ.2.1, 240, .inl (fun _ => 0))), (q2, .inr (0, [.int 0, .int 0, .int 0, .int 0, .int 0, .ref f1, .ref f2, .ref f3])), (f1, .inl (θ.2.1, 6, .inl (fun _ => 0))), (f2, .inl (θ.2.1, 5, .inl (fun _ => 0))), (f3, .inl (θ.2.1, 6, .inl (fun _ => 0)))]) := by
  refine y_cN (by decide) rfl rfl rfl (Nat.le_of_ble_eq_true rfl) (lv := [(0, .ref h)]) rfl (fun κ C hI E => ?_)
  have hinX4 : ∀ w ∈ wsX40, w ∈ wsX4_init := by decide +kernel
  have hinX0 : ∀ w ∈ wsX00, w ∈ wsX4_init := by decide +kernel
  refine y_aload_n C dX4_init_0 rfl (show zlk _ 0 = some (.ref h) from rfl) ?_
  refine y_objInit C (by decide +kernel) (by decide +kernel) (by decide +kernel) (Nat.le_of_ble_eq_true rfl) (Nat.le_of_ble_eq_true rfl) dX4_init_1 ?_
  refine y_aload_n C dX4_init_4 rfl (show zlk _ 0 = some (.ref h) from rfl) ?_
  refine y_sipush C (v := nI 240) dX4_init_5 (by decide) ?_
  refine y_X (Y := ([(h, .inr (4, [.null, .null, .int 0, .int 0, .int 0, .int 0]))] : va_W) ++ []) rfl ?_
  refine y_newa C 240 (by decide +kernel) rfl (by decide) (Nat.le_of_ble_eq_true rfl) (Nat.le_of_ble_eq_true rfl) dX4_init_8 (fun q1 => ?_)
  refine y_X (Y := ([(h, .inr (4, [.null, .null, .int 0, .int 0, .int 0, .int 0])), (q1, .inl (θ.2.1, 240, .inl (fun _ => 0)))] : va_W)) rfl ?_
  refine y_putF C hI hinX4 tyX4 tyX4_ok nmX4 0 rfl rfl 0 (by decide) (by decide +kernel) rfl rfl rfl rfl rfl (Nat.le_of_ble_eq_true rfl) (([(h, .inr (4, [.ref q1, .null, .int 0, .int 0, .int 0, .int 0])), (q1, .inl (θ.2.1, 240, .inl (fun _ => 0)))] : va_W)) rfl dX4_init_10 ?_
  refine y_aload_n C dX4_init_13 rfl (show zlk _ 0 = some (.ref h) from rfl) ?_
  refine y_new C (ci := 0) [.int 0, .int 0, .int 0, .int 0, .int 0, .null, .null, .null] hinX0 tyX0 tyX0_ok (by decide +kernel) (by decide +kernel) (by decide +kernel) rfl dfX0 (Nat.le_of_ble_eq_true rfl) (Nat.le_of_ble_eq_true rfl) dX4_init_14 (fun q2 => ?_)
  refine y_dup C dX4_init_17 rfl ?_
  refine y_ctorN C (host := "GnatPortraits") (F := ([(h, .inr (4, [.ref q1, .null, .int 0, .int 0, .int 0, .int 0])), (q1, .inl (θ.2.1, 240, .inl (fun _ => 0)))] : va_W)) (rest := [.ref q2, .ref h]) (c_X0_init l θ q2) gX4_init_X0_init_n17 rfl (by decide +kernel) (by decide +kernel) (by decide +kernel) rfl (by decide +kernel) ⟨Nat.le_of_ble_eq_true rfl, Nat.le_of_ble_eq_true rfl⟩ ⟨Nat.le_of_ble_eq_true rfl, Nat.le_of_ble_eq_true rfl⟩ (Nat.le_of_ble_eq_true rfl) dX4_init_18 (fun Y hY => ?_)
  obtain ⟨f1, f2, f3, rfl⟩ := hY
  refine y_X (Y := ([(h, .inr (4, [.ref q1, .null, .int 0, .int 0, .int 0, .int 0])), (q1, .inl (θ.2.1, 240, .inl (fun _ => 0))), (q2, .inr (0, [.int 0, .int 0, .int 0, .int 0, .int 0, .ref f1, .ref f2, .ref f3])), (f1, .inl (θ.2.1, 6, .inl (fun _ => 0))), (f2, .inl (θ.2.1, 5, .inl (fun _ => 0))), (f3, .inl (θ.2.1, 6, .inl (fun _ => 0)))] : va_W)) rfl ?_
  refine y_putF C hI hinX4 tyX4 tyX4_ok nmX4 0 rfl rfl 1 (by decide) (by decide +kernel) rfl rfl rfl rfl rfl (Nat.le_of_ble_eq_true rfl) (([(h, .inr (4, [.ref q1, .ref q2, .int 0, .int 0, .int 0, .int 0])), (q1, .inl (θ.2.1, 240, .inl (fun _ => 0))), (q2, .inr (0, [.int 0, .int 0, .int 0, .int 0, .int 0, .ref f1, .ref f2, .ref f3])), (f1, .inl (θ.2.1, 6, .inl (fun _ => 0))), (f2, .inl (θ.2.1, 5, .inl (fun _ => 0))), (f3, .inl (θ.2.1, 6, .inl (fun _ => 0)))] : va_W)) rfl dX4_init_21 ?_
  refine y_aload_n C dX4_init_24 rfl (show zlk _ 0 = some (.ref h) from rfl) ?_
  refine y_iconst C (v := (-1)) dX4_init_25 (by decide) ?_
  refine y_put C hinX4 tyX4 tyX4_ok nmX4 0 rfl rfl 5 (by decide) (by decide +kernel) rfl rfl rfl rfl (Nat.le_of_ble_eq_true rfl) (([(h, .inr (4, [.ref q1, .ref q2, .int 0, .int 0, .int 0, .int (-1)])), (q1, .inl (θ.2.1, 240, .inl (fun _ => 0))), (q2, .inr (0, [.int 0, .int 0, .int 0, .int 0, .int 0, .ref f1, .ref f2, .ref f3])), (f1, .inl (θ.2.1, 6, .inl (fun _ => 0))), (f2, .inl (θ.2.1, 5, .inl (fun _ => 0))), (f3, .inl (θ.2.1, 6, .inl (fun _ => 0)))] : va_W)) rfl dX4_init_26 ?_
  exact E _ _ _ ⟨q1, q2, f1, f2, f3, rfl⟩ dX4_init_29
